section
variable {p : Program} {l : Launch} {e : Env} {R : Room} {s : State} {m : MethodId} {args : Array Value} {below : List Frame} {meth : Method} {c : Code} {G : qG} {A : Nat → Prop} {H0 : Heap} {nL : Nat} {Q : State → Prop} {cells slots : Nat} {ws : va_W} {lv : List (Nat × Value)} {pc : Nat} {st : List Value} {cc : ByteArray} {own : String}
theorem qv_alen (C : qC p s m c cc own G A H0 nL) (q0 : Nat) {a n : Nat} {f : Int → Int} (ha : ws[q0]? = some (a, .inl (G.2.1, n, .inl (qA f)))) (hdg : decode cc pc = .ok (.arraylength, 1))
    (k : qV p l e R s m args below meth c G A H0 nL Q cells slots ws lv (pc + 1) (.int (qI (n : Int)) :: st)) : qV p l e R s m args below meth c G A H0 nL Q cells slots ws lv pc (.ref a :: st) :=
  fun H locs ls hP hD hS hl => W.alen (n := qI (n : Int)) C.1 C.2.1 (hP q0 _ ha) ((C.2.2.2.2.1.1.2 0 _ rfl).1 n (fun j => .int (qA f j))) (by
    rw [vp_cell_i, arrV_size, qI_nat (by omega), Int.toNat_natCast]
    rfl) rfl rfl hdg (k H locs ls hP hD hS hl)
end
theorem wcw_type : Cond.codeWith y_L_type b_L_type 6 (some .int) [(0, 11, 14, 13), (0, 11, 18, 15)] ∈ qTbl := q_t2 (List.mem_of_getElem? (i := 181) rfl) rfl
theorem wcw_set : Cond.codeWith y_L_set b_L_set 4 (some .int) [(0, 6, 9, 13)] ∈ qTbl := q_t3 (List.mem_of_getElem? (i := 39) rfl) rfl
theorem wcw_start : Cond.codeWith y_L_start b_L_start 2 (some .int) [(0, 4, 7, 24)] ∈ qTbl := q_t3 (List.mem_of_getElem? (i := 48) rfl) rfl
theorem wcw_run : Cond.codeWith y_L_run b_L_run 4 (some .int) [(0, 9, 12, 24), (0, 9, 15, 13)] ∈ qTbl := q_t3 (List.mem_of_getElem? (i := 72) rfl) rfl
theorem wcw_plain : Cond.codeWith y_L_plain b_L_plain 4 (some .int) [(0, 9, 12, 24), (0, 9, 15, 13)] ∈ qTbl := q_t3 (List.mem_of_getElem? (i := 97) rfl) rfl
theorem wcw_seek : Cond.codeWith y_L_seek b_L_seek 5 (some .int) [(0, 9, 12, 24), (0, 9, 16, 13), (0, 9, 20, 15)] ∈ qTbl := q_t3 (List.mem_of_getElem? (i := 106) rfl) rfl
theorem wcw_change : Cond.codeWith y_L_change b_L_change 5 (some .int) [(0, 10, 13, 41), (0, 10, 17, 15)] ∈ qTbl := q_t3 (List.mem_of_getElem? (i := 123) rfl) rfl

theorem wj_max_s : Cond.static Lib.Math.max.name ∈ qTbl := q_t2 (List.mem_of_getElem? (i := 59) rfl) rfl
theorem wj_max_c : Cond.code Lib.Math.max.name Lib.Math.max.code 2 (some .int) ∈ qTbl := q_t2 (List.mem_of_getElem? (i := 60) rfl) rfl
theorem wj_min_s : Cond.static Lib.Math.min.name ∈ qTbl := q_t2 (List.mem_of_getElem? (i := 120) rfl) rfl
theorem wj_min_c : Cond.code Lib.Math.min.name Lib.Math.min.code 2 (some .int) ∈ qTbl := q_t2 (List.mem_of_getElem? (i := 121) rfl) rfl
theorem wj_minl_s : Cond.static Lib.MathLoose.min_long.x ∈ qTbl := q_t2 (List.mem_of_getElem? (i := 141) rfl) rfl
theorem wj_minl_c : Cond.code Lib.MathLoose.min_long.x Lib.MathLoose.min_long.code 4 (some .long) ∈ qTbl := q_t2 (List.mem_of_getElem? (i := 142) rfl) rfl
theorem wj_copy_s : Cond.static arraycopyName ∈ qTbl := q_t2 (List.mem_of_getElem? (i := 70) rfl) rfl
theorem wj_copy_n : Cond.native arraycopyName ∈ qTbl := q_t2 (List.mem_of_getElem? (i := 71) rfl) rfl
theorem wj_obj_i : Cond.instanceMethod objectInit ∈ qTbl := q_t1 (List.mem_of_getElem? (i := 22) rfl) rfl
theorem wj_obj_c : Cond.code objectInit ⟨#[0xb1]⟩ 1 none ∈ qTbl := q_t1 (List.mem_of_getElem? (i := 23) rfl) rfl
section
variable {p : Program} {l : Launch} {e : Env} {R : Room} {s : State} {m : MethodId} {args : Array Value} {below : List Frame} {meth : Method} {c : Code} {G : qG} {A : Nat → Prop} {H0 : Heap} {nL : Nat} {Q : State → Prop} {cells slots : Nat} {ws : va_W} {lv : List (Nat × Value)} {pc : Nat} {st rest : List Value} {cc : ByteArray} {own : String}
theorem qI_max {x y : Int} (hx : -2147483648 ≤ x ∧ x ≤ 2147483647) (hy : -2147483648 ≤ y ∧ y ≤ 2147483647) : (if qI x < qI y then qI y else qI x) = qI (max x y) := by
  by_cases h : x < y
  · rw [if_pos ((qI_lt hx hy).mpr h), Int.max_eq_right (by omega)]
  · rw [if_neg (fun q => h ((qI_lt hx hy).mp q)), Int.max_eq_left (by omega)]
theorem qI_min {x y : Int} (hx : -2147483648 ≤ x ∧ x ≤ 2147483647) (hy : -2147483648 ≤ y ∧ y ≤ 2147483647) : (if qI y < qI x then qI y else qI x) = qI (min x y) := by
  by_cases h : y < x
  · rw [if_pos ((qI_lt hy hx).mpr h), Int.min_eq_right (by omega)]
  · rw [if_neg (fun q => h ((qI_lt hy hx).mp q)), Int.min_eq_left (by omega)]
theorem qL_min {x y : Int} (hx : -9223372036854775808 ≤ x ∧ x ≤ 9223372036854775807) (hy : -9223372036854775808 ≤ y ∧ y ≤ 9223372036854775807) : (if qL y < qL x then qL y else qL x) = qL (min x y) := by
  by_cases h : y < x
  · rw [if_pos ((qL_lt hy hx).mpr h), Int.min_eq_right (by omega)]
  · rw [if_neg (fun q => h ((qL_lt hy hx).mp q)), Int.min_eq_left (by omega)]
theorem qv_max (C : qC p s m c cc own G A H0 nL) {index : Nat} {x y : Int} (hlk : Cond.methodLink own index Lib.Math.max.name ∈ qTbl) (hx : -2147483648 ≤ x ∧ x ≤ 2147483647) (hy : -2147483648 ≤ y ∧ y ≤ 2147483647) (h1 : 1 ≤ R.frames) (h2 : (st.map fun v => v.category).sum + 13 ≤ R.locals) (h3 : cells ≤ R.cells ∧ slots ≤ R.slots) (hdg : decode cc pc = .ok (.invokestatic index, 3))
    (k : qV p l e R s m args below meth c G A H0 nL Q cells slots ws lv (pc + 3) (.int (qI (max x y)) :: st)) : qV p l e R s m args below meth c G A H0 nL Q cells slots ws lv pc (.int (qI y) :: .int (qI x) :: st) :=
  fun H locs ls hP hD hS hl => va_mmax C.1 C.2.1 (C.2.2.1.trans hl.1.symm) C.2.2.2.1 (C.2.2.2.2.1.word hlk) (C.2.2.2.2.1.word wj_max_s) (C.2.2.2.2.1.word wn_Math) (C.2.2.2.2.1.word wj_max_c) h1 h2 h3.1 h3.2 hdg (by rw [qI_max hx hy]; exact k H locs ls hP hD hS hl)
theorem qv_min (C : qC p s m c cc own G A H0 nL) {index : Nat} {x y : Int} (hlk : Cond.methodLink own index Lib.Math.min.name ∈ qTbl) (hx : -2147483648 ≤ x ∧ x ≤ 2147483647) (hy : -2147483648 ≤ y ∧ y ≤ 2147483647) (h1 : 1 ≤ R.frames) (h2 : (st.map fun v => v.category).sum + 13 ≤ R.locals) (h3 : cells ≤ R.cells ∧ slots ≤ R.slots) (hdg : decode cc pc = .ok (.invokestatic index, 3))
    (k : qV p l e R s m args below meth c G A H0 nL Q cells slots ws lv (pc + 3) (.int (qI (min x y)) :: st)) : qV p l e R s m args below meth c G A H0 nL Q cells slots ws lv pc (.int (qI y) :: .int (qI x) :: st) :=
  fun H locs ls hP hD hS hl => va_mmin C.1 C.2.1 (C.2.2.1.trans hl.1.symm) C.2.2.2.1 (C.2.2.2.2.1.word hlk) (C.2.2.2.2.1.word wj_min_s) (C.2.2.2.2.1.word wn_Math) (C.2.2.2.2.1.word wj_min_c) h1 h2 h3.1 h3.2 hdg (by rw [qI_min hx hy]; exact k H locs ls hP hD hS hl)
theorem qv_minl (C : qC p s m c cc own G A H0 nL) {index : Nat} {x y : Int} (hlk : Cond.methodLink own index Lib.MathLoose.min_long.x ∈ qTbl) (hx : -9223372036854775808 ≤ x ∧ x ≤ 9223372036854775807) (hy : -9223372036854775808 ≤ y ∧ y ≤ 9223372036854775807) (h1 : 1 ≤ R.frames) (h2 : (st.map fun v => v.category).sum + 15 ≤ R.locals) (h3 : cells ≤ R.cells ∧ slots ≤ R.slots) (hdg : decode cc pc = .ok (.invokestatic index, 3))
    (k : qV p l e R s m args below meth c G A H0 nL Q cells slots ws lv (pc + 3) (.long (qL (min x y)) :: st)) : qV p l e R s m args below meth c G A H0 nL Q cells slots ws lv pc (.long (qL y) :: .long (qL x) :: st) :=
  fun H locs ls hP hD hS hl => va_mmin_long C.1 C.2.1 (C.2.2.1.trans hl.1.symm) C.2.2.2.1 (C.2.2.2.2.1.word hlk) (C.2.2.2.2.1.word wj_minl_s) (C.2.2.2.2.1.word wn_Math) (C.2.2.2.2.1.word wj_minl_c) h1 h2 h3.1 h3.2 hdg (by rw [qL_min hx hy]; exact k H locs ls hP hD hS hl)
theorem qA_cpy {f g : Int → Int} (h : ∀ j : Int, ¬ (0 ≤ j ∧ j < 8) → f j = g j) : va_cpy (qA f) (qA g) (qI 0).toNatClampNeg (qI 0).toNatClampNeg (qI 8).toNatClampNeg = qA f := by
  funext j
  show (if 0 ≤ j ∧ j < 0 + 8 then qA f (0 + (j - 0)) else qA g j) = qA f j
  by_cases hj : 0 ≤ j ∧ j < 0 + 8
  · rw [if_pos hj, Nat.zero_add, Nat.sub_zero]
  · rw [if_neg hj]
    unfold qA
    rw [h j (by omega)]
theorem qv_copy8 (C : qC p s m c cc own G A H0 nL) {index a a0 : Nat} {f g : Int → Int} (q0 q1 : Nat) (ha0 : ws[q0]? = some (a0, .inl (G.2.1, 8, .inl (qA f)))) (ha1 : ws[q1]? = some (a, .inl (G.2.1, 8, .inl (qA g)))) (hfg : ∀ j : Int, ¬ (0 ≤ j ∧ j < 8) → f j = g j) (hlk : Cond.methodLink own index arraycopyName ∈ qTbl) (h1 : 1 ≤ R.frames) (h2 : (st.map fun v => v.category).sum + (nativeFrameWords "java/lang/System" "arraycopy" 5 + 11) ≤ R.locals) (hdg : decode cc pc = .ok (.invokestatic index, 3)) {ws' : va_W} (hws : ws.set q1 (a, .inl (G.2.1, 8, .inl (qA f))) = ws')
    (k : qV p l e R s m args below meth c G A H0 nL Q cells slots (ws') lv (pc + 3) st) : qV p l e R s m args below meth c G A H0 nL Q cells slots ws lv pc (.int (qI 8) :: .int (qI 0) :: .ref a :: .int (qI 0) :: .ref a0 :: st) :=
  fun H locs ls hP hD hS hl => va_copyi (D := G.1) C.1 C.2.1 (C.2.2.1.trans hl.1.symm) C.2.2.2.1 (C.2.2.2.2.1.word hlk) (C.2.2.2.2.1.word wj_copy_n) (C.2.2.2.2.1.word wj_copy_s) (C.2.2.2.2.1.word wn_System) C.2.2.2.2.1.1 hP hD hS q0 q1 0 0 ha0 ha1 rfl rfl rfl (by decide) (by decide) (by decide) (by decide) (by decide) (fun _ _ => rfl) h1 h2 hdg (fun H1 locs1 hP1 hD1 hS1 => k H1 locs1 ls (by rw [qA_cpy hfg, hws] at hP1; exact hP1) (by rw [qA_cpy hfg, hws] at hD1; exact hD1) hS1 hl)
theorem qv_obj (C : qC p s m c cc own G A H0 nL) {index a : Nat} (hlk : Cond.methodLink own index objectInit ∈ qTbl) (h1 : 1 ≤ R.frames) (h2 : (st.map fun v => v.category).sum + 12 ≤ R.locals) (hdg : decode cc pc = .ok (.invokespecial index, 3))
    (k : qV p l e R s m args below meth c G A H0 nL Q cells slots ws lv (pc + 3) st) : qV p l e R s m args below meth c G A H0 nL Q cells slots ws lv pc (.ref a :: st) :=
  fun H locs ls hP hD hS hl => W.objInit C.1 C.2.1 C.2.2.2.1 (C.2.2.2.2.1.word hlk) (C.2.2.2.2.1.word wj_obj_i) (C.2.2.2.2.1.word wj_obj_c) (g := F0 m pc ls (.ref a :: st)) rfl (hl.1.trans C.2.2.1.symm) rfl hdg h1 (by show 2 * 0 + _ + 12 ≤ _; omega) (k H locs ls hP hD hS hl)
theorem qv_new (C : qC p s m c cc own G A H0 nL) {Cn : String} {T : u_T} {N ci index : Nat} {fs : List Value} (hin : ∀ w ∈ u_ws Cn T N, w ∈ qTbl) (ty0 : Nat → FieldType) (hty : ∀ k, k < N → parseFieldDescriptor (T k).2.2.1 = some (ty0 k)) (hcl : Cond.classLink own index Cn ∈ qTbl) (hinst : Cond.instantiable Cn N ∈ qTbl) (hini : Cond.initialized Cn ∈ qTbl) (hc : vwCl[ci]? = some (Cn, T, N)) (hfs : ∀ j, j < N → defaultValue (ty0 j) = vp_V fs j) (hf : cells + 1 ≤ R.cells ∧ slots + N ≤ R.slots) (hdg : decode cc pc = .ok (.new index, 3))
    (k : ∀ q : Nat, qV p l e R s m args below meth c G A H0 nL Q (cells + 1) (slots + N) (ws ++ [(q, .inr (ci, fs))]) lv (pc + 3) (.ref q :: st)) : qV p l e R s m args below meth c G A H0 nL Q cells slots ws lv pc st :=
  fun H locs ls hP hD hS hl => va_new (D := G.1) C.1 C.2.1 (fun w h => C.2.2.2.2.1.word (hin w h)) (fun w h => h) ty0 hty C.2.2.2.1 (C.2.2.2.2.1.word hcl) (C.2.2.2.2.1.word hinst) (C.2.2.2.2.1.word hini) C.2.2.2.2.1.1 hP hD hS C.2.2.2.2.2 hc hfs hf.1 hf.2 hdg (fun q H1 hP1 hD1 hS1 => k q H1 locs ls hP1 hD1 hS1 hl)
theorem qv_newai (C : qC p s m c cc own G A H0 nL) {n : Int} {N : Nat} (hn : 0 ≤ n ∧ n ≤ 2147483647) (hN : n.toNat = N) (hb9 : N * componentBytes .int ≤ 536870912) (hf : cells + 1 ≤ R.cells ∧ slots + N ≤ R.slots) (hdg : decode cc pc = .ok (.newarray .int, 2))
    (k : ∀ q : Nat, qV p l e R s m args below meth c G A H0 nL Q (cells + 1) (slots + N) (ws ++ [(q, .inl (G.2.1, N, .inl (qA (fun _ => 0))))]) lv (pc + 2) (.ref q :: st)) : qV p l e R s m args below meth c G A H0 nL Q cells slots ws lv pc (.int (qI n) :: st) :=
  fun H locs ls hP hD hS hl => va_newa (atype := .int) (D := G.1) (ty := .int) (N' := N) (a0 := (N, .inl (qA (fun _ => 0)))) C.1 C.2.1 (C.2.2.2.2.1.2.2 .int (by simp) args) rfl C.2.2.2.2.1.1 hP hD hS C.2.2.2.2.2 (fun cA => rfl) (by
    intro h
    have h2 := (qI_lt (a := n) (b := 0) (by omega) qI_r0).mp h
    omega) (by
    have h3 := qI_cl hn
    omega) hb9 hf.1 hf.2 hdg (fun q cA H1 hK1 hP1 hD1 hS1 => by
    have e1 := (hK1.2 4 (cA, .int) rfl).2
    have e2 := (hK1.2 0 (G.2.1, .int) rfl).2
    have q1 : s.vm.findClass ("[" ++ FieldType.toString .int) = some cA := e1
    have q2 : s.vm.findClass ("[" ++ FieldType.toString .int) = some G.2.1 := e2
    rw [q1] at q2
    have e3 : cA = G.2.1 := Option.some.inj q2
    rw [e3] at hP1 hD1
    exact k q H1 locs ls hP1 hD1 hS1 hl)
theorem qv_newac (C : qC p s m c cc own G A H0 nL) {n : Int} {N : Nat} (hn : 0 ≤ n ∧ n ≤ 2147483647) (hN : n.toNat = N) (hb9 : N * componentBytes .char ≤ 536870912) (hf : cells + 1 ≤ R.cells ∧ slots + N ≤ R.slots) (hdg : decode cc pc = .ok (.newarray .char, 2))
    (k : ∀ q : Nat, qV p l e R s m args below meth c G A H0 nL Q (cells + 1) (slots + N) (ws ++ [(q, .inl (G.2.2.1, N, .inl (qA (fun _ => 0))))]) lv (pc + 2) (.ref q :: st)) : qV p l e R s m args below meth c G A H0 nL Q cells slots ws lv pc (.int (qI n) :: st) :=
  fun H locs ls hP hD hS hl => va_newa (atype := .char) (D := G.1) (ty := .char) (N' := N) (a0 := (N, .inl (qA (fun _ => 0)))) C.1 C.2.1 (C.2.2.2.2.1.2.2 .char (by simp) args) rfl C.2.2.2.2.1.1 hP hD hS C.2.2.2.2.2 (fun cA => rfl) (by
    intro h
    have h2 := (qI_lt (a := n) (b := 0) (by omega) qI_r0).mp h
    omega) (by
    have h3 := qI_cl hn
    omega) hb9 hf.1 hf.2 hdg (fun q cA H1 hK1 hP1 hD1 hS1 => by
    have e1 := (hK1.2 4 (cA, .char) rfl).2
    have e2 := (hK1.2 1 (G.2.2.1, .char) rfl).2
    have q1 : s.vm.findClass ("[" ++ FieldType.toString .char) = some cA := e1
    have q2 : s.vm.findClass ("[" ++ FieldType.toString .char) = some G.2.2.1 := e2
    rw [q1] at q2
    have e3 : cA = G.2.2.1 := Option.some.inj q2
    rw [e3] at hP1 hD1
    exact k q H1 locs ls hP1 hD1 hS1 hl)
theorem qv_newaz (C : qC p s m c cc own G A H0 nL) {n : Int} {N : Nat} (hn : 0 ≤ n ∧ n ≤ 2147483647) (hN : n.toNat = N) (hb9 : N * componentBytes .boolean ≤ 536870912) (hf : cells + 1 ≤ R.cells ∧ slots + N ≤ R.slots) (hdg : decode cc pc = .ok (.newarray .boolean, 2))
    (k : ∀ q : Nat, qV p l e R s m args below meth c G A H0 nL Q (cells + 1) (slots + N) (ws ++ [(q, .inl (G.2.2.2.1, N, .inl (qA (fun _ => 0))))]) lv (pc + 2) (.ref q :: st)) : qV p l e R s m args below meth c G A H0 nL Q cells slots ws lv pc (.int (qI n) :: st) :=
  fun H locs ls hP hD hS hl => va_newa (atype := .boolean) (D := G.1) (ty := .boolean) (N' := N) (a0 := (N, .inl (qA (fun _ => 0)))) C.1 C.2.1 (C.2.2.2.2.1.2.2 .boolean (by simp) args) rfl C.2.2.2.2.1.1 hP hD hS C.2.2.2.2.2 (fun cA => rfl) (by
    intro h
    have h2 := (qI_lt (a := n) (b := 0) (by omega) qI_r0).mp h
    omega) (by
    have h3 := qI_cl hn
    omega) hb9 hf.1 hf.2 hdg (fun q cA H1 hK1 hP1 hD1 hS1 => by
    have e1 := (hK1.2 4 (cA, .boolean) rfl).2
    have e2 := (hK1.2 2 (G.2.2.2.1, .boolean) rfl).2
    have q1 : s.vm.findClass ("[" ++ FieldType.toString .boolean) = some cA := e1
    have q2 : s.vm.findClass ("[" ++ FieldType.toString .boolean) = some G.2.2.2.1 := e2
    rw [q1] at q2
    have e3 : cA = G.2.2.2.1 := Option.some.inj q2
    rw [e3] at hP1 hD1
    exact k q H1 locs ls hP1 hD1 hS1 hl)
theorem qv_newal (C : qC p s m c cc own G A H0 nL) {n : Int} {N : Nat} (hn : 0 ≤ n ∧ n ≤ 2147483647) (hN : n.toNat = N) (hb9 : N * componentBytes .long ≤ 536870912) (hf : cells + 1 ≤ R.cells ∧ slots + N ≤ R.slots) (hdg : decode cc pc = .ok (.newarray .long, 2))
    (k : ∀ q : Nat, qV p l e R s m args below meth c G A H0 nL Q (cells + 1) (slots + N) (ws ++ [(q, .inl (G.2.2.2.2, N, .inr (.inl (qAl (fun _ => 0)))))]) lv (pc + 2) (.ref q :: st)) : qV p l e R s m args below meth c G A H0 nL Q cells slots ws lv pc (.int (qI n) :: st) :=
  fun H locs ls hP hD hS hl => va_newa (atype := .long) (D := G.1) (ty := .long) (N' := N) (a0 := (N, .inr (.inl (qAl (fun _ => 0))))) C.1 C.2.1 (C.2.2.2.2.1.2.2 .long (by simp) args) rfl C.2.2.2.2.1.1 hP hD hS C.2.2.2.2.2 (fun cA => rfl) (by
    intro h
    have h2 := (qI_lt (a := n) (b := 0) (by omega) qI_r0).mp h
    omega) (by
    have h3 := qI_cl hn
    omega) hb9 hf.1 hf.2 hdg (fun q cA H1 hK1 hP1 hD1 hS1 => by
    have e1 := (hK1.2 4 (cA, .long) rfl).2
    have e2 := (hK1.2 3 (G.2.2.2.2, .long) rfl).2
    have q1 : s.vm.findClass ("[" ++ FieldType.toString .long) = some cA := e1
    have q2 : s.vm.findClass ("[" ++ FieldType.toString .long) = some G.2.2.2.2 := e2
    rw [q1] at q2
    have e3 : cA = G.2.2.2.2 := Option.some.inj q2
    rw [e3] at hP1 hD1
    exact k q H1 locs ls hP1 hD1 hS1 hl)
end

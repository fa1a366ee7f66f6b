theorem qI_zero {z : Int} (h : -4294967296 < z ∧ z < 4294967296) : qI z = 0 ↔ z = 0 := by
  constructor
  · intro q
    have h1 : (qI z).toInt = 0 := by rw [q]; rfl
    unfold qI at h1
    rw [Int32.toInt_ofInt] at h1
    have h2 : (z.bmod 4294967296) = 0 := h1
    rw [Int.bmod_def] at h2
    split at h2 <;> omega
  · rintro rfl
    rfl
section
variable {p : Program} {l : Launch} {e : Env} {R : Room} {s : State} {m : MethodId} {args : Array Value} {below : List Frame} {meth : Method} {c : Code} {G : qG} {A : Nat → Prop} {H0 : Heap} {nL : Nat} {Q : State → Prop} {cells slots : Nat} {ws : va_W} {lv : List (Nat × Value)} {pc : Nat} {st rest : List Value} {cc : ByteArray} {own : String}
theorem qv_ifw_ne (C : qC p s m c cc own G A H0 nL) {x : Int} {off : Int} {tgt : Nat} (hdg : decode cc pc = .ok (.ifCond .ne off, 3)) (ht : (pc : Int) + off = (tgt : Int)) (hx : -4294967296 < x ∧ x < 4294967296)
    (kt : ¬ x = 0 → qV p l e R s m args below meth c G A H0 nL Q cells slots ws lv tgt st) (kf : x = 0 → qV p l e R s m args below meth c G A H0 nL Q cells slots ws lv (pc + 3) st) : qV p l e R s m args below meth c G A H0 nL Q cells slots ws lv pc (.int (qI x) :: st) :=
  fun H locs ls hP hD hS hl => lv_if_ne C.1 C.2.1 hdg ht (fun h => kt (fun z => h ((qI_zero hx).mpr z)) H locs ls hP hD hS hl) (fun h => kf ((qI_zero hx).mp h) H locs ls hP hD hS hl)
end

/-! the script -/
def m_scr (xs : Nat → Int32) (i : Int) : Int := (xs i.toNat).toInt
theorem m_scr_rg (xs : Nat → Int32) (i : Int) : -2147483648 ≤ m_scr xs i ∧ m_scr xs i ≤ 2147483647 := qI_rx _
section
variable {p : Program} {l : Launch} {e : Env} {R : Room} {s : State} {m : MethodId} {args : Array Value} {below : List Frame} {meth : Method} {c : Code} {G : qG} {A : Nat → Prop} {H0 : Heap} {nL : Nat} {Q : State → Prop} {cells slots : Nat} {ws : va_W} {lv : List (Nat × Value)} {pc : Nat} {st : List Value} {cc : ByteArray} {own : String}
theorem qv_sld (C : qC p s m c cc own G A H0 nL) {b L : Nat} {xs : Nat → Int32} (hX : va_X b L xs s H0) (hbl : b < H0.size) (hbA : ¬ A b) {i : Int} (hi : 0 ≤ i ∧ i < L ∧ i ≤ 2147483647) (hdg : decode cc pc = .ok (.iaload, 1))
    (k : qV p l e R s m args below meth c G A H0 nL Q cells slots ws lv (pc + 1) (.int (qI (m_scr xs i)) :: st)) : qV p l e R s m args below meth c G A H0 nL Q cells slots ws lv pc (.int (qI i) :: .ref b :: st) :=
  fun H locs ls hP hD hS hl => va_sld C.1 C.2.1 hX hbl hbA hS (qI_in hi) hdg (by
    have h1 : (qI i).toNatClampNeg = i.toNat := by have := qI_cl (i := i) ⟨hi.1, hi.2.2⟩; omega
    have h2 : qI (m_scr xs i) = xs i.toNat := qI_of _
    rw [h1, ← h2]
    exact k H locs ls hP hD hS hl)
theorem qv_slen (C : qC p s m c cc own G A H0 nL) {b L : Nat} {xs : Nat → Int32} (hX : va_X b L xs s H0) (hbl : b < H0.size) (hbA : ¬ A b) (hdg : decode cc pc = .ok (.arraylength, 1))
    (k : qV p l e R s m args below meth c G A H0 nL Q cells slots ws lv (pc + 1) (.int (qI (L : Int)) :: st)) : qV p l e R s m args below meth c G A H0 nL Q cells slots ws lv pc (.ref b :: st) :=
  fun H locs ls hP hD hS hl => va_slen C.1 C.2.1 hX hbl hbA hS hdg (by
    have h2 : Int32.ofNat L = qI (L : Int) := by rw [qI_nat (by omega), Int.toNat_natCast]; rfl
    first | (rw [h2]; exact k H locs ls hP hD hS hl) | exact h2 ▸ k H locs ls hP hD hS hl)
end

/-! the law's helpers: methods with handlers, which never throw -/
def qtab (h : ExceptionTableEntry) : Nat × Nat × Nat × Nat := (h.startPc, h.endPc, h.handlerPc, h.catchType)
def qH (l : Launch) (G : qG) (y : MethodName) (cc : ByteArray) (nL : Nat) (ret : Option FieldType) (tb : List (Nat × Nat × Nat × Nat)) (rm : Room) (av : List Value) (ws : va_W) (post : Option Value → va_W → Prop) : Prop :=
  ∀ (p : Program) (e : Env) (s : State) (m : MethodId) (below : List Frame) (meth : Method) (c : Code) (T : State), Stand p l e rm s m av.toArray below meth c T [] 0 0 → T.heap = s.heap → p.tables.exec = Jvm.exec → c.code = cc → c.maxLocals = nL → c.exceptionTable.toList.map qtab = tb → meth.sig.returnType = ret → meth.locks = false → meth.name = y.name → s.vm.findClass y.cls = some m.cls → e.platform.stackTraces = false → va_P G.1 vwCl ws s.heap → va_D (fun _ => True) ws → qK G s → qE (va_A ws s.heap.size) s →
    ∃ t, Steps p.tables e below (T.setTop (entryFrame m av.toArray nL)) t ∧ MQ below (qQ G (va_A ws s.heap.size) post) av.toArray s rm.cells rm.slots (va_A ws s.heap.size) t
section
variable {l : Launch} {G : qG} {nL : Nat} {cc : ByteArray} {ws : va_W}
theorem qH.of {y : MethodName} {ret : Option FieldType} {tb : List (Nat × Nat × Nat × Nat)} {rm : Room} {av : List Value} {post : Option Value → va_W → Prop} (hn : (lg_sl av).length ≤ nL)
    (body : ∀ (p : Program) (e : Env) (s : State) (m : MethodId) (below : List Frame) (meth : Method) (c : Code) (A : Nat → Prop), qC p s m c cc y.cls G A s.heap nL → meth.sig.returnType = ret → meth.locks = false → meth.name = y.name → c.exceptionTable.toList.map qtab = tb → e.platform.stackTraces = false → qE A s →
      qV p l e rm s m av.toArray below meth c G A s.heap nL (MQ below (qQ G A post) av.toArray s rm.cells rm.slots A) 0 0 ws (lv_args 0 av) 0 []) : qH l G y cc nL ret tb rm av ws post := by
  intro p e s m below meth c T X hT h1 h2 h3 h4 h5 h6 h7 h8 h9 hP hD0 hK hE
  rw [lg_entry_eq]
  exact body p e s m below meth c (va_A ws s.heap.size) ⟨h1, h2, h3, h8, hK, fun q h => Or.inr h⟩ h5 h6 h7 h4 h9 hE s.heap [] _ hP hD0.self va_S.rf (lv_entry av hn) T hT X
end
theorem qx_cov {x : ExceptionTableEntry} {a b hp ct pc : Nat} (h : qtab x = (a, b, hp, ct)) (h2 : a ≤ pc ∧ pc < b) : covers x pc = true ∧ x.handlerPc = hp ∧ x.catchType = ct := by
  unfold qtab at h
  simp only [Prod.mk.injEq] at h
  obtain ⟨h1, h3, h4, h5⟩ := h
  refine ⟨?_, h4, h5⟩
  simp only [covers, Bool.and_eq_true, decide_eq_true_eq]
  omega
theorem qx_self {A : Nat → Prop} {s : State} (h : qE A s) {E : String} (hE : (Cond.castable E E) ∈ qXw) : ∀ cE cN, s.vm.findClass E = some cE → s.vm.findClass E = some cN → s.vm.assignable cE cN = true := by
  intro cE cN h1 h2
  obtain ⟨c, t, g1, g2, g3⟩ := Cond.castable_spec (h.1 s (State.WarmedH.refl s) (fun _ _ _ => rfl) _ hE #[])
  cases h1.symm.trans g1
  cases h2.symm.trans g2
  exact g3
section
variable {s : State} {own E' : String} {tab : List ExceptionTableEntry} {pc : Nat} {P : Nat → Prop}
/-- what a handler's row asks -/
abbrev qx_K (s : State) (own E' : String) (tab : List ExceptionTableEntry) (pc : Nat) (P : Nat → Prop) : Prop := ∃ (es : List (ExceptionTableEntry × String)) (x : ExceptionTableEntry) (nm : String) (tlr : List ExceptionTableEntry), tab = es.map (·.1) ++ x :: tlr ∧ covers x pc = true ∧ x.catchType ≠ 0 ∧ Cond.classLink own x.catchType nm ∈ qTbl ∧ (∀ cE cN, s.vm.findClass E' = some cE → s.vm.findClass nm = some cN → s.vm.assignable cE cN = true) ∧
      (∀ z ∈ es, covers z.1 pc = true ∧ z.1.catchType ≠ 0 ∧ Cond.classLink own z.1.catchType z.2 ∈ qTbl ∧ ∀ cE cN, s.vm.findClass E' = some cE → s.vm.findClass z.2 = some cN → s.vm.assignable cE cN = false) ∧ P x.handlerPc
theorem qx_h {tb : List (Nat × Nat × Nat × Nat)} (ht : tab.map qtab = tb) (ns : List String) (j : Nat) {a b hp ct : Nat} (hj : tb[j]? = some (a, b, hp, ct)) (hin : a ≤ pc ∧ pc < b) (h0 : ct ≠ 0) (hl : Cond.classLink own ct E' ∈ qTbl) (hs : ∀ cE cN, s.vm.findClass E' = some cE → s.vm.findClass E' = some cN → s.vm.assignable cE cN = true)
    (hb : ∀ i, i < j → ∃ a' b' hp' ct' N, tb[i]? = some (a', b', hp', ct') ∧ (a' ≤ pc ∧ pc < b') ∧ ct' ≠ 0 ∧ Cond.classLink own ct' N ∈ qTbl ∧ ∀ cE cN, s.vm.findClass E' = some cE → s.vm.findClass N = some cN → s.vm.assignable cE cN = false) (hP : P hp) : qx_K s own E' tab pc P := by
  induction tab generalizing tb j with
  | nil =>
    subst ht
    cases hj
  | cons x tab ih =>
    subst ht
    cases j with
    | zero =>
      have hx : qtab x = (a, b, hp, ct) := Option.some.inj hj
      obtain ⟨h1, h2, h3⟩ := qx_cov hx hin
      refine ⟨[], x, E', tab, rfl, h1, by rw [h3]; exact h0, by rw [h3]; exact hl, hs, (fun z hz => by cases hz), by rw [h2]; exact hP⟩
    | succ j =>
      obtain ⟨a', b', hp', ct', N, e1, e2, e3, e4, e5⟩ := hb 0 (Nat.succ_pos j)
      have hx : qtab x = (a', b', hp', ct') := Option.some.inj e1
      obtain ⟨h1, h2, h3⟩ := qx_cov hx e2
      obtain ⟨es, x2, nm, tlr, f1, f2, f3, f4, f5, f6, f7⟩ := ih rfl j hj (fun i hi => hb (i + 1) (by omega))
      refine ⟨(x, N) :: es, x2, nm, tlr, by rw [f1]; rfl, f2, f3, f4, f5, fun z hz => ?_, f7⟩
      rcases List.mem_cons.mp hz with rfl | hz
      · exact ⟨h1, by rw [h3]; exact e3, by rw [h3]; exact e4, e5⟩
      · exact f6 z hz
end
theorem m_pl_n {n : Int} {k r t : Int → Int} : ∀ (f : Nat) (j pl st : Int) (v : Int → Int), j ≤ (m_pl n k r t f j pl st v).1 ∧ (m_pl n k r t f j pl st v).1 ≤ j + f
  | 0, j, pl, st, v => by
    rw [m_pl]
    dsimp only
    omega
  | f + 1, j, pl, st, v => by
    by_cases h : m_go n k r pl st v
    · rw [m_pl_go h]
      have := m_pl_n (n := n) (k := k) (r := r) (t := t) f (j + 1) (m_sp k r t pl v) (st + 1) (m_sv k r pl v)
      omega
    · rw [m_pl_stop h]
      dsimp only
      omega

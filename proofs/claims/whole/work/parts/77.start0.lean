/-! the words of exceptions, at the law's start and behind it -/
theorem qXw_vm {s U : State} (hW : s.WarmedH U.vm) {w : Cond} (hf : w.keepsFace = true) {a : Array Value} (h : w.before a s = true) : w.before a (s.setVm U.vm) = true := Cond.before_shiftedFace (State.Shifted.of_warmed hW) _ hf h
theorem qXw_cast {s U : State} (hW : s.WarmedH U.vm) {A B : String} {a : Array Value} (h : (Cond.castable A B).before #[] s = true) : (Cond.castable A B).before a U = true := by
  obtain ⟨c, t, h1, h2, h3⟩ := Cond.castable_spec h
  have g1 : U.vm.findClass A = some c := by rw [hW.alike.findClass]; exact h1
  have g2 : U.vm.findClass B = some t := by rw [hW.alike.findClass]; exact h2
  have g3 : U.vm.assignable c t = true := by rw [hW.alike.assignable]; exact h3
  simp [Cond.before, Cond.holds, Cond.value, g1, g2, g3]
theorem qXw_dec {s U : State} (hW : s.WarmedH U.vm) {y : MethodName} {a : Array Value} (h : (Cond.declares y).before #[] s = true) : (Cond.declares y).before a U = true :=
  qXw_vm hW (w := .declares y) rfl h
theorem qXw_st {s U : State} (hW : s.WarmedH U.vm) (hh : ∀ (q : Nat) (cell : Cell), s.heap[q]? = some cell → cell.vm.isStatics = true → U.heap[q]? = s.heap[q]?) {o n d : String} {a : Array Value} (h : (Cond.laysStatic o n d).before #[] s = true) : (Cond.laysStatic o n d).before a U = true ∧ ((Cond.isRef (.static o n d)).before #[] s = true → (Cond.isRef (.static o n d)).before a U = true) := by
  obtain ⟨c, k, i, f, ad, cell, h1, h2, h3, h4, h5, h6, h7, h8, h9⟩ := Cond.laysStatic_spec (qXw_vm hW (w := .laysStatic o n d) rfl h)
  have g1 : U.vm.findClass o = some c := h1
  have g2 : U.fieldFound? o n d = some (c, k, i, f) := h2
  have g0 : s.heap[ad]? = some cell := h5
  have g5 : U.heap[ad]? = some cell := (hh ad cell g0 h6).trans g0
  refine ⟨by simp [Cond.before, Cond.holds, Cond.value, g1, g2, h3, h4, g5, h6, h7, h8, h9], fun hr => ?_⟩
  have hr2 := qXw_vm hW (w := .isRef (.static o n d)) rfl hr
  have e1 : ∀ b : Array Value, (Term.static o n d).eval b (s.setVm U.vm) none [] (s.setVm U.vm) = cell.slots[f.slot]? := fun b => by simp [Term.eval, State.fieldNamed?, h2, h3, h4, g0, h6]
  have e2 : ∀ b : Array Value, (Term.static o n d).eval b U none [] U = cell.slots[f.slot]? := fun b => by simp [Term.eval, State.fieldNamed?, g2, h3, h4, g5, h6]
  simp only [Cond.before, Cond.holds, Cond.value] at hr2 ⊢
  rw [e1] at hr2
  rw [e2]
  exact hr2
/-- at the law's start: what it may write is new, or no class's statics (the script) -/
theorem qE_of {s : State} {A : Nat → Prop} (hA : ∀ q, A q → ∀ cell : Cell, s.heap[q]? = some cell → cell.vm.isStatics = false) (hw : ∀ w ∈ qXw, w.before #[] s = true) (hs : ∀ x ∈ qXs, ∃ q, vk_R "CounterLeaper" x.1 x.2 q s) (hn : ∀ x ∈ qXn, ∀ cE cN, s.vm.findClass x.1 = some cE → s.vm.findClass x.2 = some cN → s.vm.assignable cE cN = false) : qE A s := by
  refine ⟨fun U hU hh w hmem a => ?_, hs, hn⟩
  have hh2 : ∀ (q : Nat) (cell : Cell), s.heap[q]? = some cell → cell.vm.isStatics = true → U.heap[q]? = s.heap[q]? := fun q cell h1 h2 => hh q (Array.getElem?_eq_some_iff.mp h1).1 (fun z => by
    rw [hA q z cell h1] at h2
    cases h2)
  have h0 := hw w hmem
  have s1 := qXw_st (a := a) hU hh2 (hw _ (List.mem_of_getElem? (i := 0) rfl))
  have s2 := qXw_st (a := a) hU hh2 (hw _ (List.mem_of_getElem? (i := 1) rfl))
  unfold qXw at hmem
  simp only [List.mem_cons, List.not_mem_nil, or_false] at hmem
  rcases hmem with rfl | rfl | rfl | rfl | rfl | rfl | rfl | rfl | rfl | rfl | rfl
  · exact s1.1
  · exact s2.1
  · exact s1.2 h0
  · exact s2.2 h0
  · exact qXw_cast hU h0
  · exact qXw_cast hU h0
  · exact qXw_cast hU h0
  · exact qXw_cast hU h0
  · exact qXw_dec hU h0
  · exact qXw_dec hU h0
  · exact qXw_dec hU h0

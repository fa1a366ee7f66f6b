/-! what narrow_1 gives -/
set_option maxRecDepth 100000 in
theorem lw_nar {s : State} {b : Nat} (h : (Jvm.Cond.and given_1 narrow_1).before #[Value.ref b] s = true) : ∀ c ∈ flatC narrow_1, c.before #[Value.ref b] s = true := by
  rw [Cond.before_and, Bool.and_eq_true] at h
  exact flat_of_before narrow_1 h.2
set_option maxRecDepth 100000 in
theorem lw_nots {s : State} {b : Nat} (h : ∀ c ∈ flatC narrow_1, c.before #[Value.ref b] s = true) : ∀ x ∈ qXn, ∀ cE cN, s.vm.findClass x.1 = some cE → s.vm.findClass x.2 = some cN → s.vm.assignable cE cN = false := by
  have key : ∀ A B : String, va_Nc A B s → ∀ cE cN, s.vm.findClass A = some cE → s.vm.findClass B = some cN → s.vm.assignable cE cN = false := by
    rintro A B ⟨c, t, h1, h2, h3⟩ cE cN g1 g2
    cases h1.symm.trans g1
    cases h2.symm.trans g2
    exact h3
  intro x hx
  unfold qXn at hx
  simp only [List.mem_cons, List.not_mem_nil, or_false] at hx
  rcases hx with rfl | rfl | rfl | rfl | rfl | rfl | rfl | rfl | rfl | rfl | rfl | rfl
  · exact key _ _ (va_Nc.of (h _ (List.mem_of_getElem? (i := 19) rfl)))
  · exact key _ _ (va_Nc.of (h _ (List.mem_of_getElem? (i := 28) rfl)))
  · exact key _ _ (va_Nc.of (h _ (List.mem_of_getElem? (i := 37) rfl)))
  · exact key _ _ (va_Nc.of (h _ (List.mem_of_getElem? (i := 10) rfl)))
  · exact key _ _ (va_Nc.of (h _ (List.mem_of_getElem? (i := 29) rfl)))
  · exact key _ _ (va_Nc.of (h _ (List.mem_of_getElem? (i := 38) rfl)))
  · exact key _ _ (va_Nc.of (h _ (List.mem_of_getElem? (i := 11) rfl)))
  · exact key _ _ (va_Nc.of (h _ (List.mem_of_getElem? (i := 20) rfl)))
  · exact key _ _ (va_Nc.of (h _ (List.mem_of_getElem? (i := 39) rfl)))
  · exact key _ _ (va_Nc.of (h _ (List.mem_of_getElem? (i := 12) rfl)))
  · exact key _ _ (va_Nc.of (h _ (List.mem_of_getElem? (i := 21) rfl)))
  · exact key _ _ (va_Nc.of (h _ (List.mem_of_getElem? (i := 30) rfl)))
theorem lw_in1 {w : Cond} (h : w ∈ tables_1_1) : w ∈ lw_tbl := List.mem_append_right (k2_sels lw_privs) (show w ∈ tables_1_1 ++ (tables_1_2 ++ (tables_1_3 ++ tables_1_4)) from List.mem_append_left _ h)
theorem lw_in2 {w : Cond} (h : w ∈ tables_1_2) : w ∈ lw_tbl := List.mem_append_right (k2_sels lw_privs) (show w ∈ tables_1_1 ++ (tables_1_2 ++ (tables_1_3 ++ tables_1_4)) from List.mem_append_right _ (List.mem_append_left _ h))
theorem lw_in3 {w : Cond} (h : w ∈ tables_1_3) : w ∈ lw_tbl := List.mem_append_right (k2_sels lw_privs) (show w ∈ tables_1_1 ++ (tables_1_2 ++ (tables_1_3 ++ tables_1_4)) from List.mem_append_right _ (List.mem_append_right _ (List.mem_append_left _ h)))
theorem lw_in4 {w : Cond} (h : w ∈ tables_1_4) : w ∈ lw_tbl := List.mem_append_right (k2_sels lw_privs) (show w ∈ tables_1_1 ++ (tables_1_2 ++ (tables_1_3 ++ tables_1_4)) from List.mem_append_right _ (List.mem_append_right _ (List.mem_append_right _ h)))
set_option maxRecDepth 100000 in
theorem lw_xw {s : State} {b : Nat} (hts : ∀ w ∈ lw_tbl, w.before #[Value.ref b] s = true) (h : ∀ c ∈ flatC narrow_1, c.before #[Value.ref b] s = true) : ∀ w ∈ qXw, w.before #[] s = true := by
  intro w hw
  unfold qXw at hw
  simp only [List.mem_cons, List.not_mem_nil, or_false] at hw
  rcases hw with rfl | rfl | rfl | rfl | rfl | rfl | rfl | rfl | rfl | rfl | rfl
  · exact hts _ (lw_in2 (List.mem_of_getElem? (i := 215) rfl))
  · exact hts _ (lw_in2 (List.mem_of_getElem? (i := 217) rfl))
  · exact h _ (List.mem_of_getElem? (i := 2) rfl)
  · exact h _ (List.mem_of_getElem? (i := 3) rfl)
  · exact hts _ (lw_in2 (List.mem_of_getElem? (i := 190) rfl))
  · exact hts _ (lw_in3 (List.mem_of_getElem? (i := 23) rfl))
  · exact hts _ (lw_in3 (List.mem_of_getElem? (i := 56) rfl))
  · exact hts _ (lw_in3 (List.mem_of_getElem? (i := 131) rfl))
  · exact hts _ (lw_in2 (List.mem_of_getElem? (i := 192) rfl))
  · exact hts _ (lw_in2 (List.mem_of_getElem? (i := 194) rfl))
  · exact hts _ (lw_in2 (List.mem_of_getElem? (i := 196) rfl))
theorem lw_str1 {s : State} {a : Array Value} {own C : String} {k : Nat} (h : (Cond.exactly (Term.string own k) C).before a s = true) : ∃ q, (Term.string own k).eval a s none [] s = some (.ref q) := by
  simp only [Cond.before, Cond.holds, Cond.value] at h
  cases he : (Term.string own k).eval a s none [] s with
  | none => simp [he] at h
  | some v =>
    rw [he] at h
    cases v <;> first | exact ⟨_, rfl⟩ | (exfalso; cases hc : s.vm.findClass C <;> simp [hc] at h)
set_option maxRecDepth 100000 in
theorem lw_strs {s : State} {b : Nat} (hts : ∀ w ∈ lw_tbl, w.before #[Value.ref b] s = true) (h : ∀ c ∈ flatC narrow_1, c.before #[Value.ref b] s = true) : ∀ x ∈ qXs, ∃ q, vk_R "CounterLeaper" x.1 x.2 q s := by
  intro x hx
  unfold qXs at hx
  simp only [List.mem_cons, List.not_mem_nil, or_false] at hx
  rcases hx with rfl | rfl | rfl | rfl | rfl | rfl | rfl | rfl | rfl | rfl | rfl
  · obtain ⟨q, hq⟩ := lw_str1 (h _ (List.mem_of_getElem? (i := 40) rfl)); exact ⟨q, vk_R.of (hts _ (lw_in2 (List.mem_of_getElem? (i := 230) rfl))) hq⟩
  · obtain ⟨q, hq⟩ := lw_str1 (h _ (List.mem_of_getElem? (i := 59) rfl)); exact ⟨q, vk_R.of (hts _ (lw_in3 (List.mem_of_getElem? (i := 20) rfl))) hq⟩
  · obtain ⟨q, hq⟩ := lw_str1 (h _ (List.mem_of_getElem? (i := 92) rfl)); exact ⟨q, vk_R.of (hts _ (lw_in3 (List.mem_of_getElem? (i := 30) rfl))) hq⟩
  · obtain ⟨q, hq⟩ := lw_str1 (h _ (List.mem_of_getElem? (i := 124) rfl)); exact ⟨q, vk_R.of (hts _ (lw_in3 (List.mem_of_getElem? (i := 45) rfl))) hq⟩
  · obtain ⟨q, hq⟩ := lw_str1 (h _ (List.mem_of_getElem? (i := 155) rfl)); exact ⟨q, vk_R.of (hts _ (lw_in3 (List.mem_of_getElem? (i := 63) rfl))) hq⟩
  · obtain ⟨q, hq⟩ := lw_str1 (h _ (List.mem_of_getElem? (i := 182) rfl)); exact ⟨q, vk_R.of (hts _ (lw_in3 (List.mem_of_getElem? (i := 77) rfl))) hq⟩
  · obtain ⟨q, hq⟩ := lw_str1 (h _ (List.mem_of_getElem? (i := 213) rfl)); exact ⟨q, vk_R.of (hts _ (lw_in3 (List.mem_of_getElem? (i := 102) rfl))) hq⟩
  · obtain ⟨q, hq⟩ := lw_str1 (h _ (List.mem_of_getElem? (i := 245) rfl)); exact ⟨q, vk_R.of (hts _ (lw_in3 (List.mem_of_getElem? (i := 111) rfl))) hq⟩
  · obtain ⟨q, hq⟩ := lw_str1 (h _ (List.mem_of_getElem? (i := 290) rfl)); exact ⟨q, vk_R.of (hts _ (lw_in3 (List.mem_of_getElem? (i := 120) rfl))) hq⟩
  · obtain ⟨q, hq⟩ := lw_str1 (h _ (List.mem_of_getElem? (i := 335) rfl)); exact ⟨q, vk_R.of (hts _ (lw_in3 (List.mem_of_getElem? (i := 138) rfl))) hq⟩
  · obtain ⟨q, hq⟩ := lw_str1 (h _ (List.mem_of_getElem? (i := 371) rfl)); exact ⟨q, vk_R.of (hts _ (lw_in3 (List.mem_of_getElem? (i := 145) rfl))) hq⟩
theorem lw_E {s : State} {b : Nat} (hts : ∀ w ∈ lw_tbl, w.before #[Value.ref b] s = true) (hg : (Jvm.Cond.and given_1 narrow_1).before #[Value.ref b] s = true) {A : Nat → Prop} (hA : ∀ q, A q → ∀ cell : Cell, s.heap[q]? = some cell → cell.vm.isStatics = false) : qE A s :=
  qE_of hA (lw_xw hts (lw_nar hg)) (lw_strs hts (lw_nar hg)) (lw_nots (lw_nar hg))

/-! at the law's start: the classes' numbers and slots, the words that stay -/
theorem lw_words {s : State} {b : Nat} (hts : ∀ w ∈ lw_tbl, w.before #[Value.ref b] s = true) : ∀ w ∈ qTbl, va_Nw w s := fun w hw => va_Nw.of (qok_on (qTbl_ok w hw)) (hts w (qTbl_in w hw))
theorem lw_classes {s : State} {b : Nat} (hts : ∀ w ∈ lw_tbl, w.before #[Value.ref b] s = true) : ∃ D : va_G, ∀ (c : Nat) (q : vw_C), vwCl[c]? = some q → u_Kn s q.1 q.2.1 q.2.2 (D.1 c) (D.2 c) := by
  have hq : ∀ w ∈ qTbl, w.before #[Value.ref b] s = true := fun w hw => hts w (qTbl_in w hw)
  obtain ⟨c0, i0, h0⟩ := u_known hq in_M (hq _ wz_M)
  obtain ⟨c1, i1, h1⟩ := u_known hq in_S (hq _ wz_S)
  obtain ⟨c2, i2, h2⟩ := u_known hq in_P (hq _ wz_P)
  obtain ⟨c3, i3, h3⟩ := u_known hq in_R (hq _ wz_R)
  obtain ⟨c4, i4, h4⟩ := u_known hq in_C (hq _ wz_C)
  obtain ⟨c5, i5, h5⟩ := u_known hq in_D (hq _ wz_D)
  refine ⟨(fun c => match c with | 0 => c0 | 1 => c1 | 2 => c2 | 3 => c3 | 4 => c4 | _ => c5, fun c => match c with | 0 => i0 | 1 => i1 | 2 => i2 | 3 => i3 | 4 => i4 | _ => i5), fun c q hc => ?_⟩
  rcases c with _ | _ | _ | _ | _ | _ | c
  · cases hc; exact h0
  · cases hc; exact h1
  · cases hc; exact h2
  · cases hc; exact h3
  · cases hc; exact h4
  · cases hc; exact h5
  · cases hc
theorem lw_arr {s : State} {ty : FieldType} {a : Array Value} (h : (Cond.arrayClass ty).before a s = true) : ∃ cA, ArrOfT s cA ty ∧ s.vm.findClass ("[" ++ ty.toString) = some cA := by
  obtain ⟨c, k, comp, h1, h2, h3⟩ := Cond.arrayClass_spec h
  exact ⟨c, fun n z => ⟨(fun k h => by cases h), k, h2, comp, h3⟩, h1⟩
theorem lw_a_int : Cond.arrayClass FieldType.int ∈ lw_tbl := by
  have h : Cond.arrayClass FieldType.int ∈ tables_1_1 := List.mem_of_getElem? (i := 59) rfl
  exact List.mem_append_right (k2_sels lw_privs) (show Cond.arrayClass FieldType.int ∈ tables_1_1 ++ (tables_1_2 ++ (tables_1_3 ++ tables_1_4)) from List.mem_append_left _ h)
theorem lw_a_char : Cond.arrayClass FieldType.char ∈ lw_tbl := by
  have h : Cond.arrayClass FieldType.char ∈ tables_1_1 := List.mem_of_getElem? (i := 58) rfl
  exact List.mem_append_right (k2_sels lw_privs) (show Cond.arrayClass FieldType.char ∈ tables_1_1 ++ (tables_1_2 ++ (tables_1_3 ++ tables_1_4)) from List.mem_append_left _ h)
theorem lw_a_boolean : Cond.arrayClass FieldType.boolean ∈ lw_tbl := by
  have h : Cond.arrayClass FieldType.boolean ∈ tables_1_1 := List.mem_of_getElem? (i := 167) rfl
  exact List.mem_append_right (k2_sels lw_privs) (show Cond.arrayClass FieldType.boolean ∈ tables_1_1 ++ (tables_1_2 ++ (tables_1_3 ++ tables_1_4)) from List.mem_append_left _ h)
theorem lw_a_long : Cond.arrayClass FieldType.long ∈ lw_tbl := by
  have h : Cond.arrayClass FieldType.long ∈ tables_1_4 := List.mem_of_getElem? (i := 184) rfl
  exact List.mem_append_right (k2_sels lw_privs) (show Cond.arrayClass FieldType.long ∈ tables_1_1 ++ (tables_1_2 ++ (tables_1_3 ++ tables_1_4)) from List.mem_append_right _ (List.mem_append_right _ (List.mem_append_right _ h)))
theorem lw_K {s : State} {b : Nat} (hts : ∀ w ∈ lw_tbl, w.before #[Value.ref b] s = true) : ∃ G : qG, qK G s := by
  obtain ⟨D, hD⟩ := lw_classes hts
  obtain ⟨a0, g0, f0⟩ := lw_arr (hts _ lw_a_int)
  obtain ⟨a1, g1, f1⟩ := lw_arr (hts _ lw_a_char)
  obtain ⟨a2, g2, f2⟩ := lw_arr (hts _ lw_a_boolean)
  obtain ⟨a3, g3, f3⟩ := lw_arr (hts _ lw_a_long)
  refine ⟨(D, a0, a1, a2, a3), ⟨hD, fun k q hk => ?_⟩, lw_words hts, fun ty hty a => ?_⟩
  · rcases k with _ | _ | _ | _ | k
    · cases hk; exact ⟨g0, f0⟩
    · cases hk; exact ⟨g1, f1⟩
    · cases hk; exact ⟨g2, f2⟩
    · cases hk; exact ⟨g3, f3⟩
    · cases hk
  · simp only [List.mem_cons, List.not_mem_nil, or_false] at hty
    rcases hty with rfl | rfl | rfl | rfl
    · exact hts _ lw_a_int
    · exact hts _ lw_a_char
    · exact hts _ lw_a_boolean
    · exact hts _ lw_a_long

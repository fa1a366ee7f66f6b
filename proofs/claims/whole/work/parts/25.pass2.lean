/-! for the walk of a pass -/
theorem m_up_all {f g : Int → Int} {n : Int} (h : ∀ j : Int, ¬ (0 ≤ j ∧ j < n) → f j = g j) : m_up f g n = g := by
  funext j
  by_cases hj : 0 ≤ j ∧ j < n
  · rw [m_up_in hj]
  · rw [m_up_out hj, h j hj]
theorem m_mn_up (P : Int → Int) (q : Int) {i : Int} (h : 0 ≤ i) : m_mn P (i + 1).toNat q = min (m_mn P i.toNat q) (P i) := by
  have h1 : (i + 1).toNat = i.toNat + 1 := by omega
  rw [h1, m_mn, Int.toNat_of_nonneg h]
theorem m_po_rg {ch : Int → Int} {S : m_S} (hlo : ∀ c, 0 ≤ S.2.1 c ∧ S.2.1 c ≤ 1000000) (hhi : ∀ c, 0 ≤ S.2.2 c ∧ S.2.2 c ≤ 1000000) (c : Int) : 1 ≤ m_po ch S c ∧ m_po ch S c ≤ 1000000000000000 := by
  have h1 := hlo c
  have h2 := hhi c
  unfold m_po
  by_cases hp : 0 < ch c
  · rw [if_pos hp]
    have h3 : 0 ≤ (1000000 - S.2.2 c) / ch c := Int.ediv_nonneg (by omega) (by omega)
    have h4 : (1000000 - S.2.2 c) / ch c ≤ 1000000 - S.2.2 c := Int.ediv_le_self _ (by omega)
    omega
  · rw [if_neg hp]
    by_cases hn : ch c < 0
    · rw [if_pos hn]
      have h3 : 0 ≤ S.2.1 c / -ch c := Int.ediv_nonneg (by omega) (by omega)
      have h4 : S.2.1 c / -ch c ≤ S.2.1 c := Int.ediv_le_self _ (by omega)
      omega
    · rw [if_neg hn]
      omega
theorem m_ct_rg {c x : Int} {w lo hi w' lo' hi' : Int → Int} (h : m_ct c x (w, lo, hi) = some (w', lo', hi')) (h0 : 0 ≤ c ∧ c ≤ 7) (hw : ∀ c, 0 ≤ w c ∧ w c ≤ 1000000) (hlo : ∀ c, 0 ≤ lo c ∧ lo c ≤ 1000000) (hhi : ∀ c, 0 ≤ hi c ∧ hi c ≤ 1000000) :
    (∀ c, 0 ≤ w' c ∧ w' c ≤ 1000000) ∧ (∀ c, 0 ≤ lo' c ∧ lo' c ≤ 1000000) ∧ (∀ c, 0 ≤ hi' c ∧ hi' c ≤ 1000000) ∧ ∀ j : Int, ¬ (0 ≤ j ∧ j < 8) → w' j = w j ∧ lo' j = lo j ∧ hi' j = hi j := by
  have hin := m_ct_in h
  dsimp only at hin
  rw [m_ct_val hin] at h
  cases h
  have h1 := hlo c
  have h2 := hhi c
  refine ⟨qU_rg hw hin, qU_rg hlo ?_, qU_rg hhi ?_, fun j hj => ⟨qU_n (by omega), qU_n (by omega), qU_n (by omega)⟩⟩
  · dsimp only at hin ⊢
    omega
  · dsimp only at hin ⊢
    omega

/-- what a reader and a draft keep between texts -/
def m_gb (lt kd ct lb n : Int) (k r nl na pl t : Int → Int) : Prop := (0 ≤ lt ∧ lt ≤ 25) ∧ (0 ≤ kd ∧ kd ≤ 3) ∧ (-1 ≤ ct ∧ ct ≤ 7) ∧ (0 ≤ lb ∧ lb ≤ 1) ∧ (0 ≤ n ∧ n ≤ 24) ∧ (∀ i, 0 ≤ k i ∧ k i ≤ 3) ∧ (∀ i, -1 ≤ r i ∧ r i ≤ 7) ∧ (∀ i, 0 ≤ nl i ∧ nl i ≤ 25) ∧ (∀ i, 0 ≤ na i ∧ na i ≤ 119) ∧ (∀ i, -1 ≤ pl i ∧ pl i ≤ 24) ∧ (∀ i, ¬ (0 ≤ i ∧ i < 26) → pl i = 0) ∧ ∀ i, -1 ≤ t i ∧ t i ≤ 24
theorem m_fl_le {n : Int} {k nl na pl : Int → Int} (h : ∀ i, 0 ≤ na i ∧ na i ≤ 119) : ∀ (f : Nat) (i : Int), m_fl n k nl na pl f i ≤ 119
  | 0, i => by
    rw [m_fl]
    omega
  | f + 1, i => by
    rw [m_fl]
    have h1 := h i
    split
    · split
      · omega
      · exact m_fl_le h f (i + 1)
    · omega
theorem m_x0_w {lt kd ct lb n : Int} {k r nl na pl t : Int → Int} (h : m_gb lt kd ct lb n k r nl na pl t) : m_xw (m_x0 lt kd ct k r nl na (m_up pl (fun _ => -1) 26)) := by
  obtain ⟨h1, h2, h3, h4, h5, h6, h7, h8, h9, h10, h11, h12⟩ := h
  refine ⟨by omega, h1, h2, h3, by omega, by omega, by omega, by omega, by omega, h6, h7, h8, h9, fun i => ?_, fun i a b => by omega, fun i hi => ?_⟩
  · by_cases hi : 0 ≤ i ∧ i < 26
    · rw [m_up_in hi]
      omega
    · rw [m_up_out hi, h11 i hi]
      omega
  · rw [m_up_out hi, h11 i hi]

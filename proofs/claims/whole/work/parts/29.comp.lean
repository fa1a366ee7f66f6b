theorem m_fl_all {n : Int} {k nl na pl : Int → Int} (hna : ∀ i, 0 ≤ na i ∧ na i ≤ 119) : ∀ (f : Nat) (i : Int), n - i ≤ (f : Int) → m_fl n k nl na pl f i = -1 → ∀ j, i ≤ j → j < n → k j = 1 ∨ k j = 2 → ¬ pl (nl j) = -1
  | 0, i, hg, h, j, h1, h2, h3 => by omega
  | f + 1, i, hg, h, j, h1, h2, h3 => by
    by_cases hc : (k i = 1 ∨ k i = 2) ∧ pl (nl i) = -1
    · rw [m_fl_no (by omega) hc] at h
      have := hna i
      omega
    · rw [m_fl_go (by omega) hc] at h
      by_cases hj : j = i
      · subst hj
        exact fun q => hc ⟨h3, q⟩
      · exact m_fl_all hna f (i + 1) (by omega) h j (by omega) h2 h3
/-- a text read without a fault is a program -/
theorem m_pg_of {nx lt kd ct lb n : Int} {k r nl na pl t de lb' lh le ld : Int → Int} (hw : m_xw (nx, lt, kd, ct, lb, n, k, r, nl, na, pl)) (ht : ∀ j, -1 ≤ t j ∧ t j ≤ 24) (hfl : m_fl n k nl na pl 24 0 = -1) (htg : ∀ j, 0 ≤ j → j < n → t j = m_tg k nl pl j) (hd : ∀ i, -1 ≤ de i ∧ de i ≤ 24)
    (hlo : m_lo (m_le n k t (m_up de (m_de n k r t) n)) (m_ld n k (m_up de (m_de n k r t) n)) n lb' lh le ld) : m_pg n (m_cn (m_le n k t (m_up de (m_de n k r t) n)) n.toNat) k r t (m_up de (m_de n k r t) n) lb' lh le ld := by
  obtain ⟨h1, h2, h3, h4, h5, h6, h7, h8, h9, h10, h11, h12, h13, h14, h15, h16⟩ := hw
  refine ⟨h6, h10, h11, h15, ht, fun i a b c => ?_, fun i => ?_, fun i a b => m_up_in ⟨a, b⟩, hlo, rfl⟩
  · have q := m_fl_all h13 24 0 (by omega) hfl i a b c
    have q2 := h14 (nl i)
    rw [htg i a b]
    unfold m_tg
    rw [if_pos c]
    omega
  · by_cases hi : 0 ≤ i ∧ i < n
    · rw [m_up_in hi]
      rcases m_de_cases n k r t i with q | q
      · omega
      · omega
    · rw [m_up_out hi]
      exact hd i
theorem m_up_de {n : Int} {k r t de : Int → Int} (hn : n ≤ 24) (hd : ∀ i, -1 ≤ de i ∧ de i ≤ 24) : (∀ i, -1 ≤ m_up de (m_de n k r t) n i ∧ m_up de (m_de n k r t) n i ≤ 24) ∧ ∀ i, 0 ≤ i → i < n → m_up de (m_de n k r t) n i = -1 ∨ (i < m_up de (m_de n k r t) n i ∧ m_up de (m_de n k r t) n i < n) := by
  refine ⟨fun i => ?_, fun i a b => ?_⟩
  · by_cases hi : 0 ≤ i ∧ i < n
    · rw [m_up_in hi]
      rcases m_de_cases n k r t i with q | q <;> omega
    · rw [m_up_out hi]
      exact hd i
  · rw [m_up_in ⟨a, b⟩]
    rcases m_de_cases n k r t i with q | q
    · exact Or.inl q
    · exact Or.inr ⟨q.2.1, q.2.2.1⟩
theorem m_cn_ex (e : Int → Int) (kk : Int) : ∀ i : Nat, 0 ≤ kk → kk < m_cn e i → ∃ j : Int, 0 ≤ j ∧ j < i ∧ 0 ≤ e j ∧ m_cn e j.toNat = kk
  | 0, h1, h2 => by
    rw [m_cn] at h2
    omega
  | i + 1, h1, h2 => by
    rw [m_cn] at h2
    by_cases hi : kk < m_cn e i
    · obtain ⟨j, a, b, c, d⟩ := m_cn_ex e kk i h1 hi
      exact ⟨j, a, by omega, c, d⟩
    · by_cases he : 0 ≤ e (i : Int)
      · rw [if_pos he] at h2
        refine ⟨i, by omega, by omega, he, ?_⟩
        rw [Int.toNat_natCast]
        omega
      · rw [if_neg he] at h2
        omega
/-- the reference's program -/
def m_pd (n : Int) (k r t de le dn : Int → Int) : Prop := (0 ≤ n ∧ n ≤ 24) ∧ (∀ i, 0 ≤ k i ∧ k i ≤ 3) ∧ (∀ i, -200 ≤ r i ∧ r i ≤ 200) ∧ (∀ i, 0 ≤ i → i < n → k i = 0 ∨ k i = 1 → 0 ≤ r i ∧ r i ≤ 7) ∧ (∀ i, -1 ≤ t i ∧ t i ≤ 24) ∧ (∀ i, 0 ≤ i → i < n → k i = 1 ∨ k i = 2 → 0 ≤ t i ∧ t i ≤ n) ∧ (∀ i, -1 ≤ de i ∧ de i ≤ 24) ∧ (∀ i, 0 ≤ i → i < n → de i = m_de n k r t i) ∧ (∀ i, -1 ≤ le i ∧ le i ≤ 24) ∧ (∀ i, 0 ≤ i → i < n → le i = m_le n k t de i) ∧ ∀ i, 0 ≤ i → i < n → dn i = m_ld n k de i

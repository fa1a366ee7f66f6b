/-! two programs that agree below n run alike -/
/-- they agree -/
def m_eq (n : Int) (k r t k' r' t' : Int → Int) : Prop := ∀ i, 0 ≤ i → i < n → k i = k' i ∧ r i = r' i ∧ t i = t' i
section
variable {n : Int} {k r t k' r' t' de de' : Int → Int}
theorem m_sc_c (h : m_eq n k r t k' r' t') (c0 : Int) : ∀ (f : Nat) (i : Int), 0 ≤ i → m_sc n k r c0 f i = m_sc n k' r' c0 f i
  | 0, i, h0 => rfl
  | f + 1, i, h0 => by
    by_cases hc : i < n ∧ k i = 0 ∧ ¬ r i = c0
    · obtain ⟨a, b, c⟩ := h i h0 hc.1
      rw [m_sc_go hc, m_sc_go (by rw [← a, ← b]; exact hc)]
      exact m_sc_c h c0 f (i + 1) (by omega)
    · rw [m_sc_stop hc, m_sc_stop (fun q => hc ?_)]
      obtain ⟨a, b, c⟩ := h i h0 q.1
      rw [a, b]
      exact q
theorem m_de_c (h : m_eq n k r t k' r' t') {i : Int} (h0 : 0 ≤ i ∧ i < n) : m_de n k r t i = m_de n k' r' t' i := by
  obtain ⟨a, b, c⟩ := h i h0.1 h0.2
  have hs := m_sc_c h (r i) 24 (i + 1) (by omega)
  have hge := m_sc_ge n k r (r i) 24 (i + 1)
  unfold m_de
  rw [← b, ← hs, ← a, ← c]
  generalize m_sc n k r (r i) 24 (i + 1) = e at hge ⊢
  by_cases he : e < n
  · obtain ⟨a2, b2, c2⟩ := h e (by omega) he
    rw [a2, c2]
  · rw [if_neg (fun q => he q.2.1), if_neg (fun q => he q.2.1)]
theorem m_ls_c (h : m_eq n k r t k' r' t') (hd : ∀ i, 0 ≤ i → i < n → de i = de' i) (hh : Int) : ∀ (f : Nat) (i d : Int), 0 ≤ i → m_ls n k de hh f i d = m_ls n k' de' hh f i d
  | 0, i, d, h0 => rfl
  | f + 1, i, d, h0 => by
    by_cases hc : i < n ∧ k i < 2
    · obtain ⟨a, b, c⟩ := h i h0 hc.1
      have hdi := hd i h0 hc.1
      by_cases hq : ¬ i = hh ∧ 0 ≤ de i
      · rw [m_ls_drain hc hq, m_ls_drain (by rw [← a]; exact hc) (by rw [← hdi]; exact hq), ← hdi]
        exact m_ls_c h hd hh f (de i + 1) (d + 1) (by omega)
      · rw [m_ls_one hc hq, m_ls_one (by rw [← a]; exact hc) (by rw [← hdi]; exact hq)]
        exact m_ls_c h hd hh f (i + 1) d (by omega)
    · rw [m_ls_stop hc, m_ls_stop (fun q => hc ?_)]
      obtain ⟨a, b, c⟩ := h i h0 q.1
      rw [a]
      exact q
theorem m_ls_ge (hd : ∀ i, 0 ≤ i → i < n → de i = -1 ∨ i < de i) (hh : Int) : ∀ (f : Nat) (i d : Int), 0 ≤ i → i ≤ (m_ls n k de hh f i d).1
  | 0, i, d, h0 => Int.le_refl _
  | f + 1, i, d, h0 => by
    by_cases hc : i < n ∧ k i < 2
    · have hdi := hd i h0 hc.1
      by_cases hq : ¬ i = hh ∧ 0 ≤ de i
      · rw [m_ls_drain hc hq]
        have := m_ls_ge hd hh f (de i + 1) (d + 1) (by omega)
        omega
      · rw [m_ls_one hc hq]
        have := m_ls_ge hd hh f (i + 1) d (by omega)
        omega
    · rw [m_ls_stop hc]
      exact Int.le_refl _
theorem m_le_c (h : m_eq n k r t k' r' t') (hd : ∀ i, 0 ≤ i → i < n → de i = de' i) (hd2 : ∀ i, 0 ≤ i → i < n → de i = -1 ∨ i < de i) {i : Int} (h0 : 0 ≤ i) : m_le n k t de i = m_le n k' t' de' i ∧ m_ld n k de i = m_ld n k' de' i := by
  have hs := m_ls_c h hd i 24 i 0 h0
  have hge := m_ls_ge (k := k) hd2 i 24 i 0 h0
  unfold m_le m_ld
  rw [← hs]
  refine ⟨?_, rfl⟩
  generalize (m_ls n k de i 24 i 0).1 = e at hge ⊢
  by_cases he : e < n
  · obtain ⟨a2, b2, c2⟩ := h e (by omega) he
    rw [a2, c2]
  · rw [if_neg (fun q => he q.2.1), if_neg (fun q => he q.2.1)]
theorem m_cn_c {e e' : Int → Int} : ∀ j : Nat, (∀ i : Int, 0 ≤ i → i < j → e i = e' i) → m_cn e j = m_cn e' j
  | 0, _ => rfl
  | j + 1, h => by
    rw [m_cn, m_cn, m_cn_c j (fun i a b => h i a (by omega)), h j (by omega) (by omega)]
theorem m_dr_c (h : m_eq n k r t k' r' t') {e x : Int} (he : e ≤ n) : ∀ (f : Nat) (j : Int) (S : m_S), 0 ≤ j → m_dr r e x f j S = m_dr r' e x f j S
  | 0, j, S, h0 => rfl
  | f + 1, j, S, h0 => by
    by_cases hj : j < e
    · obtain ⟨a, b, c⟩ := h j h0 (by omega)
      cases hc : m_ct (r j) x S with
      | none => rw [m_dr_no hj hc, m_dr_no hj (by rw [← b]; exact hc)]
      | some S1 =>
        rw [m_dr_go hj hc, m_dr_go hj (by rw [← b]; exact hc)]
        exact m_dr_c h he f (j + 1) S1 (by omega)
    · rw [m_dr_stop hj, m_dr_stop hj]
theorem m_px_c (h : m_eq n k r t k' r' t') (hd : ∀ i, 0 ≤ i → i < n → de i = de' i) (hd2 : ∀ i, 0 ≤ i → i < n → de i = -1 ∨ (i < de i ∧ de i < n)) {hh e : Int} (he : e ≤ n) : ∀ (f : Nat) (i : Int) (S : m_S) (d : Int → Int) (len : Int), 0 ≤ i → m_px k r de hh e f i S d len = m_px k' r' de' hh e f i S d len
  | 0, i, S, d, len, h0 => rfl
  | f + 1, i, S, d, len, h0 => by
    by_cases hi : i < e
    · obtain ⟨a, b, c⟩ := h i h0 (by omega)
      have hdi := hd i h0 (by omega)
      have hd3 := hd2 i h0 (by omega)
      by_cases hq : ¬ i = hh ∧ 0 ≤ de i
      · have hdr := m_dr_c h (e := de i) (x := S.1 (r i)) (by omega) 24 (i + 1) S (by omega)
        cases hc : m_dr r (de i) (S.1 (r i)) 24 (i + 1) S with
        | none => rw [m_px_drainNo hi hq hc, m_px_drainNo hi (by rw [← hdi]; exact hq) (by rw [← hdi, ← b, ← hdr]; exact hc)]
        | some S1 =>
          rw [m_px_drain hi hq hc, m_px_drain hi (by rw [← hdi]; exact hq) (by rw [← hdi, ← b, ← hdr]; exact hc), ← hdi, ← b]
          exact m_px_c h hd hd2 he f _ _ _ _ (by omega)
      · cases hc : m_ct (r i) (if k i = 0 then 1 else -1) S with
        | none => rw [m_px_oneNo hi hq hc, m_px_oneNo hi (by rw [← hdi]; exact hq) (by rw [← a, ← b]; exact hc)]
        | some S1 =>
          rw [m_px_one hi hq hc, m_px_one hi (by rw [← hdi]; exact hq) (by rw [← a, ← b]; exact hc)]
          exact m_px_c h hd hd2 he f _ _ _ _ (by omega)
    · rw [m_px_stop hi, m_px_stop hi]
/-- what both keep, for the lemmas below -/
def m_al (n : Int) (k r t de k' r' t' de' : Int → Int) : Prop := m_eq n k r t k' r' t' ∧ (∀ i, 0 ≤ i → i < n → de i = de' i) ∧ ∀ i, 0 ≤ i → i < n → de i = -1 ∨ (i < de i ∧ de i < n)
theorem m_al.de2 (h : m_al n k r t de k' r' t' de') : ∀ i, 0 ≤ i → i < n → de i = -1 ∨ i < de i := fun i a b => (h.2.2 i a b).imp id (fun q => q.1)
theorem m_xp_c (h : m_al n k r t de k' r' t' de') (pl : Int) (v : Int → Int) : m_xp n k r t de pl v = m_xp n k' r' t' de' pl v := by
  by_cases h0 : 0 ≤ pl
  · obtain ⟨hle, -⟩ := m_le_c h.1 h.2.1 h.de2 h0
    have hn := m_le_n n k t de pl
    unfold m_xp
    rw [← hle]
    by_cases hc : 0 ≤ pl ∧ pl < n ∧ 0 ≤ m_le n k t de pl
    · rw [if_pos hc, if_pos hc]
      exact m_px_c h.1 h.2.1 h.2.2 (by omega) 24 pl _ _ _ h0
    · rw [if_neg hc, if_neg hc]
  · rw [m_xp_no (fun q => h0 q.1), m_xp_no (fun q => h0 q.1)]
theorem m_pq_c (h : m_al n k r t de k' r' t' de') (pl : Int) (v : Int → Int) (sl : Int) : m_pq n k r t de pl v sl = m_pq n k' r' t' de' pl v sl := by
  unfold m_pq
  rw [m_xp_c h]
theorem m_go_c (h : m_al n k r t de k' r' t' de') {pl st : Int} (h0 : 0 ≤ pl) (v : Int → Int) : m_go n k r pl st v ↔ m_go n k' r' pl st v := by
  unfold m_go
  by_cases hp : pl < n
  · obtain ⟨a, b, c⟩ := h.1 pl h0 hp
    rw [a, b]
  · constructor <;> (intro q; exact absurd q.1.1 hp)
theorem m_sta_c (h : m_al n k r t de k' r' t' de') {pl st : Int} (h0 : 0 ≤ pl) (v : Int → Int) (x : Int) : m_sta n k r t de pl st v x ↔ m_sta n k' r' t' de' pl st v x := by
  unfold m_sta
  rw [← m_xp_c h pl v, ← m_pq_c h pl v]
  by_cases hp : pl < n
  · obtain ⟨a, b, c⟩ := h.1 pl h0 hp
    rw [a, b]
  · constructor
    · rintro (q | q | q | q)
      · exact Or.inl ⟨q.1, Or.inl (by omega)⟩
      · exact absurd q.2.1.1 hp
      · exact absurd q.2.1.1 hp
      · exact absurd q.2.1.1 hp
    · rintro (q | q | q | q)
      · exact Or.inl ⟨q.1, Or.inl (by omega)⟩
      · exact absurd q.2.1.1 hp
      · exact absurd q.2.1.1 hp
      · exact absurd q.2.1.1 hp
theorem m_sp_c (h : m_al n k r t de k' r' t' de') {pl : Int} (h0 : 0 ≤ pl ∧ pl < n) (v : Int → Int) : m_sp k r t pl v = m_sp k' r' t' pl v ∧ m_sv k r pl v = m_sv k' r' pl v := by
  obtain ⟨a, b, c⟩ := h.1 pl h0.1 h0.2
  unfold m_sp m_sv
  rw [a, b, c]
  exact ⟨rfl, rfl⟩
end

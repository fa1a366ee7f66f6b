section
variable {n : Int} {k r t k' r' t' de de' : Int → Int}
theorem m_xs_pq (pl : Int) (v : Int → Int) (sl : Int) : m_xs n k r t de pl v (m_pq n k r t de pl v sl) (m_ln (m_xp n k r t de pl v)) (m_dl (m_xp n k r t de pl v) v) := by
  intro h
  cases hx : m_xp n k r t de pl v with
  | none =>
    unfold m_pq at h
    rw [hx] at h
    exact absurd (show (0 : Int) < 0 from h) (by decide)
  | some Y => exact ⟨Y, rfl, rfl, rfl⟩
theorem m_ru_c (h : m_al n k r t de k' r' t' de') (hr : m_rw n k r t de) (on : Int) : ∀ (f : Nat) (pl st : Int) (v : Int → Int) (cn hd ps ss : Int), m_tw n pl st v → m_ru n k r t de on f (pl, st, v, cn, hd, ps, ss) = m_ru n k' r' t' de' on f (pl, st, v, cn, hd, ps, ss)
  | 0, pl, st, v, cn, hd, ps, ss, hw => rfl
  | f + 1, pl, st, v, cn, hd, ps, ss, hw => by
    have hp := hw.1
    by_cases h0 : m_sta n k r t de pl st v 0
    · have h0' := (m_sta_c h hp.1 v 0).mp h0
      have hg := (m_sta_0 h0).1
      by_cases h1 : on = 1 ∧ 0 < m_pq n k r t de pl v (1000000000000000 - st)
      · rw [m_ru_leap h0 h1, m_ru_leap h0' (by rw [← m_pq_c h]; exact h1), ← m_pq_c h, ← m_xp_c h]
        exact m_ru_c h hr on f _ _ _ _ _ _ _ (m_leap_y hr hw (m_xs_pq pl v _) rfl h1.2 (Int.le_refl _)).1.1
      · obtain ⟨e1, e2⟩ := m_sp_c h ⟨hp.1, hg.1.1⟩ v
        rw [m_ru_step h0 h1, m_ru_step h0' (by rw [← m_pq_c h]; exact h1), ← e1, ← e2]
        exact m_ru_c h hr on f _ _ _ _ _ _ _ (m_sp_w hr hw hg)
    · rw [m_ru_stop h0, m_ru_stop (fun q => h0 ((m_sta_c h hp.1 v 0).mpr q))]
theorem m_pl_c (h : m_al n k r t de k' r' t' de') (hr : m_rw n k r t de) : ∀ (f : Nat) (j pl st : Int) (v : Int → Int), m_tw n pl st v → m_pl n k r t f j pl st v = m_pl n k' r' t' f j pl st v
  | 0, j, pl, st, v, hw => rfl
  | f + 1, j, pl, st, v, hw => by
    have hp := hw.1
    by_cases hg : m_go n k r pl st v
    · obtain ⟨e1, e2⟩ := m_sp_c h ⟨hp.1, hg.1.1⟩ v
      rw [m_pl_go hg, m_pl_go ((m_go_c h hp.1 v).mp hg), ← e1, ← e2]
      exact m_pl_c h hr f _ _ _ _ (m_sp_w hr hw hg)
    · rw [m_pl_stop hg, m_pl_stop (fun q => hg ((m_go_c h hp.1 v).mpr q))]
theorem m_sk_c (h : m_al n k r t de k' r' t' de') (hr : m_rw n k r t de) {al : Int} (hal : al ≤ 1000000000000000) : ∀ (f : Nat) (pl st : Int) (v : Int → Int), m_tw n pl st v → m_sk n k r t de al f pl st v = m_sk n k' r' t' de' al f pl st v
  | 0, pl, st, v, hw => rfl
  | f + 1, pl, st, v, hw => by
    have hp := hw.1
    by_cases hg : st < al ∧ m_go n k r pl st v
    · have hg' : st < al ∧ m_go n k' r' pl st v := ⟨hg.1, (m_go_c h hp.1 v).mp hg.2⟩
      by_cases h1 : 0 < m_pq n k r t de pl v (al - st)
      · rw [m_sk_leap hg h1, m_sk_leap hg' (by rw [← m_pq_c h]; exact h1), ← m_pq_c h, ← m_xp_c h]
        exact m_sk_c h hr hal f _ _ _ (m_leap_y hr hw (m_xs_pq pl v _) rfl h1 (by omega)).1.1
      · obtain ⟨e1, e2⟩ := m_sp_c h ⟨hp.1, hg.2.1.1⟩ v
        rw [m_sk_step hg h1, m_sk_step hg' (by rw [← m_pq_c h]; exact h1), ← e1, ← e2]
        exact m_sk_c h hr hal f _ _ _ (m_sp_w hr hw hg.2)
    · rw [m_sk_stop hg, m_sk_stop (fun q => hg ⟨q.1, (m_go_c h hp.1 v).mpr q.2⟩)]
theorem m_pa_c (h : m_al n k r t de k' r' t' de') {hh e : Int} (h0 : 0 ≤ hh) (he : e ≤ n) (v : Int → Int) : m_pa k r de hh e v = m_pa k' r' de' hh e v := m_px_c h.1 h.2.1 h.2.2 he 24 hh _ _ _ h0
/-- the class's program and the reference's -/
theorem m_al_of {lc : Int} {lb lh le ld le' dn' : Int → Int} (hg : m_pg n lc k r t de lb lh le ld) (hp : m_pd n k' r' t' de' le' dn') (he : m_eq n k r t k' r' t') : m_al n k r t de k' r' t' de' := by
  refine ⟨he, fun i a b => ?_, fun i a b => ?_⟩
  · rw [hg.2.2.2.2.2.2.2.1 i a b, hp.2.2.2.2.2.2.2.1 i a b]
    exact m_de_c he ⟨a, b⟩
  · rcases (m_pg_rw hg).2.2.2.2 i a b with q | q
    · exact Or.inl q
    · exact Or.inr ⟨q.1, q.2.1⟩
/-- the loops' numbers and heads are the same -/
theorem m_cn_al {lc : Int} {lb lh le ld le' dn' : Int → Int} (hg : m_pg n lc k r t de lb lh le ld) (hp : m_pd n k' r' t' de' le' dn') (he : m_eq n k r t k' r' t') : (∀ i, 0 ≤ i → i < n → le' i = m_le n k t de i ∧ dn' i = m_ld n k de i) ∧ ∀ j : Int, 0 ≤ j → j ≤ n → m_cn le' j.toNat = m_cn (m_le n k t de) j.toNat := by
  have ha := m_al_of hg hp he
  have h1 : ∀ i, 0 ≤ i → i < n → le' i = m_le n k t de i ∧ dn' i = m_ld n k de i := by
    intro i a b
    obtain ⟨q1, q2⟩ := m_le_c ha.1 ha.2.1 ha.de2 a
    exact ⟨(hp.2.2.2.2.2.2.2.2.2.1 i a b).trans q1.symm, (hp.2.2.2.2.2.2.2.2.2.2 i a b).trans q2.symm⟩
  exact ⟨h1, fun j a b => m_cn_c j.toNat (fun i c d => (h1 i c (by omega)).1)⟩
end

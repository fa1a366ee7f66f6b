/-! runs: moves, steps, leaps, a search for a number of steps -/
theorem m_px_kq {k r de : Int → Int} {h e : Int} (hde : ∀ i, 0 ≤ i → i < e → 0 ≤ de i → i < de i ∧ de i < 24) : ∀ (f : Nat) (i : Int) {S S' : m_S} {d d' : Int → Int} {len len' : Int}, 0 ≤ i → m_px k r de h e f i S d len = some (S', d', len') → m_in S → m_bt S d → m_in S' ∧ m_bt S' d' ∧ len ≤ len' ∧ len' ≤ len + f * 24000001
  | 0, i, S, S', d, d', len, len', h0, hp, hi, hb => by
    rw [m_px] at hp
    cases hp
    exact ⟨hi, hb, Int.le_refl _, by omega⟩
  | f + 1, i, S, S', d, d', len, len', h0, hp, hi, hb => by
    by_cases hie : i < e
    · by_cases hd : ¬ i = h ∧ 0 ≤ de i
      · cases hc : m_dr r (de i) (S.1 (r i)) 24 (i + 1) S with
        | none =>
          rw [m_px_drainNo hie hd hc] at hp
          cases hp
        | some S1 =>
          rw [m_px_drain hie hd hc] at hp
          obtain ⟨h1, h2⟩ := m_dr_kp (d := d) 24 _ hc hi hb
          have h3 : m_in (qU S1.1 (r i) 0, S1.2) := fun j => by
            dsimp only [qU]
            by_cases hc : j = r i
            · rw [if_pos hc]
              omega
            · rw [if_neg hc]
              exact h1 j
          have h4 : m_bt (qU S1.1 (r i) 0, S1.2) (qU d (r i) 1) := fun j hj => by
            dsimp only [qU] at hj ⊢
            by_cases hc : j = r i
            · rw [if_pos hc] at hj
              exact absurd rfl hj
            · rw [if_neg hc] at hj ⊢
              exact h2 j hj
          have hw := hde i h0 hie hd.2
          obtain ⟨g1, g2, g3, g4⟩ := m_px_kq hde f _ (by omega) hp h3 h4
          have hv := hi (r i)
          have hm : 0 ≤ S.1 (r i) * (de i - i + 1) := Int.mul_nonneg hv.1 (by omega)
          have hm2 : S.1 (r i) * (de i - i + 1) ≤ 1000000 * 24 := Int.mul_le_mul hv.2 (by omega) (by omega) (by omega)
          refine ⟨g1, g2, by omega, ?_⟩
          have : ((f + 1 : Nat) : Int) * 24000001 = f * 24000001 + 24000001 := by
            rw [Int.natCast_add, Int.add_mul]
            rfl
          omega
      · cases hc : m_ct (r i) (if k i = 0 then 1 else -1) S with
        | none =>
          rw [m_px_oneNo hie hd hc] at hp
          cases hp
        | some S1 =>
          rw [m_px_one hie hd hc] at hp
          obtain ⟨h1, h2⟩ := m_ct_kp (d := d) hc hi hb
          obtain ⟨g1, g2, g3, g4⟩ := m_px_kq hde f _ (by omega) hp h1 h2
          refine ⟨g1, g2, by omega, ?_⟩
          have : ((f + 1 : Nat) : Int) * 24000001 = f * 24000001 + 24000001 := by
            rw [Int.natCast_add, Int.add_mul]
            rfl
          omega
    · rw [m_px_stop hie] at hp
      cases hp
      exact ⟨hi, hb, Int.le_refl _, by omega⟩
/-- what a program's tables keep, for runs -/
def m_rw (n : Int) (k r t de : Int → Int) : Prop := (0 ≤ n ∧ n ≤ 24) ∧ (∀ i, 0 ≤ k i ∧ k i ≤ 3) ∧ (∀ i, 0 ≤ i → i < n → k i = 0 ∨ k i = 1 → 0 ≤ r i ∧ r i ≤ 7) ∧ (∀ i, 0 ≤ i → i < n → k i = 1 ∨ k i = 2 → 0 ≤ t i ∧ t i ≤ n) ∧ (∀ i, 0 ≤ i → i < n → de i = -1 ∨ (i < de i ∧ de i < n ∧ k i = 1 ∧ (∀ j, i < j → j < de i → k j = 0) ∧ k (de i) = 2))
theorem m_pd_rw {n : Int} {k r t de le dn : Int → Int} (h : m_pd n k r t de le dn) : m_rw n k r t de := ⟨h.1, h.2.1, h.2.2.2.1, h.2.2.2.2.2.1, m_pd_de h⟩
theorem m_pg_rw {n lc : Int} {k r t de lb lh le ld : Int → Int} (h : m_pg n lc k r t de lb lh le ld) : m_rw n k r t de := by
  obtain ⟨h1, h2, h3, h4, h5, h6, h7, h8, h9, h10⟩ := h
  refine ⟨h1, h2, h4, h6, fun i a b => ?_⟩
  rw [h8 i a b]
  rcases m_de_cases n k r t i with q | q
  · exact Or.inl q
  · exact Or.inr ⟨q.2.1, q.2.2.1, q.1, fun j a b => (q.2.2.2.2 j a b).1, q.2.2.2.1⟩
/-- the machine's place, steps and values -/
def m_tw (n pl st : Int) (v : Int → Int) : Prop := (0 ≤ pl ∧ pl ≤ n) ∧ (0 ≤ st ∧ st ≤ 1000000000000000) ∧ m_vw v
def m_go (n : Int) (k r : Int → Int) (pl st : Int) (v : Int → Int) : Prop := (pl < n ∧ ¬ k pl = 3) ∧ ¬ ((k pl = 0 ∧ 1000000 ≤ v (r pl)) ∨ 1000000000000000 ≤ st)
theorem m_sp_w {n : Int} {k r t de : Int → Int} {pl st : Int} {v : Int → Int} (hr : m_rw n k r t de) (hw : m_tw n pl st v) (hg : m_go n k r pl st v) : m_tw n (m_sp k r t pl v) (st + 1) (m_sv k r pl v) := by
  obtain ⟨h1, h2, h3, h4, h5⟩ := hr
  obtain ⟨w1, w2, w3, w4⟩ := hw
  obtain ⟨g1, g2⟩ := hg
  have hk := h2 pl
  have hv := w3 (r pl)
  refine ⟨?_, by omega, ?_, ?_⟩
  · unfold m_sp
    split
    · omega
    · have := h4 pl (by omega) (by omega) (by omega)
      exact this
  · unfold m_sv
    split
    · exact qU_rg w3 (by omega)
    · split
      · exact qU_rg w3 (by omega)
      · exact w3
  · intro c hc
    unfold m_sv
    split
    · have := h3 pl (by omega) (by omega) (by omega)
      rw [qU_n (by omega)]
      exact w4 c hc
    · split
      · have := h3 pl (by omega) (by omega) (by omega)
        rw [qU_n (by omega)]
        exact w4 c hc
      · exact w4 c hc
/-- counters that a pass does not name stay -/
theorem m_ct_o {c x : Int} {S S1 : m_S} (h : m_ct c x S = some S1) (hc : 0 ≤ c ∧ c ≤ 7) : ∀ j : Int, ¬ (0 ≤ j ∧ j < 8) → S1.1 j = S.1 j := by
  intro j hj
  rw [m_ct_val (m_ct_in h)] at h
  cases h
  exact qU_n (by omega)
theorem m_dr_o {r : Int → Int} {e x : Int} : ∀ (f : Nat) (j : Int) {S S1 : m_S}, (∀ i, j ≤ i → i < e → 0 ≤ r i ∧ r i ≤ 7) → m_dr r e x f j S = some S1 → ∀ c : Int, ¬ (0 ≤ c ∧ c < 8) → S1.1 c = S.1 c
  | 0, j, S, S1, hr, h, c, hc => by
    rw [m_dr] at h
    cases h
    rfl
  | f + 1, j, S, S1, hr, h, c, hc => by
    by_cases hj : j < e
    · cases hq : m_ct (r j) x S with
      | none =>
        rw [m_dr_no hj hq] at h
        cases h
      | some S2 =>
        rw [m_dr_go hj hq] at h
        exact (m_dr_o f (j + 1) (fun i a b => hr i (by omega) b) h c hc).trans (m_ct_o hq (hr j (Int.le_refl _) hj) c hc)
    · rw [m_dr_stop hj] at h
      cases h
      rfl
theorem m_px_o {n : Int} {k r t de : Int → Int} (hw : m_rw n k r t de) {h e : Int} : ∀ (f : Nat) (i d2 : Int) {S S' : m_S} {d d' : Int → Int} {len len' : Int}, 0 ≤ i → (m_ls n k de h f i d2).1 = e → m_px k r de h e f i S d len = some (S', d', len') → ∀ c : Int, ¬ (0 ≤ c ∧ c < 8) → S'.1 c = S.1 c
  | 0, i, d2, S, S', d, d', len, len', h0, hl, hp, c, hc => by
    rw [m_px] at hp
    cases hp
    rfl
  | f + 1, i, d2, S, S', d, d', len, len', h0, hl, hp, c, hc => by
    obtain ⟨w1, w2, w3, w4, w5⟩ := id hw
    by_cases hie : i < e
    · have hki : i < n ∧ k i < 2 := by
        by_cases hq : i < n ∧ k i < 2
        · exact hq
        · rw [m_ls_stop hq] at hl
          dsimp only at hl
          omega
      have hk := w2 i
      have hri := w3 i h0 hki.1 (by omega)
      by_cases hd : ¬ i = h ∧ 0 ≤ de i
      · have hde := (w5 i h0 hki.1).resolve_left (by omega)
        rw [m_ls_drain hki hd] at hl
        cases hq : m_dr r (de i) (S.1 (r i)) 24 (i + 1) S with
        | none =>
          rw [m_px_drainNo hie hd hq] at hp
          cases hp
        | some S1 =>
          rw [m_px_drain hie hd hq] at hp
          have h1 := m_px_o hw f (de i + 1) (d2 + 1) (by omega) hl hp c hc
          have h2 := m_dr_o 24 (i + 1) (fun j a b => w3 j (by omega) (by omega) (Or.inl (hde.2.2.2.1 j (by omega) b))) hq c hc
          rw [h1]
          dsimp only
          rw [qU_n (by omega)]
          exact h2
      · rw [m_ls_one hki hd] at hl
        cases hq : m_ct (r i) (if k i = 0 then 1 else -1) S with
        | none =>
          rw [m_px_oneNo hie hd hq] at hp
          cases hp
        | some S1 =>
          rw [m_px_one hie hd hq] at hp
          exact (m_px_o hw f (i + 1) d2 (by omega) hl hp c hc).trans (m_ct_o hq hri c hc)
    · rw [m_px_stop hie] at hp
      cases hp
      rfl
/-- what a full pass from a machine's values keeps -/
theorem m_xp_kp {n : Int} {k r t de : Int → Int} {pl : Int} {v w lo hi dr : Int → Int} {ln : Int} (hr : m_rw n k r t de) (hv : m_vw v) (hx : m_xp n k r t de pl v = some ((w, lo, hi), dr, ln)) :
    (∀ c, 0 ≤ w c ∧ w c ≤ 1000000) ∧ (∀ c : Int, ¬ (0 ≤ c ∧ c < 8) → w c = 0) ∧ (∀ c, ¬ dr c = 1 → lo c ≤ w c ∧ w c ≤ hi c) ∧ 0 ≤ ln ∧ ln ≤ 576000024 := by
  obtain ⟨a1, a2, a3, a4⟩ := m_xp_in hx
  have hle := (m_le_cases n k t de pl).resolve_left (by omega)
  have hn := hr.1
  have h1 := m_px_kq (r := r) (h := pl) (fun i b1 b2 b3 => by
    have q := (hr.2.2.2.2 i b1 (by omega)).resolve_left (by omega)
    exact (⟨q.1, by omega⟩ : i < de i ∧ de i < 24)) 24 pl a1 a4 (fun c => hv.1 c) (fun c _ => ⟨Int.le_refl _, Int.le_refl _⟩)
  have h2 := m_px_o hr 24 pl 0 a1 hle.2.2.symm a4
  refine ⟨h1.1, fun c hc => (h2 c hc).trans (hv.2 c hc), h1.2.1, h1.2.2.1, ?_⟩
  have := h1.2.2.2
  omega
theorem m_leap_w {n : Int} {k r t de : Int → Int} {pl st : Int} {v w lo hi dr : Int → Int} {ln sl : Int} (hr : m_rw n k r t de) (hw : m_tw n pl st v) (hx : m_xp n k r t de pl v = some ((w, lo, hi), dr, ln)) (hsl : sl ≤ 1000000000000000 - st) (hq : 0 < m_pq n k r t de pl v sl) :
    m_tw n pl (st + m_pq n k r t de pl v sl * (ln + 1)) (m_lf v (fun c => w c - v c) (m_pq n k r t de pl v sl) 8) ∧ m_pq n k r t de pl v sl * (ln + 1) ≤ sl := by
  obtain ⟨w1, w2, hv⟩ := hw
  obtain ⟨b1, b2, b3, b4, b5⟩ := m_xp_kp hr hv hx
  have h0 : m_ok (fun c => w c - v c) 0 (w, lo, hi) := m_ok_z (m_fl_lh hx hv.1)
  have hall : (∀ c : Int, 0 ≤ c → c < 8 → 0 ≤ v c + m_pq n k r t de pl v sl * (w c - v c) ∧ v c + m_pq n k r t de pl v sl * (w c - v c) ≤ 1000000) ∧ m_pq n k r t de pl v sl * (ln + 1) ≤ sl ∧ m_pq n k r t de pl v sl * (ln + 1) ≥ 0 := by
    revert hq
    unfold m_pq
    rw [hx]
    unfold m_np
    dsimp only
    by_cases h1 : sl < ln + 1
    · rw [if_pos h1]
      omega
    · rw [if_neg h1]
      by_cases h2 : ∃ c, 0 ≤ c ∧ c < 8 ∧ dr c = 1 ∧ ¬ w c - v c = 0
      · rw [if_pos h2]
        intro _
        refine ⟨fun c _ _ => ?_, by omega, by omega⟩
        have := b1 c
        omega
      · rw [if_neg h2]
        intro hq
        have hm := m_mn_le (m_po (fun c => w c - v c) (w, lo, hi)) (sl / (ln + 1)) 8
        generalize m_mn (m_po (fun c => w c - v c) (w, lo, hi)) 8 (sl / (ln + 1)) = q at hq hm ⊢
        have hd : sl / (ln + 1) ≤ sl := Int.ediv_le_self _ (by omega)
        refine ⟨fun c c1 c2 => ?_, (Int.le_ediv_iff_mul_le (by omega)).mp hm.1, Int.mul_nonneg (by omega) (by omega)⟩
        have hv1 := hv.1 c
        by_cases hdc : dr c = 1
        · have hz : w c - v c = 0 := by
            by_cases hz : w c - v c = 0
            · exact hz
            · exact absurd ⟨c, c1, c2, hdc, hz⟩ h2
          rw [hz, Int.mul_zero]
          omega
        · have hpo := (m_po_ok h0 (q := q - 1) (by omega) (by omega) c).mpr (by have := hm.2 c c1 c2; omega)
          have hbt := b3 c hdc
          have hmul : (q - 1) * (w c - v c) = q * (w c - v c) - (w c - v c) := by rw [Int.sub_mul, Int.one_mul]
          dsimp only at hpo
          omega
  refine ⟨⟨w1, by omega, fun c => ?_, fun c hc => ?_⟩, hall.2.1⟩
  · unfold m_lf
    by_cases hc : 0 ≤ c ∧ c < 8
    · rw [if_pos hc]
      exact hall.1 c hc.1 hc.2
    · rw [if_neg hc]
      exact hv.1 c
  · rw [m_lf_at hc]
    exact hv.2 c hc
abbrev m_T : Type := Int × Int × (Int → Int) × Int × Int × Int × Int
theorem m_sta_0 {n : Int} {k r t de : Int → Int} {pl st : Int} {v : Int → Int} (h : m_sta n k r t de pl st v 0) : m_go n k r pl st v ∧ ¬ (0 < m_pq n k r t de pl v (1000000000000000 - st) ∧ (∀ c, 0 ≤ c → c < 8 → m_dl (m_xp n k r t de pl v) v c = 0)) := by
  rcases h with h | h | h | h
  · omega
  · omega
  · omega
  · exact ⟨⟨h.2.1, h.2.2.1⟩, h.2.2.2⟩
theorem m_sta_u {n : Int} {k r t de : Int → Int} {pl st : Int} {v : Int → Int} {x y : Int} (hx : m_sta n k r t de pl st v x) (hy : m_sta n k r t de pl st v y) : x = y := by
  rcases hx with ⟨rfl, a⟩ | ⟨rfl, a, b⟩ | ⟨rfl, a, b, c, d⟩ | ⟨rfl, a, b, c⟩ <;> rcases hy with ⟨rfl, a'⟩ | ⟨rfl, a', b'⟩ | ⟨rfl, a', b', c', d'⟩ | ⟨rfl, a', b', c'⟩ <;> first | rfl | (exfalso; omega) | exact absurd ⟨c, d⟩ c' | exact absurd ⟨c', d'⟩ c
theorem m_sta_r {n : Int} {k r t de : Int → Int} {pl st : Int} {v : Int → Int} {x : Int} (hx : m_sta n k r t de pl st v x) : 0 ≤ x ∧ x ≤ 3 := by
  rcases hx with ⟨rfl, a⟩ | ⟨rfl, a, b⟩ | ⟨rfl, a, b, c, d⟩ | ⟨rfl, a, b, c⟩ <;> omega
/-- so many moves -/
noncomputable def m_ru (n : Int) (k r t de : Int → Int) (on : Int) : Nat → m_T → m_T
  | 0, T => T
  | f + 1, (pl, st, v, cn, hd, ps, ss) => @ite m_T (m_sta n k r t de pl st v 0) (Classical.propDecidable _)
      (@ite m_T (on = 1 ∧ 0 < m_pq n k r t de pl v (1000000000000000 - st)) (Classical.propDecidable _)
        (m_ru n k r t de on f (pl, st + m_pq n k r t de pl v (1000000000000000 - st) * m_ln (m_xp n k r t de pl v), m_lf v (m_dl (m_xp n k r t de pl v) v) (m_pq n k r t de pl v (1000000000000000 - st)) 8, cn + 1, pl, m_pq n k r t de pl v (1000000000000000 - st), m_ln (m_xp n k r t de pl v)))
        (m_ru n k r t de on f (m_sp k r t pl v, st + 1, m_sv k r pl v, cn, hd, ps, ss)))
      (pl, st, v, cn, hd, ps, ss)
theorem m_ru_stop {n : Int} {k r t de : Int → Int} {on : Int} {f : Nat} {pl st : Int} {v : Int → Int} {cn hd ps ss : Int} (h : ¬ m_sta n k r t de pl st v 0) : m_ru n k r t de on f (pl, st, v, cn, hd, ps, ss) = (pl, st, v, cn, hd, ps, ss) := by
  cases f with
  | zero => rfl
  | succ f => rw [m_ru, if_neg h]
theorem m_ru_leap {n : Int} {k r t de : Int → Int} {on : Int} {f : Nat} {pl st : Int} {v : Int → Int} {cn hd ps ss : Int} (h : m_sta n k r t de pl st v 0) (h2 : on = 1 ∧ 0 < m_pq n k r t de pl v (1000000000000000 - st)) : m_ru n k r t de on (f + 1) (pl, st, v, cn, hd, ps, ss) = m_ru n k r t de on f (pl, st + m_pq n k r t de pl v (1000000000000000 - st) * m_ln (m_xp n k r t de pl v), m_lf v (m_dl (m_xp n k r t de pl v) v) (m_pq n k r t de pl v (1000000000000000 - st)) 8, cn + 1, pl, m_pq n k r t de pl v (1000000000000000 - st), m_ln (m_xp n k r t de pl v)) := by
  rw [m_ru, if_pos h, if_pos h2]
theorem m_ru_step {n : Int} {k r t de : Int → Int} {on : Int} {f : Nat} {pl st : Int} {v : Int → Int} {cn hd ps ss : Int} (h : m_sta n k r t de pl st v 0) (h2 : ¬ (on = 1 ∧ 0 < m_pq n k r t de pl v (1000000000000000 - st))) : m_ru n k r t de on (f + 1) (pl, st, v, cn, hd, ps, ss) = m_ru n k r t de on f (m_sp k r t pl v, st + 1, m_sv k r pl v, cn, hd, ps, ss) := by
  rw [m_ru, if_pos h, if_neg h2]
/-- so many plain steps -/
noncomputable def m_pl (n : Int) (k r t : Int → Int) : Nat → Int → Int → Int → (Int → Int) → Int × Int × Int × (Int → Int)
  | 0, j, pl, st, v => (j, pl, st, v)
  | f + 1, j, pl, st, v => @ite (Int × Int × Int × (Int → Int)) (m_go n k r pl st v) (Classical.propDecidable _) (m_pl n k r t f (j + 1) (m_sp k r t pl v) (st + 1) (m_sv k r pl v)) (j, pl, st, v)
theorem m_pl_go {n : Int} {k r t : Int → Int} {f : Nat} {j pl st : Int} {v : Int → Int} (h : m_go n k r pl st v) : m_pl n k r t (f + 1) j pl st v = m_pl n k r t f (j + 1) (m_sp k r t pl v) (st + 1) (m_sv k r pl v) := by
  rw [m_pl, if_pos h]
theorem m_pl_stop {n : Int} {k r t : Int → Int} {f : Nat} {j pl st : Int} {v : Int → Int} (h : ¬ m_go n k r pl st v) : m_pl n k r t f j pl st v = (j, pl, st, v) := by
  cases f with
  | zero => rfl
  | succ f => rw [m_pl, if_neg h]
/-- a search for al steps -/
noncomputable def m_sk (n : Int) (k r t de : Int → Int) (al : Int) : Nat → Int → Int → (Int → Int) → Int × Int × (Int → Int)
  | 0, pl, st, v => (pl, st, v)
  | f + 1, pl, st, v => @ite (Int × Int × (Int → Int)) (st < al ∧ m_go n k r pl st v) (Classical.propDecidable _)
      (@ite (Int × Int × (Int → Int)) (0 < m_pq n k r t de pl v (al - st)) (Classical.propDecidable _)
        (m_sk n k r t de al f pl (st + m_pq n k r t de pl v (al - st) * m_ln (m_xp n k r t de pl v)) (m_lf v (m_dl (m_xp n k r t de pl v) v) (m_pq n k r t de pl v (al - st)) 8))
        (m_sk n k r t de al f (m_sp k r t pl v) (st + 1) (m_sv k r pl v)))
      (pl, st, v)
theorem m_sk_stop {n : Int} {k r t de : Int → Int} {al : Int} {f : Nat} {pl st : Int} {v : Int → Int} (h : ¬ (st < al ∧ m_go n k r pl st v)) : m_sk n k r t de al f pl st v = (pl, st, v) := by
  cases f with
  | zero => rfl
  | succ f => rw [m_sk, if_neg h]
theorem m_sk_leap {n : Int} {k r t de : Int → Int} {al : Int} {f : Nat} {pl st : Int} {v : Int → Int} (h : st < al ∧ m_go n k r pl st v) (h2 : 0 < m_pq n k r t de pl v (al - st)) : m_sk n k r t de al (f + 1) pl st v = m_sk n k r t de al f pl (st + m_pq n k r t de pl v (al - st) * m_ln (m_xp n k r t de pl v)) (m_lf v (m_dl (m_xp n k r t de pl v) v) (m_pq n k r t de pl v (al - st)) 8) := by
  rw [m_sk, if_pos h, if_pos h2]
theorem m_sk_step {n : Int} {k r t de : Int → Int} {al : Int} {f : Nat} {pl st : Int} {v : Int → Int} (h : st < al ∧ m_go n k r pl st v) (h2 : ¬ 0 < m_pq n k r t de pl v (al - st)) : m_sk n k r t de al (f + 1) pl st v = m_sk n k r t de al f (m_sp k r t pl v) (st + 1) (m_sv k r pl v) := by
  rw [m_sk, if_pos h, if_neg h2]
theorem m_fu_x {n : Int} {k r t de : Int → Int} {pl st : Int} {v bf bh : Int → Int} {tk : Int} (h : m_fu n k r t de pl st v bf bh tk) (hv : ∀ c, 0 ≤ v c ∧ v c ≤ 1000000) : tk = m_ln (m_xp n k r t de pl v) ∧ (fun c => bh c - v c) = m_dl (m_xp n k r t de pl v) v ∧ 0 < m_pq n k r t de pl v (1000000000000000 - st) ∧ bf = v ∧ 1 ≤ tk ∧ st + tk ≤ 1000000000000000 := by
  obtain ⟨lo, hi, dr, ln, a1, a2, a3, a4, a5, a6⟩ := h
  obtain ⟨b1, b2⟩ := m_px_rg a1 hv
  refine ⟨by rw [a1]; exact a2, by rw [a1]; rfl, m_pq_pos a1 a5 (by omega) b1 b2, a3, by omega, by omega⟩
theorem m_fu_no {n : Int} {k r t de : Int → Int} {pl st : Int} {v bf bh : Int → Int} {tk : Int} (h : m_fu n k r t de pl st v bf bh tk) (hv : ∀ c, 0 ≤ v c ∧ v c ≤ 1000000) (h0 : m_sta n k r t de pl st v 0) (he : m_eb v bh 8) : False := by
  obtain ⟨_, a, b, _⟩ := m_fu_x h hv
  refine (m_sta_0 h0).2 ⟨b, fun c c1 c2 => ?_⟩
  rw [← a]
  have := he c c1 c2
  dsimp only
  omega
theorem m_fu_w {n : Int} {k r t de : Int → Int} {pl st : Int} {v bf bh : Int → Int} {tk q sl : Int} (hr : m_rw n k r t de) (hw : m_tw n pl st v) (h : m_fu n k r t de pl st v bf bh tk) (hsl : sl ≤ 1000000000000000 - st) (hq : q = m_pq n k r t de pl v sl) (hp : 0 < q) : m_tw n pl (st + q * tk) (m_lf v (fun c => bh c - v c) q 8) ∧ q * tk ≤ sl := by
  obtain ⟨lo, hi, dr, ln, a1, a2, a3, a4, a5, a6⟩ := h
  have := m_leap_w hr hw a1 hsl (by rw [← hq]; exact hp)
  rw [hq, a2]
  exact this
theorem m_fu_al {n : Int} {k r t de : Int → Int} {pl st al : Int} {v bf bh : Int → Int} {tk : Int} (h : m_fu n k r t de pl st v bf bh tk) (hv : ∀ c, 0 ≤ v c ∧ v c ≤ 1000000) (hal : st ≤ al ∧ al ≤ 1000000000000000) (hst : 0 ≤ st) : m_pq n k r t de pl v (al - st) = min (m_pq n k r t de pl v (1000000000000000 - st)) ((al - st) / tk) ∧ (m_eb v bh 8 → m_pq n k r t de pl v (al - st) = (al - st) / tk) := by
  have hpos := (m_fu_x h hv).2.2.1
  obtain ⟨lo, hi, dr, ln, a1, a2, a3, a4, a5, a6⟩ := h
  rw [a2]
  have hq0 : 0 ≤ (al - st) / (ln + 1) := Int.ediv_nonneg (by omega) (by omega)
  have hq1 : (al - st) / (ln + 1) ≤ (1000000000000000 - st) / (ln + 1) := Int.ediv_le_ediv (by omega) (by omega)
  have hq2 : (al - st) / (ln + 1) ≤ al - st := Int.ediv_le_self _ (by omega)
  revert hpos
  unfold m_pq
  rw [a1]
  unfold m_np
  dsimp only
  rw [if_neg (show ¬ 1000000000000000 - st < ln + 1 by omega)]
  intro hpos
  by_cases h1 : al - st < ln + 1
  · rw [if_pos h1]
    have hz : (al - st) / (ln + 1) = 0 := Int.ediv_eq_zero_of_lt (by omega) h1
    rw [hz]
    exact ⟨by omega, fun _ => rfl⟩
  · rw [if_neg h1]
    have hq3 : 1 ≤ (al - st) / (ln + 1) := (Int.le_ediv_iff_mul_le (by omega)).mpr (by omega)
    by_cases h2 : ∃ c, 0 ≤ c ∧ c < 8 ∧ dr c = 1 ∧ ¬ bh c - v c = 0
    · rw [if_pos h2, if_pos h2]
      refine ⟨by omega, fun he => ?_⟩
      obtain ⟨c, c1, c2, _, c3⟩ := h2
      have := he c c1 c2
      omega
    · rw [if_neg h2, if_neg h2]
      constructor
      · have h5 := m_mn_min (m_po (fun c => bh c - v c) (bh, lo, hi)) ((al - st) / (ln + 1)) ((1000000000000000 - st) / (ln + 1)) 8
        rw [Int.min_eq_left hq1] at h5
        rw [h5]
        omega
      · intro he
        rcases m_mn_is (m_po (fun c => bh c - v c) (bh, lo, hi)) ((al - st) / (ln + 1)) 8 with q | ⟨c, c1, c2, q⟩
        · exact q
        · have hle := (m_mn_le (m_po (fun c => bh c - v c) (bh, lo, hi)) ((al - st) / (ln + 1)) 8).1
          have hz := he c c1 (by omega)
          unfold m_po at q
          dsimp only at q
          rw [if_neg (by omega), if_neg (by omega)] at q
          unfold m_po
          dsimp only
          unfold m_po at hle
          dsimp only at hle
          omega
def m_s4 (cd i pl1 pl st1 st : Int) (v1 v : Int → Int) : Prop := ¬ cd = 0 → i = 0 ∧ pl1 = pl ∧ st1 = st ∧ v1 = v
def m_c1 (k r de : Int → Int) (h e : Int) (v w : Int → Int) : Prop := ∃ (lo hi dr : Int → Int) (ln : Int), m_pa k r de h e v = some ((w, lo, hi), dr, ln) ∧ 0 ≤ ln ∧ ln ≤ 1000000000
def m_c0 (k r de : Int → Int) (h e : Int) (v : Int → Int) : Prop := ∀ (S : m_S) (d : Int → Int) (ln : Int), m_pa k r de h e v = some (S, d, ln) → 1000000000000000 < 0 + (ln + 1)

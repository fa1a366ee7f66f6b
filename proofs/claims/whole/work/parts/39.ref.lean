/-! the reference's passes -/
def m_df (f g : Int → Int) (i : Int) : Prop := ∃ c, 0 ≤ c ∧ c < i ∧ ¬ f c = g c
def m_eb (f g : Int → Int) (i : Int) : Prop := ∀ c, 0 ≤ c → c < i → f c = g c
theorem m_eb_0 (f g : Int → Int) : m_eb f g 0 := fun c a b => by omega
theorem m_eb_s {f g : Int → Int} {i : Int} (h : m_eb f g i) (he : f i = g i) : m_eb f g (i + 1) := fun c a b => by
  by_cases hc : c = i
  · rw [hc]
    exact he
  · exact h c a (by omega)
theorem m_df_s {f g : Int → Int} {i : Int} (h : m_df f g i) : m_df f g (i + 1) := by
  obtain ⟨c, a, b, d⟩ := h
  exact ⟨c, a, by omega, d⟩
theorem m_df_i {f g : Int → Int} {i : Int} (h0 : 0 ≤ i) (h : ¬ f i = g i) : m_df f g (i + 1) := ⟨i, h0, by omega, h⟩
theorem m_df_n {f g : Int → Int} {i : Int} (h : m_df f g i) : ¬ m_eb f g i := by
  obtain ⟨c, a, b, d⟩ := h
  exact fun q => d (q c a b)
def m_dc (r de bf bh : Int → Int) (h i : Int) : Prop := ∃ j, h < j ∧ j < i ∧ 0 ≤ de j ∧ ¬ bf (r j) = bh (r j)
def m_nc (r de bf bh : Int → Int) (h i : Int) : Prop := ∀ j, h < j → j < i → 0 ≤ de j → bf (r j) = bh (r j)
theorem m_nc_0 (r de bf bh : Int → Int) (h : Int) : m_nc r de bf bh h (h + 1) := fun j a b => by omega
theorem m_nc_s {r de bf bh : Int → Int} {h i : Int} (q : m_nc r de bf bh h i) (he : 0 ≤ de i → bf (r i) = bh (r i)) : m_nc r de bf bh h (i + 1) := fun j a b c => by
  by_cases hj : j = i
  · rw [hj] at c ⊢
    exact he c
  · exact q j a (by omega) c
theorem m_dc_s {r de bf bh : Int → Int} {h i : Int} (q : m_dc r de bf bh h i) : m_dc r de bf bh h (i + 1) := by
  obtain ⟨j, a, b, c⟩ := q
  exact ⟨j, a, by omega, c⟩
theorem m_dc_i {r de bf bh : Int → Int} {h i : Int} (h0 : h < i) (h1 : 0 ≤ de i) (h2 : ¬ bf (r i) = bh (r i)) : m_dc r de bf bh h (i + 1) := ⟨i, h0, by omega, h1, h2⟩
/-- what the reference's scratch keeps -/
def m_sw (bf bh kp : Int → Int) (tk : Int) : Prop := (∀ c, -1 ≤ bf c ∧ bf c ≤ 1000001) ∧ (∀ c, -1 ≤ bh c ∧ bh c ≤ 1000001) ∧ (∀ c : Int, ¬ (0 ≤ c ∧ c < 8) → bf c = 0 ∧ bh c = 0 ∧ kp c = 0) ∧ 0 ≤ tk ∧ tk ≤ 1000000000
def m_fu (n : Int) (k r t de : Int → Int) (pl st : Int) (v bf bh : Int → Int) (tk : Int) : Prop := ∃ (lo hi dr : Int → Int) (ln : Int), m_xp n k r t de pl v = some ((bh, lo, hi), dr, ln) ∧ tk = ln + 1 ∧ bf = v ∧ st + (ln + 1) ≤ 1000000000000000 ∧ 0 ≤ ln ∧ ∀ c, 0 ≤ bh c ∧ bh c ≤ 1000000
def m_nf (n : Int) (k r t de : Int → Int) (pl st : Int) (v : Int → Int) : Prop := ∀ (S : m_S) (d : Int → Int) (ln : Int), m_xp n k r t de pl v = some (S, d, ln) → 1000000000000000 < st + (ln + 1)
theorem m_pd_de {n : Int} {k r t de le dn : Int → Int} (h : m_pd n k r t de le dn) : ∀ i, 0 ≤ i → i < n → de i = -1 ∨ (i < de i ∧ de i < n ∧ k i = 1 ∧ (∀ j, i < j → j < de i → k j = 0) ∧ k (de i) = 2) := by
  intro i h1 h2
  obtain ⟨_, _, _, _, _, _, _, hd, _⟩ := h
  rw [hd i h1 h2]
  rcases m_de_cases n k r t i with q | q
  · exact Or.inl q
  · exact Or.inr ⟨q.2.1, q.2.2.1, q.1, fun j a b => (q.2.2.2.2 j a b).1, q.2.2.2.1⟩
theorem m_pd_r {n : Int} {k r t de le dn : Int → Int} (h : m_pd n k r t de le dn) : ∀ i, 0 ≤ i → i < n → 0 ≤ de i → 0 ≤ r i ∧ r i ≤ 7 := by
  intro i h1 h2 h3
  rcases m_pd_de h i h1 h2 with q | q
  · omega
  · exact h.2.2.2.1 i h1 h2 (Or.inr q.2.2.1)
/-- the drained counters -/
theorem m_px_dd {n : Int} {k r de : Int → Int} {h e : Int} (hde : ∀ i, 0 ≤ i → i < n → de i = -1 ∨ (i < de i ∧ de i < n ∧ k i = 1 ∧ (∀ j, i < j → j < de i → k j = 0) ∧ k (de i) = 2)) (he : e ≤ n) :
    ∀ (f : Nat) (i : Int) {S S' : m_S} {d d' : Int → Int} {len len' : Int}, 0 ≤ i → h ≤ i → e - i ≤ (f : Int) → m_px k r de h e f i S d len = some (S', d', len') → ∀ c, d' c = 1 ↔ (d c = 1 ∨ ∃ j, i ≤ j ∧ j < e ∧ ¬ j = h ∧ 0 ≤ de j ∧ r j = c)
  | 0, i, S, S', d, d', len, len', h0, hh, hg, hp, c => by
    rw [m_px] at hp
    cases hp
    constructor
    · exact Or.inl
    · rintro (q | ⟨j, a, b, _⟩)
      · exact q
      · omega
  | f + 1, i, S, S', d, d', len, len', h0, hh, hg, hp, c => by
    by_cases hie : i < e
    · by_cases hd : ¬ i = h ∧ 0 ≤ de i
      · cases hc : m_dr r (de i) (S.1 (r i)) 24 (i + 1) S with
        | none =>
          rw [m_px_drainNo hie hd hc] at hp
          cases hp
        | some S1 =>
          rw [m_px_drain hie hd hc] at hp
          have hq := (hde i h0 (by omega)).resolve_left (by omega)
          rw [m_px_dd hde he f (de i + 1) (by omega) (by omega) (by omega) hp c]
          constructor
          · rintro (q | ⟨j, a, b, a2, a3, a4⟩)
            · by_cases hci : c = r i
              · exact Or.inr ⟨i, by omega, hie, hd.1, hd.2, hci.symm⟩
              · rw [qU_n hci] at q
                exact Or.inl q
            · exact Or.inr ⟨j, by omega, b, a2, a3, a4⟩
          · rintro (q | ⟨j, a, b, a2, a3, a4⟩)
            · by_cases hci : c = r i
              · rw [hci]
                exact Or.inl (qU_s _ _ _)
              · exact Or.inl (by rw [qU_n hci]; exact q)
            · by_cases hj : de i + 1 ≤ j
              · exact Or.inr ⟨j, hj, b, a2, a3, a4⟩
              · by_cases hj2 : j = i
                · rw [hj2] at a4
                  rw [← a4]
                  exact Or.inl (qU_s _ _ _)
                · exfalso
                  have hq2 := (hde j (by omega) (by omega)).resolve_left (by omega)
                  by_cases hj3 : j = de i
                  · rw [hj3] at hq2
                    omega
                  · have := hq.2.2.2.1 j (by omega) (by omega)
                    omega
      · cases hc : m_ct (r i) (if k i = 0 then 1 else -1) S with
        | none =>
          rw [m_px_oneNo hie hd hc] at hp
          cases hp
        | some S1 =>
          rw [m_px_one hie hd hc] at hp
          rw [m_px_dd hde he f (i + 1) (by omega) (by omega) (by omega) hp c]
          constructor
          · rintro (q | ⟨j, a, b, a2, a3, a4⟩)
            · exact Or.inl q
            · exact Or.inr ⟨j, by omega, b, a2, a3, a4⟩
          · rintro (q | ⟨j, a, b, a2, a3, a4⟩)
            · exact Or.inl q
            · by_cases hj : j = i
              · rw [hj] at a2 a3
                exact absurd ⟨a2, a3⟩ hd
              · exact Or.inr ⟨j, by omega, b, a2, a3, a4⟩
    · rw [m_px_stop hie] at hp
      cases hp
      constructor
      · exact Or.inl
      · rintro (q | ⟨j, a, b, _⟩)
        · exact q
        · omega
theorem m_mb {a b : Int} (ha : 0 ≤ a ∧ a ≤ 1000001) (hb : -1000000 ≤ b ∧ b ≤ 1000000) : -1000001000000 ≤ a * b ∧ a * b ≤ 1000001000000 := by
  have h1 : a * b ≤ a * 1000000 := Int.mul_le_mul_of_nonneg_left hb.2 ha.1
  have h2 : a * (-1000000) ≤ a * b := Int.mul_le_mul_of_nonneg_left hb.1 ha.1
  omega
/-- what is at a head -/
theorem m_xp_in {n : Int} {k r t de : Int → Int} {pl : Int} {v : Int → Int} {Y : m_S × (Int → Int) × Int} (h : m_xp n k r t de pl v = some Y) : 0 ≤ pl ∧ pl < n ∧ 0 ≤ m_le n k t de pl ∧ m_pa k r de pl (m_le n k t de pl) v = some Y := by
  unfold m_xp at h
  by_cases hc : 0 ≤ pl ∧ pl < n ∧ 0 ≤ m_le n k t de pl
  · rw [if_pos hc] at h
    exact ⟨hc.1, hc.2.1, hc.2.2, h⟩
  · rw [if_neg hc] at h
    cases h
theorem m_xp_at {n : Int} {k r t de : Int → Int} {pl : Int} {v : Int → Int} (h : 0 ≤ pl ∧ pl < n ∧ 0 ≤ m_le n k t de pl) : m_xp n k r t de pl v = m_pa k r de pl (m_le n k t de pl) v := by
  unfold m_xp
  rw [if_pos h]
theorem m_xp_no {n : Int} {k r t de : Int → Int} {pl : Int} {v : Int → Int} (h : ¬ (0 ≤ pl ∧ pl < n ∧ 0 ≤ m_le n k t de pl)) : m_xp n k r t de pl v = none := by
  unfold m_xp
  rw [if_neg h]
theorem m_le_n (n : Int) (k t de : Int → Int) (h : Int) : m_le n k t de h < n ∨ m_le n k t de h = -1 := by
  rcases m_le_cases n k t de h with q | q
  · exact Or.inr q
  · exact Or.inl q.2.1
theorem m_ok_z {δ : Int → Int} {S : m_S} (h : m_ok (fun _ => 0) 0 S) : m_ok δ 0 S := fun c => by
  have := h c
  rw [Int.zero_mul] at this ⊢
  exact this
/-- a drained counter is changed just where the reference finds it so -/
theorem m_dc_of {n : Int} {k r t de le dn : Int → Int} {pl : Int} {v w lo hi dr : Int → Int} {ln : Int} (hpd : m_pd n k r t de le dn) (hx : m_xp n k r t de pl v = some ((w, lo, hi), dr, ln)) : (m_dc r de v w pl (m_le n k t de pl) → ∃ c, 0 ≤ c ∧ c < 8 ∧ dr c = 1 ∧ ¬ w c - v c = 0) ∧ (m_nc r de v w pl (m_le n k t de pl) → ∀ c, 0 ≤ c → c < 8 → dr c = 1 → w c - v c = 0) := by
  obtain ⟨h1, h2, h3, h4⟩ := m_xp_in hx
  have h5 := m_le_n n k t de pl
  have hn := hpd.1
  have hdd := m_px_dd (m_pd_de hpd) (r := r) (h := pl) (e := m_le n k t de pl) (by omega) 24 pl h1 (Int.le_refl _) (by omega) h4
  constructor
  · rintro ⟨j, a, b, c, d⟩
    have hr := m_pd_r hpd j (by omega) (by omega) c
    exact ⟨r j, hr.1, by omega, (hdd (r j)).mpr (Or.inr ⟨j, by omega, b, by omega, c, rfl⟩), by omega⟩
  · intro hn c a b hd
    rcases (hdd c).mp hd with q | ⟨j, a1, a2, a3, a4, a5⟩
    · exact absurd q (by decide)
    · have := hn j (by omega) a2 a4
      rw [a5] at this
      omega
/-- what the search finds is the class's formula -/
theorem m_pq_of {n : Int} {k r t de : Int → Int} {pl : Int} {v w lo hi dr δ : Int → Int} {ln sl low : Int} (hδ : δ = fun c => w c - v c) (hx : m_xp n k r t de pl v = some ((w, lo, hi), dr, ln)) (hln : 0 ≤ ln) (hsl : ln + 1 ≤ sl) (hsl2 : sl ≤ 1000000000000000) (h0 : m_ok δ 0 (w, lo, hi)) (hnd : ∀ c, 0 ≤ c → c < 8 → dr c = 1 → w c - v c = 0)
    (hz : ∀ c : Int, ¬ (0 ≤ c ∧ c < 8) → δ c = 0) (hl : 0 ≤ low ∧ low ≤ 1000001) (hL : m_ok δ low (w, lo, hi)) (hH : ¬ m_ok δ (low + 1) (w, lo, hi)) : m_pq n k r t de pl v sl = min (low + 1) (sl / (ln + 1)) := by
  have hB : m_mn (m_po δ (w, lo, hi)) 8 1000000000000000 = low + 1 := by
    have h1 : low < m_mn (m_po δ (w, lo, hi)) 8 1000000000000000 := (m_mn_lt (by omega) 8).mpr (fun c _ _ => (m_po_ok h0 hl.1 (by omega) c).mp (hL c))
    have h2 : ¬ low + 1 < m_mn (m_po δ (w, lo, hi)) 8 1000000000000000 := fun h => hH (fun c => by
      by_cases hc : 0 ≤ c ∧ c < 8
      · exact (m_po_ok h0 (by omega) (by omega) c).mpr ((m_mn_lt (by omega) 8).mp h c hc.1 hc.2)
      · have h3 := h0 c
        rw [hz c hc, Int.mul_zero] at h3 ⊢
        exact h3)
    omega
  have hq : sl / (ln + 1) ≤ sl := Int.ediv_le_self _ (by omega)
  unfold m_pq
  rw [hx]
  unfold m_np
  dsimp only
  rw [if_neg (by omega), if_neg (by rintro ⟨c, a, b, d, e⟩; exact e (hnd c a b d)), ← hδ]
  have h5 := m_mn_min (m_po δ (w, lo, hi)) (sl / (ln + 1)) 1000000000000000 8
  rw [show min (sl / (ln + 1)) 1000000000000000 = sl / (ln + 1) by omega, hB] at h5
  rw [h5]
  omega
theorem m_pq_dc {n : Int} {k r t de : Int → Int} {pl : Int} {v w lo hi dr : Int → Int} {ln sl : Int} (hx : m_xp n k r t de pl v = some ((w, lo, hi), dr, ln)) (hsl : ln + 1 ≤ sl) (hd : ∃ c, 0 ≤ c ∧ c < 8 ∧ dr c = 1 ∧ ¬ w c - v c = 0) : m_pq n k r t de pl v sl = 1 := by
  unfold m_pq
  rw [hx]
  unfold m_np
  dsimp only
  rw [if_neg (by omega), if_pos hd]
theorem m_pq_no {n : Int} {k r t de : Int → Int} {pl st : Int} {v : Int → Int} (h : m_nf n k r t de pl st v) {al : Int} (hal : al ≤ 1000000000000000) : m_pq n k r t de pl v (al - st) = 0 := by
  unfold m_pq m_np
  cases hx : m_xp n k r t de pl v with
  | none => rfl
  | some Y =>
    obtain ⟨S, d, ln⟩ := Y
    have := h S d ln hx
    dsimp only
    rw [if_pos (by omega)]
theorem m_pq_pos {n : Int} {k r t de : Int → Int} {pl : Int} {v w lo hi dr : Int → Int} {ln sl : Int} (hx : m_xp n k r t de pl v = some ((w, lo, hi), dr, ln)) (hln : 0 ≤ ln) (hsl : ln + 1 ≤ sl) (hlo : ∀ c, 0 ≤ lo c ∧ lo c ≤ 1000000) (hhi : ∀ c, 0 ≤ hi c ∧ hi c ≤ 1000000) : 0 < m_pq n k r t de pl v sl := by
  unfold m_pq
  rw [hx]
  unfold m_np
  dsimp only
  rw [if_neg (by omega)]
  split
  · omega
  · rcases m_mn_is (m_po (fun c => w c - v c) (w, lo, hi)) (sl / (ln + 1)) 8 with q | ⟨c, _, _, q⟩
    · rw [q]
      have : 1 ≤ sl / (ln + 1) := (Int.le_ediv_iff_mul_le (by omega)).mpr (by omega)
      omega
    · rw [q]
      have := m_po_rg (ch := fun c => w c - v c) (S := (w, lo, hi)) hlo hhi c
      omega
theorem m_fl_lh {n : Int} {k r t de : Int → Int} {pl : Int} {v w lo hi dr : Int → Int} {ln : Int} (hx : m_xp n k r t de pl v = some ((w, lo, hi), dr, ln)) (hv : ∀ c, 0 ≤ v c ∧ v c ≤ 1000000) : m_ok (fun _ => 0) 0 (w, lo, hi) := by
  obtain ⟨h1, h2, h3, h4⟩ := m_xp_in hx
  exact m_px_lh 24 pl h4 (fun c => by have := hv c; dsimp only; omega)
theorem m_px_rg {n : Int} {k r t de : Int → Int} {pl : Int} {v w lo hi dr : Int → Int} {ln : Int} (hx : m_xp n k r t de pl v = some ((w, lo, hi), dr, ln)) (hv : ∀ c, 0 ≤ v c ∧ v c ≤ 1000000) : (∀ c, 0 ≤ lo c ∧ lo c ≤ 1000000) ∧ ∀ c, 0 ≤ hi c ∧ hi c ≤ 1000000 := by
  have h1 := m_fl_lh hx hv
  have h2 := (m_px_mo 24 pl (m_xp_in hx).2.2.2).1
  refine ⟨fun c => ?_, fun c => ?_⟩
  · have a := h1 c
    have b := h2 c
    have d := hv c
    dsimp only at a b
    omega
  · have a := h1 c
    have b := h2 c
    have d := hv c
    dsimp only at a b
    omega
theorem m_sta_fu {n : Int} {k r t de le dn : Int → Int} {pl st : Int} {v bf bh : Int → Int} {tk x y : Int} (hv : ∀ c, 0 ≤ v c ∧ v c ≤ 1000000) (hpd : m_pd n k r t de le dn) (h1 : pl < n ∧ ¬ k pl = 3) (h2 : ¬ ((k pl = 0 ∧ 1000000 ≤ v (r pl)) ∨ 1000000000000000 ≤ st))
    (hf : (x = 1 ∧ m_fu n k r t de pl st v bf bh tk) ∨ (x = 0 ∧ m_nf n k r t de pl st v)) (hy : (y = 3 ∧ x = 1 ∧ m_eb bf bh 8) ∨ (y = 0 ∧ (x = 0 ∨ (x = 1 ∧ m_df bf bh 8)))) : m_sta n k r t de pl st v y := by
  rcases hf with ⟨hx, lo, hi, dr, ln, a1, a2, a3, a4, a5, a6⟩ | ⟨hx, hn⟩
  · obtain ⟨b1, b2⟩ := m_px_rg a1 hv
    have hp : 0 < m_pq n k r t de pl v (1000000000000000 - st) := m_pq_pos a1 a5 (by omega) b1 b2
    have hdl : m_dl (m_xp n k r t de pl v) v = fun c => bh c - v c := by rw [a1]; rfl
    rw [a3] at hy
    rcases hy with ⟨h3, _, h4⟩ | ⟨h3, h4⟩
    · refine Or.inr (Or.inr (Or.inl ⟨h3, h1, h2, hp, fun c c1 c2 => ?_⟩))
      rw [hdl]
      have := h4 c c1 c2
      dsimp only
      omega
    · refine Or.inr (Or.inr (Or.inr ⟨h3, h1, h2, ?_⟩))
      rintro ⟨_, h5⟩
      rcases h4 with h4 | ⟨_, c, c1, c2, c3⟩
      · omega
      · have := h5 c c1 c2
        rw [hdl] at this
        dsimp only at this
        omega
  · have hz := m_pq_no hn (Int.le_refl _)
    rcases hy with ⟨h3, h4, _⟩ | ⟨h3, h4⟩
    · omega
    · refine Or.inr (Or.inr (Or.inr ⟨h3, h1, h2, ?_⟩))
      rintro ⟨h5, _⟩
      omega
/-- out of the limits somewhere -/
def m_og (v δ : Int → Int) (q : Int) : Prop := ∃ c, 0 ≤ c ∧ c < 8 ∧ ¬ (0 ≤ v c + q * δ c ∧ v c + q * δ c ≤ 1000000)
theorem m_og_i {v δ : Int → Int} {q i : Int} (hi : 0 ≤ i ∧ i ≤ 8) (h : i < 8 ∧ ¬ (0 ≤ v i + q * δ i ∧ v i + q * δ i ≤ 1000000)) : m_og v δ q := ⟨i, hi.1, h.1, h.2⟩
theorem m_og_n {k r de : Int → Int} {h e : Int} {f : Nat} {i : Int} {v d d' δ : Int → Int} {S : m_S} {len len' q : Int} (hp : m_px k r de h e f i (v, v, v) d len = some (S, d', len')) (ho : m_og v δ q) : ¬ m_ok δ q S := by
  obtain ⟨c, a, b, h3⟩ := ho
  exact fun hk => h3 (m_ok_in hp hk c)
theorem m_eb_q {f g : Int → Int} {i x : Int} (h : m_eb f g i) (hx : x = g i) : m_eb (qU f i x) g (i + 1) := fun c a b => by
  by_cases hc : c = i
  · rw [hc, qU_s, hx]
  · rw [qU_n hc]
    exact h c a (by omega)
theorem m_eb_all {f g : Int → Int} (h : m_eb f g 8) (ho : ∀ c : Int, ¬ (0 ≤ c ∧ c < 8) → f c = g c) : f = g := by
  funext c
  by_cases hc : 0 ≤ c ∧ c < 8
  · exact h c hc.1 hc.2
  · exact ho c hc
theorem m_sw_bf {bf bh kp : Int → Int} {tk i x : Int} (h : m_sw bf bh kp tk) (hi : 0 ≤ i ∧ i ≤ 8) (hx : i < 8 ∧ -1 ≤ x ∧ x ≤ 1000001) : m_sw (qU bf i x) bh kp tk :=
  ⟨qU_rg h.1 hx.2, h.2.1, fun c hc => ⟨(qU_n (by omega)).trans (h.2.2.1 c hc).1, (h.2.2.1 c hc).2⟩, h.2.2.2⟩
/-- a million and one passes are too many, where one changes something -/
theorem m_ok_hi {v δ bh lo hi : Int → Int} (hdf : m_df v bh 8) (hδ : δ = fun c => bh c - v c) (hv : ∀ c, 0 ≤ v c ∧ v c ≤ 1000000) (hm : m_mo (v, v, v) (bh, lo, hi)) : ¬ m_ok δ 1000001 (bh, lo, hi) := by
  obtain ⟨c, a, b, h⟩ := hdf
  intro ho
  have h1 := ho c
  have h2 := hm c
  have h3 := hv c
  have h4 : δ c = bh c - v c := by rw [hδ]
  dsimp only at h1 h2
  by_cases hp : 0 < δ c
  · have : 1000001 * 1 ≤ 1000001 * δ c := by omega
    omega
  · omega
theorem m_mid {k r de : Int → Int} {h e : Int} {v bf2 w2 dr δ : Int → Int} {S : m_S} {ln q xf tk2 le0 : Int} (hp : m_px k r de h e 24 h (v, v, v) (fun _ => 0) 0 = some (S, dr, ln)) (hd : ∀ c, dr c = 1 → δ c = 0) (hb : bf2 = fun c => v c + q * δ c) (hin : ∀ c, 0 ≤ v c + q * δ c ∧ v c + q * δ c ≤ 1000000) (_ : e = le0) (hln : 0 ≤ ln ∧ ln ≤ 1000000000)
    (hfin : (xf = 1 ∧ ∃ (lo' hi' dr' : Int → Int) (ln' : Int), m_px k r de h e 24 h (bf2, bf2, bf2) (fun _ => 0) 0 = some ((w2, lo', hi'), dr', ln') ∧ tk2 = ln' + 1 ∧ 0 + (ln' + 1) ≤ 1000000000000000 ∧ 0 ≤ ln' ∧ (∀ c, 0 ≤ w2 c ∧ w2 c ≤ 1000000)) ∨ (xf = 0 ∧ ∀ (S' : m_S) (d : Int → Int) (ln' : Int), m_px k r de h e 24 h (bf2, bf2, bf2) (fun _ => 0) 0 = some (S', d, ln') → 1000000000000000 < 0 + (ln' + 1))) :
    (xf = 1 → m_ok δ q S) ∧ (xf = 0 → ¬ m_ok δ q S) := by
  have hf := m_full hp hd hin
  have hs : m_sh δ q (v, v, v) = (bf2, bf2, bf2) := by rw [hb]; rfl
  rw [hs] at hf
  constructor
  · intro hx
    rcases hfin with ⟨_, lo', hi', dr', ln', a, _⟩ | ⟨h1, _⟩
    · by_cases ho : m_ok δ q S
      · exact ho
      · rw [hf.2 ho] at a
        cases a
    · omega
  · intro hx ho
    rcases hfin with ⟨h1, _⟩ | ⟨_, h2⟩
    · omega
    · have := h2 _ _ _ (hf.1 ho)
      omega

/-! a whole pass, moved -/
/-- the drained ones stay drained -/
def m_dm (d d' : Int → Int) : Prop := ∀ c, d c = 1 → d' c = 1
theorem m_dm.up {d d' : Int → Int} {c : Int} (h : m_dm (qU d c 1) d') : m_dm d d' ∧ d' c = 1 := by
  refine ⟨fun j hj => h j ?_, h c ?_⟩
  · unfold qU
    by_cases hc : j = c
    · rw [if_pos hc]
    · rw [if_neg hc]
      exact hj
  · exact qU_s d c 1
theorem m_px_mo {k r de : Int → Int} {h e : Int} : ∀ (f : Nat) (i : Int) {S S' : m_S} {d d' : Int → Int} {len len' : Int}, m_px k r de h e f i S d len = some (S', d', len') → m_mo S S' ∧ m_dm d d'
  | 0, i, S, S', d, d', len, len', hp => by
    rw [m_px] at hp
    cases hp
    exact ⟨m_mo.refl _, fun _ h => h⟩
  | f + 1, i, S, S', d, d', len, len', hp => by
    by_cases hi : i < e
    · by_cases hd : ¬ i = h ∧ 0 ≤ de i
      · cases hc : m_dr r (de i) (S.1 (r i)) 24 (i + 1) S with
        | none =>
          rw [m_px_drainNo hi hd hc] at hp
          cases hp
        | some S1 =>
          rw [m_px_drain hi hd hc] at hp
          obtain ⟨h1, h2⟩ := m_px_mo f _ hp
          have h3 : m_mo S1 (qU S1.1 (r i) 0, S1.2) := fun _ => ⟨Int.le_refl _, Int.le_refl _⟩
          exact ⟨((m_dr_mo 24 _ hc).trans h3).trans h1, h2.up.1⟩
      · cases hc : m_ct (r i) (if k i = 0 then 1 else -1) S with
        | none =>
          rw [m_px_oneNo hi hd hc] at hp
          cases hp
        | some S1 =>
          rw [m_px_one hi hd hc] at hp
          obtain ⟨h1, h2⟩ := m_px_mo f _ hp
          exact ⟨(m_ct_mo hc).trans h1, h2⟩
    · rw [m_px_stop hi] at hp
      cases hp
      exact ⟨m_mo.refl _, fun _ h => h⟩
theorem m_sh_zero {δ : Int → Int} {q c : Int} {S : m_S} (h0 : δ c = 0) : m_sh δ q (qU S.1 c 0, S.2) = (qU (m_sh δ q S).1 c 0, (m_sh δ q S).2) := by
  unfold m_sh
  dsimp only
  rw [m_qU_sh, h0]
  simp
theorem m_px_sh {k r de δ : Int → Int} {h e q : Int} : ∀ (f : Nat) (i : Int) {S S' : m_S} {d d' : Int → Int} {len len' : Int}, m_px k r de h e f i S d len = some (S', d', len') → m_ok δ q S' → (∀ c, d' c = 1 → δ c = 0) →
    m_px k r de h e f i (m_sh δ q S) d len = some (m_sh δ q S', d', len')
  | 0, i, S, S', d, d', len, len', hp, ho, hd0 => by
    rw [m_px] at hp ⊢
    cases hp
    rfl
  | f + 1, i, S, S', d, d', len, len', hp, ho, hd0 => by
    by_cases hi : i < e
    · by_cases hd : ¬ i = h ∧ 0 ≤ de i
      · cases hc : m_dr r (de i) (S.1 (r i)) 24 (i + 1) S with
        | none =>
          rw [m_px_drainNo hi hd hc] at hp
          cases hp
        | some S1 =>
          rw [m_px_drain hi hd hc] at hp
          obtain ⟨h1, h2⟩ := m_px_mo f _ hp
          have h0 : δ (r i) = 0 := hd0 _ h2.up.2
          have hv : (m_sh δ q S).1 (r i) = S.1 (r i) := by
            show S.1 (r i) + q * δ (r i) = S.1 (r i)
            rw [h0]
            omega
          have ho1 : m_ok δ q S1 := fun c => (ho.mono h1) c
          have hc2 : m_dr r (de i) ((m_sh δ q S).1 (r i)) 24 (i + 1) (m_sh δ q S) = some (m_sh δ q S1) := by
            rw [hv]
            exact m_dr_sh 24 _ hc ho1
          rw [m_px_drain hi hd hc2, hv]
          have hm := m_px_sh f _ hp ho hd0
          rw [m_sh_zero h0] at hm
          exact hm
      · cases hc : m_ct (r i) (if k i = 0 then 1 else -1) S with
        | none =>
          rw [m_px_oneNo hi hd hc] at hp
          cases hp
        | some S1 =>
          rw [m_px_one hi hd hc] at hp
          obtain ⟨h1, h2⟩ := m_px_mo f _ hp
          rw [m_px_one hi hd (m_ct_sh hc (ho.mono h1))]
          exact m_px_sh f _ hp ho hd0
    · rw [m_px_stop hi] at hp ⊢
      cases hp
      rfl
theorem m_px_back {k r de δ : Int → Int} {h e q : Int} : ∀ (f : Nat) (i : Int) {S S' : m_S} {d d' : Int → Int} {len len' : Int} {X : m_S × (Int → Int) × Int}, m_px k r de h e f i S d len = some (S', d', len') → m_ok δ q S → (∀ c, d' c = 1 → δ c = 0) →
    m_px k r de h e f i (m_sh δ q S) d len = some X → m_ok δ q S'
  | 0, i, S, S', d, d', len, len', X, hp, ho, hd0, hX => by
    rw [m_px] at hp
    cases hp
    exact ho
  | f + 1, i, S, S', d, d', len, len', X, hp, ho, hd0, hX => by
    by_cases hi : i < e
    · by_cases hd : ¬ i = h ∧ 0 ≤ de i
      · cases hc : m_dr r (de i) (S.1 (r i)) 24 (i + 1) S with
        | none =>
          rw [m_px_drainNo hi hd hc] at hp
          cases hp
        | some S1 =>
          rw [m_px_drain hi hd hc] at hp
          obtain ⟨h1, h2⟩ := m_px_mo f _ hp
          have h0 : δ (r i) = 0 := hd0 _ h2.up.2
          have hv : (m_sh δ q S).1 (r i) = S.1 (r i) := by
            show S.1 (r i) + q * δ (r i) = S.1 (r i)
            rw [h0]
            omega
          cases hcX : m_dr r (de i) ((m_sh δ q S).1 (r i)) 24 (i + 1) (m_sh δ q S) with
          | none =>
            rw [m_px_drainNo hi hd hcX] at hX
            cases hX
          | some X2 =>
            have ho1 : m_ok δ q S1 := m_dr_back 24 _ hc ho (by rw [hv] at hcX; exact hcX)
            have hc2 : m_dr r (de i) ((m_sh δ q S).1 (r i)) 24 (i + 1) (m_sh δ q S) = some (m_sh δ q S1) := by
              rw [hv]
              exact m_dr_sh 24 _ hc ho1
            rw [m_px_drain hi hd hc2, hv, ← m_sh_zero h0] at hX
            exact m_px_back f _ hp (fun c => ho1 c) hd0 hX
      · cases hc : m_ct (r i) (if k i = 0 then 1 else -1) S with
        | none =>
          rw [m_px_oneNo hi hd hc] at hp
          cases hp
        | some S1 =>
          rw [m_px_one hi hd hc] at hp
          cases hcX : m_ct (r i) (if k i = 0 then 1 else -1) (m_sh δ q S) with
          | none =>
            rw [m_px_oneNo hi hd hcX] at hX
            cases hX
          | some X2 =>
            have ho1 := m_ct_back hc ho hcX
            rw [m_px_one hi hd (m_ct_sh hc ho1)] at hX
            exact m_px_back f _ hp ho1 hd0 hX
    · rw [m_px_stop hi] at hp
      cases hp
      exact ho
/-! what a pass keeps: values within the limits; where nothing drained, between the lowest and the highest; its length -/
def m_in (S : m_S) : Prop := ∀ c, 0 ≤ S.1 c ∧ S.1 c ≤ 1000000
def m_bt (S : m_S) (d : Int → Int) : Prop := ∀ c, ¬ d c = 1 → S.2.1 c ≤ S.1 c ∧ S.1 c ≤ S.2.2 c
theorem m_ct_kp {c x : Int} {S S1 : m_S} {d : Int → Int} (h : m_ct c x S = some S1) (hi : m_in S) (hb : m_bt S d) : m_in S1 ∧ m_bt S1 d := by
  have hin := m_ct_in h
  rw [m_ct_val hin] at h
  cases h
  refine ⟨fun j => ?_, fun j hj => ?_⟩
  · dsimp only [qU]
    by_cases hc : j = c
    · rw [if_pos hc]
      exact hin
    · rw [if_neg hc]
      exact hi j
  · dsimp only [qU]
    by_cases hc : j = c
    · rw [if_pos hc, if_pos hc, if_pos hc]
      omega
    · rw [if_neg hc, if_neg hc, if_neg hc]
      exact hb j hj
theorem m_dr_kp {r : Int → Int} {e x : Int} {d : Int → Int} : ∀ (f : Nat) (j : Int) {S S1 : m_S}, m_dr r e x f j S = some S1 → m_in S → m_bt S d → m_in S1 ∧ m_bt S1 d
  | 0, j, S, S1, h, hi, hb => by
    rw [m_dr] at h
    cases h
    exact ⟨hi, hb⟩
  | f + 1, j, S, S1, h, hi, hb => by
    by_cases hj : j < e
    · cases hc : m_ct (r j) x S with
      | none =>
        rw [m_dr_no hj hc] at h
        cases h
      | some S2 =>
        rw [m_dr_go hj hc] at h
        obtain ⟨h1, h2⟩ := m_ct_kp (d := d) hc hi hb
        exact m_dr_kp f (j + 1) h h1 h2
    · rw [m_dr_stop hj] at h
      cases h
      exact ⟨hi, hb⟩
theorem m_px_kp {k r de : Int → Int} {h e : Int} (hde : ∀ i, 0 ≤ de i → i < de i ∧ de i < 24) : ∀ (f : Nat) (i : Int) {S S' : m_S} {d d' : Int → Int} {len len' : Int}, 0 ≤ i → m_px k r de h e f i S d len = some (S', d', len') → m_in S → m_bt S d → m_in S' ∧ m_bt S' d' ∧ len ≤ len' ∧ len' ≤ len + f * 24000001
  | 0, i, S, S', d, d', len, len', h0, hp, hi, hb => by
    rw [m_px] at hp
    cases hp
    exact ⟨hi, hb, Int.le_refl _, by omega⟩
  | f + 1, i, S, S', d, d', len, len', h0, hp, hi, hb => by
    by_cases hie : i < e
    · by_cases hd : ¬ i = h ∧ 0 ≤ de i
      · cases hc : m_dr r (de i) (S.1 (r i)) 24 (i + 1) S with
        | none =>
          rw [m_px_drainNo hie hd hc] at hp
          cases hp
        | some S1 =>
          rw [m_px_drain hie hd hc] at hp
          obtain ⟨h1, h2⟩ := m_dr_kp (d := d) 24 _ hc hi hb
          have h3 : m_in (qU S1.1 (r i) 0, S1.2) := fun j => by
            dsimp only [qU]
            by_cases hc : j = r i
            · rw [if_pos hc]
              omega
            · rw [if_neg hc]
              exact h1 j
          have h4 : m_bt (qU S1.1 (r i) 0, S1.2) (qU d (r i) 1) := fun j hj => by
            dsimp only [qU] at hj ⊢
            by_cases hc : j = r i
            · rw [if_pos hc] at hj
              exact absurd rfl hj
            · rw [if_neg hc] at hj ⊢
              exact h2 j hj
          obtain ⟨g1, g2, g3, g4⟩ := m_px_kp hde f _ (by have := hde i hd.2; omega) hp h3 h4
          have hv := hi (r i)
          have hw := hde i hd.2
          have hm : 0 ≤ S.1 (r i) * (de i - i + 1) := Int.mul_nonneg hv.1 (by omega)
          have hm2 : S.1 (r i) * (de i - i + 1) ≤ 1000000 * 24 := Int.mul_le_mul hv.2 (by omega) (by omega) (by omega)
          refine ⟨g1, g2, by omega, ?_⟩
          have : ((f + 1 : Nat) : Int) * 24000001 = f * 24000001 + 24000001 := by
            rw [Int.natCast_add, Int.add_mul]
            rfl
          omega
      · cases hc : m_ct (r i) (if k i = 0 then 1 else -1) S with
        | none =>
          rw [m_px_oneNo hie hd hc] at hp
          cases hp
        | some S1 =>
          rw [m_px_one hie hd hc] at hp
          obtain ⟨h1, h2⟩ := m_ct_kp (d := d) hc hi hb
          obtain ⟨g1, g2, g3, g4⟩ := m_px_kp hde f _ (by omega) hp h1 h2
          refine ⟨g1, g2, by omega, ?_⟩
          have : ((f + 1 : Nat) : Int) * 24000001 = f * 24000001 + 24000001 := by
            rw [Int.natCast_add, Int.add_mul]
            rfl
          omega
    · rw [m_px_stop hie] at hp
      cases hp
      exact ⟨hi, hb, Int.le_refl _, by omega⟩
/-- the least of the first j of P, and q -/
def m_mn (P : Int → Int) : Nat → Int → Int
  | 0, q => q
  | j + 1, q => min (m_mn P j q) (P (j : Int))
theorem m_mn_le (P : Int → Int) (q : Int) : ∀ (j : Nat), m_mn P j q ≤ q ∧ ∀ c : Int, 0 ≤ c → c < j → m_mn P j q ≤ P c
  | 0 => ⟨Int.le_refl _, fun c h1 h2 => by omega⟩
  | j + 1 => by
    obtain ⟨h1, h2⟩ := m_mn_le P q j
    rw [m_mn]
    refine ⟨by omega, fun c h3 h4 => ?_⟩
    by_cases hc : c = j
    · subst hc
      omega
    · have := h2 c h3 (by omega)
      omega
theorem m_mn_is (P : Int → Int) (q : Int) : ∀ (j : Nat), m_mn P j q = q ∨ ∃ c : Int, 0 ≤ c ∧ c < j ∧ m_mn P j q = P c
  | 0 => Or.inl rfl
  | j + 1 => by
    have h := m_mn_is P q j
    rw [m_mn]
    by_cases hm : m_mn P j q ≤ P j
    · rw [Int.min_eq_left hm]
      rcases h with h | ⟨c, h1, h2, h3⟩
      · exact Or.inl h
      · exact Or.inr ⟨c, h1, by omega, h3⟩
    · rw [Int.min_eq_right (by omega)]
      exact Or.inr ⟨j, by omega, by omega, rfl⟩
/-- how many passes a counter leaves room for -/
def m_po (δ : Int → Int) (S : m_S) (c : Int) : Int := if 0 < δ c then (1000000 - S.2.2 c) / δ c + 1 else if δ c < 0 then S.2.1 c / -δ c + 1 else 1000000000000000
/-- the q-th further pass is full just where q is below the room of every counter -/
theorem m_po_ok {δ : Int → Int} {S : m_S} (h0 : m_ok δ 0 S) {q : Int} (hq : 0 ≤ q) (hq2 : q < 1000000000000000) (c : Int) : (0 ≤ S.2.1 c + q * δ c ∧ S.2.2 c + q * δ c ≤ 1000000) ↔ q < m_po δ S c := by
  have h1 := h0 c
  rw [Int.zero_mul, Int.add_zero, Int.add_zero] at h1
  unfold m_po
  by_cases hp : 0 < δ c
  · rw [if_pos hp]
    have h2 : 0 ≤ q * δ c := Int.mul_nonneg hq (Int.le_of_lt hp)
    have h3 : q ≤ (1000000 - S.2.2 c) / δ c ↔ q * δ c ≤ 1000000 - S.2.2 c := Int.le_ediv_iff_mul_le hp
    constructor
    · intro h
      have := h3.mpr (by omega)
      omega
    · intro h
      have := h3.mp (by omega)
      omega
  · rw [if_neg hp]
    by_cases hn : δ c < 0
    · rw [if_pos hn]
      have h2 : 0 ≤ q * -δ c := Int.mul_nonneg hq (by omega)
      have h4 : q * -δ c = -(q * δ c) := Int.mul_neg q (δ c)
      have h3 : q ≤ S.2.1 c / -δ c ↔ q * -δ c ≤ S.2.1 c := Int.le_ediv_iff_mul_le (by omega)
      constructor
      · intro h
        have := h3.mpr (by omega)
        omega
      · intro h
        have := h3.mp (by omega)
        omega
    · rw [if_neg hn, show δ c = 0 by omega, Int.mul_zero]
      omega

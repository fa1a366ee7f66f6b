/-! how many passes: the class's formula, and what a search for the last full pass finds -/
theorem m_ct_lh {c x : Int} {S S1 : m_S} (h : m_ct c x S = some S1) (h0 : m_ok (fun _ => 0) 0 S) : m_ok (fun _ => 0) 0 S1 := by
  have hin := m_ct_in h
  rw [m_ct_val hin] at h
  cases h
  intro j
  have h9 := h0 j
  dsimp only [qU] at h9 ⊢
  by_cases hj : j = c
  · rw [if_pos hj, if_pos hj]
    rw [hj] at h9
    omega
  · rw [if_neg hj, if_neg hj]
    exact h9
theorem m_dr_lh {r : Int → Int} {e x : Int} : ∀ (f : Nat) (j : Int) {S S1 : m_S}, m_dr r e x f j S = some S1 → m_ok (fun _ => 0) 0 S → m_ok (fun _ => 0) 0 S1
  | 0, j, S, S1, h, h0 => by
    rw [m_dr] at h
    cases h
    exact h0
  | f + 1, j, S, S1, h, h0 => by
    by_cases hj : j < e
    · cases hc : m_ct (r j) x S with
      | none =>
        rw [m_dr_no hj hc] at h
        cases h
      | some S2 =>
        rw [m_dr_go hj hc] at h
        exact m_dr_lh f (j + 1) h (m_ct_lh hc h0)
    · rw [m_dr_stop hj] at h
      cases h
      exact h0
theorem m_px_lh {k r de : Int → Int} {h e : Int} : ∀ (f : Nat) (i : Int) {S S' : m_S} {d d' : Int → Int} {len len' : Int}, m_px k r de h e f i S d len = some (S', d', len') → m_ok (fun _ => 0) 0 S → m_ok (fun _ => 0) 0 S'
  | 0, i, S, S', d, d', len, len', hp, h0 => by
    rw [m_px] at hp
    cases hp
    exact h0
  | f + 1, i, S, S', d, d', len, len', hp, h0 => by
    by_cases hi : i < e
    · by_cases hd : ¬ i = h ∧ 0 ≤ de i
      · cases hc : m_dr r (de i) (S.1 (r i)) 24 (i + 1) S with
        | none =>
          rw [m_px_drainNo hi hd hc] at hp
          cases hp
        | some S1 =>
          rw [m_px_drain hi hd hc] at hp
          exact m_px_lh f _ hp (fun c => m_dr_lh 24 _ hc h0 c)
      · cases hc : m_ct (r i) (if k i = 0 then 1 else -1) S with
        | none =>
          rw [m_px_oneNo hi hd hc] at hp
          cases hp
        | some S1 =>
          rw [m_px_one hi hd hc] at hp
          exact m_px_lh f _ hp (m_ct_lh hc h0)
    · rw [m_px_stop hi] at hp
      cases hp
      exact h0
/-- a full pass from the moved values: just where the lowest and the highest stay within the limits -/
theorem m_full {k r de : Int → Int} {h e : Int} {f : Nat} {i : Int} {v d d' δ : Int → Int} {S : m_S} {len len' q : Int} (hp : m_px k r de h e f i (v, v, v) d len = some (S, d', len')) (hd : ∀ c, d' c = 1 → δ c = 0) (hin : ∀ c, 0 ≤ v c + q * δ c ∧ v c + q * δ c ≤ 1000000) :
    (m_ok δ q S → m_px k r de h e f i (m_sh δ q (v, v, v)) d len = some (m_sh δ q S, d', len')) ∧ (¬ m_ok δ q S → m_px k r de h e f i (m_sh δ q (v, v, v)) d len = none) := by
  refine ⟨fun ho => m_px_sh f i hp ho hd, fun hn => ?_⟩
  cases hX : m_px k r de h e f i (m_sh δ q (v, v, v)) d len with
  | none => rfl
  | some X => exact absurd (m_px_back f i hp (fun c => hin c) hd hX) hn
theorem m_ok_in {k r de : Int → Int} {h e : Int} {f : Nat} {i : Int} {v d d' δ : Int → Int} {S : m_S} {len len' q : Int} (hp : m_px k r de h e f i (v, v, v) d len = some (S, d', len')) (ho : m_ok δ q S) : ∀ c, 0 ≤ v c + q * δ c ∧ v c + q * δ c ≤ 1000000 :=
  fun c => (ho.mono (m_px_mo f i hp).1) c
theorem m_mn_min (P : Int → Int) (a b : Int) : ∀ j : Nat, m_mn P j (min a b) = min a (m_mn P j b)
  | 0 => rfl
  | j + 1 => by
    rw [m_mn, m_mn, m_mn_min P a b j]
    omega
/-- below the least just where below each -/
theorem m_mn_lt {P : Int → Int} {q b : Int} (hb : q < b) : ∀ j : Nat, (q < m_mn P j b ↔ ∀ c : Int, 0 ≤ c → c < j → q < P c)
  | 0 => ⟨fun _ c h1 h2 => by omega, fun _ => hb⟩
  | j + 1 => by
    have ih := m_mn_lt (P := P) hb j
    rw [m_mn]
    constructor
    · intro h c h1 h2
      by_cases hc : c = j
      · subst hc
        omega
      · exact ih.mp (by omega) c h1 (by omega)
    · intro h
      have h1 := ih.mpr (fun c h1 h2 => h c h1 (by omega))
      have h2 := h j (by omega) (by omega)
      omega

/-! The mathematical value that class and reference are tied to. A program: n instructions, kinds k, counters r, targets t; values v. -/
/-- the end of the pluses behind a minus -/
def m_sc (n : Int) (k r : Int → Int) (c0 : Int) : Nat → Int → Int
  | 0, i => i
  | f + 1, i => if i < n ∧ k i = 0 ∧ ¬ r i = c0 then m_sc n k r c0 f (i + 1) else i
theorem m_sc_go {n : Int} {k r : Int → Int} {c0 i : Int} {f : Nat} (h : i < n ∧ k i = 0 ∧ ¬ r i = c0) : m_sc n k r c0 (f + 1) i = m_sc n k r c0 f (i + 1) := by
  rw [m_sc, if_pos h]
theorem m_sc_stop {n : Int} {k r : Int → Int} {c0 i : Int} {f : Nat} (h : ¬ (i < n ∧ k i = 0 ∧ ¬ r i = c0)) : m_sc n k r c0 f i = i := by
  cases f with
  | zero => rfl
  | succ f => rw [m_sc, if_neg h]
theorem m_sc_ge (n : Int) (k r : Int → Int) (c0 : Int) : ∀ (f : Nat) (i : Int), i ≤ m_sc n k r c0 f i
  | 0, i => Int.le_refl i
  | f + 1, i => by
    by_cases h : i < n ∧ k i = 0 ∧ ¬ r i = c0
    · rw [m_sc_go h]
      have := m_sc_ge n k r c0 f (i + 1)
      omega
    · rw [m_sc_stop h]
      exact Int.le_refl i
/-- what lies between is pluses of other counters -/
theorem m_sc_in (n : Int) (k r : Int → Int) (c0 : Int) : ∀ (f : Nat) (i j : Int), i ≤ j → j < m_sc n k r c0 f i → k j = 0 ∧ ¬ r j = c0
  | 0, i, j, h1, h2 => by
    rw [m_sc] at h2
    omega
  | f + 1, i, j, h1, h2 => by
    by_cases h : i < n ∧ k i = 0 ∧ ¬ r i = c0
    · rw [m_sc_go h] at h2
      by_cases hj : j = i
      · subst hj
        exact ⟨h.2.1, h.2.2⟩
      · exact m_sc_in n k r c0 f (i + 1) j (by omega) h2
    · rw [m_sc_stop h] at h2
      omega
/-- the end of the drain that begins at i, or -1 -/
def m_de (n : Int) (k r t : Int → Int) (i : Int) : Int :=
  if k i = 1 ∧ m_sc n k r (r i) 24 (i + 1) < n ∧ k (m_sc n k r (r i) 24 (i + 1)) = 2 ∧ t (m_sc n k r (r i) 24 (i + 1)) = i ∧ t i = m_sc n k r (r i) 24 (i + 1) + 1 then m_sc n k r (r i) 24 (i + 1) else -1
theorem m_de_cases (n : Int) (k r t : Int → Int) (i : Int) : m_de n k r t i = -1 ∨ (k i = 1 ∧ i < m_de n k r t i ∧ m_de n k r t i < n ∧ k (m_de n k r t i) = 2 ∧ ∀ j, i < j → j < m_de n k r t i → k j = 0 ∧ ¬ r j = r i) := by
  unfold m_de
  by_cases h : k i = 1 ∧ m_sc n k r (r i) 24 (i + 1) < n ∧ k (m_sc n k r (r i) 24 (i + 1)) = 2 ∧ t (m_sc n k r (r i) 24 (i + 1)) = i ∧ t i = m_sc n k r (r i) 24 (i + 1) + 1
  · rw [if_pos h]
    refine Or.inr ⟨h.1, ?_, h.2.1, h.2.2.1, fun j h1 h2 => m_sc_in n k r (r i) 24 (i + 1) j (by omega) h2⟩
    have := m_sc_ge n k r (r i) 24 (i + 1)
    omega
  · rw [if_neg h]
    exact Or.inl rfl
/-- the walk over a loop's items: where it stops, how many drains it met -/
def m_ls (n : Int) (k de : Int → Int) (h : Int) : Nat → Int → Int → Int × Int
  | 0, i, d => (i, d)
  | f + 1, i, d => if i < n ∧ k i < 2 then (if ¬ i = h ∧ 0 ≤ de i then m_ls n k de h f (de i + 1) (d + 1) else m_ls n k de h f (i + 1) d) else (i, d)
theorem m_ls_drain {n : Int} {k de : Int → Int} {h i d : Int} {f : Nat} (h1 : i < n ∧ k i < 2) (h2 : ¬ i = h ∧ 0 ≤ de i) : m_ls n k de h (f + 1) i d = m_ls n k de h f (de i + 1) (d + 1) := by
  rw [m_ls, if_pos h1, if_pos h2]
theorem m_ls_one {n : Int} {k de : Int → Int} {h i d : Int} {f : Nat} (h1 : i < n ∧ k i < 2) (h2 : ¬ (¬ i = h ∧ 0 ≤ de i)) : m_ls n k de h (f + 1) i d = m_ls n k de h f (i + 1) d := by
  rw [m_ls, if_pos h1, if_neg h2]
theorem m_ls_stop {n : Int} {k de : Int → Int} {h i d : Int} {f : Nat} (h1 : ¬ (i < n ∧ k i < 2)) : m_ls n k de h f i d = (i, d) := by
  cases f with
  | zero => rfl
  | succ f => rw [m_ls, if_neg h1]
def m_le (n : Int) (k t de : Int → Int) (h : Int) : Int :=
  if h < (m_ls n k de h 24 h 0).1 ∧ (m_ls n k de h 24 h 0).1 < n ∧ k (m_ls n k de h 24 h 0).1 = 2 ∧ t (m_ls n k de h 24 h 0).1 = h then (m_ls n k de h 24 h 0).1 else -1
def m_ld (n : Int) (k de : Int → Int) (h : Int) : Int := (m_ls n k de h 24 h 0).2
theorem m_le_cases (n : Int) (k t de : Int → Int) (h : Int) : m_le n k t de h = -1 ∨ (h < m_le n k t de h ∧ m_le n k t de h < n ∧ m_le n k t de h = (m_ls n k de h 24 h 0).1) := by
  unfold m_le
  by_cases hc : h < (m_ls n k de h 24 h 0).1 ∧ (m_ls n k de h 24 h 0).1 < n ∧ k (m_ls n k de h 24 h 0).1 = 2 ∧ t (m_ls n k de h 24 h 0).1 = h
  · rw [if_pos hc]
    exact Or.inr ⟨hc.1, hc.2.1, rfl⟩
  · rw [if_neg hc]
    exact Or.inl rfl
/-- how many heads lie below j -/
def m_cn (le : Int → Int) : Nat → Int
  | 0 => 0
  | j + 1 => m_cn le j + (if 0 ≤ le (j : Int) then 1 else 0)
theorem m_cn_le (le : Int → Int) : ∀ j : Nat, 0 ≤ m_cn le j ∧ m_cn le j ≤ j
  | 0 => by
    show (0 : Int) ≤ 0 ∧ (0 : Int) ≤ ((0 : Nat) : Int)
    omega
  | j + 1 => by
    have := m_cn_le le j
    rw [m_cn]
    split <;> omega
/-- one pass: values, lowest, highest -/
abbrev m_S : Type := (Int → Int) × (Int → Int) × (Int → Int)
def m_ct (c x : Int) (S : m_S) : Option m_S :=
  if 0 ≤ S.1 c + x ∧ S.1 c + x ≤ 1000000 then some (qU S.1 c (S.1 c + x), qU S.2.1 c (min (S.2.1 c) (S.1 c + x)), qU S.2.2 c (max (S.2.2 c) (S.1 c + x))) else none
/-- the pluses of a drain, each x times -/
def m_dr (r : Int → Int) (e x : Int) : Nat → Int → m_S → Option m_S
  | 0, _, S => some S
  | f + 1, j, S => if j < e then (match m_ct (r j) x S with
    | some S1 => m_dr r e x f (j + 1) S1
    | none => none) else some S
def m_px (k r de : Int → Int) (h e : Int) : Nat → Int → m_S → (Int → Int) → Int → Option (m_S × (Int → Int) × Int)
  | 0, _, S, d, len => some (S, d, len)
  | f + 1, i, S, d, len => if i < e then (if ¬ i = h ∧ 0 ≤ de i then (match m_dr r (de i) (S.1 (r i)) 24 (i + 1) S with
      | some S1 => m_px k r de h e f (de i + 1) (qU S1.1 (r i) 0, S1.2) (qU d (r i) 1) (len + (S.1 (r i) * (de i - i + 1) + 1))
      | none => none)
    else (match m_ct (r i) (if k i = 0 then 1 else -1) S with
      | some S1 => m_px k r de h e f (i + 1) S1 d (len + 1)
      | none => none)) else some (S, d, len)
theorem m_dr_go {r : Int → Int} {e x j : Int} {f : Nat} {S S1 : m_S} (h : j < e) (h1 : m_ct (r j) x S = some S1) : m_dr r e x (f + 1) j S = m_dr r e x f (j + 1) S1 := by
  rw [m_dr, if_pos h, h1]
theorem m_dr_no {r : Int → Int} {e x j : Int} {f : Nat} {S : m_S} (h : j < e) (h1 : m_ct (r j) x S = none) : m_dr r e x (f + 1) j S = none := by
  rw [m_dr, if_pos h, h1]
theorem m_dr_stop {r : Int → Int} {e x j : Int} {f : Nat} {S : m_S} (h : ¬ j < e) : m_dr r e x f j S = some S := by
  cases f with
  | zero => rfl
  | succ f => rw [m_dr, if_neg h]
theorem m_px_drain {k r de : Int → Int} {h e i : Int} {f : Nat} {S S1 : m_S} {d : Int → Int} {len : Int} (h1 : i < e) (h2 : ¬ i = h ∧ 0 ≤ de i) (h3 : m_dr r (de i) (S.1 (r i)) 24 (i + 1) S = some S1) :
    m_px k r de h e (f + 1) i S d len = m_px k r de h e f (de i + 1) (qU S1.1 (r i) 0, S1.2) (qU d (r i) 1) (len + (S.1 (r i) * (de i - i + 1) + 1)) := by
  rw [m_px, if_pos h1, if_pos h2, h3]
theorem m_px_drainNo {k r de : Int → Int} {h e i : Int} {f : Nat} {S : m_S} {d : Int → Int} {len : Int} (h1 : i < e) (h2 : ¬ i = h ∧ 0 ≤ de i) (h3 : m_dr r (de i) (S.1 (r i)) 24 (i + 1) S = none) :
    m_px k r de h e (f + 1) i S d len = none := by
  rw [m_px, if_pos h1, if_pos h2, h3]
theorem m_px_one {k r de : Int → Int} {h e i : Int} {f : Nat} {S S1 : m_S} {d : Int → Int} {len : Int} (h1 : i < e) (h2 : ¬ (¬ i = h ∧ 0 ≤ de i)) (h3 : m_ct (r i) (if k i = 0 then 1 else -1) S = some S1) :
    m_px k r de h e (f + 1) i S d len = m_px k r de h e f (i + 1) S1 d (len + 1) := by
  rw [m_px, if_pos h1, if_neg h2, h3]
theorem m_px_oneNo {k r de : Int → Int} {h e i : Int} {f : Nat} {S : m_S} {d : Int → Int} {len : Int} (h1 : i < e) (h2 : ¬ (¬ i = h ∧ 0 ≤ de i)) (h3 : m_ct (r i) (if k i = 0 then 1 else -1) S = none) :
    m_px k r de h e (f + 1) i S d len = none := by
  rw [m_px, if_pos h1, if_neg h2, h3]
theorem m_px_stop {k r de : Int → Int} {h e i : Int} {f : Nat} {S : m_S} {d : Int → Int} {len : Int} (h1 : ¬ i < e) : m_px k r de h e f i S d len = some (S, d, len) := by
  cases f with
  | zero => rfl
  | succ f => rw [m_px, if_neg h1]
/-! the same pass from values moved by δ, kk times -/
def m_sh (δ : Int → Int) (q : Int) (S : m_S) : m_S := (fun c => S.1 c + q * δ c, fun c => S.2.1 c + q * δ c, fun c => S.2.2 c + q * δ c)
/-- the lowest sinks, the highest rises -/
def m_mo (S S' : m_S) : Prop := ∀ c, S'.2.1 c ≤ S.2.1 c ∧ S.2.2 c ≤ S'.2.2 c
/-- within the limits when moved -/
def m_ok (δ : Int → Int) (q : Int) (S : m_S) : Prop := ∀ c, 0 ≤ S.2.1 c + q * δ c ∧ S.2.2 c + q * δ c ≤ 1000000
theorem m_ok.mono {δ : Int → Int} {q : Int} {S S' : m_S} (h : m_ok δ q S') (hm : m_mo S S') : m_ok δ q S := fun c => by
  have h1 := h c
  have h2 := hm c
  omega
theorem m_mo.refl (S : m_S) : m_mo S S := fun _ => ⟨Int.le_refl _, Int.le_refl _⟩
theorem m_mo.trans {S S1 S2 : m_S} (h : m_mo S S1) (h' : m_mo S1 S2) : m_mo S S2 := fun c => ⟨Int.le_trans (h' c).1 (h c).1, Int.le_trans (h c).2 (h' c).2⟩
theorem m_ct_mo {c x : Int} {S S1 : m_S} (h : m_ct c x S = some S1) : m_mo S S1 := by
  unfold m_ct at h
  split at h
  · cases h
    intro j
    dsimp only [qU]
    by_cases hj : j = c
    · subst hj
      rw [if_pos rfl, if_pos rfl]
      omega
    · rw [if_neg hj, if_neg hj]
      exact ⟨Int.le_refl _, Int.le_refl _⟩
  · cases h
theorem m_qU_sh {f δ : Int → Int} {c x q : Int} : (fun j => qU f c x j + q * δ j) = qU (fun j => f j + q * δ j) c (x + q * δ c) := by
  funext j
  unfold qU
  by_cases hj : j = c
  · subst hj
    rw [if_pos rfl, if_pos rfl]
  · rw [if_neg hj, if_neg hj]
theorem m_ct_val {c x : Int} {S : m_S} (h : 0 ≤ S.1 c + x ∧ S.1 c + x ≤ 1000000) : m_ct c x S = some (qU S.1 c (S.1 c + x), qU S.2.1 c (min (S.2.1 c) (S.1 c + x)), qU S.2.2 c (max (S.2.2 c) (S.1 c + x))) := by
  unfold m_ct
  rw [if_pos h]
theorem m_ct_none {c x : Int} {S : m_S} (h : ¬ (0 ≤ S.1 c + x ∧ S.1 c + x ≤ 1000000)) : m_ct c x S = none := by
  unfold m_ct
  rw [if_neg h]
theorem m_ct_in {c x : Int} {S S1 : m_S} (h : m_ct c x S = some S1) : 0 ≤ S.1 c + x ∧ S.1 c + x ≤ 1000000 := by
  by_cases hc : 0 ≤ S.1 c + x ∧ S.1 c + x ≤ 1000000
  · exact hc
  · rw [m_ct_none hc] at h
    cases h
theorem m_ct_sh {δ : Int → Int} {q c x : Int} {S S1 : m_S} (h : m_ct c x S = some S1) (ho : m_ok δ q S1) : m_ct c x (m_sh δ q S) = some (m_sh δ q S1) := by
  have hin := m_ct_in h
  rw [m_ct_val hin] at h
  cases h
  have h9 := ho c
  dsimp only [qU] at h9
  rw [if_pos rfl, if_pos rfl] at h9
  have hb : 0 ≤ (m_sh δ q S).1 c + x ∧ (m_sh δ q S).1 c + x ≤ 1000000 := by
    show 0 ≤ S.1 c + q * δ c + x ∧ S.1 c + q * δ c + x ≤ 1000000
    omega
  rw [m_ct_val hb]
  unfold m_sh
  dsimp only
  rw [m_qU_sh, m_qU_sh, m_qU_sh]
  congr 2
  · congr 1
    omega
  · congr 1
    · congr 1
      omega
    · congr 1
      omega
/-- .. and back: where the moved one goes through, it stays within the limits -/
theorem m_ct_back {δ : Int → Int} {q c x : Int} {S S1 X : m_S} (h : m_ct c x S = some S1) (ho : m_ok δ q S) (hX : m_ct c x (m_sh δ q S) = some X) : m_ok δ q S1 := by
  have hin := m_ct_in h
  have hin2 : 0 ≤ S.1 c + q * δ c + x ∧ S.1 c + q * δ c + x ≤ 1000000 := m_ct_in hX
  rw [m_ct_val hin] at h
  cases h
  intro j
  have h9 := ho j
  dsimp only [qU]
  by_cases hj : j = c
  · subst hj
    rw [if_pos rfl, if_pos rfl]
    omega
  · rw [if_neg hj, if_neg hj]
    exact h9
theorem m_dr_mo {r : Int → Int} {e x : Int} : ∀ (f : Nat) (j : Int) {S S1 : m_S}, m_dr r e x f j S = some S1 → m_mo S S1
  | 0, j, S, S1, h => by
    rw [m_dr] at h
    cases h
    exact m_mo.refl _
  | f + 1, j, S, S1, h => by
    by_cases hj : j < e
    · cases hc : m_ct (r j) x S with
      | none =>
        rw [m_dr_no hj hc] at h
        cases h
      | some S2 =>
        rw [m_dr_go hj hc] at h
        exact (m_ct_mo hc).trans (m_dr_mo f (j + 1) h)
    · rw [m_dr_stop hj] at h
      cases h
      exact m_mo.refl _
theorem m_dr_sh {r δ : Int → Int} {e x q : Int} : ∀ (f : Nat) (j : Int) {S S1 : m_S}, m_dr r e x f j S = some S1 → m_ok δ q S1 → m_dr r e x f j (m_sh δ q S) = some (m_sh δ q S1)
  | 0, j, S, S1, h, ho => by
    rw [m_dr] at h ⊢
    cases h
    rfl
  | f + 1, j, S, S1, h, ho => by
    by_cases hj : j < e
    · cases hc : m_ct (r j) x S with
      | none =>
        rw [m_dr_no hj hc] at h
        cases h
      | some S2 =>
        rw [m_dr_go hj hc] at h
        rw [m_dr_go hj (m_ct_sh hc (ho.mono (m_dr_mo f (j + 1) h)))]
        exact m_dr_sh f (j + 1) h ho
    · rw [m_dr_stop hj] at h ⊢
      cases h
      rfl
theorem m_dr_back {r δ : Int → Int} {e x q : Int} : ∀ (f : Nat) (j : Int) {S S1 X : m_S}, m_dr r e x f j S = some S1 → m_ok δ q S → m_dr r e x f j (m_sh δ q S) = some X → m_ok δ q S1
  | 0, j, S, S1, X, h, ho, hX => by
    rw [m_dr] at h
    cases h
    exact ho
  | f + 1, j, S, S1, X, h, ho, hX => by
    by_cases hj : j < e
    · cases hc : m_ct (r j) x S with
      | none =>
        rw [m_dr_no hj hc] at h
        cases h
      | some S2 =>
        rw [m_dr_go hj hc] at h
        cases hcX : m_ct (r j) x (m_sh δ q S) with
        | none =>
          rw [m_dr_no hj hcX] at hX
          cases hX
        | some X2 =>
          have ho2 := m_ct_back hc ho hcX
          rw [m_dr_go hj (m_ct_sh hc ho2)] at hX
          exact m_dr_back f (j + 1) h ho2 hX
    · rw [m_dr_stop hj] at h
      cases h
      exact ho

/-! the reader: an automaton over the characters. next, letter, kind, counter, labelled, count, kinds, counters, named labels, named at, places of labels -/
abbrev m_X : Type := Int × Int × Int × Int × Int × Int × (Int → Int) × (Int → Int) × (Int → Int) × (Int → Int) × (Int → Int)
def m_fi (lt kd ct n : Int) (k r nl na pl : Int → Int) : m_X := (4, lt, kd, ct, 0, n + 1, qU k n kd, qU r n ct, nl, na, pl)
def m_ac (X : m_X) (c q : Int) : Option m_X := match X with
  | (nx, lt, kd, ct, lb, n, k, r, nl, na, pl) =>
    if nx = 0 then
      if 24 ≤ n then none
      else if 65 ≤ c ∧ c ≤ 90 then (if pl (c - 65) = -1 then some (1, c - 65, kd, ct, lb, n, k, r, nl, na, pl) else none)
      else if c = 43 then some (2, lt, 0, -1, lb, n, k, r, nl, na, pl)
      else if c = 45 then some (2, lt, 1, -1, lb, n, k, r, nl, na, pl)
      else if c = 62 then some (3, lt, 2, -1, lb, n, k, r, nl, na, pl)
      else if c = 46 then some (m_fi lt 3 (-1) n k r nl na pl)
      else none
    else if nx = 1 then (if c = 58 then some (0, lt, kd, ct, 1, n, k, r, nl, na, qU pl lt n) else none)
    else if nx = 2 then (if 97 ≤ c ∧ c < 105 then (if kd = 1 then some (3, lt, kd, c - 97, lb, n, k, r, nl, na, pl) else some (m_fi lt kd (c - 97) n k r nl na pl)) else none)
    else if nx = 3 then (if 65 ≤ c ∧ c ≤ 90 then some (m_fi lt kd ct n k r (qU nl n (c - 65)) (qU na n q) pl) else none)
    else (if c = 59 then some (0, lt, kd, ct, lb, n, k, r, nl, na, pl) else none)
/-- what the reader's state keeps -/
def m_xw (X : m_X) : Prop := match X with
  | (nx, lt, kd, ct, lb, n, k, r, nl, na, pl) => (0 ≤ nx ∧ nx ≤ 4) ∧ (0 ≤ lt ∧ lt ≤ 25) ∧ (0 ≤ kd ∧ kd ≤ 3) ∧ (-1 ≤ ct ∧ ct ≤ 7) ∧ (0 ≤ lb ∧ lb ≤ 1) ∧ (0 ≤ n ∧ n ≤ 24) ∧ (nx = 1 ∨ nx = 2 ∨ nx = 3 → n < 24) ∧ (nx = 2 → kd = 0 ∨ kd = 1) ∧ (nx = 3 → (kd = 1 ∧ 0 ≤ ct) ∨ kd = 2) ∧
    (∀ i, 0 ≤ k i ∧ k i ≤ 3) ∧ (∀ i, -1 ≤ r i ∧ r i ≤ 7) ∧ (∀ i, 0 ≤ nl i ∧ nl i ≤ 25) ∧ (∀ i, 0 ≤ na i ∧ na i ≤ 119) ∧ (∀ i, -1 ≤ pl i ∧ pl i ≤ n) ∧ (∀ i, 0 ≤ i → i < n → k i = 0 ∨ k i = 1 → 0 ≤ r i ∧ r i ≤ 7) ∧ ∀ i, ¬ (0 ≤ i ∧ i < 26) → pl i = 0
theorem m_fi_w {nx lt kd ct lb n : Int} {k r nl na pl : Int → Int} {kd' ct' : Int} {nl' na' : Int → Int} (h : m_xw (nx, lt, kd, ct, lb, n, k, r, nl, na, pl)) (hn : n < 24) (hk : 0 ≤ kd' ∧ kd' ≤ 3) (hc : -1 ≤ ct' ∧ ct' ≤ 7) (hkc : kd' = 0 ∨ kd' = 1 → 0 ≤ ct') (hnl : ∀ i, 0 ≤ nl' i ∧ nl' i ≤ 25) (hna : ∀ i, 0 ≤ na' i ∧ na' i ≤ 119) : m_xw (m_fi lt kd' ct' n k r nl' na' pl) := by
  obtain ⟨h1, h2, h3, h4, h5, h6, h7, h8, h9, h10, h11, h12, h13, h14, h15, h16⟩ := h
  refine ⟨by omega, h2, hk, hc, by omega, by omega, by omega, by omega, by omega, qU_rg h10 hk, qU_rg h11 hc, hnl, hna, fun i => ?_, fun i i1 i2 i3 => ?_, h16⟩
  · have := h14 i
    omega
  · by_cases hi : i = n
    · subst hi
      rw [qU_s] at i3 ⊢
      have := hkc i3
      omega
    · rw [qU_n hi] at i3 ⊢
      exact h15 i i1 (by omega) i3
theorem m_ac_w {X X' : m_X} {c q : Int} (h : m_ac X c q = some X') (hw : m_xw X) (hq : 0 ≤ q ∧ q ≤ 119) : m_xw X' := by
  obtain ⟨nx, lt, kd, ct, lb, n, k, r, nl, na, pl⟩ := X
  have hw0 := hw
  obtain ⟨h1, h2, h3, h4, h5, h6, h7, h8, h9, h10, h11, h12, h13, h14, h15, h16⟩ := hw
  unfold m_ac at h
  dsimp only at h
  split at h
  · split at h
    · cases h
    · split at h
      · split at h
        · cases h
          exact ⟨by omega, by omega, h3, h4, h5, h6, by omega, by omega, by omega, h10, h11, h12, h13, h14, h15, h16⟩
        · cases h
      · split at h
        · cases h
          exact ⟨by omega, h2, by omega, by omega, h5, h6, by omega, by omega, by omega, h10, h11, h12, h13, h14, h15, h16⟩
        · split at h
          · cases h
            exact ⟨by omega, h2, by omega, by omega, h5, h6, by omega, by omega, by omega, h10, h11, h12, h13, h14, h15, h16⟩
          · split at h
            · cases h
              exact ⟨by omega, h2, by omega, by omega, h5, h6, by omega, by omega, by omega, h10, h11, h12, h13, h14, h15, h16⟩
            · split at h
              · cases h
                exact m_fi_w hw0 (by omega) (by omega) (by omega) (by omega) h12 h13
              · cases h
  · split at h
    · split at h
      · cases h
        exact ⟨by omega, h2, h3, h4, by omega, h6, by omega, by omega, by omega, h10, h11, h12, h13, qU_rg h14 (by omega), h15, fun i hi => by rw [qU_n (by omega)]; exact h16 i hi⟩
      · cases h
    · split at h
      · split at h
        · split at h
          · cases h
            exact ⟨by omega, h2, h3, by omega, h5, h6, by omega, by omega, by omega, h10, h11, h12, h13, h14, h15, h16⟩
          · cases h
            exact m_fi_w hw0 (by omega) h3 (by omega) (by omega) h12 h13
        · cases h
      · split at h
        · split at h
          · cases h
            exact m_fi_w hw0 (by omega) h3 h4 (by omega) (qU_rg h12 (by omega)) (qU_rg h13 hq)
          · cases h
        · split at h
          · cases h
            exact ⟨by omega, h2, h3, h4, h5, h6, by omega, by omega, by omega, h10, h11, h12, h13, h14, h15, h16⟩
          · cases h
/-- over the text x from i on; spaces are passed over. A fault's place, or the state at the end -/
def m_rd (x : Int → Int) (len : Int) : Nat → Int → m_X → Sum Int m_X
  | 0, _, X => .inr X
  | f + 1, i, X => if i < len then (if x i = 32 then m_rd x len f (i + 1) X else (match m_ac X (x i) i with
    | some X' => m_rd x len f (i + 1) X'
    | none => .inl i)) else .inr X
theorem m_rd_sp {x : Int → Int} {len i : Int} {f : Nat} {X : m_X} (h : i < len) (hx : x i = 32) : m_rd x len (f + 1) i X = m_rd x len f (i + 1) X := by
  rw [m_rd, if_pos h, if_pos hx]
theorem m_rd_go {x : Int → Int} {len i : Int} {f : Nat} {X X' : m_X} (h : i < len) (hx : ¬ x i = 32) (ha : m_ac X (x i) i = some X') : m_rd x len (f + 1) i X = m_rd x len f (i + 1) X' := by
  rw [m_rd, if_pos h, if_neg hx, ha]
theorem m_rd_no {x : Int → Int} {len i : Int} {f : Nat} {X : m_X} (h : i < len) (hx : ¬ x i = 32) (ha : m_ac X (x i) i = none) : m_rd x len (f + 1) i X = .inl i := by
  rw [m_rd, if_pos h, if_neg hx, ha]
theorem m_rd_end {x : Int → Int} {len i : Int} {f : Nat} {X : m_X} (h : ¬ i < len) : m_rd x len f i X = .inr X := by
  cases f with
  | zero => rfl
  | succ f => rw [m_rd, if_neg h]
/-- where the first label that stands nowhere is named, or -1 -/
def m_fl (n : Int) (k nl na pl : Int → Int) : Nat → Int → Int
  | 0, _ => -1
  | f + 1, i => if i < n then (if (k i = 1 ∨ k i = 2) ∧ pl (nl i) = -1 then na i else m_fl n k nl na pl f (i + 1)) else -1
theorem m_fl_no {n : Int} {k nl na pl : Int → Int} {f : Nat} {i : Int} (h : i < n) (h2 : (k i = 1 ∨ k i = 2) ∧ pl (nl i) = -1) : m_fl n k nl na pl (f + 1) i = na i := by
  rw [m_fl, if_pos h, if_pos h2]
theorem m_fl_go {n : Int} {k nl na pl : Int → Int} {f : Nat} {i : Int} (h : i < n) (h2 : ¬ ((k i = 1 ∨ k i = 2) ∧ pl (nl i) = -1)) : m_fl n k nl na pl (f + 1) i = m_fl n k nl na pl f (i + 1) := by
  rw [m_fl, if_pos h, if_neg h2]
theorem m_fl_end {n : Int} {k nl na pl : Int → Int} {f : Nat} {i : Int} (h : ¬ i < n) : m_fl n k nl na pl f i = -1 := by
  cases f with
  | zero => rfl
  | succ f => rw [m_fl, if_neg h]
/-- the targets that the labels give -/
def m_tg (k nl pl : Int → Int) (i : Int) : Int := if k i = 1 ∨ k i = 2 then pl (nl i) else -1
/-- the state with which a text begins -/
def m_x0 (lt kd ct : Int) (k r nl na pl : Int → Int) : m_X := (0, lt, kd, ct, 0, 0, k, r, nl, na, pl)
def m_me (X : m_X) : Prop := X.1 = 4 ∨ (X.1 = 0 ∧ 0 < X.2.2.2.2.2.1 ∧ X.2.2.2.2.1 = 0)

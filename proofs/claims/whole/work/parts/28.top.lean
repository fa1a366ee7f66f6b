/-! the machine and its passes, as class and reference must answer -/
abbrev m_Y : Type := Option (m_S × (Int → Int) × Int)
def m_pa (k r de : Int → Int) (h e : Int) (v : Int → Int) : m_Y := m_px k r de h e 24 h (v, v, v) (fun _ => 0) 0
def m_ln (X : m_Y) : Int := match X with
  | some (_, _, ln) => ln + 1
  | none => 0
def m_dl (X : m_Y) (v : Int → Int) : Int → Int := match X with
  | some (S, _, _) => fun c => S.1 c - v c
  | none => fun _ => 0
noncomputable def m_np (X : m_Y) (v : Int → Int) (sl : Int) : Int := match X with
  | none => 0
  | some (S, d, ln) => if sl < ln + 1 then 0 else @ite Int (∃ c, 0 ≤ c ∧ c < 8 ∧ d c = 1 ∧ ¬ S.1 c - v c = 0) (Classical.propDecidable _) 1 (m_mn (m_po (fun c => S.1 c - v c) S) 8 (sl / (ln + 1)))
/-- the pass that begins at a head -/
def m_xp (n : Int) (k r t de : Int → Int) (pl : Int) (v : Int → Int) : m_Y := if 0 ≤ pl ∧ pl < n ∧ 0 ≤ m_le n k t de pl then m_pa k r de pl (m_le n k t de pl) v else none
noncomputable def m_pq (n : Int) (k r t de : Int → Int) (pl : Int) (v : Int → Int) (sl : Int) : Int := m_np (m_xp n k r t de pl v) v sl
/-- a program with its drains and loops -/
def m_pg (n lc : Int) (k r t de lb lh le ld : Int → Int) : Prop := (0 ≤ n ∧ n ≤ 24) ∧ (∀ i, 0 ≤ k i ∧ k i ≤ 3) ∧ (∀ i, -1 ≤ r i ∧ r i ≤ 7) ∧ (∀ i, 0 ≤ i → i < n → k i = 0 ∨ k i = 1 → 0 ≤ r i ∧ r i ≤ 7) ∧ (∀ i, -1 ≤ t i ∧ t i ≤ 24) ∧ (∀ i, 0 ≤ i → i < n → k i = 1 ∨ k i = 2 → 0 ≤ t i ∧ t i ≤ n) ∧ (∀ i, -1 ≤ de i ∧ de i ≤ 24) ∧ (∀ i, 0 ≤ i → i < n → de i = m_de n k r t i) ∧ m_lo (m_le n k t de) (m_ld n k de) n lb lh le ld ∧ lc = m_cn (m_le n k t de) n.toNat
def m_zw (fu len : Int) (w lo hi dr ch : Int → Int) : Prop := (0 ≤ fu ∧ fu ≤ 1) ∧ (0 ≤ len ∧ len ≤ 1000000000) ∧ (∀ c, 0 ≤ w c ∧ w c ≤ 1000000) ∧ (∀ c, 0 ≤ lo c ∧ lo c ≤ 1000000) ∧ (∀ c, 0 ≤ hi c ∧ hi c ≤ 1000000) ∧ (∀ c, 0 ≤ dr c ∧ dr c ≤ 1) ∧ (∀ c, -1000000 ≤ ch c ∧ ch c ≤ 1000000) ∧ ∀ c : Int, ¬ (0 ≤ c ∧ c < 8) → w c = 0 ∧ lo c = 0 ∧ hi c = 0 ∧ dr c = 0 ∧ ch c = 0
def m_vw (v : Int → Int) : Prop := (∀ c, 0 ≤ v c ∧ v c ≤ 1000000) ∧ ∀ c : Int, ¬ (0 ≤ c ∧ c < 8) → v c = 0
theorem m_pg_de {n lc : Int} {k r t de lb lh le ld : Int → Int} (h : m_pg n lc k r t de lb lh le ld) : ∀ i, 0 ≤ i → i < n → de i = -1 ∨ (i < de i ∧ de i < n ∧ k i = 1 ∧ ∀ j, i < j → j < de i → k j = 0) := by
  intro i h1 h2
  obtain ⟨_, _, _, _, _, _, _, hd, _⟩ := h
  rw [hd i h1 h2]
  rcases m_de_cases n k r t i with q | q
  · exact Or.inl q
  · exact Or.inr ⟨q.2.1, q.2.2.1, q.1, fun j a b => (q.2.2.2.2 j a b).1⟩
theorem m_np_eq {X : m_Y} {v w lo hi dr : Int → Int} {fu ln sl x : Int} (hfin : (fu = 1 ∧ X = some ((w, lo, hi), dr, ln)) ∨ (fu = 0 ∧ X = none))
    (hx : (x = 0 ∧ (fu = 0 ∨ ln + 1 < 1 ∨ sl < ln + 1)) ∨ (x = 1 ∧ fu = 1 ∧ 1 ≤ ln + 1 ∧ ln + 1 ≤ sl ∧ ∃ c, 0 ≤ c ∧ c < 8 ∧ dr c = 1 ∧ ¬ (fun c => w c - v c) c = 0) ∨ (x = m_mn (m_po (fun c => w c - v c) (w, lo, hi)) 8 (sl / (ln + 1)) ∧ fu = 1 ∧ 1 ≤ ln + 1 ∧ ln + 1 ≤ sl ∧ ∀ c, 0 ≤ c → c < 8 → dr c = 1 → (fun c => w c - v c) c = 0)) (hln : 0 ≤ ln) :
    x = m_np X v sl ∧ (0 < x → X = some ((w, lo, hi), dr, ln)) := by
  rcases hfin with ⟨h1, rfl⟩ | ⟨h1, rfl⟩
  · refine ⟨?_, fun _ => rfl⟩
    unfold m_np
    dsimp only
    rcases hx with ⟨rfl, h2⟩ | ⟨rfl, _, h2, h3, h4⟩ | ⟨rfl, _, h2, h3, h4⟩
    · rw [if_pos (by omega)]
    · rw [if_neg (by omega), if_pos h4]
    · rw [if_neg (by omega), if_neg]
      rintro ⟨c, a, b, d, e⟩
      exact e (h4 c a b d)
  · unfold m_np
    rcases hx with ⟨rfl, h2⟩ | ⟨rfl, h2, _⟩ | ⟨_, h2, _⟩
    · exact ⟨rfl, fun h => by omega⟩
    · omega
    · omega
/-- the state that is answered: halted, stuck, endless, running -/
def m_sta (n : Int) (k r t de : Int → Int) (pl st : Int) (v : Int → Int) (x : Int) : Prop :=
  (x = 1 ∧ (n ≤ pl ∨ k pl = 3)) ∨ (x = 2 ∧ (pl < n ∧ ¬ k pl = 3) ∧ ((k pl = 0 ∧ 1000000 ≤ v (r pl)) ∨ 1000000000000000 ≤ st)) ∨
  (x = 3 ∧ (pl < n ∧ ¬ k pl = 3) ∧ ¬ ((k pl = 0 ∧ 1000000 ≤ v (r pl)) ∨ 1000000000000000 ≤ st) ∧ 0 < m_pq n k r t de pl v (1000000000000000 - st) ∧ (∀ c, 0 ≤ c → c < 8 → m_dl (m_xp n k r t de pl v) v c = 0)) ∨
  (x = 0 ∧ (pl < n ∧ ¬ k pl = 3) ∧ ¬ ((k pl = 0 ∧ 1000000 ≤ v (r pl)) ∨ 1000000000000000 ≤ st) ∧ ¬ (0 < m_pq n k r t de pl v (1000000000000000 - st) ∧ (∀ c, 0 ≤ c → c < 8 → m_dl (m_xp n k r t de pl v) v c = 0)))
theorem m_sta_of {n : Int} {k r t de : Int → Int} {pl st : Int} {v ch : Int → Int} {x q len : Int} (hq : q = m_pq n k r t de pl v (1000000000000000 - st)) (hs : 0 < q → ∃ Y : m_S × (Int → Int) × Int, m_xp n k r t de pl v = some Y ∧ len = m_ln (m_xp n k r t de pl v) ∧ ch = m_dl (m_xp n k r t de pl v) v)
    (hx : (x = 1 ∧ (n ≤ pl ∨ k pl = 3)) ∨ (x = 2 ∧ (pl < n ∧ ¬ k pl = 3) ∧ ((k pl = 0 ∧ 1000000 ≤ v (r pl)) ∨ 1000000000000000 ≤ st)) ∨ (x = 3 ∧ (pl < n ∧ ¬ k pl = 3) ∧ ¬ ((k pl = 0 ∧ 1000000 ≤ v (r pl)) ∨ 1000000000000000 ≤ st) ∧ 0 < q ∧ (∀ c, 0 ≤ c → c < 8 → ch c = 0)) ∨ (x = 0 ∧ (pl < n ∧ ¬ k pl = 3) ∧ ¬ ((k pl = 0 ∧ 1000000 ≤ v (r pl)) ∨ 1000000000000000 ≤ st) ∧ ¬ (0 < q ∧ (∀ c, 0 ≤ c → c < 8 → ch c = 0)))) :
    m_sta n k r t de pl st v x := by
  rcases hx with h | h | ⟨h1, h2, h3, h4, h5⟩ | ⟨h1, h2, h3, h4⟩
  · exact Or.inl h
  · exact Or.inr (Or.inl h)
  · obtain ⟨Y, a, b, c⟩ := hs h4
    rw [c] at h5
    rw [hq] at h4
    exact Or.inr (Or.inr (Or.inl ⟨h1, h2, h3, h4, h5⟩))
  · refine Or.inr (Or.inr (Or.inr ⟨h1, h2, h3, ?_⟩))
    rintro ⟨a, b⟩
    rw [← hq] at a
    obtain ⟨Y, c1, c2, c3⟩ := hs a
    exact h4 ⟨a, by rw [c3]; exact b⟩

/-! the reference reads by descent: tied to the automaton -/
def m_rq (x : Int → Int) (tl i : Int) (X : m_X) : Sum Int m_X := m_rd x tl (tl - i).toNat i X
theorem m_rq_sp {x : Int → Int} {tl i : Int} {X : m_X} (h : i < tl) (hx : x i = 32) : m_rq x tl i X = m_rq x tl (i + 1) X := by
  unfold m_rq
  rw [show (tl - i).toNat = (tl - (i + 1)).toNat + 1 by omega]
  exact m_rd_sp h hx
theorem m_rq_go {x : Int → Int} {tl i : Int} {X X' : m_X} (h : i < tl) (hx : ¬ x i = 32) (ha : m_ac X (x i) i = some X') : m_rq x tl i X = m_rq x tl (i + 1) X' := by
  unfold m_rq
  rw [show (tl - i).toNat = (tl - (i + 1)).toNat + 1 by omega]
  exact m_rd_go h hx ha
theorem m_rq_no {x : Int → Int} {tl i : Int} {X : m_X} (h : i < tl) (hx : ¬ x i = 32) (ha : m_ac X (x i) i = none) : m_rq x tl i X = .inl i := by
  unfold m_rq
  rw [show (tl - i).toNat = (tl - (i + 1)).toNat + 1 by omega]
  exact m_rd_no h hx ha
theorem m_rq_end {x : Int → Int} {tl i : Int} {X : m_X} (h : ¬ i < tl) : m_rq x tl i X = .inr X := m_rd_end h
theorem m_rd_f {x : Int → Int} {tl : Int} : ∀ (f : Nat) (i : Int) (X : m_X), tl - i ≤ (f : Int) → m_rd x tl f i X = m_rq x tl i X
  | 0, i, X, h => by
    rw [m_rq_end (by omega)]
    rfl
  | f + 1, i, X, h => by
    by_cases hi : i < tl
    · by_cases hx : x i = 32
      · rw [m_rd_sp hi hx, m_rq_sp hi hx]
        exact m_rd_f f (i + 1) X (by omega)
      · cases ha : m_ac X (x i) i with
        | none => rw [m_rd_no hi hx ha, m_rq_no hi hx ha]
        | some X' =>
          rw [m_rd_go hi hx ha, m_rq_go hi hx ha]
          exact m_rd_f f (i + 1) X' (by omega)
    · rw [m_rd_end hi, m_rq_end hi]
/-- from i on, j is the first that is no space -/
def m_skq (x : Int → Int) (tl i j : Int) : Prop := ∀ X, m_rq x tl i X = m_rq x tl j X
def m_skp (x : Int → Int) (tl i j : Int) : Prop := i ≤ j ∧ j ≤ tl ∧ (j < tl → ¬ x j = 32) ∧ m_skq x tl i j
theorem m_skq_0 (x : Int → Int) (tl i : Int) : m_skq x tl i i := fun _ => rfl
theorem m_skq_s {x : Int → Int} {tl i j : Int} (h : m_skq x tl i j) (hj : j < tl) (hx : x j = 32) : m_skq x tl i (j + 1) := fun X => (h X).trans (m_rq_sp hj hx)
def m_ag (n : Int) (k r nl na pl ro rc rn rp la : Int → Int) : Prop := (∀ i, 0 ≤ i → i < n → k i = ro i ∧ r i = rc i ∧ (k i = 1 ∨ k i = 2 → nl i = rn i ∧ na i = rp i) ∧ (¬ (k i = 1 ∨ k i = 2) → rn i = -1)) ∧ ∀ i, 0 ≤ i → i < 26 → pl i = la i
def m_rz (x : Int → Int) (tl : Int) (T0 : Sum Int m_X) (nx lt kd ct lb n cu : Int) (ro rc rn rp la : Int → Int) : Prop := ∃ k r nl na pl : Int → Int, T0 = m_rq x tl cu (nx, lt, kd, ct, lb, n, k, r, nl, na, pl) ∧ m_xw (nx, lt, kd, ct, lb, n, k, r, nl, na, pl) ∧ m_ag n k r nl na pl ro rc rn rp la
def m_rl (x : Int → Int) (tl : Int) (T0 : Sum Int m_X) (nx lb n cu : Int) (ro rc rn rp la : Int → Int) : Prop := ∃ lt kd ct : Int, m_rz x tl T0 nx lt kd ct lb n cu ro rc rn rp la
def m_ft (T0 : Sum Int m_X) (tl fa : Int) : Prop := (T0 = .inl fa ∧ 0 ≤ fa ∧ fa < tl) ∨ (∃ X, T0 = .inr X ∧ ¬ m_me X ∧ fa = tl)
/-- what the reference's rows of a reading keep -/
def m_rr (ro rc rn rp la : Int → Int) : Prop := (∀ i, 0 ≤ ro i ∧ ro i ≤ 3) ∧ (∀ i, -200 ≤ rc i ∧ rc i ≤ 200) ∧ (∀ i, -200 ≤ rn i ∧ rn i ≤ 25) ∧ (∀ i, 0 ≤ rp i ∧ rp i ≤ 120) ∧ ∀ i, -1 ≤ la i ∧ la i ≤ 24
theorem m_ag_w {n : Int} {k r nl na pl ro rc rn rp la ro' rc' rn' rp' : Int → Int} (h : m_ag n k r nl na pl ro rc rn rp la) (e1 : ∀ i, i < n → ro' i = ro i) (e2 : ∀ i, i < n → rc' i = rc i) (e3 : ∀ i, i < n → rn' i = rn i) (e4 : ∀ i, i < n → rp' i = rp i) : m_ag n k r nl na pl ro' rc' rn' rp' la :=
  ⟨fun i a b => by rw [e1 i b, e2 i b, e3 i b, e4 i b]; exact h.1 i a b, h.2⟩
theorem m_rz_w {x : Int → Int} {tl : Int} {T0 : Sum Int m_X} {nx lt kd ct lb n cu : Int} {ro rc rn rp la ro' rc' rn' rp' : Int → Int} (h : m_rz x tl T0 nx lt kd ct lb n cu ro rc rn rp la) (e1 : ∀ i, i < n → ro' i = ro i) (e2 : ∀ i, i < n → rc' i = rc i) (e3 : ∀ i, i < n → rn' i = rn i) (e4 : ∀ i, i < n → rp' i = rp i) : m_rz x tl T0 nx lt kd ct lb n cu ro' rc' rn' rp' la := by
  obtain ⟨k, r, nl, na, pl, a, b, c⟩ := h
  exact ⟨k, r, nl, na, pl, a, b, m_ag_w c e1 e2 e3 e4⟩
theorem m_rl_w {x : Int → Int} {tl : Int} {T0 : Sum Int m_X} {nx lb n cu : Int} {ro rc rn rp la ro' rc' rn' rp' : Int → Int} (h : m_rl x tl T0 nx lb n cu ro rc rn rp la) (e1 : ∀ i, i < n → ro' i = ro i) (e2 : ∀ i, i < n → rc' i = rc i) (e3 : ∀ i, i < n → rn' i = rn i) (e4 : ∀ i, i < n → rp' i = rp i) : m_rl x tl T0 nx lb n cu ro' rc' rn' rp' la := by
  obtain ⟨lt, kd, ct, a⟩ := h
  exact ⟨lt, kd, ct, m_rz_w a e1 e2 e3 e4⟩
theorem qU_b {f : Int → Int} {n a : Int} : ∀ i, i < n → qU f n a i = f i := fun i h => qU_n (by omega)
theorem m_rf {f : Int → Int} {n : Int} : ∀ i, i < n → f i = f i := fun _ _ => rfl
/-- an instruction is finished -/
theorem m_ag_f {n : Int} {k r nl na pl ro rc rn rp la nl' na' : Int → Int} {kd ct : Int} (h : m_ag n k r nl na pl ro rc rn rp la) (h1 : ro n = kd) (h2 : rc n = ct) (h3 : kd = 1 ∨ kd = 2 → nl' n = rn n ∧ na' n = rp n) (h4 : ¬ (kd = 1 ∨ kd = 2) → rn n = -1) (e1 : ∀ i, i < n → nl' i = nl i) (e2 : ∀ i, i < n → na' i = na i) : m_ag (n + 1) (qU k n kd) (qU r n ct) nl' na' pl ro rc rn rp la := by
  refine ⟨fun i a b => ?_, h.2⟩
  by_cases hi : i = n
  · subst hi
    rw [qU_s, qU_s]
    exact ⟨h1.symm, h2.symm, h3, h4⟩
  · rw [qU_n hi, qU_n hi, e1 i (by omega), e2 i (by omega)]
    exact h.1 i a (by omega)
section
variable {x : Int → Int} {tl : Int} {T0 : Sum Int m_X} {nx lt kd ct lb n cu j : Int} {ro rc rn rp la : Int → Int}
theorem m_rz_n (h : m_rz x tl T0 nx lt kd ct lb n cu ro rc rn rp la) : (0 ≤ n ∧ n ≤ 24) ∧ (0 ≤ lb ∧ lb ≤ 1) := by
  obtain ⟨k, r, nl, na, pl, a, b, c⟩ := h
  exact ⟨b.2.2.2.2.2.1, b.2.2.2.2.1⟩
theorem m_rl_n (h : m_rl x tl T0 nx lb n cu ro rc rn rp la) : (0 ≤ n ∧ n ≤ 24) ∧ (0 ≤ lb ∧ lb ≤ 1) := by
  obtain ⟨_, _, _, h⟩ := h
  exact m_rz_n h
/-- a character that is not accepted, or the end where it may not end -/
theorem m_rz_no (h : m_rz x tl T0 nx lt kd ct lb n cu ro rc rn rp la) (h0 : 0 ≤ cu ∧ cu ≤ tl) (hx : cu < tl → ¬ x cu = 32) (ha : cu < tl → ∀ k r nl na pl, m_ag n k r nl na pl ro rc rn rp la → m_ac (nx, lt, kd, ct, lb, n, k, r, nl, na, pl) (x cu) cu = none) (hm : cu = tl → ¬ (nx = 4 ∨ (nx = 0 ∧ 0 < n ∧ lb = 0))) : m_ft T0 tl cu := by
  obtain ⟨k, r, nl, na, pl, a, b, c⟩ := h
  by_cases hc : cu < tl
  · rw [m_rq_no hc (hx hc) (ha hc k r nl na pl c)] at a
    exact Or.inl ⟨a, h0.1, hc⟩
  · rw [m_rq_end hc] at a
    exact Or.inr ⟨_, a, hm (by omega), by omega⟩
theorem m_rl_no (h : m_rl x tl T0 nx lb n cu ro rc rn rp la) (h0 : 0 ≤ cu ∧ cu ≤ tl) (hx : cu < tl → ¬ x cu = 32) (ha : cu < tl → ∀ lt kd ct k r nl na pl, m_ag n k r nl na pl ro rc rn rp la → m_ac (nx, lt, kd, ct, lb, n, k, r, nl, na, pl) (x cu) cu = none) (hm : cu = tl → ¬ (nx = 4 ∨ (nx = 0 ∧ 0 < n ∧ lb = 0))) : m_ft T0 tl cu := by
  obtain ⟨lt, kd, ct, h⟩ := h
  exact m_rz_no h h0 hx (fun q => ha q lt kd ct) hm
/-- a character that is accepted -/
theorem m_rz_go {nx' lt' kd' ct' lb' n' : Int} {ro' rc' rn' rp' la' : Int → Int} (h : m_rz x tl T0 nx lt kd ct lb n cu ro rc rn rp la) (h0 : 0 ≤ cu ∧ cu < tl ∧ tl ≤ 120) (hx : ¬ x cu = 32) (hj : m_skp x tl (cu + 1) j)
    (ha : ∀ k r nl na pl, m_ag n k r nl na pl ro rc rn rp la → ∃ k' r' nl' na' pl', m_ac (nx, lt, kd, ct, lb, n, k, r, nl, na, pl) (x cu) cu = some (nx', lt', kd', ct', lb', n', k', r', nl', na', pl') ∧ m_ag n' k' r' nl' na' pl' ro' rc' rn' rp' la') : m_rz x tl T0 nx' lt' kd' ct' lb' n' j ro' rc' rn' rp' la' := by
  obtain ⟨k, r, nl, na, pl, a, b, c⟩ := h
  obtain ⟨k', r', nl', na', pl', d, e⟩ := ha k r nl na pl c
  rw [m_rq_go h0.2.1 hx d, hj.2.2.2] at a
  exact ⟨k', r', nl', na', pl', a, m_ac_w d b (by omega), e⟩
theorem m_lab (h : m_rl x tl T0 0 lb n cu ro rc rn rp la) (hn : n < 24) (h0 : 0 ≤ cu ∧ cu < tl ∧ tl ≤ 120) (hc : 65 ≤ x cu ∧ x cu ≤ 90) (hl : la (x cu - 65) = -1) (hj : m_skp x tl (cu + 1) j) : ∃ kd ct, m_rz x tl T0 1 (x cu - 65) kd ct lb n j ro rc rn rp la := by
  obtain ⟨lt, kd, ct, h⟩ := h
  refine ⟨kd, ct, m_rz_go h h0 (by omega) hj (fun k r nl na pl c => ⟨k, r, nl, na, pl, ?_, c⟩)⟩
  have hp : pl (x cu - 65) = -1 := by rw [c.2 _ (by omega) (by omega)]; exact hl
  unfold m_ac
  dsimp only
  rw [if_pos rfl, if_neg (by omega), if_pos hc, if_pos hp]
theorem m_lab_no (h : m_rl x tl T0 0 lb n cu ro rc rn rp la) (hn : n < 24) (h0 : 0 ≤ cu ∧ cu < tl) (hc : 65 ≤ x cu ∧ x cu ≤ 90) (hl : ¬ la (x cu - 65) = -1) : m_ft T0 tl cu := by
  refine m_rl_no h (by omega) (fun _ => by omega) (fun _ lt kd ct k r nl na pl c => ?_) (fun q => by omega)
  have hp : ¬ pl (x cu - 65) = -1 := by rw [c.2 _ (by omega) (by omega)]; exact hl
  unfold m_ac
  dsimp only
  rw [if_pos rfl, if_neg (by omega), if_pos hc, if_neg hp]
theorem m_col {c0 : Int} (h : m_rz x tl T0 1 c0 kd ct lb n cu ro rc rn rp la) (h0 : 0 ≤ cu ∧ cu < tl ∧ tl ≤ 120) (hc : x cu = 58) (hj : m_skp x tl (cu + 1) j) : m_rl x tl T0 0 1 n j ro rc rn rp (qU la c0 n) := by
  refine ⟨c0, kd, ct, m_rz_go h h0 (by omega) hj (fun k r nl na pl c => ⟨k, r, nl, na, qU pl c0 n, ?_, c.1, fun i a b => ?_⟩)⟩
  · unfold m_ac
    dsimp only
    rw [if_neg (by decide), if_pos rfl, if_pos hc]
  · unfold qU
    by_cases hi : i = c0
    · rw [if_pos hi, if_pos hi]
    · rw [if_neg hi, if_neg hi]
      exact c.2 i a b
theorem m_col_no {c0 : Int} (h : m_rz x tl T0 1 c0 kd ct lb n cu ro rc rn rp la) (h0 : 0 ≤ cu ∧ cu ≤ tl) (hx : cu < tl → ¬ x cu = 32) (hc : ¬ (cu < tl ∧ 58 ≤ x cu ∧ x cu ≤ 58)) : m_ft T0 tl cu := by
  refine m_rz_no h h0 hx (fun q k r nl na pl c => ?_) (fun q => by omega)
  unfold m_ac
  dsimp only
  rw [if_neg (by decide), if_pos rfl, if_neg (by omega)]
theorem m_ins_no (h : m_rl x tl T0 0 lb n cu ro rc rn rp la) (hn : n < 24) (h0 : 0 ≤ cu ∧ cu ≤ tl) (hx : cu < tl → ¬ x cu = 32) (hl : ¬ (cu < tl ∧ 65 ≤ x cu ∧ x cu ≤ 90)) (hc : cu < tl → ¬ x cu = 43 ∧ ¬ x cu = 45 ∧ ¬ x cu = 62 ∧ ¬ x cu = 46) (hm : cu = tl → n = 0 ∨ lb = 1) : m_ft T0 tl cu := by
  refine m_rl_no h h0 hx (fun q lt kd ct k r nl na pl c => ?_) (fun q => by have := hm q; omega)
  have := hc q
  unfold m_ac
  dsimp only
  rw [if_pos rfl, if_neg (by omega), if_neg (by omega), if_neg (by omega), if_neg (by omega), if_neg (by omega), if_neg (by omega)]
theorem m_plus (h : m_rl x tl T0 0 lb n cu ro rc rn rp la) (hn : n < 24) (h0 : 0 ≤ cu ∧ cu < tl ∧ tl ≤ 120) (hc : x cu = 43) (hj : m_skp x tl (cu + 1) j) : ∃ lt, m_rz x tl T0 2 lt 0 (-1) lb n j ro rc rn rp la := by
  obtain ⟨lt, kd, ct, h⟩ := h
  refine ⟨lt, m_rz_go h h0 (by omega) hj (fun k r nl na pl c => ⟨k, r, nl, na, pl, ?_, c⟩)⟩
  unfold m_ac
  dsimp only
  rw [if_pos rfl, if_neg (by omega), if_neg (by omega), if_pos hc]
theorem m_minus (h : m_rl x tl T0 0 lb n cu ro rc rn rp la) (hn : n < 24) (h0 : 0 ≤ cu ∧ cu < tl ∧ tl ≤ 120) (hc : x cu = 45) (hj : m_skp x tl (cu + 1) j) : ∃ lt, m_rz x tl T0 2 lt 1 (-1) lb n j ro rc rn rp la := by
  obtain ⟨lt, kd, ct, h⟩ := h
  refine ⟨lt, m_rz_go h h0 (by omega) hj (fun k r nl na pl c => ⟨k, r, nl, na, pl, ?_, c⟩)⟩
  unfold m_ac
  dsimp only
  rw [if_pos rfl, if_neg (by omega), if_neg (by omega), if_neg (by omega), if_pos hc]
theorem m_gt (h : m_rl x tl T0 0 lb n cu ro rc rn rp la) (hn : n < 24) (h0 : 0 ≤ cu ∧ cu < tl ∧ tl ≤ 120) (hc : x cu = 62) (hj : m_skp x tl (cu + 1) j) : ∃ lt, m_rz x tl T0 3 lt 2 (-1) lb n j ro rc rn rp la := by
  obtain ⟨lt, kd, ct, h⟩ := h
  refine ⟨lt, m_rz_go h h0 (by omega) hj (fun k r nl na pl c => ⟨k, r, nl, na, pl, ?_, c⟩)⟩
  unfold m_ac
  dsimp only
  rw [if_pos rfl, if_neg (by omega), if_neg (by omega), if_neg (by omega), if_neg (by omega), if_pos hc]
theorem m_point (h : m_rl x tl T0 0 lb n cu ro rc rn rp la) (hn : n < 24) (h0 : 0 ≤ cu ∧ cu < tl ∧ tl ≤ 120) (hc : x cu = 46) (hj : m_skp x tl (cu + 1) j) (a1 : ro n = 3) (a2 : rc n = -1) (a3 : rn n = -1) : m_rl x tl T0 4 0 (n + 1) j ro rc rn rp la := by
  obtain ⟨lt, kd, ct, h⟩ := h
  refine ⟨lt, 3, -1, m_rz_go h h0 (by omega) hj (fun k r nl na pl c => ⟨qU k n 3, qU r n (-1), nl, na, pl, ?_, m_ag_f c a1 a2 (by omega) (fun _ => a3) m_rf m_rf⟩)⟩
  unfold m_ac
  dsimp only
  rw [if_pos rfl, if_neg (by omega), if_neg (by omega), if_neg (by omega), if_neg (by omega), if_neg (by omega), if_pos hc]
  rfl
theorem m_cPlus (h : m_rz x tl T0 2 lt 0 ct lb n cu ro rc rn rp la) (h0 : 0 ≤ cu ∧ cu < tl ∧ tl ≤ 120) (hc : 97 ≤ x cu ∧ x cu ≤ 104) (hj : m_skp x tl (cu + 1) j) (a1 : ro n = 0) (a2 : rc n = x cu - 97) (a3 : rn n = -1) : m_rl x tl T0 4 0 (n + 1) j ro rc rn rp la := by
  refine ⟨lt, 0, x cu - 97, m_rz_go h h0 (by omega) hj (fun k r nl na pl c => ⟨qU k n 0, qU r n (x cu - 97), nl, na, pl, ?_, m_ag_f c a1 a2 (by omega) (fun _ => a3) m_rf m_rf⟩)⟩
  unfold m_ac
  dsimp only
  rw [if_neg (by decide), if_neg (by decide), if_pos rfl, if_pos (by omega), if_neg (by decide)]
  rfl
theorem m_cMinus (h : m_rz x tl T0 2 lt 1 ct lb n cu ro rc rn rp la) (h0 : 0 ≤ cu ∧ cu < tl ∧ tl ≤ 120) (hc : 97 ≤ x cu ∧ x cu ≤ 104) (hj : m_skp x tl (cu + 1) j) : m_rz x tl T0 3 lt 1 (x cu - 97) lb n j ro rc rn rp la := by
  refine m_rz_go h h0 (by omega) hj (fun k r nl na pl c => ⟨k, r, nl, na, pl, ?_, c⟩)
  unfold m_ac
  dsimp only
  rw [if_neg (by decide), if_neg (by decide), if_pos rfl, if_pos (by omega), if_pos rfl]
theorem m_c_no (h : m_rz x tl T0 2 lt kd ct lb n cu ro rc rn rp la) (h0 : 0 ≤ cu ∧ cu ≤ tl) (hx : cu < tl → ¬ x cu = 32) (hc : ¬ (cu < tl ∧ 97 ≤ x cu ∧ x cu ≤ 104)) : m_ft T0 tl cu := by
  refine m_rz_no h h0 hx (fun q k r nl na pl c => ?_) (fun q => by omega)
  unfold m_ac
  dsimp only
  rw [if_neg (by decide), if_neg (by decide), if_pos rfl, if_neg (by omega)]
theorem m_name (h : m_rz x tl T0 3 lt kd ct lb n cu ro rc rn rp la) (hk : kd = 1 ∨ kd = 2) (h0 : 0 ≤ cu ∧ cu < tl ∧ tl ≤ 120) (hc : 65 ≤ x cu ∧ x cu ≤ 90) (hj : m_skp x tl (cu + 1) j) (a1 : ro n = kd) (a2 : rc n = ct) (a3 : rn n = x cu - 65) (a4 : rp n = cu) : m_rl x tl T0 4 0 (n + 1) j ro rc rn rp la := by
  refine ⟨lt, kd, ct, m_rz_go h h0 (by omega) hj (fun k r nl na pl c => ⟨qU k n kd, qU r n ct, qU nl n (x cu - 65), qU na n cu, pl, ?_, m_ag_f c a1 a2 (fun _ => ⟨by rw [qU_s, a3], by rw [qU_s, a4]⟩) (fun q => absurd hk q) qU_b qU_b⟩)⟩
  unfold m_ac
  dsimp only
  rw [if_neg (by decide), if_neg (by decide), if_neg (by decide), if_pos rfl, if_pos hc]
  rfl
theorem m_name_no (h : m_rz x tl T0 3 lt kd ct lb n cu ro rc rn rp la) (h0 : 0 ≤ cu ∧ cu ≤ tl) (hx : cu < tl → ¬ x cu = 32) (hc : ¬ (cu < tl ∧ 65 ≤ x cu ∧ x cu ≤ 90)) : m_ft T0 tl cu := by
  refine m_rz_no h h0 hx (fun q k r nl na pl c => ?_) (fun q => by omega)
  unfold m_ac
  dsimp only
  rw [if_neg (by decide), if_neg (by decide), if_neg (by decide), if_pos rfl, if_neg (by omega)]
theorem m_semi (h : m_rl x tl T0 4 lb n cu ro rc rn rp la) (h0 : 0 ≤ cu ∧ cu < tl ∧ tl ≤ 120) (hc : x cu = 59) (hj : m_skp x tl (cu + 1) j) : m_rl x tl T0 0 lb n j ro rc rn rp la := by
  obtain ⟨lt, kd, ct, h⟩ := h
  refine ⟨lt, kd, ct, m_rz_go h h0 (by omega) hj (fun k r nl na pl c => ⟨k, r, nl, na, pl, ?_, c⟩)⟩
  unfold m_ac
  dsimp only
  rw [if_neg (by decide), if_neg (by decide), if_neg (by decide), if_neg (by decide), if_pos hc]
theorem m_semi_no (h : m_rl x tl T0 4 lb n cu ro rc rn rp la) (h0 : 0 ≤ cu ∧ cu < tl) (hx : cu < tl → ¬ x cu = 32) (hc : ¬ (cu < tl ∧ 59 ≤ x cu ∧ x cu ≤ 59)) : m_ft T0 tl cu := by
  refine m_rl_no h (by omega) hx (fun q lt kd ct k r nl na pl c => ?_) (fun q => by omega)
  unfold m_ac
  dsimp only
  rw [if_neg (by decide), if_neg (by decide), if_neg (by decide), if_neg (by decide), if_neg (by omega)]
theorem m_many (h : m_rl x tl T0 0 lb n cu ro rc rn rp la) (hn : 24 ≤ n) (h0 : 0 ≤ cu ∧ cu < tl) (hx : ¬ x cu = 32) : m_ft T0 tl cu := by
  refine m_rl_no h (by omega) (fun _ => hx) (fun _ lt kd ct k r nl na pl c => ?_) (fun q => by omega)
  unfold m_ac
  dsimp only
  rw [if_pos rfl, if_pos hn]
/-- the end of a text without a fault -/
def m_en (T0 : Sum Int m_X) (n : Int) (ro rc rn rp la : Int → Int) : Prop := ∃ (nx lt kd ct lb : Int) (k r nl na pl : Int → Int), T0 = .inr (nx, lt, kd, ct, lb, n, k, r, nl, na, pl) ∧ m_xw (nx, lt, kd, ct, lb, n, k, r, nl, na, pl) ∧ m_me (nx, lt, kd, ct, lb, n, k, r, nl, na, pl) ∧ m_ag n k r nl na pl ro rc rn rp la
theorem m_en_of (h : m_rl x tl T0 nx lb n cu ro rc rn rp la) (hc : ¬ cu < tl) (hm : nx = 4 ∨ (nx = 0 ∧ 0 < n ∧ lb = 0)) : m_en T0 n ro rc rn rp la := by
  obtain ⟨lt, kd, ct, k, r, nl, na, pl, a, b, c⟩ := h
  rw [m_rq_end hc] at a
  exact ⟨nx, lt, kd, ct, lb, k, r, nl, na, pl, a, b, hm, c⟩
end
theorem qU_b2 {f : Int → Int} {n a b : Int} : ∀ i, i < n → qU (qU f n a) n b i = f i := fun i h => (qU_n (by omega)).trans (qU_n (by omega))
theorem m_rl_0 {x : Int → Int} {tl j : Int} {T0 : Sum Int m_X} {lt kd ct : Int} {k r nl na pl ro rc rn rp la : Int → Int} (h : T0 = m_rq x tl 0 (m_x0 lt kd ct k r nl na pl)) (hw : m_xw (m_x0 lt kd ct k r nl na pl)) (hp : ∀ i, 0 ≤ i → i < 26 → pl i = -1) (hj : m_skp x tl 0 j) : m_rl x tl T0 0 0 0 j ro rc rn rp (m_up la (fun _ => -1) 26) := by
  refine ⟨lt, kd, ct, k, r, nl, na, pl, ?_, hw, fun i a b => by omega, fun i a b => ?_⟩
  · rw [h, hj.2.2.2]
    rfl
  · rw [hp i a b, m_up_in ⟨a, b⟩]
def m_fr (n : Int) (rn rp la : Int → Int) : Nat → Int → Int
  | 0, _ => -1
  | f + 1, i => if i < n then (if 0 ≤ rn i ∧ la (rn i) < 0 then rp i else m_fr n rn rp la f (i + 1)) else -1
theorem m_fr_no {n : Int} {rn rp la : Int → Int} {f : Nat} {i : Int} (h : i < n) (h2 : 0 ≤ rn i ∧ la (rn i) < 0) : m_fr n rn rp la (f + 1) i = rp i := by
  rw [m_fr, if_pos h, if_pos h2]
theorem m_fr_go {n : Int} {rn rp la : Int → Int} {f : Nat} {i : Int} (h : i < n) (h2 : ¬ (0 ≤ rn i ∧ la (rn i) < 0)) : m_fr n rn rp la (f + 1) i = m_fr n rn rp la f (i + 1) := by
  rw [m_fr, if_pos h, if_neg h2]
theorem m_fr_end {n : Int} {rn rp la : Int → Int} {f : Nat} {i : Int} (h : ¬ i < n) : m_fr n rn rp la f i = -1 := by
  cases f with
  | zero => rfl
  | succ f => rw [m_fr, if_neg h]
theorem m_fr_fl {nx lt kd ct lb n : Int} {k r nl na pl ro rc rn rp la : Int → Int} (hw : m_xw (nx, lt, kd, ct, lb, n, k, r, nl, na, pl)) (ha : m_ag n k r nl na pl ro rc rn rp la) : ∀ (f : Nat) (i : Int), 0 ≤ i → m_fl n k nl na pl f i = m_fr n rn rp la f i
  | 0, i, h => rfl
  | f + 1, i, h => by
    by_cases hi : i < n
    · have h1 := ha.1 i h hi
      have h2 := hw.2.2.2.2.2.2.2.2.2.2.2.1 i
      have h3 := hw.2.2.2.2.2.2.2.2.2.2.2.2.2.1 (nl i)
      have h4 := ha.2 (nl i) h2.1 (by omega)
      by_cases hk : k i = 1 ∨ k i = 2
      · have h5 := h1.2.2.1 hk
        by_cases hp : pl (nl i) = -1
        · rw [m_fl_no hi ⟨hk, hp⟩, m_fr_no hi (by rw [← h5.1, ← h4]; omega), h5.2]
        · rw [m_fl_go hi (fun q => hp q.2), m_fr_go hi (by rw [← h5.1, ← h4]; omega)]
          exact m_fr_fl hw ha f (i + 1) (by omega)
      · have h5 := h1.2.2.2 hk
        rw [m_fl_go hi (fun q => hk q.1), m_fr_go hi (by omega)]
        exact m_fr_fl hw ha f (i + 1) (by omega)
    · rw [m_fl_end hi, m_fr_end hi]
/-- the fault's place, or -1 -/
noncomputable def m_fo (tl : Int) (T : Sum Int m_X) : Int := match T with
  | .inl i => i
  | .inr X => @ite Int (m_me X) (Classical.propDecidable _) (m_fl X.2.2.2.2.2.1 X.2.2.2.2.2.2.1 X.2.2.2.2.2.2.2.2.1 X.2.2.2.2.2.2.2.2.2.1 X.2.2.2.2.2.2.2.2.2.2 24 0) tl
theorem m_fo_ft {tl fa : Int} {T : Sum Int m_X} (h : m_ft T tl fa) : m_fo tl T = fa := by
  rcases h with ⟨rfl, _⟩ | ⟨X, rfl, h1, h2⟩
  · rfl
  · unfold m_fo
    dsimp only
    rw [if_neg h1, h2]
theorem m_fo_en {tl n : Int} {T : Sum Int m_X} {ro rc rn rp la : Int → Int} (h : m_en T n ro rc rn rp la) : m_fo tl T = m_fr n rn rp la 24 0 := by
  obtain ⟨nx, lt, kd, ct, lb, k, r, nl, na, pl, rfl, h1, h2, h3⟩ := h
  unfold m_fo
  dsimp only
  rw [if_pos h2]
  exact m_fr_fl h1 h3 24 0 (by omega)
def m_tr (rn la : Int → Int) (i : Int) : Int := if rn i < 0 then -1 else la (rn i)
/-- a new program, as the text says -/
def m_nw (T : Sum Int m_X) (n : Int) (k r t : Int → Int) : Prop := ∃ (nx lt kd ct lb : Int) (kx rx nl na pl : Int → Int), T = .inr (nx, lt, kd, ct, lb, n, kx, rx, nl, na, pl) ∧ ∀ i, 0 ≤ i → i < n → k i = kx i ∧ r i = rx i ∧ t i = m_tg kx nl pl i
theorem m_up_rg {f g : Int → Int} {lo hi n : Int} (h : ∀ c, lo ≤ f c ∧ f c ≤ hi) (h2 : ∀ c, lo ≤ g c ∧ g c ≤ hi) : ∀ c, lo ≤ m_up f g n c ∧ m_up f g n c ≤ hi := by
  intro c
  unfold m_up
  split
  · exact h2 c
  · exact h c
theorem m_pd_of {n : Int} {T : Sum Int m_X} {ro rc rn rp la k r t K R U de le dn : Int → Int} (he : m_en T n ro rc rn rp la) (hf : m_fr n rn rp la 24 0 = -1) (hrr : m_rr ro rc rn rp la) (hk : ∀ i, 0 ≤ k i ∧ k i ≤ 3) (hr : ∀ i, -200 ≤ r i ∧ r i ≤ 200) (ht : ∀ i, -1 ≤ t i ∧ t i ≤ 24) (hd : ∀ i, -1 ≤ de i ∧ de i ≤ 24) (hl : ∀ i, -1 ≤ le i ∧ le i ≤ 24)
    (eK : K = m_up k ro n) (eR : R = m_up r rc n) (eU : U = m_up t (m_tr rn la) n) : m_pd n K R U (m_up de (m_de n K R U) n) (m_up le (m_le n K U (m_up de (m_de n K R U) n)) n) (m_up dn (m_ld n K (m_up de (m_de n K R U) n)) n) ∧ m_nw T n K R U := by
  obtain ⟨nx, lt, kd, ct, lb, kx, rx, nl, na, pl, rfl, h1, h2, h3⟩ := he
  obtain ⟨w1, w2, w3, w4, w5, w6, w7, w8, w9, w10, w11, w12, w13, w14, w15, w16⟩ := id h1
  have hfl := (m_fr_fl h1 h3 24 0 (by omega)).trans hf
  have hall := m_fl_all w13 24 0 (by omega) hfl
  have hlk : ∀ i, 0 ≤ i → i < n → K i = kx i ∧ R i = rx i ∧ U i = m_tg kx nl pl i := by
    intro i a b
    have q := h3.1 i a b
    have q2 := w12 i
    have q3 := h3.2 (nl i) q2.1 (by omega)
    rw [eK, eR, eU, m_up_in ⟨a, b⟩, m_up_in ⟨a, b⟩, m_up_in ⟨a, b⟩]
    refine ⟨q.1.symm, q.2.1.symm, ?_⟩
    unfold m_tr m_tg
    by_cases hk : kx i = 1 ∨ kx i = 2
    · have q4 := (q.2.2.1 hk).1
      rw [if_pos hk, if_neg (by omega), ← q4, q3]
    · have q4 := q.2.2.2 hk
      rw [if_neg hk, if_pos (by omega)]
  have hUr : ∀ i, -1 ≤ U i ∧ U i ≤ 24 := by
    rw [eU]
    refine m_up_rg ht (fun c => ?_)
    unfold m_tr
    have := hrr.2.2.2.2 (rn c)
    split <;> omega
  refine ⟨⟨w6, by rw [eK]; exact m_up_rg hk hrr.1, by rw [eR]; exact m_up_rg hr hrr.2.1, fun i a b c => ?_, hUr, fun i a b c => ?_, (m_up_de w6.2 hd).1, fun i a b => m_up_in ⟨a, b⟩, fun i => ?_, fun i a b => m_up_in ⟨a, b⟩, fun i a b => m_up_in ⟨a, b⟩⟩, nx, lt, kd, ct, lb, kx, rx, nl, na, pl, rfl, hlk⟩
  · obtain ⟨q1, q2, q3⟩ := hlk i a b
    rw [q2]
    exact w15 i a b (by omega)
  · obtain ⟨q1, q2, q3⟩ := hlk i a b
    have q4 := hall i a b (by omega)
    have q5 := w14 (nl i)
    rw [q3]
    unfold m_tg
    rw [if_pos (by omega)]
    omega
  · by_cases hi : 0 ≤ i ∧ i < n
    · rw [m_up_in hi]
      rcases m_le_cases n K U (m_up de (m_de n K R U) n) i with q | q <;> omega
    · rw [m_up_out hi]
      exact hl i

/-! what the law's cases need -/
section
variable {p : Program} {l : Launch} {e : Env} {R : Room} {s : State} {m : MethodId} {args : Array Value} {below : List Frame} {meth : Method} {c : Code} {G : qG} {A : Nat → Prop} {H0 : Heap} {nL : Nat} {Q : State → Prop} {cells slots : Nat} {ws : va_W} {lv : List (Nat × Value)} {pc : Nat} {st : List Value} {cc : ByteArray} {own : String}
theorem qv_same_i (C : qC p s m c cc own G A H0 nL) {x y : Int} {off : Int} {tgt : Nat} (hdg : decode cc pc = .ok (.if_icmp .eq off, 3)) (ht : (pc : Int) + off = (tgt : Int)) (hxy : x = y)
    (kt : qV p l e R s m args below meth c G A H0 nL Q cells slots ws lv tgt st) : qV p l e R s m args below meth c G A H0 nL Q cells slots ws lv pc (.int (qI y) :: .int (qI x) :: st) :=
  fun H locs ls hP hD hS hl => lv_icmp_eq C.1 C.2.1 hdg ht (fun h => kt H locs ls hP hD hS hl) (fun h => absurd (by rw [hxy]) h)
theorem qv_same_l (C : qC p s m c cc own G A H0 nL) {x y : Int} {off : Int} {tgt : Nat} (hd0 : decode cc pc = .ok (.lcmp, 1)) (hdg : decode cc (pc + 1) = .ok (.ifCond .eq off, 3)) (ht : ((pc + 1 : Nat) : Int) + off = (tgt : Int)) (hxy : x = y)
    (kt : qV p l e R s m args below meth c G A H0 nL Q cells slots ws lv tgt st) : qV p l e R s m args below meth c G A H0 nL Q cells slots ws lv pc (.long (qL y) :: .long (qL x) :: st) :=
  fun H locs ls hP hD hS hl => W.lcmp C.1 C.2.1 hd0 (lv_if_eq C.1 C.2.1 hdg ht (fun h => kt H locs ls hP hD hS hl) (fun h => absurd ((lg_cmp_eq _ _).mpr (by rw [hxy])) h))
end
theorem m_x0_gb {lt kd ct lb n : Int} {k r nl na pl t : Int → Int} (h : m_gb lt kd ct lb n k r nl na pl t) : m_xw (m_x0 lt kd ct k r nl na (m_up pl (fun _ => -1) 26)) := by
  obtain ⟨h1, h2, h3, h4, h5, h6, h7, h8, h9, h10, h11, h12⟩ := h
  unfold m_x0 m_xw
  dsimp only
  refine ⟨by omega, h1, h2, h3, by omega, by omega, fun q => by omega, fun q => by omega, fun q => by omega, h6, h7, h8, h9, fun i => ?_, fun i a b => by omega, fun i hi => ?_⟩
  · by_cases hi : 0 ≤ i ∧ i < 26
    · rw [m_up_in hi]
      first | omega | (dsimp only; omega)
    · rw [m_up_out hi, h11 i hi]
      omega
  · rw [m_up_out hi]
    exact h11 i hi
theorem m_up_m1 (f : Int → Int) : ∀ i : Int, 0 ≤ i → i < 26 → m_up f (fun _ => -1) 26 i = -1 := fun i a b => m_up_in ⟨a, b⟩
theorem m_gb_sw {lt kd ct lb n n' lc : Int} {k r nl na pl t k' r' t' de lb' lh le ld : Int → Int} (h : m_gb lt kd ct lb n k r nl na pl t) (hg : m_pg n' lc k' r' t' de lb' lh le ld) : m_gb lt kd ct lb n' k' r' nl na pl t' :=
  ⟨h.1, h.2.1, h.2.2.1, h.2.2.2.1, hg.1, hg.2.1, hg.2.2.1, h.2.2.2.2.2.2.2.1, h.2.2.2.2.2.2.2.2.1, h.2.2.2.2.2.2.2.2.2.1, h.2.2.2.2.2.2.2.2.2.2.1, hg.2.2.2.2.1⟩
/-- what compile answers -/
def m_cs (x : Int → Int) (tl fl : Int) (X0 : m_X) (nx lt kd ct lb n : Int) (k r t nl na pl : Int → Int) : Prop :=
  (∃ i, m_rd x tl 120 0 X0 = .inl i ∧ fl = i ∧ 0 ≤ i ∧ i < tl) ∨ (m_rd x tl 120 0 X0 = .inr (nx, lt, kd, ct, lb, n, k, r, nl, na, pl) ∧ m_xw (nx, lt, kd, ct, lb, n, k, r, nl, na, pl) ∧ ¬ m_me (nx, lt, kd, ct, lb, n, k, r, nl, na, pl) ∧ fl = tl) ∨ (m_rd x tl 120 0 X0 = .inr (nx, lt, kd, ct, lb, n, k, r, nl, na, pl) ∧ m_xw (nx, lt, kd, ct, lb, n, k, r, nl, na, pl) ∧ m_me (nx, lt, kd, ct, lb, n, k, r, nl, na, pl) ∧ fl = m_fl n k nl na pl 24 0 ∧ ((fl = -1 ∧ ∀ j, 0 ≤ j → j < n → t j = m_tg k nl pl j) ∨ (0 ≤ fl ∧ fl ≤ 119)))
theorem m_fo_cs {x : Int → Int} {tl fl : Int} {X0 : m_X} {nx lt kd ct lb n : Int} {k r t nl na pl : Int → Int} (htl : 0 ≤ tl ∧ tl ≤ 120) (h : m_cs x tl fl X0 nx lt kd ct lb n k r t nl na pl) : fl = m_fo tl (m_rq x tl 0 X0) := by
  have e : m_rd x tl 120 0 X0 = m_rq x tl 0 X0 := m_rd_f 120 0 X0 (by omega)
  unfold m_cs at h
  rw [e] at h
  rcases h with ⟨i, h1, h2, h3⟩ | ⟨h1, h2, h3, h4⟩ | ⟨h1, h2, h3, h4, h5⟩
  · rw [h1]
    exact h2
  · rw [h1, h4]
    unfold m_fo
    dsimp only
    rw [if_neg h3]
  · rw [h1, h4]
    unfold m_fo
    dsimp only
    rw [if_pos h3]
theorem m_nw_cs {x : Int → Int} {tl fl : Int} {X0 : m_X} {nx lt kd ct lb n n' : Int} {k r t nl na pl k' r' t' : Int → Int} (htl : 0 ≤ tl ∧ tl ≤ 120) (h : m_cs x tl fl X0 nx lt kd ct lb n k r t nl na pl) (hf : fl = -1) (hw : m_nw (m_rq x tl 0 X0) n' k' r' t') : n = n' ∧ m_eq n k r t k' r' t' := by
  have e : m_rd x tl 120 0 X0 = m_rq x tl 0 X0 := m_rd_f 120 0 X0 (by omega)
  unfold m_cs at h
  rw [e] at h
  rcases h with ⟨i, h1, h2, h3⟩ | ⟨h1, h2, h3, h4⟩ | ⟨h1, h2, h3, h4, h5⟩
  · omega
  · omega
  · obtain ⟨nx2, lt2, kd2, ct2, lb2, kx, rx, nl2, na2, pl2, g1, g2⟩ := hw
    rw [h1] at g1
    simp only [Sum.inr.injEq, Prod.mk.injEq] at g1
    obtain ⟨_, _, _, _, _, e6, e7, e8, e9, _, e11⟩ := g1
    subst e6
    subst e7
    subst e8
    subst e9
    subst e11
    rcases h5 with ⟨_, h6⟩ | h6
    · exact ⟨rfl, fun i a b => ⟨(g2 i a b).1.symm, (g2 i a b).2.1.symm, by rw [h6 i a b, (g2 i a b).2.2]⟩⟩
    · omega
theorem m_if3_c {i n w a b c a' b' c' : Int} (h : 0 ≤ i → i < n → a = a' ∧ b = b' ∧ c = c') : (if 0 ≤ i ∧ i < n ∧ w = 0 then a else if 0 ≤ i ∧ i < n ∧ w = 1 then b else if 0 ≤ i ∧ i < n ∧ w = 2 then c else -1) = (if 0 ≤ i ∧ i < n ∧ w = 0 then a' else if 0 ≤ i ∧ i < n ∧ w = 1 then b' else if 0 ≤ i ∧ i < n ∧ w = 2 then c' else -1) := by
  by_cases h1 : 0 ≤ i ∧ i < n
  · obtain ⟨rfl, rfl, rfl⟩ := h h1.1 h1.2
    rfl
  · have e0 : ¬ (0 ≤ i ∧ i < n ∧ w = 0) := fun q => h1 ⟨q.1, q.2.1⟩
    have e1 : ¬ (0 ≤ i ∧ i < n ∧ w = 1) := fun q => h1 ⟨q.1, q.2.1⟩
    have e2 : ¬ (0 ≤ i ∧ i < n ∧ w = 2) := fun q => h1 ⟨q.1, q.2.1⟩
    rw [if_neg e0, if_neg e1, if_neg e2, if_neg e0, if_neg e1, if_neg e2]
section
variable {n lc : Int} {k r t de lb lh le ld k' r' t' de' le' dn' : Int → Int}
theorem m_lc_eq (hg : m_pg n lc k r t de lb lh le ld) (hp : m_pd n k' r' t' de' le' dn') (he : m_eq n k r t k' r' t') : lc = m_cn le' n.toNat ∧ 0 ≤ lc ∧ lc ≤ 24 := by
  have h1 := (m_cn_al hg hp he).2 n hg.1.1 (Int.le_refl n)
  have h2 : lc = m_cn (m_le n k t de) n.toNat := hg.2.2.2.2.2.2.2.2.2
  have h3 := m_cn_le (m_le n k t de) n.toNat
  have h4 := hg.1
  exact ⟨by rw [h2, h1], by omega, by omega⟩
theorem m_loop_c (hg : m_pg n lc k r t de lb lh le ld) (hp : m_pd n k' r' t' de' le' dn') (he : m_eq n k r t k' r' t') {kk w x h : Int} (hx : (h = -1 ∧ ¬ (0 ≤ kk ∧ kk < m_cn le' (Int.toNat n)) ∧ x = -1) ∨ (0 ≤ h ∧ h < n ∧ 0 ≤ le' h ∧ m_cn le' (Int.toNat h) = kk ∧ ((w = 0 ∧ x = h) ∨ (w = 1 ∧ x = le' h) ∨ (w = 2 ∧ x = dn' h) ∨ (¬ w = 0 ∧ ¬ w = 1 ∧ ¬ w = 2 ∧ x = -1)))) : (if 0 ≤ kk ∧ kk < lc ∧ w = 0 then lh kk else if 0 ≤ kk ∧ kk < lc ∧ w = 1 then le kk else if 0 ≤ kk ∧ kk < lc ∧ w = 2 then ld kk else -1) = x := by
  obtain ⟨a1, a2⟩ := m_cn_al hg hp he
  obtain ⟨l1, l2, l3⟩ := m_lc_eq hg hp he
  rcases hx with ⟨_, h1, rfl⟩ | ⟨h1, h2, h3, h4, h5⟩
  · rw [if_neg (by omega), if_neg (by omega), if_neg (by omega)]
  · have b1 := a1 h h1 h2
    have b2 := a2 h h1 (by omega)
    have b3 : m_cn (m_le n k t de) h.toNat = kk := by rw [← b2]; exact h4
    have b4 := (hg.2.2.2.2.2.2.2.2.1 h h1 h2).1 (by rw [← b1.1]; exact h3)
    rw [b3] at b4
    have b5 : m_cn le' h.toNat < m_cn le' n.toNat := m_cn_lt h1 h2 h3
    have b6 := m_cn_le le' h.toNat
    have b7 : 0 ≤ kk ∧ kk < lc := by omega
    rcases h5 with ⟨w1, w2⟩ | ⟨w1, w2⟩ | ⟨w1, w2⟩ | ⟨w1, w2, w3, w4⟩
    · rw [if_pos (by omega), w2]
      exact b4.2.1
    · rw [if_neg (by omega), if_pos (by omega), w2, b1.1]
      exact b4.2.2.1
    · rw [if_neg (by omega), if_neg (by omega), if_pos (by omega), w2, b1.2]
      exact b4.2.2.2
    · rw [if_neg (by omega), if_neg (by omega), if_neg (by omega), w4]
theorem m_ch_u (hg : m_pg n lc k r t de lb lh le ld) (hp : m_pd n k' r' t' de' le' dn') (he : m_eq n k r t k' r' t') {kk h h' : Int} {v : Int → Int} (hh : 0 ≤ h ∧ h < n ∧ 0 ≤ m_le n k t de h ∧ m_cn (m_le n k t de) (Int.toNat h) = kk) (hh' : 0 ≤ h' ∧ h' < n ∧ 0 ≤ le' h' ∧ m_cn le' (Int.toNat h') = kk) : m_pa k r de h (m_le n k t de h) v = m_pa k' r' de' h' (le' h') v := by
  obtain ⟨a1, a2⟩ := m_cn_al hg hp he
  have b1 := a1 h' hh'.1 hh'.2.1
  have b2 := a2 h' hh'.1 (by omega)
  have b3 : 0 ≤ m_le n k t de h' := by rw [← b1.1]; exact hh'.2.2.1
  have e : h = h' := by
    by_cases q : h < h'
    · have := m_cn_lt (e := m_le n k t de) hh.1 q hh.2.2.1
      omega
    · by_cases q2 : h' < h
      · have := m_cn_lt (e := m_le n k t de) hh'.1 q2 b3
        omega
      · omega
  subst e
  rw [b1.1]
  have hn := m_le_n n k t de h
  have h1 := hh.2.1
  have h0 := hh.1
  exact m_pa_c (m_al_of hg hp he) hh.1 (by omega) v
theorem m_c1_u {h e h' e' : Int} {v w w' : Int → Int} (q : m_pa k r de h e v = m_pa k' r' de' h' e' v) (h1 : m_c1 k r de h e v w) (h2 : m_c1 k' r' de' h' e' v w') : w = w' := by
  obtain ⟨lo, hi, dr, ln, a, _⟩ := h1
  obtain ⟨lo', hi', dr', ln', b, _⟩ := h2
  rw [q, b] at a
  simp only [Option.some.injEq, Prod.mk.injEq] at a
  exact a.1.1.symm
theorem m_c10 {h e h' e' : Int} {v w : Int → Int} (q : m_pa k r de h e v = m_pa k' r' de' h' e' v) (h1 : m_c1 k r de h e v w) (h2 : m_c0 k' r' de' h' e' v) : False := by
  obtain ⟨lo, hi, dr, ln, a, b, c⟩ := h1
  have := h2 _ _ _ (q.symm.trans a)
  omega
theorem m_ru_hd (hr : m_rw n k r t de) (on : Int) : ∀ (f : Nat) (pl st : Int) (v : Int → Int) (cn hd ps ss : Int), m_tw n pl st v → (-2147483648 ≤ hd ∧ hd ≤ 2147483647) → -2147483648 ≤ (m_ru n k r t de on f (pl, st, v, cn, hd, ps, ss)).2.2.2.2.1 ∧ (m_ru n k r t de on f (pl, st, v, cn, hd, ps, ss)).2.2.2.2.1 ≤ 2147483647
  | 0, pl, st, v, cn, hd, ps, ss, hw, hh => hh
  | f + 1, pl, st, v, cn, hd, ps, ss, hw, hh => by
    have hp := hw.1
    have hn := hr.1
    by_cases h0 : m_sta n k r t de pl st v 0
    · have hg := (m_sta_0 h0).1
      by_cases h1 : on = 1 ∧ 0 < m_pq n k r t de pl v (1000000000000000 - st)
      · rw [m_ru_leap h0 h1]
        exact m_ru_hd hr on f _ _ _ _ _ _ _ (m_leap_y hr hw (m_xs_pq pl v _) rfl h1.2 (Int.le_refl _)).1.1 (by omega)
      · rw [m_ru_step h0 h1]
        exact m_ru_hd hr on f _ _ _ _ _ _ _ (m_sp_w hr hw hg) hh
    · rw [m_ru_stop h0]
      exact hh
end
theorem m_ru_hd1 {n : Int} {k r t de : Int → Int} (hr : m_rw n k r t de) {on : Int} {f : Nat} {pl st : Int} {v : Int → Int} {cn hd ps ss pl1 st1 : Int} {v1 : Int → Int} {cn1 hd1 ps1 ss1 : Int} (hw : m_tw n pl st v) (hh : -2147483648 ≤ hd ∧ hd ≤ 2147483647) (hT : m_ru n k r t de on f (pl, st, v, cn, hd, ps, ss) = (pl1, st1, v1, cn1, hd1, ps1, ss1)) : -2147483648 ≤ hd1 ∧ hd1 ≤ 2147483647 := by
  have h := m_ru_hd hr on f pl st v cn hd ps ss hw hh
  rw [hT] at h
  exact h
/-- the answer of a seek -/
def m_yy (n : Int) (k r : Int → Int) (pl st al : Int) (v : Int → Int) (y : Int) : Prop := (st = al ∧ y = 1) ∨ (¬ st = al ∧ (n ≤ pl ∨ k pl = 3) ∧ y = 0) ∨ (¬ st = al ∧ (pl < n ∧ ¬ k pl = 3) ∧ ((k pl = 0 ∧ 1000000 ≤ v (r pl)) ∨ 1000000000000000 ≤ st) ∧ y = 2)
theorem m_yy_u {n : Int} {k r t k' r' t' : Int → Int} {pl st al : Int} {v : Int → Int} {y y' : Int} (h0 : 0 ≤ pl) (he : m_eq n k r t k' r' t') (h : m_yy n k r pl st al v y) (h' : m_yy n k' r' pl st al v y') : y = y' := by
  unfold m_yy at h h'
  by_cases q : pl < n
  · obtain ⟨e1, e2, _⟩ := he pl h0 q
    rw [← e1, ← e2] at h'
    omega
  · omega
theorem m_yy_g {n : Int} {k r t k' r' t' : Int → Int} {pl st al : Int} {v : Int → Int} {y : Int} (h0 : 0 ≤ pl) (he : m_eq n k r t k' r' t') (h : m_yy n k r pl st al v y) (hs : st < al) (hg : m_go n k' r' pl st v) : False := by
  unfold m_yy at h
  obtain ⟨g1, g2⟩ := hg
  obtain ⟨e1, e2, _⟩ := he pl h0 g1.1
  rw [← e1] at g1
  rw [← e1, ← e2] at g2
  omega
theorem m_yy_h {n : Int} {k r t k' r' t' : Int → Int} {pl st al : Int} {v : Int → Int} {y : Int} (h0 : 0 ≤ pl) (he : m_eq n k r t k' r' t') (h : m_yy n k' r' pl st al v y) (hs : st < al) (hg : m_go n k r pl st v) : False := by
  unfold m_yy at h
  obtain ⟨g1, g2⟩ := hg
  obtain ⟨e1, e2, _⟩ := he pl h0 g1.1
  rw [← e1] at h
  rw [← e2] at h
  omega
theorem m_sta_nn {n : Int} {k r t de : Int → Int} {pl st : Int} {v : Int → Int} {x : Int} (h : m_sta n k r t de pl st v x) (h0 : 0 ≤ pl) (hn : n = 0) : x = 1 := by
  rcases h with h | h | h | h
  · exact h.1
  · exact absurd h.2.1.1 (by omega)
  · exact absurd h.2.1.1 (by omega)
  · exact absurd h.2.1.1 (by omega)
theorem m_tw_set {n pl st : Int} {v : Int → Int} {c w : Int} (h : m_tw n pl st v) (hc : 0 ≤ c ∧ c < 8 ∧ 0 ≤ w ∧ w ≤ 1000000) : m_tw n pl st (qU v c w) := by
  refine ⟨h.1, h.2.1, fun j => ?_, fun j hj => ?_⟩
  · by_cases q : j = c
    · rw [q, qU_s]
      omega
    · rw [qU_n q]
      exact h.2.2.1 j
  · rw [qU_n (by omega)]
    exact h.2.2.2 j hj
theorem m_tw_0 {n pl st : Int} {v : Int → Int} (h : m_tw n pl st v) (hn : 0 ≤ n) : m_tw n 0 0 v := ⟨⟨by omega, hn⟩, ⟨by omega, by omega⟩, h.2.2⟩
theorem m_vw_00 : m_vw (fun _ => 0) := ⟨fun c => by dsimp only; omega, fun c h => rfl⟩
theorem m_tw_00 : m_tw 0 0 0 (fun _ => 0) := ⟨⟨by omega, by omega⟩, ⟨by omega, by omega⟩, m_vw_00⟩
theorem m_gb_00 : m_gb 0 0 0 0 0 (fun _ => 0) (fun _ => 0) (fun _ => 0) (fun _ => 0) (fun _ => 0) (fun _ => 0) := by
  unfold m_gb
  refine ⟨by omega, by omega, by omega, by omega, by omega, fun i => ?_, fun i => ?_, fun i => ?_, fun i => ?_, fun i => ?_, fun i h => rfl, fun i => ?_⟩ <;> (dsimp only; omega)
theorem m_pg_00 : m_pg 0 0 (fun _ => 0) (fun _ => 0) (fun _ => 0) (fun _ => 0) (fun _ => 0) (fun _ => 0) (fun _ => 0) (fun _ => 0) := by
  unfold m_pg
  refine ⟨by omega, fun i => ?_, fun i => ?_, fun i a b => by omega, fun i => ?_, fun i a b => by omega, fun i => ?_, fun i a b => by omega, m_lo_0 _ _ _ _ _ _, rfl⟩ <;> (dsimp only; omega)
theorem m_pd_00 : m_pd 0 (fun _ => 0) (fun _ => 0) (fun _ => 0) (fun _ => 0) (fun _ => 0) (fun _ => 0) := by
  unfold m_pd
  refine ⟨by omega, fun i => ?_, fun i => ?_, fun i a b => by omega, fun i => ?_, fun i a b => by omega, fun i => ?_, fun i a b => by omega, fun i => ?_, fun i a b => by omega, fun i a b => by omega⟩ <;> (dsimp only; omega)
theorem m_zw_00 : m_zw 0 0 (fun _ => 0) (fun _ => 0) (fun _ => 0) (fun _ => 0) (fun _ => 0) := by
  unfold m_zw
  refine ⟨by omega, by omega, fun i => ?_, fun i => ?_, fun i => ?_, fun i => ?_, fun i => ?_, fun i h => ⟨rfl, rfl, rfl, rfl, rfl⟩⟩ <;> (dsimp only; omega)
theorem m_sw_00 : m_sw (fun _ => 0) (fun _ => 0) (fun _ => 0) 0 := by
  unfold m_sw
  refine ⟨fun i => ?_, fun i => ?_, fun i h => ⟨rfl, rfl, rfl⟩, by omega, by omega⟩ <;> (dsimp only; omega)
theorem m_rr_00 : m_rr (fun _ => 0) (fun _ => 0) (fun _ => 0) (fun _ => 0) (fun _ => 0) := by
  unfold m_rr
  refine ⟨fun i => ?_, fun i => ?_, fun i => ?_, fun i => ?_, fun i => ?_⟩ <;> (dsimp only; omega)

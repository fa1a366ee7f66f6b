set_option maxHeartbeats 4000000 in
set_option maxRecDepth 100000 in
theorem c_R_isLabel (l : Launch) (G : qG) {c : Int} (hc : 0 ≤ c ∧ c ≤ 65535) : qM l G y_R_isLabel b_R_isLabel 1 (some .boolean) ({ frames := 0, cells := 0, slots := 0, locals := 0 }) [.int (qI c)] [] (fun v' ws' => ws' = [] ∧ ∃ x : Int, v' = some (.int (qI x)) ∧ ((x = 1 ∧ 65 ≤ c ∧ c ≤ 90) ∨ (x = 0 ∧ ¬ (65 ≤ c ∧ c ≤ 90)))) := by
  refine qM.of (by decide) (Nat.le_of_ble_eq_true rfl) (fun xp xe xs xm xb xme xc A C hrt hlk hnm => ?_)
  refine qv_eq (lv' := [(0, .int (qI c))]) rfl rfl rfl ?_
  refine qv_iload_n C 0 d_R_isLabel_0 rfl rfl ?_
  refine qv_bipush C d_R_isLabel_1 (by decide) ?_
  refine qv_icmp_lt C d_R_isLabel_3 (tgt := 16) (by decide) (by omega) (by omega) (fun ht3 => ?_) (fun hf3 => ?_)
  · refine qv_iconst C d_R_isLabel_16 ?_
    refine qv_zret C (by omega) hrt hlk d_R_isLabel_17 ?_
    exact ⟨rfl, 0, rfl, by omega⟩
  · refine qv_iload_n C 0 d_R_isLabel_6 rfl rfl ?_
    refine qv_bipush C d_R_isLabel_7 (by decide) ?_
    refine qv_icmp_gt C d_R_isLabel_9 (tgt := 16) (by decide) (by omega) (by omega) (fun ht9 => ?_) (fun hf9 => ?_)
    · refine qv_iconst C d_R_isLabel_16 ?_
      refine qv_zret C (by omega) hrt hlk d_R_isLabel_17 ?_
      exact ⟨rfl, 0, rfl, by omega⟩
    · refine qv_iconst C d_R_isLabel_12 ?_
      refine qv_goto C d_R_isLabel_13 (by decide) (tgt := 17) ?_
      refine qv_zret C (by omega) hrt hlk d_R_isLabel_17 ?_
      exact ⟨rfl, 1, rfl, by omega⟩
set_option maxHeartbeats 4000000 in
set_option maxRecDepth 100000 in
theorem c_R_expect (l : Launch) (G : qG) {rd rl rn ra : Nat} {p : Nat} {nx lt kd ct lb kd' nx' : Int}  : qM l G y_R_expect b_R_expect 3 none ({ frames := 0, cells := 0, slots := 0, locals := 0 }) [.ref rd, .int (qI kd'), .int (qI nx')] [(rd, .inr (3, [.ref rl, .ref rn, .ref ra, .ref p, .int (qI nx), .int (qI lt), .int (qI kd), .int (qI ct), .int (qI lb)]))] (fun v' ws' => v' = none ∧ ws' = [(rd, .inr (3, [.ref rl, .ref rn, .ref ra, .ref p, .int (qI nx'), .int (qI lt), .int (qI kd'), .int (qI ct), .int (qI lb)]))]) := by
  refine qM.of (by decide) (Nat.le_of_ble_eq_true rfl) (fun xp xe xs xm xb xme xc A C hrt hlk hnm => ?_)
  refine qv_eq (lv' := [(0, .ref rd), (1, .int (qI kd')), (2, .int (qI nx'))]) rfl rfl rfl ?_
  refine qv_aload_n C 0 d_R_expect_0 rfl rfl ?_
  refine qv_iload_n C 1 d_R_expect_1 rfl rfl ?_
  refine qv_put C in_R 0 rfl rfl 6 (by decide) t_R t_R_ok n_R wf_R_86 rfl rfl (t_R_ok 6 (by decide)) (rfl) (rfl) (Nat.le_of_ble_eq_true rfl) d_R_expect_2 (ws' := [(rd, .inr (3, [.ref rl, .ref rn, .ref ra, .ref p, .int (qI nx), .int (qI lt), .int (qI kd'), .int (qI ct), .int (qI lb)]))]) rfl ?_
  refine qv_aload_n C 0 d_R_expect_5 rfl rfl ?_
  refine qv_iload_n C 2 d_R_expect_6 rfl rfl ?_
  refine qv_put C in_R 0 rfl rfl 4 (by decide) t_R t_R_ok n_R wf_R_47 rfl rfl (t_R_ok 4 (by decide)) (rfl) (rfl) (Nat.le_of_ble_eq_true rfl) d_R_expect_7 (ws' := [(rd, .inr (3, [.ref rl, .ref rn, .ref ra, .ref p, .int (qI nx'), .int (qI lt), .int (qI kd'), .int (qI ct), .int (qI lb)]))]) rfl ?_
  refine qv_vret C hrt hlk d_R_expect_10 ?_
  exact ⟨rfl, rfl⟩
set_option maxHeartbeats 4000000 in
set_option maxRecDepth 100000 in
theorem c_R_clear (l : Launch) (G : qG) {rd rl rn ra : Nat} {p pk pr pt pd pb ph pe pg : Nat} {vi : Value} {nx lt kd ct lb n lc : Int} {pl : Int → Int}  : qM l G y_R_clear b_R_clear 3 none ({ frames := 0, cells := 0, slots := 0, locals := 0 }) [.ref rd, .ref p] [(rd, .inr (3, [.ref rl, .ref rn, .ref ra, vi, .int (qI nx), .int (qI lt), .int (qI kd), .int (qI ct), .int (qI lb)])), (rl, .inl (G.2.1, 26, .inl (qA pl))), (p, .inr (2, [.ref pk, .ref pr, .ref pt, .int (qI n), .ref pd, .ref pb, .ref ph, .ref pe, .ref pg, .int (qI lc)]))] (fun v' ws' => v' = none ∧ ws' = [(rd, .inr (3, [.ref rl, .ref rn, .ref ra, .ref p, .int (qI 0), .int (qI lt), .int (qI kd), .int (qI ct), .int (qI 0)])), (rl, .inl (G.2.1, 26, .inl (qA (m_up pl (fun _ => -1) 26)))), (p, .inr (2, [.ref pk, .ref pr, .ref pt, .int (qI 0), .ref pd, .ref pb, .ref ph, .ref pe, .ref pg, .int (qI lc)]))]) := by
  refine qM.of (by decide) (Nat.le_of_ble_eq_true rfl) (fun xp xe xs xm xb xme xc A C hrt hlk hnm => ?_)
  refine qv_eq (lv' := [(0, .ref rd), (1, .ref p)]) rfl rfl rfl ?_
  refine qv_aload_n C 0 d_R_clear_0 rfl rfl ?_
  refine qv_aload_n C 1 d_R_clear_1 rfl rfl ?_
  refine qv_put C in_R 0 rfl rfl 3 (by decide) t_R t_R_ok n_R wf_R_37 rfl rfl (t_R_ok 3 (by decide)) (rfl) (rfl) (Nat.le_of_ble_eq_true rfl) d_R_clear_2 (ws' := [(rd, .inr (3, [.ref rl, .ref rn, .ref ra, .ref p, .int (qI nx), .int (qI lt), .int (qI kd), .int (qI ct), .int (qI lb)])), (rl, .inl (G.2.1, 26, .inl (qA pl))), (p, .inr (2, [.ref pk, .ref pr, .ref pt, .int (qI n), .ref pd, .ref pb, .ref ph, .ref pe, .ref pg, .int (qI lc)]))]) rfl ?_
  refine qv_aload_n C 0 d_R_clear_5 rfl rfl ?_
  refine qv_get C in_R 0 rfl rfl 3 (by decide) wf_R_37 rfl rfl d_R_clear_6 ?_
  refine qv_iconst C d_R_clear_9 ?_
  refine qv_putN C in_P 2 rfl rfl 3 (by decide) t_P t_P_ok n_P wf_R_41 rfl rfl (t_P_ok 3 (by decide)) (rfl) (rfl) (Nat.le_of_ble_eq_true rfl) d_R_clear_10 (ws' := [(rd, .inr (3, [.ref rl, .ref rn, .ref ra, .ref p, .int (qI nx), .int (qI lt), .int (qI kd), .int (qI ct), .int (qI lb)])), (rl, .inl (G.2.1, 26, .inl (qA pl))), (p, .inr (2, [.ref pk, .ref pr, .ref pt, .int (qI 0), .ref pd, .ref pb, .ref ph, .ref pe, .ref pg, .int (qI lc)]))]) rfl ?_
  refine qv_aload_n C 0 d_R_clear_13 rfl rfl ?_
  refine qv_iconst C d_R_clear_14 ?_
  refine qv_put C in_R 0 rfl rfl 4 (by decide) t_R t_R_ok n_R wf_R_47 rfl rfl (t_R_ok 4 (by decide)) (rfl) (rfl) (Nat.le_of_ble_eq_true rfl) d_R_clear_15 (ws' := [(rd, .inr (3, [.ref rl, .ref rn, .ref ra, .ref p, .int (qI 0), .int (qI lt), .int (qI kd), .int (qI ct), .int (qI lb)])), (rl, .inl (G.2.1, 26, .inl (qA pl))), (p, .inr (2, [.ref pk, .ref pr, .ref pt, .int (qI 0), .ref pd, .ref pb, .ref ph, .ref pe, .ref pg, .int (qI lc)]))]) rfl ?_
  refine qv_aload_n C 0 d_R_clear_18 rfl rfl ?_
  refine qv_iconst C d_R_clear_19 ?_
  refine qv_put C in_R 0 rfl rfl 8 (by decide) t_R t_R_ok n_R wf_R_50 rfl rfl (t_R_ok 8 (by decide)) (by decide) (by decide) (Nat.le_of_ble_eq_true rfl) d_R_clear_20 (ws' := [(rd, .inr (3, [.ref rl, .ref rn, .ref ra, .ref p, .int (qI 0), .int (qI lt), .int (qI kd), .int (qI ct), .int (qI 0)])), (rl, .inl (G.2.1, 26, .inl (qA pl))), (p, .inr (2, [.ref pk, .ref pr, .ref pt, .int (qI 0), .ref pd, .ref pb, .ref ph, .ref pe, .ref pg, .int (qI lc)]))]) rfl ?_
  refine qv_iconst C d_R_clear_23 ?_
  refine qv_istore_n C d_R_clear_24 rfl (by decide) (lv' := [(2, .int (qI 0)), (0, .ref rd), (1, .ref p)]) rfl ?_
  have L25 : ∀ (N25 : Nat) (i : Int), (26 - i).toNat < N25 → (0 ≤ i ∧ i ≤ 26) → qV xp l xe ({ frames := 0, cells := 0, slots := 0, locals := 0 }) xs xm [.ref rd, .ref p].toArray xb xme xc G A xs.heap 3 (MQ xb (qQ G A (fun v' ws' => v' = none ∧ ws' = [(rd, .inr (3, [.ref rl, .ref rn, .ref ra, .ref p, .int (qI 0), .int (qI lt), .int (qI kd), .int (qI ct), .int (qI 0)])), (rl, .inl (G.2.1, 26, .inl (qA (m_up pl (fun _ => -1) 26)))), (p, .inr (2, [.ref pk, .ref pr, .ref pt, .int (qI 0), .ref pd, .ref pb, .ref ph, .ref pe, .ref pg, .int (qI lc)]))])) [.ref rd, .ref p].toArray xs 0 0 A) 0 0 [(rd, .inr (3, [.ref rl, .ref rn, .ref ra, .ref p, .int (qI 0), .int (qI lt), .int (qI kd), .int (qI ct), .int (qI 0)])), (rl, .inl (G.2.1, 26, .inl (qA (m_up pl (fun _ => -1) i)))), (p, .inr (2, [.ref pk, .ref pr, .ref pt, .int (qI 0), .ref pd, .ref pb, .ref ph, .ref pe, .ref pg, .int (qI lc)]))] [(2, .int (qI i)), (0, .ref rd), (1, .ref p)] 25 [] := by
    intro N25
    induction N25 with
    | zero => intro i hmu; exact absurd hmu (Nat.not_lt_zero _)
    | succ N25 ih25 =>
      intro i hmu25 hi
      refine qv_iload_n C 0 d_R_clear_25 rfl rfl ?_
      refine qv_bipush C d_R_clear_26 (by decide) ?_
      refine qv_icmp_ge C d_R_clear_28 (tgt := 44) (by decide) (by omega) (by omega) (fun ht28 => ?_) (fun hf28 => ?_)
      · refine qv_vret C hrt hlk d_R_clear_44 ?_
        obtain rfl : i = 26 := by omega
        exact ⟨rfl, rfl⟩
      · refine qv_aload_n C 1 d_R_clear_31 rfl rfl ?_
        refine qv_get C in_R 0 rfl rfl 0 (by decide) wf_R_11 rfl rfl d_R_clear_32 ?_
        refine qv_iload_n C 0 d_R_clear_35 rfl rfl ?_
        refine qv_iconst C d_R_clear_36 ?_
        refine qv_iast C 1 rfl (by omega) d_R_clear_37 (ws' := [(rd, .inr (3, [.ref rl, .ref rn, .ref ra, .ref p, .int (qI 0), .int (qI lt), .int (qI kd), .int (qI ct), .int (qI 0)])), (rl, .inl (G.2.1, 26, .inl (qA (qU (m_up pl (fun _ => -1) i) i (-1))))), (p, .inr (2, [.ref pk, .ref pr, .ref pt, .int (qI 0), .ref pd, .ref pb, .ref ph, .ref pe, .ref pg, .int (qI lc)]))]) rfl ?_
        refine qv_iinc C 0 d_R_clear_38 rfl (by decide) (lv' := [(2, .int (qI (i + 1))), (0, .ref rd), (1, .ref p)]) rfl ?_
        refine qv_goto C d_R_clear_41 (by decide) (tgt := 25) ?_
        refine qv_eq (ws' := [(rd, .inr (3, [.ref rl, .ref rn, .ref ra, .ref p, .int (qI 0), .int (qI lt), .int (qI kd), .int (qI ct), .int (qI 0)])), (rl, .inl (G.2.1, 26, .inl (qA (m_up pl (fun _ => -1) (i + 1))))), (p, .inr (2, [.ref pk, .ref pr, .ref pt, .int (qI 0), .ref pd, .ref pb, .ref ph, .ref pe, .ref pg, .int (qI lc)]))]) (lv' := [(2, .int (qI (i + 1))), (0, .ref rd), (1, .ref p)]) (by rw [show qU (m_up pl (fun _ => -1) i) i (-1) = m_up pl (fun _ => -1) (i + 1) from m_up_s (g := fun _ => -1) hi.1]) (rfl) rfl ?_
        exact ih25 (i + 1) (by omega) (by first | assumption | omega)
  refine qv_eq (ws' := [(rd, .inr (3, [.ref rl, .ref rn, .ref ra, .ref p, .int (qI 0), .int (qI lt), .int (qI kd), .int (qI ct), .int (qI 0)])), (rl, .inl (G.2.1, 26, .inl (qA (m_up pl (fun _ => -1) 0)))), (p, .inr (2, [.ref pk, .ref pr, .ref pt, .int (qI 0), .ref pd, .ref pb, .ref ph, .ref pe, .ref pg, .int (qI lc)]))]) (lv' := [(2, .int (qI 0)), (0, .ref rd), (1, .ref p)]) (by rw [m_up_0]) (rfl) rfl ?_
  exact L25 _ 0 (Nat.lt_succ_self _) (by first | assumption | omega)
set_option maxHeartbeats 4000000 in
set_option maxRecDepth 100000 in
theorem c_R_finish (l : Launch) (G : qG) {rd rl rn ra : Nat} {p pk pr pt pd pb ph pe pg : Nat} {nx lt kd ct lb n lc : Int} {k r t : Int → Int} (hn : 0 ≤ n ∧ n < 24) : qM l G y_R_finish b_R_finish 1 none ({ frames := 1, cells := 0, slots := 0, locals := 22 }) [.ref rd] [(rd, .inr (3, [.ref rl, .ref rn, .ref ra, .ref p, .int (qI nx), .int (qI lt), .int (qI kd), .int (qI ct), .int (qI lb)])), (p, .inr (2, [.ref pk, .ref pr, .ref pt, .int (qI n), .ref pd, .ref pb, .ref ph, .ref pe, .ref pg, .int (qI lc)])), (pk, .inl (G.2.1, 24, .inl (qA k))), (pr, .inl (G.2.1, 24, .inl (qA r))), (pt, .inl (G.2.1, 24, .inl (qA t)))] (fun v' ws' => v' = none ∧ ws' = [(rd, .inr (3, [.ref rl, .ref rn, .ref ra, .ref p, .int (qI 4), .int (qI lt), .int (qI kd), .int (qI ct), .int (qI 0)])), (p, .inr (2, [.ref pk, .ref pr, .ref pt, .int (qI (n + 1)), .ref pd, .ref pb, .ref ph, .ref pe, .ref pg, .int (qI lc)])), (pk, .inl (G.2.1, 24, .inl (qA (qU k n kd)))), (pr, .inl (G.2.1, 24, .inl (qA (qU r n ct)))), (pt, .inl (G.2.1, 24, .inl (qA (qU t n (-1)))))]) := by
  refine qM.of (by decide) (Nat.le_of_ble_eq_true rfl) (fun xp xe xs xm xb xme xc A C hrt hlk hnm => ?_)
  refine qv_eq (lv' := [(0, .ref rd)]) rfl rfl rfl ?_
  refine qv_aload_n C 0 d_R_finish_0 rfl rfl ?_
  refine qv_get C in_R 0 rfl rfl 3 (by decide) wf_R_37 rfl rfl d_R_finish_1 ?_
  refine qv_aload_n C 0 d_R_finish_4 rfl rfl ?_
  refine qv_get C in_R 0 rfl rfl 6 (by decide) wf_R_86 rfl rfl d_R_finish_5 ?_
  refine qv_aload_n C 0 d_R_finish_8 rfl rfl ?_
  refine qv_get C in_R 0 rfl rfl 7 (by decide) wf_R_79 rfl rfl d_R_finish_9 ?_
  refine qv_cVN (As := [.int (qI kd), .int (qI ct)]) (rest := []) (wc := [(p, .inr (2, [.ref pk, .ref pr, .ref pt, .int (qI n), .ref pd, .ref pb, .ref ph, .ref pe, .ref pg, .int (qI lc)])), (pk, .inl (G.2.1, 24, .inl (qA k))), (pr, .inl (G.2.1, 24, .inl (qA r))), (pt, .inl (G.2.1, 24, .inl (qA t)))]) (wr := [(rd, .inr (3, [.ref rl, .ref rn, .ref ra, .ref p, .int (qI nx), .int (qI lt), .int (qI kd), .int (qI ct), .int (qI lb)]))]) C k_P_add (c_P_add l G (kd := kd) (ct := ct) hn) wm_R_92 wi_P_add ws_P_add 0 rfl rfl (by decide) d_R_finish_12 rfl rfl (Nat.le_of_ble_eq_true rfl) (by decide) [1, 2, 3, 4] [0] rfl (by decide) rfl (by decide) (by decide) (fun v ws' hpost => ?_)
  obtain ⟨rfl, rfl⟩ := hpost
  refine qv_eq (ws' := [(rd, .inr (3, [.ref rl, .ref rn, .ref ra, .ref p, .int (qI nx), .int (qI lt), .int (qI kd), .int (qI ct), .int (qI lb)])), (p, .inr (2, [.ref pk, .ref pr, .ref pt, .int (qI (n + 1)), .ref pd, .ref pb, .ref ph, .ref pe, .ref pg, .int (qI lc)])), (pk, .inl (G.2.1, 24, .inl (qA (qU k n kd)))), (pr, .inl (G.2.1, 24, .inl (qA (qU r n ct)))), (pt, .inl (G.2.1, 24, .inl (qA (qU t n (-1)))))]) (st' := []) rfl rfl rfl ?_
  refine qv_aload_n C 0 d_R_finish_15 rfl rfl ?_
  refine qv_iconst C d_R_finish_16 ?_
  refine qv_put C in_R 0 rfl rfl 8 (by decide) t_R t_R_ok n_R wf_R_50 rfl rfl (t_R_ok 8 (by decide)) (by decide) (by decide) (Nat.le_of_ble_eq_true rfl) d_R_finish_17 (ws' := [(rd, .inr (3, [.ref rl, .ref rn, .ref ra, .ref p, .int (qI nx), .int (qI lt), .int (qI kd), .int (qI ct), .int (qI 0)])), (p, .inr (2, [.ref pk, .ref pr, .ref pt, .int (qI (n + 1)), .ref pd, .ref pb, .ref ph, .ref pe, .ref pg, .int (qI lc)])), (pk, .inl (G.2.1, 24, .inl (qA (qU k n kd)))), (pr, .inl (G.2.1, 24, .inl (qA (qU r n ct)))), (pt, .inl (G.2.1, 24, .inl (qA (qU t n (-1)))))]) rfl ?_
  refine qv_aload_n C 0 d_R_finish_20 rfl rfl ?_
  refine qv_iconst C d_R_finish_21 ?_
  refine qv_put C in_R 0 rfl rfl 4 (by decide) t_R t_R_ok n_R wf_R_47 rfl rfl (t_R_ok 4 (by decide)) (rfl) (rfl) (Nat.le_of_ble_eq_true rfl) d_R_finish_22 (ws' := [(rd, .inr (3, [.ref rl, .ref rn, .ref ra, .ref p, .int (qI 4), .int (qI lt), .int (qI kd), .int (qI ct), .int (qI 0)])), (p, .inr (2, [.ref pk, .ref pr, .ref pt, .int (qI (n + 1)), .ref pd, .ref pb, .ref ph, .ref pe, .ref pg, .int (qI lc)])), (pk, .inl (G.2.1, 24, .inl (qA (qU k n kd)))), (pr, .inl (G.2.1, 24, .inl (qA (qU r n ct)))), (pt, .inl (G.2.1, 24, .inl (qA (qU t n (-1)))))]) rfl ?_
  refine qv_vret C hrt hlk d_R_finish_25 ?_
  exact ⟨rfl, rfl⟩
set_option maxHeartbeats 4000000 in
set_option maxRecDepth 100000 in
theorem c_R_acceptsFirst (l : Launch) (G : qG) {rd rl rn ra : Nat} {p pk pr pt pd pb ph pe pg : Nat} {nx lt kd ct lb n lc c : Int} {k r t nl na pl : Int → Int} {Q : Int} (hw : m_xw (nx, lt, kd, ct, lb, n, k, r, nl, na, pl)) (hc : 0 ≤ c ∧ c ≤ 65535) (hx : nx = 0) : qM l G y_R_acceptsFirst b_R_acceptsFirst 2 (some .boolean) ({ frames := 2, cells := 0, slots := 0, locals := 42 }) [.ref rd, .int (qI c)] [(rd, .inr (3, [.ref rl, .ref rn, .ref ra, .ref p, .int (qI nx), .int (qI lt), .int (qI kd), .int (qI ct), .int (qI lb)])), (rl, .inl (G.2.1, 26, .inl (qA pl))), (rn, .inl (G.2.1, 24, .inl (qA nl))), (ra, .inl (G.2.1, 24, .inl (qA na))), (p, .inr (2, [.ref pk, .ref pr, .ref pt, .int (qI n), .ref pd, .ref pb, .ref ph, .ref pe, .ref pg, .int (qI lc)])), (pk, .inl (G.2.1, 24, .inl (qA k))), (pr, .inl (G.2.1, 24, .inl (qA r))), (pt, .inl (G.2.1, 24, .inl (qA t)))] (fun v' ws' => ∃ (x nx' lt' kd' ct' lb' n' : Int) (k' r' t' nl' na' pl' : Int → Int), v' = some (.int (qI x)) ∧ ws' = [(rd, .inr (3, [.ref rl, .ref rn, .ref ra, .ref p, .int (qI nx'), .int (qI lt'), .int (qI kd'), .int (qI ct'), .int (qI lb')])), (rl, .inl (G.2.1, 26, .inl (qA pl'))), (rn, .inl (G.2.1, 24, .inl (qA nl'))), (ra, .inl (G.2.1, 24, .inl (qA na'))), (p, .inr (2, [.ref pk, .ref pr, .ref pt, .int (qI n'), .ref pd, .ref pb, .ref ph, .ref pe, .ref pg, .int (qI lc)])), (pk, .inl (G.2.1, 24, .inl (qA k'))), (pr, .inl (G.2.1, 24, .inl (qA r'))), (pt, .inl (G.2.1, 24, .inl (qA t')))] ∧ ((x = 1 ∧ m_ac (nx, lt, kd, ct, lb, n, k, r, nl, na, pl) c Q = some (nx', lt', kd', ct', lb', n', k', r', nl', na', pl') ∧ ((n' = n ∧ t' = t) ∨ (n' = n + 1 ∧ t' = qU t n (-1)))) ∨ (x = 0 ∧ m_ac (nx, lt, kd, ct, lb, n, k, r, nl, na, pl) c Q = none ∧ (0 ≤ lt' ∧ lt' ≤ 25) ∧ (-1 ≤ ct' ∧ ct' ≤ 7) ∧ kd' = kd ∧ lb' = lb ∧ n' = n ∧ k' = k ∧ r' = r ∧ t' = t ∧ nl' = nl ∧ na' = na ∧ pl' = pl))) := by
  refine qM.of (by decide) (Nat.le_of_ble_eq_true rfl) (fun xp xe xs xm xb xme xc A C hrt hlk hnm => ?_)
  refine qv_eq (lv' := [(0, .ref rd), (1, .int (qI c))]) rfl rfl rfl ?_
  have hw0 := hw
  obtain ⟨h1, h2, h3, h4, h5, h6, h7, h8, h9, h10, h11, h12, h13, h14, h15, h16⟩ := hw
  refine qv_aload_n C 0 d_R_acceptsFirst_0 rfl rfl ?_
  refine qv_get C in_R 0 rfl rfl 3 (by decide) wf_R_37 rfl rfl d_R_acceptsFirst_1 ?_
  refine qv_cVN (As := []) (rest := []) (wc := [(p, .inr (2, [.ref pk, .ref pr, .ref pt, .int (qI n), .ref pd, .ref pb, .ref ph, .ref pe, .ref pg, .int (qI lc)]))]) (wr := [(rd, .inr (3, [.ref rl, .ref rn, .ref ra, .ref p, .int (qI nx), .int (qI lt), .int (qI kd), .int (qI ct), .int (qI lb)])), (rl, .inl (G.2.1, 26, .inl (qA pl))), (rn, .inl (G.2.1, 24, .inl (qA nl))), (ra, .inl (G.2.1, 24, .inl (qA na))), (pk, .inl (G.2.1, 24, .inl (qA k))), (pr, .inl (G.2.1, 24, .inl (qA r))), (pt, .inl (G.2.1, 24, .inl (qA t)))]) C k_P_isFull (c_P_isFull l G h6) wm_R_70 wi_P_isFull ws_P_isFull 0 rfl rfl (by decide) d_R_acceptsFirst_4 rfl rfl (Nat.le_of_ble_eq_true rfl) (by decide) [4] [0, 1, 2, 3, 5, 6, 7] rfl (by decide) rfl (by decide) (by decide) (fun v ws' hpost => ?_)
  obtain ⟨rfl, xf, rfl, hxf⟩ := hpost
  refine qv_eq (ws' := [(rd, .inr (3, [.ref rl, .ref rn, .ref ra, .ref p, .int (qI nx), .int (qI lt), .int (qI kd), .int (qI ct), .int (qI lb)])), (rl, .inl (G.2.1, 26, .inl (qA pl))), (rn, .inl (G.2.1, 24, .inl (qA nl))), (ra, .inl (G.2.1, 24, .inl (qA na))), (pk, .inl (G.2.1, 24, .inl (qA k))), (pr, .inl (G.2.1, 24, .inl (qA r))), (pt, .inl (G.2.1, 24, .inl (qA t))), (p, .inr (2, [.ref pk, .ref pr, .ref pt, .int (qI n), .ref pd, .ref pb, .ref ph, .ref pe, .ref pg, .int (qI lc)]))]) (st' := [.int (qI xf)]) rfl rfl rfl ?_
  refine qv_if_eq C d_R_acceptsFirst_7 (tgt := 12) (by decide) (by omega) (fun ht7 => ?_) (fun hf7 => ?_)
  · refine qv_iload_n C 1 d_R_acceptsFirst_12 rfl rfl ?_
    refine qv_cS (As := [.int (qI c)]) (rest := []) (wc := []) (wr := [(rd, .inr (3, [.ref rl, .ref rn, .ref ra, .ref p, .int (qI nx), .int (qI lt), .int (qI kd), .int (qI ct), .int (qI lb)])), (rl, .inl (G.2.1, 26, .inl (qA pl))), (rn, .inl (G.2.1, 24, .inl (qA nl))), (ra, .inl (G.2.1, 24, .inl (qA na))), (pk, .inl (G.2.1, 24, .inl (qA k))), (pr, .inl (G.2.1, 24, .inl (qA r))), (pt, .inl (G.2.1, 24, .inl (qA t))), (p, .inr (2, [.ref pk, .ref pr, .ref pt, .int (qI n), .ref pd, .ref pb, .ref ph, .ref pe, .ref pg, .int (qI lc)]))]) C k_R_isLabel (c_R_isLabel l G hc) wm_R_73 wt_R_isLabel (by decide) d_R_acceptsFirst_13 rfl rfl (Nat.le_of_ble_eq_true rfl) (by decide) [] [0, 1, 2, 3, 4, 5, 6, 7] rfl (by decide) rfl (by decide) (by decide) (fun v ws' hpost => ?_)
    obtain ⟨rfl, xl, rfl, hxl⟩ := hpost
    refine qv_eq (ws' := [(rd, .inr (3, [.ref rl, .ref rn, .ref ra, .ref p, .int (qI nx), .int (qI lt), .int (qI kd), .int (qI ct), .int (qI lb)])), (rl, .inl (G.2.1, 26, .inl (qA pl))), (rn, .inl (G.2.1, 24, .inl (qA nl))), (ra, .inl (G.2.1, 24, .inl (qA na))), (pk, .inl (G.2.1, 24, .inl (qA k))), (pr, .inl (G.2.1, 24, .inl (qA r))), (pt, .inl (G.2.1, 24, .inl (qA t))), (p, .inr (2, [.ref pk, .ref pr, .ref pt, .int (qI n), .ref pd, .ref pb, .ref ph, .ref pe, .ref pg, .int (qI lc)]))]) (st' := [.int (qI xl)]) rfl rfl rfl ?_
    refine qv_if_eq C d_R_acceptsFirst_16 (tgt := 51) (by decide) (by omega) (fun ht16 => ?_) (fun hf16 => ?_)
    · refine qv_aload_n C 0 d_R_acceptsFirst_51 rfl rfl ?_
      refine qv_iconst C d_R_acceptsFirst_52 ?_
      refine qv_put C in_R 0 rfl rfl 7 (by decide) t_R t_R_ok n_R wf_R_79 rfl rfl (t_R_ok 7 (by decide)) (rfl) (rfl) (Nat.le_of_ble_eq_true rfl) d_R_acceptsFirst_53 (ws' := [(rd, .inr (3, [.ref rl, .ref rn, .ref ra, .ref p, .int (qI nx), .int (qI lt), .int (qI kd), .int (qI (-1)), .int (qI lb)])), (rl, .inl (G.2.1, 26, .inl (qA pl))), (rn, .inl (G.2.1, 24, .inl (qA nl))), (ra, .inl (G.2.1, 24, .inl (qA na))), (pk, .inl (G.2.1, 24, .inl (qA k))), (pr, .inl (G.2.1, 24, .inl (qA r))), (pt, .inl (G.2.1, 24, .inl (qA t))), (p, .inr (2, [.ref pk, .ref pr, .ref pt, .int (qI n), .ref pd, .ref pb, .ref ph, .ref pe, .ref pg, .int (qI lc)]))]) rfl ?_
      refine qv_iload_n C 1 d_R_acceptsFirst_56 rfl rfl ?_
      rcases (show c = 43 ∨ c = 45 ∨ c = 46 ∨ c = 62 ∨ (¬ c = 43 ∧ ¬ c = 45 ∧ ¬ c = 46 ∧ ¬ c = 62) by omega) with hs57 | hs57 | hs57 | hs57 | hs57
      · refine qv_lookup C d_R_acceptsFirst_57 (by omega) (by decide) (by rw [hs57]) (tgt := 100) (by decide) ?_
        refine qv_aload_n C 0 d_R_acceptsFirst_100 rfl rfl ?_
        refine qv_iconst C d_R_acceptsFirst_101 ?_
        refine qv_iconst C d_R_acceptsFirst_102 ?_
        refine qv_cV (As := [.int (qI 0), .int (qI 2)]) (rest := []) (wc := [(rd, .inr (3, [.ref rl, .ref rn, .ref ra, .ref p, .int (qI nx), .int (qI lt), .int (qI kd), .int (qI (-1)), .int (qI lb)]))]) (wr := [(rl, .inl (G.2.1, 26, .inl (qA pl))), (rn, .inl (G.2.1, 24, .inl (qA nl))), (ra, .inl (G.2.1, 24, .inl (qA na))), (pk, .inl (G.2.1, 24, .inl (qA k))), (pr, .inl (G.2.1, 24, .inl (qA r))), (pt, .inl (G.2.1, 24, .inl (qA t))), (p, .inr (2, [.ref pk, .ref pr, .ref pt, .int (qI n), .ref pd, .ref pb, .ref ph, .ref pe, .ref pg, .int (qI lc)]))]) C k_R_expect (c_R_expect l G (kd' := 0) (nx' := 2)) wm_R_82 wi_R_expect ws_R_expect 0 rfl rfl (by decide) d_R_acceptsFirst_103 rfl rfl (Nat.le_of_ble_eq_true rfl) (by decide) [0] [1, 2, 3, 4, 5, 6, 7] rfl (by decide) rfl (by decide) (by decide) (fun v ws' hpost => ?_)
        obtain ⟨rfl, rfl⟩ := hpost
        refine qv_eq (ws' := [(rl, .inl (G.2.1, 26, .inl (qA pl))), (rn, .inl (G.2.1, 24, .inl (qA nl))), (ra, .inl (G.2.1, 24, .inl (qA na))), (pk, .inl (G.2.1, 24, .inl (qA k))), (pr, .inl (G.2.1, 24, .inl (qA r))), (pt, .inl (G.2.1, 24, .inl (qA t))), (p, .inr (2, [.ref pk, .ref pr, .ref pt, .int (qI n), .ref pd, .ref pb, .ref ph, .ref pe, .ref pg, .int (qI lc)])), (rd, .inr (3, [.ref rl, .ref rn, .ref ra, .ref p, .int (qI 2), .int (qI lt), .int (qI 0), .int (qI (-1)), .int (qI lb)]))]) (st' := []) rfl rfl rfl ?_
        refine qv_iconst C d_R_acceptsFirst_106 ?_
        refine qv_ws (ws' := [(rd, .inr (3, [.ref rl, .ref rn, .ref ra, .ref p, .int (qI 2), .int (qI lt), .int (qI 0), .int (qI (-1)), .int (qI lb)])), (rl, .inl (G.2.1, 26, .inl (qA pl))), (rn, .inl (G.2.1, 24, .inl (qA nl))), (ra, .inl (G.2.1, 24, .inl (qA na))), (p, .inr (2, [.ref pk, .ref pr, .ref pt, .int (qI n), .ref pd, .ref pb, .ref ph, .ref pe, .ref pg, .int (qI lc)])), (pk, .inl (G.2.1, 24, .inl (qA k))), (pr, .inl (G.2.1, 24, .inl (qA r))), (pt, .inl (G.2.1, 24, .inl (qA t)))]) [7, 0, 1, 2, 6, 3, 4, 5] (by decide) rfl ?_
        refine qv_zret C (by omega) hrt hlk d_R_acceptsFirst_107 ?_
        refine ⟨1, _, _, _, _, _, _, _, _, _, _, _, _, rfl, rfl, Or.inl ⟨rfl, ?_, Or.inl ⟨rfl, rfl⟩⟩⟩
        unfold m_ac
        dsimp only
        rw [if_pos (by omega), if_neg (by omega), if_neg (by omega), if_pos (by omega)]
      · refine qv_lookup C d_R_acceptsFirst_57 (by omega) (by decide) (by rw [hs57]) (tgt := 108) (by decide) ?_
        refine qv_aload_n C 0 d_R_acceptsFirst_108 rfl rfl ?_
        refine qv_iconst C d_R_acceptsFirst_109 ?_
        refine qv_iconst C d_R_acceptsFirst_110 ?_
        refine qv_cV (As := [.int (qI 1), .int (qI 2)]) (rest := []) (wc := [(rd, .inr (3, [.ref rl, .ref rn, .ref ra, .ref p, .int (qI nx), .int (qI lt), .int (qI kd), .int (qI (-1)), .int (qI lb)]))]) (wr := [(rl, .inl (G.2.1, 26, .inl (qA pl))), (rn, .inl (G.2.1, 24, .inl (qA nl))), (ra, .inl (G.2.1, 24, .inl (qA na))), (pk, .inl (G.2.1, 24, .inl (qA k))), (pr, .inl (G.2.1, 24, .inl (qA r))), (pt, .inl (G.2.1, 24, .inl (qA t))), (p, .inr (2, [.ref pk, .ref pr, .ref pt, .int (qI n), .ref pd, .ref pb, .ref ph, .ref pe, .ref pg, .int (qI lc)]))]) C k_R_expect (c_R_expect l G (kd' := 1) (nx' := 2)) wm_R_82 wi_R_expect ws_R_expect 0 rfl rfl (by decide) d_R_acceptsFirst_111 rfl rfl (Nat.le_of_ble_eq_true rfl) (by decide) [0] [1, 2, 3, 4, 5, 6, 7] rfl (by decide) rfl (by decide) (by decide) (fun v ws' hpost => ?_)
        obtain ⟨rfl, rfl⟩ := hpost
        refine qv_eq (ws' := [(rl, .inl (G.2.1, 26, .inl (qA pl))), (rn, .inl (G.2.1, 24, .inl (qA nl))), (ra, .inl (G.2.1, 24, .inl (qA na))), (pk, .inl (G.2.1, 24, .inl (qA k))), (pr, .inl (G.2.1, 24, .inl (qA r))), (pt, .inl (G.2.1, 24, .inl (qA t))), (p, .inr (2, [.ref pk, .ref pr, .ref pt, .int (qI n), .ref pd, .ref pb, .ref ph, .ref pe, .ref pg, .int (qI lc)])), (rd, .inr (3, [.ref rl, .ref rn, .ref ra, .ref p, .int (qI 2), .int (qI lt), .int (qI 1), .int (qI (-1)), .int (qI lb)]))]) (st' := []) rfl rfl rfl ?_
        refine qv_iconst C d_R_acceptsFirst_114 ?_
        refine qv_ws (ws' := [(rd, .inr (3, [.ref rl, .ref rn, .ref ra, .ref p, .int (qI 2), .int (qI lt), .int (qI 1), .int (qI (-1)), .int (qI lb)])), (rl, .inl (G.2.1, 26, .inl (qA pl))), (rn, .inl (G.2.1, 24, .inl (qA nl))), (ra, .inl (G.2.1, 24, .inl (qA na))), (p, .inr (2, [.ref pk, .ref pr, .ref pt, .int (qI n), .ref pd, .ref pb, .ref ph, .ref pe, .ref pg, .int (qI lc)])), (pk, .inl (G.2.1, 24, .inl (qA k))), (pr, .inl (G.2.1, 24, .inl (qA r))), (pt, .inl (G.2.1, 24, .inl (qA t)))]) [7, 0, 1, 2, 6, 3, 4, 5] (by decide) rfl ?_
        refine qv_zret C (by omega) hrt hlk d_R_acceptsFirst_115 ?_
        refine ⟨1, _, _, _, _, _, _, _, _, _, _, _, _, rfl, rfl, Or.inl ⟨rfl, ?_, Or.inl ⟨rfl, rfl⟩⟩⟩
        unfold m_ac
        dsimp only
        rw [if_pos (by omega), if_neg (by omega), if_neg (by omega), if_neg (by omega), if_pos (by omega)]
      · refine qv_lookup C d_R_acceptsFirst_57 (by omega) (by decide) (by rw [hs57]) (tgt := 124) (by decide) ?_
        refine qv_aload_n C 0 d_R_acceptsFirst_124 rfl rfl ?_
        refine qv_iconst C d_R_acceptsFirst_125 ?_
        refine qv_put C in_R 0 rfl rfl 6 (by decide) t_R t_R_ok n_R wf_R_86 rfl rfl (t_R_ok 6 (by decide)) (rfl) (rfl) (Nat.le_of_ble_eq_true rfl) d_R_acceptsFirst_126 (ws' := [(rd, .inr (3, [.ref rl, .ref rn, .ref ra, .ref p, .int (qI nx), .int (qI lt), .int (qI 3), .int (qI (-1)), .int (qI lb)])), (rl, .inl (G.2.1, 26, .inl (qA pl))), (rn, .inl (G.2.1, 24, .inl (qA nl))), (ra, .inl (G.2.1, 24, .inl (qA na))), (pk, .inl (G.2.1, 24, .inl (qA k))), (pr, .inl (G.2.1, 24, .inl (qA r))), (pt, .inl (G.2.1, 24, .inl (qA t))), (p, .inr (2, [.ref pk, .ref pr, .ref pt, .int (qI n), .ref pd, .ref pb, .ref ph, .ref pe, .ref pg, .int (qI lc)]))]) rfl ?_
        refine qv_aload_n C 0 d_R_acceptsFirst_129 rfl rfl ?_
        refine qv_cV (As := []) (rest := []) (wc := [(rd, .inr (3, [.ref rl, .ref rn, .ref ra, .ref p, .int (qI nx), .int (qI lt), .int (qI 3), .int (qI (-1)), .int (qI lb)])), (p, .inr (2, [.ref pk, .ref pr, .ref pt, .int (qI n), .ref pd, .ref pb, .ref ph, .ref pe, .ref pg, .int (qI lc)])), (pk, .inl (G.2.1, 24, .inl (qA k))), (pr, .inl (G.2.1, 24, .inl (qA r))), (pt, .inl (G.2.1, 24, .inl (qA t)))]) (wr := [(rl, .inl (G.2.1, 26, .inl (qA pl))), (rn, .inl (G.2.1, 24, .inl (qA nl))), (ra, .inl (G.2.1, 24, .inl (qA na)))]) C k_R_finish (c_R_finish l G (kd := 3) (ct := (-1)) (by omega)) wm_R_89 wi_R_finish ws_R_finish 0 rfl rfl (by decide) d_R_acceptsFirst_130 rfl rfl (Nat.le_of_ble_eq_true rfl) (by decide) [0, 7, 4, 5, 6] [1, 2, 3] rfl (by decide) rfl (by decide) (by decide) (fun v ws' hpost => ?_)
        obtain ⟨rfl, rfl⟩ := hpost
        refine qv_eq (ws' := [(rl, .inl (G.2.1, 26, .inl (qA pl))), (rn, .inl (G.2.1, 24, .inl (qA nl))), (ra, .inl (G.2.1, 24, .inl (qA na))), (rd, .inr (3, [.ref rl, .ref rn, .ref ra, .ref p, .int (qI 4), .int (qI lt), .int (qI 3), .int (qI (-1)), .int (qI 0)])), (p, .inr (2, [.ref pk, .ref pr, .ref pt, .int (qI (n + 1)), .ref pd, .ref pb, .ref ph, .ref pe, .ref pg, .int (qI lc)])), (pk, .inl (G.2.1, 24, .inl (qA (qU k n 3)))), (pr, .inl (G.2.1, 24, .inl (qA (qU r n (-1))))), (pt, .inl (G.2.1, 24, .inl (qA (qU t n (-1)))))]) (st' := []) rfl rfl rfl ?_
        refine qv_iconst C d_R_acceptsFirst_133 ?_
        refine qv_ws (ws' := [(rd, .inr (3, [.ref rl, .ref rn, .ref ra, .ref p, .int (qI 4), .int (qI lt), .int (qI 3), .int (qI (-1)), .int (qI 0)])), (rl, .inl (G.2.1, 26, .inl (qA pl))), (rn, .inl (G.2.1, 24, .inl (qA nl))), (ra, .inl (G.2.1, 24, .inl (qA na))), (p, .inr (2, [.ref pk, .ref pr, .ref pt, .int (qI (n + 1)), .ref pd, .ref pb, .ref ph, .ref pe, .ref pg, .int (qI lc)])), (pk, .inl (G.2.1, 24, .inl (qA (qU k n 3)))), (pr, .inl (G.2.1, 24, .inl (qA (qU r n (-1))))), (pt, .inl (G.2.1, 24, .inl (qA (qU t n (-1)))))]) [3, 0, 1, 2, 4, 5, 6, 7] (by decide) rfl ?_
        refine qv_zret C (by omega) hrt hlk d_R_acceptsFirst_134 ?_
        refine ⟨1, _, _, _, _, _, _, _, _, _, _, _, _, rfl, rfl, Or.inl ⟨rfl, ?_, Or.inr ⟨rfl, rfl⟩⟩⟩
        unfold m_ac
        dsimp only
        rw [if_pos (by omega), if_neg (by omega), if_neg (by omega), if_neg (by omega), if_neg (by omega), if_neg (by omega), if_pos (by omega)]
        rfl
      · refine qv_lookup C d_R_acceptsFirst_57 (by omega) (by decide) (by rw [hs57]) (tgt := 116) (by decide) ?_
        refine qv_aload_n C 0 d_R_acceptsFirst_116 rfl rfl ?_
        refine qv_iconst C d_R_acceptsFirst_117 ?_
        refine qv_iconst C d_R_acceptsFirst_118 ?_
        refine qv_cV (As := [.int (qI 2), .int (qI 3)]) (rest := []) (wc := [(rd, .inr (3, [.ref rl, .ref rn, .ref ra, .ref p, .int (qI nx), .int (qI lt), .int (qI kd), .int (qI (-1)), .int (qI lb)]))]) (wr := [(rl, .inl (G.2.1, 26, .inl (qA pl))), (rn, .inl (G.2.1, 24, .inl (qA nl))), (ra, .inl (G.2.1, 24, .inl (qA na))), (pk, .inl (G.2.1, 24, .inl (qA k))), (pr, .inl (G.2.1, 24, .inl (qA r))), (pt, .inl (G.2.1, 24, .inl (qA t))), (p, .inr (2, [.ref pk, .ref pr, .ref pt, .int (qI n), .ref pd, .ref pb, .ref ph, .ref pe, .ref pg, .int (qI lc)]))]) C k_R_expect (c_R_expect l G (kd' := 2) (nx' := 3)) wm_R_82 wi_R_expect ws_R_expect 0 rfl rfl (by decide) d_R_acceptsFirst_119 rfl rfl (Nat.le_of_ble_eq_true rfl) (by decide) [0] [1, 2, 3, 4, 5, 6, 7] rfl (by decide) rfl (by decide) (by decide) (fun v ws' hpost => ?_)
        obtain ⟨rfl, rfl⟩ := hpost
        refine qv_eq (ws' := [(rl, .inl (G.2.1, 26, .inl (qA pl))), (rn, .inl (G.2.1, 24, .inl (qA nl))), (ra, .inl (G.2.1, 24, .inl (qA na))), (pk, .inl (G.2.1, 24, .inl (qA k))), (pr, .inl (G.2.1, 24, .inl (qA r))), (pt, .inl (G.2.1, 24, .inl (qA t))), (p, .inr (2, [.ref pk, .ref pr, .ref pt, .int (qI n), .ref pd, .ref pb, .ref ph, .ref pe, .ref pg, .int (qI lc)])), (rd, .inr (3, [.ref rl, .ref rn, .ref ra, .ref p, .int (qI 3), .int (qI lt), .int (qI 2), .int (qI (-1)), .int (qI lb)]))]) (st' := []) rfl rfl rfl ?_
        refine qv_iconst C d_R_acceptsFirst_122 ?_
        refine qv_ws (ws' := [(rd, .inr (3, [.ref rl, .ref rn, .ref ra, .ref p, .int (qI 3), .int (qI lt), .int (qI 2), .int (qI (-1)), .int (qI lb)])), (rl, .inl (G.2.1, 26, .inl (qA pl))), (rn, .inl (G.2.1, 24, .inl (qA nl))), (ra, .inl (G.2.1, 24, .inl (qA na))), (p, .inr (2, [.ref pk, .ref pr, .ref pt, .int (qI n), .ref pd, .ref pb, .ref ph, .ref pe, .ref pg, .int (qI lc)])), (pk, .inl (G.2.1, 24, .inl (qA k))), (pr, .inl (G.2.1, 24, .inl (qA r))), (pt, .inl (G.2.1, 24, .inl (qA t)))]) [7, 0, 1, 2, 6, 3, 4, 5] (by decide) rfl ?_
        refine qv_zret C (by omega) hrt hlk d_R_acceptsFirst_123 ?_
        refine ⟨1, _, _, _, _, _, _, _, _, _, _, _, _, rfl, rfl, Or.inl ⟨rfl, ?_, Or.inl ⟨rfl, rfl⟩⟩⟩
        unfold m_ac
        dsimp only
        rw [if_pos (by omega), if_neg (by omega), if_neg (by omega), if_neg (by omega), if_neg (by omega), if_pos (by omega)]
      · refine qv_lookup C d_R_acceptsFirst_57 (by omega) (by decide) (off := 78) (by show Op.lookupswitch.offset [(43, 43), (45, 51), (46, 67), (62, 59)] 78 c = 78; rw [Op.lookupswitch.offset_cons, if_neg (by omega), Op.lookupswitch.offset_cons, if_neg (by omega), Op.lookupswitch.offset_cons, if_neg (by omega), Op.lookupswitch.offset_cons, if_neg (by omega)]; rfl) (tgt := 135) (by decide) ?_
        refine qv_iconst C d_R_acceptsFirst_135 ?_
        refine qv_ws (ws' := [(rd, .inr (3, [.ref rl, .ref rn, .ref ra, .ref p, .int (qI nx), .int (qI lt), .int (qI kd), .int (qI (-1)), .int (qI lb)])), (rl, .inl (G.2.1, 26, .inl (qA pl))), (rn, .inl (G.2.1, 24, .inl (qA nl))), (ra, .inl (G.2.1, 24, .inl (qA na))), (p, .inr (2, [.ref pk, .ref pr, .ref pt, .int (qI n), .ref pd, .ref pb, .ref ph, .ref pe, .ref pg, .int (qI lc)])), (pk, .inl (G.2.1, 24, .inl (qA k))), (pr, .inl (G.2.1, 24, .inl (qA r))), (pt, .inl (G.2.1, 24, .inl (qA t)))]) [0, 1, 2, 3, 7, 4, 5, 6] (by decide) rfl ?_
        refine qv_zret C (by omega) hrt hlk d_R_acceptsFirst_136 ?_
        refine ⟨0, _, _, _, _, _, _, _, _, _, _, _, _, rfl, rfl, Or.inr ⟨rfl, ?_, by omega, by omega, rfl, rfl, rfl, rfl, rfl, rfl, rfl, rfl, rfl⟩⟩
        unfold m_ac
        dsimp only
        rw [if_pos (by omega), if_neg (by omega), if_neg (by omega), if_neg (by omega), if_neg (by omega), if_neg (by omega), if_neg (by omega)]
    · refine qv_aload_n C 0 d_R_acceptsFirst_19 rfl rfl ?_
      refine qv_iload_n C 1 d_R_acceptsFirst_20 rfl rfl ?_
      refine qv_bipush C d_R_acceptsFirst_21 (by decide) ?_
      refine qv_isub C d_R_acceptsFirst_23 ?_
      refine qv_put C in_R 0 rfl rfl 5 (by decide) t_R t_R_ok n_R wf_R_76 rfl rfl (t_R_ok 5 (by decide)) (rfl) (rfl) (Nat.le_of_ble_eq_true rfl) d_R_acceptsFirst_24 (ws' := [(rd, .inr (3, [.ref rl, .ref rn, .ref ra, .ref p, .int (qI nx), .int (qI (c - 65)), .int (qI kd), .int (qI ct), .int (qI lb)])), (rl, .inl (G.2.1, 26, .inl (qA pl))), (rn, .inl (G.2.1, 24, .inl (qA nl))), (ra, .inl (G.2.1, 24, .inl (qA na))), (pk, .inl (G.2.1, 24, .inl (qA k))), (pr, .inl (G.2.1, 24, .inl (qA r))), (pt, .inl (G.2.1, 24, .inl (qA t))), (p, .inr (2, [.ref pk, .ref pr, .ref pt, .int (qI n), .ref pd, .ref pb, .ref ph, .ref pe, .ref pg, .int (qI lc)]))]) rfl ?_
      refine qv_aload_n C 0 d_R_acceptsFirst_27 rfl rfl ?_
      refine qv_iconst C d_R_acceptsFirst_28 ?_
      refine qv_put C in_R 0 rfl rfl 4 (by decide) t_R t_R_ok n_R wf_R_47 rfl rfl (t_R_ok 4 (by decide)) (rfl) (rfl) (Nat.le_of_ble_eq_true rfl) d_R_acceptsFirst_29 (ws' := [(rd, .inr (3, [.ref rl, .ref rn, .ref ra, .ref p, .int (qI 1), .int (qI (c - 65)), .int (qI kd), .int (qI ct), .int (qI lb)])), (rl, .inl (G.2.1, 26, .inl (qA pl))), (rn, .inl (G.2.1, 24, .inl (qA nl))), (ra, .inl (G.2.1, 24, .inl (qA na))), (pk, .inl (G.2.1, 24, .inl (qA k))), (pr, .inl (G.2.1, 24, .inl (qA r))), (pt, .inl (G.2.1, 24, .inl (qA t))), (p, .inr (2, [.ref pk, .ref pr, .ref pt, .int (qI n), .ref pd, .ref pb, .ref ph, .ref pe, .ref pg, .int (qI lc)]))]) rfl ?_
      refine qv_aload_n C 0 d_R_acceptsFirst_32 rfl rfl ?_
      refine qv_get C in_R 0 rfl rfl 0 (by decide) wf_R_11 rfl rfl d_R_acceptsFirst_33 ?_
      refine qv_aload_n C 0 d_R_acceptsFirst_36 rfl rfl ?_
      refine qv_get C in_R 0 rfl rfl 5 (by decide) wf_R_76 rfl rfl d_R_acceptsFirst_37 ?_
      refine qv_iald C 1 rfl (by omega) d_R_acceptsFirst_40 ?_
      have hq0 := h14 (c - 65)
      refine qv_iconst C d_R_acceptsFirst_41 ?_
      refine qv_icmp_ne C d_R_acceptsFirst_42 (tgt := 49) (by decide) (by omega) (by omega) (fun ht42 => ?_) (fun hf42 => ?_)
      · refine qv_iconst C d_R_acceptsFirst_49 ?_
        refine qv_ws (ws' := [(rd, .inr (3, [.ref rl, .ref rn, .ref ra, .ref p, .int (qI 1), .int (qI (c - 65)), .int (qI kd), .int (qI ct), .int (qI lb)])), (rl, .inl (G.2.1, 26, .inl (qA pl))), (rn, .inl (G.2.1, 24, .inl (qA nl))), (ra, .inl (G.2.1, 24, .inl (qA na))), (p, .inr (2, [.ref pk, .ref pr, .ref pt, .int (qI n), .ref pd, .ref pb, .ref ph, .ref pe, .ref pg, .int (qI lc)])), (pk, .inl (G.2.1, 24, .inl (qA k))), (pr, .inl (G.2.1, 24, .inl (qA r))), (pt, .inl (G.2.1, 24, .inl (qA t)))]) [0, 1, 2, 3, 7, 4, 5, 6] (by decide) rfl ?_
        refine qv_zret C (by omega) hrt hlk d_R_acceptsFirst_50 ?_
        refine ⟨0, _, _, _, _, _, _, _, _, _, _, _, _, rfl, rfl, Or.inr ⟨rfl, ?_, by omega, by omega, rfl, rfl, rfl, rfl, rfl, rfl, rfl, rfl, rfl⟩⟩
        unfold m_ac
        dsimp only
        rw [if_pos (by omega), if_neg (by omega), if_pos (by omega), if_neg (by omega)]
      · refine qv_iconst C d_R_acceptsFirst_45 ?_
        refine qv_goto C d_R_acceptsFirst_46 (by decide) (tgt := 50) ?_
        refine qv_ws (ws' := [(rd, .inr (3, [.ref rl, .ref rn, .ref ra, .ref p, .int (qI 1), .int (qI (c - 65)), .int (qI kd), .int (qI ct), .int (qI lb)])), (rl, .inl (G.2.1, 26, .inl (qA pl))), (rn, .inl (G.2.1, 24, .inl (qA nl))), (ra, .inl (G.2.1, 24, .inl (qA na))), (p, .inr (2, [.ref pk, .ref pr, .ref pt, .int (qI n), .ref pd, .ref pb, .ref ph, .ref pe, .ref pg, .int (qI lc)])), (pk, .inl (G.2.1, 24, .inl (qA k))), (pr, .inl (G.2.1, 24, .inl (qA r))), (pt, .inl (G.2.1, 24, .inl (qA t)))]) [0, 1, 2, 3, 7, 4, 5, 6] (by decide) rfl ?_
        refine qv_zret C (by omega) hrt hlk d_R_acceptsFirst_50 ?_
        refine ⟨1, _, _, _, _, _, _, _, _, _, _, _, _, rfl, rfl, Or.inl ⟨rfl, ?_, Or.inl ⟨rfl, rfl⟩⟩⟩
        unfold m_ac
        dsimp only
        rw [if_pos (by omega), if_neg (by omega), if_pos (by omega), if_pos (by omega)]
  · refine qv_iconst C d_R_acceptsFirst_10 ?_
    refine qv_ws (ws' := [(rd, .inr (3, [.ref rl, .ref rn, .ref ra, .ref p, .int (qI nx), .int (qI lt), .int (qI kd), .int (qI ct), .int (qI lb)])), (rl, .inl (G.2.1, 26, .inl (qA pl))), (rn, .inl (G.2.1, 24, .inl (qA nl))), (ra, .inl (G.2.1, 24, .inl (qA na))), (p, .inr (2, [.ref pk, .ref pr, .ref pt, .int (qI n), .ref pd, .ref pb, .ref ph, .ref pe, .ref pg, .int (qI lc)])), (pk, .inl (G.2.1, 24, .inl (qA k))), (pr, .inl (G.2.1, 24, .inl (qA r))), (pt, .inl (G.2.1, 24, .inl (qA t)))]) [0, 1, 2, 3, 7, 4, 5, 6] (by decide) rfl ?_
    refine qv_zret C (by omega) hrt hlk d_R_acceptsFirst_11 ?_
    refine ⟨0, _, _, _, _, _, _, _, _, _, _, _, _, rfl, rfl, Or.inr ⟨rfl, ?_, by omega, by omega, rfl, rfl, rfl, rfl, rfl, rfl, rfl, rfl, rfl⟩⟩
    unfold m_ac
    dsimp only
    rw [if_pos (by omega), if_pos (by omega)]
set_option maxHeartbeats 4000000 in
set_option maxRecDepth 100000 in
theorem c_R_acceptsColon (l : Launch) (G : qG) {rd rl rn ra : Nat} {p pk pr pt pd pb ph pe pg : Nat} {nx lt kd ct lb n lc c : Int} {k r t nl na pl : Int → Int} {Q : Int} (hw : m_xw (nx, lt, kd, ct, lb, n, k, r, nl, na, pl)) (hc : 0 ≤ c ∧ c ≤ 65535) (hx : nx = 1) : qM l G y_R_acceptsColon b_R_acceptsColon 2 (some .boolean) ({ frames := 0, cells := 0, slots := 0, locals := 0 }) [.ref rd, .int (qI c)] [(rd, .inr (3, [.ref rl, .ref rn, .ref ra, .ref p, .int (qI nx), .int (qI lt), .int (qI kd), .int (qI ct), .int (qI lb)])), (rl, .inl (G.2.1, 26, .inl (qA pl))), (rn, .inl (G.2.1, 24, .inl (qA nl))), (ra, .inl (G.2.1, 24, .inl (qA na))), (p, .inr (2, [.ref pk, .ref pr, .ref pt, .int (qI n), .ref pd, .ref pb, .ref ph, .ref pe, .ref pg, .int (qI lc)])), (pk, .inl (G.2.1, 24, .inl (qA k))), (pr, .inl (G.2.1, 24, .inl (qA r))), (pt, .inl (G.2.1, 24, .inl (qA t)))] (fun v' ws' => ∃ (x nx' lt' kd' ct' lb' n' : Int) (k' r' t' nl' na' pl' : Int → Int), v' = some (.int (qI x)) ∧ ws' = [(rd, .inr (3, [.ref rl, .ref rn, .ref ra, .ref p, .int (qI nx'), .int (qI lt'), .int (qI kd'), .int (qI ct'), .int (qI lb')])), (rl, .inl (G.2.1, 26, .inl (qA pl'))), (rn, .inl (G.2.1, 24, .inl (qA nl'))), (ra, .inl (G.2.1, 24, .inl (qA na'))), (p, .inr (2, [.ref pk, .ref pr, .ref pt, .int (qI n'), .ref pd, .ref pb, .ref ph, .ref pe, .ref pg, .int (qI lc)])), (pk, .inl (G.2.1, 24, .inl (qA k'))), (pr, .inl (G.2.1, 24, .inl (qA r'))), (pt, .inl (G.2.1, 24, .inl (qA t')))] ∧ ((x = 1 ∧ m_ac (nx, lt, kd, ct, lb, n, k, r, nl, na, pl) c Q = some (nx', lt', kd', ct', lb', n', k', r', nl', na', pl') ∧ ((n' = n ∧ t' = t) ∨ (n' = n + 1 ∧ t' = qU t n (-1)))) ∨ (x = 0 ∧ m_ac (nx, lt, kd, ct, lb, n, k, r, nl, na, pl) c Q = none ∧ (0 ≤ lt' ∧ lt' ≤ 25) ∧ (-1 ≤ ct' ∧ ct' ≤ 7) ∧ kd' = kd ∧ lb' = lb ∧ n' = n ∧ k' = k ∧ r' = r ∧ t' = t ∧ nl' = nl ∧ na' = na ∧ pl' = pl))) := by
  refine qM.of (by decide) (Nat.le_of_ble_eq_true rfl) (fun xp xe xs xm xb xme xc A C hrt hlk hnm => ?_)
  refine qv_eq (lv' := [(0, .ref rd), (1, .int (qI c))]) rfl rfl rfl ?_
  have hw0 := hw
  obtain ⟨h1, h2, h3, h4, h5, h6, h7, h8, h9, h10, h11, h12, h13, h14, h15, h16⟩ := hw
  refine qv_iload_n C 1 d_R_acceptsColon_0 rfl rfl ?_
  refine qv_bipush C d_R_acceptsColon_1 (by decide) ?_
  refine qv_icmp_eq C d_R_acceptsColon_3 (tgt := 8) (by decide) (by omega) (by omega) (fun ht3 => ?_) (fun hf3 => ?_)
  · refine qv_aload_n C 0 d_R_acceptsColon_8 rfl rfl ?_
    refine qv_get C in_R 0 rfl rfl 0 (by decide) wf_R_11 rfl rfl d_R_acceptsColon_9 ?_
    refine qv_aload_n C 0 d_R_acceptsColon_12 rfl rfl ?_
    refine qv_get C in_R 0 rfl rfl 5 (by decide) wf_R_76 rfl rfl d_R_acceptsColon_13 ?_
    refine qv_aload_n C 0 d_R_acceptsColon_16 rfl rfl ?_
    refine qv_get C in_R 0 rfl rfl 3 (by decide) wf_R_37 rfl rfl d_R_acceptsColon_17 ?_
    refine qv_getN C in_P 4 rfl rfl 3 (by decide) wf_R_41 rfl rfl d_R_acceptsColon_20 ?_
    refine qv_iast C 1 rfl (by omega) d_R_acceptsColon_23 (ws' := [(rd, .inr (3, [.ref rl, .ref rn, .ref ra, .ref p, .int (qI nx), .int (qI lt), .int (qI kd), .int (qI ct), .int (qI lb)])), (rl, .inl (G.2.1, 26, .inl (qA (qU pl lt n)))), (rn, .inl (G.2.1, 24, .inl (qA nl))), (ra, .inl (G.2.1, 24, .inl (qA na))), (p, .inr (2, [.ref pk, .ref pr, .ref pt, .int (qI n), .ref pd, .ref pb, .ref ph, .ref pe, .ref pg, .int (qI lc)])), (pk, .inl (G.2.1, 24, .inl (qA k))), (pr, .inl (G.2.1, 24, .inl (qA r))), (pt, .inl (G.2.1, 24, .inl (qA t)))]) rfl ?_
    refine qv_aload_n C 0 d_R_acceptsColon_24 rfl rfl ?_
    refine qv_iconst C d_R_acceptsColon_25 ?_
    refine qv_put C in_R 0 rfl rfl 8 (by decide) t_R t_R_ok n_R wf_R_50 rfl rfl (t_R_ok 8 (by decide)) (by decide) (by decide) (Nat.le_of_ble_eq_true rfl) d_R_acceptsColon_26 (ws' := [(rd, .inr (3, [.ref rl, .ref rn, .ref ra, .ref p, .int (qI nx), .int (qI lt), .int (qI kd), .int (qI ct), .int (qI 1)])), (rl, .inl (G.2.1, 26, .inl (qA (qU pl lt n)))), (rn, .inl (G.2.1, 24, .inl (qA nl))), (ra, .inl (G.2.1, 24, .inl (qA na))), (p, .inr (2, [.ref pk, .ref pr, .ref pt, .int (qI n), .ref pd, .ref pb, .ref ph, .ref pe, .ref pg, .int (qI lc)])), (pk, .inl (G.2.1, 24, .inl (qA k))), (pr, .inl (G.2.1, 24, .inl (qA r))), (pt, .inl (G.2.1, 24, .inl (qA t)))]) rfl ?_
    refine qv_aload_n C 0 d_R_acceptsColon_29 rfl rfl ?_
    refine qv_iconst C d_R_acceptsColon_30 ?_
    refine qv_put C in_R 0 rfl rfl 4 (by decide) t_R t_R_ok n_R wf_R_47 rfl rfl (t_R_ok 4 (by decide)) (rfl) (rfl) (Nat.le_of_ble_eq_true rfl) d_R_acceptsColon_31 (ws' := [(rd, .inr (3, [.ref rl, .ref rn, .ref ra, .ref p, .int (qI 0), .int (qI lt), .int (qI kd), .int (qI ct), .int (qI 1)])), (rl, .inl (G.2.1, 26, .inl (qA (qU pl lt n)))), (rn, .inl (G.2.1, 24, .inl (qA nl))), (ra, .inl (G.2.1, 24, .inl (qA na))), (p, .inr (2, [.ref pk, .ref pr, .ref pt, .int (qI n), .ref pd, .ref pb, .ref ph, .ref pe, .ref pg, .int (qI lc)])), (pk, .inl (G.2.1, 24, .inl (qA k))), (pr, .inl (G.2.1, 24, .inl (qA r))), (pt, .inl (G.2.1, 24, .inl (qA t)))]) rfl ?_
    refine qv_iconst C d_R_acceptsColon_34 ?_
    refine qv_zret C (by omega) hrt hlk d_R_acceptsColon_35 ?_
    refine ⟨1, _, _, _, _, _, _, _, _, _, _, _, _, rfl, rfl, Or.inl ⟨rfl, ?_, Or.inl ⟨rfl, rfl⟩⟩⟩
    unfold m_ac
    dsimp only
    rw [if_neg (by omega), if_pos (by omega), if_pos (by omega)]
  · refine qv_iconst C d_R_acceptsColon_6 ?_
    refine qv_zret C (by omega) hrt hlk d_R_acceptsColon_7 ?_
    refine ⟨0, _, _, _, _, _, _, _, _, _, _, _, _, rfl, rfl, Or.inr ⟨rfl, ?_, by omega, by omega, rfl, rfl, rfl, rfl, rfl, rfl, rfl, rfl, rfl⟩⟩
    unfold m_ac
    dsimp only
    rw [if_neg (by omega), if_pos (by omega), if_neg (by omega)]
set_option maxHeartbeats 4000000 in
set_option maxRecDepth 100000 in
theorem c_R_acceptsCounter (l : Launch) (G : qG) {rd rl rn ra : Nat} {p pk pr pt pd pb ph pe pg : Nat} {nx lt kd ct lb n lc c : Int} {k r t nl na pl : Int → Int} {Q : Int} (hw : m_xw (nx, lt, kd, ct, lb, n, k, r, nl, na, pl)) (hc : 0 ≤ c ∧ c ≤ 65535) (hx : nx = 2) : qM l G y_R_acceptsCounter b_R_acceptsCounter 2 (some .boolean) ({ frames := 2, cells := 0, slots := 0, locals := 42 }) [.ref rd, .int (qI c)] [(rd, .inr (3, [.ref rl, .ref rn, .ref ra, .ref p, .int (qI nx), .int (qI lt), .int (qI kd), .int (qI ct), .int (qI lb)])), (rl, .inl (G.2.1, 26, .inl (qA pl))), (rn, .inl (G.2.1, 24, .inl (qA nl))), (ra, .inl (G.2.1, 24, .inl (qA na))), (p, .inr (2, [.ref pk, .ref pr, .ref pt, .int (qI n), .ref pd, .ref pb, .ref ph, .ref pe, .ref pg, .int (qI lc)])), (pk, .inl (G.2.1, 24, .inl (qA k))), (pr, .inl (G.2.1, 24, .inl (qA r))), (pt, .inl (G.2.1, 24, .inl (qA t)))] (fun v' ws' => ∃ (x nx' lt' kd' ct' lb' n' : Int) (k' r' t' nl' na' pl' : Int → Int), v' = some (.int (qI x)) ∧ ws' = [(rd, .inr (3, [.ref rl, .ref rn, .ref ra, .ref p, .int (qI nx'), .int (qI lt'), .int (qI kd'), .int (qI ct'), .int (qI lb')])), (rl, .inl (G.2.1, 26, .inl (qA pl'))), (rn, .inl (G.2.1, 24, .inl (qA nl'))), (ra, .inl (G.2.1, 24, .inl (qA na'))), (p, .inr (2, [.ref pk, .ref pr, .ref pt, .int (qI n'), .ref pd, .ref pb, .ref ph, .ref pe, .ref pg, .int (qI lc)])), (pk, .inl (G.2.1, 24, .inl (qA k'))), (pr, .inl (G.2.1, 24, .inl (qA r'))), (pt, .inl (G.2.1, 24, .inl (qA t')))] ∧ ((x = 1 ∧ m_ac (nx, lt, kd, ct, lb, n, k, r, nl, na, pl) c Q = some (nx', lt', kd', ct', lb', n', k', r', nl', na', pl') ∧ ((n' = n ∧ t' = t) ∨ (n' = n + 1 ∧ t' = qU t n (-1)))) ∨ (x = 0 ∧ m_ac (nx, lt, kd, ct, lb, n, k, r, nl, na, pl) c Q = none ∧ (0 ≤ lt' ∧ lt' ≤ 25) ∧ (-1 ≤ ct' ∧ ct' ≤ 7) ∧ kd' = kd ∧ lb' = lb ∧ n' = n ∧ k' = k ∧ r' = r ∧ t' = t ∧ nl' = nl ∧ na' = na ∧ pl' = pl))) := by
  refine qM.of (by decide) (Nat.le_of_ble_eq_true rfl) (fun xp xe xs xm xb xme xc A C hrt hlk hnm => ?_)
  refine qv_eq (lv' := [(0, .ref rd), (1, .int (qI c))]) rfl rfl rfl ?_
  have hw0 := hw
  obtain ⟨h1, h2, h3, h4, h5, h6, h7, h8, h9, h10, h11, h12, h13, h14, h15, h16⟩ := hw
  refine qv_iload_n C 1 d_R_acceptsCounter_0 rfl rfl ?_
  refine qv_bipush C d_R_acceptsCounter_1 (by decide) ?_
  refine qv_icmp_lt C d_R_acceptsCounter_3 (tgt := 12) (by decide) (by omega) (by omega) (fun ht3 => ?_) (fun hf3 => ?_)
  · refine qv_iconst C d_R_acceptsCounter_12 ?_
    refine qv_zret C (by omega) hrt hlk d_R_acceptsCounter_13 ?_
    refine ⟨0, _, _, _, _, _, _, _, _, _, _, _, _, rfl, rfl, Or.inr ⟨rfl, ?_, by omega, by omega, rfl, rfl, rfl, rfl, rfl, rfl, rfl, rfl, rfl⟩⟩
    unfold m_ac
    dsimp only
    rw [if_neg (by omega), if_neg (by omega), if_pos (by omega), if_neg (by omega)]
  · refine qv_iload_n C 1 d_R_acceptsCounter_6 rfl rfl ?_
    refine qv_bipush C d_R_acceptsCounter_7 (by decide) ?_
    refine qv_icmp_lt C d_R_acceptsCounter_9 (tgt := 14) (by decide) (by omega) (by omega) (fun ht9 => ?_) (fun hf9 => ?_)
    · refine qv_aload_n C 0 d_R_acceptsCounter_14 rfl rfl ?_
      refine qv_iload_n C 1 d_R_acceptsCounter_15 rfl rfl ?_
      refine qv_bipush C d_R_acceptsCounter_16 (by decide) ?_
      refine qv_isub C d_R_acceptsCounter_18 ?_
      refine qv_put C in_R 0 rfl rfl 7 (by decide) t_R t_R_ok n_R wf_R_79 rfl rfl (t_R_ok 7 (by decide)) (rfl) (rfl) (Nat.le_of_ble_eq_true rfl) d_R_acceptsCounter_19 (ws' := [(rd, .inr (3, [.ref rl, .ref rn, .ref ra, .ref p, .int (qI nx), .int (qI lt), .int (qI kd), .int (qI (c - 97)), .int (qI lb)])), (rl, .inl (G.2.1, 26, .inl (qA pl))), (rn, .inl (G.2.1, 24, .inl (qA nl))), (ra, .inl (G.2.1, 24, .inl (qA na))), (p, .inr (2, [.ref pk, .ref pr, .ref pt, .int (qI n), .ref pd, .ref pb, .ref ph, .ref pe, .ref pg, .int (qI lc)])), (pk, .inl (G.2.1, 24, .inl (qA k))), (pr, .inl (G.2.1, 24, .inl (qA r))), (pt, .inl (G.2.1, 24, .inl (qA t)))]) rfl ?_
      refine qv_aload_n C 0 d_R_acceptsCounter_22 rfl rfl ?_
      refine qv_get C in_R 0 rfl rfl 6 (by decide) wf_R_86 rfl rfl d_R_acceptsCounter_23 ?_
      refine qv_iconst C d_R_acceptsCounter_26 ?_
      refine qv_icmp_ne C d_R_acceptsCounter_27 (tgt := 38) (by decide) (by omega) (by omega) (fun ht27 => ?_) (fun hf27 => ?_)
      · refine qv_aload_n C 0 d_R_acceptsCounter_38 rfl rfl ?_
        refine qv_cV (As := []) (rest := []) (wc := [(rd, .inr (3, [.ref rl, .ref rn, .ref ra, .ref p, .int (qI nx), .int (qI lt), .int (qI kd), .int (qI (c - 97)), .int (qI lb)])), (p, .inr (2, [.ref pk, .ref pr, .ref pt, .int (qI n), .ref pd, .ref pb, .ref ph, .ref pe, .ref pg, .int (qI lc)])), (pk, .inl (G.2.1, 24, .inl (qA k))), (pr, .inl (G.2.1, 24, .inl (qA r))), (pt, .inl (G.2.1, 24, .inl (qA t)))]) (wr := [(rl, .inl (G.2.1, 26, .inl (qA pl))), (rn, .inl (G.2.1, 24, .inl (qA nl))), (ra, .inl (G.2.1, 24, .inl (qA na)))]) C k_R_finish (c_R_finish l G (kd := kd) (ct := (c - 97)) (by omega)) wm_R_89 wi_R_finish ws_R_finish 0 rfl rfl (by decide) d_R_acceptsCounter_39 rfl rfl (Nat.le_of_ble_eq_true rfl) (by decide) [0, 4, 5, 6, 7] [1, 2, 3] rfl (by decide) rfl (by decide) (by decide) (fun v ws' hpost => ?_)
        obtain ⟨rfl, rfl⟩ := hpost
        refine qv_eq (ws' := [(rl, .inl (G.2.1, 26, .inl (qA pl))), (rn, .inl (G.2.1, 24, .inl (qA nl))), (ra, .inl (G.2.1, 24, .inl (qA na))), (rd, .inr (3, [.ref rl, .ref rn, .ref ra, .ref p, .int (qI 4), .int (qI lt), .int (qI kd), .int (qI (c - 97)), .int (qI 0)])), (p, .inr (2, [.ref pk, .ref pr, .ref pt, .int (qI (n + 1)), .ref pd, .ref pb, .ref ph, .ref pe, .ref pg, .int (qI lc)])), (pk, .inl (G.2.1, 24, .inl (qA (qU k n kd)))), (pr, .inl (G.2.1, 24, .inl (qA (qU r n (c - 97))))), (pt, .inl (G.2.1, 24, .inl (qA (qU t n (-1)))))]) (st' := []) rfl rfl rfl ?_
        refine qv_iconst C d_R_acceptsCounter_42 ?_
        refine qv_ws (ws' := [(rd, .inr (3, [.ref rl, .ref rn, .ref ra, .ref p, .int (qI 4), .int (qI lt), .int (qI kd), .int (qI (c - 97)), .int (qI 0)])), (rl, .inl (G.2.1, 26, .inl (qA pl))), (rn, .inl (G.2.1, 24, .inl (qA nl))), (ra, .inl (G.2.1, 24, .inl (qA na))), (p, .inr (2, [.ref pk, .ref pr, .ref pt, .int (qI (n + 1)), .ref pd, .ref pb, .ref ph, .ref pe, .ref pg, .int (qI lc)])), (pk, .inl (G.2.1, 24, .inl (qA (qU k n kd)))), (pr, .inl (G.2.1, 24, .inl (qA (qU r n (c - 97))))), (pt, .inl (G.2.1, 24, .inl (qA (qU t n (-1)))))]) [3, 0, 1, 2, 4, 5, 6, 7] (by decide) rfl ?_
        refine qv_zret C (by omega) hrt hlk d_R_acceptsCounter_43 ?_
        refine ⟨1, _, _, _, _, _, _, _, _, _, _, _, _, rfl, rfl, Or.inl ⟨rfl, ?_, Or.inr ⟨rfl, rfl⟩⟩⟩
        unfold m_ac
        dsimp only
        rw [if_neg (by omega), if_neg (by omega), if_pos (by omega), if_pos (by omega), if_neg (by omega)]
        rfl
      · refine qv_aload_n C 0 d_R_acceptsCounter_30 rfl rfl ?_
        refine qv_iconst C d_R_acceptsCounter_31 ?_
        refine qv_put C in_R 0 rfl rfl 4 (by decide) t_R t_R_ok n_R wf_R_47 rfl rfl (t_R_ok 4 (by decide)) (rfl) (rfl) (Nat.le_of_ble_eq_true rfl) d_R_acceptsCounter_32 (ws' := [(rd, .inr (3, [.ref rl, .ref rn, .ref ra, .ref p, .int (qI 3), .int (qI lt), .int (qI kd), .int (qI (c - 97)), .int (qI lb)])), (rl, .inl (G.2.1, 26, .inl (qA pl))), (rn, .inl (G.2.1, 24, .inl (qA nl))), (ra, .inl (G.2.1, 24, .inl (qA na))), (p, .inr (2, [.ref pk, .ref pr, .ref pt, .int (qI n), .ref pd, .ref pb, .ref ph, .ref pe, .ref pg, .int (qI lc)])), (pk, .inl (G.2.1, 24, .inl (qA k))), (pr, .inl (G.2.1, 24, .inl (qA r))), (pt, .inl (G.2.1, 24, .inl (qA t)))]) rfl ?_
        refine qv_goto C d_R_acceptsCounter_35 (by decide) (tgt := 42) ?_
        refine qv_iconst C d_R_acceptsCounter_42 ?_
        refine qv_zret C (by omega) hrt hlk d_R_acceptsCounter_43 ?_
        refine ⟨1, _, _, _, _, _, _, _, _, _, _, _, _, rfl, rfl, Or.inl ⟨rfl, ?_, Or.inl ⟨rfl, rfl⟩⟩⟩
        unfold m_ac
        dsimp only
        rw [if_neg (by omega), if_neg (by omega), if_pos (by omega), if_pos (by omega), if_pos (by omega)]
    · refine qv_iconst C d_R_acceptsCounter_12 ?_
      refine qv_zret C (by omega) hrt hlk d_R_acceptsCounter_13 ?_
      refine ⟨0, _, _, _, _, _, _, _, _, _, _, _, _, rfl, rfl, Or.inr ⟨rfl, ?_, by omega, by omega, rfl, rfl, rfl, rfl, rfl, rfl, rfl, rfl, rfl⟩⟩
      unfold m_ac
      dsimp only
      rw [if_neg (by omega), if_neg (by omega), if_pos (by omega), if_neg (by omega)]
set_option maxHeartbeats 4000000 in
set_option maxRecDepth 100000 in
theorem c_R_acceptsSemicolon (l : Launch) (G : qG) {rd rl rn ra : Nat} {p pk pr pt pd pb ph pe pg : Nat} {nx lt kd ct lb n lc c : Int} {k r t nl na pl : Int → Int} {Q : Int} (hw : m_xw (nx, lt, kd, ct, lb, n, k, r, nl, na, pl)) (hc : 0 ≤ c ∧ c ≤ 65535) (hx : nx = 4) : qM l G y_R_acceptsSemicolon b_R_acceptsSemicolon 2 (some .boolean) ({ frames := 0, cells := 0, slots := 0, locals := 0 }) [.ref rd, .int (qI c)] [(rd, .inr (3, [.ref rl, .ref rn, .ref ra, .ref p, .int (qI nx), .int (qI lt), .int (qI kd), .int (qI ct), .int (qI lb)])), (rl, .inl (G.2.1, 26, .inl (qA pl))), (rn, .inl (G.2.1, 24, .inl (qA nl))), (ra, .inl (G.2.1, 24, .inl (qA na))), (p, .inr (2, [.ref pk, .ref pr, .ref pt, .int (qI n), .ref pd, .ref pb, .ref ph, .ref pe, .ref pg, .int (qI lc)])), (pk, .inl (G.2.1, 24, .inl (qA k))), (pr, .inl (G.2.1, 24, .inl (qA r))), (pt, .inl (G.2.1, 24, .inl (qA t)))] (fun v' ws' => ∃ (x nx' lt' kd' ct' lb' n' : Int) (k' r' t' nl' na' pl' : Int → Int), v' = some (.int (qI x)) ∧ ws' = [(rd, .inr (3, [.ref rl, .ref rn, .ref ra, .ref p, .int (qI nx'), .int (qI lt'), .int (qI kd'), .int (qI ct'), .int (qI lb')])), (rl, .inl (G.2.1, 26, .inl (qA pl'))), (rn, .inl (G.2.1, 24, .inl (qA nl'))), (ra, .inl (G.2.1, 24, .inl (qA na'))), (p, .inr (2, [.ref pk, .ref pr, .ref pt, .int (qI n'), .ref pd, .ref pb, .ref ph, .ref pe, .ref pg, .int (qI lc)])), (pk, .inl (G.2.1, 24, .inl (qA k'))), (pr, .inl (G.2.1, 24, .inl (qA r'))), (pt, .inl (G.2.1, 24, .inl (qA t')))] ∧ ((x = 1 ∧ m_ac (nx, lt, kd, ct, lb, n, k, r, nl, na, pl) c Q = some (nx', lt', kd', ct', lb', n', k', r', nl', na', pl') ∧ ((n' = n ∧ t' = t) ∨ (n' = n + 1 ∧ t' = qU t n (-1)))) ∨ (x = 0 ∧ m_ac (nx, lt, kd, ct, lb, n, k, r, nl, na, pl) c Q = none ∧ (0 ≤ lt' ∧ lt' ≤ 25) ∧ (-1 ≤ ct' ∧ ct' ≤ 7) ∧ kd' = kd ∧ lb' = lb ∧ n' = n ∧ k' = k ∧ r' = r ∧ t' = t ∧ nl' = nl ∧ na' = na ∧ pl' = pl))) := by
  refine qM.of (by decide) (Nat.le_of_ble_eq_true rfl) (fun xp xe xs xm xb xme xc A C hrt hlk hnm => ?_)
  refine qv_eq (lv' := [(0, .ref rd), (1, .int (qI c))]) rfl rfl rfl ?_
  have hw0 := hw
  obtain ⟨h1, h2, h3, h4, h5, h6, h7, h8, h9, h10, h11, h12, h13, h14, h15, h16⟩ := hw
  refine qv_aload_n C 0 d_R_acceptsSemicolon_0 rfl rfl ?_
  refine qv_iconst C d_R_acceptsSemicolon_1 ?_
  refine qv_put C in_R 0 rfl rfl 4 (by decide) t_R t_R_ok n_R wf_R_47 rfl rfl (t_R_ok 4 (by decide)) (rfl) (rfl) (Nat.le_of_ble_eq_true rfl) d_R_acceptsSemicolon_2 (ws' := [(rd, .inr (3, [.ref rl, .ref rn, .ref ra, .ref p, .int (qI 0), .int (qI lt), .int (qI kd), .int (qI ct), .int (qI lb)])), (rl, .inl (G.2.1, 26, .inl (qA pl))), (rn, .inl (G.2.1, 24, .inl (qA nl))), (ra, .inl (G.2.1, 24, .inl (qA na))), (p, .inr (2, [.ref pk, .ref pr, .ref pt, .int (qI n), .ref pd, .ref pb, .ref ph, .ref pe, .ref pg, .int (qI lc)])), (pk, .inl (G.2.1, 24, .inl (qA k))), (pr, .inl (G.2.1, 24, .inl (qA r))), (pt, .inl (G.2.1, 24, .inl (qA t)))]) rfl ?_
  refine qv_iload_n C 1 d_R_acceptsSemicolon_5 rfl rfl ?_
  refine qv_bipush C d_R_acceptsSemicolon_6 (by decide) ?_
  refine qv_icmp_ne C d_R_acceptsSemicolon_8 (tgt := 15) (by decide) (by omega) (by omega) (fun ht8 => ?_) (fun hf8 => ?_)
  · refine qv_iconst C d_R_acceptsSemicolon_15 ?_
    refine qv_zret C (by omega) hrt hlk d_R_acceptsSemicolon_16 ?_
    refine ⟨0, _, _, _, _, _, _, _, _, _, _, _, _, rfl, rfl, Or.inr ⟨rfl, ?_, by omega, by omega, rfl, rfl, rfl, rfl, rfl, rfl, rfl, rfl, rfl⟩⟩
    unfold m_ac
    dsimp only
    rw [if_neg (by omega), if_neg (by omega), if_neg (by omega), if_neg (by omega), if_neg (by omega)]
  · refine qv_iconst C d_R_acceptsSemicolon_11 ?_
    refine qv_goto C d_R_acceptsSemicolon_12 (by decide) (tgt := 16) ?_
    refine qv_zret C (by omega) hrt hlk d_R_acceptsSemicolon_16 ?_
    refine ⟨1, _, _, _, _, _, _, _, _, _, _, _, _, rfl, rfl, Or.inl ⟨rfl, ?_, Or.inl ⟨rfl, rfl⟩⟩⟩
    unfold m_ac
    dsimp only
    rw [if_neg (by omega), if_neg (by omega), if_neg (by omega), if_neg (by omega), if_pos (by omega)]
set_option maxHeartbeats 4000000 in
set_option maxRecDepth 100000 in
theorem c_R_acceptsNamed (l : Launch) (G : qG) {rd rl rn ra : Nat} {p pk pr pt pd pb ph pe pg : Nat} {nx lt kd ct lb n lc c : Int} {k r t nl na pl : Int → Int} {Q : Int} (hw : m_xw (nx, lt, kd, ct, lb, n, k, r, nl, na, pl)) (hc : 0 ≤ c ∧ c ≤ 65535) (hx : nx = 3) (hq : 0 ≤ Q ∧ Q ≤ 119) : qM l G y_R_acceptsNamed b_R_acceptsNamed 3 (some .boolean) ({ frames := 2, cells := 0, slots := 0, locals := 42 }) [.ref rd, .int (qI c), .int (qI Q)] [(rd, .inr (3, [.ref rl, .ref rn, .ref ra, .ref p, .int (qI nx), .int (qI lt), .int (qI kd), .int (qI ct), .int (qI lb)])), (rl, .inl (G.2.1, 26, .inl (qA pl))), (rn, .inl (G.2.1, 24, .inl (qA nl))), (ra, .inl (G.2.1, 24, .inl (qA na))), (p, .inr (2, [.ref pk, .ref pr, .ref pt, .int (qI n), .ref pd, .ref pb, .ref ph, .ref pe, .ref pg, .int (qI lc)])), (pk, .inl (G.2.1, 24, .inl (qA k))), (pr, .inl (G.2.1, 24, .inl (qA r))), (pt, .inl (G.2.1, 24, .inl (qA t)))] (fun v' ws' => ∃ (x nx' lt' kd' ct' lb' n' : Int) (k' r' t' nl' na' pl' : Int → Int), v' = some (.int (qI x)) ∧ ws' = [(rd, .inr (3, [.ref rl, .ref rn, .ref ra, .ref p, .int (qI nx'), .int (qI lt'), .int (qI kd'), .int (qI ct'), .int (qI lb')])), (rl, .inl (G.2.1, 26, .inl (qA pl'))), (rn, .inl (G.2.1, 24, .inl (qA nl'))), (ra, .inl (G.2.1, 24, .inl (qA na'))), (p, .inr (2, [.ref pk, .ref pr, .ref pt, .int (qI n'), .ref pd, .ref pb, .ref ph, .ref pe, .ref pg, .int (qI lc)])), (pk, .inl (G.2.1, 24, .inl (qA k'))), (pr, .inl (G.2.1, 24, .inl (qA r'))), (pt, .inl (G.2.1, 24, .inl (qA t')))] ∧ ((x = 1 ∧ m_ac (nx, lt, kd, ct, lb, n, k, r, nl, na, pl) c Q = some (nx', lt', kd', ct', lb', n', k', r', nl', na', pl') ∧ ((n' = n ∧ t' = t) ∨ (n' = n + 1 ∧ t' = qU t n (-1)))) ∨ (x = 0 ∧ m_ac (nx, lt, kd, ct, lb, n, k, r, nl, na, pl) c Q = none ∧ (0 ≤ lt' ∧ lt' ≤ 25) ∧ (-1 ≤ ct' ∧ ct' ≤ 7) ∧ kd' = kd ∧ lb' = lb ∧ n' = n ∧ k' = k ∧ r' = r ∧ t' = t ∧ nl' = nl ∧ na' = na ∧ pl' = pl))) := by
  refine qM.of (by decide) (Nat.le_of_ble_eq_true rfl) (fun xp xe xs xm xb xme xc A C hrt hlk hnm => ?_)
  refine qv_eq (lv' := [(0, .ref rd), (1, .int (qI c)), (2, .int (qI Q))]) rfl rfl rfl ?_
  have hw0 := hw
  obtain ⟨h1, h2, h3, h4, h5, h6, h7, h8, h9, h10, h11, h12, h13, h14, h15, h16⟩ := hw
  refine qv_iload_n C 1 d_R_acceptsNamed_0 rfl rfl ?_
  refine qv_cS (As := [.int (qI c)]) (rest := []) (wc := []) (wr := [(rd, .inr (3, [.ref rl, .ref rn, .ref ra, .ref p, .int (qI nx), .int (qI lt), .int (qI kd), .int (qI ct), .int (qI lb)])), (rl, .inl (G.2.1, 26, .inl (qA pl))), (rn, .inl (G.2.1, 24, .inl (qA nl))), (ra, .inl (G.2.1, 24, .inl (qA na))), (p, .inr (2, [.ref pk, .ref pr, .ref pt, .int (qI n), .ref pd, .ref pb, .ref ph, .ref pe, .ref pg, .int (qI lc)])), (pk, .inl (G.2.1, 24, .inl (qA k))), (pr, .inl (G.2.1, 24, .inl (qA r))), (pt, .inl (G.2.1, 24, .inl (qA t)))]) C k_R_isLabel (c_R_isLabel l G hc) wm_R_73 wt_R_isLabel (by decide) d_R_acceptsNamed_1 rfl rfl (Nat.le_of_ble_eq_true rfl) (by decide) [] [0, 1, 2, 3, 4, 5, 6, 7] rfl (by decide) rfl (by decide) (by decide) (fun v ws' hpost => ?_)
  obtain ⟨rfl, xl, rfl, hxl⟩ := hpost
  refine qv_eq (ws' := [(rd, .inr (3, [.ref rl, .ref rn, .ref ra, .ref p, .int (qI nx), .int (qI lt), .int (qI kd), .int (qI ct), .int (qI lb)])), (rl, .inl (G.2.1, 26, .inl (qA pl))), (rn, .inl (G.2.1, 24, .inl (qA nl))), (ra, .inl (G.2.1, 24, .inl (qA na))), (p, .inr (2, [.ref pk, .ref pr, .ref pt, .int (qI n), .ref pd, .ref pb, .ref ph, .ref pe, .ref pg, .int (qI lc)])), (pk, .inl (G.2.1, 24, .inl (qA k))), (pr, .inl (G.2.1, 24, .inl (qA r))), (pt, .inl (G.2.1, 24, .inl (qA t)))]) (st' := [.int (qI xl)]) rfl rfl rfl ?_
  refine qv_if_ne C d_R_acceptsNamed_4 (tgt := 9) (by decide) (by omega) (fun ht4 => ?_) (fun hf4 => ?_)
  · refine qv_aload_n C 0 d_R_acceptsNamed_9 rfl rfl ?_
    refine qv_get C in_R 0 rfl rfl 1 (by decide) wf_R_15 rfl rfl d_R_acceptsNamed_10 ?_
    refine qv_aload_n C 0 d_R_acceptsNamed_13 rfl rfl ?_
    refine qv_get C in_R 0 rfl rfl 3 (by decide) wf_R_37 rfl rfl d_R_acceptsNamed_14 ?_
    refine qv_getN C in_P 4 rfl rfl 3 (by decide) wf_R_41 rfl rfl d_R_acceptsNamed_17 ?_
    refine qv_iload_n C 1 d_R_acceptsNamed_20 rfl rfl ?_
    refine qv_bipush C d_R_acceptsNamed_21 (by decide) ?_
    refine qv_isub C d_R_acceptsNamed_23 ?_
    refine qv_iast C 2 rfl (by omega) d_R_acceptsNamed_24 (ws' := [(rd, .inr (3, [.ref rl, .ref rn, .ref ra, .ref p, .int (qI nx), .int (qI lt), .int (qI kd), .int (qI ct), .int (qI lb)])), (rl, .inl (G.2.1, 26, .inl (qA pl))), (rn, .inl (G.2.1, 24, .inl (qA (qU nl n (c - 65))))), (ra, .inl (G.2.1, 24, .inl (qA na))), (p, .inr (2, [.ref pk, .ref pr, .ref pt, .int (qI n), .ref pd, .ref pb, .ref ph, .ref pe, .ref pg, .int (qI lc)])), (pk, .inl (G.2.1, 24, .inl (qA k))), (pr, .inl (G.2.1, 24, .inl (qA r))), (pt, .inl (G.2.1, 24, .inl (qA t)))]) rfl ?_
    refine qv_aload_n C 0 d_R_acceptsNamed_25 rfl rfl ?_
    refine qv_get C in_R 0 rfl rfl 2 (by decide) wf_R_18 rfl rfl d_R_acceptsNamed_26 ?_
    refine qv_aload_n C 0 d_R_acceptsNamed_29 rfl rfl ?_
    refine qv_get C in_R 0 rfl rfl 3 (by decide) wf_R_37 rfl rfl d_R_acceptsNamed_30 ?_
    refine qv_getN C in_P 4 rfl rfl 3 (by decide) wf_R_41 rfl rfl d_R_acceptsNamed_33 ?_
    refine qv_iload_n C 2 d_R_acceptsNamed_36 rfl rfl ?_
    refine qv_iast C 3 rfl (by omega) d_R_acceptsNamed_37 (ws' := [(rd, .inr (3, [.ref rl, .ref rn, .ref ra, .ref p, .int (qI nx), .int (qI lt), .int (qI kd), .int (qI ct), .int (qI lb)])), (rl, .inl (G.2.1, 26, .inl (qA pl))), (rn, .inl (G.2.1, 24, .inl (qA (qU nl n (c - 65))))), (ra, .inl (G.2.1, 24, .inl (qA (qU na n Q)))), (p, .inr (2, [.ref pk, .ref pr, .ref pt, .int (qI n), .ref pd, .ref pb, .ref ph, .ref pe, .ref pg, .int (qI lc)])), (pk, .inl (G.2.1, 24, .inl (qA k))), (pr, .inl (G.2.1, 24, .inl (qA r))), (pt, .inl (G.2.1, 24, .inl (qA t)))]) rfl ?_
    refine qv_aload_n C 0 d_R_acceptsNamed_38 rfl rfl ?_
    refine qv_cV (As := []) (rest := []) (wc := [(rd, .inr (3, [.ref rl, .ref rn, .ref ra, .ref p, .int (qI nx), .int (qI lt), .int (qI kd), .int (qI ct), .int (qI lb)])), (p, .inr (2, [.ref pk, .ref pr, .ref pt, .int (qI n), .ref pd, .ref pb, .ref ph, .ref pe, .ref pg, .int (qI lc)])), (pk, .inl (G.2.1, 24, .inl (qA k))), (pr, .inl (G.2.1, 24, .inl (qA r))), (pt, .inl (G.2.1, 24, .inl (qA t)))]) (wr := [(rl, .inl (G.2.1, 26, .inl (qA pl))), (rn, .inl (G.2.1, 24, .inl (qA (qU nl n (c - 65))))), (ra, .inl (G.2.1, 24, .inl (qA (qU na n Q))))]) C k_R_finish (c_R_finish l G (kd := kd) (ct := ct) (by omega)) wm_R_89 wi_R_finish ws_R_finish 0 rfl rfl (by decide) d_R_acceptsNamed_39 rfl rfl (Nat.le_of_ble_eq_true rfl) (by decide) [0, 4, 5, 6, 7] [1, 2, 3] rfl (by decide) rfl (by decide) (by decide) (fun v ws' hpost => ?_)
    obtain ⟨rfl, rfl⟩ := hpost
    refine qv_eq (ws' := [(rl, .inl (G.2.1, 26, .inl (qA pl))), (rn, .inl (G.2.1, 24, .inl (qA (qU nl n (c - 65))))), (ra, .inl (G.2.1, 24, .inl (qA (qU na n Q)))), (rd, .inr (3, [.ref rl, .ref rn, .ref ra, .ref p, .int (qI 4), .int (qI lt), .int (qI kd), .int (qI ct), .int (qI 0)])), (p, .inr (2, [.ref pk, .ref pr, .ref pt, .int (qI (n + 1)), .ref pd, .ref pb, .ref ph, .ref pe, .ref pg, .int (qI lc)])), (pk, .inl (G.2.1, 24, .inl (qA (qU k n kd)))), (pr, .inl (G.2.1, 24, .inl (qA (qU r n ct)))), (pt, .inl (G.2.1, 24, .inl (qA (qU t n (-1)))))]) (st' := []) rfl rfl rfl ?_
    refine qv_iconst C d_R_acceptsNamed_42 ?_
    refine qv_ws (ws' := [(rd, .inr (3, [.ref rl, .ref rn, .ref ra, .ref p, .int (qI 4), .int (qI lt), .int (qI kd), .int (qI ct), .int (qI 0)])), (rl, .inl (G.2.1, 26, .inl (qA pl))), (rn, .inl (G.2.1, 24, .inl (qA (qU nl n (c - 65))))), (ra, .inl (G.2.1, 24, .inl (qA (qU na n Q)))), (p, .inr (2, [.ref pk, .ref pr, .ref pt, .int (qI (n + 1)), .ref pd, .ref pb, .ref ph, .ref pe, .ref pg, .int (qI lc)])), (pk, .inl (G.2.1, 24, .inl (qA (qU k n kd)))), (pr, .inl (G.2.1, 24, .inl (qA (qU r n ct)))), (pt, .inl (G.2.1, 24, .inl (qA (qU t n (-1)))))]) [3, 0, 1, 2, 4, 5, 6, 7] (by decide) rfl ?_
    refine qv_zret C (by omega) hrt hlk d_R_acceptsNamed_43 ?_
    refine ⟨1, _, _, _, _, _, _, _, _, _, _, _, _, rfl, rfl, Or.inl ⟨rfl, ?_, Or.inr ⟨rfl, rfl⟩⟩⟩
    unfold m_ac
    dsimp only
    rw [if_neg (by omega), if_neg (by omega), if_neg (by omega), if_pos (by omega), if_pos (by omega)]
    rfl
  · refine qv_iconst C d_R_acceptsNamed_7 ?_
    refine qv_zret C (by omega) hrt hlk d_R_acceptsNamed_8 ?_
    refine ⟨0, _, _, _, _, _, _, _, _, _, _, _, _, rfl, rfl, Or.inr ⟨rfl, ?_, by omega, by omega, rfl, rfl, rfl, rfl, rfl, rfl, rfl, rfl, rfl⟩⟩
    unfold m_ac
    dsimp only
    rw [if_neg (by omega), if_neg (by omega), if_neg (by omega), if_pos (by omega), if_neg (by omega)]
set_option maxHeartbeats 4000000 in
set_option maxRecDepth 100000 in
theorem c_R_accepts (l : Launch) (G : qG) {rd rl rn ra : Nat} {p pk pr pt pd pb ph pe pg : Nat} {nx lt kd ct lb n lc c : Int} {k r t nl na pl : Int → Int} {Q : Int} (hw : m_xw (nx, lt, kd, ct, lb, n, k, r, nl, na, pl)) (hc : 0 ≤ c ∧ c ≤ 65535) (hq : 0 ≤ Q ∧ Q ≤ 119) : qM l G y_R_accepts b_R_accepts 3 (some .boolean) ({ frames := 3, cells := 0, slots := 0, locals := 64 }) [.ref rd, .int (qI c), .int (qI Q)] [(rd, .inr (3, [.ref rl, .ref rn, .ref ra, .ref p, .int (qI nx), .int (qI lt), .int (qI kd), .int (qI ct), .int (qI lb)])), (rl, .inl (G.2.1, 26, .inl (qA pl))), (rn, .inl (G.2.1, 24, .inl (qA nl))), (ra, .inl (G.2.1, 24, .inl (qA na))), (p, .inr (2, [.ref pk, .ref pr, .ref pt, .int (qI n), .ref pd, .ref pb, .ref ph, .ref pe, .ref pg, .int (qI lc)])), (pk, .inl (G.2.1, 24, .inl (qA k))), (pr, .inl (G.2.1, 24, .inl (qA r))), (pt, .inl (G.2.1, 24, .inl (qA t)))] (fun v' ws' => ∃ (x nx' lt' kd' ct' lb' n' : Int) (k' r' t' nl' na' pl' : Int → Int), v' = some (.int (qI x)) ∧ ws' = [(rd, .inr (3, [.ref rl, .ref rn, .ref ra, .ref p, .int (qI nx'), .int (qI lt'), .int (qI kd'), .int (qI ct'), .int (qI lb')])), (rl, .inl (G.2.1, 26, .inl (qA pl'))), (rn, .inl (G.2.1, 24, .inl (qA nl'))), (ra, .inl (G.2.1, 24, .inl (qA na'))), (p, .inr (2, [.ref pk, .ref pr, .ref pt, .int (qI n'), .ref pd, .ref pb, .ref ph, .ref pe, .ref pg, .int (qI lc)])), (pk, .inl (G.2.1, 24, .inl (qA k'))), (pr, .inl (G.2.1, 24, .inl (qA r'))), (pt, .inl (G.2.1, 24, .inl (qA t')))] ∧ ((x = 1 ∧ m_ac (nx, lt, kd, ct, lb, n, k, r, nl, na, pl) c Q = some (nx', lt', kd', ct', lb', n', k', r', nl', na', pl') ∧ ((n' = n ∧ t' = t) ∨ (n' = n + 1 ∧ t' = qU t n (-1)))) ∨ (x = 0 ∧ m_ac (nx, lt, kd, ct, lb, n, k, r, nl, na, pl) c Q = none ∧ (0 ≤ lt' ∧ lt' ≤ 25) ∧ (-1 ≤ ct' ∧ ct' ≤ 7) ∧ kd' = kd ∧ lb' = lb ∧ n' = n ∧ k' = k ∧ r' = r ∧ t' = t ∧ nl' = nl ∧ na' = na ∧ pl' = pl))) := by
  refine qM.of (by decide) (Nat.le_of_ble_eq_true rfl) (fun xp xe xs xm xb xme xc A C hrt hlk hnm => ?_)
  refine qv_eq (lv' := [(0, .ref rd), (1, .int (qI c)), (2, .int (qI Q))]) rfl rfl rfl ?_
  have hw0 := hw
  obtain ⟨h1, h2, h3, h4, h5, h6, h7, h8, h9, h10, h11, h12, h13, h14, h15, h16⟩ := hw
  refine qv_aload_n C 0 d_R_accepts_0 rfl rfl ?_
  refine qv_get C in_R 0 rfl rfl 4 (by decide) wf_R_47 rfl rfl d_R_accepts_1 ?_
  rcases (show nx = 0 ∨ nx = 1 ∨ nx = 2 ∨ nx = 3 ∨ (¬ nx = 0 ∧ ¬ nx = 1 ∧ ¬ nx = 2 ∧ ¬ nx = 3) by omega) with hs4 | hs4 | hs4 | hs4 | hs4
  · refine qv_tabIn C d_R_accepts_4 (by omega) (by omega) (by omega) (by rw [hs4]; rfl) (tgt := 36) (by decide) ?_
    refine qv_aload_n C 0 d_R_accepts_36 rfl rfl ?_
    refine qv_iload_n C 1 d_R_accepts_37 rfl rfl ?_
    refine qv_cV (As := [.int (qI c)]) (rest := []) (wc := [(rd, .inr (3, [.ref rl, .ref rn, .ref ra, .ref p, .int (qI nx), .int (qI lt), .int (qI kd), .int (qI ct), .int (qI lb)])), (rl, .inl (G.2.1, 26, .inl (qA pl))), (rn, .inl (G.2.1, 24, .inl (qA nl))), (ra, .inl (G.2.1, 24, .inl (qA na))), (p, .inr (2, [.ref pk, .ref pr, .ref pt, .int (qI n), .ref pd, .ref pb, .ref ph, .ref pe, .ref pg, .int (qI lc)])), (pk, .inl (G.2.1, 24, .inl (qA k))), (pr, .inl (G.2.1, 24, .inl (qA r))), (pt, .inl (G.2.1, 24, .inl (qA t)))]) (wr := []) C k_R_acceptsFirst (c_R_acceptsFirst l G (Q := Q) hw0 hc (by omega)) wm_R_54 wi_R_acceptsFirst ws_R_acceptsFirst 0 rfl rfl (by decide) d_R_accepts_38 rfl rfl (Nat.le_of_ble_eq_true rfl) (by decide) [0, 1, 2, 3, 4, 5, 6, 7] [] rfl (by decide) rfl (by decide) (by decide) (fun v ws' hpost => ?_)
    obtain ⟨x, nx', lt', kd', ct', lb', n', k', r', t', nl', na', pl', rfl, rfl, hp⟩ := hpost
    refine qv_eq (ws' := [(rd, .inr (3, [.ref rl, .ref rn, .ref ra, .ref p, .int (qI nx'), .int (qI lt'), .int (qI kd'), .int (qI ct'), .int (qI lb')])), (rl, .inl (G.2.1, 26, .inl (qA pl'))), (rn, .inl (G.2.1, 24, .inl (qA nl'))), (ra, .inl (G.2.1, 24, .inl (qA na'))), (p, .inr (2, [.ref pk, .ref pr, .ref pt, .int (qI n'), .ref pd, .ref pb, .ref ph, .ref pe, .ref pg, .int (qI lc)])), (pk, .inl (G.2.1, 24, .inl (qA k'))), (pr, .inl (G.2.1, 24, .inl (qA r'))), (pt, .inl (G.2.1, 24, .inl (qA t')))]) (st' := [.int (qI x)]) rfl rfl rfl ?_
    refine qv_zret C (by omega) hrt hlk d_R_accepts_41 ?_
    exact ⟨x, nx', lt', kd', ct', lb', n', k', r', t', nl', na', pl', rfl, rfl, hp⟩
  · refine qv_tabIn C d_R_accepts_4 (by omega) (by omega) (by omega) (by rw [hs4]; rfl) (tgt := 42) (by decide) ?_
    refine qv_aload_n C 0 d_R_accepts_42 rfl rfl ?_
    refine qv_iload_n C 1 d_R_accepts_43 rfl rfl ?_
    refine qv_cV (As := [.int (qI c)]) (rest := []) (wc := [(rd, .inr (3, [.ref rl, .ref rn, .ref ra, .ref p, .int (qI nx), .int (qI lt), .int (qI kd), .int (qI ct), .int (qI lb)])), (rl, .inl (G.2.1, 26, .inl (qA pl))), (rn, .inl (G.2.1, 24, .inl (qA nl))), (ra, .inl (G.2.1, 24, .inl (qA na))), (p, .inr (2, [.ref pk, .ref pr, .ref pt, .int (qI n), .ref pd, .ref pb, .ref ph, .ref pe, .ref pg, .int (qI lc)])), (pk, .inl (G.2.1, 24, .inl (qA k))), (pr, .inl (G.2.1, 24, .inl (qA r))), (pt, .inl (G.2.1, 24, .inl (qA t)))]) (wr := []) C k_R_acceptsColon (c_R_acceptsColon l G (Q := Q) hw0 hc (by omega)) wm_R_58 wi_R_acceptsColon ws_R_acceptsColon 0 rfl rfl (by decide) d_R_accepts_44 rfl rfl (Nat.le_of_ble_eq_true rfl) (by decide) [0, 1, 2, 3, 4, 5, 6, 7] [] rfl (by decide) rfl (by decide) (by decide) (fun v ws' hpost => ?_)
    obtain ⟨x, nx', lt', kd', ct', lb', n', k', r', t', nl', na', pl', rfl, rfl, hp⟩ := hpost
    refine qv_eq (ws' := [(rd, .inr (3, [.ref rl, .ref rn, .ref ra, .ref p, .int (qI nx'), .int (qI lt'), .int (qI kd'), .int (qI ct'), .int (qI lb')])), (rl, .inl (G.2.1, 26, .inl (qA pl'))), (rn, .inl (G.2.1, 24, .inl (qA nl'))), (ra, .inl (G.2.1, 24, .inl (qA na'))), (p, .inr (2, [.ref pk, .ref pr, .ref pt, .int (qI n'), .ref pd, .ref pb, .ref ph, .ref pe, .ref pg, .int (qI lc)])), (pk, .inl (G.2.1, 24, .inl (qA k'))), (pr, .inl (G.2.1, 24, .inl (qA r'))), (pt, .inl (G.2.1, 24, .inl (qA t')))]) (st' := [.int (qI x)]) rfl rfl rfl ?_
    refine qv_zret C (by omega) hrt hlk d_R_accepts_47 ?_
    exact ⟨x, nx', lt', kd', ct', lb', n', k', r', t', nl', na', pl', rfl, rfl, hp⟩
  · refine qv_tabIn C d_R_accepts_4 (by omega) (by omega) (by omega) (by rw [hs4]; rfl) (tgt := 48) (by decide) ?_
    refine qv_aload_n C 0 d_R_accepts_48 rfl rfl ?_
    refine qv_iload_n C 1 d_R_accepts_49 rfl rfl ?_
    refine qv_cV (As := [.int (qI c)]) (rest := []) (wc := [(rd, .inr (3, [.ref rl, .ref rn, .ref ra, .ref p, .int (qI nx), .int (qI lt), .int (qI kd), .int (qI ct), .int (qI lb)])), (rl, .inl (G.2.1, 26, .inl (qA pl))), (rn, .inl (G.2.1, 24, .inl (qA nl))), (ra, .inl (G.2.1, 24, .inl (qA na))), (p, .inr (2, [.ref pk, .ref pr, .ref pt, .int (qI n), .ref pd, .ref pb, .ref ph, .ref pe, .ref pg, .int (qI lc)])), (pk, .inl (G.2.1, 24, .inl (qA k))), (pr, .inl (G.2.1, 24, .inl (qA r))), (pt, .inl (G.2.1, 24, .inl (qA t)))]) (wr := []) C k_R_acceptsCounter (c_R_acceptsCounter l G (Q := Q) hw0 hc (by omega)) wm_R_61 wi_R_acceptsCounter ws_R_acceptsCounter 0 rfl rfl (by decide) d_R_accepts_50 rfl rfl (Nat.le_of_ble_eq_true rfl) (by decide) [0, 1, 2, 3, 4, 5, 6, 7] [] rfl (by decide) rfl (by decide) (by decide) (fun v ws' hpost => ?_)
    obtain ⟨x, nx', lt', kd', ct', lb', n', k', r', t', nl', na', pl', rfl, rfl, hp⟩ := hpost
    refine qv_eq (ws' := [(rd, .inr (3, [.ref rl, .ref rn, .ref ra, .ref p, .int (qI nx'), .int (qI lt'), .int (qI kd'), .int (qI ct'), .int (qI lb')])), (rl, .inl (G.2.1, 26, .inl (qA pl'))), (rn, .inl (G.2.1, 24, .inl (qA nl'))), (ra, .inl (G.2.1, 24, .inl (qA na'))), (p, .inr (2, [.ref pk, .ref pr, .ref pt, .int (qI n'), .ref pd, .ref pb, .ref ph, .ref pe, .ref pg, .int (qI lc)])), (pk, .inl (G.2.1, 24, .inl (qA k'))), (pr, .inl (G.2.1, 24, .inl (qA r'))), (pt, .inl (G.2.1, 24, .inl (qA t')))]) (st' := [.int (qI x)]) rfl rfl rfl ?_
    refine qv_zret C (by omega) hrt hlk d_R_accepts_53 ?_
    exact ⟨x, nx', lt', kd', ct', lb', n', k', r', t', nl', na', pl', rfl, rfl, hp⟩
  · refine qv_tabIn C d_R_accepts_4 (by omega) (by omega) (by omega) (by rw [hs4]; rfl) (tgt := 54) (by decide) ?_
    refine qv_aload_n C 0 d_R_accepts_54 rfl rfl ?_
    refine qv_iload_n C 1 d_R_accepts_55 rfl rfl ?_
    refine qv_iload_n C 2 d_R_accepts_56 rfl rfl ?_
    refine qv_cV (As := [.int (qI c), .int (qI Q)]) (rest := []) (wc := [(rd, .inr (3, [.ref rl, .ref rn, .ref ra, .ref p, .int (qI nx), .int (qI lt), .int (qI kd), .int (qI ct), .int (qI lb)])), (rl, .inl (G.2.1, 26, .inl (qA pl))), (rn, .inl (G.2.1, 24, .inl (qA nl))), (ra, .inl (G.2.1, 24, .inl (qA na))), (p, .inr (2, [.ref pk, .ref pr, .ref pt, .int (qI n), .ref pd, .ref pb, .ref ph, .ref pe, .ref pg, .int (qI lc)])), (pk, .inl (G.2.1, 24, .inl (qA k))), (pr, .inl (G.2.1, 24, .inl (qA r))), (pt, .inl (G.2.1, 24, .inl (qA t)))]) (wr := []) C k_R_acceptsNamed (c_R_acceptsNamed l G (Q := Q) hw0 hc (by omega) hq) wm_R_64 wi_R_acceptsNamed ws_R_acceptsNamed 0 rfl rfl (by decide) d_R_accepts_57 rfl rfl (Nat.le_of_ble_eq_true rfl) (by decide) [0, 1, 2, 3, 4, 5, 6, 7] [] rfl (by decide) rfl (by decide) (by decide) (fun v ws' hpost => ?_)
    obtain ⟨x, nx', lt', kd', ct', lb', n', k', r', t', nl', na', pl', rfl, rfl, hp⟩ := hpost
    refine qv_eq (ws' := [(rd, .inr (3, [.ref rl, .ref rn, .ref ra, .ref p, .int (qI nx'), .int (qI lt'), .int (qI kd'), .int (qI ct'), .int (qI lb')])), (rl, .inl (G.2.1, 26, .inl (qA pl'))), (rn, .inl (G.2.1, 24, .inl (qA nl'))), (ra, .inl (G.2.1, 24, .inl (qA na'))), (p, .inr (2, [.ref pk, .ref pr, .ref pt, .int (qI n'), .ref pd, .ref pb, .ref ph, .ref pe, .ref pg, .int (qI lc)])), (pk, .inl (G.2.1, 24, .inl (qA k'))), (pr, .inl (G.2.1, 24, .inl (qA r'))), (pt, .inl (G.2.1, 24, .inl (qA t')))]) (st' := [.int (qI x)]) rfl rfl rfl ?_
    refine qv_zret C (by omega) hrt hlk d_R_accepts_60 ?_
    exact ⟨x, nx', lt', kd', ct', lb', n', k', r', t', nl', na', pl', rfl, rfl, hp⟩
  · refine qv_tabOut C d_R_accepts_4 (by omega) (by omega) (tgt := 61) (by decide) ?_
    refine qv_aload_n C 0 d_R_accepts_61 rfl rfl ?_
    refine qv_iload_n C 1 d_R_accepts_62 rfl rfl ?_
    refine qv_cV (As := [.int (qI c)]) (rest := []) (wc := [(rd, .inr (3, [.ref rl, .ref rn, .ref ra, .ref p, .int (qI nx), .int (qI lt), .int (qI kd), .int (qI ct), .int (qI lb)])), (rl, .inl (G.2.1, 26, .inl (qA pl))), (rn, .inl (G.2.1, 24, .inl (qA nl))), (ra, .inl (G.2.1, 24, .inl (qA na))), (p, .inr (2, [.ref pk, .ref pr, .ref pt, .int (qI n), .ref pd, .ref pb, .ref ph, .ref pe, .ref pg, .int (qI lc)])), (pk, .inl (G.2.1, 24, .inl (qA k))), (pr, .inl (G.2.1, 24, .inl (qA r))), (pt, .inl (G.2.1, 24, .inl (qA t)))]) (wr := []) C k_R_acceptsSemicolon (c_R_acceptsSemicolon l G (Q := Q) hw0 hc (by omega)) wm_R_67 wi_R_acceptsSemicolon ws_R_acceptsSemicolon 0 rfl rfl (by decide) d_R_accepts_63 rfl rfl (Nat.le_of_ble_eq_true rfl) (by decide) [0, 1, 2, 3, 4, 5, 6, 7] [] rfl (by decide) rfl (by decide) (by decide) (fun v ws' hpost => ?_)
    obtain ⟨x, nx', lt', kd', ct', lb', n', k', r', t', nl', na', pl', rfl, rfl, hp⟩ := hpost
    refine qv_eq (ws' := [(rd, .inr (3, [.ref rl, .ref rn, .ref ra, .ref p, .int (qI nx'), .int (qI lt'), .int (qI kd'), .int (qI ct'), .int (qI lb')])), (rl, .inl (G.2.1, 26, .inl (qA pl'))), (rn, .inl (G.2.1, 24, .inl (qA nl'))), (ra, .inl (G.2.1, 24, .inl (qA na'))), (p, .inr (2, [.ref pk, .ref pr, .ref pt, .int (qI n'), .ref pd, .ref pb, .ref ph, .ref pe, .ref pg, .int (qI lc)])), (pk, .inl (G.2.1, 24, .inl (qA k'))), (pr, .inl (G.2.1, 24, .inl (qA r'))), (pt, .inl (G.2.1, 24, .inl (qA t')))]) (st' := [.int (qI x)]) rfl rfl rfl ?_
    refine qv_zret C (by omega) hrt hlk d_R_accepts_66 ?_
    exact ⟨x, nx', lt', kd', ct', lb', n', k', r', t', nl', na', pl', rfl, rfl, hp⟩
set_option maxHeartbeats 4000000 in
set_option maxRecDepth 100000 in
theorem c_R_mayEnd (l : Launch) (G : qG) {rd rl rn ra : Nat} {p pk pr pt pd pb ph pe pg : Nat} {nx lt kd ct lb n lc : Int} (h1 : 0 ≤ nx ∧ nx ≤ 4) (h5 : 0 ≤ lb ∧ lb ≤ 1) (h6 : 0 ≤ n ∧ n ≤ 24) : qM l G y_R_mayEnd b_R_mayEnd 3 (some .boolean) ({ frames := 0, cells := 0, slots := 0, locals := 0 }) [.ref rd] [(rd, .inr (3, [.ref rl, .ref rn, .ref ra, .ref p, .int (qI nx), .int (qI lt), .int (qI kd), .int (qI ct), .int (qI lb)])), (p, .inr (2, [.ref pk, .ref pr, .ref pt, .int (qI n), .ref pd, .ref pb, .ref ph, .ref pe, .ref pg, .int (qI lc)]))] (fun v' ws' => ws' = [(rd, .inr (3, [.ref rl, .ref rn, .ref ra, .ref p, .int (qI nx), .int (qI lt), .int (qI kd), .int (qI ct), .int (qI lb)])), (p, .inr (2, [.ref pk, .ref pr, .ref pt, .int (qI n), .ref pd, .ref pb, .ref ph, .ref pe, .ref pg, .int (qI lc)]))] ∧ ∃ x : Int, v' = some (.int (qI x)) ∧ ((x = 1 ∧ (nx = 4 ∨ (nx = 0 ∧ 0 < n ∧ lb = 0))) ∨ (x = 0 ∧ ¬ (nx = 4 ∨ (nx = 0 ∧ 0 < n ∧ lb = 0))))) := by
  refine qM.of (by decide) (Nat.le_of_ble_eq_true rfl) (fun xp xe xs xm xb xme xc A C hrt hlk hnm => ?_)
  refine qv_eq (lv' := [(0, .ref rd)]) rfl rfl rfl ?_
  refine qv_aload_n C 0 d_R_mayEnd_0 rfl rfl ?_
  refine qv_get C in_R 0 rfl rfl 4 (by decide) wf_R_47 rfl rfl d_R_mayEnd_1 ?_
  refine qv_iconst C d_R_mayEnd_4 ?_
  refine qv_icmp_ne C d_R_mayEnd_5 (tgt := 12) (by decide) (by omega) (by omega) (fun ht5 => ?_) (fun hf5 => ?_)
  · refine qv_iconst C d_R_mayEnd_12 ?_
    refine qv_istore_n C d_R_mayEnd_13 rfl (by decide) (lv' := [(1, .int (qI 0)), (0, .ref rd)]) rfl ?_
    refine qv_aload_n C 1 d_R_mayEnd_14 rfl rfl ?_
    refine qv_get C in_R 0 rfl rfl 4 (by decide) wf_R_47 rfl rfl d_R_mayEnd_15 ?_
    refine qv_if_ne C d_R_mayEnd_18 (tgt := 42) (by decide) (by omega) (fun ht18 => ?_) (fun hf18 => ?_)
    · refine qv_iconst C d_R_mayEnd_42 ?_
      refine qv_istore_n C d_R_mayEnd_43 rfl (by decide) (lv' := [(2, .int (qI 0)), (1, .int (qI 0)), (0, .ref rd)]) rfl ?_
      refine qv_iload_n C 1 d_R_mayEnd_44 rfl rfl ?_
      refine qv_if_ne C d_R_mayEnd_45 (tgt := 52) (by decide) (by omega) (fun ht45 => ?_) (fun hf45 => ?_)
      · exfalso; omega
      · refine qv_iload_n C 0 d_R_mayEnd_48 rfl rfl ?_
        refine qv_if_eq C d_R_mayEnd_49 (tgt := 56) (by decide) (by omega) (fun ht49 => ?_) (fun hf49 => ?_)
        · refine qv_iconst C d_R_mayEnd_56 ?_
          refine qv_zret C (by omega) hrt hlk d_R_mayEnd_57 ?_
          exact ⟨rfl, 0, rfl, by omega⟩
        · exfalso; omega
    · refine qv_aload_n C 1 d_R_mayEnd_21 rfl rfl ?_
      refine qv_get C in_R 0 rfl rfl 3 (by decide) wf_R_37 rfl rfl d_R_mayEnd_22 ?_
      refine qv_getN C in_P 1 rfl rfl 3 (by decide) wf_R_41 rfl rfl d_R_mayEnd_25 ?_
      refine qv_if_le C d_R_mayEnd_28 (tgt := 42) (by decide) (by omega) (fun ht28 => ?_) (fun hf28 => ?_)
      · refine qv_iconst C d_R_mayEnd_42 ?_
        refine qv_istore_n C d_R_mayEnd_43 rfl (by decide) (lv' := [(2, .int (qI 0)), (1, .int (qI 0)), (0, .ref rd)]) rfl ?_
        refine qv_iload_n C 1 d_R_mayEnd_44 rfl rfl ?_
        refine qv_if_ne C d_R_mayEnd_45 (tgt := 52) (by decide) (by omega) (fun ht45 => ?_) (fun hf45 => ?_)
        · exfalso; omega
        · refine qv_iload_n C 0 d_R_mayEnd_48 rfl rfl ?_
          refine qv_if_eq C d_R_mayEnd_49 (tgt := 56) (by decide) (by omega) (fun ht49 => ?_) (fun hf49 => ?_)
          · refine qv_iconst C d_R_mayEnd_56 ?_
            refine qv_zret C (by omega) hrt hlk d_R_mayEnd_57 ?_
            exact ⟨rfl, 0, rfl, by omega⟩
          · exfalso; omega
      · refine qv_aload_n C 1 d_R_mayEnd_31 rfl rfl ?_
        refine qv_get C in_R 0 rfl rfl 8 (by decide) wf_R_50 rfl rfl d_R_mayEnd_32 ?_
        refine qv_if_ne C d_R_mayEnd_35 (tgt := 42) (by decide) (by omega) (fun ht35 => ?_) (fun hf35 => ?_)
        · refine qv_iconst C d_R_mayEnd_42 ?_
          refine qv_istore_n C d_R_mayEnd_43 rfl (by decide) (lv' := [(2, .int (qI 0)), (1, .int (qI 0)), (0, .ref rd)]) rfl ?_
          refine qv_iload_n C 1 d_R_mayEnd_44 rfl rfl ?_
          refine qv_if_ne C d_R_mayEnd_45 (tgt := 52) (by decide) (by omega) (fun ht45 => ?_) (fun hf45 => ?_)
          · exfalso; omega
          · refine qv_iload_n C 0 d_R_mayEnd_48 rfl rfl ?_
            refine qv_if_eq C d_R_mayEnd_49 (tgt := 56) (by decide) (by omega) (fun ht49 => ?_) (fun hf49 => ?_)
            · refine qv_iconst C d_R_mayEnd_56 ?_
              refine qv_zret C (by omega) hrt hlk d_R_mayEnd_57 ?_
              exact ⟨rfl, 0, rfl, by omega⟩
            · exfalso; omega
        · refine qv_iconst C d_R_mayEnd_38 ?_
          refine qv_goto C d_R_mayEnd_39 (by decide) (tgt := 43) ?_
          refine qv_istore_n C d_R_mayEnd_43 rfl (by decide) (lv' := [(2, .int (qI 1)), (1, .int (qI 0)), (0, .ref rd)]) rfl ?_
          refine qv_iload_n C 1 d_R_mayEnd_44 rfl rfl ?_
          refine qv_if_ne C d_R_mayEnd_45 (tgt := 52) (by decide) (by omega) (fun ht45 => ?_) (fun hf45 => ?_)
          · exfalso; omega
          · refine qv_iload_n C 0 d_R_mayEnd_48 rfl rfl ?_
            refine qv_if_eq C d_R_mayEnd_49 (tgt := 56) (by decide) (by omega) (fun ht49 => ?_) (fun hf49 => ?_)
            · exfalso; omega
            · refine qv_iconst C d_R_mayEnd_52 ?_
              refine qv_goto C d_R_mayEnd_53 (by decide) (tgt := 57) ?_
              refine qv_zret C (by omega) hrt hlk d_R_mayEnd_57 ?_
              exact ⟨rfl, 1, rfl, by omega⟩
  · refine qv_iconst C d_R_mayEnd_8 ?_
    refine qv_goto C d_R_mayEnd_9 (by decide) (tgt := 13) ?_
    refine qv_istore_n C d_R_mayEnd_13 rfl (by decide) (lv' := [(1, .int (qI 1)), (0, .ref rd)]) rfl ?_
    refine qv_aload_n C 1 d_R_mayEnd_14 rfl rfl ?_
    refine qv_get C in_R 0 rfl rfl 4 (by decide) wf_R_47 rfl rfl d_R_mayEnd_15 ?_
    refine qv_if_ne C d_R_mayEnd_18 (tgt := 42) (by decide) (by omega) (fun ht18 => ?_) (fun hf18 => ?_)
    · refine qv_iconst C d_R_mayEnd_42 ?_
      refine qv_istore_n C d_R_mayEnd_43 rfl (by decide) (lv' := [(2, .int (qI 0)), (1, .int (qI 1)), (0, .ref rd)]) rfl ?_
      refine qv_iload_n C 1 d_R_mayEnd_44 rfl rfl ?_
      refine qv_if_ne C d_R_mayEnd_45 (tgt := 52) (by decide) (by omega) (fun ht45 => ?_) (fun hf45 => ?_)
      · refine qv_iconst C d_R_mayEnd_52 ?_
        refine qv_goto C d_R_mayEnd_53 (by decide) (tgt := 57) ?_
        refine qv_zret C (by omega) hrt hlk d_R_mayEnd_57 ?_
        exact ⟨rfl, 1, rfl, by omega⟩
      · exfalso; omega
    · refine qv_aload_n C 1 d_R_mayEnd_21 rfl rfl ?_
      refine qv_get C in_R 0 rfl rfl 3 (by decide) wf_R_37 rfl rfl d_R_mayEnd_22 ?_
      refine qv_getN C in_P 1 rfl rfl 3 (by decide) wf_R_41 rfl rfl d_R_mayEnd_25 ?_
      refine qv_if_le C d_R_mayEnd_28 (tgt := 42) (by decide) (by omega) (fun ht28 => ?_) (fun hf28 => ?_)
      · refine qv_iconst C d_R_mayEnd_42 ?_
        refine qv_istore_n C d_R_mayEnd_43 rfl (by decide) (lv' := [(2, .int (qI 0)), (1, .int (qI 1)), (0, .ref rd)]) rfl ?_
        refine qv_iload_n C 1 d_R_mayEnd_44 rfl rfl ?_
        refine qv_if_ne C d_R_mayEnd_45 (tgt := 52) (by decide) (by omega) (fun ht45 => ?_) (fun hf45 => ?_)
        · refine qv_iconst C d_R_mayEnd_52 ?_
          refine qv_goto C d_R_mayEnd_53 (by decide) (tgt := 57) ?_
          refine qv_zret C (by omega) hrt hlk d_R_mayEnd_57 ?_
          exact ⟨rfl, 1, rfl, by omega⟩
        · exfalso; omega
      · refine qv_aload_n C 1 d_R_mayEnd_31 rfl rfl ?_
        refine qv_get C in_R 0 rfl rfl 8 (by decide) wf_R_50 rfl rfl d_R_mayEnd_32 ?_
        refine qv_if_ne C d_R_mayEnd_35 (tgt := 42) (by decide) (by omega) (fun ht35 => ?_) (fun hf35 => ?_)
        · refine qv_iconst C d_R_mayEnd_42 ?_
          refine qv_istore_n C d_R_mayEnd_43 rfl (by decide) (lv' := [(2, .int (qI 0)), (1, .int (qI 1)), (0, .ref rd)]) rfl ?_
          refine qv_iload_n C 1 d_R_mayEnd_44 rfl rfl ?_
          refine qv_if_ne C d_R_mayEnd_45 (tgt := 52) (by decide) (by omega) (fun ht45 => ?_) (fun hf45 => ?_)
          · refine qv_iconst C d_R_mayEnd_52 ?_
            refine qv_goto C d_R_mayEnd_53 (by decide) (tgt := 57) ?_
            refine qv_zret C (by omega) hrt hlk d_R_mayEnd_57 ?_
            exact ⟨rfl, 1, rfl, by omega⟩
          · exfalso; omega
        · refine qv_iconst C d_R_mayEnd_38 ?_
          refine qv_goto C d_R_mayEnd_39 (by decide) (tgt := 43) ?_
          refine qv_istore_n C d_R_mayEnd_43 rfl (by decide) (lv' := [(2, .int (qI 1)), (1, .int (qI 1)), (0, .ref rd)]) rfl ?_
          refine qv_iload_n C 1 d_R_mayEnd_44 rfl rfl ?_
          refine qv_if_ne C d_R_mayEnd_45 (tgt := 52) (by decide) (by omega) (fun ht45 => ?_) (fun hf45 => ?_)
          · refine qv_iconst C d_R_mayEnd_52 ?_
            refine qv_goto C d_R_mayEnd_53 (by decide) (tgt := 57) ?_
            refine qv_zret C (by omega) hrt hlk d_R_mayEnd_57 ?_
            exact ⟨rfl, 1, rfl, by omega⟩
          · exfalso; omega
set_option maxHeartbeats 4000000 in
set_option maxRecDepth 100000 in
theorem c_R_faultOfLabels (l : Launch) (G : qG) {rd rl rn ra : Nat} {p pk pr pt pd pb ph pe pg : Nat} {nx lt kd ct lb n lc : Int} {k t nl na pl : Int → Int} (h6 : 0 ≤ n ∧ n ≤ 24) (h10 : ∀ i, 0 ≤ k i ∧ k i ≤ 3) (h12 : ∀ i, 0 ≤ nl i ∧ nl i ≤ 25) (h13 : ∀ i, 0 ≤ na i ∧ na i ≤ 119) (h14 : ∀ i, -1 ≤ pl i ∧ pl i ≤ n) (ht : ∀ j, -1 ≤ t j ∧ t j ≤ 24) (htn : ∀ i, 0 ≤ i → i < n → t i = -1) : qM l G y_R_faultOfLabels b_R_faultOfLabels 2 (some .int) ({ frames := 0, cells := 0, slots := 0, locals := 0 }) [.ref rd] [(rd, .inr (3, [.ref rl, .ref rn, .ref ra, .ref p, .int (qI nx), .int (qI lt), .int (qI kd), .int (qI ct), .int (qI lb)])), (rl, .inl (G.2.1, 26, .inl (qA pl))), (rn, .inl (G.2.1, 24, .inl (qA nl))), (ra, .inl (G.2.1, 24, .inl (qA na))), (p, .inr (2, [.ref pk, .ref pr, .ref pt, .int (qI n), .ref pd, .ref pb, .ref ph, .ref pe, .ref pg, .int (qI lc)])), (pk, .inl (G.2.1, 24, .inl (qA k))), (pt, .inl (G.2.1, 24, .inl (qA t)))] (fun v' ws' => ∃ t' : Int → Int, ws' = [(rd, .inr (3, [.ref rl, .ref rn, .ref ra, .ref p, .int (qI nx), .int (qI lt), .int (qI kd), .int (qI ct), .int (qI lb)])), (rl, .inl (G.2.1, 26, .inl (qA pl))), (rn, .inl (G.2.1, 24, .inl (qA nl))), (ra, .inl (G.2.1, 24, .inl (qA na))), (p, .inr (2, [.ref pk, .ref pr, .ref pt, .int (qI n), .ref pd, .ref pb, .ref ph, .ref pe, .ref pg, .int (qI lc)])), (pk, .inl (G.2.1, 24, .inl (qA k))), (pt, .inl (G.2.1, 24, .inl (qA t')))] ∧ v' = some (.int (qI (m_fl n k nl na pl 24 0))) ∧ (∀ j, -1 ≤ t' j ∧ t' j ≤ 24) ∧ ((m_fl n k nl na pl 24 0 = -1 ∧ ∀ j, 0 ≤ j → j < n → t' j = m_tg k nl pl j) ∨ 0 ≤ m_fl n k nl na pl 24 0)) := by
  refine qM.of (by decide) (Nat.le_of_ble_eq_true rfl) (fun xp xe xs xm xb xme xc A C hrt hlk hnm => ?_)
  refine qv_eq (lv' := [(0, .ref rd)]) rfl rfl rfl ?_
  refine qv_iconst C d_R_faultOfLabels_0 ?_
  refine qv_istore_n C d_R_faultOfLabels_1 rfl (by decide) (lv' := [(1, .int (qI 0)), (0, .ref rd)]) rfl ?_
  have L2 : ∀ (N2 : Nat) (i : Int) (f : Nat) (t' : Int → Int), (n - i).toNat < N2 → (0 ≤ i ∧ i ≤ n) → (m_fl n k nl na pl 24 0 = m_fl n k nl na pl f i) → (n - i ≤ (f : Int)) → ((∀ j, -1 ≤ t' j ∧ t' j ≤ 24)) → (∀ j, 0 ≤ j → j < n → t' j = (if j < i then m_tg k nl pl j else -1)) → qV xp l xe ({ frames := 0, cells := 0, slots := 0, locals := 0 }) xs xm [.ref rd].toArray xb xme xc G A xs.heap 2 (MQ xb (qQ G A (fun v' ws' => ∃ t' : Int → Int, ws' = [(rd, .inr (3, [.ref rl, .ref rn, .ref ra, .ref p, .int (qI nx), .int (qI lt), .int (qI kd), .int (qI ct), .int (qI lb)])), (rl, .inl (G.2.1, 26, .inl (qA pl))), (rn, .inl (G.2.1, 24, .inl (qA nl))), (ra, .inl (G.2.1, 24, .inl (qA na))), (p, .inr (2, [.ref pk, .ref pr, .ref pt, .int (qI n), .ref pd, .ref pb, .ref ph, .ref pe, .ref pg, .int (qI lc)])), (pk, .inl (G.2.1, 24, .inl (qA k))), (pt, .inl (G.2.1, 24, .inl (qA t')))] ∧ v' = some (.int (qI (m_fl n k nl na pl 24 0))) ∧ (∀ j, -1 ≤ t' j ∧ t' j ≤ 24) ∧ ((m_fl n k nl na pl 24 0 = -1 ∧ ∀ j, 0 ≤ j → j < n → t' j = m_tg k nl pl j) ∨ 0 ≤ m_fl n k nl na pl 24 0))) [.ref rd].toArray xs 0 0 A) 0 0 [(rd, .inr (3, [.ref rl, .ref rn, .ref ra, .ref p, .int (qI nx), .int (qI lt), .int (qI kd), .int (qI ct), .int (qI lb)])), (rl, .inl (G.2.1, 26, .inl (qA pl))), (rn, .inl (G.2.1, 24, .inl (qA nl))), (ra, .inl (G.2.1, 24, .inl (qA na))), (p, .inr (2, [.ref pk, .ref pr, .ref pt, .int (qI n), .ref pd, .ref pb, .ref ph, .ref pe, .ref pg, .int (qI lc)])), (pk, .inl (G.2.1, 24, .inl (qA k))), (pt, .inl (G.2.1, 24, .inl (qA t')))] [(1, .int (qI i)), (0, .ref rd)] 2 [] := by
    intro N2
    induction N2 with
    | zero => intro i f t' hmu; exact absurd hmu (Nat.not_lt_zero _)
    | succ N2 ih2 =>
      intro i f t' hmu2 hi hf hg ht' hd
      refine qv_iload_n C 0 d_R_faultOfLabels_2 rfl rfl ?_
      refine qv_aload_n C 1 d_R_faultOfLabels_3 rfl rfl ?_
      refine qv_get C in_R 0 rfl rfl 3 (by decide) wf_R_37 rfl rfl d_R_faultOfLabels_4 ?_
      refine qv_getN C in_P 4 rfl rfl 3 (by decide) wf_R_41 rfl rfl d_R_faultOfLabels_7 ?_
      refine qv_icmp_ge C d_R_faultOfLabels_10 (tgt := 85) (by decide) (by omega) (by omega) (fun ht10 => ?_) (fun hf10 => ?_)
      · refine qv_iconst C d_R_faultOfLabels_85 ?_
        refine qv_iret C hrt hlk d_R_faultOfLabels_86 ?_
        have e : m_fl n k nl na pl 24 0 = -1 := hf.trans (m_fl_end (by omega))
        refine ⟨t', rfl, by rw [e], ht', Or.inl ⟨e, fun j a b => by rw [hd j a b, if_pos (by omega)]⟩⟩
      · obtain ⟨f', rfl⟩ : ∃ f', f = f' + 1 := ⟨f - 1, by omega⟩
        refine qv_aload_n C 1 d_R_faultOfLabels_13 rfl rfl ?_
        refine qv_get C in_R 0 rfl rfl 3 (by decide) wf_R_37 rfl rfl d_R_faultOfLabels_14 ?_
        refine qv_getN C in_P 4 rfl rfl 0 (by decide) wf_R_95 rfl rfl d_R_faultOfLabels_17 ?_
        refine qv_iload_n C 0 d_R_faultOfLabels_20 rfl rfl ?_
        refine qv_iald C 5 rfl (by omega) d_R_faultOfLabels_21 ?_
        have hq0 := h10 i
        refine qv_iconst C d_R_faultOfLabels_22 ?_
        refine qv_icmp_eq C d_R_faultOfLabels_23 (tgt := 39) (by decide) (by omega) (by omega) (fun ht23 => ?_) (fun hf23 => ?_)
        · refine qv_aload_n C 1 d_R_faultOfLabels_39 rfl rfl ?_
          refine qv_get C in_R 0 rfl rfl 3 (by decide) wf_R_37 rfl rfl d_R_faultOfLabels_40 ?_
          refine qv_getN C in_P 4 rfl rfl 2 (by decide) wf_R_98 rfl rfl d_R_faultOfLabels_43 ?_
          refine qv_iload_n C 0 d_R_faultOfLabels_46 rfl rfl ?_
          refine qv_aload_n C 1 d_R_faultOfLabels_47 rfl rfl ?_
          refine qv_get C in_R 0 rfl rfl 0 (by decide) wf_R_11 rfl rfl d_R_faultOfLabels_48 ?_
          refine qv_aload_n C 1 d_R_faultOfLabels_51 rfl rfl ?_
          refine qv_get C in_R 0 rfl rfl 1 (by decide) wf_R_15 rfl rfl d_R_faultOfLabels_52 ?_
          refine qv_iload_n C 0 d_R_faultOfLabels_55 rfl rfl ?_
          refine qv_iald C 2 rfl (by omega) d_R_faultOfLabels_56 ?_
          have hq1 := h12 i
          refine qv_iald C 1 rfl (by omega) d_R_faultOfLabels_57 ?_
          have hq2 := h14 (nl i)
          refine qv_iast C 6 rfl (by omega) d_R_faultOfLabels_58 (ws' := [(rd, .inr (3, [.ref rl, .ref rn, .ref ra, .ref p, .int (qI nx), .int (qI lt), .int (qI kd), .int (qI ct), .int (qI lb)])), (rl, .inl (G.2.1, 26, .inl (qA pl))), (rn, .inl (G.2.1, 24, .inl (qA nl))), (ra, .inl (G.2.1, 24, .inl (qA na))), (p, .inr (2, [.ref pk, .ref pr, .ref pt, .int (qI n), .ref pd, .ref pb, .ref ph, .ref pe, .ref pg, .int (qI lc)])), (pk, .inl (G.2.1, 24, .inl (qA k))), (pt, .inl (G.2.1, 24, .inl (qA (qU t' i (pl (nl i))))))]) rfl ?_
          have hpn := h14 (nl i)
          have hnt : ∀ j, -1 ≤ qU t' i (pl (nl i)) j ∧ qU t' i (pl (nl i)) j ≤ 24 := qU_rg ht' (by omega)
          have hnd : ∀ j, 0 ≤ j → j < n → qU t' i (pl (nl i)) j = (if j < i + 1 then m_tg k nl pl j else -1) := by
            intro j a b
            by_cases hj : j = i
            · subst hj
              rw [qU_s, if_pos (by omega)]
              unfold m_tg
              rw [if_pos (by omega)]
            · rw [qU_n hj, hd j a b]
              by_cases h2 : j < i
              · rw [if_pos h2, if_pos (by omega)]
              · rw [if_neg h2, if_neg (by omega)]
          refine qv_aload_n C 1 d_R_faultOfLabels_59 rfl rfl ?_
          refine qv_get C in_R 0 rfl rfl 3 (by decide) wf_R_37 rfl rfl d_R_faultOfLabels_60 ?_
          refine qv_getN C in_P 4 rfl rfl 2 (by decide) wf_R_98 rfl rfl d_R_faultOfLabels_63 ?_
          refine qv_iload_n C 0 d_R_faultOfLabels_66 rfl rfl ?_
          refine qv_iald C 6 rfl (by omega) d_R_faultOfLabels_67 ?_
          refine qv_eq (st' := [.int (qI (pl (nl i)))]) rfl rfl (by rw [qU_s]) ?_
          refine qv_iconst C d_R_faultOfLabels_68 ?_
          refine qv_icmp_ne C d_R_faultOfLabels_69 (tgt := 79) (by decide) (by omega) (by omega) (fun ht69 => ?_) (fun hf69 => ?_)
          · refine qv_iinc C 0 d_R_faultOfLabels_79 rfl (by decide) (lv' := [(1, .int (qI (i + 1))), (0, .ref rd)]) rfl ?_
            refine qv_goto C d_R_faultOfLabels_82 (by decide) (tgt := 2) ?_
            exact ih2 (i + 1) f' (qU t' i (pl (nl i))) (by omega) (by omega) (hf.trans (m_fl_go (by omega) (by omega))) (by omega) (hnt) (hnd)
          · refine qv_aload_n C 1 d_R_faultOfLabels_72 rfl rfl ?_
            refine qv_get C in_R 0 rfl rfl 2 (by decide) wf_R_18 rfl rfl d_R_faultOfLabels_73 ?_
            refine qv_iload_n C 0 d_R_faultOfLabels_76 rfl rfl ?_
            refine qv_iald C 3 rfl (by omega) d_R_faultOfLabels_77 ?_
            have hq3 := h13 i
            refine qv_iret C hrt hlk d_R_faultOfLabels_78 ?_
            refine ⟨qU t' i (pl (nl i)), rfl, ?_, hnt, Or.inr ?_⟩
            · rw [hf, m_fl_no (by omega) (by omega)]
            · rw [hf, m_fl_no (by omega) (by omega)]; have := h13 i; omega
        · refine qv_aload_n C 1 d_R_faultOfLabels_26 rfl rfl ?_
          refine qv_get C in_R 0 rfl rfl 3 (by decide) wf_R_37 rfl rfl d_R_faultOfLabels_27 ?_
          refine qv_getN C in_P 4 rfl rfl 0 (by decide) wf_R_95 rfl rfl d_R_faultOfLabels_30 ?_
          refine qv_iload_n C 0 d_R_faultOfLabels_33 rfl rfl ?_
          refine qv_iald C 5 rfl (by omega) d_R_faultOfLabels_34 ?_
          have hq4 := h10 i
          refine qv_iconst C d_R_faultOfLabels_35 ?_
          refine qv_icmp_ne C d_R_faultOfLabels_36 (tgt := 79) (by decide) (by omega) (by omega) (fun ht36 => ?_) (fun hf36 => ?_)
          · have hnd2 : ∀ j, 0 ≤ j → j < n → t' j = (if j < i + 1 then m_tg k nl pl j else -1) := by
              intro j a b
              rw [hd j a b]
              by_cases hj : j = i
              · subst hj
                rw [if_neg (by omega), if_pos (by omega)]
                unfold m_tg
                rw [if_neg (by omega)]
              · by_cases h2 : j < i
                · rw [if_pos h2, if_pos (by omega)]
                · rw [if_neg h2, if_neg (by omega)]
            refine qv_iinc C 0 d_R_faultOfLabels_79 rfl (by decide) (lv' := [(1, .int (qI (i + 1))), (0, .ref rd)]) rfl ?_
            refine qv_goto C d_R_faultOfLabels_82 (by decide) (tgt := 2) ?_
            exact ih2 (i + 1) f' t' (by omega) (by omega) (hf.trans (m_fl_go (by omega) (by omega))) (by omega) (ht') (hnd2)
          · refine qv_aload_n C 1 d_R_faultOfLabels_39 rfl rfl ?_
            refine qv_get C in_R 0 rfl rfl 3 (by decide) wf_R_37 rfl rfl d_R_faultOfLabels_40 ?_
            refine qv_getN C in_P 4 rfl rfl 2 (by decide) wf_R_98 rfl rfl d_R_faultOfLabels_43 ?_
            refine qv_iload_n C 0 d_R_faultOfLabels_46 rfl rfl ?_
            refine qv_aload_n C 1 d_R_faultOfLabels_47 rfl rfl ?_
            refine qv_get C in_R 0 rfl rfl 0 (by decide) wf_R_11 rfl rfl d_R_faultOfLabels_48 ?_
            refine qv_aload_n C 1 d_R_faultOfLabels_51 rfl rfl ?_
            refine qv_get C in_R 0 rfl rfl 1 (by decide) wf_R_15 rfl rfl d_R_faultOfLabels_52 ?_
            refine qv_iload_n C 0 d_R_faultOfLabels_55 rfl rfl ?_
            refine qv_iald C 2 rfl (by omega) d_R_faultOfLabels_56 ?_
            have hq5 := h12 i
            refine qv_iald C 1 rfl (by omega) d_R_faultOfLabels_57 ?_
            have hq6 := h14 (nl i)
            refine qv_iast C 6 rfl (by omega) d_R_faultOfLabels_58 (ws' := [(rd, .inr (3, [.ref rl, .ref rn, .ref ra, .ref p, .int (qI nx), .int (qI lt), .int (qI kd), .int (qI ct), .int (qI lb)])), (rl, .inl (G.2.1, 26, .inl (qA pl))), (rn, .inl (G.2.1, 24, .inl (qA nl))), (ra, .inl (G.2.1, 24, .inl (qA na))), (p, .inr (2, [.ref pk, .ref pr, .ref pt, .int (qI n), .ref pd, .ref pb, .ref ph, .ref pe, .ref pg, .int (qI lc)])), (pk, .inl (G.2.1, 24, .inl (qA k))), (pt, .inl (G.2.1, 24, .inl (qA (qU t' i (pl (nl i))))))]) rfl ?_
            have hpn := h14 (nl i)
            have hnt : ∀ j, -1 ≤ qU t' i (pl (nl i)) j ∧ qU t' i (pl (nl i)) j ≤ 24 := qU_rg ht' (by omega)
            have hnd : ∀ j, 0 ≤ j → j < n → qU t' i (pl (nl i)) j = (if j < i + 1 then m_tg k nl pl j else -1) := by
              intro j a b
              by_cases hj : j = i
              · subst hj
                rw [qU_s, if_pos (by omega)]
                unfold m_tg
                rw [if_pos (by omega)]
              · rw [qU_n hj, hd j a b]
                by_cases h2 : j < i
                · rw [if_pos h2, if_pos (by omega)]
                · rw [if_neg h2, if_neg (by omega)]
            refine qv_aload_n C 1 d_R_faultOfLabels_59 rfl rfl ?_
            refine qv_get C in_R 0 rfl rfl 3 (by decide) wf_R_37 rfl rfl d_R_faultOfLabels_60 ?_
            refine qv_getN C in_P 4 rfl rfl 2 (by decide) wf_R_98 rfl rfl d_R_faultOfLabels_63 ?_
            refine qv_iload_n C 0 d_R_faultOfLabels_66 rfl rfl ?_
            refine qv_iald C 6 rfl (by omega) d_R_faultOfLabels_67 ?_
            refine qv_eq (st' := [.int (qI (pl (nl i)))]) rfl rfl (by rw [qU_s]) ?_
            refine qv_iconst C d_R_faultOfLabels_68 ?_
            refine qv_icmp_ne C d_R_faultOfLabels_69 (tgt := 79) (by decide) (by omega) (by omega) (fun ht69 => ?_) (fun hf69 => ?_)
            · refine qv_iinc C 0 d_R_faultOfLabels_79 rfl (by decide) (lv' := [(1, .int (qI (i + 1))), (0, .ref rd)]) rfl ?_
              refine qv_goto C d_R_faultOfLabels_82 (by decide) (tgt := 2) ?_
              exact ih2 (i + 1) f' (qU t' i (pl (nl i))) (by omega) (by omega) (hf.trans (m_fl_go (by omega) (by omega))) (by omega) (hnt) (hnd)
            · refine qv_aload_n C 1 d_R_faultOfLabels_72 rfl rfl ?_
              refine qv_get C in_R 0 rfl rfl 2 (by decide) wf_R_18 rfl rfl d_R_faultOfLabels_73 ?_
              refine qv_iload_n C 0 d_R_faultOfLabels_76 rfl rfl ?_
              refine qv_iald C 3 rfl (by omega) d_R_faultOfLabels_77 ?_
              have hq7 := h13 i
              refine qv_iret C hrt hlk d_R_faultOfLabels_78 ?_
              refine ⟨qU t' i (pl (nl i)), rfl, ?_, hnt, Or.inr ?_⟩
              · rw [hf, m_fl_no (by omega) (by omega)]
              · rw [hf, m_fl_no (by omega) (by omega)]; have := h13 i; omega
  exact L2 _ 0 24 t (Nat.lt_succ_self _) (by omega) (rfl) (by omega) (ht) (fun j a b => by rw [if_neg (by omega)]; exact htn j a b)
set_option maxHeartbeats 4000000 in
set_option maxRecDepth 100000 in
theorem c_R_faultOf (l : Launch) (G : qG) {rd rl rn ra : Nat} {p pk pr pt pd pb ph pe pg tx : Nat} {vi : Value} {nx lt kd ct lb n lc ln : Int} {k r t nl na pl x : Int → Int} (hgb : m_gb lt kd ct lb n k r nl na pl t) (hln : 0 ≤ ln ∧ ln ≤ 120) (hx : ∀ i, 0 ≤ x i ∧ x i ≤ 126) : qM l G y_R_faultOf b_R_faultOf 5 (some .int) ({ frames := 4, cells := 0, slots := 0, locals := 86 }) [.ref rd, .ref tx, .int (qI ln), .ref p] [(rd, .inr (3, [.ref rl, .ref rn, .ref ra, vi, .int (qI nx), .int (qI lt), .int (qI kd), .int (qI ct), .int (qI lb)])), (rl, .inl (G.2.1, 26, .inl (qA pl))), (rn, .inl (G.2.1, 24, .inl (qA nl))), (ra, .inl (G.2.1, 24, .inl (qA na))), (p, .inr (2, [.ref pk, .ref pr, .ref pt, .int (qI n), .ref pd, .ref pb, .ref ph, .ref pe, .ref pg, .int (qI lc)])), (pk, .inl (G.2.1, 24, .inl (qA k))), (pr, .inl (G.2.1, 24, .inl (qA r))), (pt, .inl (G.2.1, 24, .inl (qA t))), (tx, .inl (G.2.2.1, 120, .inl (qA x)))] (fun v' ws' => ∃ (fl nx' lt' kd' ct' lb' n' : Int) (k' r' t' nl' na' pl' : Int → Int), v' = some (.int (qI fl)) ∧ ws' = [(rd, .inr (3, [.ref rl, .ref rn, .ref ra, .ref p, .int (qI nx'), .int (qI lt'), .int (qI kd'), .int (qI ct'), .int (qI lb')])), (rl, .inl (G.2.1, 26, .inl (qA pl'))), (rn, .inl (G.2.1, 24, .inl (qA nl'))), (ra, .inl (G.2.1, 24, .inl (qA na'))), (p, .inr (2, [.ref pk, .ref pr, .ref pt, .int (qI n'), .ref pd, .ref pb, .ref ph, .ref pe, .ref pg, .int (qI lc)])), (pk, .inl (G.2.1, 24, .inl (qA k'))), (pr, .inl (G.2.1, 24, .inl (qA r'))), (pt, .inl (G.2.1, 24, .inl (qA t'))), (tx, .inl (G.2.2.1, 120, .inl (qA x)))] ∧ m_gb lt' kd' ct' lb' n' k' r' nl' na' pl' t' ∧ ((∃ i, m_rd x ln 120 0 (m_x0 lt kd ct k r nl na (m_up pl (fun _ => -1) 26)) = .inl i ∧ fl = i ∧ 0 ≤ i ∧ i < ln) ∨ (m_rd x ln 120 0 (m_x0 lt kd ct k r nl na (m_up pl (fun _ => -1) 26)) = .inr (nx', lt', kd', ct', lb', n', k', r', nl', na', pl') ∧ m_xw (nx', lt', kd', ct', lb', n', k', r', nl', na', pl') ∧ ¬ m_me (nx', lt', kd', ct', lb', n', k', r', nl', na', pl') ∧ fl = ln) ∨ (m_rd x ln 120 0 (m_x0 lt kd ct k r nl na (m_up pl (fun _ => -1) 26)) = .inr (nx', lt', kd', ct', lb', n', k', r', nl', na', pl') ∧ m_xw (nx', lt', kd', ct', lb', n', k', r', nl', na', pl') ∧ m_me (nx', lt', kd', ct', lb', n', k', r', nl', na', pl') ∧ fl = m_fl n' k' nl' na' pl' 24 0 ∧ ((fl = -1 ∧ ∀ j, 0 ≤ j → j < n' → t' j = m_tg k' nl' pl' j) ∨ (0 ≤ fl ∧ fl ≤ 119))))) := by
  refine qM.of (by decide) (Nat.le_of_ble_eq_true rfl) (fun xp xe xs xm xb xme xc A C hrt hlk hnm => ?_)
  refine qv_eq (lv' := [(0, .ref rd), (1, .ref tx), (2, .int (qI ln)), (3, .ref p)]) rfl rfl rfl ?_
  refine qv_aload_n C 0 d_R_faultOf_0 rfl rfl ?_
  refine qv_aload_n C 3 d_R_faultOf_1 rfl rfl ?_
  refine qv_cV (As := [.ref p]) (rest := []) (wc := [(rd, .inr (3, [.ref rl, .ref rn, .ref ra, vi, .int (qI nx), .int (qI lt), .int (qI kd), .int (qI ct), .int (qI lb)])), (rl, .inl (G.2.1, 26, .inl (qA pl))), (p, .inr (2, [.ref pk, .ref pr, .ref pt, .int (qI n), .ref pd, .ref pb, .ref ph, .ref pe, .ref pg, .int (qI lc)]))]) (wr := [(rn, .inl (G.2.1, 24, .inl (qA nl))), (ra, .inl (G.2.1, 24, .inl (qA na))), (pk, .inl (G.2.1, 24, .inl (qA k))), (pr, .inl (G.2.1, 24, .inl (qA r))), (pt, .inl (G.2.1, 24, .inl (qA t))), (tx, .inl (G.2.2.1, 120, .inl (qA x)))]) C k_R_clear (c_R_clear l G) wm_R_21 wi_R_clear ws_R_clear 0 rfl rfl (by decide) d_R_faultOf_2 rfl rfl (Nat.le_of_ble_eq_true rfl) (by decide) [0, 1, 4] [2, 3, 5, 6, 7, 8] rfl (by decide) rfl (by decide) (by decide) (fun v ws' hpost => ?_)
  obtain ⟨rfl, rfl⟩ := hpost
  refine qv_eq (ws' := [(rn, .inl (G.2.1, 24, .inl (qA nl))), (ra, .inl (G.2.1, 24, .inl (qA na))), (pk, .inl (G.2.1, 24, .inl (qA k))), (pr, .inl (G.2.1, 24, .inl (qA r))), (pt, .inl (G.2.1, 24, .inl (qA t))), (tx, .inl (G.2.2.1, 120, .inl (qA x))), (rd, .inr (3, [.ref rl, .ref rn, .ref ra, .ref p, .int (qI 0), .int (qI lt), .int (qI kd), .int (qI ct), .int (qI 0)])), (rl, .inl (G.2.1, 26, .inl (qA (m_up pl (fun _ => -1) 26)))), (p, .inr (2, [.ref pk, .ref pr, .ref pt, .int (qI 0), .ref pd, .ref pb, .ref ph, .ref pe, .ref pg, .int (qI lc)]))]) (st' := []) rfl rfl rfl ?_
  refine qv_iconst C d_R_faultOf_5 ?_
  refine qv_istore C d_R_faultOf_6 (by decide) (lv' := [(4, .int (qI 0)), (0, .ref rd), (1, .ref tx), (2, .int (qI ln)), (3, .ref p)]) rfl ?_
  have L8 : ∀ (N8 : Nat) (i : Int) (f : Nat) (nx' : Int) (lt' : Int) (kd' : Int) (ct' : Int) (lb' : Int) (n' : Int) (k' : Int → Int) (r' : Int → Int) (t' : Int → Int) (nl' : Int → Int) (na' : Int → Int) (pl' : Int → Int), (ln - i).toNat < N8 → (0 ≤ i ∧ i ≤ ln) → (m_rd x ln 120 0 (m_x0 lt kd ct k r nl na (m_up pl (fun _ => -1) 26)) = m_rd x ln f i (nx', lt', kd', ct', lb', n', k', r', nl', na', pl')) → (ln - i ≤ (f : Int)) → (m_xw (nx', lt', kd', ct', lb', n', k', r', nl', na', pl')) → (∀ j, -1 ≤ t' j ∧ t' j ≤ 24) → (∀ j, 0 ≤ j → j < n' → t' j = -1) → qV xp l xe ({ frames := 4, cells := 0, slots := 0, locals := 86 }) xs xm [.ref rd, .ref tx, .int (qI ln), .ref p].toArray xb xme xc G A xs.heap 5 (MQ xb (qQ G A (fun v' ws' => ∃ (fl nx' lt' kd' ct' lb' n' : Int) (k' r' t' nl' na' pl' : Int → Int), v' = some (.int (qI fl)) ∧ ws' = [(rd, .inr (3, [.ref rl, .ref rn, .ref ra, .ref p, .int (qI nx'), .int (qI lt'), .int (qI kd'), .int (qI ct'), .int (qI lb')])), (rl, .inl (G.2.1, 26, .inl (qA pl'))), (rn, .inl (G.2.1, 24, .inl (qA nl'))), (ra, .inl (G.2.1, 24, .inl (qA na'))), (p, .inr (2, [.ref pk, .ref pr, .ref pt, .int (qI n'), .ref pd, .ref pb, .ref ph, .ref pe, .ref pg, .int (qI lc)])), (pk, .inl (G.2.1, 24, .inl (qA k'))), (pr, .inl (G.2.1, 24, .inl (qA r'))), (pt, .inl (G.2.1, 24, .inl (qA t'))), (tx, .inl (G.2.2.1, 120, .inl (qA x)))] ∧ m_gb lt' kd' ct' lb' n' k' r' nl' na' pl' t' ∧ ((∃ i, m_rd x ln 120 0 (m_x0 lt kd ct k r nl na (m_up pl (fun _ => -1) 26)) = .inl i ∧ fl = i ∧ 0 ≤ i ∧ i < ln) ∨ (m_rd x ln 120 0 (m_x0 lt kd ct k r nl na (m_up pl (fun _ => -1) 26)) = .inr (nx', lt', kd', ct', lb', n', k', r', nl', na', pl') ∧ m_xw (nx', lt', kd', ct', lb', n', k', r', nl', na', pl') ∧ ¬ m_me (nx', lt', kd', ct', lb', n', k', r', nl', na', pl') ∧ fl = ln) ∨ (m_rd x ln 120 0 (m_x0 lt kd ct k r nl na (m_up pl (fun _ => -1) 26)) = .inr (nx', lt', kd', ct', lb', n', k', r', nl', na', pl') ∧ m_xw (nx', lt', kd', ct', lb', n', k', r', nl', na', pl') ∧ m_me (nx', lt', kd', ct', lb', n', k', r', nl', na', pl') ∧ fl = m_fl n' k' nl' na' pl' 24 0 ∧ ((fl = -1 ∧ ∀ j, 0 ≤ j → j < n' → t' j = m_tg k' nl' pl' j) ∨ (0 ≤ fl ∧ fl ≤ 119)))))) [.ref rd, .ref tx, .int (qI ln), .ref p].toArray xs 0 0 A) 0 0 [(rd, .inr (3, [.ref rl, .ref rn, .ref ra, .ref p, .int (qI nx'), .int (qI lt'), .int (qI kd'), .int (qI ct'), .int (qI lb')])), (rl, .inl (G.2.1, 26, .inl (qA pl'))), (rn, .inl (G.2.1, 24, .inl (qA nl'))), (ra, .inl (G.2.1, 24, .inl (qA na'))), (p, .inr (2, [.ref pk, .ref pr, .ref pt, .int (qI n'), .ref pd, .ref pb, .ref ph, .ref pe, .ref pg, .int (qI lc)])), (pk, .inl (G.2.1, 24, .inl (qA k'))), (pr, .inl (G.2.1, 24, .inl (qA r'))), (pt, .inl (G.2.1, 24, .inl (qA t'))), (tx, .inl (G.2.2.1, 120, .inl (qA x)))] [(4, .int (qI i)), (0, .ref rd), (1, .ref tx), (2, .int (qI ln)), (3, .ref p)] 8 [] := by
    intro N8
    induction N8 with
    | zero => intro i f nx' lt' kd' ct' lb' n' k' r' t' nl' na' pl' hmu; exact absurd hmu (Nat.not_lt_zero _)
    | succ N8 ih8 =>
      intro i f nx' lt' kd' ct' lb' n' k' r' t' nl' na' pl' hmu8 hi hf hg hw ht htn
      refine qv_iload C 0 d_R_faultOf_8 rfl ?_
      refine qv_iload_n C 3 d_R_faultOf_10 rfl rfl ?_
      refine qv_icmp_ge C d_R_faultOf_11 (tgt := 45) (by decide) (by omega) (by omega) (fun ht11 => ?_) (fun hf11 => ?_)
      · have hw0 := hw
        obtain ⟨hw1, hw2, hw3, hw4, hw5, hw6, hw7, hw8, hw9, hw10, hw11, hw12, hw13, hw14, hw15, hw16⟩ := hw
        refine qv_aload_n C 1 d_R_faultOf_45 rfl rfl ?_
        refine qv_cV (As := []) (rest := []) (wc := [(rd, .inr (3, [.ref rl, .ref rn, .ref ra, .ref p, .int (qI nx'), .int (qI lt'), .int (qI kd'), .int (qI ct'), .int (qI lb')])), (p, .inr (2, [.ref pk, .ref pr, .ref pt, .int (qI n'), .ref pd, .ref pb, .ref ph, .ref pe, .ref pg, .int (qI lc)]))]) (wr := [(rl, .inl (G.2.1, 26, .inl (qA pl'))), (rn, .inl (G.2.1, 24, .inl (qA nl'))), (ra, .inl (G.2.1, 24, .inl (qA na'))), (pk, .inl (G.2.1, 24, .inl (qA k'))), (pr, .inl (G.2.1, 24, .inl (qA r'))), (pt, .inl (G.2.1, 24, .inl (qA t'))), (tx, .inl (G.2.2.1, 120, .inl (qA x)))]) C k_R_mayEnd (c_R_mayEnd l G hw1 hw5 hw6) wm_R_29 wi_R_mayEnd ws_R_mayEnd 0 rfl rfl (by decide) d_R_faultOf_46 rfl rfl (Nat.le_of_ble_eq_true rfl) (by decide) [0, 4] [1, 2, 3, 5, 6, 7, 8] rfl (by decide) rfl (by decide) (by decide) (fun v ws' hpost => ?_)
        obtain ⟨rfl, xm, rfl, hxm⟩ := hpost
        refine qv_eq (ws' := [(rl, .inl (G.2.1, 26, .inl (qA pl'))), (rn, .inl (G.2.1, 24, .inl (qA nl'))), (ra, .inl (G.2.1, 24, .inl (qA na'))), (pk, .inl (G.2.1, 24, .inl (qA k'))), (pr, .inl (G.2.1, 24, .inl (qA r'))), (pt, .inl (G.2.1, 24, .inl (qA t'))), (tx, .inl (G.2.2.1, 120, .inl (qA x))), (rd, .inr (3, [.ref rl, .ref rn, .ref ra, .ref p, .int (qI nx'), .int (qI lt'), .int (qI kd'), .int (qI ct'), .int (qI lb')])), (p, .inr (2, [.ref pk, .ref pr, .ref pt, .int (qI n'), .ref pd, .ref pb, .ref ph, .ref pe, .ref pg, .int (qI lc)]))]) (st' := [.int (qI xm)]) rfl rfl rfl ?_
        refine qv_if_eq C d_R_faultOf_49 (tgt := 59) (by decide) (by omega) (fun ht49 => ?_) (fun hf49 => ?_)
        · refine qv_iload_n C 3 d_R_faultOf_59 rfl rfl ?_
          refine qv_ws (ws' := [(rd, .inr (3, [.ref rl, .ref rn, .ref ra, .ref p, .int (qI nx'), .int (qI lt'), .int (qI kd'), .int (qI ct'), .int (qI lb')])), (rl, .inl (G.2.1, 26, .inl (qA pl'))), (rn, .inl (G.2.1, 24, .inl (qA nl'))), (ra, .inl (G.2.1, 24, .inl (qA na'))), (p, .inr (2, [.ref pk, .ref pr, .ref pt, .int (qI n'), .ref pd, .ref pb, .ref ph, .ref pe, .ref pg, .int (qI lc)])), (pk, .inl (G.2.1, 24, .inl (qA k'))), (pr, .inl (G.2.1, 24, .inl (qA r'))), (pt, .inl (G.2.1, 24, .inl (qA t'))), (tx, .inl (G.2.2.1, 120, .inl (qA x)))]) [7, 0, 1, 2, 8, 3, 4, 5, 6] (by decide) rfl ?_
          refine qv_iret C hrt hlk d_R_faultOf_60 ?_
          refine ⟨ln, _, _, _, _, _, _, _, _, _, _, _, _, rfl, rfl, ?_, Or.inr (Or.inl ⟨hf.trans (m_rd_end (by omega)), hw0, fun h => by unfold m_me at h; dsimp only at h; omega, rfl⟩)⟩
          exact ⟨hw2, hw3, hw4, hw5, hw6, hw10, hw11, hw12, hw13, fun j => by have := hw14 j; omega, hw16, ht⟩
        · refine qv_aload_n C 1 d_R_faultOf_52 rfl rfl ?_
          refine qv_cV (As := []) (rest := []) (wc := [(rd, .inr (3, [.ref rl, .ref rn, .ref ra, .ref p, .int (qI nx'), .int (qI lt'), .int (qI kd'), .int (qI ct'), .int (qI lb')])), (rl, .inl (G.2.1, 26, .inl (qA pl'))), (rn, .inl (G.2.1, 24, .inl (qA nl'))), (ra, .inl (G.2.1, 24, .inl (qA na'))), (p, .inr (2, [.ref pk, .ref pr, .ref pt, .int (qI n'), .ref pd, .ref pb, .ref ph, .ref pe, .ref pg, .int (qI lc)])), (pk, .inl (G.2.1, 24, .inl (qA k'))), (pt, .inl (G.2.1, 24, .inl (qA t')))]) (wr := [(pr, .inl (G.2.1, 24, .inl (qA r'))), (tx, .inl (G.2.2.1, 120, .inl (qA x)))]) C k_R_faultOfLabels (c_R_faultOfLabels l G hw6 hw10 hw12 hw13 hw14 ht htn) wm_R_33 wi_R_faultOfLabels ws_R_faultOfLabels 0 rfl rfl (by decide) d_R_faultOf_53 rfl rfl (Nat.le_of_ble_eq_true rfl) (by decide) [7, 0, 1, 2, 8, 3, 5] [4, 6] rfl (by decide) rfl (by decide) (by decide) (fun v ws' hpost => ?_)
          obtain ⟨t3, rfl, rfl, ht3, hfl⟩ := hpost
          refine qv_eq (ws' := [(pr, .inl (G.2.1, 24, .inl (qA r'))), (tx, .inl (G.2.2.1, 120, .inl (qA x))), (rd, .inr (3, [.ref rl, .ref rn, .ref ra, .ref p, .int (qI nx'), .int (qI lt'), .int (qI kd'), .int (qI ct'), .int (qI lb')])), (rl, .inl (G.2.1, 26, .inl (qA pl'))), (rn, .inl (G.2.1, 24, .inl (qA nl'))), (ra, .inl (G.2.1, 24, .inl (qA na'))), (p, .inr (2, [.ref pk, .ref pr, .ref pt, .int (qI n'), .ref pd, .ref pb, .ref ph, .ref pe, .ref pg, .int (qI lc)])), (pk, .inl (G.2.1, 24, .inl (qA k'))), (pt, .inl (G.2.1, 24, .inl (qA t3)))]) (st' := [.int (qI (m_fl n' k' nl' na' pl' 24 0))]) rfl rfl rfl ?_
          refine qv_goto C d_R_faultOf_56 (by decide) (tgt := 60) ?_
          refine qv_ws (ws' := [(rd, .inr (3, [.ref rl, .ref rn, .ref ra, .ref p, .int (qI nx'), .int (qI lt'), .int (qI kd'), .int (qI ct'), .int (qI lb')])), (rl, .inl (G.2.1, 26, .inl (qA pl'))), (rn, .inl (G.2.1, 24, .inl (qA nl'))), (ra, .inl (G.2.1, 24, .inl (qA na'))), (p, .inr (2, [.ref pk, .ref pr, .ref pt, .int (qI n'), .ref pd, .ref pb, .ref ph, .ref pe, .ref pg, .int (qI lc)])), (pk, .inl (G.2.1, 24, .inl (qA k'))), (pr, .inl (G.2.1, 24, .inl (qA r'))), (pt, .inl (G.2.1, 24, .inl (qA t3))), (tx, .inl (G.2.2.1, 120, .inl (qA x)))]) [2, 3, 4, 5, 6, 7, 0, 8, 1] (by decide) rfl ?_
          refine qv_iret C hrt hlk d_R_faultOf_60 ?_
          refine ⟨_, _, _, _, _, _, _, _, _, _, _, _, _, rfl, rfl, ?_, Or.inr (Or.inr ⟨hf.trans (m_rd_end (by omega)), hw0, by unfold m_me; dsimp only; omega, rfl, ?_⟩)⟩
          · exact ⟨hw2, hw3, hw4, hw5, hw6, hw10, hw11, hw12, hw13, fun j => by have := hw14 j; omega, hw16, ht3⟩
          · rcases hfl with h | h
            · exact Or.inl h
            · exact Or.inr ⟨h, m_fl_le hw13 24 0⟩
      · obtain ⟨f', rfl⟩ : ∃ f', f = f' + 1 := ⟨f - 1, by omega⟩
        refine qv_aload_n C 2 d_R_faultOf_14 rfl rfl ?_
        refine qv_iload C 0 d_R_faultOf_15 rfl ?_
        refine qv_cald C 8 rfl (by omega) d_R_faultOf_17 ?_
        have hq0 := hx i
        refine qv_bipush C d_R_faultOf_18 (by decide) ?_
        refine qv_icmp_eq C d_R_faultOf_20 (tgt := 39) (by decide) (by omega) (by omega) (fun ht20 => ?_) (fun hf20 => ?_)
        · refine qv_iinc C 0 d_R_faultOf_39 rfl (by decide) (lv' := [(4, .int (qI (i + 1))), (0, .ref rd), (1, .ref tx), (2, .int (qI ln)), (3, .ref p)]) rfl ?_
          refine qv_goto C d_R_faultOf_42 (by decide) (tgt := 8) ?_
          exact ih8 (i + 1) f' nx' lt' kd' ct' lb' n' k' r' t' nl' na' pl' (by omega) (by omega) (hf.trans (m_rd_sp (by omega) (by omega))) (by omega) (hw) (ht) (htn)
        · refine qv_aload_n C 1 d_R_faultOf_23 rfl rfl ?_
          refine qv_aload_n C 2 d_R_faultOf_24 rfl rfl ?_
          refine qv_iload C 0 d_R_faultOf_25 rfl ?_
          refine qv_cald C 8 rfl (by omega) d_R_faultOf_27 ?_
          have hq1 := hx i
          refine qv_iload C 0 d_R_faultOf_28 rfl ?_
          refine qv_cV (As := [.int (qI (x i)), .int (qI i)]) (rest := []) (wc := [(rd, .inr (3, [.ref rl, .ref rn, .ref ra, .ref p, .int (qI nx'), .int (qI lt'), .int (qI kd'), .int (qI ct'), .int (qI lb')])), (rl, .inl (G.2.1, 26, .inl (qA pl'))), (rn, .inl (G.2.1, 24, .inl (qA nl'))), (ra, .inl (G.2.1, 24, .inl (qA na'))), (p, .inr (2, [.ref pk, .ref pr, .ref pt, .int (qI n'), .ref pd, .ref pb, .ref ph, .ref pe, .ref pg, .int (qI lc)])), (pk, .inl (G.2.1, 24, .inl (qA k'))), (pr, .inl (G.2.1, 24, .inl (qA r'))), (pt, .inl (G.2.1, 24, .inl (qA t')))]) (wr := [(tx, .inl (G.2.2.1, 120, .inl (qA x)))]) C k_R_accepts (c_R_accepts l G (c := x i) (Q := i) hw (by have := hx i; omega) (by omega)) wm_R_25 wi_R_accepts ws_R_accepts 0 rfl rfl (by decide) d_R_faultOf_30 rfl rfl (Nat.le_of_ble_eq_true rfl) (by decide) [0, 1, 2, 3, 4, 5, 6, 7] [8] rfl (by decide) rfl (by decide) (by decide) (fun v ws' hpost => ?_)
          obtain ⟨xa, nx2, lt2, kd2, ct2, lb2, n2, k2, r2, t2, nl2, na2, pl2, rfl, rfl, hp⟩ := hpost
          refine qv_eq (ws' := [(tx, .inl (G.2.2.1, 120, .inl (qA x))), (rd, .inr (3, [.ref rl, .ref rn, .ref ra, .ref p, .int (qI nx2), .int (qI lt2), .int (qI kd2), .int (qI ct2), .int (qI lb2)])), (rl, .inl (G.2.1, 26, .inl (qA pl2))), (rn, .inl (G.2.1, 24, .inl (qA nl2))), (ra, .inl (G.2.1, 24, .inl (qA na2))), (p, .inr (2, [.ref pk, .ref pr, .ref pt, .int (qI n2), .ref pd, .ref pb, .ref ph, .ref pe, .ref pg, .int (qI lc)])), (pk, .inl (G.2.1, 24, .inl (qA k2))), (pr, .inl (G.2.1, 24, .inl (qA r2))), (pt, .inl (G.2.1, 24, .inl (qA t2)))]) (st' := [.int (qI xa)]) rfl rfl rfl ?_
          refine qv_if_ne C d_R_faultOf_33 (tgt := 39) (by decide) (by rcases hp with h | h <;> omega) (fun ht33 => ?_) (fun hf33 => ?_)
          · have hq2 : m_ac (nx', lt', kd', ct', lb', n', k', r', nl', na', pl') (x i) i = some (nx2, lt2, kd2, ct2, lb2, n2, k2, r2, nl2, na2, pl2) ∧ m_xw (nx2, lt2, kd2, ct2, lb2, n2, k2, r2, nl2, na2, pl2) ∧ (∀ j, -1 ≤ t2 j ∧ t2 j ≤ 24) ∧ (∀ j, 0 ≤ j → j < n2 → t2 j = -1) := by
              have hp1 := hp.resolve_right (fun h => by omega)
              refine ⟨hp1.2.1, m_ac_w hp1.2.1 hw (by omega), ?_⟩
              rcases hp1.2.2 with ⟨rfl, rfl⟩ | ⟨rfl, rfl⟩
              · exact ⟨ht, htn⟩
              · refine ⟨qU_rg ht (by omega), fun j a b => ?_⟩
                by_cases hj : j = n'
                · rw [hj, qU_s]
                · rw [qU_n hj]; exact htn j a (by omega)
            refine qv_iinc C 0 d_R_faultOf_39 rfl (by decide) (lv' := [(4, .int (qI (i + 1))), (0, .ref rd), (1, .ref tx), (2, .int (qI ln)), (3, .ref p)]) rfl ?_
            refine qv_goto C d_R_faultOf_42 (by decide) (tgt := 8) ?_
            refine qv_ws (ws' := [(rd, .inr (3, [.ref rl, .ref rn, .ref ra, .ref p, .int (qI nx2), .int (qI lt2), .int (qI kd2), .int (qI ct2), .int (qI lb2)])), (rl, .inl (G.2.1, 26, .inl (qA pl2))), (rn, .inl (G.2.1, 24, .inl (qA nl2))), (ra, .inl (G.2.1, 24, .inl (qA na2))), (p, .inr (2, [.ref pk, .ref pr, .ref pt, .int (qI n2), .ref pd, .ref pb, .ref ph, .ref pe, .ref pg, .int (qI lc)])), (pk, .inl (G.2.1, 24, .inl (qA k2))), (pr, .inl (G.2.1, 24, .inl (qA r2))), (pt, .inl (G.2.1, 24, .inl (qA t2))), (tx, .inl (G.2.2.1, 120, .inl (qA x)))]) [1, 2, 3, 4, 5, 6, 7, 8, 0] (by decide) rfl ?_
            exact ih8 (i + 1) f' nx2 lt2 kd2 ct2 lb2 n2 k2 r2 t2 nl2 na2 pl2 (by omega) (by omega) (hf.trans (m_rd_go (by omega) (by omega) hq2.1)) (by omega) (hq2.2.1) (hq2.2.2.1) (hq2.2.2.2)
          · have hp0 := hp
            obtain ⟨hw1, hw2, hw3, hw4, hw5, hw6, hw7, hw8, hw9, hw10, hw11, hw12, hw13, hw14, hw15, hw16⟩ := hw
            refine qv_iload C 0 d_R_faultOf_36 rfl ?_
            refine qv_ws (ws' := [(rd, .inr (3, [.ref rl, .ref rn, .ref ra, .ref p, .int (qI nx2), .int (qI lt2), .int (qI kd2), .int (qI ct2), .int (qI lb2)])), (rl, .inl (G.2.1, 26, .inl (qA pl2))), (rn, .inl (G.2.1, 24, .inl (qA nl2))), (ra, .inl (G.2.1, 24, .inl (qA na2))), (p, .inr (2, [.ref pk, .ref pr, .ref pt, .int (qI n2), .ref pd, .ref pb, .ref ph, .ref pe, .ref pg, .int (qI lc)])), (pk, .inl (G.2.1, 24, .inl (qA k2))), (pr, .inl (G.2.1, 24, .inl (qA r2))), (pt, .inl (G.2.1, 24, .inl (qA t2))), (tx, .inl (G.2.2.1, 120, .inl (qA x)))]) [1, 2, 3, 4, 5, 6, 7, 8, 0] (by decide) rfl ?_
            refine qv_iret C hrt hlk d_R_faultOf_38 ?_
            have hp := hp0.resolve_left (fun h => by omega)
            obtain ⟨a1, a2, a3, a4, rfl, rfl, rfl, rfl, rfl, rfl, rfl, rfl, rfl⟩ := hp
            refine ⟨i, _, _, _, _, _, _, _, _, _, _, _, _, rfl, rfl, ?_, Or.inl ⟨i, hf.trans (m_rd_no (by omega) (by omega) a2), rfl, by omega, by omega⟩⟩
            exact ⟨a3, hw3, a4, hw5, hw6, hw10, hw11, hw12, hw13, fun j => by have := hw14 j; omega, hw16, ht⟩
  refine qv_ws (ws' := [(rd, .inr (3, [.ref rl, .ref rn, .ref ra, .ref p, .int (qI 0), .int (qI lt), .int (qI kd), .int (qI ct), .int (qI 0)])), (rl, .inl (G.2.1, 26, .inl (qA (m_up pl (fun _ => -1) 26)))), (rn, .inl (G.2.1, 24, .inl (qA nl))), (ra, .inl (G.2.1, 24, .inl (qA na))), (p, .inr (2, [.ref pk, .ref pr, .ref pt, .int (qI 0), .ref pd, .ref pb, .ref ph, .ref pe, .ref pg, .int (qI lc)])), (pk, .inl (G.2.1, 24, .inl (qA k))), (pr, .inl (G.2.1, 24, .inl (qA r))), (pt, .inl (G.2.1, 24, .inl (qA t))), (tx, .inl (G.2.2.1, 120, .inl (qA x)))]) [6, 7, 0, 1, 8, 2, 3, 4, 5] (by decide) rfl ?_
  exact L8 _ 0 120 0 lt kd ct 0 0 k r t nl na (m_up pl (fun _ => -1) 26) (Nat.lt_succ_self _) (by omega) (rfl) (by omega) (m_x0_w hgb) (hgb.2.2.2.2.2.2.2.2.2.2.2) (fun j a b => by omega)

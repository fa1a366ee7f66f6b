set_option maxHeartbeats 4000000 in
set_option maxRecDepth 100000 in
theorem c_D_go (l : Launch) (G : qG) {u utx uro urc urn urp ula uop urg utg ude ule udn uv ub ubf ubh ukp uwa : Nat} {cd sz cu fa rdn n pl st on cn hd ps ss tk : Int} {fr : Int} {x : Int → Int} (hsz : 0 ≤ sz ∧ sz ≤ 120) (hx : ∀ i, 0 ≤ x i ∧ x i ≤ 126) (hfr : 0 ≤ fr ∧ fr ≤ sz) : qM l G y_D_go b_D_go 2 none ({ frames := 0, cells := 0, slots := 0, locals := 0 }) [.ref u, .int (qI fr)] [(u, .inr (5, [.int (qI cd), .int (qI sz), .ref utx, .int (qI cu), .int (qI fa), .int (qI rdn), .ref uro, .ref urc, .ref urn, .ref urp, .ref ula, .int (qI n), .ref uop, .ref urg, .ref utg, .ref ude, .ref ule, .ref udn, .ref uv, .ref ub, .int (qI pl), .long (qL st), .int (qI on), .long (qL cn), .int (qI hd), .long (qL ps), .long (qL ss), .ref ubf, .ref ubh, .long (qL tk), .ref ukp, .ref uwa])), (utx, .inl (G.2.1, 120, .inl (qA x)))] (fun v' ws' => v' = none ∧ ∃ j : Int, ws' = [(u, .inr (5, [.int (qI cd), .int (qI sz), .ref utx, .int (qI j), .int (qI fa), .int (qI rdn), .ref uro, .ref urc, .ref urn, .ref urp, .ref ula, .int (qI n), .ref uop, .ref urg, .ref utg, .ref ude, .ref ule, .ref udn, .ref uv, .ref ub, .int (qI pl), .long (qL st), .int (qI on), .long (qL cn), .int (qI hd), .long (qL ps), .long (qL ss), .ref ubf, .ref ubh, .long (qL tk), .ref ukp, .ref uwa])), (utx, .inl (G.2.1, 120, .inl (qA x)))] ∧ m_skp x sz fr j) := by
  refine qM.of (by decide) (Nat.le_of_ble_eq_true rfl) (fun xp xe xs xm xb xme xc A C hrt hlk hnm => ?_)
  refine qv_eq (lv' := [(0, .ref u), (1, .int (qI fr))]) rfl rfl rfl ?_
  refine qv_aload_n C 0 d_D_go_0 rfl rfl ?_
  refine qv_iload_n C 1 d_D_go_1 rfl rfl ?_
  refine qv_put C in_D 0 rfl rfl 3 (by decide) t_D t_D_ok n_D wf_D_77 rfl rfl (t_D_ok 3 (by decide)) (rfl) (rfl) (Nat.le_of_ble_eq_true rfl) d_D_go_2 (ws' := [(u, .inr (5, [.int (qI cd), .int (qI sz), .ref utx, .int (qI fr), .int (qI fa), .int (qI rdn), .ref uro, .ref urc, .ref urn, .ref urp, .ref ula, .int (qI n), .ref uop, .ref urg, .ref utg, .ref ude, .ref ule, .ref udn, .ref uv, .ref ub, .int (qI pl), .long (qL st), .int (qI on), .long (qL cn), .int (qI hd), .long (qL ps), .long (qL ss), .ref ubf, .ref ubh, .long (qL tk), .ref ukp, .ref uwa])), (utx, .inl (G.2.1, 120, .inl (qA x)))]) rfl ?_
  have L5 : ∀ (N5 : Nat) (j : Int), (sz - j).toNat < N5 → (fr ≤ j ∧ j ≤ sz) → (m_skq x sz fr j) → qV xp l xe ({ frames := 0, cells := 0, slots := 0, locals := 0 }) xs xm [.ref u, .int (qI fr)].toArray xb xme xc G A xs.heap 2 (MQ xb (qQ G A (fun v' ws' => v' = none ∧ ∃ j : Int, ws' = [(u, .inr (5, [.int (qI cd), .int (qI sz), .ref utx, .int (qI j), .int (qI fa), .int (qI rdn), .ref uro, .ref urc, .ref urn, .ref urp, .ref ula, .int (qI n), .ref uop, .ref urg, .ref utg, .ref ude, .ref ule, .ref udn, .ref uv, .ref ub, .int (qI pl), .long (qL st), .int (qI on), .long (qL cn), .int (qI hd), .long (qL ps), .long (qL ss), .ref ubf, .ref ubh, .long (qL tk), .ref ukp, .ref uwa])), (utx, .inl (G.2.1, 120, .inl (qA x)))] ∧ m_skp x sz fr j)) [.ref u, .int (qI fr)].toArray xs 0 0 A) 0 0 [(u, .inr (5, [.int (qI cd), .int (qI sz), .ref utx, .int (qI j), .int (qI fa), .int (qI rdn), .ref uro, .ref urc, .ref urn, .ref urp, .ref ula, .int (qI n), .ref uop, .ref urg, .ref utg, .ref ude, .ref ule, .ref udn, .ref uv, .ref ub, .int (qI pl), .long (qL st), .int (qI on), .long (qL cn), .int (qI hd), .long (qL ps), .long (qL ss), .ref ubf, .ref ubh, .long (qL tk), .ref ukp, .ref uwa])), (utx, .inl (G.2.1, 120, .inl (qA x)))] [(0, .ref u)] 5 [] := by
    intro N5
    induction N5 with
    | zero => intro j hmu; exact absurd hmu (Nat.not_lt_zero _)
    | succ N5 ih5 =>
      intro j hmu5 hj hq
      refine qv_aload_n C 0 d_D_go_5 rfl rfl ?_
      refine qv_get C in_D 0 rfl rfl 3 (by decide) wf_D_77 rfl rfl d_D_go_6 ?_
      refine qv_aload_n C 0 d_D_go_9 rfl rfl ?_
      refine qv_get C in_D 0 rfl rfl 1 (by decide) wf_D_74 rfl rfl d_D_go_10 ?_
      refine qv_icmp_ge C d_D_go_13 (tgt := 43) (by decide) (by omega) (by omega) (fun ht13 => ?_) (fun hf13 => ?_)
      · refine qv_vret C hrt hlk d_D_go_43 ?_
        exact ⟨rfl, j, rfl, by omega, by omega, fun h => by omega, hq⟩
      · refine qv_aload_n C 0 d_D_go_16 rfl rfl ?_
        refine qv_get C in_D 0 rfl rfl 2 (by decide) wf_D_7 rfl rfl d_D_go_17 ?_
        refine qv_aload_n C 0 d_D_go_20 rfl rfl ?_
        refine qv_get C in_D 0 rfl rfl 3 (by decide) wf_D_77 rfl rfl d_D_go_21 ?_
        refine qv_iald C 1 rfl (by omega) d_D_go_24 ?_
        have hq0 := hx j
        refine qv_bipush C d_D_go_25 (by decide) ?_
        refine qv_icmp_ne C d_D_go_27 (tgt := 43) (by decide) (by omega) (by omega) (fun ht27 => ?_) (fun hf27 => ?_)
        · refine qv_vret C hrt hlk d_D_go_43 ?_
          exact ⟨rfl, j, rfl, by omega, by omega, fun h => by omega, hq⟩
        · refine qv_aload_n C 0 d_D_go_30 rfl rfl ?_
          refine qv_dup C d_D_go_31 rfl ?_
          refine qv_get C in_D 0 rfl rfl 3 (by decide) wf_D_77 rfl rfl d_D_go_32 ?_
          refine qv_iconst C d_D_go_35 ?_
          refine qv_iadd C d_D_go_36 ?_
          refine qv_put C in_D 0 rfl rfl 3 (by decide) t_D t_D_ok n_D wf_D_77 rfl rfl (t_D_ok 3 (by decide)) (rfl) (rfl) (Nat.le_of_ble_eq_true rfl) d_D_go_37 (ws' := [(u, .inr (5, [.int (qI cd), .int (qI sz), .ref utx, .int (qI (j + 1)), .int (qI fa), .int (qI rdn), .ref uro, .ref urc, .ref urn, .ref urp, .ref ula, .int (qI n), .ref uop, .ref urg, .ref utg, .ref ude, .ref ule, .ref udn, .ref uv, .ref ub, .int (qI pl), .long (qL st), .int (qI on), .long (qL cn), .int (qI hd), .long (qL ps), .long (qL ss), .ref ubf, .ref ubh, .long (qL tk), .ref ukp, .ref uwa])), (utx, .inl (G.2.1, 120, .inl (qA x)))]) rfl ?_
          refine qv_goto C d_D_go_40 (by decide) (tgt := 5) ?_
          exact ih5 (j + 1) (by omega) (by omega) (m_skq_s hq (by omega) (by omega))
  refine qv_lv (lv' := [(0, .ref u)]) [0] rfl ?_
  exact L5 _ fr (Nat.lt_succ_self _) (by omega) (m_skq_0 _ _ _)
set_option maxHeartbeats 4000000 in
set_option maxRecDepth 100000 in
theorem c_D_isBetween (l : Launch) (G : qG) {u utx uro urc urn urp ula uop urg utg ude ule udn uv ub ubf ubh ukp uwa : Nat} {cd sz cu fa rdn n pl st on cn hd ps ss tk : Int} {lo hi : Int} {x : Int → Int} (hsz : 0 ≤ sz ∧ sz ≤ 120) (hx : ∀ i, 0 ≤ x i ∧ x i ≤ 126) (hcu : 0 ≤ cu ∧ cu ≤ sz) (hlo : 0 ≤ lo ∧ lo ≤ 200) (hhi : 0 ≤ hi ∧ hi ≤ 200) : qM l G y_D_isBetween b_D_isBetween 3 (some .boolean) ({ frames := 0, cells := 0, slots := 0, locals := 0 }) [.ref u, .int (qI lo), .int (qI hi)] [(u, .inr (5, [.int (qI cd), .int (qI sz), .ref utx, .int (qI cu), .int (qI fa), .int (qI rdn), .ref uro, .ref urc, .ref urn, .ref urp, .ref ula, .int (qI n), .ref uop, .ref urg, .ref utg, .ref ude, .ref ule, .ref udn, .ref uv, .ref ub, .int (qI pl), .long (qL st), .int (qI on), .long (qL cn), .int (qI hd), .long (qL ps), .long (qL ss), .ref ubf, .ref ubh, .long (qL tk), .ref ukp, .ref uwa])), (utx, .inl (G.2.1, 120, .inl (qA x)))] (fun v' ws' => ws' = [(u, .inr (5, [.int (qI cd), .int (qI sz), .ref utx, .int (qI cu), .int (qI fa), .int (qI rdn), .ref uro, .ref urc, .ref urn, .ref urp, .ref ula, .int (qI n), .ref uop, .ref urg, .ref utg, .ref ude, .ref ule, .ref udn, .ref uv, .ref ub, .int (qI pl), .long (qL st), .int (qI on), .long (qL cn), .int (qI hd), .long (qL ps), .long (qL ss), .ref ubf, .ref ubh, .long (qL tk), .ref ukp, .ref uwa])), (utx, .inl (G.2.1, 120, .inl (qA x)))] ∧ ∃ y : Int, v' = some (.int (qI y)) ∧ ((y = 1 ∧ (cu < sz ∧ lo ≤ x cu ∧ x cu ≤ hi)) ∨ (y = 0 ∧ ¬ (cu < sz ∧ lo ≤ x cu ∧ x cu ≤ hi)))) := by
  refine qM.of (by decide) (Nat.le_of_ble_eq_true rfl) (fun xp xe xs xm xb xme xc A C hrt hlk hnm => ?_)
  refine qv_eq (lv' := [(0, .ref u), (1, .int (qI lo)), (2, .int (qI hi))]) rfl rfl rfl ?_
  refine qv_aload_n C 0 d_D_isBetween_0 rfl rfl ?_
  refine qv_get C in_D 0 rfl rfl 3 (by decide) wf_D_77 rfl rfl d_D_isBetween_1 ?_
  refine qv_aload_n C 0 d_D_isBetween_4 rfl rfl ?_
  refine qv_get C in_D 0 rfl rfl 1 (by decide) wf_D_74 rfl rfl d_D_isBetween_5 ?_
  refine qv_icmp_ge C d_D_isBetween_8 (tgt := 41) (by decide) (by omega) (by omega) (fun ht8 => ?_) (fun hf8 => ?_)
  · refine qv_iconst C d_D_isBetween_41 ?_
    refine qv_zret C (by omega) hrt hlk d_D_isBetween_42 ?_
    exact ⟨rfl, 0, rfl, by omega⟩
  · refine qv_aload_n C 0 d_D_isBetween_11 rfl rfl ?_
    refine qv_get C in_D 0 rfl rfl 2 (by decide) wf_D_7 rfl rfl d_D_isBetween_12 ?_
    refine qv_aload_n C 0 d_D_isBetween_15 rfl rfl ?_
    refine qv_get C in_D 0 rfl rfl 3 (by decide) wf_D_77 rfl rfl d_D_isBetween_16 ?_
    refine qv_iald C 1 rfl (by omega) d_D_isBetween_19 ?_
    have hq0 := hx cu
    refine qv_iload_n C 1 d_D_isBetween_20 rfl rfl ?_
    refine qv_icmp_lt C d_D_isBetween_21 (tgt := 41) (by decide) (by omega) (by omega) (fun ht21 => ?_) (fun hf21 => ?_)
    · refine qv_iconst C d_D_isBetween_41 ?_
      refine qv_zret C (by omega) hrt hlk d_D_isBetween_42 ?_
      exact ⟨rfl, 0, rfl, by omega⟩
    · refine qv_aload_n C 0 d_D_isBetween_24 rfl rfl ?_
      refine qv_get C in_D 0 rfl rfl 2 (by decide) wf_D_7 rfl rfl d_D_isBetween_25 ?_
      refine qv_aload_n C 0 d_D_isBetween_28 rfl rfl ?_
      refine qv_get C in_D 0 rfl rfl 3 (by decide) wf_D_77 rfl rfl d_D_isBetween_29 ?_
      refine qv_iald C 1 rfl (by omega) d_D_isBetween_32 ?_
      have hq1 := hx cu
      refine qv_iload_n C 2 d_D_isBetween_33 rfl rfl ?_
      refine qv_icmp_gt C d_D_isBetween_34 (tgt := 41) (by decide) (by omega) (by omega) (fun ht34 => ?_) (fun hf34 => ?_)
      · refine qv_iconst C d_D_isBetween_41 ?_
        refine qv_zret C (by omega) hrt hlk d_D_isBetween_42 ?_
        exact ⟨rfl, 0, rfl, by omega⟩
      · refine qv_iconst C d_D_isBetween_37 ?_
        refine qv_goto C d_D_isBetween_38 (by decide) (tgt := 42) ?_
        refine qv_zret C (by omega) hrt hlk d_D_isBetween_42 ?_
        exact ⟨rfl, 1, rfl, by omega⟩
set_option maxHeartbeats 4000000 in
set_option maxRecDepth 100000 in
theorem c_D_take (l : Launch) (G : qG) {u utx uro urc urn urp ula uop urg utg ude ule udn uv ub ubf ubh ukp uwa : Nat} {cd sz cu fa rdn n pl st on cn hd ps ss tk : Int} {lo hi : Int} {x : Int → Int} (hsz : 0 ≤ sz ∧ sz ≤ 120) (hx : ∀ i, 0 ≤ x i ∧ x i ≤ 126) (hcu : 0 ≤ cu ∧ cu ≤ sz) (hfa : -1 ≤ fa ∧ fa ≤ 120) (hlo : 0 ≤ lo ∧ lo ≤ 200) (hhi : 0 ≤ hi ∧ hi ≤ 200) : qM l G y_D_take b_D_take 4 (some .int) ({ frames := 1, cells := 0, slots := 0, locals := 22 }) [.ref u, .int (qI lo), .int (qI hi)] [(u, .inr (5, [.int (qI cd), .int (qI sz), .ref utx, .int (qI cu), .int (qI fa), .int (qI rdn), .ref uro, .ref urc, .ref urn, .ref urp, .ref ula, .int (qI n), .ref uop, .ref urg, .ref utg, .ref ude, .ref ule, .ref udn, .ref uv, .ref ub, .int (qI pl), .long (qL st), .int (qI on), .long (qL cn), .int (qI hd), .long (qL ps), .long (qL ss), .ref ubf, .ref ubh, .long (qL tk), .ref ukp, .ref uwa])), (utx, .inl (G.2.1, 120, .inl (qA x)))] (fun v' ws' => ∃ y cu' fa' : Int, v' = some (.int (qI y)) ∧ ws' = [(u, .inr (5, [.int (qI cd), .int (qI sz), .ref utx, .int (qI cu'), .int (qI fa'), .int (qI rdn), .ref uro, .ref urc, .ref urn, .ref urp, .ref ula, .int (qI n), .ref uop, .ref urg, .ref utg, .ref ude, .ref ule, .ref udn, .ref uv, .ref ub, .int (qI pl), .long (qL st), .int (qI on), .long (qL cn), .int (qI hd), .long (qL ps), .long (qL ss), .ref ubf, .ref ubh, .long (qL tk), .ref ukp, .ref uwa])), (utx, .inl (G.2.1, 120, .inl (qA x)))] ∧ ((0 ≤ fa ∧ y = -1 ∧ cu' = cu ∧ fa' = fa) ∨ (fa = -1 ∧ ¬ (cu < sz ∧ lo ≤ x cu ∧ x cu ≤ hi) ∧ y = -1 ∧ cu' = cu ∧ fa' = cu) ∨ (fa = -1 ∧ (cu < sz ∧ lo ≤ x cu ∧ x cu ≤ hi) ∧ y = x cu ∧ fa' = -1 ∧ m_skp x sz (cu + 1) cu'))) := by
  refine qM.of (by decide) (Nat.le_of_ble_eq_true rfl) (fun xp xe xs xm xb xme xc A C hrt hlk hnm => ?_)
  refine qv_eq (lv' := [(0, .ref u), (1, .int (qI lo)), (2, .int (qI hi))]) rfl rfl rfl ?_
  refine qv_aload_n C 0 d_D_take_0 rfl rfl ?_
  refine qv_get C in_D 0 rfl rfl 4 (by decide) wf_D_80 rfl rfl d_D_take_1 ?_
  refine qv_if_lt C d_D_take_4 (tgt := 9) (by decide) (by omega) (fun ht4 => ?_) (fun hf4 => ?_)
  · refine qv_aload_n C 0 d_D_take_9 rfl rfl ?_
    refine qv_iload_n C 1 d_D_take_10 rfl rfl ?_
    refine qv_iload_n C 2 d_D_take_11 rfl rfl ?_
    refine qv_cV (As := [.int (qI lo), .int (qI hi)]) (rest := []) (wc := [(u, .inr (5, [.int (qI cd), .int (qI sz), .ref utx, .int (qI cu), .int (qI fa), .int (qI rdn), .ref uro, .ref urc, .ref urn, .ref urp, .ref ula, .int (qI n), .ref uop, .ref urg, .ref utg, .ref ude, .ref ule, .ref udn, .ref uv, .ref ub, .int (qI pl), .long (qL st), .int (qI on), .long (qL cn), .int (qI hd), .long (qL ps), .long (qL ss), .ref ubf, .ref ubh, .long (qL tk), .ref ukp, .ref uwa])), (utx, .inl (G.2.1, 120, .inl (qA x)))]) (wr := []) C k_D_isBetween (c_D_isBetween l G (lo := lo) (hi := hi) hsz hx hcu (by omega) (by omega)) wm_D_83 wi_D_isBetween ws_D_isBetween 0 rfl rfl (by decide) d_D_take_12 rfl rfl (Nat.le_of_ble_eq_true rfl) (by decide) [0, 1] [] rfl (by decide) rfl (by decide) (by decide) (fun v ws' hpost => ?_)
    obtain ⟨rfl, yb, rfl, hyb⟩ := hpost
    refine qv_eq (ws' := [(u, .inr (5, [.int (qI cd), .int (qI sz), .ref utx, .int (qI cu), .int (qI fa), .int (qI rdn), .ref uro, .ref urc, .ref urn, .ref urp, .ref ula, .int (qI n), .ref uop, .ref urg, .ref utg, .ref ude, .ref ule, .ref udn, .ref uv, .ref ub, .int (qI pl), .long (qL st), .int (qI on), .long (qL cn), .int (qI hd), .long (qL ps), .long (qL ss), .ref ubf, .ref ubh, .long (qL tk), .ref ukp, .ref uwa])), (utx, .inl (G.2.1, 120, .inl (qA x)))]) (st' := [.int (qI yb)]) rfl rfl rfl ?_
    refine qv_if_ne C d_D_take_15 (tgt := 28) (by decide) (by omega) (fun ht15 => ?_) (fun hf15 => ?_)
    · refine qv_aload_n C 0 d_D_take_28 rfl rfl ?_
      refine qv_get C in_D 0 rfl rfl 2 (by decide) wf_D_7 rfl rfl d_D_take_29 ?_
      refine qv_aload_n C 0 d_D_take_32 rfl rfl ?_
      refine qv_get C in_D 0 rfl rfl 3 (by decide) wf_D_77 rfl rfl d_D_take_33 ?_
      refine qv_iald C 1 rfl (by omega) d_D_take_36 ?_
      have hq0 := hx cu
      refine qv_istore_n C d_D_take_37 rfl (by decide) (lv' := [(3, .int (qI (x cu))), (0, .ref u), (1, .int (qI lo)), (2, .int (qI hi))]) rfl ?_
      refine qv_aload_n C 1 d_D_take_38 rfl rfl ?_
      refine qv_aload_n C 1 d_D_take_39 rfl rfl ?_
      refine qv_get C in_D 0 rfl rfl 3 (by decide) wf_D_77 rfl rfl d_D_take_40 ?_
      refine qv_iconst C d_D_take_43 ?_
      refine qv_iadd C d_D_take_44 ?_
      refine qv_cV (As := [.int (qI (cu + 1))]) (rest := []) (wc := [(u, .inr (5, [.int (qI cd), .int (qI sz), .ref utx, .int (qI cu), .int (qI fa), .int (qI rdn), .ref uro, .ref urc, .ref urn, .ref urp, .ref ula, .int (qI n), .ref uop, .ref urg, .ref utg, .ref ude, .ref ule, .ref udn, .ref uv, .ref ub, .int (qI pl), .long (qL st), .int (qI on), .long (qL cn), .int (qI hd), .long (qL ps), .long (qL ss), .ref ubf, .ref ubh, .long (qL tk), .ref ukp, .ref uwa])), (utx, .inl (G.2.1, 120, .inl (qA x)))]) (wr := []) C k_D_go (c_D_go l G (fr := cu + 1) hsz hx (by omega)) wm_D_87 wi_D_go ws_D_go 0 rfl rfl (by decide) d_D_take_45 rfl rfl (Nat.le_of_ble_eq_true rfl) (by decide) [0, 1] [] rfl (by decide) rfl (by decide) (by decide) (fun v ws' hpost => ?_)
      obtain ⟨rfl, j, rfl, hg⟩ := hpost
      refine qv_eq (ws' := [(u, .inr (5, [.int (qI cd), .int (qI sz), .ref utx, .int (qI j), .int (qI fa), .int (qI rdn), .ref uro, .ref urc, .ref urn, .ref urp, .ref ula, .int (qI n), .ref uop, .ref urg, .ref utg, .ref ude, .ref ule, .ref udn, .ref uv, .ref ub, .int (qI pl), .long (qL st), .int (qI on), .long (qL cn), .int (qI hd), .long (qL ps), .long (qL ss), .ref ubf, .ref ubh, .long (qL tk), .ref ukp, .ref uwa])), (utx, .inl (G.2.1, 120, .inl (qA x)))]) (st' := []) rfl rfl rfl ?_
      have hg1 := hg.1
      have hg2 := hg.2.1
      refine qv_iload_n C 0 d_D_take_48 rfl rfl ?_
      refine qv_iret C hrt hlk d_D_take_49 ?_
      obtain rfl : fa = -1 := by omega
      exact ⟨x cu, j, -1, rfl, rfl, Or.inr (Or.inr ⟨rfl, by omega, rfl, rfl, hg⟩)⟩
    · refine qv_aload_n C 0 d_D_take_18 rfl rfl ?_
      refine qv_aload_n C 0 d_D_take_19 rfl rfl ?_
      refine qv_get C in_D 0 rfl rfl 3 (by decide) wf_D_77 rfl rfl d_D_take_20 ?_
      refine qv_put C in_D 0 rfl rfl 4 (by decide) t_D t_D_ok n_D wf_D_80 rfl rfl (t_D_ok 4 (by decide)) (rfl) (rfl) (Nat.le_of_ble_eq_true rfl) d_D_take_23 (ws' := [(u, .inr (5, [.int (qI cd), .int (qI sz), .ref utx, .int (qI cu), .int (qI cu), .int (qI rdn), .ref uro, .ref urc, .ref urn, .ref urp, .ref ula, .int (qI n), .ref uop, .ref urg, .ref utg, .ref ude, .ref ule, .ref udn, .ref uv, .ref ub, .int (qI pl), .long (qL st), .int (qI on), .long (qL cn), .int (qI hd), .long (qL ps), .long (qL ss), .ref ubf, .ref ubh, .long (qL tk), .ref ukp, .ref uwa])), (utx, .inl (G.2.1, 120, .inl (qA x)))]) rfl ?_
      refine qv_iconst C d_D_take_26 ?_
      refine qv_iret C hrt hlk d_D_take_27 ?_
      exact ⟨-1, cu, cu, rfl, rfl, Or.inr (Or.inl ⟨by omega, by omega, rfl, rfl, rfl⟩)⟩
  · refine qv_iconst C d_D_take_7 ?_
    refine qv_iret C hrt hlk d_D_take_8 ?_
    exact ⟨-1, cu, fa, rfl, rfl, Or.inl ⟨by omega, rfl, rfl, rfl⟩⟩
set_option maxHeartbeats 4000000 in
set_option maxRecDepth 100000 in
theorem c_D_readLabels (l : Launch) (G : qG) {u utx uro urc urn urp ula uop urg utg ude ule udn uv ub ubf ubh ukp uwa : Nat} {cd sz cu fa rdn n pl st on cn hd ps ss tk : Int} {lb : Int} {T0 : Sum Int m_X} {x ro rc rn rp la : Int → Int} (hsz : 0 ≤ sz ∧ sz ≤ 120) (hx : ∀ i, 0 ≤ x i ∧ x i ≤ 126) (hcu : 0 ≤ cu ∧ cu ≤ sz) (hfa : fa = -1) (hns : cu < sz → ¬ x cu = 32) (hrd : rdn < 24) (hla : ∀ i, -1 ≤ la i ∧ la i ≤ 24) (hrl : m_rl x sz T0 0 lb rdn cu ro rc rn rp la) (hend : cu = sz → rdn = 0 ∨ lb = 1) : qM l G y_D_readLabels b_D_readLabels 2 none ({ frames := 2, cells := 0, slots := 0, locals := 45 }) [.ref u] [(u, .inr (5, [.int (qI cd), .int (qI sz), .ref utx, .int (qI cu), .int (qI fa), .int (qI rdn), .ref uro, .ref urc, .ref urn, .ref urp, .ref ula, .int (qI n), .ref uop, .ref urg, .ref utg, .ref ude, .ref ule, .ref udn, .ref uv, .ref ub, .int (qI pl), .long (qL st), .int (qI on), .long (qL cn), .int (qI hd), .long (qL ps), .long (qL ss), .ref ubf, .ref ubh, .long (qL tk), .ref ukp, .ref uwa])), (utx, .inl (G.2.1, 120, .inl (qA x))), (ula, .inl (G.2.1, 26, .inl (qA la)))] (fun v' ws' => ∃ (cu1 fa1 : Int) (la1 : Int → Int) (lb1 : Int), v' = none ∧ ws' = [(u, .inr (5, [.int (qI cd), .int (qI sz), .ref utx, .int (qI cu1), .int (qI fa1), .int (qI rdn), .ref uro, .ref urc, .ref urn, .ref urp, .ref ula, .int (qI n), .ref uop, .ref urg, .ref utg, .ref ude, .ref ule, .ref udn, .ref uv, .ref ub, .int (qI pl), .long (qL st), .int (qI on), .long (qL cn), .int (qI hd), .long (qL ps), .long (qL ss), .ref ubf, .ref ubh, .long (qL tk), .ref ukp, .ref uwa])), (utx, .inl (G.2.1, 120, .inl (qA x))), (ula, .inl (G.2.1, 26, .inl (qA la1)))] ∧ ((0 ≤ cu1 ∧ cu1 ≤ sz) ∧ (-1 ≤ fa1 ∧ fa1 ≤ 120)) ∧ (∀ i, -1 ≤ la1 i ∧ la1 i ≤ 24) ∧ ((fa1 = -1 ∧ m_rl x sz T0 0 lb1 rdn cu1 ro rc rn rp la1 ∧ (cu1 = sz → rdn = 0 ∨ lb1 = 1) ∧ ¬ (cu1 < sz ∧ 65 ≤ x cu1 ∧ x cu1 ≤ 90) ∧ (cu1 < sz → ¬ x cu1 = 32)) ∨ (0 ≤ fa1 ∧ m_ft T0 sz fa1))) := by
  refine qM.of (by decide) (Nat.le_of_ble_eq_true rfl) (fun xp xe xs xm xb xme xc A C hrt hlk hnm => ?_)
  refine qv_eq (lv' := [(0, .ref u)]) rfl rfl rfl ?_
  have L0 : ∀ (N0 : Nat) (cu1 : Int) (fa1 : Int) (la1 : Int → Int) (lb1 : Int), (sz - cu1).toNat < N0 → ((fa1 = -1 ∧ m_rl x sz T0 0 lb1 rdn cu1 ro rc rn rp la1 ∧ (cu1 = sz → rdn = 0 ∨ lb1 = 1)) ∨ (0 ≤ fa1 ∧ m_ft T0 sz fa1)) → ((0 ≤ cu1 ∧ cu1 ≤ sz) ∧ (-1 ≤ fa1 ∧ fa1 ≤ 120)) → (fa1 = -1 → cu1 < sz → ¬ x cu1 = 32) → (∀ i, -1 ≤ la1 i ∧ la1 i ≤ 24) → qV xp l xe ({ frames := 2, cells := 0, slots := 0, locals := 45 }) xs xm [.ref u].toArray xb xme xc G A xs.heap 2 (MQ xb (qQ G A (fun v' ws' => ∃ (cu1 fa1 : Int) (la1 : Int → Int) (lb1 : Int), v' = none ∧ ws' = [(u, .inr (5, [.int (qI cd), .int (qI sz), .ref utx, .int (qI cu1), .int (qI fa1), .int (qI rdn), .ref uro, .ref urc, .ref urn, .ref urp, .ref ula, .int (qI n), .ref uop, .ref urg, .ref utg, .ref ude, .ref ule, .ref udn, .ref uv, .ref ub, .int (qI pl), .long (qL st), .int (qI on), .long (qL cn), .int (qI hd), .long (qL ps), .long (qL ss), .ref ubf, .ref ubh, .long (qL tk), .ref ukp, .ref uwa])), (utx, .inl (G.2.1, 120, .inl (qA x))), (ula, .inl (G.2.1, 26, .inl (qA la1)))] ∧ ((0 ≤ cu1 ∧ cu1 ≤ sz) ∧ (-1 ≤ fa1 ∧ fa1 ≤ 120)) ∧ (∀ i, -1 ≤ la1 i ∧ la1 i ≤ 24) ∧ ((fa1 = -1 ∧ m_rl x sz T0 0 lb1 rdn cu1 ro rc rn rp la1 ∧ (cu1 = sz → rdn = 0 ∨ lb1 = 1) ∧ ¬ (cu1 < sz ∧ 65 ≤ x cu1 ∧ x cu1 ≤ 90) ∧ (cu1 < sz → ¬ x cu1 = 32)) ∨ (0 ≤ fa1 ∧ m_ft T0 sz fa1)))) [.ref u].toArray xs 0 0 A) 0 0 [(u, .inr (5, [.int (qI cd), .int (qI sz), .ref utx, .int (qI cu1), .int (qI fa1), .int (qI rdn), .ref uro, .ref urc, .ref urn, .ref urp, .ref ula, .int (qI n), .ref uop, .ref urg, .ref utg, .ref ude, .ref ule, .ref udn, .ref uv, .ref ub, .int (qI pl), .long (qL st), .int (qI on), .long (qL cn), .int (qI hd), .long (qL ps), .long (qL ss), .ref ubf, .ref ubh, .long (qL tk), .ref ukp, .ref uwa])), (utx, .inl (G.2.1, 120, .inl (qA x))), (ula, .inl (G.2.1, 26, .inl (qA la1)))] [(0, .ref u)] 0 [] := by
    intro N0
    induction N0 with
    | zero => intro cu1 fa1 la1 lb1 hmu; exact absurd hmu (Nat.not_lt_zero _)
    | succ N0 ih0 =>
      intro cu1 fa1 la1 lb1 hmu0 hst hb1 hn1 hla1
      have hrd0 := (m_rl_n hrl).1
      refine qv_aload_n C 0 d_D_readLabels_0 rfl rfl ?_
      refine qv_get C in_D 0 rfl rfl 4 (by decide) wf_D_80 rfl rfl d_D_readLabels_1 ?_
      refine qv_if_ge C d_D_readLabels_4 (tgt := 81) (by decide) (by omega) (fun ht4 => ?_) (fun hf4 => ?_)
      · refine qv_vret C hrt hlk d_D_readLabels_81 ?_
        refine ⟨cu1, fa1, la1, lb1, rfl, rfl, by omega, hla1, ?_⟩
        rcases hst with ⟨q1, q2, q3⟩ | q
        · exact Or.inl ⟨q1, q2, q3, by omega, hn1 q1⟩
        · exact Or.inr q
      · have hst1 := hst.resolve_right (fun q => by omega)
        have hrl1 := hst1.2.1
        have hfa1 := hst1.1
        refine qv_aload_n C 0 d_D_readLabels_7 rfl rfl ?_
        refine qv_bipush C d_D_readLabels_8 (by decide) ?_
        refine qv_bipush C d_D_readLabels_10 (by decide) ?_
        refine qv_cV (As := [.int (qI 65), .int (qI 90)]) (rest := []) (wc := [(u, .inr (5, [.int (qI cd), .int (qI sz), .ref utx, .int (qI cu1), .int (qI fa1), .int (qI rdn), .ref uro, .ref urc, .ref urn, .ref urp, .ref ula, .int (qI n), .ref uop, .ref urg, .ref utg, .ref ude, .ref ule, .ref udn, .ref uv, .ref ub, .int (qI pl), .long (qL st), .int (qI on), .long (qL cn), .int (qI hd), .long (qL ps), .long (qL ss), .ref ubf, .ref ubh, .long (qL tk), .ref ukp, .ref uwa])), (utx, .inl (G.2.1, 120, .inl (qA x)))]) (wr := [(ula, .inl (G.2.1, 26, .inl (qA la1)))]) C k_D_isBetween (c_D_isBetween l G (lo := 65) (hi := 90) hsz hx hb1.1 (by omega) (by omega)) wm_D_83 wi_D_isBetween ws_D_isBetween 0 rfl rfl (by decide) d_D_readLabels_12 rfl rfl (Nat.le_of_ble_eq_true rfl) (by decide) [0, 1] [2] rfl (by decide) rfl (by decide) (by decide) (fun v ws' hpost => ?_)
        obtain ⟨rfl, yb, rfl, hyb⟩ := hpost
        refine qv_eq (ws' := [(ula, .inl (G.2.1, 26, .inl (qA la1))), (u, .inr (5, [.int (qI cd), .int (qI sz), .ref utx, .int (qI cu1), .int (qI fa1), .int (qI rdn), .ref uro, .ref urc, .ref urn, .ref urp, .ref ula, .int (qI n), .ref uop, .ref urg, .ref utg, .ref ude, .ref ule, .ref udn, .ref uv, .ref ub, .int (qI pl), .long (qL st), .int (qI on), .long (qL cn), .int (qI hd), .long (qL ps), .long (qL ss), .ref ubf, .ref ubh, .long (qL tk), .ref ukp, .ref uwa])), (utx, .inl (G.2.1, 120, .inl (qA x)))]) (st' := [.int (qI yb)]) rfl rfl rfl ?_
        refine qv_if_eq C d_D_readLabels_15 (tgt := 81) (by decide) (by omega) (fun ht15 => ?_) (fun hf15 => ?_)
        · refine qv_ws (ws' := [(u, .inr (5, [.int (qI cd), .int (qI sz), .ref utx, .int (qI cu1), .int (qI fa1), .int (qI rdn), .ref uro, .ref urc, .ref urn, .ref urp, .ref ula, .int (qI n), .ref uop, .ref urg, .ref utg, .ref ude, .ref ule, .ref udn, .ref uv, .ref ub, .int (qI pl), .long (qL st), .int (qI on), .long (qL cn), .int (qI hd), .long (qL ps), .long (qL ss), .ref ubf, .ref ubh, .long (qL tk), .ref ukp, .ref uwa])), (utx, .inl (G.2.1, 120, .inl (qA x))), (ula, .inl (G.2.1, 26, .inl (qA la1)))]) [1, 2, 0] (by decide) rfl ?_
          refine qv_vret C hrt hlk d_D_readLabels_81 ?_
          refine ⟨cu1, fa1, la1, lb1, rfl, rfl, by omega, hla1, ?_⟩
          rcases hst with ⟨q1, q2, q3⟩ | q
          · exact Or.inl ⟨q1, q2, q3, by omega, hn1 q1⟩
          · exact Or.inr q
        · refine qv_aload_n C 0 d_D_readLabels_18 rfl rfl ?_
          refine qv_get C in_D 1 rfl rfl 10 (by decide) wf_D_25 rfl rfl d_D_readLabels_19 ?_
          refine qv_aload_n C 0 d_D_readLabels_22 rfl rfl ?_
          refine qv_get C in_D 1 rfl rfl 2 (by decide) wf_D_7 rfl rfl d_D_readLabels_23 ?_
          refine qv_aload_n C 0 d_D_readLabels_26 rfl rfl ?_
          refine qv_get C in_D 1 rfl rfl 3 (by decide) wf_D_77 rfl rfl d_D_readLabels_27 ?_
          refine qv_iald C 2 rfl (by omega) d_D_readLabels_30 ?_
          have hq0 := hx cu1
          refine qv_bipush C d_D_readLabels_31 (by decide) ?_
          refine qv_isub C d_D_readLabels_33 ?_
          refine qv_iald C 0 rfl (by omega) d_D_readLabels_34 ?_
          have hq1 := hla1 ((x cu1) - 65)
          refine qv_if_lt C d_D_readLabels_35 (tgt := 47) (by decide) (by omega) (fun ht35 => ?_) (fun hf35 => ?_)
          · refine qv_aload_n C 0 d_D_readLabels_47 rfl rfl ?_
            refine qv_bipush C d_D_readLabels_48 (by decide) ?_
            refine qv_bipush C d_D_readLabels_50 (by decide) ?_
            have h9a : -1 ≤ fa1 ∧ fa1 ≤ 120 := by omega
            refine qv_cV (As := [.int (qI 65), .int (qI 90)]) (rest := []) (wc := [(u, .inr (5, [.int (qI cd), .int (qI sz), .ref utx, .int (qI cu1), .int (qI fa1), .int (qI rdn), .ref uro, .ref urc, .ref urn, .ref urp, .ref ula, .int (qI n), .ref uop, .ref urg, .ref utg, .ref ude, .ref ule, .ref udn, .ref uv, .ref ub, .int (qI pl), .long (qL st), .int (qI on), .long (qL cn), .int (qI hd), .long (qL ps), .long (qL ss), .ref ubf, .ref ubh, .long (qL tk), .ref ukp, .ref uwa])), (utx, .inl (G.2.1, 120, .inl (qA x)))]) (wr := [(ula, .inl (G.2.1, 26, .inl (qA la1)))]) C k_D_take (c_D_take l G (lo := 65) (hi := 90) (cu := cu1) (fa := fa1) hsz hx (by omega) h9a (by omega) (by omega)) wm_D_91 wi_D_take ws_D_take 0 rfl rfl (by decide) d_D_readLabels_52 rfl rfl (Nat.le_of_ble_eq_true rfl) (by decide) [1, 2] [0] rfl (by decide) rfl (by decide) (by decide) (fun v ws' hpost => ?_)
            obtain ⟨y1, cu2, fa2, rfl, rfl, hal1⟩ := hpost
            refine qv_eq (ws' := [(ula, .inl (G.2.1, 26, .inl (qA la1))), (u, .inr (5, [.int (qI cd), .int (qI sz), .ref utx, .int (qI cu2), .int (qI fa2), .int (qI rdn), .ref uro, .ref urc, .ref urn, .ref urp, .ref ula, .int (qI n), .ref uop, .ref urg, .ref utg, .ref ude, .ref ule, .ref udn, .ref uv, .ref ub, .int (qI pl), .long (qL st), .int (qI on), .long (qL cn), .int (qI hd), .long (qL ps), .long (qL ss), .ref ubf, .ref ubh, .long (qL tk), .ref ukp, .ref uwa])), (utx, .inl (G.2.1, 120, .inl (qA x)))]) (st' := [.int (qI y1)]) rfl rfl rfl ?_
            have hal1r : (0 ≤ cu2 ∧ cu2 ≤ sz) ∧ (cu1 ≤ cu2) ∧ (-1 ≤ fa2 ∧ fa2 ≤ 120) ∧ (y1 = -1 ∨ (65 ≤ y1 ∧ y1 ≤ 90)) := by
              rcases hal1 with q | q | ⟨q1, q2, q3, q4, q5⟩
              · omega
              · omega
              · have q6 := q5.1; have q7 := q5.2.1; omega
            have hal1c := hal1.resolve_left (fun q => by omega)
            have hal1d := hal1c.resolve_left (fun q => q.2.1 (by omega))
            have hy1 := hal1d.2.2.1
            have hfa2 := hal1d.2.2.2.1
            have hg1 := hal1d.2.2.2.2
            have hg1a := hg1.1
            obtain ⟨kd1, ct1, hz⟩ := m_lab hrl1 hrd (by omega) (by omega) (by omega) hg1
            have hn2 := hg1.2.2.1
            refine qv_istore_n C d_D_readLabels_55 rfl (by decide) (lv' := [(1, .int (qI y1)), (0, .ref u)]) rfl ?_
            refine qv_aload_n C 1 d_D_readLabels_56 rfl rfl ?_
            refine qv_bipush C d_D_readLabels_57 (by decide) ?_
            refine qv_bipush C d_D_readLabels_59 (by decide) ?_
            have h9a : -1 ≤ fa2 ∧ fa2 ≤ 120 := by omega
            refine qv_cV (As := [.int (qI 58), .int (qI 58)]) (rest := []) (wc := [(u, .inr (5, [.int (qI cd), .int (qI sz), .ref utx, .int (qI cu2), .int (qI fa2), .int (qI rdn), .ref uro, .ref urc, .ref urn, .ref urp, .ref ula, .int (qI n), .ref uop, .ref urg, .ref utg, .ref ude, .ref ule, .ref udn, .ref uv, .ref ub, .int (qI pl), .long (qL st), .int (qI on), .long (qL cn), .int (qI hd), .long (qL ps), .long (qL ss), .ref ubf, .ref ubh, .long (qL tk), .ref ukp, .ref uwa])), (utx, .inl (G.2.1, 120, .inl (qA x)))]) (wr := [(ula, .inl (G.2.1, 26, .inl (qA la1)))]) C k_D_take (c_D_take l G (lo := 58) (hi := 58) (cu := cu2) (fa := fa2) hsz hx (by omega) h9a (by omega) (by omega)) wm_D_91 wi_D_take ws_D_take 0 rfl rfl (by decide) d_D_readLabels_61 rfl rfl (Nat.le_of_ble_eq_true rfl) (by decide) [1, 2] [0] rfl (by decide) rfl (by decide) (by decide) (fun v ws' hpost => ?_)
            obtain ⟨y2, cu3, fa3, rfl, rfl, hal2⟩ := hpost
            refine qv_eq (ws' := [(ula, .inl (G.2.1, 26, .inl (qA la1))), (u, .inr (5, [.int (qI cd), .int (qI sz), .ref utx, .int (qI cu3), .int (qI fa3), .int (qI rdn), .ref uro, .ref urc, .ref urn, .ref urp, .ref ula, .int (qI n), .ref uop, .ref urg, .ref utg, .ref ude, .ref ule, .ref udn, .ref uv, .ref ub, .int (qI pl), .long (qL st), .int (qI on), .long (qL cn), .int (qI hd), .long (qL ps), .long (qL ss), .ref ubf, .ref ubh, .long (qL tk), .ref ukp, .ref uwa])), (utx, .inl (G.2.1, 120, .inl (qA x)))]) (st' := [.int (qI y2)]) rfl rfl rfl ?_
            have hal2r : (0 ≤ cu3 ∧ cu3 ≤ sz) ∧ (cu2 ≤ cu3) ∧ (-1 ≤ fa3 ∧ fa3 ≤ 120) ∧ (y2 = -1 ∨ (58 ≤ y2 ∧ y2 ≤ 58)) := by
              rcases hal2 with q | q | ⟨q1, q2, q3, q4, q5⟩
              · omega
              · omega
              · have q6 := q5.1; have q7 := q5.2.1; omega
            refine qv_pop C d_D_readLabels_64 rfl ?_
            refine qv_aload_n C 1 d_D_readLabels_65 rfl rfl ?_
            refine qv_get C in_D 1 rfl rfl 10 (by decide) wf_D_25 rfl rfl d_D_readLabels_66 ?_
            refine qv_iload_n C 0 d_D_readLabels_69 rfl rfl ?_
            refine qv_bipush C d_D_readLabels_70 (by decide) ?_
            refine qv_isub C d_D_readLabels_72 ?_
            refine qv_aload_n C 1 d_D_readLabels_73 rfl rfl ?_
            refine qv_get C in_D 1 rfl rfl 5 (by decide) wf_D_95 rfl rfl d_D_readLabels_74 ?_
            refine qv_iast C 0 rfl (by omega) d_D_readLabels_77 (ws' := [(ula, .inl (G.2.1, 26, .inl (qA (qU la1 (y1 - 65) rdn)))), (u, .inr (5, [.int (qI cd), .int (qI sz), .ref utx, .int (qI cu3), .int (qI fa3), .int (qI rdn), .ref uro, .ref urc, .ref urn, .ref urp, .ref ula, .int (qI n), .ref uop, .ref urg, .ref utg, .ref ude, .ref ule, .ref udn, .ref uv, .ref ub, .int (qI pl), .long (qL st), .int (qI on), .long (qL cn), .int (qI hd), .long (qL ps), .long (qL ss), .ref ubf, .ref ubh, .long (qL tk), .ref ukp, .ref uwa])), (utx, .inl (G.2.1, 120, .inl (qA x)))]) rfl ?_
            refine qv_goto C d_D_readLabels_78 (by decide) (tgt := 0) ?_
            refine qv_lv (lv' := [(0, .ref u)]) [1] rfl ?_
            refine qv_ws (ws' := [(u, .inr (5, [.int (qI cd), .int (qI sz), .ref utx, .int (qI cu3), .int (qI fa3), .int (qI rdn), .ref uro, .ref urc, .ref urn, .ref urp, .ref ula, .int (qI n), .ref uop, .ref urg, .ref utg, .ref ude, .ref ule, .ref udn, .ref uv, .ref ub, .int (qI pl), .long (qL st), .int (qI on), .long (qL cn), .int (qI hd), .long (qL ps), .long (qL ss), .ref ubf, .ref ubh, .long (qL tk), .ref ukp, .ref uwa])), (utx, .inl (G.2.1, 120, .inl (qA x))), (ula, .inl (G.2.1, 26, .inl (qA (qU la1 (y1 - 65) rdn))))]) [1, 2, 0] (by decide) rfl ?_
            exact ih0 cu3 fa3 (qU la1 (y1 - 65) rdn) 1 (by omega) (by rcases hal2 with q | ⟨q1, q2, q3, q4, q5⟩ | ⟨q1, q2, q3, q4, q5⟩; (· exfalso; omega); (· exact Or.inr ⟨by omega, by rw [q5]; exact m_col_no hz (by omega) hn2 q2⟩); (· exact Or.inl ⟨q4, by rw [hy1]; exact m_col hz (by omega) (by omega) q5, fun _ => Or.inr rfl⟩)) (by omega) (by intro qa qb; rcases hal2 with q | ⟨q1, q2, q3, q4, q5⟩ | ⟨q1, q2, q3, q4, q5⟩; (· exfalso; omega); (· exfalso; omega); (· exact q5.2.2.1 qb)) (qU_rg hla1 (by omega))
          · refine qv_aload_n C 0 d_D_readLabels_38 rfl rfl ?_
            refine qv_aload_n C 0 d_D_readLabels_39 rfl rfl ?_
            refine qv_get C in_D 1 rfl rfl 3 (by decide) wf_D_77 rfl rfl d_D_readLabels_40 ?_
            refine qv_put C in_D 1 rfl rfl 4 (by decide) t_D t_D_ok n_D wf_D_80 rfl rfl (t_D_ok 4 (by decide)) (rfl) (rfl) (Nat.le_of_ble_eq_true rfl) d_D_readLabels_43 (ws' := [(ula, .inl (G.2.1, 26, .inl (qA la1))), (u, .inr (5, [.int (qI cd), .int (qI sz), .ref utx, .int (qI cu1), .int (qI cu1), .int (qI rdn), .ref uro, .ref urc, .ref urn, .ref urp, .ref ula, .int (qI n), .ref uop, .ref urg, .ref utg, .ref ude, .ref ule, .ref udn, .ref uv, .ref ub, .int (qI pl), .long (qL st), .int (qI on), .long (qL cn), .int (qI hd), .long (qL ps), .long (qL ss), .ref ubf, .ref ubh, .long (qL tk), .ref ukp, .ref uwa])), (utx, .inl (G.2.1, 120, .inl (qA x)))]) rfl ?_
            refine qv_ws (ws' := [(u, .inr (5, [.int (qI cd), .int (qI sz), .ref utx, .int (qI cu1), .int (qI cu1), .int (qI rdn), .ref uro, .ref urc, .ref urn, .ref urp, .ref ula, .int (qI n), .ref uop, .ref urg, .ref utg, .ref ude, .ref ule, .ref udn, .ref uv, .ref ub, .int (qI pl), .long (qL st), .int (qI on), .long (qL cn), .int (qI hd), .long (qL ps), .long (qL ss), .ref ubf, .ref ubh, .long (qL tk), .ref ukp, .ref uwa])), (utx, .inl (G.2.1, 120, .inl (qA x))), (ula, .inl (G.2.1, 26, .inl (qA la1)))]) [1, 2, 0] (by decide) rfl ?_
            refine qv_vret C hrt hlk d_D_readLabels_46 ?_
            exact ⟨cu1, cu1, la1, lb1, rfl, rfl, by omega, hla1, Or.inr ⟨by omega, m_lab_no hrl1 hrd (by omega) (by omega) (by omega)⟩⟩
  exact L0 _ cu fa la lb (Nat.lt_succ_self _) (Or.inl ⟨hfa, hrl, hend⟩) (by omega) (fun _ => hns) (hla)
set_option maxHeartbeats 4000000 in
set_option maxRecDepth 100000 in
theorem c_D_readName (l : Launch) (G : qG) {u utx uro urc urn urp ula uop urg utg ude ule udn uv ub ubf ubh ukp uwa : Nat} {cd sz cu fa rdn n pl st on cn hd ps ss tk : Int} {x rn rp : Int → Int} (hsz : 0 ≤ sz ∧ sz ≤ 120) (hx : ∀ i, 0 ≤ x i ∧ x i ≤ 126) (hcu : 0 ≤ cu ∧ cu ≤ sz) (hfa : -1 ≤ fa ∧ fa ≤ 120) (hrd : 0 ≤ rdn ∧ rdn < 24) : qM l G y_D_readName b_D_readName 3 none ({ frames := 2, cells := 0, slots := 0, locals := 45 }) [.ref u] [(u, .inr (5, [.int (qI cd), .int (qI sz), .ref utx, .int (qI cu), .int (qI fa), .int (qI rdn), .ref uro, .ref urc, .ref urn, .ref urp, .ref ula, .int (qI n), .ref uop, .ref urg, .ref utg, .ref ude, .ref ule, .ref udn, .ref uv, .ref ub, .int (qI pl), .long (qL st), .int (qI on), .long (qL cn), .int (qI hd), .long (qL ps), .long (qL ss), .ref ubf, .ref ubh, .long (qL tk), .ref ukp, .ref uwa])), (utx, .inl (G.2.1, 120, .inl (qA x))), (urn, .inl (G.2.1, 24, .inl (qA rn))), (urp, .inl (G.2.1, 24, .inl (qA rp)))] (fun v' ws' => ∃ y cu' fa' : Int, v' = none ∧ ws' = [(u, .inr (5, [.int (qI cd), .int (qI sz), .ref utx, .int (qI cu'), .int (qI fa'), .int (qI rdn), .ref uro, .ref urc, .ref urn, .ref urp, .ref ula, .int (qI n), .ref uop, .ref urg, .ref utg, .ref ude, .ref ule, .ref udn, .ref uv, .ref ub, .int (qI pl), .long (qL st), .int (qI on), .long (qL cn), .int (qI hd), .long (qL ps), .long (qL ss), .ref ubf, .ref ubh, .long (qL tk), .ref ukp, .ref uwa])), (utx, .inl (G.2.1, 120, .inl (qA x))), (urn, .inl (G.2.1, 24, .inl (qA (qU rn rdn (y - 65))))), (urp, .inl (G.2.1, 24, .inl (qA (qU rp rdn cu))))] ∧ ((0 ≤ fa ∧ y = -1 ∧ cu' = cu ∧ fa' = fa) ∨ (fa = -1 ∧ ¬ (cu < sz ∧ 65 ≤ x cu ∧ x cu ≤ 90) ∧ y = -1 ∧ cu' = cu ∧ fa' = cu) ∨ (fa = -1 ∧ (cu < sz ∧ 65 ≤ x cu ∧ x cu ≤ 90) ∧ y = x cu ∧ fa' = -1 ∧ m_skp x sz (cu + 1) cu')) ∧ ((0 ≤ cu' ∧ cu' ≤ sz) ∧ (-1 ≤ fa' ∧ fa' ≤ 120) ∧ (y = -1 ∨ (65 ≤ y ∧ y ≤ 90)))) := by
  refine qM.of (by decide) (Nat.le_of_ble_eq_true rfl) (fun xp xe xs xm xb xme xc A C hrt hlk hnm => ?_)
  refine qv_eq (lv' := [(0, .ref u)]) rfl rfl rfl ?_
  refine qv_aload_n C 0 d_D_readName_0 rfl rfl ?_
  refine qv_get C in_D 0 rfl rfl 3 (by decide) wf_D_77 rfl rfl d_D_readName_1 ?_
  refine qv_istore_n C d_D_readName_4 rfl (by decide) (lv' := [(1, .int (qI cu)), (0, .ref u)]) rfl ?_
  refine qv_aload_n C 1 d_D_readName_5 rfl rfl ?_
  refine qv_bipush C d_D_readName_6 (by decide) ?_
  refine qv_bipush C d_D_readName_8 (by decide) ?_
  have h9a : -1 ≤ fa ∧ fa ≤ 120 := by omega
  refine qv_cV (As := [.int (qI 65), .int (qI 90)]) (rest := []) (wc := [(u, .inr (5, [.int (qI cd), .int (qI sz), .ref utx, .int (qI cu), .int (qI fa), .int (qI rdn), .ref uro, .ref urc, .ref urn, .ref urp, .ref ula, .int (qI n), .ref uop, .ref urg, .ref utg, .ref ude, .ref ule, .ref udn, .ref uv, .ref ub, .int (qI pl), .long (qL st), .int (qI on), .long (qL cn), .int (qI hd), .long (qL ps), .long (qL ss), .ref ubf, .ref ubh, .long (qL tk), .ref ukp, .ref uwa])), (utx, .inl (G.2.1, 120, .inl (qA x)))]) (wr := [(urn, .inl (G.2.1, 24, .inl (qA rn))), (urp, .inl (G.2.1, 24, .inl (qA rp)))]) C k_D_take (c_D_take l G (lo := 65) (hi := 90) (cu := cu) (fa := fa) hsz hx (by omega) h9a (by omega) (by omega)) wm_D_91 wi_D_take ws_D_take 0 rfl rfl (by decide) d_D_readName_10 rfl rfl (Nat.le_of_ble_eq_true rfl) (by decide) [0, 1] [2, 3] rfl (by decide) rfl (by decide) (by decide) (fun v ws' hpost => ?_)
  obtain ⟨y, cu', fa', rfl, rfl, hal⟩ := hpost
  refine qv_eq (ws' := [(urn, .inl (G.2.1, 24, .inl (qA rn))), (urp, .inl (G.2.1, 24, .inl (qA rp))), (u, .inr (5, [.int (qI cd), .int (qI sz), .ref utx, .int (qI cu'), .int (qI fa'), .int (qI rdn), .ref uro, .ref urc, .ref urn, .ref urp, .ref ula, .int (qI n), .ref uop, .ref urg, .ref utg, .ref ude, .ref ule, .ref udn, .ref uv, .ref ub, .int (qI pl), .long (qL st), .int (qI on), .long (qL cn), .int (qI hd), .long (qL ps), .long (qL ss), .ref ubf, .ref ubh, .long (qL tk), .ref ukp, .ref uwa])), (utx, .inl (G.2.1, 120, .inl (qA x)))]) (st' := [.int (qI y)]) rfl rfl rfl ?_
  have halr : (0 ≤ cu' ∧ cu' ≤ sz) ∧ (cu ≤ cu') ∧ (-1 ≤ fa' ∧ fa' ≤ 120) ∧ (y = -1 ∨ (65 ≤ y ∧ y ≤ 90)) := by
    rcases hal with q | q | ⟨q1, q2, q3, q4, q5⟩
    · omega
    · omega
    · have q6 := q5.1; have q7 := q5.2.1; omega
  refine qv_istore_n C d_D_readName_13 rfl (by decide) (lv' := [(2, .int (qI y)), (1, .int (qI cu)), (0, .ref u)]) rfl ?_
  refine qv_aload_n C 2 d_D_readName_14 rfl rfl ?_
  refine qv_get C in_D 2 rfl rfl 8 (by decide) wf_D_19 rfl rfl d_D_readName_15 ?_
  refine qv_aload_n C 2 d_D_readName_18 rfl rfl ?_
  refine qv_get C in_D 2 rfl rfl 5 (by decide) wf_D_95 rfl rfl d_D_readName_19 ?_
  refine qv_iload_n C 0 d_D_readName_22 rfl rfl ?_
  refine qv_bipush C d_D_readName_23 (by decide) ?_
  refine qv_isub C d_D_readName_25 ?_
  refine qv_iast C 0 rfl (by omega) d_D_readName_26 (ws' := [(urn, .inl (G.2.1, 24, .inl (qA (qU rn rdn (y - 65))))), (urp, .inl (G.2.1, 24, .inl (qA rp))), (u, .inr (5, [.int (qI cd), .int (qI sz), .ref utx, .int (qI cu'), .int (qI fa'), .int (qI rdn), .ref uro, .ref urc, .ref urn, .ref urp, .ref ula, .int (qI n), .ref uop, .ref urg, .ref utg, .ref ude, .ref ule, .ref udn, .ref uv, .ref ub, .int (qI pl), .long (qL st), .int (qI on), .long (qL cn), .int (qI hd), .long (qL ps), .long (qL ss), .ref ubf, .ref ubh, .long (qL tk), .ref ukp, .ref uwa])), (utx, .inl (G.2.1, 120, .inl (qA x)))]) rfl ?_
  refine qv_aload_n C 2 d_D_readName_27 rfl rfl ?_
  refine qv_get C in_D 2 rfl rfl 9 (by decide) wf_D_22 rfl rfl d_D_readName_28 ?_
  refine qv_aload_n C 2 d_D_readName_31 rfl rfl ?_
  refine qv_get C in_D 2 rfl rfl 5 (by decide) wf_D_95 rfl rfl d_D_readName_32 ?_
  refine qv_iload_n C 1 d_D_readName_35 rfl rfl ?_
  refine qv_iast C 1 rfl (by omega) d_D_readName_36 (ws' := [(urn, .inl (G.2.1, 24, .inl (qA (qU rn rdn (y - 65))))), (urp, .inl (G.2.1, 24, .inl (qA (qU rp rdn cu)))), (u, .inr (5, [.int (qI cd), .int (qI sz), .ref utx, .int (qI cu'), .int (qI fa'), .int (qI rdn), .ref uro, .ref urc, .ref urn, .ref urp, .ref ula, .int (qI n), .ref uop, .ref urg, .ref utg, .ref ude, .ref ule, .ref udn, .ref uv, .ref ub, .int (qI pl), .long (qL st), .int (qI on), .long (qL cn), .int (qI hd), .long (qL ps), .long (qL ss), .ref ubf, .ref ubh, .long (qL tk), .ref ukp, .ref uwa])), (utx, .inl (G.2.1, 120, .inl (qA x)))]) rfl ?_
  refine qv_ws (ws' := [(u, .inr (5, [.int (qI cd), .int (qI sz), .ref utx, .int (qI cu'), .int (qI fa'), .int (qI rdn), .ref uro, .ref urc, .ref urn, .ref urp, .ref ula, .int (qI n), .ref uop, .ref urg, .ref utg, .ref ude, .ref ule, .ref udn, .ref uv, .ref ub, .int (qI pl), .long (qL st), .int (qI on), .long (qL cn), .int (qI hd), .long (qL ps), .long (qL ss), .ref ubf, .ref ubh, .long (qL tk), .ref ukp, .ref uwa])), (utx, .inl (G.2.1, 120, .inl (qA x))), (urn, .inl (G.2.1, 24, .inl (qA (qU rn rdn (y - 65))))), (urp, .inl (G.2.1, 24, .inl (qA (qU rp rdn cu))))]) [2, 3, 0, 1] (by decide) rfl ?_
  refine qv_vret C hrt hlk d_D_readName_37 ?_
  exact ⟨y, cu', fa', rfl, rfl, hal, by omega⟩
set_option maxHeartbeats 4000000 in
set_option maxRecDepth 100000 in
theorem c_D_readInstruction (l : Launch) (G : qG) {u utx uro urc urn urp ula uop urg utg ude ule udn uv ub ubf ubh ukp uwa : Nat} {cd sz cu fa rdn n pl st on cn hd ps ss tk : Int} {lb : Int} {T0 : Sum Int m_X} {x ro rc rn rp la : Int → Int} (hsz : 0 ≤ sz ∧ sz ≤ 120) (hx : ∀ i, 0 ≤ x i ∧ x i ≤ 126) (hcu : 0 ≤ cu ∧ cu ≤ sz) (hfa : -1 ≤ fa ∧ fa ≤ 120) (hrd9 : 0 ≤ rdn ∧ rdn < 24) (hrr : m_rr ro rc rn rp la) (hst : (fa = -1 ∧ m_rl x sz T0 0 lb rdn cu ro rc rn rp la ∧ (cu = sz → rdn = 0 ∨ lb = 1) ∧ ¬ (cu < sz ∧ 65 ≤ x cu ∧ x cu ≤ 90) ∧ (cu < sz → ¬ x cu = 32)) ∨ (0 ≤ fa ∧ m_ft T0 sz fa)) : qM l G y_D_readInstruction b_D_readInstruction 2 none ({ frames := 3, cells := 0, slots := 0, locals := 67 }) [.ref u] [(u, .inr (5, [.int (qI cd), .int (qI sz), .ref utx, .int (qI cu), .int (qI fa), .int (qI rdn), .ref uro, .ref urc, .ref urn, .ref urp, .ref ula, .int (qI n), .ref uop, .ref urg, .ref utg, .ref ude, .ref ule, .ref udn, .ref uv, .ref ub, .int (qI pl), .long (qL st), .int (qI on), .long (qL cn), .int (qI hd), .long (qL ps), .long (qL ss), .ref ubf, .ref ubh, .long (qL tk), .ref ukp, .ref uwa])), (utx, .inl (G.2.1, 120, .inl (qA x))), (uro, .inl (G.2.1, 24, .inl (qA ro))), (urc, .inl (G.2.1, 24, .inl (qA rc))), (urn, .inl (G.2.1, 24, .inl (qA rn))), (urp, .inl (G.2.1, 24, .inl (qA rp)))] (fun v' ws' => ∃ (cu1 fa1 rd1 : Int) (ro1 rc1 rn1 rp1 : Int → Int), v' = none ∧ ws' = [(u, .inr (5, [.int (qI cd), .int (qI sz), .ref utx, .int (qI cu1), .int (qI fa1), .int (qI rd1), .ref uro, .ref urc, .ref urn, .ref urp, .ref ula, .int (qI n), .ref uop, .ref urg, .ref utg, .ref ude, .ref ule, .ref udn, .ref uv, .ref ub, .int (qI pl), .long (qL st), .int (qI on), .long (qL cn), .int (qI hd), .long (qL ps), .long (qL ss), .ref ubf, .ref ubh, .long (qL tk), .ref ukp, .ref uwa])), (utx, .inl (G.2.1, 120, .inl (qA x))), (uro, .inl (G.2.1, 24, .inl (qA ro1))), (urc, .inl (G.2.1, 24, .inl (qA rc1))), (urn, .inl (G.2.1, 24, .inl (qA rn1))), (urp, .inl (G.2.1, 24, .inl (qA rp1)))] ∧ m_rr ro1 rc1 rn1 rp1 la ∧ ((0 ≤ cu1 ∧ cu1 ≤ sz) ∧ (-1 ≤ fa1 ∧ fa1 ≤ 120)) ∧ ((fa1 = -1 ∧ rd1 = rdn + 1 ∧ m_rl x sz T0 4 0 (rdn + 1) cu1 ro1 rc1 rn1 rp1 la ∧ (cu1 < sz → ¬ x cu1 = 32)) ∨ (0 ≤ fa1 ∧ m_ft T0 sz fa1 ∧ rdn ≤ rd1 ∧ rd1 ≤ rdn + 1))) := by
  refine qM.of (by decide) (Nat.le_of_ble_eq_true rfl) (fun xp xe xs xm xb xme xc A C hrt hlk hnm => ?_)
  refine qv_eq (lv' := [(0, .ref u)]) rfl rfl rfl ?_
  refine qv_aload_n C 0 d_D_readInstruction_0 rfl rfl ?_
  refine qv_get C in_D 0 rfl rfl 4 (by decide) wf_D_80 rfl rfl d_D_readInstruction_1 ?_
  refine qv_if_lt C d_D_readInstruction_4 (tgt := 8) (by decide) (by omega) (fun ht4 => ?_) (fun hf4 => ?_)
  · obtain ⟨hfa1, hrl, hend, hnl, hns⟩ := hst.resolve_right (fun q => by omega)
    have hrd := hrd9.2
    have J33 : ∀ (c : Int), ((cu < sz ∧ c = x cu) ∨ (cu = sz ∧ c = 0)) → (0 ≤ c ∧ c ≤ 126) → qV xp l xe ({ frames := 3, cells := 0, slots := 0, locals := 67 }) xs xm [.ref u].toArray xb xme xc G A xs.heap 2 (MQ xb (qQ G A (fun v' ws' => ∃ (cu1 fa1 rd1 : Int) (ro1 rc1 rn1 rp1 : Int → Int), v' = none ∧ ws' = [(u, .inr (5, [.int (qI cd), .int (qI sz), .ref utx, .int (qI cu1), .int (qI fa1), .int (qI rd1), .ref uro, .ref urc, .ref urn, .ref urp, .ref ula, .int (qI n), .ref uop, .ref urg, .ref utg, .ref ude, .ref ule, .ref udn, .ref uv, .ref ub, .int (qI pl), .long (qL st), .int (qI on), .long (qL cn), .int (qI hd), .long (qL ps), .long (qL ss), .ref ubf, .ref ubh, .long (qL tk), .ref ukp, .ref uwa])), (utx, .inl (G.2.1, 120, .inl (qA x))), (uro, .inl (G.2.1, 24, .inl (qA ro1))), (urc, .inl (G.2.1, 24, .inl (qA rc1))), (urn, .inl (G.2.1, 24, .inl (qA rn1))), (urp, .inl (G.2.1, 24, .inl (qA rp1)))] ∧ m_rr ro1 rc1 rn1 rp1 la ∧ ((0 ≤ cu1 ∧ cu1 ≤ sz) ∧ (-1 ≤ fa1 ∧ fa1 ≤ 120)) ∧ ((fa1 = -1 ∧ rd1 = rdn + 1 ∧ m_rl x sz T0 4 0 (rdn + 1) cu1 ro1 rc1 rn1 rp1 la ∧ (cu1 < sz → ¬ x cu1 = 32)) ∨ (0 ≤ fa1 ∧ m_ft T0 sz fa1 ∧ rdn ≤ rd1 ∧ rd1 ≤ rdn + 1)))) [.ref u].toArray xs 0 0 A) 0 0 [(u, .inr (5, [.int (qI cd), .int (qI sz), .ref utx, .int (qI cu), .int (qI fa), .int (qI rdn), .ref uro, .ref urc, .ref urn, .ref urp, .ref ula, .int (qI n), .ref uop, .ref urg, .ref utg, .ref ude, .ref ule, .ref udn, .ref uv, .ref ub, .int (qI pl), .long (qL st), .int (qI on), .long (qL cn), .int (qI hd), .long (qL ps), .long (qL ss), .ref ubf, .ref ubh, .long (qL tk), .ref ukp, .ref uwa])), (utx, .inl (G.2.1, 120, .inl (qA x))), (uro, .inl (G.2.1, 24, .inl (qA ro))), (urc, .inl (G.2.1, 24, .inl (qA rc))), (urn, .inl (G.2.1, 24, .inl (qA rn))), (urp, .inl (G.2.1, 24, .inl (qA rp)))] [(1, .int (qI c)), (0, .ref u)] 33 [] := by
      intro c hcc hc126
      refine qv_aload_n C 1 d_D_readInstruction_33 rfl rfl ?_
      have J73 : ∀ (c : Int) (kd : Int), ((cu < sz ∧ c = x cu) ∨ (cu = sz ∧ c = 0)) → (0 ≤ c ∧ c ≤ 126) → ((c = 43 ∧ kd = 0) ∨ (c = 45 ∧ kd = 1) ∨ (c = 62 ∧ kd = 2) ∨ (¬ c = 43 ∧ ¬ c = 45 ∧ ¬ c = 62 ∧ kd = 3)) → qV xp l xe ({ frames := 3, cells := 0, slots := 0, locals := 67 }) xs xm [.ref u].toArray xb xme xc G A xs.heap 2 (MQ xb (qQ G A (fun v' ws' => ∃ (cu1 fa1 rd1 : Int) (ro1 rc1 rn1 rp1 : Int → Int), v' = none ∧ ws' = [(u, .inr (5, [.int (qI cd), .int (qI sz), .ref utx, .int (qI cu1), .int (qI fa1), .int (qI rd1), .ref uro, .ref urc, .ref urn, .ref urp, .ref ula, .int (qI n), .ref uop, .ref urg, .ref utg, .ref ude, .ref ule, .ref udn, .ref uv, .ref ub, .int (qI pl), .long (qL st), .int (qI on), .long (qL cn), .int (qI hd), .long (qL ps), .long (qL ss), .ref ubf, .ref ubh, .long (qL tk), .ref ukp, .ref uwa])), (utx, .inl (G.2.1, 120, .inl (qA x))), (uro, .inl (G.2.1, 24, .inl (qA ro1))), (urc, .inl (G.2.1, 24, .inl (qA rc1))), (urn, .inl (G.2.1, 24, .inl (qA rn1))), (urp, .inl (G.2.1, 24, .inl (qA rp1)))] ∧ m_rr ro1 rc1 rn1 rp1 la ∧ ((0 ≤ cu1 ∧ cu1 ≤ sz) ∧ (-1 ≤ fa1 ∧ fa1 ≤ 120)) ∧ ((fa1 = -1 ∧ rd1 = rdn + 1 ∧ m_rl x sz T0 4 0 (rdn + 1) cu1 ro1 rc1 rn1 rp1 la ∧ (cu1 < sz → ¬ x cu1 = 32)) ∨ (0 ≤ fa1 ∧ m_ft T0 sz fa1 ∧ rdn ≤ rd1 ∧ rd1 ≤ rdn + 1)))) [.ref u].toArray xs 0 0 A) 0 0 [(u, .inr (5, [.int (qI cd), .int (qI sz), .ref utx, .int (qI cu), .int (qI fa), .int (qI rdn), .ref uro, .ref urc, .ref urn, .ref urp, .ref ula, .int (qI n), .ref uop, .ref urg, .ref utg, .ref ude, .ref ule, .ref udn, .ref uv, .ref ub, .int (qI pl), .long (qL st), .int (qI on), .long (qL cn), .int (qI hd), .long (qL ps), .long (qL ss), .ref ubf, .ref ubh, .long (qL tk), .ref ukp, .ref uwa])), (utx, .inl (G.2.1, 120, .inl (qA x))), (uro, .inl (G.2.1, 24, .inl (qA (qU ro rdn kd)))), (urc, .inl (G.2.1, 24, .inl (qA rc))), (urn, .inl (G.2.1, 24, .inl (qA rn))), (urp, .inl (G.2.1, 24, .inl (qA rp)))] [(1, .int (qI c)), (0, .ref u)] 73 [] := by
        intro c kd hcc hc126 hkd
        refine qv_iload_n C 0 d_D_readInstruction_73 rfl rfl ?_
        have J106 : ∀ (c : Int) (kd : Int), ((cu < sz ∧ c = x cu) ∨ (cu = sz ∧ c = 0)) → ((c = 43 ∧ kd = 0) ∨ (c = 45 ∧ kd = 1) ∨ (c = 62 ∧ kd = 2) ∨ (¬ c = 43 ∧ ¬ c = 45 ∧ ¬ c = 62 ∧ kd = 3)) → (c = 43 ∨ c = 45 ∨ c = 62 ∨ c = 46) → qV xp l xe ({ frames := 3, cells := 0, slots := 0, locals := 67 }) xs xm [.ref u].toArray xb xme xc G A xs.heap 2 (MQ xb (qQ G A (fun v' ws' => ∃ (cu1 fa1 rd1 : Int) (ro1 rc1 rn1 rp1 : Int → Int), v' = none ∧ ws' = [(u, .inr (5, [.int (qI cd), .int (qI sz), .ref utx, .int (qI cu1), .int (qI fa1), .int (qI rd1), .ref uro, .ref urc, .ref urn, .ref urp, .ref ula, .int (qI n), .ref uop, .ref urg, .ref utg, .ref ude, .ref ule, .ref udn, .ref uv, .ref ub, .int (qI pl), .long (qL st), .int (qI on), .long (qL cn), .int (qI hd), .long (qL ps), .long (qL ss), .ref ubf, .ref ubh, .long (qL tk), .ref ukp, .ref uwa])), (utx, .inl (G.2.1, 120, .inl (qA x))), (uro, .inl (G.2.1, 24, .inl (qA ro1))), (urc, .inl (G.2.1, 24, .inl (qA rc1))), (urn, .inl (G.2.1, 24, .inl (qA rn1))), (urp, .inl (G.2.1, 24, .inl (qA rp1)))] ∧ m_rr ro1 rc1 rn1 rp1 la ∧ ((0 ≤ cu1 ∧ cu1 ≤ sz) ∧ (-1 ≤ fa1 ∧ fa1 ≤ 120)) ∧ ((fa1 = -1 ∧ rd1 = rdn + 1 ∧ m_rl x sz T0 4 0 (rdn + 1) cu1 ro1 rc1 rn1 rp1 la ∧ (cu1 < sz → ¬ x cu1 = 32)) ∨ (0 ≤ fa1 ∧ m_ft T0 sz fa1 ∧ rdn ≤ rd1 ∧ rd1 ≤ rdn + 1)))) [.ref u].toArray xs 0 0 A) 0 0 [(u, .inr (5, [.int (qI cd), .int (qI sz), .ref utx, .int (qI cu), .int (qI fa), .int (qI rdn), .ref uro, .ref urc, .ref urn, .ref urp, .ref ula, .int (qI n), .ref uop, .ref urg, .ref utg, .ref ude, .ref ule, .ref udn, .ref uv, .ref ub, .int (qI pl), .long (qL st), .int (qI on), .long (qL cn), .int (qI hd), .long (qL ps), .long (qL ss), .ref ubf, .ref ubh, .long (qL tk), .ref ukp, .ref uwa])), (utx, .inl (G.2.1, 120, .inl (qA x))), (uro, .inl (G.2.1, 24, .inl (qA (qU ro rdn kd)))), (urc, .inl (G.2.1, 24, .inl (qA rc))), (urn, .inl (G.2.1, 24, .inl (qA rn))), (urp, .inl (G.2.1, 24, .inl (qA rp)))] [(1, .int (qI c)), (0, .ref u)] 106 [] := by
          intro c kd hcc hkd hop
          refine qv_aload_n C 1 d_D_readInstruction_106 rfl rfl ?_
          refine qv_get C in_D 0 rfl rfl 7 (by decide) wf_D_16 rfl rfl d_D_readInstruction_107 ?_
          refine qv_aload_n C 1 d_D_readInstruction_110 rfl rfl ?_
          refine qv_get C in_D 0 rfl rfl 5 (by decide) wf_D_95 rfl rfl d_D_readInstruction_111 ?_
          refine qv_iconst C d_D_readInstruction_114 ?_
          refine qv_iast C 3 rfl (by omega) d_D_readInstruction_115 (ws' := [(u, .inr (5, [.int (qI cd), .int (qI sz), .ref utx, .int (qI cu), .int (qI fa), .int (qI rdn), .ref uro, .ref urc, .ref urn, .ref urp, .ref ula, .int (qI n), .ref uop, .ref urg, .ref utg, .ref ude, .ref ule, .ref udn, .ref uv, .ref ub, .int (qI pl), .long (qL st), .int (qI on), .long (qL cn), .int (qI hd), .long (qL ps), .long (qL ss), .ref ubf, .ref ubh, .long (qL tk), .ref ukp, .ref uwa])), (utx, .inl (G.2.1, 120, .inl (qA x))), (uro, .inl (G.2.1, 24, .inl (qA (qU ro rdn kd)))), (urc, .inl (G.2.1, 24, .inl (qA (qU rc rdn (-1))))), (urn, .inl (G.2.1, 24, .inl (qA rn))), (urp, .inl (G.2.1, 24, .inl (qA rp)))]) rfl ?_
          refine qv_aload_n C 1 d_D_readInstruction_116 rfl rfl ?_
          refine qv_get C in_D 0 rfl rfl 8 (by decide) wf_D_19 rfl rfl d_D_readInstruction_117 ?_
          refine qv_aload_n C 1 d_D_readInstruction_120 rfl rfl ?_
          refine qv_get C in_D 0 rfl rfl 5 (by decide) wf_D_95 rfl rfl d_D_readInstruction_121 ?_
          refine qv_iconst C d_D_readInstruction_124 ?_
          refine qv_iast C 4 rfl (by omega) d_D_readInstruction_125 (ws' := [(u, .inr (5, [.int (qI cd), .int (qI sz), .ref utx, .int (qI cu), .int (qI fa), .int (qI rdn), .ref uro, .ref urc, .ref urn, .ref urp, .ref ula, .int (qI n), .ref uop, .ref urg, .ref utg, .ref ude, .ref ule, .ref udn, .ref uv, .ref ub, .int (qI pl), .long (qL st), .int (qI on), .long (qL cn), .int (qI hd), .long (qL ps), .long (qL ss), .ref ubf, .ref ubh, .long (qL tk), .ref ukp, .ref uwa])), (utx, .inl (G.2.1, 120, .inl (qA x))), (uro, .inl (G.2.1, 24, .inl (qA (qU ro rdn kd)))), (urc, .inl (G.2.1, 24, .inl (qA (qU rc rdn (-1))))), (urn, .inl (G.2.1, 24, .inl (qA (qU rn rdn (-1))))), (urp, .inl (G.2.1, 24, .inl (qA rp)))]) rfl ?_
          refine qv_aload_n C 1 d_D_readInstruction_126 rfl rfl ?_
          refine qv_aload_n C 1 d_D_readInstruction_127 rfl rfl ?_
          refine qv_get C in_D 0 rfl rfl 3 (by decide) wf_D_77 rfl rfl d_D_readInstruction_128 ?_
          refine qv_iconst C d_D_readInstruction_131 ?_
          refine qv_iadd C d_D_readInstruction_132 ?_
          refine qv_cV (As := [.int (qI (cu + 1))]) (rest := []) (wc := [(u, .inr (5, [.int (qI cd), .int (qI sz), .ref utx, .int (qI cu), .int (qI fa), .int (qI rdn), .ref uro, .ref urc, .ref urn, .ref urp, .ref ula, .int (qI n), .ref uop, .ref urg, .ref utg, .ref ude, .ref ule, .ref udn, .ref uv, .ref ub, .int (qI pl), .long (qL st), .int (qI on), .long (qL cn), .int (qI hd), .long (qL ps), .long (qL ss), .ref ubf, .ref ubh, .long (qL tk), .ref ukp, .ref uwa])), (utx, .inl (G.2.1, 120, .inl (qA x)))]) (wr := [(uro, .inl (G.2.1, 24, .inl (qA (qU ro rdn kd)))), (urc, .inl (G.2.1, 24, .inl (qA (qU rc rdn (-1))))), (urn, .inl (G.2.1, 24, .inl (qA (qU rn rdn (-1))))), (urp, .inl (G.2.1, 24, .inl (qA rp)))]) C k_D_go (c_D_go l G (fr := cu + 1) hsz hx (by omega)) wm_D_87 wi_D_go ws_D_go 0 rfl rfl (by decide) d_D_readInstruction_133 rfl rfl (Nat.le_of_ble_eq_true rfl) (by decide) [0, 1] [2, 3, 4, 5] rfl (by decide) rfl (by decide) (by decide) (fun v ws' hpost => ?_)
          obtain ⟨rfl, j, rfl, hg⟩ := hpost
          refine qv_eq (ws' := [(uro, .inl (G.2.1, 24, .inl (qA (qU ro rdn kd)))), (urc, .inl (G.2.1, 24, .inl (qA (qU rc rdn (-1))))), (urn, .inl (G.2.1, 24, .inl (qA (qU rn rdn (-1))))), (urp, .inl (G.2.1, 24, .inl (qA rp))), (u, .inr (5, [.int (qI cd), .int (qI sz), .ref utx, .int (qI j), .int (qI fa), .int (qI rdn), .ref uro, .ref urc, .ref urn, .ref urp, .ref ula, .int (qI n), .ref uop, .ref urg, .ref utg, .ref ude, .ref ule, .ref udn, .ref uv, .ref ub, .int (qI pl), .long (qL st), .int (qI on), .long (qL cn), .int (qI hd), .long (qL ps), .long (qL ss), .ref ubf, .ref ubh, .long (qL tk), .ref ukp, .ref uwa])), (utx, .inl (G.2.1, 120, .inl (qA x)))]) (st' := []) rfl rfl rfl ?_
          have hg1 := hg.1
          have hg2 := hg.2.1
          have hg3 := hg.2.2.1
          refine qv_iload_n C 0 d_D_readInstruction_136 rfl rfl ?_
          refine qv_bipush C d_D_readInstruction_137 (by decide) ?_
          refine qv_icmp_eq C d_D_readInstruction_139 (tgt := 148) (by decide) (by omega) (by omega) (fun ht139 => ?_) (fun hf139 => ?_)
          · refine qv_aload_n C 1 d_D_readInstruction_148 rfl rfl ?_
            refine qv_get C in_D 4 rfl rfl 7 (by decide) wf_D_16 rfl rfl d_D_readInstruction_149 ?_
            refine qv_aload_n C 1 d_D_readInstruction_152 rfl rfl ?_
            refine qv_get C in_D 4 rfl rfl 5 (by decide) wf_D_95 rfl rfl d_D_readInstruction_153 ?_
            refine qv_aload_n C 1 d_D_readInstruction_156 rfl rfl ?_
            refine qv_bipush C d_D_readInstruction_157 (by decide) ?_
            refine qv_bipush C d_D_readInstruction_159 (by decide) ?_
            have h9a : -1 ≤ fa ∧ fa ≤ 120 := by omega
            refine qv_cV (As := [.int (qI 97), .int (qI 104)]) (rest := [.int (qI rdn), .ref urc]) (wc := [(u, .inr (5, [.int (qI cd), .int (qI sz), .ref utx, .int (qI j), .int (qI fa), .int (qI rdn), .ref uro, .ref urc, .ref urn, .ref urp, .ref ula, .int (qI n), .ref uop, .ref urg, .ref utg, .ref ude, .ref ule, .ref udn, .ref uv, .ref ub, .int (qI pl), .long (qL st), .int (qI on), .long (qL cn), .int (qI hd), .long (qL ps), .long (qL ss), .ref ubf, .ref ubh, .long (qL tk), .ref ukp, .ref uwa])), (utx, .inl (G.2.1, 120, .inl (qA x)))]) (wr := [(uro, .inl (G.2.1, 24, .inl (qA (qU ro rdn kd)))), (urc, .inl (G.2.1, 24, .inl (qA (qU rc rdn (-1))))), (urn, .inl (G.2.1, 24, .inl (qA (qU rn rdn (-1))))), (urp, .inl (G.2.1, 24, .inl (qA rp)))]) C k_D_take (c_D_take l G (lo := 97) (hi := 104) (cu := j) (fa := fa) hsz hx (by omega) h9a (by omega) (by omega)) wm_D_91 wi_D_take ws_D_take 0 rfl rfl (by decide) d_D_readInstruction_161 rfl rfl (Nat.le_of_ble_eq_true rfl) (by decide) [4, 5] [0, 1, 2, 3] rfl (by decide) rfl (by decide) (by decide) (fun v ws' hpost => ?_)
            obtain ⟨y2, cu2, fa2, rfl, rfl, hal2⟩ := hpost
            refine qv_eq (ws' := [(uro, .inl (G.2.1, 24, .inl (qA (qU ro rdn kd)))), (urc, .inl (G.2.1, 24, .inl (qA (qU rc rdn (-1))))), (urn, .inl (G.2.1, 24, .inl (qA (qU rn rdn (-1))))), (urp, .inl (G.2.1, 24, .inl (qA rp))), (u, .inr (5, [.int (qI cd), .int (qI sz), .ref utx, .int (qI cu2), .int (qI fa2), .int (qI rdn), .ref uro, .ref urc, .ref urn, .ref urp, .ref ula, .int (qI n), .ref uop, .ref urg, .ref utg, .ref ude, .ref ule, .ref udn, .ref uv, .ref ub, .int (qI pl), .long (qL st), .int (qI on), .long (qL cn), .int (qI hd), .long (qL ps), .long (qL ss), .ref ubf, .ref ubh, .long (qL tk), .ref ukp, .ref uwa])), (utx, .inl (G.2.1, 120, .inl (qA x)))]) (st' := [.int (qI y2), .int (qI rdn), .ref urc]) rfl rfl rfl ?_
            have hal2r : (0 ≤ cu2 ∧ cu2 ≤ sz) ∧ (j ≤ cu2) ∧ (-1 ≤ fa2 ∧ fa2 ≤ 120) ∧ (y2 = -1 ∨ (97 ≤ y2 ∧ y2 ≤ 104)) := by
              rcases hal2 with q | q | ⟨q1, q2, q3, q4, q5⟩
              · omega
              · omega
              · have q6 := q5.1; have q7 := q5.2.1; omega
            refine qv_bipush C d_D_readInstruction_164 (by decide) ?_
            refine qv_isub C d_D_readInstruction_166 ?_
            refine qv_iast C 1 rfl (by omega) d_D_readInstruction_167 (ws' := [(uro, .inl (G.2.1, 24, .inl (qA (qU ro rdn kd)))), (urc, .inl (G.2.1, 24, .inl (qA (qU (qU rc rdn (-1)) rdn (y2 - 97))))), (urn, .inl (G.2.1, 24, .inl (qA (qU rn rdn (-1))))), (urp, .inl (G.2.1, 24, .inl (qA rp))), (u, .inr (5, [.int (qI cd), .int (qI sz), .ref utx, .int (qI cu2), .int (qI fa2), .int (qI rdn), .ref uro, .ref urc, .ref urn, .ref urp, .ref ula, .int (qI n), .ref uop, .ref urg, .ref utg, .ref ude, .ref ule, .ref udn, .ref uv, .ref ub, .int (qI pl), .long (qL st), .int (qI on), .long (qL cn), .int (qI hd), .long (qL ps), .long (qL ss), .ref ubf, .ref ubh, .long (qL tk), .ref ukp, .ref uwa])), (utx, .inl (G.2.1, 120, .inl (qA x)))]) rfl ?_
            refine qv_iload_n C 0 d_D_readInstruction_168 rfl rfl ?_
            refine qv_bipush C d_D_readInstruction_169 (by decide) ?_
            refine qv_icmp_eq C d_D_readInstruction_171 (tgt := 180) (by decide) (by omega) (by omega) (fun ht171 => ?_) (fun hf171 => ?_)
            · refine qv_aload_n C 1 d_D_readInstruction_180 rfl rfl ?_
              have h9b : -1 ≤ fa2 ∧ fa2 ≤ 120 := by omega
              refine qv_cV (As := []) (rest := []) (wc := [(u, .inr (5, [.int (qI cd), .int (qI sz), .ref utx, .int (qI cu2), .int (qI fa2), .int (qI rdn), .ref uro, .ref urc, .ref urn, .ref urp, .ref ula, .int (qI n), .ref uop, .ref urg, .ref utg, .ref ude, .ref ule, .ref udn, .ref uv, .ref ub, .int (qI pl), .long (qL st), .int (qI on), .long (qL cn), .int (qI hd), .long (qL ps), .long (qL ss), .ref ubf, .ref ubh, .long (qL tk), .ref ukp, .ref uwa])), (utx, .inl (G.2.1, 120, .inl (qA x))), (urn, .inl (G.2.1, 24, .inl (qA (qU rn rdn (-1))))), (urp, .inl (G.2.1, 24, .inl (qA rp)))]) (wr := [(uro, .inl (G.2.1, 24, .inl (qA (qU ro rdn kd)))), (urc, .inl (G.2.1, 24, .inl (qA (qU (qU rc rdn (-1)) rdn (y2 - 97)))))]) C k_D_readName (c_D_readName l G hsz hx (by omega) h9b (by omega)) wm_D_98 wi_D_readName ws_D_readName 0 rfl rfl (by decide) d_D_readInstruction_181 rfl rfl (Nat.le_of_ble_eq_true rfl) (by decide) [4, 5, 2, 3] [0, 1] rfl (by decide) rfl (by decide) (by decide) (fun v ws' hpost => ?_)
              obtain ⟨y3, cu3, fa3, rfl, rfl, hal3, hal3r⟩ := hpost
              refine qv_eq (ws' := [(uro, .inl (G.2.1, 24, .inl (qA (qU ro rdn kd)))), (urc, .inl (G.2.1, 24, .inl (qA (qU (qU rc rdn (-1)) rdn (y2 - 97))))), (u, .inr (5, [.int (qI cd), .int (qI sz), .ref utx, .int (qI cu3), .int (qI fa3), .int (qI rdn), .ref uro, .ref urc, .ref urn, .ref urp, .ref ula, .int (qI n), .ref uop, .ref urg, .ref utg, .ref ude, .ref ule, .ref udn, .ref uv, .ref ub, .int (qI pl), .long (qL st), .int (qI on), .long (qL cn), .int (qI hd), .long (qL ps), .long (qL ss), .ref ubf, .ref ubh, .long (qL tk), .ref ukp, .ref uwa])), (utx, .inl (G.2.1, 120, .inl (qA x))), (urn, .inl (G.2.1, 24, .inl (qA (qU (qU rn rdn (-1)) rdn (y3 - 65))))), (urp, .inl (G.2.1, 24, .inl (qA (qU rp rdn cu2))))]) (st' := []) rfl rfl rfl ?_
              refine qv_aload_n C 1 d_D_readInstruction_184 rfl rfl ?_
              refine qv_dup C d_D_readInstruction_185 rfl ?_
              refine qv_get C in_D 2 rfl rfl 5 (by decide) wf_D_95 rfl rfl d_D_readInstruction_186 ?_
              refine qv_iconst C d_D_readInstruction_189 ?_
              refine qv_iadd C d_D_readInstruction_190 ?_
              refine qv_put C in_D 2 rfl rfl 5 (by decide) t_D t_D_ok n_D wf_D_95 rfl rfl (t_D_ok 5 (by decide)) (rfl) (rfl) (Nat.le_of_ble_eq_true rfl) d_D_readInstruction_191 (ws' := [(uro, .inl (G.2.1, 24, .inl (qA (qU ro rdn kd)))), (urc, .inl (G.2.1, 24, .inl (qA (qU (qU rc rdn (-1)) rdn (y2 - 97))))), (u, .inr (5, [.int (qI cd), .int (qI sz), .ref utx, .int (qI cu3), .int (qI fa3), .int (qI (rdn + 1)), .ref uro, .ref urc, .ref urn, .ref urp, .ref ula, .int (qI n), .ref uop, .ref urg, .ref utg, .ref ude, .ref ule, .ref udn, .ref uv, .ref ub, .int (qI pl), .long (qL st), .int (qI on), .long (qL cn), .int (qI hd), .long (qL ps), .long (qL ss), .ref ubf, .ref ubh, .long (qL tk), .ref ukp, .ref uwa])), (utx, .inl (G.2.1, 120, .inl (qA x))), (urn, .inl (G.2.1, 24, .inl (qA (qU (qU rn rdn (-1)) rdn (y3 - 65))))), (urp, .inl (G.2.1, 24, .inl (qA (qU rp rdn cu2))))]) rfl ?_
              refine qv_ws (ws' := [(u, .inr (5, [.int (qI cd), .int (qI sz), .ref utx, .int (qI cu3), .int (qI fa3), .int (qI (rdn + 1)), .ref uro, .ref urc, .ref urn, .ref urp, .ref ula, .int (qI n), .ref uop, .ref urg, .ref utg, .ref ude, .ref ule, .ref udn, .ref uv, .ref ub, .int (qI pl), .long (qL st), .int (qI on), .long (qL cn), .int (qI hd), .long (qL ps), .long (qL ss), .ref ubf, .ref ubh, .long (qL tk), .ref ukp, .ref uwa])), (utx, .inl (G.2.1, 120, .inl (qA x))), (uro, .inl (G.2.1, 24, .inl (qA (qU ro rdn kd)))), (urc, .inl (G.2.1, 24, .inl (qA (qU (qU rc rdn (-1)) rdn (y2 - 97))))), (urn, .inl (G.2.1, 24, .inl (qA (qU (qU rn rdn (-1)) rdn (y3 - 65))))), (urp, .inl (G.2.1, 24, .inl (qA (qU rp rdn cu2))))]) [2, 3, 0, 1, 4, 5] (by decide) rfl ?_
              refine qv_vret C hrt hlk d_D_readInstruction_194 ?_
              by_cases hdead : c = 45
              · obtain ⟨lt2, hz⟩ := m_minus hrl hrd (by omega) (by omega) hg
                refine ⟨cu3, fa3, rdn + 1, _, _, _, _, rfl, rfl, ⟨qU_rg (hrr.1) (by omega), qU_rg (qU_rg (hrr.2.1) (by omega)) (by omega), qU_rg (qU_rg (hrr.2.2.1) (by omega)) (by omega), qU_rg (hrr.2.2.2.1) (by omega), hrr.2.2.2.2⟩, by omega, ?_⟩
                rcases hal2 with q | ⟨_, q2, q3, q4, q5⟩ | ⟨_, q2, q3, q4, q5⟩
                · exfalso; omega
                · rcases hal3 with ⟨p1, p2, p3, p4⟩ | ⟨p1, _⟩ | ⟨p1, _⟩
                  · exact Or.inr ⟨by omega, by rw [p4, q5]; exact m_c_no hz (by omega) hg3 q2, by omega⟩
                  · exfalso; omega
                  · exfalso; omega
                · have hz3 := m_cMinus hz (by omega) q2.2 q5
                  have q6 := q5.2.2.1
                  rcases hal3 with ⟨p1, p2, p3, p4⟩ | ⟨_, p2, p3, p4, p5⟩ | ⟨_, p2, p3, p4, p5⟩
                  · exfalso; omega
                  · exact Or.inr ⟨by omega, by rw [p5]; exact m_name_no hz3 (by omega) q6 p2, by omega⟩
                  · exact Or.inl ⟨p4, by omega, m_name (m_rz_w hz3 qU_b qU_b2 qU_b2 qU_b) (Or.inl rfl) (by omega) p2.2 p5 (by rw [qU_s]; omega) (by rw [qU_s, q3]) (by rw [qU_s, p3]) (qU_s _ _ _), p5.2.2.1⟩
              · exfalso; omega
            · refine qv_iload_n C 0 d_D_readInstruction_174 rfl rfl ?_
              refine qv_bipush C d_D_readInstruction_175 (by decide) ?_
              refine qv_icmp_ne C d_D_readInstruction_177 (tgt := 184) (by decide) (by omega) (by omega) (fun ht177 => ?_) (fun hf177 => ?_)
              · refine qv_aload_n C 1 d_D_readInstruction_184 rfl rfl ?_
                refine qv_dup C d_D_readInstruction_185 rfl ?_
                refine qv_get C in_D 4 rfl rfl 5 (by decide) wf_D_95 rfl rfl d_D_readInstruction_186 ?_
                refine qv_iconst C d_D_readInstruction_189 ?_
                refine qv_iadd C d_D_readInstruction_190 ?_
                refine qv_put C in_D 4 rfl rfl 5 (by decide) t_D t_D_ok n_D wf_D_95 rfl rfl (t_D_ok 5 (by decide)) (rfl) (rfl) (Nat.le_of_ble_eq_true rfl) d_D_readInstruction_191 (ws' := [(uro, .inl (G.2.1, 24, .inl (qA (qU ro rdn kd)))), (urc, .inl (G.2.1, 24, .inl (qA (qU (qU rc rdn (-1)) rdn (y2 - 97))))), (urn, .inl (G.2.1, 24, .inl (qA (qU rn rdn (-1))))), (urp, .inl (G.2.1, 24, .inl (qA rp))), (u, .inr (5, [.int (qI cd), .int (qI sz), .ref utx, .int (qI cu2), .int (qI fa2), .int (qI (rdn + 1)), .ref uro, .ref urc, .ref urn, .ref urp, .ref ula, .int (qI n), .ref uop, .ref urg, .ref utg, .ref ude, .ref ule, .ref udn, .ref uv, .ref ub, .int (qI pl), .long (qL st), .int (qI on), .long (qL cn), .int (qI hd), .long (qL ps), .long (qL ss), .ref ubf, .ref ubh, .long (qL tk), .ref ukp, .ref uwa])), (utx, .inl (G.2.1, 120, .inl (qA x)))]) rfl ?_
                refine qv_ws (ws' := [(u, .inr (5, [.int (qI cd), .int (qI sz), .ref utx, .int (qI cu2), .int (qI fa2), .int (qI (rdn + 1)), .ref uro, .ref urc, .ref urn, .ref urp, .ref ula, .int (qI n), .ref uop, .ref urg, .ref utg, .ref ude, .ref ule, .ref udn, .ref uv, .ref ub, .int (qI pl), .long (qL st), .int (qI on), .long (qL cn), .int (qI hd), .long (qL ps), .long (qL ss), .ref ubf, .ref ubh, .long (qL tk), .ref ukp, .ref uwa])), (utx, .inl (G.2.1, 120, .inl (qA x))), (uro, .inl (G.2.1, 24, .inl (qA (qU ro rdn kd)))), (urc, .inl (G.2.1, 24, .inl (qA (qU (qU rc rdn (-1)) rdn (y2 - 97))))), (urn, .inl (G.2.1, 24, .inl (qA (qU rn rdn (-1))))), (urp, .inl (G.2.1, 24, .inl (qA rp)))]) [4, 5, 0, 1, 2, 3] (by decide) rfl ?_
                refine qv_vret C hrt hlk d_D_readInstruction_194 ?_
                by_cases hdead : c = 43
                · obtain ⟨lt2, hz⟩ := m_plus hrl hrd (by omega) (by omega) hg
                  refine ⟨cu2, fa2, rdn + 1, _, _, _, _, rfl, rfl, ⟨qU_rg (hrr.1) (by omega), qU_rg (qU_rg (hrr.2.1) (by omega)) (by omega), qU_rg (hrr.2.2.1) (by omega), hrr.2.2.2.1, hrr.2.2.2.2⟩, by omega, ?_⟩
                  rcases hal2 with q | ⟨_, q2, q3, q4, q5⟩ | ⟨_, q2, q3, q4, q5⟩
                  · exfalso; omega
                  · exact Or.inr ⟨by omega, by rw [q5]; exact m_c_no hz (by omega) hg3 q2, by omega⟩
                  · exact Or.inl ⟨q4, by omega, m_cPlus (m_rz_w hz qU_b qU_b2 qU_b m_rf) (by omega) q2.2 q5 (by rw [qU_s]; omega) (by rw [qU_s, q3]) (qU_s _ _ _), q5.2.2.1⟩
                · exfalso; omega
              · refine qv_aload_n C 1 d_D_readInstruction_180 rfl rfl ?_
                have h9b : -1 ≤ fa2 ∧ fa2 ≤ 120 := by omega
                refine qv_cV (As := []) (rest := []) (wc := [(u, .inr (5, [.int (qI cd), .int (qI sz), .ref utx, .int (qI cu2), .int (qI fa2), .int (qI rdn), .ref uro, .ref urc, .ref urn, .ref urp, .ref ula, .int (qI n), .ref uop, .ref urg, .ref utg, .ref ude, .ref ule, .ref udn, .ref uv, .ref ub, .int (qI pl), .long (qL st), .int (qI on), .long (qL cn), .int (qI hd), .long (qL ps), .long (qL ss), .ref ubf, .ref ubh, .long (qL tk), .ref ukp, .ref uwa])), (utx, .inl (G.2.1, 120, .inl (qA x))), (urn, .inl (G.2.1, 24, .inl (qA (qU rn rdn (-1))))), (urp, .inl (G.2.1, 24, .inl (qA rp)))]) (wr := [(uro, .inl (G.2.1, 24, .inl (qA (qU ro rdn kd)))), (urc, .inl (G.2.1, 24, .inl (qA (qU (qU rc rdn (-1)) rdn (y2 - 97)))))]) C k_D_readName (c_D_readName l G hsz hx (by omega) h9b (by omega)) wm_D_98 wi_D_readName ws_D_readName 0 rfl rfl (by decide) d_D_readInstruction_181 rfl rfl (Nat.le_of_ble_eq_true rfl) (by decide) [4, 5, 2, 3] [0, 1] rfl (by decide) rfl (by decide) (by decide) (fun v ws' hpost => ?_)
                obtain ⟨y3, cu3, fa3, rfl, rfl, hal3, hal3r⟩ := hpost
                refine qv_eq (ws' := [(uro, .inl (G.2.1, 24, .inl (qA (qU ro rdn kd)))), (urc, .inl (G.2.1, 24, .inl (qA (qU (qU rc rdn (-1)) rdn (y2 - 97))))), (u, .inr (5, [.int (qI cd), .int (qI sz), .ref utx, .int (qI cu3), .int (qI fa3), .int (qI rdn), .ref uro, .ref urc, .ref urn, .ref urp, .ref ula, .int (qI n), .ref uop, .ref urg, .ref utg, .ref ude, .ref ule, .ref udn, .ref uv, .ref ub, .int (qI pl), .long (qL st), .int (qI on), .long (qL cn), .int (qI hd), .long (qL ps), .long (qL ss), .ref ubf, .ref ubh, .long (qL tk), .ref ukp, .ref uwa])), (utx, .inl (G.2.1, 120, .inl (qA x))), (urn, .inl (G.2.1, 24, .inl (qA (qU (qU rn rdn (-1)) rdn (y3 - 65))))), (urp, .inl (G.2.1, 24, .inl (qA (qU rp rdn cu2))))]) (st' := []) rfl rfl rfl ?_
                refine qv_aload_n C 1 d_D_readInstruction_184 rfl rfl ?_
                refine qv_dup C d_D_readInstruction_185 rfl ?_
                refine qv_get C in_D 2 rfl rfl 5 (by decide) wf_D_95 rfl rfl d_D_readInstruction_186 ?_
                refine qv_iconst C d_D_readInstruction_189 ?_
                refine qv_iadd C d_D_readInstruction_190 ?_
                refine qv_put C in_D 2 rfl rfl 5 (by decide) t_D t_D_ok n_D wf_D_95 rfl rfl (t_D_ok 5 (by decide)) (rfl) (rfl) (Nat.le_of_ble_eq_true rfl) d_D_readInstruction_191 (ws' := [(uro, .inl (G.2.1, 24, .inl (qA (qU ro rdn kd)))), (urc, .inl (G.2.1, 24, .inl (qA (qU (qU rc rdn (-1)) rdn (y2 - 97))))), (u, .inr (5, [.int (qI cd), .int (qI sz), .ref utx, .int (qI cu3), .int (qI fa3), .int (qI (rdn + 1)), .ref uro, .ref urc, .ref urn, .ref urp, .ref ula, .int (qI n), .ref uop, .ref urg, .ref utg, .ref ude, .ref ule, .ref udn, .ref uv, .ref ub, .int (qI pl), .long (qL st), .int (qI on), .long (qL cn), .int (qI hd), .long (qL ps), .long (qL ss), .ref ubf, .ref ubh, .long (qL tk), .ref ukp, .ref uwa])), (utx, .inl (G.2.1, 120, .inl (qA x))), (urn, .inl (G.2.1, 24, .inl (qA (qU (qU rn rdn (-1)) rdn (y3 - 65))))), (urp, .inl (G.2.1, 24, .inl (qA (qU rp rdn cu2))))]) rfl ?_
                refine qv_ws (ws' := [(u, .inr (5, [.int (qI cd), .int (qI sz), .ref utx, .int (qI cu3), .int (qI fa3), .int (qI (rdn + 1)), .ref uro, .ref urc, .ref urn, .ref urp, .ref ula, .int (qI n), .ref uop, .ref urg, .ref utg, .ref ude, .ref ule, .ref udn, .ref uv, .ref ub, .int (qI pl), .long (qL st), .int (qI on), .long (qL cn), .int (qI hd), .long (qL ps), .long (qL ss), .ref ubf, .ref ubh, .long (qL tk), .ref ukp, .ref uwa])), (utx, .inl (G.2.1, 120, .inl (qA x))), (uro, .inl (G.2.1, 24, .inl (qA (qU ro rdn kd)))), (urc, .inl (G.2.1, 24, .inl (qA (qU (qU rc rdn (-1)) rdn (y2 - 97))))), (urn, .inl (G.2.1, 24, .inl (qA (qU (qU rn rdn (-1)) rdn (y3 - 65))))), (urp, .inl (G.2.1, 24, .inl (qA (qU rp rdn cu2))))]) [2, 3, 0, 1, 4, 5] (by decide) rfl ?_
                refine qv_vret C hrt hlk d_D_readInstruction_194 ?_
                by_cases hdead : c = 45
                · obtain ⟨lt2, hz⟩ := m_minus hrl hrd (by omega) (by omega) hg
                  refine ⟨cu3, fa3, rdn + 1, _, _, _, _, rfl, rfl, ⟨qU_rg (hrr.1) (by omega), qU_rg (qU_rg (hrr.2.1) (by omega)) (by omega), qU_rg (qU_rg (hrr.2.2.1) (by omega)) (by omega), qU_rg (hrr.2.2.2.1) (by omega), hrr.2.2.2.2⟩, by omega, ?_⟩
                  rcases hal2 with q | ⟨_, q2, q3, q4, q5⟩ | ⟨_, q2, q3, q4, q5⟩
                  · exfalso; omega
                  · rcases hal3 with ⟨p1, p2, p3, p4⟩ | ⟨p1, _⟩ | ⟨p1, _⟩
                    · exact Or.inr ⟨by omega, by rw [p4, q5]; exact m_c_no hz (by omega) hg3 q2, by omega⟩
                    · exfalso; omega
                    · exfalso; omega
                  · have hz3 := m_cMinus hz (by omega) q2.2 q5
                    have q6 := q5.2.2.1
                    rcases hal3 with ⟨p1, p2, p3, p4⟩ | ⟨_, p2, p3, p4, p5⟩ | ⟨_, p2, p3, p4, p5⟩
                    · exfalso; omega
                    · exact Or.inr ⟨by omega, by rw [p5]; exact m_name_no hz3 (by omega) q6 p2, by omega⟩
                    · exact Or.inl ⟨p4, by omega, m_name (m_rz_w hz3 qU_b qU_b2 qU_b2 qU_b) (Or.inl rfl) (by omega) p2.2 p5 (by rw [qU_s]; omega) (by rw [qU_s, q3]) (by rw [qU_s, p3]) (qU_s _ _ _), p5.2.2.1⟩
                · exfalso; omega
          · refine qv_iload_n C 0 d_D_readInstruction_142 rfl rfl ?_
            refine qv_bipush C d_D_readInstruction_143 (by decide) ?_
            refine qv_icmp_ne C d_D_readInstruction_145 (tgt := 168) (by decide) (by omega) (by omega) (fun ht145 => ?_) (fun hf145 => ?_)
            · refine qv_iload_n C 0 d_D_readInstruction_168 rfl rfl ?_
              refine qv_bipush C d_D_readInstruction_169 (by decide) ?_
              refine qv_icmp_eq C d_D_readInstruction_171 (tgt := 180) (by decide) (by omega) (by omega) (fun ht171 => ?_) (fun hf171 => ?_)
              · refine qv_aload_n C 1 d_D_readInstruction_180 rfl rfl ?_
                have h9b : -1 ≤ fa ∧ fa ≤ 120 := by omega
                refine qv_cV (As := []) (rest := []) (wc := [(u, .inr (5, [.int (qI cd), .int (qI sz), .ref utx, .int (qI j), .int (qI fa), .int (qI rdn), .ref uro, .ref urc, .ref urn, .ref urp, .ref ula, .int (qI n), .ref uop, .ref urg, .ref utg, .ref ude, .ref ule, .ref udn, .ref uv, .ref ub, .int (qI pl), .long (qL st), .int (qI on), .long (qL cn), .int (qI hd), .long (qL ps), .long (qL ss), .ref ubf, .ref ubh, .long (qL tk), .ref ukp, .ref uwa])), (utx, .inl (G.2.1, 120, .inl (qA x))), (urn, .inl (G.2.1, 24, .inl (qA (qU rn rdn (-1))))), (urp, .inl (G.2.1, 24, .inl (qA rp)))]) (wr := [(uro, .inl (G.2.1, 24, .inl (qA (qU ro rdn kd)))), (urc, .inl (G.2.1, 24, .inl (qA (qU rc rdn (-1)))))]) C k_D_readName (c_D_readName l G hsz hx (by omega) h9b (by omega)) wm_D_98 wi_D_readName ws_D_readName 0 rfl rfl (by decide) d_D_readInstruction_181 rfl rfl (Nat.le_of_ble_eq_true rfl) (by decide) [4, 5, 2, 3] [0, 1] rfl (by decide) rfl (by decide) (by decide) (fun v ws' hpost => ?_)
                obtain ⟨y3, cu3, fa3, rfl, rfl, hal3, hal3r⟩ := hpost
                refine qv_eq (ws' := [(uro, .inl (G.2.1, 24, .inl (qA (qU ro rdn kd)))), (urc, .inl (G.2.1, 24, .inl (qA (qU rc rdn (-1))))), (u, .inr (5, [.int (qI cd), .int (qI sz), .ref utx, .int (qI cu3), .int (qI fa3), .int (qI rdn), .ref uro, .ref urc, .ref urn, .ref urp, .ref ula, .int (qI n), .ref uop, .ref urg, .ref utg, .ref ude, .ref ule, .ref udn, .ref uv, .ref ub, .int (qI pl), .long (qL st), .int (qI on), .long (qL cn), .int (qI hd), .long (qL ps), .long (qL ss), .ref ubf, .ref ubh, .long (qL tk), .ref ukp, .ref uwa])), (utx, .inl (G.2.1, 120, .inl (qA x))), (urn, .inl (G.2.1, 24, .inl (qA (qU (qU rn rdn (-1)) rdn (y3 - 65))))), (urp, .inl (G.2.1, 24, .inl (qA (qU rp rdn j))))]) (st' := []) rfl rfl rfl ?_
                refine qv_aload_n C 1 d_D_readInstruction_184 rfl rfl ?_
                refine qv_dup C d_D_readInstruction_185 rfl ?_
                refine qv_get C in_D 2 rfl rfl 5 (by decide) wf_D_95 rfl rfl d_D_readInstruction_186 ?_
                refine qv_iconst C d_D_readInstruction_189 ?_
                refine qv_iadd C d_D_readInstruction_190 ?_
                refine qv_put C in_D 2 rfl rfl 5 (by decide) t_D t_D_ok n_D wf_D_95 rfl rfl (t_D_ok 5 (by decide)) (rfl) (rfl) (Nat.le_of_ble_eq_true rfl) d_D_readInstruction_191 (ws' := [(uro, .inl (G.2.1, 24, .inl (qA (qU ro rdn kd)))), (urc, .inl (G.2.1, 24, .inl (qA (qU rc rdn (-1))))), (u, .inr (5, [.int (qI cd), .int (qI sz), .ref utx, .int (qI cu3), .int (qI fa3), .int (qI (rdn + 1)), .ref uro, .ref urc, .ref urn, .ref urp, .ref ula, .int (qI n), .ref uop, .ref urg, .ref utg, .ref ude, .ref ule, .ref udn, .ref uv, .ref ub, .int (qI pl), .long (qL st), .int (qI on), .long (qL cn), .int (qI hd), .long (qL ps), .long (qL ss), .ref ubf, .ref ubh, .long (qL tk), .ref ukp, .ref uwa])), (utx, .inl (G.2.1, 120, .inl (qA x))), (urn, .inl (G.2.1, 24, .inl (qA (qU (qU rn rdn (-1)) rdn (y3 - 65))))), (urp, .inl (G.2.1, 24, .inl (qA (qU rp rdn j))))]) rfl ?_
                refine qv_ws (ws' := [(u, .inr (5, [.int (qI cd), .int (qI sz), .ref utx, .int (qI cu3), .int (qI fa3), .int (qI (rdn + 1)), .ref uro, .ref urc, .ref urn, .ref urp, .ref ula, .int (qI n), .ref uop, .ref urg, .ref utg, .ref ude, .ref ule, .ref udn, .ref uv, .ref ub, .int (qI pl), .long (qL st), .int (qI on), .long (qL cn), .int (qI hd), .long (qL ps), .long (qL ss), .ref ubf, .ref ubh, .long (qL tk), .ref ukp, .ref uwa])), (utx, .inl (G.2.1, 120, .inl (qA x))), (uro, .inl (G.2.1, 24, .inl (qA (qU ro rdn kd)))), (urc, .inl (G.2.1, 24, .inl (qA (qU rc rdn (-1))))), (urn, .inl (G.2.1, 24, .inl (qA (qU (qU rn rdn (-1)) rdn (y3 - 65))))), (urp, .inl (G.2.1, 24, .inl (qA (qU rp rdn j))))]) [2, 3, 0, 1, 4, 5] (by decide) rfl ?_
                refine qv_vret C hrt hlk d_D_readInstruction_194 ?_
                by_cases hdead : c = 62
                · obtain ⟨lt2, hz⟩ := m_gt hrl hrd (by omega) (by omega) hg
                  refine ⟨cu3, fa3, rdn + 1, _, _, _, _, rfl, rfl, ⟨qU_rg (hrr.1) (by omega), qU_rg (hrr.2.1) (by omega), qU_rg (qU_rg (hrr.2.2.1) (by omega)) (by omega), qU_rg (hrr.2.2.2.1) (by omega), hrr.2.2.2.2⟩, by omega, ?_⟩
                  rcases hal3 with q | ⟨_, q2, q3, q4, q5⟩ | ⟨_, q2, q3, q4, q5⟩
                  · exfalso; omega
                  · exact Or.inr ⟨by omega, by rw [q5]; exact m_name_no hz (by omega) hg3 q2, by omega⟩
                  · exact Or.inl ⟨q4, by omega, m_name (m_rz_w hz qU_b qU_b qU_b2 qU_b) (Or.inr rfl) (by omega) q2.2 q5 (by rw [qU_s]; omega) (by rw [qU_s]) (by rw [qU_s, q3]) (qU_s _ _ _), q5.2.2.1⟩
                · exfalso; omega
              · refine qv_iload_n C 0 d_D_readInstruction_174 rfl rfl ?_
                refine qv_bipush C d_D_readInstruction_175 (by decide) ?_
                refine qv_icmp_ne C d_D_readInstruction_177 (tgt := 184) (by decide) (by omega) (by omega) (fun ht177 => ?_) (fun hf177 => ?_)
                · refine qv_aload_n C 1 d_D_readInstruction_184 rfl rfl ?_
                  refine qv_dup C d_D_readInstruction_185 rfl ?_
                  refine qv_get C in_D 4 rfl rfl 5 (by decide) wf_D_95 rfl rfl d_D_readInstruction_186 ?_
                  refine qv_iconst C d_D_readInstruction_189 ?_
                  refine qv_iadd C d_D_readInstruction_190 ?_
                  refine qv_put C in_D 4 rfl rfl 5 (by decide) t_D t_D_ok n_D wf_D_95 rfl rfl (t_D_ok 5 (by decide)) (rfl) (rfl) (Nat.le_of_ble_eq_true rfl) d_D_readInstruction_191 (ws' := [(uro, .inl (G.2.1, 24, .inl (qA (qU ro rdn kd)))), (urc, .inl (G.2.1, 24, .inl (qA (qU rc rdn (-1))))), (urn, .inl (G.2.1, 24, .inl (qA (qU rn rdn (-1))))), (urp, .inl (G.2.1, 24, .inl (qA rp))), (u, .inr (5, [.int (qI cd), .int (qI sz), .ref utx, .int (qI j), .int (qI fa), .int (qI (rdn + 1)), .ref uro, .ref urc, .ref urn, .ref urp, .ref ula, .int (qI n), .ref uop, .ref urg, .ref utg, .ref ude, .ref ule, .ref udn, .ref uv, .ref ub, .int (qI pl), .long (qL st), .int (qI on), .long (qL cn), .int (qI hd), .long (qL ps), .long (qL ss), .ref ubf, .ref ubh, .long (qL tk), .ref ukp, .ref uwa])), (utx, .inl (G.2.1, 120, .inl (qA x)))]) rfl ?_
                  refine qv_ws (ws' := [(u, .inr (5, [.int (qI cd), .int (qI sz), .ref utx, .int (qI j), .int (qI fa), .int (qI (rdn + 1)), .ref uro, .ref urc, .ref urn, .ref urp, .ref ula, .int (qI n), .ref uop, .ref urg, .ref utg, .ref ude, .ref ule, .ref udn, .ref uv, .ref ub, .int (qI pl), .long (qL st), .int (qI on), .long (qL cn), .int (qI hd), .long (qL ps), .long (qL ss), .ref ubf, .ref ubh, .long (qL tk), .ref ukp, .ref uwa])), (utx, .inl (G.2.1, 120, .inl (qA x))), (uro, .inl (G.2.1, 24, .inl (qA (qU ro rdn kd)))), (urc, .inl (G.2.1, 24, .inl (qA (qU rc rdn (-1))))), (urn, .inl (G.2.1, 24, .inl (qA (qU rn rdn (-1))))), (urp, .inl (G.2.1, 24, .inl (qA rp)))]) [4, 5, 0, 1, 2, 3] (by decide) rfl ?_
                  refine qv_vret C hrt hlk d_D_readInstruction_194 ?_
                  by_cases hdead : c = 46
                  · refine ⟨j, fa, rdn + 1, _, _, _, _, rfl, rfl, ⟨qU_rg (hrr.1) (by omega), qU_rg (hrr.2.1) (by omega), qU_rg (hrr.2.2.1) (by omega), hrr.2.2.2.1, hrr.2.2.2.2⟩, by omega, ?_⟩
                    exact Or.inl ⟨by omega, by omega, m_point (m_rl_w hrl qU_b qU_b qU_b m_rf) hrd (by omega) (by omega) hg (by rw [qU_s]; omega) (qU_s _ _ _) (qU_s _ _ _), hg3⟩
                  · exfalso; omega
                · refine qv_aload_n C 1 d_D_readInstruction_180 rfl rfl ?_
                  have h9b : -1 ≤ fa ∧ fa ≤ 120 := by omega
                  refine qv_cV (As := []) (rest := []) (wc := [(u, .inr (5, [.int (qI cd), .int (qI sz), .ref utx, .int (qI j), .int (qI fa), .int (qI rdn), .ref uro, .ref urc, .ref urn, .ref urp, .ref ula, .int (qI n), .ref uop, .ref urg, .ref utg, .ref ude, .ref ule, .ref udn, .ref uv, .ref ub, .int (qI pl), .long (qL st), .int (qI on), .long (qL cn), .int (qI hd), .long (qL ps), .long (qL ss), .ref ubf, .ref ubh, .long (qL tk), .ref ukp, .ref uwa])), (utx, .inl (G.2.1, 120, .inl (qA x))), (urn, .inl (G.2.1, 24, .inl (qA (qU rn rdn (-1))))), (urp, .inl (G.2.1, 24, .inl (qA rp)))]) (wr := [(uro, .inl (G.2.1, 24, .inl (qA (qU ro rdn kd)))), (urc, .inl (G.2.1, 24, .inl (qA (qU rc rdn (-1)))))]) C k_D_readName (c_D_readName l G hsz hx (by omega) h9b (by omega)) wm_D_98 wi_D_readName ws_D_readName 0 rfl rfl (by decide) d_D_readInstruction_181 rfl rfl (Nat.le_of_ble_eq_true rfl) (by decide) [4, 5, 2, 3] [0, 1] rfl (by decide) rfl (by decide) (by decide) (fun v ws' hpost => ?_)
                  obtain ⟨y3, cu3, fa3, rfl, rfl, hal3, hal3r⟩ := hpost
                  refine qv_eq (ws' := [(uro, .inl (G.2.1, 24, .inl (qA (qU ro rdn kd)))), (urc, .inl (G.2.1, 24, .inl (qA (qU rc rdn (-1))))), (u, .inr (5, [.int (qI cd), .int (qI sz), .ref utx, .int (qI cu3), .int (qI fa3), .int (qI rdn), .ref uro, .ref urc, .ref urn, .ref urp, .ref ula, .int (qI n), .ref uop, .ref urg, .ref utg, .ref ude, .ref ule, .ref udn, .ref uv, .ref ub, .int (qI pl), .long (qL st), .int (qI on), .long (qL cn), .int (qI hd), .long (qL ps), .long (qL ss), .ref ubf, .ref ubh, .long (qL tk), .ref ukp, .ref uwa])), (utx, .inl (G.2.1, 120, .inl (qA x))), (urn, .inl (G.2.1, 24, .inl (qA (qU (qU rn rdn (-1)) rdn (y3 - 65))))), (urp, .inl (G.2.1, 24, .inl (qA (qU rp rdn j))))]) (st' := []) rfl rfl rfl ?_
                  refine qv_aload_n C 1 d_D_readInstruction_184 rfl rfl ?_
                  refine qv_dup C d_D_readInstruction_185 rfl ?_
                  refine qv_get C in_D 2 rfl rfl 5 (by decide) wf_D_95 rfl rfl d_D_readInstruction_186 ?_
                  refine qv_iconst C d_D_readInstruction_189 ?_
                  refine qv_iadd C d_D_readInstruction_190 ?_
                  refine qv_put C in_D 2 rfl rfl 5 (by decide) t_D t_D_ok n_D wf_D_95 rfl rfl (t_D_ok 5 (by decide)) (rfl) (rfl) (Nat.le_of_ble_eq_true rfl) d_D_readInstruction_191 (ws' := [(uro, .inl (G.2.1, 24, .inl (qA (qU ro rdn kd)))), (urc, .inl (G.2.1, 24, .inl (qA (qU rc rdn (-1))))), (u, .inr (5, [.int (qI cd), .int (qI sz), .ref utx, .int (qI cu3), .int (qI fa3), .int (qI (rdn + 1)), .ref uro, .ref urc, .ref urn, .ref urp, .ref ula, .int (qI n), .ref uop, .ref urg, .ref utg, .ref ude, .ref ule, .ref udn, .ref uv, .ref ub, .int (qI pl), .long (qL st), .int (qI on), .long (qL cn), .int (qI hd), .long (qL ps), .long (qL ss), .ref ubf, .ref ubh, .long (qL tk), .ref ukp, .ref uwa])), (utx, .inl (G.2.1, 120, .inl (qA x))), (urn, .inl (G.2.1, 24, .inl (qA (qU (qU rn rdn (-1)) rdn (y3 - 65))))), (urp, .inl (G.2.1, 24, .inl (qA (qU rp rdn j))))]) rfl ?_
                  refine qv_ws (ws' := [(u, .inr (5, [.int (qI cd), .int (qI sz), .ref utx, .int (qI cu3), .int (qI fa3), .int (qI (rdn + 1)), .ref uro, .ref urc, .ref urn, .ref urp, .ref ula, .int (qI n), .ref uop, .ref urg, .ref utg, .ref ude, .ref ule, .ref udn, .ref uv, .ref ub, .int (qI pl), .long (qL st), .int (qI on), .long (qL cn), .int (qI hd), .long (qL ps), .long (qL ss), .ref ubf, .ref ubh, .long (qL tk), .ref ukp, .ref uwa])), (utx, .inl (G.2.1, 120, .inl (qA x))), (uro, .inl (G.2.1, 24, .inl (qA (qU ro rdn kd)))), (urc, .inl (G.2.1, 24, .inl (qA (qU rc rdn (-1))))), (urn, .inl (G.2.1, 24, .inl (qA (qU (qU rn rdn (-1)) rdn (y3 - 65))))), (urp, .inl (G.2.1, 24, .inl (qA (qU rp rdn j))))]) [2, 3, 0, 1, 4, 5] (by decide) rfl ?_
                  refine qv_vret C hrt hlk d_D_readInstruction_194 ?_
                  by_cases hdead : c = 62
                  · obtain ⟨lt2, hz⟩ := m_gt hrl hrd (by omega) (by omega) hg
                    refine ⟨cu3, fa3, rdn + 1, _, _, _, _, rfl, rfl, ⟨qU_rg (hrr.1) (by omega), qU_rg (hrr.2.1) (by omega), qU_rg (qU_rg (hrr.2.2.1) (by omega)) (by omega), qU_rg (hrr.2.2.2.1) (by omega), hrr.2.2.2.2⟩, by omega, ?_⟩
                    rcases hal3 with q | ⟨_, q2, q3, q4, q5⟩ | ⟨_, q2, q3, q4, q5⟩
                    · exfalso; omega
                    · exact Or.inr ⟨by omega, by rw [q5]; exact m_name_no hz (by omega) hg3 q2, by omega⟩
                    · exact Or.inl ⟨q4, by omega, m_name (m_rz_w hz qU_b qU_b qU_b2 qU_b) (Or.inr rfl) (by omega) q2.2 q5 (by rw [qU_s]; omega) (by rw [qU_s]) (by rw [qU_s, q3]) (qU_s _ _ _), q5.2.2.1⟩
                  · exfalso; omega
            · refine qv_aload_n C 1 d_D_readInstruction_148 rfl rfl ?_
              refine qv_get C in_D 4 rfl rfl 7 (by decide) wf_D_16 rfl rfl d_D_readInstruction_149 ?_
              refine qv_aload_n C 1 d_D_readInstruction_152 rfl rfl ?_
              refine qv_get C in_D 4 rfl rfl 5 (by decide) wf_D_95 rfl rfl d_D_readInstruction_153 ?_
              refine qv_aload_n C 1 d_D_readInstruction_156 rfl rfl ?_
              refine qv_bipush C d_D_readInstruction_157 (by decide) ?_
              refine qv_bipush C d_D_readInstruction_159 (by decide) ?_
              have h9a : -1 ≤ fa ∧ fa ≤ 120 := by omega
              refine qv_cV (As := [.int (qI 97), .int (qI 104)]) (rest := [.int (qI rdn), .ref urc]) (wc := [(u, .inr (5, [.int (qI cd), .int (qI sz), .ref utx, .int (qI j), .int (qI fa), .int (qI rdn), .ref uro, .ref urc, .ref urn, .ref urp, .ref ula, .int (qI n), .ref uop, .ref urg, .ref utg, .ref ude, .ref ule, .ref udn, .ref uv, .ref ub, .int (qI pl), .long (qL st), .int (qI on), .long (qL cn), .int (qI hd), .long (qL ps), .long (qL ss), .ref ubf, .ref ubh, .long (qL tk), .ref ukp, .ref uwa])), (utx, .inl (G.2.1, 120, .inl (qA x)))]) (wr := [(uro, .inl (G.2.1, 24, .inl (qA (qU ro rdn kd)))), (urc, .inl (G.2.1, 24, .inl (qA (qU rc rdn (-1))))), (urn, .inl (G.2.1, 24, .inl (qA (qU rn rdn (-1))))), (urp, .inl (G.2.1, 24, .inl (qA rp)))]) C k_D_take (c_D_take l G (lo := 97) (hi := 104) (cu := j) (fa := fa) hsz hx (by omega) h9a (by omega) (by omega)) wm_D_91 wi_D_take ws_D_take 0 rfl rfl (by decide) d_D_readInstruction_161 rfl rfl (Nat.le_of_ble_eq_true rfl) (by decide) [4, 5] [0, 1, 2, 3] rfl (by decide) rfl (by decide) (by decide) (fun v ws' hpost => ?_)
              obtain ⟨y2, cu2, fa2, rfl, rfl, hal2⟩ := hpost
              refine qv_eq (ws' := [(uro, .inl (G.2.1, 24, .inl (qA (qU ro rdn kd)))), (urc, .inl (G.2.1, 24, .inl (qA (qU rc rdn (-1))))), (urn, .inl (G.2.1, 24, .inl (qA (qU rn rdn (-1))))), (urp, .inl (G.2.1, 24, .inl (qA rp))), (u, .inr (5, [.int (qI cd), .int (qI sz), .ref utx, .int (qI cu2), .int (qI fa2), .int (qI rdn), .ref uro, .ref urc, .ref urn, .ref urp, .ref ula, .int (qI n), .ref uop, .ref urg, .ref utg, .ref ude, .ref ule, .ref udn, .ref uv, .ref ub, .int (qI pl), .long (qL st), .int (qI on), .long (qL cn), .int (qI hd), .long (qL ps), .long (qL ss), .ref ubf, .ref ubh, .long (qL tk), .ref ukp, .ref uwa])), (utx, .inl (G.2.1, 120, .inl (qA x)))]) (st' := [.int (qI y2), .int (qI rdn), .ref urc]) rfl rfl rfl ?_
              have hal2r : (0 ≤ cu2 ∧ cu2 ≤ sz) ∧ (j ≤ cu2) ∧ (-1 ≤ fa2 ∧ fa2 ≤ 120) ∧ (y2 = -1 ∨ (97 ≤ y2 ∧ y2 ≤ 104)) := by
                rcases hal2 with q | q | ⟨q1, q2, q3, q4, q5⟩
                · omega
                · omega
                · have q6 := q5.1; have q7 := q5.2.1; omega
              refine qv_bipush C d_D_readInstruction_164 (by decide) ?_
              refine qv_isub C d_D_readInstruction_166 ?_
              refine qv_iast C 1 rfl (by omega) d_D_readInstruction_167 (ws' := [(uro, .inl (G.2.1, 24, .inl (qA (qU ro rdn kd)))), (urc, .inl (G.2.1, 24, .inl (qA (qU (qU rc rdn (-1)) rdn (y2 - 97))))), (urn, .inl (G.2.1, 24, .inl (qA (qU rn rdn (-1))))), (urp, .inl (G.2.1, 24, .inl (qA rp))), (u, .inr (5, [.int (qI cd), .int (qI sz), .ref utx, .int (qI cu2), .int (qI fa2), .int (qI rdn), .ref uro, .ref urc, .ref urn, .ref urp, .ref ula, .int (qI n), .ref uop, .ref urg, .ref utg, .ref ude, .ref ule, .ref udn, .ref uv, .ref ub, .int (qI pl), .long (qL st), .int (qI on), .long (qL cn), .int (qI hd), .long (qL ps), .long (qL ss), .ref ubf, .ref ubh, .long (qL tk), .ref ukp, .ref uwa])), (utx, .inl (G.2.1, 120, .inl (qA x)))]) rfl ?_
              refine qv_iload_n C 0 d_D_readInstruction_168 rfl rfl ?_
              refine qv_bipush C d_D_readInstruction_169 (by decide) ?_
              refine qv_icmp_eq C d_D_readInstruction_171 (tgt := 180) (by decide) (by omega) (by omega) (fun ht171 => ?_) (fun hf171 => ?_)
              · refine qv_aload_n C 1 d_D_readInstruction_180 rfl rfl ?_
                have h9b : -1 ≤ fa2 ∧ fa2 ≤ 120 := by omega
                refine qv_cV (As := []) (rest := []) (wc := [(u, .inr (5, [.int (qI cd), .int (qI sz), .ref utx, .int (qI cu2), .int (qI fa2), .int (qI rdn), .ref uro, .ref urc, .ref urn, .ref urp, .ref ula, .int (qI n), .ref uop, .ref urg, .ref utg, .ref ude, .ref ule, .ref udn, .ref uv, .ref ub, .int (qI pl), .long (qL st), .int (qI on), .long (qL cn), .int (qI hd), .long (qL ps), .long (qL ss), .ref ubf, .ref ubh, .long (qL tk), .ref ukp, .ref uwa])), (utx, .inl (G.2.1, 120, .inl (qA x))), (urn, .inl (G.2.1, 24, .inl (qA (qU rn rdn (-1))))), (urp, .inl (G.2.1, 24, .inl (qA rp)))]) (wr := [(uro, .inl (G.2.1, 24, .inl (qA (qU ro rdn kd)))), (urc, .inl (G.2.1, 24, .inl (qA (qU (qU rc rdn (-1)) rdn (y2 - 97)))))]) C k_D_readName (c_D_readName l G hsz hx (by omega) h9b (by omega)) wm_D_98 wi_D_readName ws_D_readName 0 rfl rfl (by decide) d_D_readInstruction_181 rfl rfl (Nat.le_of_ble_eq_true rfl) (by decide) [4, 5, 2, 3] [0, 1] rfl (by decide) rfl (by decide) (by decide) (fun v ws' hpost => ?_)
                obtain ⟨y3, cu3, fa3, rfl, rfl, hal3, hal3r⟩ := hpost
                refine qv_eq (ws' := [(uro, .inl (G.2.1, 24, .inl (qA (qU ro rdn kd)))), (urc, .inl (G.2.1, 24, .inl (qA (qU (qU rc rdn (-1)) rdn (y2 - 97))))), (u, .inr (5, [.int (qI cd), .int (qI sz), .ref utx, .int (qI cu3), .int (qI fa3), .int (qI rdn), .ref uro, .ref urc, .ref urn, .ref urp, .ref ula, .int (qI n), .ref uop, .ref urg, .ref utg, .ref ude, .ref ule, .ref udn, .ref uv, .ref ub, .int (qI pl), .long (qL st), .int (qI on), .long (qL cn), .int (qI hd), .long (qL ps), .long (qL ss), .ref ubf, .ref ubh, .long (qL tk), .ref ukp, .ref uwa])), (utx, .inl (G.2.1, 120, .inl (qA x))), (urn, .inl (G.2.1, 24, .inl (qA (qU (qU rn rdn (-1)) rdn (y3 - 65))))), (urp, .inl (G.2.1, 24, .inl (qA (qU rp rdn cu2))))]) (st' := []) rfl rfl rfl ?_
                refine qv_aload_n C 1 d_D_readInstruction_184 rfl rfl ?_
                refine qv_dup C d_D_readInstruction_185 rfl ?_
                refine qv_get C in_D 2 rfl rfl 5 (by decide) wf_D_95 rfl rfl d_D_readInstruction_186 ?_
                refine qv_iconst C d_D_readInstruction_189 ?_
                refine qv_iadd C d_D_readInstruction_190 ?_
                refine qv_put C in_D 2 rfl rfl 5 (by decide) t_D t_D_ok n_D wf_D_95 rfl rfl (t_D_ok 5 (by decide)) (rfl) (rfl) (Nat.le_of_ble_eq_true rfl) d_D_readInstruction_191 (ws' := [(uro, .inl (G.2.1, 24, .inl (qA (qU ro rdn kd)))), (urc, .inl (G.2.1, 24, .inl (qA (qU (qU rc rdn (-1)) rdn (y2 - 97))))), (u, .inr (5, [.int (qI cd), .int (qI sz), .ref utx, .int (qI cu3), .int (qI fa3), .int (qI (rdn + 1)), .ref uro, .ref urc, .ref urn, .ref urp, .ref ula, .int (qI n), .ref uop, .ref urg, .ref utg, .ref ude, .ref ule, .ref udn, .ref uv, .ref ub, .int (qI pl), .long (qL st), .int (qI on), .long (qL cn), .int (qI hd), .long (qL ps), .long (qL ss), .ref ubf, .ref ubh, .long (qL tk), .ref ukp, .ref uwa])), (utx, .inl (G.2.1, 120, .inl (qA x))), (urn, .inl (G.2.1, 24, .inl (qA (qU (qU rn rdn (-1)) rdn (y3 - 65))))), (urp, .inl (G.2.1, 24, .inl (qA (qU rp rdn cu2))))]) rfl ?_
                refine qv_ws (ws' := [(u, .inr (5, [.int (qI cd), .int (qI sz), .ref utx, .int (qI cu3), .int (qI fa3), .int (qI (rdn + 1)), .ref uro, .ref urc, .ref urn, .ref urp, .ref ula, .int (qI n), .ref uop, .ref urg, .ref utg, .ref ude, .ref ule, .ref udn, .ref uv, .ref ub, .int (qI pl), .long (qL st), .int (qI on), .long (qL cn), .int (qI hd), .long (qL ps), .long (qL ss), .ref ubf, .ref ubh, .long (qL tk), .ref ukp, .ref uwa])), (utx, .inl (G.2.1, 120, .inl (qA x))), (uro, .inl (G.2.1, 24, .inl (qA (qU ro rdn kd)))), (urc, .inl (G.2.1, 24, .inl (qA (qU (qU rc rdn (-1)) rdn (y2 - 97))))), (urn, .inl (G.2.1, 24, .inl (qA (qU (qU rn rdn (-1)) rdn (y3 - 65))))), (urp, .inl (G.2.1, 24, .inl (qA (qU rp rdn cu2))))]) [2, 3, 0, 1, 4, 5] (by decide) rfl ?_
                refine qv_vret C hrt hlk d_D_readInstruction_194 ?_
                by_cases hdead : c = 45
                · obtain ⟨lt2, hz⟩ := m_minus hrl hrd (by omega) (by omega) hg
                  refine ⟨cu3, fa3, rdn + 1, _, _, _, _, rfl, rfl, ⟨qU_rg (hrr.1) (by omega), qU_rg (qU_rg (hrr.2.1) (by omega)) (by omega), qU_rg (qU_rg (hrr.2.2.1) (by omega)) (by omega), qU_rg (hrr.2.2.2.1) (by omega), hrr.2.2.2.2⟩, by omega, ?_⟩
                  rcases hal2 with q | ⟨_, q2, q3, q4, q5⟩ | ⟨_, q2, q3, q4, q5⟩
                  · exfalso; omega
                  · rcases hal3 with ⟨p1, p2, p3, p4⟩ | ⟨p1, _⟩ | ⟨p1, _⟩
                    · exact Or.inr ⟨by omega, by rw [p4, q5]; exact m_c_no hz (by omega) hg3 q2, by omega⟩
                    · exfalso; omega
                    · exfalso; omega
                  · have hz3 := m_cMinus hz (by omega) q2.2 q5
                    have q6 := q5.2.2.1
                    rcases hal3 with ⟨p1, p2, p3, p4⟩ | ⟨_, p2, p3, p4, p5⟩ | ⟨_, p2, p3, p4, p5⟩
                    · exfalso; omega
                    · exact Or.inr ⟨by omega, by rw [p5]; exact m_name_no hz3 (by omega) q6 p2, by omega⟩
                    · exact Or.inl ⟨p4, by omega, m_name (m_rz_w hz3 qU_b qU_b2 qU_b2 qU_b) (Or.inl rfl) (by omega) p2.2 p5 (by rw [qU_s]; omega) (by rw [qU_s, q3]) (by rw [qU_s, p3]) (qU_s _ _ _), p5.2.2.1⟩
                · exfalso; omega
              · refine qv_iload_n C 0 d_D_readInstruction_174 rfl rfl ?_
                refine qv_bipush C d_D_readInstruction_175 (by decide) ?_
                refine qv_icmp_ne C d_D_readInstruction_177 (tgt := 184) (by decide) (by omega) (by omega) (fun ht177 => ?_) (fun hf177 => ?_)
                · refine qv_aload_n C 1 d_D_readInstruction_184 rfl rfl ?_
                  refine qv_dup C d_D_readInstruction_185 rfl ?_
                  refine qv_get C in_D 4 rfl rfl 5 (by decide) wf_D_95 rfl rfl d_D_readInstruction_186 ?_
                  refine qv_iconst C d_D_readInstruction_189 ?_
                  refine qv_iadd C d_D_readInstruction_190 ?_
                  refine qv_put C in_D 4 rfl rfl 5 (by decide) t_D t_D_ok n_D wf_D_95 rfl rfl (t_D_ok 5 (by decide)) (rfl) (rfl) (Nat.le_of_ble_eq_true rfl) d_D_readInstruction_191 (ws' := [(uro, .inl (G.2.1, 24, .inl (qA (qU ro rdn kd)))), (urc, .inl (G.2.1, 24, .inl (qA (qU (qU rc rdn (-1)) rdn (y2 - 97))))), (urn, .inl (G.2.1, 24, .inl (qA (qU rn rdn (-1))))), (urp, .inl (G.2.1, 24, .inl (qA rp))), (u, .inr (5, [.int (qI cd), .int (qI sz), .ref utx, .int (qI cu2), .int (qI fa2), .int (qI (rdn + 1)), .ref uro, .ref urc, .ref urn, .ref urp, .ref ula, .int (qI n), .ref uop, .ref urg, .ref utg, .ref ude, .ref ule, .ref udn, .ref uv, .ref ub, .int (qI pl), .long (qL st), .int (qI on), .long (qL cn), .int (qI hd), .long (qL ps), .long (qL ss), .ref ubf, .ref ubh, .long (qL tk), .ref ukp, .ref uwa])), (utx, .inl (G.2.1, 120, .inl (qA x)))]) rfl ?_
                  refine qv_ws (ws' := [(u, .inr (5, [.int (qI cd), .int (qI sz), .ref utx, .int (qI cu2), .int (qI fa2), .int (qI (rdn + 1)), .ref uro, .ref urc, .ref urn, .ref urp, .ref ula, .int (qI n), .ref uop, .ref urg, .ref utg, .ref ude, .ref ule, .ref udn, .ref uv, .ref ub, .int (qI pl), .long (qL st), .int (qI on), .long (qL cn), .int (qI hd), .long (qL ps), .long (qL ss), .ref ubf, .ref ubh, .long (qL tk), .ref ukp, .ref uwa])), (utx, .inl (G.2.1, 120, .inl (qA x))), (uro, .inl (G.2.1, 24, .inl (qA (qU ro rdn kd)))), (urc, .inl (G.2.1, 24, .inl (qA (qU (qU rc rdn (-1)) rdn (y2 - 97))))), (urn, .inl (G.2.1, 24, .inl (qA (qU rn rdn (-1))))), (urp, .inl (G.2.1, 24, .inl (qA rp)))]) [4, 5, 0, 1, 2, 3] (by decide) rfl ?_
                  refine qv_vret C hrt hlk d_D_readInstruction_194 ?_
                  by_cases hdead : c = 43
                  · obtain ⟨lt2, hz⟩ := m_plus hrl hrd (by omega) (by omega) hg
                    refine ⟨cu2, fa2, rdn + 1, _, _, _, _, rfl, rfl, ⟨qU_rg (hrr.1) (by omega), qU_rg (qU_rg (hrr.2.1) (by omega)) (by omega), qU_rg (hrr.2.2.1) (by omega), hrr.2.2.2.1, hrr.2.2.2.2⟩, by omega, ?_⟩
                    rcases hal2 with q | ⟨_, q2, q3, q4, q5⟩ | ⟨_, q2, q3, q4, q5⟩
                    · exfalso; omega
                    · exact Or.inr ⟨by omega, by rw [q5]; exact m_c_no hz (by omega) hg3 q2, by omega⟩
                    · exact Or.inl ⟨q4, by omega, m_cPlus (m_rz_w hz qU_b qU_b2 qU_b m_rf) (by omega) q2.2 q5 (by rw [qU_s]; omega) (by rw [qU_s, q3]) (qU_s _ _ _), q5.2.2.1⟩
                  · exfalso; omega
                · refine qv_aload_n C 1 d_D_readInstruction_180 rfl rfl ?_
                  have h9b : -1 ≤ fa2 ∧ fa2 ≤ 120 := by omega
                  refine qv_cV (As := []) (rest := []) (wc := [(u, .inr (5, [.int (qI cd), .int (qI sz), .ref utx, .int (qI cu2), .int (qI fa2), .int (qI rdn), .ref uro, .ref urc, .ref urn, .ref urp, .ref ula, .int (qI n), .ref uop, .ref urg, .ref utg, .ref ude, .ref ule, .ref udn, .ref uv, .ref ub, .int (qI pl), .long (qL st), .int (qI on), .long (qL cn), .int (qI hd), .long (qL ps), .long (qL ss), .ref ubf, .ref ubh, .long (qL tk), .ref ukp, .ref uwa])), (utx, .inl (G.2.1, 120, .inl (qA x))), (urn, .inl (G.2.1, 24, .inl (qA (qU rn rdn (-1))))), (urp, .inl (G.2.1, 24, .inl (qA rp)))]) (wr := [(uro, .inl (G.2.1, 24, .inl (qA (qU ro rdn kd)))), (urc, .inl (G.2.1, 24, .inl (qA (qU (qU rc rdn (-1)) rdn (y2 - 97)))))]) C k_D_readName (c_D_readName l G hsz hx (by omega) h9b (by omega)) wm_D_98 wi_D_readName ws_D_readName 0 rfl rfl (by decide) d_D_readInstruction_181 rfl rfl (Nat.le_of_ble_eq_true rfl) (by decide) [4, 5, 2, 3] [0, 1] rfl (by decide) rfl (by decide) (by decide) (fun v ws' hpost => ?_)
                  obtain ⟨y3, cu3, fa3, rfl, rfl, hal3, hal3r⟩ := hpost
                  refine qv_eq (ws' := [(uro, .inl (G.2.1, 24, .inl (qA (qU ro rdn kd)))), (urc, .inl (G.2.1, 24, .inl (qA (qU (qU rc rdn (-1)) rdn (y2 - 97))))), (u, .inr (5, [.int (qI cd), .int (qI sz), .ref utx, .int (qI cu3), .int (qI fa3), .int (qI rdn), .ref uro, .ref urc, .ref urn, .ref urp, .ref ula, .int (qI n), .ref uop, .ref urg, .ref utg, .ref ude, .ref ule, .ref udn, .ref uv, .ref ub, .int (qI pl), .long (qL st), .int (qI on), .long (qL cn), .int (qI hd), .long (qL ps), .long (qL ss), .ref ubf, .ref ubh, .long (qL tk), .ref ukp, .ref uwa])), (utx, .inl (G.2.1, 120, .inl (qA x))), (urn, .inl (G.2.1, 24, .inl (qA (qU (qU rn rdn (-1)) rdn (y3 - 65))))), (urp, .inl (G.2.1, 24, .inl (qA (qU rp rdn cu2))))]) (st' := []) rfl rfl rfl ?_
                  refine qv_aload_n C 1 d_D_readInstruction_184 rfl rfl ?_
                  refine qv_dup C d_D_readInstruction_185 rfl ?_
                  refine qv_get C in_D 2 rfl rfl 5 (by decide) wf_D_95 rfl rfl d_D_readInstruction_186 ?_
                  refine qv_iconst C d_D_readInstruction_189 ?_
                  refine qv_iadd C d_D_readInstruction_190 ?_
                  refine qv_put C in_D 2 rfl rfl 5 (by decide) t_D t_D_ok n_D wf_D_95 rfl rfl (t_D_ok 5 (by decide)) (rfl) (rfl) (Nat.le_of_ble_eq_true rfl) d_D_readInstruction_191 (ws' := [(uro, .inl (G.2.1, 24, .inl (qA (qU ro rdn kd)))), (urc, .inl (G.2.1, 24, .inl (qA (qU (qU rc rdn (-1)) rdn (y2 - 97))))), (u, .inr (5, [.int (qI cd), .int (qI sz), .ref utx, .int (qI cu3), .int (qI fa3), .int (qI (rdn + 1)), .ref uro, .ref urc, .ref urn, .ref urp, .ref ula, .int (qI n), .ref uop, .ref urg, .ref utg, .ref ude, .ref ule, .ref udn, .ref uv, .ref ub, .int (qI pl), .long (qL st), .int (qI on), .long (qL cn), .int (qI hd), .long (qL ps), .long (qL ss), .ref ubf, .ref ubh, .long (qL tk), .ref ukp, .ref uwa])), (utx, .inl (G.2.1, 120, .inl (qA x))), (urn, .inl (G.2.1, 24, .inl (qA (qU (qU rn rdn (-1)) rdn (y3 - 65))))), (urp, .inl (G.2.1, 24, .inl (qA (qU rp rdn cu2))))]) rfl ?_
                  refine qv_ws (ws' := [(u, .inr (5, [.int (qI cd), .int (qI sz), .ref utx, .int (qI cu3), .int (qI fa3), .int (qI (rdn + 1)), .ref uro, .ref urc, .ref urn, .ref urp, .ref ula, .int (qI n), .ref uop, .ref urg, .ref utg, .ref ude, .ref ule, .ref udn, .ref uv, .ref ub, .int (qI pl), .long (qL st), .int (qI on), .long (qL cn), .int (qI hd), .long (qL ps), .long (qL ss), .ref ubf, .ref ubh, .long (qL tk), .ref ukp, .ref uwa])), (utx, .inl (G.2.1, 120, .inl (qA x))), (uro, .inl (G.2.1, 24, .inl (qA (qU ro rdn kd)))), (urc, .inl (G.2.1, 24, .inl (qA (qU (qU rc rdn (-1)) rdn (y2 - 97))))), (urn, .inl (G.2.1, 24, .inl (qA (qU (qU rn rdn (-1)) rdn (y3 - 65))))), (urp, .inl (G.2.1, 24, .inl (qA (qU rp rdn cu2))))]) [2, 3, 0, 1, 4, 5] (by decide) rfl ?_
                  refine qv_vret C hrt hlk d_D_readInstruction_194 ?_
                  by_cases hdead : c = 45
                  · obtain ⟨lt2, hz⟩ := m_minus hrl hrd (by omega) (by omega) hg
                    refine ⟨cu3, fa3, rdn + 1, _, _, _, _, rfl, rfl, ⟨qU_rg (hrr.1) (by omega), qU_rg (qU_rg (hrr.2.1) (by omega)) (by omega), qU_rg (qU_rg (hrr.2.2.1) (by omega)) (by omega), qU_rg (hrr.2.2.2.1) (by omega), hrr.2.2.2.2⟩, by omega, ?_⟩
                    rcases hal2 with q | ⟨_, q2, q3, q4, q5⟩ | ⟨_, q2, q3, q4, q5⟩
                    · exfalso; omega
                    · rcases hal3 with ⟨p1, p2, p3, p4⟩ | ⟨p1, _⟩ | ⟨p1, _⟩
                      · exact Or.inr ⟨by omega, by rw [p4, q5]; exact m_c_no hz (by omega) hg3 q2, by omega⟩
                      · exfalso; omega
                      · exfalso; omega
                    · have hz3 := m_cMinus hz (by omega) q2.2 q5
                      have q6 := q5.2.2.1
                      rcases hal3 with ⟨p1, p2, p3, p4⟩ | ⟨_, p2, p3, p4, p5⟩ | ⟨_, p2, p3, p4, p5⟩
                      · exfalso; omega
                      · exact Or.inr ⟨by omega, by rw [p5]; exact m_name_no hz3 (by omega) q6 p2, by omega⟩
                      · exact Or.inl ⟨p4, by omega, m_name (m_rz_w hz3 qU_b qU_b2 qU_b2 qU_b) (Or.inl rfl) (by omega) p2.2 p5 (by rw [qU_s]; omega) (by rw [qU_s, q3]) (by rw [qU_s, p3]) (qU_s _ _ _), p5.2.2.1⟩
                  · exfalso; omega
        refine qv_bipush C d_D_readInstruction_74 (by decide) ?_
        refine qv_icmp_eq C d_D_readInstruction_76 (tgt := 106) (by decide) (by omega) (by omega) (fun ht76 => ?_) (fun hf76 => ?_)
        · exact J106 c kd (by first | assumption | omega) (by first | assumption | omega) (by first | assumption | omega)
        · refine qv_iload_n C 0 d_D_readInstruction_79 rfl rfl ?_
          refine qv_bipush C d_D_readInstruction_80 (by decide) ?_
          refine qv_icmp_eq C d_D_readInstruction_82 (tgt := 106) (by decide) (by omega) (by omega) (fun ht82 => ?_) (fun hf82 => ?_)
          · exact J106 c kd (by first | assumption | omega) (by first | assumption | omega) (by first | assumption | omega)
          · refine qv_iload_n C 0 d_D_readInstruction_85 rfl rfl ?_
            refine qv_bipush C d_D_readInstruction_86 (by decide) ?_
            refine qv_icmp_eq C d_D_readInstruction_88 (tgt := 106) (by decide) (by omega) (by omega) (fun ht88 => ?_) (fun hf88 => ?_)
            · exact J106 c kd (by first | assumption | omega) (by first | assumption | omega) (by first | assumption | omega)
            · refine qv_iload_n C 0 d_D_readInstruction_91 rfl rfl ?_
              refine qv_bipush C d_D_readInstruction_92 (by decide) ?_
              refine qv_icmp_eq C d_D_readInstruction_94 (tgt := 106) (by decide) (by omega) (by omega) (fun ht94 => ?_) (fun hf94 => ?_)
              · exact J106 c kd (by first | assumption | omega) (by first | assumption | omega) (by first | assumption | omega)
              · refine qv_aload_n C 1 d_D_readInstruction_97 rfl rfl ?_
                refine qv_aload_n C 1 d_D_readInstruction_98 rfl rfl ?_
                refine qv_get C in_D 0 rfl rfl 3 (by decide) wf_D_77 rfl rfl d_D_readInstruction_99 ?_
                refine qv_put C in_D 0 rfl rfl 4 (by decide) t_D t_D_ok n_D wf_D_80 rfl rfl (t_D_ok 4 (by decide)) (rfl) (rfl) (Nat.le_of_ble_eq_true rfl) d_D_readInstruction_102 (ws' := [(u, .inr (5, [.int (qI cd), .int (qI sz), .ref utx, .int (qI cu), .int (qI cu), .int (qI rdn), .ref uro, .ref urc, .ref urn, .ref urp, .ref ula, .int (qI n), .ref uop, .ref urg, .ref utg, .ref ude, .ref ule, .ref udn, .ref uv, .ref ub, .int (qI pl), .long (qL st), .int (qI on), .long (qL cn), .int (qI hd), .long (qL ps), .long (qL ss), .ref ubf, .ref ubh, .long (qL tk), .ref ukp, .ref uwa])), (utx, .inl (G.2.1, 120, .inl (qA x))), (uro, .inl (G.2.1, 24, .inl (qA (qU ro rdn kd)))), (urc, .inl (G.2.1, 24, .inl (qA rc))), (urn, .inl (G.2.1, 24, .inl (qA rn))), (urp, .inl (G.2.1, 24, .inl (qA rp)))]) rfl ?_
                refine qv_vret C hrt hlk d_D_readInstruction_105 ?_
                refine ⟨cu, cu, rdn, _, _, _, _, rfl, rfl, ⟨qU_rg (hrr.1) (by omega), hrr.2.1, hrr.2.2.1, hrr.2.2.2.1, hrr.2.2.2.2⟩, by omega, ?_⟩
                exact Or.inr ⟨by omega, m_ins_no hrl hrd (by omega) hns hnl (fun q => by omega) hend, by omega⟩
      refine qv_get C in_D 0 rfl rfl 6 (by decide) wf_D_13 rfl rfl d_D_readInstruction_34 ?_
      refine qv_aload_n C 1 d_D_readInstruction_37 rfl rfl ?_
      refine qv_get C in_D 0 rfl rfl 5 (by decide) wf_D_95 rfl rfl d_D_readInstruction_38 ?_
      refine qv_iload_n C 0 d_D_readInstruction_41 rfl rfl ?_
      refine qv_bipush C d_D_readInstruction_42 (by decide) ?_
      refine qv_icmp_ne C d_D_readInstruction_44 (tgt := 51) (by decide) (by omega) (by omega) (fun ht44 => ?_) (fun hf44 => ?_)
      · refine qv_iload_n C 0 d_D_readInstruction_51 rfl rfl ?_
        refine qv_bipush C d_D_readInstruction_52 (by decide) ?_
        refine qv_icmp_ne C d_D_readInstruction_54 (tgt := 61) (by decide) (by omega) (by omega) (fun ht54 => ?_) (fun hf54 => ?_)
        · refine qv_iload_n C 0 d_D_readInstruction_61 rfl rfl ?_
          refine qv_bipush C d_D_readInstruction_62 (by decide) ?_
          refine qv_icmp_ne C d_D_readInstruction_64 (tgt := 71) (by decide) (by omega) (by omega) (fun ht64 => ?_) (fun hf64 => ?_)
          · refine qv_iconst C d_D_readInstruction_71 ?_
            refine qv_iast C 2 rfl (by omega) d_D_readInstruction_72 (ws' := [(u, .inr (5, [.int (qI cd), .int (qI sz), .ref utx, .int (qI cu), .int (qI fa), .int (qI rdn), .ref uro, .ref urc, .ref urn, .ref urp, .ref ula, .int (qI n), .ref uop, .ref urg, .ref utg, .ref ude, .ref ule, .ref udn, .ref uv, .ref ub, .int (qI pl), .long (qL st), .int (qI on), .long (qL cn), .int (qI hd), .long (qL ps), .long (qL ss), .ref ubf, .ref ubh, .long (qL tk), .ref ukp, .ref uwa])), (utx, .inl (G.2.1, 120, .inl (qA x))), (uro, .inl (G.2.1, 24, .inl (qA (qU ro rdn 3)))), (urc, .inl (G.2.1, 24, .inl (qA rc))), (urn, .inl (G.2.1, 24, .inl (qA rn))), (urp, .inl (G.2.1, 24, .inl (qA rp)))]) rfl ?_
            exact J73 c 3 (by first | assumption | omega) (by first | assumption | omega) (by first | assumption | omega)
          · refine qv_iconst C d_D_readInstruction_67 ?_
            refine qv_goto C d_D_readInstruction_68 (by decide) (tgt := 72) ?_
            refine qv_iast C 2 rfl (by omega) d_D_readInstruction_72 (ws' := [(u, .inr (5, [.int (qI cd), .int (qI sz), .ref utx, .int (qI cu), .int (qI fa), .int (qI rdn), .ref uro, .ref urc, .ref urn, .ref urp, .ref ula, .int (qI n), .ref uop, .ref urg, .ref utg, .ref ude, .ref ule, .ref udn, .ref uv, .ref ub, .int (qI pl), .long (qL st), .int (qI on), .long (qL cn), .int (qI hd), .long (qL ps), .long (qL ss), .ref ubf, .ref ubh, .long (qL tk), .ref ukp, .ref uwa])), (utx, .inl (G.2.1, 120, .inl (qA x))), (uro, .inl (G.2.1, 24, .inl (qA (qU ro rdn 2)))), (urc, .inl (G.2.1, 24, .inl (qA rc))), (urn, .inl (G.2.1, 24, .inl (qA rn))), (urp, .inl (G.2.1, 24, .inl (qA rp)))]) rfl ?_
            exact J73 c 2 (by first | assumption | omega) (by first | assumption | omega) (by first | assumption | omega)
        · refine qv_iconst C d_D_readInstruction_57 ?_
          refine qv_goto C d_D_readInstruction_58 (by decide) (tgt := 72) ?_
          refine qv_iast C 2 rfl (by omega) d_D_readInstruction_72 (ws' := [(u, .inr (5, [.int (qI cd), .int (qI sz), .ref utx, .int (qI cu), .int (qI fa), .int (qI rdn), .ref uro, .ref urc, .ref urn, .ref urp, .ref ula, .int (qI n), .ref uop, .ref urg, .ref utg, .ref ude, .ref ule, .ref udn, .ref uv, .ref ub, .int (qI pl), .long (qL st), .int (qI on), .long (qL cn), .int (qI hd), .long (qL ps), .long (qL ss), .ref ubf, .ref ubh, .long (qL tk), .ref ukp, .ref uwa])), (utx, .inl (G.2.1, 120, .inl (qA x))), (uro, .inl (G.2.1, 24, .inl (qA (qU ro rdn 1)))), (urc, .inl (G.2.1, 24, .inl (qA rc))), (urn, .inl (G.2.1, 24, .inl (qA rn))), (urp, .inl (G.2.1, 24, .inl (qA rp)))]) rfl ?_
          exact J73 c 1 (by first | assumption | omega) (by first | assumption | omega) (by first | assumption | omega)
      · refine qv_iconst C d_D_readInstruction_47 ?_
        refine qv_goto C d_D_readInstruction_48 (by decide) (tgt := 72) ?_
        refine qv_iast C 2 rfl (by omega) d_D_readInstruction_72 (ws' := [(u, .inr (5, [.int (qI cd), .int (qI sz), .ref utx, .int (qI cu), .int (qI fa), .int (qI rdn), .ref uro, .ref urc, .ref urn, .ref urp, .ref ula, .int (qI n), .ref uop, .ref urg, .ref utg, .ref ude, .ref ule, .ref udn, .ref uv, .ref ub, .int (qI pl), .long (qL st), .int (qI on), .long (qL cn), .int (qI hd), .long (qL ps), .long (qL ss), .ref ubf, .ref ubh, .long (qL tk), .ref ukp, .ref uwa])), (utx, .inl (G.2.1, 120, .inl (qA x))), (uro, .inl (G.2.1, 24, .inl (qA (qU ro rdn 0)))), (urc, .inl (G.2.1, 24, .inl (qA rc))), (urn, .inl (G.2.1, 24, .inl (qA rn))), (urp, .inl (G.2.1, 24, .inl (qA rp)))]) rfl ?_
        exact J73 c 0 (by first | assumption | omega) (by first | assumption | omega) (by first | assumption | omega)
    refine qv_aload_n C 0 d_D_readInstruction_8 rfl rfl ?_
    refine qv_get C in_D 0 rfl rfl 3 (by decide) wf_D_77 rfl rfl d_D_readInstruction_9 ?_
    refine qv_aload_n C 0 d_D_readInstruction_12 rfl rfl ?_
    refine qv_get C in_D 0 rfl rfl 1 (by decide) wf_D_74 rfl rfl d_D_readInstruction_13 ?_
    refine qv_icmp_ge C d_D_readInstruction_16 (tgt := 31) (by decide) (by omega) (by omega) (fun ht16 => ?_) (fun hf16 => ?_)
    · refine qv_iconst C d_D_readInstruction_31 ?_
      refine qv_istore_n C d_D_readInstruction_32 rfl (by decide) (lv' := [(1, .int (qI 0)), (0, .ref u)]) rfl ?_
      exact J33 0 (by first | assumption | omega) (by first | assumption | omega)
    · refine qv_aload_n C 0 d_D_readInstruction_19 rfl rfl ?_
      refine qv_get C in_D 0 rfl rfl 2 (by decide) wf_D_7 rfl rfl d_D_readInstruction_20 ?_
      refine qv_aload_n C 0 d_D_readInstruction_23 rfl rfl ?_
      refine qv_get C in_D 0 rfl rfl 3 (by decide) wf_D_77 rfl rfl d_D_readInstruction_24 ?_
      refine qv_iald C 1 rfl (by omega) d_D_readInstruction_27 ?_
      have hq0 := hx cu
      refine qv_goto C d_D_readInstruction_28 (by decide) (tgt := 32) ?_
      refine qv_istore_n C d_D_readInstruction_32 rfl (by decide) (lv' := [(1, .int (qI (x cu))), (0, .ref u)]) rfl ?_
      exact J33 (x cu) (by first | assumption | omega) (by first | assumption | omega)
  · refine qv_vret C hrt hlk d_D_readInstruction_7 ?_
    refine ⟨cu, fa, rdn, ro, rc, rn, rp, rfl, rfl, hrr, by omega, Or.inr ⟨by omega, (hst.resolve_left (fun q => by omega)).2, by omega⟩⟩

set_option maxHeartbeats 4000000 in
set_option maxRecDepth 100000 in
theorem c_M_isHalted (l : Launch) (G : qG) {m mv p pk pr pt pd pb ph pe pg : Nat} {pl st n lc : Int} {k : Int → Int} (hn : 0 ≤ n ∧ n ≤ 24) (hp : 0 ≤ pl ∧ pl ≤ n) (hk : ∀ i, 0 ≤ k i ∧ k i ≤ 3) : qM l G y_M_isHalted b_M_isHalted 2 (some .boolean) ({ frames := 0, cells := 0, slots := 0, locals := 0 }) [.ref m, .ref p] [(m, .inr (0, [.ref mv, .int (qI pl), .long (qL st)])), (p, .inr (2, [.ref pk, .ref pr, .ref pt, .int (qI n), .ref pd, .ref pb, .ref ph, .ref pe, .ref pg, .int (qI lc)])), (pk, .inl (G.2.1, 24, .inl (qA k)))] (fun v ws' => ws' = [(m, .inr (0, [.ref mv, .int (qI pl), .long (qL st)])), (p, .inr (2, [.ref pk, .ref pr, .ref pt, .int (qI n), .ref pd, .ref pb, .ref ph, .ref pe, .ref pg, .int (qI lc)])), (pk, .inl (G.2.1, 24, .inl (qA k)))] ∧ ∃ x : Int, v = some (.int (qI x)) ∧ ((x = 1 ∧ (n ≤ pl ∨ k pl = 3)) ∨ (x = 0 ∧ (pl < n ∧ ¬ k pl = 3)))) := by
  refine qM.of (by decide) (Nat.le_of_ble_eq_true rfl) (fun xp xe xs xm xb xme xc A C hrt hlk hnm => ?_)
  refine qv_eq (lv' := [(0, .ref m), (1, .ref p)]) rfl rfl rfl ?_
  refine qv_aload_n C 0 d_M_isHalted_0 rfl rfl ?_
  refine qv_get C in_M 0 rfl rfl 1 (by decide) wf_M_21 rfl rfl d_M_isHalted_1 ?_
  refine qv_aload_n C 1 d_M_isHalted_4 rfl rfl ?_
  refine qv_getN C in_P 1 rfl rfl 3 (by decide) wf_M_29 rfl rfl d_M_isHalted_5 ?_
  refine qv_icmp_ge C d_M_isHalted_8 (tgt := 24) (by decide) (by omega) (by omega) (fun ht8 => ?_) (fun hf8 => ?_)
  · refine qv_iconst C d_M_isHalted_24 ?_
    refine qv_goto C d_M_isHalted_25 (by decide) (tgt := 29) ?_
    refine qv_zret C (by omega) hrt hlk d_M_isHalted_29 ?_
    exact ⟨rfl, 1, rfl, by omega⟩
  · refine qv_aload_n C 1 d_M_isHalted_11 rfl rfl ?_
    refine qv_getN C in_P 1 rfl rfl 0 (by decide) wf_M_34 rfl rfl d_M_isHalted_12 ?_
    refine qv_aload_n C 0 d_M_isHalted_15 rfl rfl ?_
    refine qv_get C in_M 0 rfl rfl 1 (by decide) wf_M_21 rfl rfl d_M_isHalted_16 ?_
    refine qv_iald C 2 rfl (by omega) d_M_isHalted_19 ?_
    have hq0 := hk pl
    refine qv_iconst C d_M_isHalted_20 ?_
    refine qv_icmp_ne C d_M_isHalted_21 (tgt := 28) (by decide) (by omega) (by omega) (fun ht21 => ?_) (fun hf21 => ?_)
    · refine qv_iconst C d_M_isHalted_28 ?_
      refine qv_zret C (by omega) hrt hlk d_M_isHalted_29 ?_
      exact ⟨rfl, 0, rfl, by omega⟩
    · refine qv_iconst C d_M_isHalted_24 ?_
      refine qv_goto C d_M_isHalted_25 (by decide) (tgt := 29) ?_
      refine qv_zret C (by omega) hrt hlk d_M_isHalted_29 ?_
      exact ⟨rfl, 1, rfl, by omega⟩
set_option maxHeartbeats 4000000 in
set_option maxRecDepth 100000 in
theorem c_M_isStuck (l : Launch) (G : qG) {m mv p pk pr pt pd pb ph pe pg : Nat} {pl st n lc : Int} {k r v : Int → Int} (hn : 0 ≤ n ∧ n ≤ 24) (hp : 0 ≤ pl ∧ pl ≤ n) (hk : ∀ i, 0 ≤ k i ∧ k i ≤ 3) (hr : ∀ i, 0 ≤ i → i < n → k i = 0 ∨ k i = 1 → 0 ≤ r i ∧ r i ≤ 7) (hs : 0 ≤ st ∧ st ≤ 1000000000000000) (hv : ∀ c, 0 ≤ v c ∧ v c ≤ 1000000) : qM l G y_M_isStuck b_M_isStuck 3 (some .boolean) ({ frames := 1, cells := 0, slots := 0, locals := 21 }) [.ref m, .ref p] [(m, .inr (0, [.ref mv, .int (qI pl), .long (qL st)])), (p, .inr (2, [.ref pk, .ref pr, .ref pt, .int (qI n), .ref pd, .ref pb, .ref ph, .ref pe, .ref pg, .int (qI lc)])), (pk, .inl (G.2.1, 24, .inl (qA k))), (pr, .inl (G.2.1, 24, .inl (qA r))), (mv, .inl (G.2.1, 8, .inl (qA v)))] (fun v' ws' => ws' = [(m, .inr (0, [.ref mv, .int (qI pl), .long (qL st)])), (p, .inr (2, [.ref pk, .ref pr, .ref pt, .int (qI n), .ref pd, .ref pb, .ref ph, .ref pe, .ref pg, .int (qI lc)])), (pk, .inl (G.2.1, 24, .inl (qA k))), (pr, .inl (G.2.1, 24, .inl (qA r))), (mv, .inl (G.2.1, 8, .inl (qA v)))] ∧ ∃ x : Int, v' = some (.int (qI x)) ∧ ((x = 1 ∧ (pl < n ∧ ¬ k pl = 3) ∧ ((k pl = 0 ∧ 1000000 ≤ v (r pl)) ∨ 1000000000000000 ≤ st)) ∨ (x = 0 ∧ ((n ≤ pl ∨ k pl = 3) ∨ ((pl < n ∧ ¬ k pl = 3) ∧ ¬ ((k pl = 0 ∧ 1000000 ≤ v (r pl)) ∨ 1000000000000000 ≤ st)))))) := by
  refine qM.of (by decide) (Nat.le_of_ble_eq_true rfl) (fun xp xe xs xm xb xme xc A C hrt hlk hnm => ?_)
  refine qv_eq (lv' := [(0, .ref m), (1, .ref p)]) rfl rfl rfl ?_
  refine qv_aload_n C 0 d_M_isStuck_0 rfl rfl ?_
  refine qv_aload_n C 1 d_M_isStuck_1 rfl rfl ?_
  refine qv_cV (As := [.ref p]) (rest := []) (wc := [(m, .inr (0, [.ref mv, .int (qI pl), .long (qL st)])), (p, .inr (2, [.ref pk, .ref pr, .ref pt, .int (qI n), .ref pd, .ref pb, .ref ph, .ref pe, .ref pg, .int (qI lc)])), (pk, .inl (G.2.1, 24, .inl (qA k)))]) (wr := [(pr, .inl (G.2.1, 24, .inl (qA r))), (mv, .inl (G.2.1, 8, .inl (qA v)))]) C k_M_isHalted (c_M_isHalted l G hn hp hk) wm_M_37 wi_M_isHalted ws_M_isHalted 0 rfl rfl (by decide) d_M_isStuck_2 rfl rfl (Nat.le_of_ble_eq_true rfl) (by decide) [0, 1, 2] [3, 4] rfl (by decide) rfl (by decide) (by decide) (fun v ws' hpost => ?_)
  obtain ⟨rfl, xh, rfl, hxh⟩ := hpost
  refine qv_eq (ws' := [(pr, .inl (G.2.1, 24, .inl (qA r))), (mv, .inl (G.2.1, 8, .inl (qA v))), (m, .inr (0, [.ref mv, .int (qI pl), .long (qL st)])), (p, .inr (2, [.ref pk, .ref pr, .ref pt, .int (qI n), .ref pd, .ref pb, .ref ph, .ref pe, .ref pg, .int (qI lc)])), (pk, .inl (G.2.1, 24, .inl (qA k)))]) (st' := [.int (qI xh)]) rfl rfl rfl ?_
  refine qv_if_eq C d_M_isStuck_5 (tgt := 10) (by decide) (by omega) (fun ht5 => ?_) (fun hf5 => ?_)
  · refine qv_aload_n C 1 d_M_isStuck_10 rfl rfl ?_
    refine qv_getN C in_P 3 rfl rfl 0 (by decide) wf_M_34 rfl rfl d_M_isStuck_11 ?_
    refine qv_aload_n C 0 d_M_isStuck_14 rfl rfl ?_
    refine qv_get C in_M 2 rfl rfl 1 (by decide) wf_M_21 rfl rfl d_M_isStuck_15 ?_
    refine qv_iald C 4 rfl (by omega) d_M_isStuck_18 ?_
    have hq0 := hk pl
    refine qv_if_ne C d_M_isStuck_19 (tgt := 45) (by decide) (by omega) (fun ht19 => ?_) (fun hf19 => ?_)
    · refine qv_iconst C d_M_isStuck_45 ?_
      refine qv_istore_n C d_M_isStuck_46 rfl (by decide) (lv' := [(2, .int (qI 0)), (0, .ref m), (1, .ref p)]) rfl ?_
      refine qv_iload_n C 0 d_M_isStuck_47 rfl rfl ?_
      refine qv_if_ne C d_M_isStuck_48 (tgt := 62) (by decide) (by omega) (fun ht48 => ?_) (fun hf48 => ?_)
      · exfalso; omega
      · refine qv_aload_n C 1 d_M_isStuck_51 rfl rfl ?_
        refine qv_get C in_M 2 rfl rfl 2 (by decide) wf_M_25 rfl rfl d_M_isStuck_52 ?_
        refine qv_ldc2 C (n := 1000000000000000) wk_M_45 (by decide) d_M_isStuck_55 ?_
        refine qv_lcmp_lt C d_M_isStuck_58 d_M_isStuck_59 (tgt := 66) (by decide) (by omega) (by omega) (fun ht58 => ?_) (fun hf58 => ?_)
        · refine qv_iconst C d_M_isStuck_66 ?_
          refine qv_ws (ws' := [(m, .inr (0, [.ref mv, .int (qI pl), .long (qL st)])), (p, .inr (2, [.ref pk, .ref pr, .ref pt, .int (qI n), .ref pd, .ref pb, .ref ph, .ref pe, .ref pg, .int (qI lc)])), (pk, .inl (G.2.1, 24, .inl (qA k))), (pr, .inl (G.2.1, 24, .inl (qA r))), (mv, .inl (G.2.1, 8, .inl (qA v)))]) [2, 3, 4, 0, 1] (by decide) rfl ?_
          refine qv_zret C (by omega) hrt hlk d_M_isStuck_67 ?_
          exact ⟨rfl, 0, rfl, by omega⟩
        · refine qv_iconst C d_M_isStuck_62 ?_
          refine qv_goto C d_M_isStuck_63 (by decide) (tgt := 67) ?_
          refine qv_ws (ws' := [(m, .inr (0, [.ref mv, .int (qI pl), .long (qL st)])), (p, .inr (2, [.ref pk, .ref pr, .ref pt, .int (qI n), .ref pd, .ref pb, .ref ph, .ref pe, .ref pg, .int (qI lc)])), (pk, .inl (G.2.1, 24, .inl (qA k))), (pr, .inl (G.2.1, 24, .inl (qA r))), (mv, .inl (G.2.1, 8, .inl (qA v)))]) [2, 3, 4, 0, 1] (by decide) rfl ?_
          refine qv_zret C (by omega) hrt hlk d_M_isStuck_67 ?_
          exact ⟨rfl, 1, rfl, by omega⟩
    · refine qv_aload_n C 0 d_M_isStuck_22 rfl rfl ?_
      refine qv_get C in_M 2 rfl rfl 0 (by decide) wf_M_9 rfl rfl d_M_isStuck_23 ?_
      refine qv_aload_n C 1 d_M_isStuck_26 rfl rfl ?_
      refine qv_getN C in_P 3 rfl rfl 1 (by decide) wf_M_41 rfl rfl d_M_isStuck_27 ?_
      refine qv_aload_n C 0 d_M_isStuck_30 rfl rfl ?_
      refine qv_get C in_M 2 rfl rfl 1 (by decide) wf_M_21 rfl rfl d_M_isStuck_31 ?_
      refine qv_iald C 0 rfl (by omega) d_M_isStuck_34 ?_
      have hq1 := hr pl (by omega) (by omega) (by omega)
      refine qv_iald C 1 rfl (by omega) d_M_isStuck_35 ?_
      have hq2 := hv (r pl)
      refine qv_ldc C (n := 1000000) wk_M_44 (by decide) d_M_isStuck_36 ?_
      refine qv_icmp_lt C d_M_isStuck_38 (tgt := 45) (by decide) (by omega) (by omega) (fun ht38 => ?_) (fun hf38 => ?_)
      · refine qv_iconst C d_M_isStuck_45 ?_
        refine qv_istore_n C d_M_isStuck_46 rfl (by decide) (lv' := [(2, .int (qI 0)), (0, .ref m), (1, .ref p)]) rfl ?_
        refine qv_iload_n C 0 d_M_isStuck_47 rfl rfl ?_
        refine qv_if_ne C d_M_isStuck_48 (tgt := 62) (by decide) (by omega) (fun ht48 => ?_) (fun hf48 => ?_)
        · exfalso; omega
        · refine qv_aload_n C 1 d_M_isStuck_51 rfl rfl ?_
          refine qv_get C in_M 2 rfl rfl 2 (by decide) wf_M_25 rfl rfl d_M_isStuck_52 ?_
          refine qv_ldc2 C (n := 1000000000000000) wk_M_45 (by decide) d_M_isStuck_55 ?_
          refine qv_lcmp_lt C d_M_isStuck_58 d_M_isStuck_59 (tgt := 66) (by decide) (by omega) (by omega) (fun ht58 => ?_) (fun hf58 => ?_)
          · refine qv_iconst C d_M_isStuck_66 ?_
            refine qv_ws (ws' := [(m, .inr (0, [.ref mv, .int (qI pl), .long (qL st)])), (p, .inr (2, [.ref pk, .ref pr, .ref pt, .int (qI n), .ref pd, .ref pb, .ref ph, .ref pe, .ref pg, .int (qI lc)])), (pk, .inl (G.2.1, 24, .inl (qA k))), (pr, .inl (G.2.1, 24, .inl (qA r))), (mv, .inl (G.2.1, 8, .inl (qA v)))]) [2, 3, 4, 0, 1] (by decide) rfl ?_
            refine qv_zret C (by omega) hrt hlk d_M_isStuck_67 ?_
            exact ⟨rfl, 0, rfl, by omega⟩
          · refine qv_iconst C d_M_isStuck_62 ?_
            refine qv_goto C d_M_isStuck_63 (by decide) (tgt := 67) ?_
            refine qv_ws (ws' := [(m, .inr (0, [.ref mv, .int (qI pl), .long (qL st)])), (p, .inr (2, [.ref pk, .ref pr, .ref pt, .int (qI n), .ref pd, .ref pb, .ref ph, .ref pe, .ref pg, .int (qI lc)])), (pk, .inl (G.2.1, 24, .inl (qA k))), (pr, .inl (G.2.1, 24, .inl (qA r))), (mv, .inl (G.2.1, 8, .inl (qA v)))]) [2, 3, 4, 0, 1] (by decide) rfl ?_
            refine qv_zret C (by omega) hrt hlk d_M_isStuck_67 ?_
            exact ⟨rfl, 1, rfl, by omega⟩
      · refine qv_iconst C d_M_isStuck_41 ?_
        refine qv_goto C d_M_isStuck_42 (by decide) (tgt := 46) ?_
        refine qv_istore_n C d_M_isStuck_46 rfl (by decide) (lv' := [(2, .int (qI 1)), (0, .ref m), (1, .ref p)]) rfl ?_
        refine qv_iload_n C 0 d_M_isStuck_47 rfl rfl ?_
        refine qv_if_ne C d_M_isStuck_48 (tgt := 62) (by decide) (by omega) (fun ht48 => ?_) (fun hf48 => ?_)
        · refine qv_iconst C d_M_isStuck_62 ?_
          refine qv_goto C d_M_isStuck_63 (by decide) (tgt := 67) ?_
          refine qv_ws (ws' := [(m, .inr (0, [.ref mv, .int (qI pl), .long (qL st)])), (p, .inr (2, [.ref pk, .ref pr, .ref pt, .int (qI n), .ref pd, .ref pb, .ref ph, .ref pe, .ref pg, .int (qI lc)])), (pk, .inl (G.2.1, 24, .inl (qA k))), (pr, .inl (G.2.1, 24, .inl (qA r))), (mv, .inl (G.2.1, 8, .inl (qA v)))]) [2, 3, 4, 0, 1] (by decide) rfl ?_
          refine qv_zret C (by omega) hrt hlk d_M_isStuck_67 ?_
          exact ⟨rfl, 1, rfl, by omega⟩
        · exfalso; omega
  · refine qv_iconst C d_M_isStuck_8 ?_
    refine qv_ws (ws' := [(m, .inr (0, [.ref mv, .int (qI pl), .long (qL st)])), (p, .inr (2, [.ref pk, .ref pr, .ref pt, .int (qI n), .ref pd, .ref pb, .ref ph, .ref pe, .ref pg, .int (qI lc)])), (pk, .inl (G.2.1, 24, .inl (qA k))), (pr, .inl (G.2.1, 24, .inl (qA r))), (mv, .inl (G.2.1, 8, .inl (qA v)))]) [2, 3, 4, 0, 1] (by decide) rfl ?_
    refine qv_zret C (by omega) hrt hlk d_M_isStuck_9 ?_
    exact ⟨rfl, 0, rfl, by omega⟩
set_option maxHeartbeats 4000000 in
set_option maxRecDepth 100000 in
theorem c_M_rests (l : Launch) (G : qG) {m mv p pk pr pt pd pb ph pe pg : Nat} {pl st n lc : Int} {k r v : Int → Int} (hn : 0 ≤ n ∧ n ≤ 24) (hp : 0 ≤ pl ∧ pl ≤ n) (hk : ∀ i, 0 ≤ k i ∧ k i ≤ 3) (hr : ∀ i, 0 ≤ i → i < n → k i = 0 ∨ k i = 1 → 0 ≤ r i ∧ r i ≤ 7) (hs : 0 ≤ st ∧ st ≤ 1000000000000000) (hv : ∀ c, 0 ≤ v c ∧ v c ≤ 1000000) : qM l G y_M_rests b_M_rests 2 (some .boolean) ({ frames := 2, cells := 0, slots := 0, locals := 43 }) [.ref m, .ref p] [(m, .inr (0, [.ref mv, .int (qI pl), .long (qL st)])), (p, .inr (2, [.ref pk, .ref pr, .ref pt, .int (qI n), .ref pd, .ref pb, .ref ph, .ref pe, .ref pg, .int (qI lc)])), (pk, .inl (G.2.1, 24, .inl (qA k))), (pr, .inl (G.2.1, 24, .inl (qA r))), (mv, .inl (G.2.1, 8, .inl (qA v)))] (fun v' ws' => ws' = [(m, .inr (0, [.ref mv, .int (qI pl), .long (qL st)])), (p, .inr (2, [.ref pk, .ref pr, .ref pt, .int (qI n), .ref pd, .ref pb, .ref ph, .ref pe, .ref pg, .int (qI lc)])), (pk, .inl (G.2.1, 24, .inl (qA k))), (pr, .inl (G.2.1, 24, .inl (qA r))), (mv, .inl (G.2.1, 8, .inl (qA v)))] ∧ ∃ x : Int, v' = some (.int (qI x)) ∧ ((x = 1 ∧ ((n ≤ pl ∨ k pl = 3) ∨ ((pl < n ∧ ¬ k pl = 3) ∧ ((k pl = 0 ∧ 1000000 ≤ v (r pl)) ∨ 1000000000000000 ≤ st)))) ∨ (x = 0 ∧ (pl < n ∧ ¬ k pl = 3) ∧ ¬ ((k pl = 0 ∧ 1000000 ≤ v (r pl)) ∨ 1000000000000000 ≤ st)))) := by
  refine qM.of (by decide) (Nat.le_of_ble_eq_true rfl) (fun xp xe xs xm xb xme xc A C hrt hlk hnm => ?_)
  refine qv_eq (lv' := [(0, .ref m), (1, .ref p)]) rfl rfl rfl ?_
  refine qv_aload_n C 0 d_M_rests_0 rfl rfl ?_
  refine qv_aload_n C 1 d_M_rests_1 rfl rfl ?_
  refine qv_cV (As := [.ref p]) (rest := []) (wc := [(m, .inr (0, [.ref mv, .int (qI pl), .long (qL st)])), (p, .inr (2, [.ref pk, .ref pr, .ref pt, .int (qI n), .ref pd, .ref pb, .ref ph, .ref pe, .ref pg, .int (qI lc)])), (pk, .inl (G.2.1, 24, .inl (qA k)))]) (wr := [(pr, .inl (G.2.1, 24, .inl (qA r))), (mv, .inl (G.2.1, 8, .inl (qA v)))]) C k_M_isHalted (c_M_isHalted l G hn hp hk) wm_M_37 wi_M_isHalted ws_M_isHalted 0 rfl rfl (by decide) d_M_rests_2 rfl rfl (Nat.le_of_ble_eq_true rfl) (by decide) [0, 1, 2] [3, 4] rfl (by decide) rfl (by decide) (by decide) (fun v ws' hpost => ?_)
  obtain ⟨rfl, xh, rfl, hxh⟩ := hpost
  refine qv_eq (ws' := [(pr, .inl (G.2.1, 24, .inl (qA r))), (mv, .inl (G.2.1, 8, .inl (qA v))), (m, .inr (0, [.ref mv, .int (qI pl), .long (qL st)])), (p, .inr (2, [.ref pk, .ref pr, .ref pt, .int (qI n), .ref pd, .ref pb, .ref ph, .ref pe, .ref pg, .int (qI lc)])), (pk, .inl (G.2.1, 24, .inl (qA k)))]) (st' := [.int (qI xh)]) rfl rfl rfl ?_
  refine qv_if_ne C d_M_rests_5 (tgt := 16) (by decide) (by omega) (fun ht5 => ?_) (fun hf5 => ?_)
  · refine qv_iconst C d_M_rests_16 ?_
    refine qv_goto C d_M_rests_17 (by decide) (tgt := 21) ?_
    refine qv_ws (ws' := [(m, .inr (0, [.ref mv, .int (qI pl), .long (qL st)])), (p, .inr (2, [.ref pk, .ref pr, .ref pt, .int (qI n), .ref pd, .ref pb, .ref ph, .ref pe, .ref pg, .int (qI lc)])), (pk, .inl (G.2.1, 24, .inl (qA k))), (pr, .inl (G.2.1, 24, .inl (qA r))), (mv, .inl (G.2.1, 8, .inl (qA v)))]) [2, 3, 4, 0, 1] (by decide) rfl ?_
    refine qv_zret C (by omega) hrt hlk d_M_rests_21 ?_
    exact ⟨rfl, 1, rfl, by omega⟩
  · refine qv_aload_n C 0 d_M_rests_8 rfl rfl ?_
    refine qv_aload_n C 1 d_M_rests_9 rfl rfl ?_
    refine qv_cV (As := [.ref p]) (rest := []) (wc := [(m, .inr (0, [.ref mv, .int (qI pl), .long (qL st)])), (p, .inr (2, [.ref pk, .ref pr, .ref pt, .int (qI n), .ref pd, .ref pb, .ref ph, .ref pe, .ref pg, .int (qI lc)])), (pk, .inl (G.2.1, 24, .inl (qA k))), (pr, .inl (G.2.1, 24, .inl (qA r))), (mv, .inl (G.2.1, 8, .inl (qA v)))]) (wr := []) C k_M_isStuck (c_M_isStuck l G hn hp hk hr hs hv) wm_M_47 wi_M_isStuck ws_M_isStuck 0 rfl rfl (by decide) d_M_rests_10 rfl rfl (Nat.le_of_ble_eq_true rfl) (by decide) [2, 3, 4, 0, 1] [] rfl (by decide) rfl (by decide) (by decide) (fun v ws' hpost => ?_)
    obtain ⟨rfl, xs_, rfl, hxs⟩ := hpost
    refine qv_eq (ws' := [(m, .inr (0, [.ref mv, .int (qI pl), .long (qL st)])), (p, .inr (2, [.ref pk, .ref pr, .ref pt, .int (qI n), .ref pd, .ref pb, .ref ph, .ref pe, .ref pg, .int (qI lc)])), (pk, .inl (G.2.1, 24, .inl (qA k))), (pr, .inl (G.2.1, 24, .inl (qA r))), (mv, .inl (G.2.1, 8, .inl (qA v)))]) (st' := [.int (qI xs_)]) rfl rfl rfl ?_
    refine qv_if_eq C d_M_rests_13 (tgt := 20) (by decide) (by omega) (fun ht13 => ?_) (fun hf13 => ?_)
    · refine qv_iconst C d_M_rests_20 ?_
      refine qv_zret C (by omega) hrt hlk d_M_rests_21 ?_
      exact ⟨rfl, 0, rfl, by omega⟩
    · refine qv_iconst C d_M_rests_16 ?_
      refine qv_goto C d_M_rests_17 (by decide) (tgt := 21) ?_
      refine qv_zret C (by omega) hrt hlk d_M_rests_21 ?_
      exact ⟨rfl, 1, rfl, by omega⟩
set_option maxHeartbeats 4000000 in
set_option maxRecDepth 100000 in
theorem c_M_step (l : Launch) (G : qG) {m mv p pk pr pt pd pb ph pe pg : Nat} {pl st n lc : Int} {k r v t : Int → Int} (hn : 0 ≤ n ∧ n ≤ 24) (hp : 0 ≤ pl ∧ pl ≤ n) (hk : ∀ i, 0 ≤ k i ∧ k i ≤ 3) (hr : ∀ i, 0 ≤ i → i < n → k i = 0 ∨ k i = 1 → 0 ≤ r i ∧ r i ≤ 7) (hs : 0 ≤ st ∧ st ≤ 1000000000000000) (hv : ∀ c, 0 ≤ v c ∧ v c ≤ 1000000) (hN : (pl < n ∧ ¬ k pl = 3)) (hS : ¬ ((k pl = 0 ∧ 1000000 ≤ v (r pl)) ∨ 1000000000000000 ≤ st)) : qM l G y_M_step b_M_step 4 none ({ frames := 3, cells := 0, slots := 0, locals := 64 }) [.ref m, .ref p] [(m, .inr (0, [.ref mv, .int (qI pl), .long (qL st)])), (p, .inr (2, [.ref pk, .ref pr, .ref pt, .int (qI n), .ref pd, .ref pb, .ref ph, .ref pe, .ref pg, .int (qI lc)])), (pk, .inl (G.2.1, 24, .inl (qA k))), (pr, .inl (G.2.1, 24, .inl (qA r))), (mv, .inl (G.2.1, 8, .inl (qA v))), (pt, .inl (G.2.1, 24, .inl (qA t)))] (fun v' ws' => v' = none ∧ ws' = [(m, .inr (0, [.ref mv, .int (qI (m_sp k r t pl v)), .long (qL (st + 1))])), (p, .inr (2, [.ref pk, .ref pr, .ref pt, .int (qI n), .ref pd, .ref pb, .ref ph, .ref pe, .ref pg, .int (qI lc)])), (pk, .inl (G.2.1, 24, .inl (qA k))), (pr, .inl (G.2.1, 24, .inl (qA r))), (mv, .inl (G.2.1, 8, .inl (qA (m_sv k r pl v)))), (pt, .inl (G.2.1, 24, .inl (qA t)))]) := by
  refine qM.of (by decide) (Nat.le_of_ble_eq_true rfl) (fun xp xe xs xm xb xme xc A C hrt hlk hnm => ?_)
  refine qv_eq (lv' := [(0, .ref m), (1, .ref p)]) rfl rfl rfl ?_
  refine qv_aload_n C 0 d_M_step_0 rfl rfl ?_
  refine qv_aload_n C 1 d_M_step_1 rfl rfl ?_
  refine qv_cV (As := [.ref p]) (rest := []) (wc := [(m, .inr (0, [.ref mv, .int (qI pl), .long (qL st)])), (p, .inr (2, [.ref pk, .ref pr, .ref pt, .int (qI n), .ref pd, .ref pb, .ref ph, .ref pe, .ref pg, .int (qI lc)])), (pk, .inl (G.2.1, 24, .inl (qA k))), (pr, .inl (G.2.1, 24, .inl (qA r))), (mv, .inl (G.2.1, 8, .inl (qA v)))]) (wr := [(pt, .inl (G.2.1, 24, .inl (qA t)))]) C k_M_rests (c_M_rests l G hn hp hk hr hs hv) wm_M_50 wi_M_rests ws_M_rests 0 rfl rfl (by decide) d_M_step_2 rfl rfl (Nat.le_of_ble_eq_true rfl) (by decide) [0, 1, 2, 3, 4] [5] rfl (by decide) rfl (by decide) (by decide) (fun v ws' hpost => ?_)
  obtain ⟨rfl, xr, rfl, hxr⟩ := hpost
  refine qv_eq (ws' := [(pt, .inl (G.2.1, 24, .inl (qA t))), (m, .inr (0, [.ref mv, .int (qI pl), .long (qL st)])), (p, .inr (2, [.ref pk, .ref pr, .ref pt, .int (qI n), .ref pd, .ref pb, .ref ph, .ref pe, .ref pg, .int (qI lc)])), (pk, .inl (G.2.1, 24, .inl (qA k))), (pr, .inl (G.2.1, 24, .inl (qA r))), (mv, .inl (G.2.1, 8, .inl (qA v)))]) (st' := [.int (qI xr)]) rfl rfl rfl ?_
  refine qv_if_eq C d_M_step_5 (tgt := 9) (by decide) (by omega) (fun ht5 => ?_) (fun hf5 => ?_)
  · refine qv_aload_n C 1 d_M_step_9 rfl rfl ?_
    refine qv_getN C in_P 2 rfl rfl 0 (by decide) wf_M_34 rfl rfl d_M_step_10 ?_
    refine qv_aload_n C 0 d_M_step_13 rfl rfl ?_
    refine qv_get C in_M 1 rfl rfl 1 (by decide) wf_M_21 rfl rfl d_M_step_14 ?_
    refine qv_iald C 3 rfl (by omega) d_M_step_17 ?_
    have hq0 := hk pl
    refine qv_istore_n C d_M_step_18 rfl (by decide) (lv' := [(2, .int (qI (k pl))), (0, .ref m), (1, .ref p)]) rfl ?_
    refine qv_aload_n C 2 d_M_step_19 rfl rfl ?_
    refine qv_getN C in_P 2 rfl rfl 1 (by decide) wf_M_41 rfl rfl d_M_step_20 ?_
    refine qv_aload_n C 1 d_M_step_23 rfl rfl ?_
    refine qv_get C in_M 1 rfl rfl 1 (by decide) wf_M_21 rfl rfl d_M_step_24 ?_
    refine qv_iald C 4 rfl (by omega) d_M_step_27 ?_
    have hq1 := hr pl (by omega) (by omega)
    refine qv_istore_n C d_M_step_28 rfl (by decide) (lv' := [(3, .int (qI (r pl))), (2, .int (qI (k pl))), (0, .ref m), (1, .ref p)]) rfl ?_
    refine qv_aload_n C 2 d_M_step_29 rfl rfl ?_
    refine qv_dup C d_M_step_30 rfl ?_
    refine qv_get C in_M 1 rfl rfl 2 (by decide) wf_M_25 rfl rfl d_M_step_31 ?_
    refine qv_lconst C (z := 1) d_M_step_34 (by decide) ?_
    refine qv_ladd C d_M_step_35 ?_
    refine qv_put C in_M 1 rfl rfl 2 (by decide) t_M t_M_ok n_M wf_M_25 rfl rfl (t_M_ok 2 (by decide)) (rfl) (rfl) (Nat.le_of_ble_eq_true rfl) d_M_step_36 (ws' := [(pt, .inl (G.2.1, 24, .inl (qA t))), (m, .inr (0, [.ref mv, .int (qI pl), .long (qL (st + 1))])), (p, .inr (2, [.ref pk, .ref pr, .ref pt, .int (qI n), .ref pd, .ref pb, .ref ph, .ref pe, .ref pg, .int (qI lc)])), (pk, .inl (G.2.1, 24, .inl (qA k))), (pr, .inl (G.2.1, 24, .inl (qA r))), (mv, .inl (G.2.1, 8, .inl (qA v)))]) rfl ?_
    refine qv_iload_n C 1 d_M_step_39 rfl rfl ?_
    refine qv_if_ne C d_M_step_40 (tgt := 66) (by decide) (by omega) (fun ht40 => ?_) (fun hf40 => ?_)
    · refine qv_iload_n C 1 d_M_step_66 rfl rfl ?_
      refine qv_iconst C d_M_step_67 ?_
      refine qv_icmp_ne C d_M_step_68 (tgt := 103) (by decide) (by omega) (by omega) (fun ht68 => ?_) (fun hf68 => ?_)
      · refine qv_aload_n C 2 d_M_step_103 rfl rfl ?_
        refine qv_aload_n C 3 d_M_step_104 rfl rfl ?_
        refine qv_getN C in_P 2 rfl rfl 2 (by decide) wf_M_53 rfl rfl d_M_step_105 ?_
        refine qv_aload_n C 2 d_M_step_108 rfl rfl ?_
        refine qv_get C in_M 1 rfl rfl 1 (by decide) wf_M_21 rfl rfl d_M_step_109 ?_
        refine qv_iald C 0 rfl (by omega) d_M_step_112 ?_
        refine qv_put C in_M 1 rfl rfl 1 (by decide) t_M t_M_ok n_M wf_M_21 rfl rfl (t_M_ok 1 (by decide)) (rfl) (rfl) (Nat.le_of_ble_eq_true rfl) d_M_step_113 (ws' := [(pt, .inl (G.2.1, 24, .inl (qA t))), (m, .inr (0, [.ref mv, .int (qI (t pl)), .long (qL (st + 1))])), (p, .inr (2, [.ref pk, .ref pr, .ref pt, .int (qI n), .ref pd, .ref pb, .ref ph, .ref pe, .ref pg, .int (qI lc)])), (pk, .inl (G.2.1, 24, .inl (qA k))), (pr, .inl (G.2.1, 24, .inl (qA r))), (mv, .inl (G.2.1, 8, .inl (qA v)))]) rfl ?_
        refine qv_ws (ws' := [(m, .inr (0, [.ref mv, .int (qI (t pl)), .long (qL (st + 1))])), (p, .inr (2, [.ref pk, .ref pr, .ref pt, .int (qI n), .ref pd, .ref pb, .ref ph, .ref pe, .ref pg, .int (qI lc)])), (pk, .inl (G.2.1, 24, .inl (qA k))), (pr, .inl (G.2.1, 24, .inl (qA r))), (mv, .inl (G.2.1, 8, .inl (qA v))), (pt, .inl (G.2.1, 24, .inl (qA t)))]) [1, 2, 3, 4, 5, 0] (by decide) rfl ?_
        refine qv_vret C hrt hlk d_M_step_116 ?_
        refine ⟨rfl, ?_⟩
        rw [m_sp, m_sv, if_neg (by omega), if_neg (by omega), if_neg (by omega)]
      · refine qv_aload_n C 2 d_M_step_71 rfl rfl ?_
        refine qv_get C in_M 1 rfl rfl 0 (by decide) wf_M_9 rfl rfl d_M_step_72 ?_
        refine qv_iload_n C 0 d_M_step_75 rfl rfl ?_
        refine qv_iald C 5 rfl (by omega) d_M_step_76 ?_
        have hq2 := hv (r pl)
        refine qv_if_le C d_M_step_77 (tgt := 103) (by decide) (by omega) (fun ht77 => ?_) (fun hf77 => ?_)
        · refine qv_aload_n C 2 d_M_step_103 rfl rfl ?_
          refine qv_aload_n C 3 d_M_step_104 rfl rfl ?_
          refine qv_getN C in_P 2 rfl rfl 2 (by decide) wf_M_53 rfl rfl d_M_step_105 ?_
          refine qv_aload_n C 2 d_M_step_108 rfl rfl ?_
          refine qv_get C in_M 1 rfl rfl 1 (by decide) wf_M_21 rfl rfl d_M_step_109 ?_
          refine qv_iald C 0 rfl (by omega) d_M_step_112 ?_
          refine qv_put C in_M 1 rfl rfl 1 (by decide) t_M t_M_ok n_M wf_M_21 rfl rfl (t_M_ok 1 (by decide)) (rfl) (rfl) (Nat.le_of_ble_eq_true rfl) d_M_step_113 (ws' := [(pt, .inl (G.2.1, 24, .inl (qA t))), (m, .inr (0, [.ref mv, .int (qI (t pl)), .long (qL (st + 1))])), (p, .inr (2, [.ref pk, .ref pr, .ref pt, .int (qI n), .ref pd, .ref pb, .ref ph, .ref pe, .ref pg, .int (qI lc)])), (pk, .inl (G.2.1, 24, .inl (qA k))), (pr, .inl (G.2.1, 24, .inl (qA r))), (mv, .inl (G.2.1, 8, .inl (qA v)))]) rfl ?_
          refine qv_ws (ws' := [(m, .inr (0, [.ref mv, .int (qI (t pl)), .long (qL (st + 1))])), (p, .inr (2, [.ref pk, .ref pr, .ref pt, .int (qI n), .ref pd, .ref pb, .ref ph, .ref pe, .ref pg, .int (qI lc)])), (pk, .inl (G.2.1, 24, .inl (qA k))), (pr, .inl (G.2.1, 24, .inl (qA r))), (mv, .inl (G.2.1, 8, .inl (qA v))), (pt, .inl (G.2.1, 24, .inl (qA t)))]) [1, 2, 3, 4, 5, 0] (by decide) rfl ?_
          refine qv_vret C hrt hlk d_M_step_116 ?_
          refine ⟨rfl, ?_⟩
          rw [m_sp, m_sv, if_neg (by omega), if_neg (by omega), if_neg (by omega)]
        · refine qv_aload_n C 2 d_M_step_80 rfl rfl ?_
          refine qv_get C in_M 1 rfl rfl 0 (by decide) wf_M_9 rfl rfl d_M_step_81 ?_
          refine qv_iload_n C 0 d_M_step_84 rfl rfl ?_
          refine qv_dup2 C d_M_step_85 rfl rfl ?_
          refine qv_iald C 5 rfl (by omega) d_M_step_86 ?_
          have hq3 := hv (r pl)
          refine qv_iconst C d_M_step_87 ?_
          refine qv_isub C d_M_step_88 ?_
          refine qv_iast C 5 rfl (by omega) d_M_step_89 (ws' := [(pt, .inl (G.2.1, 24, .inl (qA t))), (m, .inr (0, [.ref mv, .int (qI pl), .long (qL (st + 1))])), (p, .inr (2, [.ref pk, .ref pr, .ref pt, .int (qI n), .ref pd, .ref pb, .ref ph, .ref pe, .ref pg, .int (qI lc)])), (pk, .inl (G.2.1, 24, .inl (qA k))), (pr, .inl (G.2.1, 24, .inl (qA r))), (mv, .inl (G.2.1, 8, .inl (qA (qU v (r pl) ((v (r pl)) - 1)))))]) rfl ?_
          refine qv_aload_n C 2 d_M_step_90 rfl rfl ?_
          refine qv_dup C d_M_step_91 rfl ?_
          refine qv_get C in_M 1 rfl rfl 1 (by decide) wf_M_21 rfl rfl d_M_step_92 ?_
          refine qv_iconst C d_M_step_95 ?_
          refine qv_iadd C d_M_step_96 ?_
          refine qv_put C in_M 1 rfl rfl 1 (by decide) t_M t_M_ok n_M wf_M_21 rfl rfl (t_M_ok 1 (by decide)) (rfl) (rfl) (Nat.le_of_ble_eq_true rfl) d_M_step_97 (ws' := [(pt, .inl (G.2.1, 24, .inl (qA t))), (m, .inr (0, [.ref mv, .int (qI (pl + 1)), .long (qL (st + 1))])), (p, .inr (2, [.ref pk, .ref pr, .ref pt, .int (qI n), .ref pd, .ref pb, .ref ph, .ref pe, .ref pg, .int (qI lc)])), (pk, .inl (G.2.1, 24, .inl (qA k))), (pr, .inl (G.2.1, 24, .inl (qA r))), (mv, .inl (G.2.1, 8, .inl (qA (qU v (r pl) ((v (r pl)) - 1)))))]) rfl ?_
          refine qv_goto C d_M_step_100 (by decide) (tgt := 116) ?_
          refine qv_ws (ws' := [(m, .inr (0, [.ref mv, .int (qI (pl + 1)), .long (qL (st + 1))])), (p, .inr (2, [.ref pk, .ref pr, .ref pt, .int (qI n), .ref pd, .ref pb, .ref ph, .ref pe, .ref pg, .int (qI lc)])), (pk, .inl (G.2.1, 24, .inl (qA k))), (pr, .inl (G.2.1, 24, .inl (qA r))), (mv, .inl (G.2.1, 8, .inl (qA (qU v (r pl) ((v (r pl)) - 1))))), (pt, .inl (G.2.1, 24, .inl (qA t)))]) [1, 2, 3, 4, 5, 0] (by decide) rfl ?_
          refine qv_vret C hrt hlk d_M_step_116 ?_
          refine ⟨rfl, ?_⟩
          rw [m_sp, m_sv, if_pos (by omega), if_neg (by omega), if_pos (by omega)]
    · refine qv_aload_n C 2 d_M_step_43 rfl rfl ?_
      refine qv_get C in_M 1 rfl rfl 0 (by decide) wf_M_9 rfl rfl d_M_step_44 ?_
      refine qv_iload_n C 0 d_M_step_47 rfl rfl ?_
      refine qv_dup2 C d_M_step_48 rfl rfl ?_
      refine qv_iald C 5 rfl (by omega) d_M_step_49 ?_
      have hq4 := hv (r pl)
      refine qv_iconst C d_M_step_50 ?_
      refine qv_iadd C d_M_step_51 ?_
      refine qv_iast C 5 rfl (by omega) d_M_step_52 (ws' := [(pt, .inl (G.2.1, 24, .inl (qA t))), (m, .inr (0, [.ref mv, .int (qI pl), .long (qL (st + 1))])), (p, .inr (2, [.ref pk, .ref pr, .ref pt, .int (qI n), .ref pd, .ref pb, .ref ph, .ref pe, .ref pg, .int (qI lc)])), (pk, .inl (G.2.1, 24, .inl (qA k))), (pr, .inl (G.2.1, 24, .inl (qA r))), (mv, .inl (G.2.1, 8, .inl (qA (qU v (r pl) ((v (r pl)) + 1)))))]) rfl ?_
      refine qv_aload_n C 2 d_M_step_53 rfl rfl ?_
      refine qv_dup C d_M_step_54 rfl ?_
      refine qv_get C in_M 1 rfl rfl 1 (by decide) wf_M_21 rfl rfl d_M_step_55 ?_
      refine qv_iconst C d_M_step_58 ?_
      refine qv_iadd C d_M_step_59 ?_
      refine qv_put C in_M 1 rfl rfl 1 (by decide) t_M t_M_ok n_M wf_M_21 rfl rfl (t_M_ok 1 (by decide)) (rfl) (rfl) (Nat.le_of_ble_eq_true rfl) d_M_step_60 (ws' := [(pt, .inl (G.2.1, 24, .inl (qA t))), (m, .inr (0, [.ref mv, .int (qI (pl + 1)), .long (qL (st + 1))])), (p, .inr (2, [.ref pk, .ref pr, .ref pt, .int (qI n), .ref pd, .ref pb, .ref ph, .ref pe, .ref pg, .int (qI lc)])), (pk, .inl (G.2.1, 24, .inl (qA k))), (pr, .inl (G.2.1, 24, .inl (qA r))), (mv, .inl (G.2.1, 8, .inl (qA (qU v (r pl) ((v (r pl)) + 1)))))]) rfl ?_
      refine qv_goto C d_M_step_63 (by decide) (tgt := 116) ?_
      refine qv_ws (ws' := [(m, .inr (0, [.ref mv, .int (qI (pl + 1)), .long (qL (st + 1))])), (p, .inr (2, [.ref pk, .ref pr, .ref pt, .int (qI n), .ref pd, .ref pb, .ref ph, .ref pe, .ref pg, .int (qI lc)])), (pk, .inl (G.2.1, 24, .inl (qA k))), (pr, .inl (G.2.1, 24, .inl (qA r))), (mv, .inl (G.2.1, 8, .inl (qA (qU v (r pl) ((v (r pl)) + 1))))), (pt, .inl (G.2.1, 24, .inl (qA t)))]) [1, 2, 3, 4, 5, 0] (by decide) rfl ?_
      refine qv_vret C hrt hlk d_M_step_116 ?_
      refine ⟨rfl, ?_⟩
      rw [m_sp, m_sv, if_pos (by omega), if_pos (by omega)]
  · exfalso; omega
set_option maxHeartbeats 4000000 in
set_option maxRecDepth 100000 in
theorem c_M_leapBy (l : Launch) (G : qG) {m mv z zv zl zh zc zd : Nat} {pl st q fu len : Int} {v dl : Int → Int} (hd : ∀ c, -1000000 ≤ dl c ∧ dl c ≤ 1000000) : qM l G y_M_leapBy b_M_leapBy 5 none ({ frames := 0, cells := 0, slots := 0, locals := 0 }) [.ref m, .ref z, .long (qL q)] [(m, .inr (0, [.ref mv, .int (qI pl), .long (qL st)])), (z, .inr (1, [.ref zv, .ref zl, .ref zh, .ref zc, .ref zd, .int (qI fu), .long (qL len)])), (mv, .inl (G.2.1, 8, .inl (qA v))), (zc, .inl (G.2.1, 8, .inl (qA dl)))] (fun v' ws' => v' = none ∧ ws' = [(m, .inr (0, [.ref mv, .int (qI pl), .long (qL (st + q * len))])), (z, .inr (1, [.ref zv, .ref zl, .ref zh, .ref zc, .ref zd, .int (qI fu), .long (qL len)])), (mv, .inl (G.2.1, 8, .inl (qA (m_lf v dl q 8)))), (zc, .inl (G.2.1, 8, .inl (qA dl)))]) := by
  refine qM.of (by decide) (Nat.le_of_ble_eq_true rfl) (fun xp xe xs xm xb xme xc A C hrt hlk hnm => ?_)
  refine qv_eq (lv' := [(0, .ref m), (1, .ref z), (2, .long (qL q))]) rfl rfl rfl ?_
  refine qv_iconst C d_M_leapBy_0 ?_
  refine qv_istore C d_M_leapBy_1 (by decide) (lv' := [(4, .int (qI 0)), (0, .ref m), (1, .ref z), (2, .long (qL q))]) rfl ?_
  have L3 : ∀ (N3 : Nat) (i : Int), (8 - i).toNat < N3 → (0 ≤ i ∧ i ≤ 8) → qV xp l xe ({ frames := 0, cells := 0, slots := 0, locals := 0 }) xs xm [.ref m, .ref z, .long (qL q)].toArray xb xme xc G A xs.heap 5 (MQ xb (qQ G A (fun v' ws' => v' = none ∧ ws' = [(m, .inr (0, [.ref mv, .int (qI pl), .long (qL (st + q * len))])), (z, .inr (1, [.ref zv, .ref zl, .ref zh, .ref zc, .ref zd, .int (qI fu), .long (qL len)])), (mv, .inl (G.2.1, 8, .inl (qA (m_lf v dl q 8)))), (zc, .inl (G.2.1, 8, .inl (qA dl)))])) [.ref m, .ref z, .long (qL q)].toArray xs 0 0 A) 0 0 [(m, .inr (0, [.ref mv, .int (qI pl), .long (qL st)])), (z, .inr (1, [.ref zv, .ref zl, .ref zh, .ref zc, .ref zd, .int (qI fu), .long (qL len)])), (mv, .inl (G.2.1, 8, .inl (qA (m_lf v dl q i)))), (zc, .inl (G.2.1, 8, .inl (qA dl)))] [(4, .int (qI i)), (0, .ref m), (1, .ref z), (2, .long (qL q))] 3 [] := by
    intro N3
    induction N3 with
    | zero => intro i hmu; exact absurd hmu (Nat.not_lt_zero _)
    | succ N3 ih3 =>
      intro i hmu3 hi
      refine qv_iload C 0 d_M_leapBy_3 rfl ?_
      refine qv_bipush C d_M_leapBy_5 (by decide) ?_
      refine qv_icmp_ge C d_M_leapBy_7 (tgt := 37) (by decide) (by omega) (by omega) (fun ht7 => ?_) (fun hf7 => ?_)
      · refine qv_aload_n C 1 d_M_leapBy_37 rfl rfl ?_
        refine qv_dup C d_M_leapBy_38 rfl ?_
        refine qv_get C in_M 0 rfl rfl 2 (by decide) wf_M_25 rfl rfl d_M_leapBy_39 ?_
        refine qv_lload_n C 3 d_M_leapBy_42 rfl rfl ?_
        refine qv_aload_n C 2 d_M_leapBy_43 rfl rfl ?_
        refine qv_getN C in_S 1 rfl rfl 6 (by decide) wf_M_61 rfl rfl d_M_leapBy_44 ?_
        refine qv_lmul C d_M_leapBy_47 ?_
        refine qv_ladd C d_M_leapBy_48 ?_
        refine qv_put C in_M 0 rfl rfl 2 (by decide) t_M t_M_ok n_M wf_M_25 rfl rfl (t_M_ok 2 (by decide)) (rfl) (rfl) (Nat.le_of_ble_eq_true rfl) d_M_leapBy_49 (ws' := [(m, .inr (0, [.ref mv, .int (qI pl), .long (qL (st + (q * len)))])), (z, .inr (1, [.ref zv, .ref zl, .ref zh, .ref zc, .ref zd, .int (qI fu), .long (qL len)])), (mv, .inl (G.2.1, 8, .inl (qA (m_lf v dl q i)))), (zc, .inl (G.2.1, 8, .inl (qA dl)))]) rfl ?_
        refine qv_vret C hrt hlk d_M_leapBy_52 ?_
        obtain rfl : i = 8 := by omega
        exact ⟨rfl, rfl⟩
      · refine qv_aload_n C 1 d_M_leapBy_10 rfl rfl ?_
        refine qv_get C in_M 0 rfl rfl 0 (by decide) wf_M_9 rfl rfl d_M_leapBy_11 ?_
        refine qv_iload C 0 d_M_leapBy_14 rfl ?_
        refine qv_dup2 C d_M_leapBy_16 rfl rfl ?_
        refine qv_iald C 2 rfl (by omega) d_M_leapBy_17 ?_
        refine qv_lload_n C 3 d_M_leapBy_18 rfl rfl ?_
        refine qv_aload_n C 2 d_M_leapBy_19 rfl rfl ?_
        refine qv_getN C in_S 1 rfl rfl 3 (by decide) wf_M_56 rfl rfl d_M_leapBy_20 ?_
        refine qv_iload C 0 d_M_leapBy_23 rfl ?_
        refine qv_iald C 3 rfl (by omega) d_M_leapBy_25 ?_
        have hq0 := hd i
        refine qv_i2l C (by omega) d_M_leapBy_26 ?_
        refine qv_lmul C d_M_leapBy_27 ?_
        refine qv_l2i C d_M_leapBy_28 ?_
        refine qv_iadd C d_M_leapBy_29 ?_
        refine qv_iast C 2 rfl (by omega) d_M_leapBy_30 (ws' := [(m, .inr (0, [.ref mv, .int (qI pl), .long (qL st)])), (z, .inr (1, [.ref zv, .ref zl, .ref zh, .ref zc, .ref zd, .int (qI fu), .long (qL len)])), (mv, .inl (G.2.1, 8, .inl (qA (qU (m_lf v dl q i) i (((m_lf v dl q i) i) + (q * (dl i))))))), (zc, .inl (G.2.1, 8, .inl (qA dl)))]) rfl ?_
        refine qv_iinc C 0 d_M_leapBy_31 rfl (by decide) (lv' := [(4, .int (qI (i + 1))), (0, .ref m), (1, .ref z), (2, .long (qL q))]) rfl ?_
        refine qv_goto C d_M_leapBy_34 (by decide) (tgt := 3) ?_
        refine qv_eq (ws' := [(m, .inr (0, [.ref mv, .int (qI pl), .long (qL st)])), (z, .inr (1, [.ref zv, .ref zl, .ref zh, .ref zc, .ref zd, .int (qI fu), .long (qL len)])), (mv, .inl (G.2.1, 8, .inl (qA (m_lf v dl q (i + 1))))), (zc, .inl (G.2.1, 8, .inl (qA dl)))]) (lv' := [(4, .int (qI (i + 1))), (0, .ref m), (1, .ref z), (2, .long (qL q))]) (by rw [m_lf_s hi.1]) (rfl) rfl ?_
        exact ih3 (i + 1) (by omega) (by first | assumption | omega)
  refine qv_eq (ws' := [(m, .inr (0, [.ref mv, .int (qI pl), .long (qL st)])), (z, .inr (1, [.ref zv, .ref zl, .ref zh, .ref zc, .ref zd, .int (qI fu), .long (qL len)])), (mv, .inl (G.2.1, 8, .inl (qA (m_lf v dl q 0)))), (zc, .inl (G.2.1, 8, .inl (qA dl)))]) (lv' := [(4, .int (qI 0)), (0, .ref m), (1, .ref z), (2, .long (qL q))]) (by rw [m_lf_0]) (rfl) rfl ?_
  exact L3 _ 0 (Nat.lt_succ_self _) (by first | assumption | omega)
set_option maxHeartbeats 4000000 in
set_option maxRecDepth 100000 in
theorem c_M_copyFrom (l : Launch) (G : qG) {m mv m2 mv2 : Nat} {pl st pl2 st2 : Int} {v v2 : Int → Int} (ho : ∀ j : Int, ¬ (0 ≤ j ∧ j < 8) → v2 j = v j) : qM l G y_M_copyFrom b_M_copyFrom 2 none ({ frames := 1, cells := 0, slots := 0, locals := 40 }) [.ref m, .ref m2] [(m, .inr (0, [.ref mv, .int (qI pl), .long (qL st)])), (m2, .inr (0, [.ref mv2, .int (qI pl2), .long (qL st2)])), (mv, .inl (G.2.1, 8, .inl (qA v))), (mv2, .inl (G.2.1, 8, .inl (qA v2)))] (fun v' ws' => v' = none ∧ ws' = [(m, .inr (0, [.ref mv, .int (qI pl2), .long (qL st2)])), (m2, .inr (0, [.ref mv2, .int (qI pl2), .long (qL st2)])), (mv, .inl (G.2.1, 8, .inl (qA v2))), (mv2, .inl (G.2.1, 8, .inl (qA v2)))]) := by
  refine qM.of (by decide) (Nat.le_of_ble_eq_true rfl) (fun xp xe xs xm xb xme xc A C hrt hlk hnm => ?_)
  refine qv_eq (lv' := [(0, .ref m), (1, .ref m2)]) rfl rfl rfl ?_
  refine qv_aload_n C 1 d_M_copyFrom_0 rfl rfl ?_
  refine qv_get C in_M 1 rfl rfl 0 (by decide) wf_M_9 rfl rfl d_M_copyFrom_1 ?_
  refine qv_iconst C d_M_copyFrom_4 ?_
  refine qv_aload_n C 0 d_M_copyFrom_5 rfl rfl ?_
  refine qv_get C in_M 0 rfl rfl 0 (by decide) wf_M_9 rfl rfl d_M_copyFrom_6 ?_
  refine qv_iconst C d_M_copyFrom_9 ?_
  refine qv_bipush C d_M_copyFrom_10 (by decide) ?_
  refine qv_copy8 C 3 2 rfl rfl (ho) wm_M_15 (by decide) (Nat.le_of_ble_eq_true rfl) d_M_copyFrom_12 (ws' := [(m, .inr (0, [.ref mv, .int (qI pl), .long (qL st)])), (m2, .inr (0, [.ref mv2, .int (qI pl2), .long (qL st2)])), (mv, .inl (G.2.1, 8, .inl (qA v2))), (mv2, .inl (G.2.1, 8, .inl (qA v2)))]) rfl ?_
  refine qv_aload_n C 0 d_M_copyFrom_15 rfl rfl ?_
  refine qv_aload_n C 1 d_M_copyFrom_16 rfl rfl ?_
  refine qv_get C in_M 1 rfl rfl 1 (by decide) wf_M_21 rfl rfl d_M_copyFrom_17 ?_
  refine qv_put C in_M 0 rfl rfl 1 (by decide) t_M t_M_ok n_M wf_M_21 rfl rfl (t_M_ok 1 (by decide)) (rfl) (rfl) (Nat.le_of_ble_eq_true rfl) d_M_copyFrom_20 (ws' := [(m, .inr (0, [.ref mv, .int (qI pl2), .long (qL st)])), (m2, .inr (0, [.ref mv2, .int (qI pl2), .long (qL st2)])), (mv, .inl (G.2.1, 8, .inl (qA v2))), (mv2, .inl (G.2.1, 8, .inl (qA v2)))]) rfl ?_
  refine qv_aload_n C 0 d_M_copyFrom_23 rfl rfl ?_
  refine qv_aload_n C 1 d_M_copyFrom_24 rfl rfl ?_
  refine qv_get C in_M 1 rfl rfl 2 (by decide) wf_M_25 rfl rfl d_M_copyFrom_25 ?_
  refine qv_put C in_M 0 rfl rfl 2 (by decide) t_M t_M_ok n_M wf_M_25 rfl rfl (t_M_ok 2 (by decide)) (rfl) (rfl) (Nat.le_of_ble_eq_true rfl) d_M_copyFrom_28 (ws' := [(m, .inr (0, [.ref mv, .int (qI pl2), .long (qL st2)])), (m2, .inr (0, [.ref mv2, .int (qI pl2), .long (qL st2)])), (mv, .inl (G.2.1, 8, .inl (qA v2))), (mv2, .inl (G.2.1, 8, .inl (qA v2)))]) rfl ?_
  refine qv_vret C hrt hlk d_M_copyFrom_31 ?_
  exact ⟨rfl, rfl⟩

set_option maxHeartbeats 4000000 in
set_option maxRecDepth 100000 in
theorem c_C_set (l : Launch) (G : qG) {o tx rd q m mb mk z : Nat} {tl on cn hd ps ss : Int} {mv p : Nat} {pl st c w : Int} {v : Int → Int} (hc : -2147483648 ≤ c ∧ c ≤ 2147483647) (hw : -2147483648 ≤ w ∧ w ≤ 2147483647) : qXM l G y_C_set b_C_set 3 none ({ frames := 6, cells := 1, slots := 6, locals := 89 }) [.ref o, .int (qI c), .int (qI w)] [(o, .inr (4, [.ref tx, .int (qI tl), .ref rd, .ref p, .ref q, .ref m, .ref mb, .ref mk, .ref z, .int (qI on), .int (qI cn), .int (qI hd), .long (qL ps), .long (qL ss)])), (m, .inr (0, [.ref mv, .int (qI pl), .long (qL st)])), (mv, .inl (G.2.1, 8, .inl (qA v)))] (fun v' ws' => v' = none ∧ (0 ≤ c ∧ c < 8 ∧ 0 ≤ w ∧ w ≤ 1000000) ∧ ws' = [(o, .inr (4, [.ref tx, .int (qI tl), .ref rd, .ref p, .ref q, .ref m, .ref mb, .ref mk, .ref z, .int (qI on), .int (qI cn), .int (qI hd), .long (qL ps), .long (qL ss)])), (m, .inr (0, [.ref mv, .int (qI pl), .long (qL st)])), (mv, .inl (G.2.1, 8, .inl (qA (qU v c w))))]) (fun E' ws' => E' = "java/lang/IllegalArgumentException" ∧ ¬ (0 ≤ c ∧ c < 8 ∧ 0 ≤ w ∧ w ≤ 1000000) ∧ ws' = [(o, .inr (4, [.ref tx, .int (qI tl), .ref rd, .ref p, .ref q, .ref m, .ref mb, .ref mk, .ref z, .int (qI on), .int (qI cn), .int (qI hd), .long (qL ps), .long (qL ss)])), (m, .inr (0, [.ref mv, .int (qI pl), .long (qL st)])), (mv, .inl (G.2.1, 8, .inl (qA v)))]) := by
  refine qXM.of (av := [.ref o, .int (qI c), .int (qI w)]) (nL := 3) (Nat.le_of_ble_eq_true rfl) (fun xp xe xs xm xb xme xc A C hrt hlk hnm hex htr hE => ?_)
  refine qv_eq (lv' := [(0, .ref o), (1, .int (qI c)), (2, .int (qI w))]) rfl rfl rfl ?_
  refine qv_iload_n C 1 d_C_set_0 rfl rfl ?_
  refine qv_if_lt C d_C_set_1 (tgt := 20) (by decide) (by omega) (fun ht1 => ?_) (fun hf1 => ?_)
  · refine qx_thr C htr hlk hex hE qx_IAE (by decide) (by decide) qx_IAE_cl qx_IAE_in qx_IAE_ini (List.mem_of_getElem? (i := 3) rfl) rfl d_C_set_20 d_C_set_23 d_C_set_24 d_C_set_26 d_C_set_29 (by decide) (by decide) (by decide) (by decide) ?_
    exact ⟨rfl, by omega, rfl⟩
  · refine qv_iload_n C 1 d_C_set_4 rfl rfl ?_
    refine qv_bipush C d_C_set_5 (by decide) ?_
    refine qv_icmp_ge C d_C_set_7 (tgt := 20) (by decide) (by omega) (by omega) (fun ht7 => ?_) (fun hf7 => ?_)
    · refine qx_thr C htr hlk hex hE qx_IAE (by decide) (by decide) qx_IAE_cl qx_IAE_in qx_IAE_ini (List.mem_of_getElem? (i := 3) rfl) rfl d_C_set_20 d_C_set_23 d_C_set_24 d_C_set_26 d_C_set_29 (by decide) (by decide) (by decide) (by decide) ?_
      exact ⟨rfl, by omega, rfl⟩
    · refine qv_iload_n C 2 d_C_set_10 rfl rfl ?_
      refine qv_if_lt C d_C_set_11 (tgt := 20) (by decide) (by omega) (fun ht11 => ?_) (fun hf11 => ?_)
      · refine qx_thr C htr hlk hex hE qx_IAE (by decide) (by decide) qx_IAE_cl qx_IAE_in qx_IAE_ini (List.mem_of_getElem? (i := 3) rfl) rfl d_C_set_20 d_C_set_23 d_C_set_24 d_C_set_26 d_C_set_29 (by decide) (by decide) (by decide) (by decide) ?_
        exact ⟨rfl, by omega, rfl⟩
      · refine qv_iload_n C 2 d_C_set_14 rfl rfl ?_
        refine qv_ldc C (n := 1000000) wk_C_114 (by decide) d_C_set_15 ?_
        refine qv_icmp_le C d_C_set_17 (tgt := 30) (by decide) (by omega) (by omega) (fun ht17 => ?_) (fun hf17 => ?_)
        · refine qv_aload_n C 0 d_C_set_30 rfl rfl ?_
          refine qv_get C in_C 0 rfl rfl 5 (by decide) wf_C_33 rfl rfl d_C_set_31 ?_
          refine qv_getN C in_M 1 rfl rfl 0 (by decide) wf_C_117 rfl rfl d_C_set_34 ?_
          refine qv_iload_n C 1 d_C_set_37 rfl rfl ?_
          refine qv_iload_n C 2 d_C_set_38 rfl rfl ?_
          refine qv_iast C 2 rfl (by omega) d_C_set_39 (ws' := [(o, .inr (4, [.ref tx, .int (qI tl), .ref rd, .ref p, .ref q, .ref m, .ref mb, .ref mk, .ref z, .int (qI on), .int (qI cn), .int (qI hd), .long (qL ps), .long (qL ss)])), (m, .inr (0, [.ref mv, .int (qI pl), .long (qL st)])), (mv, .inl (G.2.1, 8, .inl (qA (qU v c w))))]) rfl ?_
          refine qx_ret ⟨by decide, by decide⟩ ?_
          refine qv_vret C hrt hlk d_C_set_40 ?_
          exact ⟨rfl, by omega, rfl⟩
        · refine qx_thr C htr hlk hex hE qx_IAE (by decide) (by decide) qx_IAE_cl qx_IAE_in qx_IAE_ini (List.mem_of_getElem? (i := 3) rfl) rfl d_C_set_20 d_C_set_23 d_C_set_24 d_C_set_26 d_C_set_29 (by decide) (by decide) (by decide) (by decide) ?_
          exact ⟨rfl, by omega, rfl⟩
set_option maxHeartbeats 4000000 in
set_option maxRecDepth 100000 in
theorem c_C_start (l : Launch) (G : qG) {o tx rd q m mb mk z : Nat} {tl on cn hd ps ss : Int} {mv mbv p pk pr pt pd pb ph pe pg : Nat} {pl st pl2 st2 n lc : Int} {v v2 : Int → Int} (hn : 0 ≤ n ∧ n ≤ 24) (ho : ∀ j : Int, ¬ (0 ≤ j ∧ j < 8) → v j = v2 j) : qXM l G y_C_start b_C_start 1 none ({ frames := 6, cells := 1, slots := 6, locals := 89 }) [.ref o] [(o, .inr (4, [.ref tx, .int (qI tl), .ref rd, .ref p, .ref q, .ref m, .ref mb, .ref mk, .ref z, .int (qI on), .int (qI cn), .int (qI hd), .long (qL ps), .long (qL ss)])), (p, .inr (2, [.ref pk, .ref pr, .ref pt, .int (qI n), .ref pd, .ref pb, .ref ph, .ref pe, .ref pg, .int (qI lc)])), (m, .inr (0, [.ref mv, .int (qI pl), .long (qL st)])), (mv, .inl (G.2.1, 8, .inl (qA v))), (mb, .inr (0, [.ref mbv, .int (qI pl2), .long (qL st2)])), (mbv, .inl (G.2.1, 8, .inl (qA v2)))] (fun v' ws' => v' = none ∧ 0 < n ∧ ws' = [(o, .inr (4, [.ref tx, .int (qI tl), .ref rd, .ref p, .ref q, .ref m, .ref mb, .ref mk, .ref z, .int (qI on), .int (qI 0), .int (qI hd), .long (qL ps), .long (qL ss)])), (p, .inr (2, [.ref pk, .ref pr, .ref pt, .int (qI n), .ref pd, .ref pb, .ref ph, .ref pe, .ref pg, .int (qI lc)])), (m, .inr (0, [.ref mv, .int (qI 0), .long (qL 0)])), (mv, .inl (G.2.1, 8, .inl (qA v))), (mb, .inr (0, [.ref mbv, .int (qI 0), .long (qL 0)])), (mbv, .inl (G.2.1, 8, .inl (qA v)))]) (fun E' ws' => E' = "java/lang/IllegalStateException" ∧ n = 0 ∧ ws' = [(o, .inr (4, [.ref tx, .int (qI tl), .ref rd, .ref p, .ref q, .ref m, .ref mb, .ref mk, .ref z, .int (qI on), .int (qI cn), .int (qI hd), .long (qL ps), .long (qL ss)])), (p, .inr (2, [.ref pk, .ref pr, .ref pt, .int (qI n), .ref pd, .ref pb, .ref ph, .ref pe, .ref pg, .int (qI lc)])), (m, .inr (0, [.ref mv, .int (qI pl), .long (qL st)])), (mv, .inl (G.2.1, 8, .inl (qA v))), (mb, .inr (0, [.ref mbv, .int (qI pl2), .long (qL st2)])), (mbv, .inl (G.2.1, 8, .inl (qA v2)))]) := by
  refine qXM.of (av := [.ref o]) (nL := 1) (Nat.le_of_ble_eq_true rfl) (fun xp xe xs xm xb xme xc A C hrt hlk hnm hex htr hE => ?_)
  refine qv_eq (lv' := [(0, .ref o)]) rfl rfl rfl ?_
  refine qv_aload_n C 0 d_C_start_0 rfl rfl ?_
  refine qv_get C in_C 0 rfl rfl 3 (by decide) wf_C_23 rfl rfl d_C_start_1 ?_
  refine qv_getN C in_P 1 rfl rfl 3 (by decide) wf_C_89 rfl rfl d_C_start_4 ?_
  refine qv_if_ne C d_C_start_7 (tgt := 20) (by decide) (by omega) (fun ht7 => ?_) (fun hf7 => ?_)
  · refine qv_aload_n C 0 d_C_start_20 rfl rfl ?_
    refine qv_cV (As := []) (rest := []) (wc := [(o, .inr (4, [.ref tx, .int (qI tl), .ref rd, .ref p, .ref q, .ref m, .ref mb, .ref mk, .ref z, .int (qI on), .int (qI cn), .int (qI hd), .long (qL ps), .long (qL ss)])), (m, .inr (0, [.ref mv, .int (qI pl), .long (qL st)])), (mv, .inl (G.2.1, 8, .inl (qA v))), (mb, .inr (0, [.ref mbv, .int (qI pl2), .long (qL st2)])), (mbv, .inl (G.2.1, 8, .inl (qA v2)))]) (wr := [(p, .inr (2, [.ref pk, .ref pr, .ref pt, .int (qI n), .ref pd, .ref pb, .ref ph, .ref pe, .ref pg, .int (qI lc)]))]) C k_C_begin (c_C_begin l G ho) wm_C_86 wi_C_begin ws_C_begin 0 rfl rfl (by decide) d_C_start_21 rfl rfl (Nat.le_of_ble_eq_true rfl) (by decide) [0, 2, 3, 4, 5] [1] rfl (by decide) rfl (by decide) (by decide) (fun v ws' hpost => ?_)
    obtain ⟨rfl, rfl⟩ := hpost
    refine qv_eq (ws' := [(p, .inr (2, [.ref pk, .ref pr, .ref pt, .int (qI n), .ref pd, .ref pb, .ref ph, .ref pe, .ref pg, .int (qI lc)])), (o, .inr (4, [.ref tx, .int (qI tl), .ref rd, .ref p, .ref q, .ref m, .ref mb, .ref mk, .ref z, .int (qI on), .int (qI 0), .int (qI hd), .long (qL ps), .long (qL ss)])), (m, .inr (0, [.ref mv, .int (qI 0), .long (qL 0)])), (mv, .inl (G.2.1, 8, .inl (qA v))), (mb, .inr (0, [.ref mbv, .int (qI 0), .long (qL 0)])), (mbv, .inl (G.2.1, 8, .inl (qA v)))]) (st' := []) rfl rfl rfl ?_
    refine qv_ws (ws' := [(o, .inr (4, [.ref tx, .int (qI tl), .ref rd, .ref p, .ref q, .ref m, .ref mb, .ref mk, .ref z, .int (qI on), .int (qI 0), .int (qI hd), .long (qL ps), .long (qL ss)])), (p, .inr (2, [.ref pk, .ref pr, .ref pt, .int (qI n), .ref pd, .ref pb, .ref ph, .ref pe, .ref pg, .int (qI lc)])), (m, .inr (0, [.ref mv, .int (qI 0), .long (qL 0)])), (mv, .inl (G.2.1, 8, .inl (qA v))), (mb, .inr (0, [.ref mbv, .int (qI 0), .long (qL 0)])), (mbv, .inl (G.2.1, 8, .inl (qA v)))]) [1, 0, 2, 3, 4, 5] (by decide) rfl ?_
    refine qx_ret ⟨by decide, by decide⟩ ?_
    refine qv_vret C hrt hlk d_C_start_24 ?_
    exact ⟨rfl, by omega, rfl⟩
  · refine qx_thr C htr hlk hex hE qx_ISE (by decide) (by decide) qx_ISE_cl qx_ISE_in qx_ISE_ini (List.mem_of_getElem? (i := 4) rfl) rfl d_C_start_10 d_C_start_13 d_C_start_14 d_C_start_16 d_C_start_19 (by decide) (by decide) (by decide) (by decide) ?_
    exact ⟨rfl, by omega, rfl⟩
set_option maxHeartbeats 4000000 in
set_option maxRecDepth 100000 in
theorem c_C_type (l : Launch) (G : qG) {o tx rd q m mb mk z : Nat} {tl on cn hd ps ss : Int} {p : Nat} {ch m0 : Int} {x : Int → Int} (htl : 0 ≤ tl ∧ tl ≤ 120) (hch : -9223372036854775808 ≤ ch ∧ ch ≤ 9223372036854775807) (hm : -2147483648 ≤ m0 ∧ m0 ≤ 2147483647) : qXM l G y_C_type b_C_type 6 (some .int) ({ frames := 6, cells := 1, slots := 6, locals := 89 }) [.ref o, .long (qL ch), .int (qI m0)] [(o, .inr (4, [.ref tx, .int (qI tl), .ref rd, .ref p, .ref q, .ref m, .ref mb, .ref mk, .ref z, .int (qI on), .int (qI cn), .int (qI hd), .long (qL ps), .long (qL ss)])), (tx, .inl (G.2.2.1, 120, .inl (qA x)))] (fun v' ws' => ((0 < m0 ∧ m0 < 9) ∧ m_rt ch m0) ∧ tl + m0 ≤ 120 ∧ v' = some (.int (qI (tl + m0))) ∧ ws' = [(o, .inr (4, [.ref tx, .int (qI (tl + m0)), .ref rd, .ref p, .ref q, .ref m, .ref mb, .ref mk, .ref z, .int (qI on), .int (qI cn), .int (qI hd), .long (qL ps), .long (qL ss)])), (tx, .inl (G.2.2.1, 120, .inl (qA (m_tx x tl ch m0 m0))))]) (fun E' ws' => ((E' = "java/lang/IllegalArgumentException" ∧ ¬ ((0 < m0 ∧ m0 < 9) ∧ m_rt ch m0)) ∨ (E' = "java/lang/UnsupportedOperationException" ∧ ((0 < m0 ∧ m0 < 9) ∧ m_rt ch m0) ∧ 120 < tl + m0)) ∧ ws' = [(o, .inr (4, [.ref tx, .int (qI tl), .ref rd, .ref p, .ref q, .ref m, .ref mb, .ref mk, .ref z, .int (qI on), .int (qI cn), .int (qI hd), .long (qL ps), .long (qL ss)])), (tx, .inl (G.2.2.1, 120, .inl (qA x)))]) := by
  refine qXM.of (av := [.ref o, .long (qL ch), .int (qI m0)]) (nL := 6) (Nat.le_of_ble_eq_true rfl) (fun xp xe xs xm xb xme xc A C hrt hlk hnm hex htr hE => ?_)
  refine qv_eq (lv' := [(0, .ref o), (1, .long (qL ch)), (3, .int (qI m0))]) rfl rfl rfl ?_
  refine qv_iload_n C 2 d_C_type_0 rfl rfl ?_
  refine qv_iconst C d_C_type_1 ?_
  refine qv_icmp_lt C d_C_type_2 (tgt := 11) (by decide) (by omega) (by omega) (fun ht2 => ?_) (fun hf2 => ?_)
  · refine qx_thr C htr hlk hex hE qx_IAE (by decide) (by decide) qx_IAE_cl qx_IAE_in qx_IAE_ini (List.mem_of_getElem? (i := 0) rfl) rfl d_C_type_11 d_C_type_14 d_C_type_15 d_C_type_17 d_C_type_20 (by decide) (by decide) (by decide) (by decide) ?_
    exact ⟨Or.inl ⟨rfl, fun h => by have h1 := h.1; omega⟩, rfl⟩
  · refine qv_iload_n C 2 d_C_type_5 rfl rfl ?_
    refine qv_bipush C d_C_type_6 (by decide) ?_
    refine qv_icmp_le C d_C_type_8 (tgt := 21) (by decide) (by omega) (by omega) (fun ht8 => ?_) (fun hf8 => ?_)
    · refine qv_iconst C d_C_type_21 ?_
      refine qv_istore C d_C_type_22 (by decide) (lv' := [(4, .int (qI 0)), (0, .ref o), (1, .long (qL ch)), (3, .int (qI m0))]) rfl ?_
      have L24 : ∀ (N24 : Nat) (i : Int), (m0 - i).toNat < N24 → (0 ≤ i ∧ i ≤ m0) → (0 < m0 ∧ m0 < 9) → (m_rt ch i) → qV xp l xe ({ frames := 6, cells := 1, slots := 6, locals := 89 }) xs xm [.ref o, .long (qL ch), .int (qI m0)].toArray xb xme xc G A xs.heap 6 (qX G A xb xs 1 6 (fun v' ws' => ((0 < m0 ∧ m0 < 9) ∧ m_rt ch m0) ∧ tl + m0 ≤ 120 ∧ v' = some (.int (qI (tl + m0))) ∧ ws' = [(o, .inr (4, [.ref tx, .int (qI (tl + m0)), .ref rd, .ref p, .ref q, .ref m, .ref mb, .ref mk, .ref z, .int (qI on), .int (qI cn), .int (qI hd), .long (qL ps), .long (qL ss)])), (tx, .inl (G.2.2.1, 120, .inl (qA (m_tx x tl ch m0 m0))))]) (fun E' ws' => ((E' = "java/lang/IllegalArgumentException" ∧ ¬ ((0 < m0 ∧ m0 < 9) ∧ m_rt ch m0)) ∨ (E' = "java/lang/UnsupportedOperationException" ∧ ((0 < m0 ∧ m0 < 9) ∧ m_rt ch m0) ∧ 120 < tl + m0)) ∧ ws' = [(o, .inr (4, [.ref tx, .int (qI tl), .ref rd, .ref p, .ref q, .ref m, .ref mb, .ref mk, .ref z, .int (qI on), .int (qI cn), .int (qI hd), .long (qL ps), .long (qL ss)])), (tx, .inl (G.2.2.1, 120, .inl (qA x)))])) 0 0 [(o, .inr (4, [.ref tx, .int (qI tl), .ref rd, .ref p, .ref q, .ref m, .ref mb, .ref mk, .ref z, .int (qI on), .int (qI cn), .int (qI hd), .long (qL ps), .long (qL ss)])), (tx, .inl (G.2.2.1, 120, .inl (qA x)))] [(4, .int (qI i)), (0, .ref o), (1, .long (qL ch)), (3, .int (qI m0))] 24 [] := by
        intro N24
        induction N24 with
        | zero => intro i hmu; exact absurd hmu (Nat.not_lt_zero _)
        | succ N24 ih24 =>
          intro i hmu24 hi hm9 hrt9
          refine qv_iload C 0 d_C_type_24 rfl ?_
          refine qv_iload_n C 3 d_C_type_26 rfl rfl ?_
          refine qv_icmp_ge C d_C_type_27 (tgt := 68) (by decide) (by omega) (by omega) (fun ht27 => ?_) (fun hf27 => ?_)
          · have hi9 : i = m0 := by omega
            have hrt8 : m_rt ch m0 := by rw [← hi9]; exact hrt9
            refine qv_aload_n C 1 d_C_type_68 rfl rfl ?_
            refine qv_get C in_C 0 rfl rfl 1 (by decide) wf_C_67 rfl rfl d_C_type_69 ?_
            refine qv_iload_n C 3 d_C_type_72 rfl rfl ?_
            refine qv_iadd C d_C_type_73 ?_
            refine qv_bipush C d_C_type_74 (by decide) ?_
            refine qv_icmp_le C d_C_type_76 (tgt := 89) (by decide) (by omega) (by omega) (fun ht76 => ?_) (fun hf76 => ?_)
            · refine qv_iload_n C 3 d_C_type_89 rfl rfl ?_
              refine qv_iconst C d_C_type_90 ?_
              refine qv_isub C d_C_type_91 ?_
              refine qv_istore C d_C_type_92 (by decide) (lv' := [(4, .int (qI (m0 - 1))), (0, .ref o), (1, .long (qL ch)), (3, .int (qI m0))]) rfl ?_
              have L94 : ∀ (N94 : Nat) (j : Int), (m0 - j).toNat < N94 → (0 ≤ j ∧ j ≤ m0) → qV xp l xe ({ frames := 6, cells := 1, slots := 6, locals := 89 }) xs xm [.ref o, .long (qL ch), .int (qI m0)].toArray xb xme xc G A xs.heap 6 (qX G A xb xs 1 6 (fun v' ws' => ((0 < m0 ∧ m0 < 9) ∧ m_rt ch m0) ∧ tl + m0 ≤ 120 ∧ v' = some (.int (qI (tl + m0))) ∧ ws' = [(o, .inr (4, [.ref tx, .int (qI (tl + m0)), .ref rd, .ref p, .ref q, .ref m, .ref mb, .ref mk, .ref z, .int (qI on), .int (qI cn), .int (qI hd), .long (qL ps), .long (qL ss)])), (tx, .inl (G.2.2.1, 120, .inl (qA (m_tx x tl ch m0 m0))))]) (fun E' ws' => ((E' = "java/lang/IllegalArgumentException" ∧ ¬ ((0 < m0 ∧ m0 < 9) ∧ m_rt ch m0)) ∨ (E' = "java/lang/UnsupportedOperationException" ∧ ((0 < m0 ∧ m0 < 9) ∧ m_rt ch m0) ∧ 120 < tl + m0)) ∧ ws' = [(o, .inr (4, [.ref tx, .int (qI tl), .ref rd, .ref p, .ref q, .ref m, .ref mb, .ref mk, .ref z, .int (qI on), .int (qI cn), .int (qI hd), .long (qL ps), .long (qL ss)])), (tx, .inl (G.2.2.1, 120, .inl (qA x)))])) 0 0 [(o, .inr (4, [.ref tx, .int (qI (tl + j)), .ref rd, .ref p, .ref q, .ref m, .ref mb, .ref mk, .ref z, .int (qI on), .int (qI cn), .int (qI hd), .long (qL ps), .long (qL ss)])), (tx, .inl (G.2.2.1, 120, .inl (qA (m_tx x tl ch m0 j))))] [(4, .int (qI (m0 - 1 - j))), (0, .ref o), (1, .long (qL ch))] 94 [] := by
                intro N94
                induction N94 with
                | zero => intro j hmu; exact absurd hmu (Nat.not_lt_zero _)
                | succ N94 ih94 =>
                  intro j hmu94 hj
                  refine qv_iload C 0 d_C_type_94 rfl ?_
                  refine qv_if_lt C d_C_type_96 (tgt := 131) (by decide) (by omega) (fun ht96 => ?_) (fun hf96 => ?_)
                  · refine qv_aload_n C 1 d_C_type_131 rfl rfl ?_
                    refine qv_get C in_C 0 rfl rfl 1 (by decide) wf_C_67 rfl rfl d_C_type_132 ?_
                    refine qx_ret ⟨by decide, by decide⟩ ?_
                    refine qv_iret C hrt hlk d_C_type_135 ?_
                    obtain rfl : j = m0 := by omega
                    exact ⟨⟨hm9, hrt8⟩, by omega, rfl, rfl⟩
                  · refine qv_aload_n C 1 d_C_type_99 rfl rfl ?_
                    refine qv_get C in_C 0 rfl rfl 0 (by decide) wf_C_9 rfl rfl d_C_type_100 ?_
                    refine qv_aload_n C 1 d_C_type_103 rfl rfl ?_
                    refine qv_get C in_C 0 rfl rfl 1 (by decide) wf_C_67 rfl rfl d_C_type_104 ?_
                    refine qv_lload_n C 2 d_C_type_107 rfl rfl ?_
                    refine qv_iload C 0 d_C_type_108 rfl ?_
                    refine qv_cS (As := [.long (qL ch), .int (qI (m0 - 1 - j))]) (rest := [.int (qI (tl + j)), .ref tx]) (wc := []) (wr := [(o, .inr (4, [.ref tx, .int (qI (tl + j)), .ref rd, .ref p, .ref q, .ref m, .ref mb, .ref mk, .ref z, .int (qI on), .int (qI cn), .int (qI hd), .long (qL ps), .long (qL ss)])), (tx, .inl (G.2.2.1, 120, .inl (qA (m_tx x tl ch m0 j))))]) C k_C_byteOf (c_C_byteOf l G (ch := ch) (i := m0 - 1 - j) (by omega)) wm_C_61 wt_C_byteOf (by decide) d_C_type_110 rfl rfl (Nat.le_of_ble_eq_true rfl) (by decide) [] [0, 1] rfl (by decide) rfl (by decide) (by decide) (fun v ws' hpost => ?_)
                    obtain ⟨rfl, rfl⟩ := hpost
                    refine qv_eq (ws' := [(o, .inr (4, [.ref tx, .int (qI (tl + j)), .ref rd, .ref p, .ref q, .ref m, .ref mb, .ref mk, .ref z, .int (qI on), .int (qI cn), .int (qI hd), .long (qL ps), .long (qL ss)])), (tx, .inl (G.2.2.1, 120, .inl (qA (m_tx x tl ch m0 j))))]) (st' := [.int (qI (m_by ch (m0 - 1 - j))), .int (qI (tl + j)), .ref tx]) rfl rfl rfl ?_
                    have hby := m_by_rg ch (m0 - 1 - j)
                    refine qv_i2c C (by omega) d_C_type_113 ?_
                    refine qv_cast C 1 rfl (by omega) (by omega) d_C_type_114 (ws' := [(o, .inr (4, [.ref tx, .int (qI (tl + j)), .ref rd, .ref p, .ref q, .ref m, .ref mb, .ref mk, .ref z, .int (qI on), .int (qI cn), .int (qI hd), .long (qL ps), .long (qL ss)])), (tx, .inl (G.2.2.1, 120, .inl (qA (qU (m_tx x tl ch m0 j) (tl + j) (m_by ch (m0 - 1 - j))))))]) rfl ?_
                    refine qv_aload_n C 1 d_C_type_115 rfl rfl ?_
                    refine qv_dup C d_C_type_116 rfl ?_
                    refine qv_get C in_C 0 rfl rfl 1 (by decide) wf_C_67 rfl rfl d_C_type_117 ?_
                    refine qv_iconst C d_C_type_120 ?_
                    refine qv_iadd C d_C_type_121 ?_
                    refine qv_put C in_C 0 rfl rfl 1 (by decide) t_C t_C_ok n_C wf_C_67 rfl rfl (t_C_ok 1 (by decide)) (rfl) (rfl) (Nat.le_of_ble_eq_true rfl) d_C_type_122 (ws' := [(o, .inr (4, [.ref tx, .int (qI ((tl + j) + 1)), .ref rd, .ref p, .ref q, .ref m, .ref mb, .ref mk, .ref z, .int (qI on), .int (qI cn), .int (qI hd), .long (qL ps), .long (qL ss)])), (tx, .inl (G.2.2.1, 120, .inl (qA (qU (m_tx x tl ch m0 j) (tl + j) (m_by ch (m0 - 1 - j))))))]) rfl ?_
                    refine qv_iinc C 0 d_C_type_125 rfl (by decide) (lv' := [(4, .int (qI ((m0 - 1 - j) + (-1)))), (0, .ref o), (1, .long (qL ch))]) rfl ?_
                    refine qv_goto C d_C_type_128 (by decide) (tgt := 94) ?_
                    refine qv_eq (ws' := [(o, .inr (4, [.ref tx, .int (qI (tl + (j + 1))), .ref rd, .ref p, .ref q, .ref m, .ref mb, .ref mk, .ref z, .int (qI on), .int (qI cn), .int (qI hd), .long (qL ps), .long (qL ss)])), (tx, .inl (G.2.2.1, 120, .inl (qA (m_tx x tl ch m0 (j + 1)))))]) (lv' := [(4, .int (qI (m0 - 1 - (j + 1)))), (0, .ref o), (1, .long (qL ch))]) (by rw [m_tx_s hj.1, show tl + (j + 1) = tl + j + 1 by omega]) (by rw [show m0 - 1 - (j + 1) = m0 - 1 - j + (-1) by omega]) rfl ?_
                    exact ih94 (j + 1) (by omega) (by first | assumption | omega)
              refine qv_lv (lv' := [(4, .int (qI (m0 - 1))), (0, .ref o), (1, .long (qL ch))]) [0, 1, 2] rfl ?_
              refine qv_eq (ws' := [(o, .inr (4, [.ref tx, .int (qI (tl + 0)), .ref rd, .ref p, .ref q, .ref m, .ref mb, .ref mk, .ref z, .int (qI on), .int (qI cn), .int (qI hd), .long (qL ps), .long (qL ss)])), (tx, .inl (G.2.2.1, 120, .inl (qA (m_tx x tl ch m0 0))))]) (lv' := [(4, .int (qI (m0 - 1 - 0))), (0, .ref o), (1, .long (qL ch))]) (by rw [m_tx_0, show tl + 0 = tl by omega]) (by rw [show m0 - 1 - 0 = m0 - 1 by omega]) rfl ?_
              exact L94 _ 0 (Nat.lt_succ_self _) (by first | assumption | omega)
            · refine qx_thr C htr hlk hex hE qx_UOE (by decide) (by decide) qx_UOE_cl qx_UOE_in qx_UOE_ini (List.mem_of_getElem? (i := 2) rfl) rfl d_C_type_79 d_C_type_82 d_C_type_83 d_C_type_85 d_C_type_88 (by decide) (by decide) (by decide) (by decide) ?_
              exact ⟨Or.inr ⟨rfl, ⟨hm9, hrt8⟩, by omega⟩, rfl⟩
          · refine qv_lload_n C 2 d_C_type_30 rfl rfl ?_
            refine qv_iload C 0 d_C_type_31 rfl ?_
            refine qv_cS (As := [.long (qL ch), .int (qI i)]) (rest := []) (wc := []) (wr := [(o, .inr (4, [.ref tx, .int (qI tl), .ref rd, .ref p, .ref q, .ref m, .ref mb, .ref mk, .ref z, .int (qI on), .int (qI cn), .int (qI hd), .long (qL ps), .long (qL ss)])), (tx, .inl (G.2.2.1, 120, .inl (qA x)))]) C k_C_byteOf (c_C_byteOf l G (ch := ch) (i := i) (by omega)) wm_C_61 wt_C_byteOf (by decide) d_C_type_33 rfl rfl (Nat.le_of_ble_eq_true rfl) (by decide) [] [0, 1] rfl (by decide) rfl (by decide) (by decide) (fun v ws' hpost => ?_)
            obtain ⟨rfl, rfl⟩ := hpost
            refine qv_eq (ws' := [(o, .inr (4, [.ref tx, .int (qI tl), .ref rd, .ref p, .ref q, .ref m, .ref mb, .ref mk, .ref z, .int (qI on), .int (qI cn), .int (qI hd), .long (qL ps), .long (qL ss)])), (tx, .inl (G.2.2.1, 120, .inl (qA x)))]) (st' := [.int (qI (m_by ch i))]) rfl rfl rfl ?_
            have hby := m_by_rg ch i
            refine qv_istore C d_C_type_36 (by decide) (lv' := [(5, .int (qI (m_by ch i))), (4, .int (qI i)), (0, .ref o), (1, .long (qL ch)), (3, .int (qI m0))]) rfl ?_
            refine qv_iload C 0 d_C_type_38 rfl ?_
            refine qv_bipush C d_C_type_40 (by decide) ?_
            refine qv_icmp_lt C d_C_type_42 (tgt := 52) (by decide) (by omega) (by omega) (fun ht42 => ?_) (fun hf42 => ?_)
            · refine qx_thr C htr hlk hex hE qx_IAE (by decide) (by decide) qx_IAE_cl qx_IAE_in qx_IAE_ini (List.mem_of_getElem? (i := 1) rfl) rfl d_C_type_52 d_C_type_55 d_C_type_56 d_C_type_58 d_C_type_61 (by decide) (by decide) (by decide) (by decide) ?_
              exact ⟨Or.inl ⟨rfl, fun h => by have h1 := h.2 i (by omega) (by omega); omega⟩, rfl⟩
            · refine qv_iload C 0 d_C_type_45 rfl ?_
              refine qv_bipush C d_C_type_47 (by decide) ?_
              refine qv_icmp_le C d_C_type_49 (tgt := 62) (by decide) (by omega) (by omega) (fun ht49 => ?_) (fun hf49 => ?_)
              · refine qv_iinc C 1 d_C_type_62 rfl (by decide) (lv' := [(4, .int (qI (i + 1))), (5, .int (qI (m_by ch i))), (0, .ref o), (1, .long (qL ch)), (3, .int (qI m0))]) rfl ?_
                refine qv_goto C d_C_type_65 (by decide) (tgt := 24) ?_
                refine qv_lv (lv' := [(4, .int (qI (i + 1))), (0, .ref o), (1, .long (qL ch)), (3, .int (qI m0))]) [0, 2, 3, 4] rfl ?_
                exact ih24 (i + 1) (by omega) (by omega) (hm9) (m_rt_s hrt9 (by omega))
              · refine qx_thr C htr hlk hex hE qx_IAE (by decide) (by decide) qx_IAE_cl qx_IAE_in qx_IAE_ini (List.mem_of_getElem? (i := 1) rfl) rfl d_C_type_52 d_C_type_55 d_C_type_56 d_C_type_58 d_C_type_61 (by decide) (by decide) (by decide) (by decide) ?_
                exact ⟨Or.inl ⟨rfl, fun h => by have h1 := h.2 i (by omega) (by omega); omega⟩, rfl⟩
      exact L24 _ 0 (Nat.lt_succ_self _) (by omega) (by omega) (m_rt_0 _)
    · refine qx_thr C htr hlk hex hE qx_IAE (by decide) (by decide) qx_IAE_cl qx_IAE_in qx_IAE_ini (List.mem_of_getElem? (i := 0) rfl) rfl d_C_type_11 d_C_type_14 d_C_type_15 d_C_type_17 d_C_type_20 (by decide) (by decide) (by decide) (by decide) ?_
      exact ⟨Or.inl ⟨rfl, fun h => by have h1 := h.1; omega⟩, rfl⟩
set_option maxHeartbeats 4000000 in
set_option maxRecDepth 100000 in
theorem c_C_plain (l : Launch) (G : qG) {o tx rd q m mb mk z : Nat} {tl on cn hd ps ss : Int} {mv p pk pr pt pd pb ph pe pg : Nat} {pl st n lc mv0 : Int} {k r t de v : Int → Int} (hrw : m_rw n k r t de) (htw : m_tw n pl st v) (hmv : -2147483648 ≤ mv0 ∧ mv0 ≤ 2147483647) : qXM l G y_C_plain b_C_plain 3 (some .int) ({ frames := 6, cells := 1, slots := 6, locals := 89 }) [.ref o, .int (qI mv0)] [(o, .inr (4, [.ref tx, .int (qI tl), .ref rd, .ref p, .ref q, .ref m, .ref mb, .ref mk, .ref z, .int (qI on), .int (qI cn), .int (qI hd), .long (qL ps), .long (qL ss)])), (m, .inr (0, [.ref mv, .int (qI pl), .long (qL st)])), (mv, .inl (G.2.1, 8, .inl (qA v))), (p, .inr (2, [.ref pk, .ref pr, .ref pt, .int (qI n), .ref pd, .ref pb, .ref ph, .ref pe, .ref pg, .int (qI lc)])), (pk, .inl (G.2.1, 24, .inl (qA k))), (pr, .inl (G.2.1, 24, .inl (qA r))), (pt, .inl (G.2.1, 24, .inl (qA t)))] (fun v' ws' => 0 < n ∧ (0 ≤ mv0 ∧ mv0 ≤ 1000) ∧ ∃ (x pl1 st1 : Int) (v1 : Int → Int), v' = some (.int (qI x)) ∧ ws' = [(o, .inr (4, [.ref tx, .int (qI tl), .ref rd, .ref p, .ref q, .ref m, .ref mb, .ref mk, .ref z, .int (qI on), .int (qI cn), .int (qI hd), .long (qL ps), .long (qL ss)])), (m, .inr (0, [.ref mv, .int (qI pl1), .long (qL st1)])), (mv, .inl (G.2.1, 8, .inl (qA v1))), (p, .inr (2, [.ref pk, .ref pr, .ref pt, .int (qI n), .ref pd, .ref pb, .ref ph, .ref pe, .ref pg, .int (qI lc)])), (pk, .inl (G.2.1, 24, .inl (qA k))), (pr, .inl (G.2.1, 24, .inl (qA r))), (pt, .inl (G.2.1, 24, .inl (qA t)))] ∧ m_tw n pl1 st1 v1 ∧ m_pl n k r t (Int.toNat mv0) 0 pl st v = (x, pl1, st1, v1)) (fun E' ws' => ((E' = "java/lang/IllegalStateException" ∧ n = 0) ∨ (E' = "java/lang/IllegalArgumentException" ∧ 0 < n ∧ ¬ (0 ≤ mv0 ∧ mv0 ≤ 1000))) ∧ ws' = [(o, .inr (4, [.ref tx, .int (qI tl), .ref rd, .ref p, .ref q, .ref m, .ref mb, .ref mk, .ref z, .int (qI on), .int (qI cn), .int (qI hd), .long (qL ps), .long (qL ss)])), (m, .inr (0, [.ref mv, .int (qI pl), .long (qL st)])), (mv, .inl (G.2.1, 8, .inl (qA v))), (p, .inr (2, [.ref pk, .ref pr, .ref pt, .int (qI n), .ref pd, .ref pb, .ref ph, .ref pe, .ref pg, .int (qI lc)])), (pk, .inl (G.2.1, 24, .inl (qA k))), (pr, .inl (G.2.1, 24, .inl (qA r))), (pt, .inl (G.2.1, 24, .inl (qA t)))]) := by
  refine qXM.of (av := [.ref o, .int (qI mv0)]) (nL := 3) (Nat.le_of_ble_eq_true rfl) (fun xp xe xs xm xb xme xc A C hrt hlk hnm hex htr hE => ?_)
  refine qv_eq (lv' := [(0, .ref o), (1, .int (qI mv0))]) rfl rfl rfl ?_
  obtain ⟨hn, hk, hr7, ht7, hd7⟩ := id hrw
  refine qv_aload_n C 0 d_C_plain_0 rfl rfl ?_
  refine qv_get C in_C 0 rfl rfl 3 (by decide) wf_C_23 rfl rfl d_C_plain_1 ?_
  refine qv_getN C in_P 3 rfl rfl 3 (by decide) wf_C_89 rfl rfl d_C_plain_4 ?_
  refine qv_if_ne C d_C_plain_7 (tgt := 20) (by decide) (by omega) (fun ht7 => ?_) (fun hf7 => ?_)
  · refine qv_iload_n C 1 d_C_plain_20 rfl rfl ?_
    refine qv_if_lt C d_C_plain_21 (tgt := 31) (by decide) (by omega) (fun ht21 => ?_) (fun hf21 => ?_)
    · refine qx_thr C htr hlk hex hE qx_IAE (by decide) (by decide) qx_IAE_cl qx_IAE_in qx_IAE_ini (List.mem_of_getElem? (i := 6) rfl) rfl d_C_plain_31 d_C_plain_34 d_C_plain_35 d_C_plain_37 d_C_plain_40 (by decide) (by decide) (by decide) (by decide) ?_
      exact ⟨Or.inr ⟨rfl, by omega, by omega⟩, rfl⟩
    · refine qv_iload_n C 1 d_C_plain_24 rfl rfl ?_
      refine qv_sipush C d_C_plain_25 (by decide) ?_
      refine qv_icmp_le C d_C_plain_28 (tgt := 41) (by decide) (by omega) (by omega) (fun ht28 => ?_) (fun hf28 => ?_)
      · refine qv_iconst C d_C_plain_41 ?_
        refine qv_istore_n C d_C_plain_42 rfl (by decide) (lv' := [(2, .int (qI 0)), (0, .ref o), (1, .int (qI mv0))]) rfl ?_
        have L43 : ∀ (N43 : Nat) (i : Int) (pl1 : Int) (st1 : Int) (v1 : Int → Int), (mv0 - i).toNat < N43 → (0 ≤ i ∧ i ≤ mv0) → (m_pl n k r t (Int.toNat mv0) 0 pl st v = m_pl n k r t (Int.toNat (mv0 - i)) i pl1 st1 v1) → (m_tw n pl1 st1 v1) → qV xp l xe ({ frames := 6, cells := 1, slots := 6, locals := 89 }) xs xm [.ref o, .int (qI mv0)].toArray xb xme xc G A xs.heap 3 (qX G A xb xs 1 6 (fun v' ws' => 0 < n ∧ (0 ≤ mv0 ∧ mv0 ≤ 1000) ∧ ∃ (x pl1 st1 : Int) (v1 : Int → Int), v' = some (.int (qI x)) ∧ ws' = [(o, .inr (4, [.ref tx, .int (qI tl), .ref rd, .ref p, .ref q, .ref m, .ref mb, .ref mk, .ref z, .int (qI on), .int (qI cn), .int (qI hd), .long (qL ps), .long (qL ss)])), (m, .inr (0, [.ref mv, .int (qI pl1), .long (qL st1)])), (mv, .inl (G.2.1, 8, .inl (qA v1))), (p, .inr (2, [.ref pk, .ref pr, .ref pt, .int (qI n), .ref pd, .ref pb, .ref ph, .ref pe, .ref pg, .int (qI lc)])), (pk, .inl (G.2.1, 24, .inl (qA k))), (pr, .inl (G.2.1, 24, .inl (qA r))), (pt, .inl (G.2.1, 24, .inl (qA t)))] ∧ m_tw n pl1 st1 v1 ∧ m_pl n k r t (Int.toNat mv0) 0 pl st v = (x, pl1, st1, v1)) (fun E' ws' => ((E' = "java/lang/IllegalStateException" ∧ n = 0) ∨ (E' = "java/lang/IllegalArgumentException" ∧ 0 < n ∧ ¬ (0 ≤ mv0 ∧ mv0 ≤ 1000))) ∧ ws' = [(o, .inr (4, [.ref tx, .int (qI tl), .ref rd, .ref p, .ref q, .ref m, .ref mb, .ref mk, .ref z, .int (qI on), .int (qI cn), .int (qI hd), .long (qL ps), .long (qL ss)])), (m, .inr (0, [.ref mv, .int (qI pl), .long (qL st)])), (mv, .inl (G.2.1, 8, .inl (qA v))), (p, .inr (2, [.ref pk, .ref pr, .ref pt, .int (qI n), .ref pd, .ref pb, .ref ph, .ref pe, .ref pg, .int (qI lc)])), (pk, .inl (G.2.1, 24, .inl (qA k))), (pr, .inl (G.2.1, 24, .inl (qA r))), (pt, .inl (G.2.1, 24, .inl (qA t)))])) 0 0 [(o, .inr (4, [.ref tx, .int (qI tl), .ref rd, .ref p, .ref q, .ref m, .ref mb, .ref mk, .ref z, .int (qI on), .int (qI cn), .int (qI hd), .long (qL ps), .long (qL ss)])), (m, .inr (0, [.ref mv, .int (qI pl1), .long (qL st1)])), (mv, .inl (G.2.1, 8, .inl (qA v1))), (p, .inr (2, [.ref pk, .ref pr, .ref pt, .int (qI n), .ref pd, .ref pb, .ref ph, .ref pe, .ref pg, .int (qI lc)])), (pk, .inl (G.2.1, 24, .inl (qA k))), (pr, .inl (G.2.1, 24, .inl (qA r))), (pt, .inl (G.2.1, 24, .inl (qA t)))] [(2, .int (qI i)), (0, .ref o), (1, .int (qI mv0))] 43 [] := by
          intro N43
          induction N43 with
          | zero => intro i pl1 st1 v1 hmu; exact absurd hmu (Nat.not_lt_zero _)
          | succ N43 ih43 =>
            intro i pl1 st1 v1 hmu43 hi hT htw1
            refine qv_iload_n C 0 d_C_plain_43 rfl rfl ?_
            refine qv_iload_n C 2 d_C_plain_44 rfl rfl ?_
            refine qv_icmp_ge C d_C_plain_45 (tgt := 79) (by decide) (by omega) (by omega) (fun ht45 => ?_) (fun hf45 => ?_)
            · refine qv_iload_n C 0 d_C_plain_79 rfl rfl ?_
              refine qx_ret ⟨by decide, by decide⟩ ?_
              refine qv_iret C hrt hlk d_C_plain_80 ?_
              refine ⟨by omega, by omega, i, pl1, st1, v1, rfl, rfl, htw1, ?_⟩
              first | (rw [hT, show (mv0 - i).toNat = 0 by omega]; rfl) | exact hT.trans (m_pl_stop (fun h => by unfold m_go at h; omega))
            · refine qv_aload_n C 1 d_C_plain_48 rfl rfl ?_
              refine qv_get C in_C 0 rfl rfl 5 (by decide) wf_C_33 rfl rfl d_C_plain_49 ?_
              refine qv_aload_n C 1 d_C_plain_52 rfl rfl ?_
              refine qv_get C in_C 0 rfl rfl 3 (by decide) wf_C_23 rfl rfl d_C_plain_53 ?_
              refine qv_cVN (As := [.ref p]) (rest := []) (wc := [(m, .inr (0, [.ref mv, .int (qI pl1), .long (qL st1)])), (p, .inr (2, [.ref pk, .ref pr, .ref pt, .int (qI n), .ref pd, .ref pb, .ref ph, .ref pe, .ref pg, .int (qI lc)])), (pk, .inl (G.2.1, 24, .inl (qA k))), (pr, .inl (G.2.1, 24, .inl (qA r))), (mv, .inl (G.2.1, 8, .inl (qA v1)))]) (wr := [(o, .inr (4, [.ref tx, .int (qI tl), .ref rd, .ref p, .ref q, .ref m, .ref mb, .ref mk, .ref z, .int (qI on), .int (qI cn), .int (qI hd), .long (qL ps), .long (qL ss)])), (pt, .inl (G.2.1, 24, .inl (qA t)))]) C k_M_rests (c_M_rests l G hn htw1.1 hk hr7 htw1.2.1 htw1.2.2.1) wm_C_143 wi_M_rests ws_M_rests 0 rfl rfl (by decide) d_C_plain_56 rfl rfl (Nat.le_of_ble_eq_true rfl) (by decide) [1, 3, 4, 5, 2] [0, 6] rfl (by decide) rfl (by decide) (by decide) (fun v ws' hpost => ?_)
              obtain ⟨rfl, xr, rfl, hxr⟩ := hpost
              refine qv_eq (ws' := [(o, .inr (4, [.ref tx, .int (qI tl), .ref rd, .ref p, .ref q, .ref m, .ref mb, .ref mk, .ref z, .int (qI on), .int (qI cn), .int (qI hd), .long (qL ps), .long (qL ss)])), (pt, .inl (G.2.1, 24, .inl (qA t))), (m, .inr (0, [.ref mv, .int (qI pl1), .long (qL st1)])), (p, .inr (2, [.ref pk, .ref pr, .ref pt, .int (qI n), .ref pd, .ref pb, .ref ph, .ref pe, .ref pg, .int (qI lc)])), (pk, .inl (G.2.1, 24, .inl (qA k))), (pr, .inl (G.2.1, 24, .inl (qA r))), (mv, .inl (G.2.1, 8, .inl (qA v1)))]) (st' := [.int (qI xr)]) rfl rfl rfl ?_
              refine qv_if_ne C d_C_plain_59 (tgt := 79) (by decide) (by omega) (fun ht59 => ?_) (fun hf59 => ?_)
              · refine qv_iload_n C 0 d_C_plain_79 rfl rfl ?_
                refine qv_ws (ws' := [(o, .inr (4, [.ref tx, .int (qI tl), .ref rd, .ref p, .ref q, .ref m, .ref mb, .ref mk, .ref z, .int (qI on), .int (qI cn), .int (qI hd), .long (qL ps), .long (qL ss)])), (m, .inr (0, [.ref mv, .int (qI pl1), .long (qL st1)])), (mv, .inl (G.2.1, 8, .inl (qA v1))), (p, .inr (2, [.ref pk, .ref pr, .ref pt, .int (qI n), .ref pd, .ref pb, .ref ph, .ref pe, .ref pg, .int (qI lc)])), (pk, .inl (G.2.1, 24, .inl (qA k))), (pr, .inl (G.2.1, 24, .inl (qA r))), (pt, .inl (G.2.1, 24, .inl (qA t)))]) [0, 2, 6, 3, 4, 5, 1] (by decide) rfl ?_
                refine qx_ret ⟨by decide, by decide⟩ ?_
                refine qv_iret C hrt hlk d_C_plain_80 ?_
                refine ⟨by omega, by omega, i, pl1, st1, v1, rfl, rfl, htw1, ?_⟩
                first | (rw [hT, show (mv0 - i).toNat = 0 by omega]; rfl) | exact hT.trans (m_pl_stop (fun h => by unfold m_go at h; omega))
              · have hgo : m_go n k r pl1 st1 v1 := by unfold m_go; omega
                obtain ⟨f', hf'⟩ : ∃ f' : Nat, (mv0 - i).toNat = f' + 1 := ⟨(mv0 - i).toNat - 1, by omega⟩
                refine qv_aload_n C 1 d_C_plain_62 rfl rfl ?_
                refine qv_get C in_C 0 rfl rfl 5 (by decide) wf_C_33 rfl rfl d_C_plain_63 ?_
                refine qv_aload_n C 1 d_C_plain_66 rfl rfl ?_
                refine qv_get C in_C 0 rfl rfl 3 (by decide) wf_C_23 rfl rfl d_C_plain_67 ?_
                refine qv_cVN (As := [.ref p]) (rest := []) (wc := [(m, .inr (0, [.ref mv, .int (qI pl1), .long (qL st1)])), (p, .inr (2, [.ref pk, .ref pr, .ref pt, .int (qI n), .ref pd, .ref pb, .ref ph, .ref pe, .ref pg, .int (qI lc)])), (pk, .inl (G.2.1, 24, .inl (qA k))), (pr, .inl (G.2.1, 24, .inl (qA r))), (mv, .inl (G.2.1, 8, .inl (qA v1))), (pt, .inl (G.2.1, 24, .inl (qA t)))]) (wr := [(o, .inr (4, [.ref tx, .int (qI tl), .ref rd, .ref p, .ref q, .ref m, .ref mb, .ref mk, .ref z, .int (qI on), .int (qI cn), .int (qI hd), .long (qL ps), .long (qL ss)]))]) C k_M_step (c_M_step l G hn htw1.1 hk hr7 htw1.2.1 htw1.2.2.1 hgo.1 hgo.2) wm_C_147 wi_M_step ws_M_step 0 rfl rfl (by decide) d_C_plain_70 rfl rfl (Nat.le_of_ble_eq_true rfl) (by decide) [2, 3, 4, 5, 6, 1] [0] rfl (by decide) rfl (by decide) (by decide) (fun v ws' hpost => ?_)
                obtain ⟨rfl, rfl⟩ := hpost
                refine qv_eq (ws' := [(o, .inr (4, [.ref tx, .int (qI tl), .ref rd, .ref p, .ref q, .ref m, .ref mb, .ref mk, .ref z, .int (qI on), .int (qI cn), .int (qI hd), .long (qL ps), .long (qL ss)])), (m, .inr (0, [.ref mv, .int (qI (m_sp k r t pl1 v1)), .long (qL (st1 + 1))])), (p, .inr (2, [.ref pk, .ref pr, .ref pt, .int (qI n), .ref pd, .ref pb, .ref ph, .ref pe, .ref pg, .int (qI lc)])), (pk, .inl (G.2.1, 24, .inl (qA k))), (pr, .inl (G.2.1, 24, .inl (qA r))), (mv, .inl (G.2.1, 8, .inl (qA (m_sv k r pl1 v1)))), (pt, .inl (G.2.1, 24, .inl (qA t)))]) (st' := []) rfl rfl rfl ?_
                refine qv_iinc C 0 d_C_plain_73 rfl (by decide) (lv' := [(2, .int (qI (i + 1))), (0, .ref o), (1, .int (qI mv0))]) rfl ?_
                refine qv_goto C d_C_plain_76 (by decide) (tgt := 43) ?_
                refine qv_ws (ws' := [(o, .inr (4, [.ref tx, .int (qI tl), .ref rd, .ref p, .ref q, .ref m, .ref mb, .ref mk, .ref z, .int (qI on), .int (qI cn), .int (qI hd), .long (qL ps), .long (qL ss)])), (m, .inr (0, [.ref mv, .int (qI (m_sp k r t pl1 v1)), .long (qL (st1 + 1))])), (mv, .inl (G.2.1, 8, .inl (qA (m_sv k r pl1 v1)))), (p, .inr (2, [.ref pk, .ref pr, .ref pt, .int (qI n), .ref pd, .ref pb, .ref ph, .ref pe, .ref pg, .int (qI lc)])), (pk, .inl (G.2.1, 24, .inl (qA k))), (pr, .inl (G.2.1, 24, .inl (qA r))), (pt, .inl (G.2.1, 24, .inl (qA t)))]) [0, 1, 5, 2, 3, 4, 6] (by decide) rfl ?_
                exact ih43 (i + 1) (m_sp k r t pl1 v1) (st1 + 1) (m_sv k r pl1 v1) (by omega) (by omega) (by rw [show (mv0 - (i + 1)).toNat = f' by omega, ← m_pl_go hgo, ← hf']; exact hT) (m_sp_w hrw htw1 hgo)
        exact L43 _ 0 pl st v (Nat.lt_succ_self _) (by omega) (by rw [show (mv0 - 0).toNat = mv0.toNat by omega]) (htw)
      · refine qx_thr C htr hlk hex hE qx_IAE (by decide) (by decide) qx_IAE_cl qx_IAE_in qx_IAE_ini (List.mem_of_getElem? (i := 6) rfl) rfl d_C_plain_31 d_C_plain_34 d_C_plain_35 d_C_plain_37 d_C_plain_40 (by decide) (by decide) (by decide) (by decide) ?_
        exact ⟨Or.inr ⟨rfl, by omega, by omega⟩, rfl⟩
  · refine qx_thr C htr hlk hex hE qx_ISE (by decide) (by decide) qx_ISE_cl qx_ISE_in qx_ISE_ini (List.mem_of_getElem? (i := 4) rfl) rfl d_C_plain_10 d_C_plain_13 d_C_plain_14 d_C_plain_16 d_C_plain_19 (by decide) (by decide) (by decide) (by decide) ?_
    exact ⟨Or.inl ⟨rfl, by omega⟩, rfl⟩

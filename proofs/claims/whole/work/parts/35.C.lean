set_option maxHeartbeats 4000000 in
set_option maxRecDepth 100000 in
theorem c_C_wipe (l : Launch) (G : qG) {o tx rd q m mb mk z : Nat} {tl on cn hd ps ss : Int} {p : Nat}  : qM l G y_C_wipe b_C_wipe 2 (some .int) ({ frames := 0, cells := 0, slots := 0, locals := 0 }) [.ref o] [(o, .inr (4, [.ref tx, .int (qI tl), .ref rd, .ref p, .ref q, .ref m, .ref mb, .ref mk, .ref z, .int (qI on), .int (qI cn), .int (qI hd), .long (qL ps), .long (qL ss)]))] (fun v' ws' => v' = some (.int (qI tl)) ∧ ws' = [(o, .inr (4, [.ref tx, .int (qI 0), .ref rd, .ref p, .ref q, .ref m, .ref mb, .ref mk, .ref z, .int (qI on), .int (qI cn), .int (qI hd), .long (qL ps), .long (qL ss)]))]) := by
  refine qM.of (by decide) (Nat.le_of_ble_eq_true rfl) (fun xp xe xs xm xb xme xc A C hrt hlk hnm => ?_)
  refine qv_eq (lv' := [(0, .ref o)]) rfl rfl rfl ?_
  refine qv_aload_n C 0 d_C_wipe_0 rfl rfl ?_
  refine qv_get C in_C 0 rfl rfl 1 (by decide) wf_C_67 rfl rfl d_C_wipe_1 ?_
  refine qv_istore_n C d_C_wipe_4 rfl (by decide) (lv' := [(1, .int (qI tl)), (0, .ref o)]) rfl ?_
  refine qv_aload_n C 1 d_C_wipe_5 rfl rfl ?_
  refine qv_iconst C d_C_wipe_6 ?_
  refine qv_put C in_C 0 rfl rfl 1 (by decide) t_C t_C_ok n_C wf_C_67 rfl rfl (t_C_ok 1 (by decide)) (rfl) (rfl) (Nat.le_of_ble_eq_true rfl) d_C_wipe_7 (ws' := [(o, .inr (4, [.ref tx, .int (qI 0), .ref rd, .ref p, .ref q, .ref m, .ref mb, .ref mk, .ref z, .int (qI on), .int (qI cn), .int (qI hd), .long (qL ps), .long (qL ss)]))]) rfl ?_
  refine qv_iload_n C 0 d_C_wipe_10 rfl rfl ?_
  refine qv_iret C hrt hlk d_C_wipe_11 ?_
  exact ⟨rfl, rfl⟩
set_option maxHeartbeats 4000000 in
set_option maxRecDepth 100000 in
theorem c_C_size (l : Launch) (G : qG) {o tx rd q m mb mk z : Nat} {tl on cn hd ps ss : Int}{p pk pr pt pd pb ph pe pg : Nat} {n lc : Int}  : qM l G y_C_size b_C_size 1 (some .int) ({ frames := 0, cells := 0, slots := 0, locals := 0 }) [.ref o] [(o, .inr (4, [.ref tx, .int (qI tl), .ref rd, .ref p, .ref q, .ref m, .ref mb, .ref mk, .ref z, .int (qI on), .int (qI cn), .int (qI hd), .long (qL ps), .long (qL ss)])), (p, .inr (2, [.ref pk, .ref pr, .ref pt, .int (qI n), .ref pd, .ref pb, .ref ph, .ref pe, .ref pg, .int (qI lc)]))] (fun v' ws' => v' = some (.int (qI n)) ∧ ws' = [(o, .inr (4, [.ref tx, .int (qI tl), .ref rd, .ref p, .ref q, .ref m, .ref mb, .ref mk, .ref z, .int (qI on), .int (qI cn), .int (qI hd), .long (qL ps), .long (qL ss)])), (p, .inr (2, [.ref pk, .ref pr, .ref pt, .int (qI n), .ref pd, .ref pb, .ref ph, .ref pe, .ref pg, .int (qI lc)]))]) := by
  refine qM.of (by decide) (Nat.le_of_ble_eq_true rfl) (fun xp xe xs xm xb xme xc A C hrt hlk hnm => ?_)
  refine qv_eq (lv' := [(0, .ref o)]) rfl rfl rfl ?_
  refine qv_aload_n C 0 d_C_size_0 rfl rfl ?_
  refine qv_get C in_C 0 rfl rfl 3 (by decide) wf_C_23 rfl rfl d_C_size_1 ?_
  refine qv_getN C in_P 1 rfl rfl 3 (by decide) wf_C_89 rfl rfl d_C_size_4 ?_
  refine qv_iret C hrt hlk d_C_size_7 ?_
  exact ⟨rfl, rfl⟩
set_option maxHeartbeats 4000000 in
set_option maxRecDepth 100000 in
theorem c_C_loops (l : Launch) (G : qG) {o tx rd q m mb mk z : Nat} {tl on cn hd ps ss : Int}{p pk pr pt pd pb ph pe pg : Nat} {n lc : Int}  : qM l G y_C_loops b_C_loops 1 (some .int) ({ frames := 0, cells := 0, slots := 0, locals := 0 }) [.ref o] [(o, .inr (4, [.ref tx, .int (qI tl), .ref rd, .ref p, .ref q, .ref m, .ref mb, .ref mk, .ref z, .int (qI on), .int (qI cn), .int (qI hd), .long (qL ps), .long (qL ss)])), (p, .inr (2, [.ref pk, .ref pr, .ref pt, .int (qI n), .ref pd, .ref pb, .ref ph, .ref pe, .ref pg, .int (qI lc)]))] (fun v' ws' => v' = some (.int (qI lc)) ∧ ws' = [(o, .inr (4, [.ref tx, .int (qI tl), .ref rd, .ref p, .ref q, .ref m, .ref mb, .ref mk, .ref z, .int (qI on), .int (qI cn), .int (qI hd), .long (qL ps), .long (qL ss)])), (p, .inr (2, [.ref pk, .ref pr, .ref pt, .int (qI n), .ref pd, .ref pb, .ref ph, .ref pe, .ref pg, .int (qI lc)]))]) := by
  refine qM.of (by decide) (Nat.le_of_ble_eq_true rfl) (fun xp xe xs xm xb xme xc A C hrt hlk hnm => ?_)
  refine qv_eq (lv' := [(0, .ref o)]) rfl rfl rfl ?_
  refine qv_aload_n C 0 d_C_loops_0 rfl rfl ?_
  refine qv_get C in_C 0 rfl rfl 3 (by decide) wf_C_23 rfl rfl d_C_loops_1 ?_
  refine qv_getN C in_P 1 rfl rfl 9 (by decide) wf_C_102 rfl rfl d_C_loops_4 ?_
  refine qv_iret C hrt hlk d_C_loops_7 ?_
  exact ⟨rfl, rfl⟩
set_option maxHeartbeats 4000000 in
set_option maxRecDepth 100000 in
theorem c_C_instruction (l : Launch) (G : qG) {o tx rd q m mb mk z : Nat} {tl on cn hd ps ss : Int}{p pk pr pt pd pb ph pe pg : Nat} {n lc : Int} {i w : Int} {k r t : Int → Int} (hn : 0 ≤ n ∧ n ≤ 24) (hi : -2147483648 ≤ i ∧ i ≤ 2147483647) (hw : -2147483648 ≤ w ∧ w ≤ 2147483647) : qM l G y_C_instruction b_C_instruction 3 (some .int) ({ frames := 0, cells := 0, slots := 0, locals := 0 }) [.ref o, .int (qI i), .int (qI w)] [(o, .inr (4, [.ref tx, .int (qI tl), .ref rd, .ref p, .ref q, .ref m, .ref mb, .ref mk, .ref z, .int (qI on), .int (qI cn), .int (qI hd), .long (qL ps), .long (qL ss)])), (p, .inr (2, [.ref pk, .ref pr, .ref pt, .int (qI n), .ref pd, .ref pb, .ref ph, .ref pe, .ref pg, .int (qI lc)])), (pk, .inl (G.2.1, 24, .inl (qA k))), (pr, .inl (G.2.1, 24, .inl (qA r))), (pt, .inl (G.2.1, 24, .inl (qA t)))] (fun v' ws' => v' = some (.int (qI (if 0 ≤ i ∧ i < n ∧ w = 0 then k i else if 0 ≤ i ∧ i < n ∧ w = 1 then r i else if 0 ≤ i ∧ i < n ∧ w = 2 then t i else -1))) ∧ ws' = [(o, .inr (4, [.ref tx, .int (qI tl), .ref rd, .ref p, .ref q, .ref m, .ref mb, .ref mk, .ref z, .int (qI on), .int (qI cn), .int (qI hd), .long (qL ps), .long (qL ss)])), (p, .inr (2, [.ref pk, .ref pr, .ref pt, .int (qI n), .ref pd, .ref pb, .ref ph, .ref pe, .ref pg, .int (qI lc)])), (pk, .inl (G.2.1, 24, .inl (qA k))), (pr, .inl (G.2.1, 24, .inl (qA r))), (pt, .inl (G.2.1, 24, .inl (qA t)))]) := by
  refine qM.of (by decide) (Nat.le_of_ble_eq_true rfl) (fun xp xe xs xm xb xme xc A C hrt hlk hnm => ?_)
  refine qv_eq (lv' := [(0, .ref o), (1, .int (qI i)), (2, .int (qI w))]) rfl rfl rfl ?_
  refine qv_iload_n C 1 d_C_instruction_0 rfl rfl ?_
  refine qv_if_lt C d_C_instruction_1 (tgt := 15) (by decide) (by omega) (fun ht1 => ?_) (fun hf1 => ?_)
  · refine qv_iconst C d_C_instruction_15 ?_
    refine qv_iret C hrt hlk d_C_instruction_16 ?_
    refine ⟨?_, rfl⟩
    rw [if_neg (by omega), if_neg (by omega), if_neg (by omega)]
  · refine qv_iload_n C 1 d_C_instruction_4 rfl rfl ?_
    refine qv_aload_n C 0 d_C_instruction_5 rfl rfl ?_
    refine qv_get C in_C 0 rfl rfl 3 (by decide) wf_C_23 rfl rfl d_C_instruction_6 ?_
    refine qv_getN C in_P 1 rfl rfl 3 (by decide) wf_C_89 rfl rfl d_C_instruction_9 ?_
    refine qv_icmp_lt C d_C_instruction_12 (tgt := 17) (by decide) (by omega) (by omega) (fun ht12 => ?_) (fun hf12 => ?_)
    · refine qv_iload_n C 2 d_C_instruction_17 rfl rfl ?_
      rcases (show w = 0 ∨ w = 1 ∨ w = 2 ∨ (¬ w = 0 ∧ ¬ w = 1 ∧ ¬ w = 2) by omega) with hs18 | hs18 | hs18 | hs18
      · refine qv_tabIn C d_C_instruction_18 (by omega) (by omega) (by omega) (by rw [hs18]; rfl) (tgt := 44) (by decide) ?_
        refine qv_aload_n C 0 d_C_instruction_44 rfl rfl ?_
        refine qv_get C in_C 0 rfl rfl 3 (by decide) wf_C_23 rfl rfl d_C_instruction_45 ?_
        refine qv_getN C in_P 1 rfl rfl 0 (by decide) wf_C_92 rfl rfl d_C_instruction_48 ?_
        refine qv_iload_n C 1 d_C_instruction_51 rfl rfl ?_
        refine qv_iald C 2 rfl (by omega) d_C_instruction_52 ?_
        refine qv_iret C hrt hlk d_C_instruction_53 ?_
        refine ⟨?_, rfl⟩
        rw [if_pos (by omega)]
      · refine qv_tabIn C d_C_instruction_18 (by omega) (by omega) (by omega) (by rw [hs18]; rfl) (tgt := 54) (by decide) ?_
        refine qv_aload_n C 0 d_C_instruction_54 rfl rfl ?_
        refine qv_get C in_C 0 rfl rfl 3 (by decide) wf_C_23 rfl rfl d_C_instruction_55 ?_
        refine qv_getN C in_P 1 rfl rfl 1 (by decide) wf_C_96 rfl rfl d_C_instruction_58 ?_
        refine qv_iload_n C 1 d_C_instruction_61 rfl rfl ?_
        refine qv_iald C 3 rfl (by omega) d_C_instruction_62 ?_
        refine qv_iret C hrt hlk d_C_instruction_63 ?_
        refine ⟨?_, rfl⟩
        rw [if_neg (by omega), if_pos (by omega)]
      · refine qv_tabIn C d_C_instruction_18 (by omega) (by omega) (by omega) (by rw [hs18]; rfl) (tgt := 64) (by decide) ?_
        refine qv_aload_n C 0 d_C_instruction_64 rfl rfl ?_
        refine qv_get C in_C 0 rfl rfl 3 (by decide) wf_C_23 rfl rfl d_C_instruction_65 ?_
        refine qv_getN C in_P 1 rfl rfl 2 (by decide) wf_C_99 rfl rfl d_C_instruction_68 ?_
        refine qv_iload_n C 1 d_C_instruction_71 rfl rfl ?_
        refine qv_iald C 4 rfl (by omega) d_C_instruction_72 ?_
        refine qv_iret C hrt hlk d_C_instruction_73 ?_
        refine ⟨?_, rfl⟩
        rw [if_neg (by omega), if_neg (by omega), if_pos (by omega)]
      · refine qv_tabOut C d_C_instruction_18 (by omega) (by omega) (tgt := 74) (by decide) ?_
        refine qv_iconst C d_C_instruction_74 ?_
        refine qv_iret C hrt hlk d_C_instruction_75 ?_
        refine ⟨?_, rfl⟩
        rw [if_neg (by omega), if_neg (by omega), if_neg (by omega)]
    · refine qv_iconst C d_C_instruction_15 ?_
      refine qv_iret C hrt hlk d_C_instruction_16 ?_
      refine ⟨?_, rfl⟩
      rw [if_neg (by omega), if_neg (by omega), if_neg (by omega)]
set_option maxHeartbeats 4000000 in
set_option maxRecDepth 100000 in
theorem c_C_loop (l : Launch) (G : qG) {o tx rd q m mb mk z : Nat} {tl on cn hd ps ss : Int}{p pk pr pt pd pb ph pe pg : Nat} {n lc : Int} {i w : Int} {lh le ld : Int → Int} (hn : 0 ≤ lc ∧ lc ≤ 24) (hi : -2147483648 ≤ i ∧ i ≤ 2147483647) (hw : -2147483648 ≤ w ∧ w ≤ 2147483647) : qM l G y_C_loop b_C_loop 3 (some .int) ({ frames := 0, cells := 0, slots := 0, locals := 0 }) [.ref o, .int (qI i), .int (qI w)] [(o, .inr (4, [.ref tx, .int (qI tl), .ref rd, .ref p, .ref q, .ref m, .ref mb, .ref mk, .ref z, .int (qI on), .int (qI cn), .int (qI hd), .long (qL ps), .long (qL ss)])), (p, .inr (2, [.ref pk, .ref pr, .ref pt, .int (qI n), .ref pd, .ref pb, .ref ph, .ref pe, .ref pg, .int (qI lc)])), (ph, .inl (G.2.1, 24, .inl (qA lh))), (pe, .inl (G.2.1, 24, .inl (qA le))), (pg, .inl (G.2.1, 24, .inl (qA ld)))] (fun v' ws' => v' = some (.int (qI (if 0 ≤ i ∧ i < lc ∧ w = 0 then lh i else if 0 ≤ i ∧ i < lc ∧ w = 1 then le i else if 0 ≤ i ∧ i < lc ∧ w = 2 then ld i else -1))) ∧ ws' = [(o, .inr (4, [.ref tx, .int (qI tl), .ref rd, .ref p, .ref q, .ref m, .ref mb, .ref mk, .ref z, .int (qI on), .int (qI cn), .int (qI hd), .long (qL ps), .long (qL ss)])), (p, .inr (2, [.ref pk, .ref pr, .ref pt, .int (qI n), .ref pd, .ref pb, .ref ph, .ref pe, .ref pg, .int (qI lc)])), (ph, .inl (G.2.1, 24, .inl (qA lh))), (pe, .inl (G.2.1, 24, .inl (qA le))), (pg, .inl (G.2.1, 24, .inl (qA ld)))]) := by
  refine qM.of (by decide) (Nat.le_of_ble_eq_true rfl) (fun xp xe xs xm xb xme xc A C hrt hlk hnm => ?_)
  refine qv_eq (lv' := [(0, .ref o), (1, .int (qI i)), (2, .int (qI w))]) rfl rfl rfl ?_
  refine qv_iload_n C 1 d_C_loop_0 rfl rfl ?_
  refine qv_if_lt C d_C_loop_1 (tgt := 15) (by decide) (by omega) (fun ht1 => ?_) (fun hf1 => ?_)
  · refine qv_iconst C d_C_loop_15 ?_
    refine qv_iret C hrt hlk d_C_loop_16 ?_
    refine ⟨?_, rfl⟩
    rw [if_neg (by omega), if_neg (by omega), if_neg (by omega)]
  · refine qv_iload_n C 1 d_C_loop_4 rfl rfl ?_
    refine qv_aload_n C 0 d_C_loop_5 rfl rfl ?_
    refine qv_get C in_C 0 rfl rfl 3 (by decide) wf_C_23 rfl rfl d_C_loop_6 ?_
    refine qv_getN C in_P 1 rfl rfl 9 (by decide) wf_C_102 rfl rfl d_C_loop_9 ?_
    refine qv_icmp_lt C d_C_loop_12 (tgt := 17) (by decide) (by omega) (by omega) (fun ht12 => ?_) (fun hf12 => ?_)
    · refine qv_iload_n C 2 d_C_loop_17 rfl rfl ?_
      rcases (show w = 0 ∨ w = 1 ∨ w = 2 ∨ (¬ w = 0 ∧ ¬ w = 1 ∧ ¬ w = 2) by omega) with hs18 | hs18 | hs18 | hs18
      · refine qv_tabIn C d_C_loop_18 (by omega) (by omega) (by omega) (by rw [hs18]; rfl) (tgt := 44) (by decide) ?_
        refine qv_aload_n C 0 d_C_loop_44 rfl rfl ?_
        refine qv_get C in_C 0 rfl rfl 3 (by decide) wf_C_23 rfl rfl d_C_loop_45 ?_
        refine qv_getN C in_P 1 rfl rfl 6 (by decide) wf_C_105 rfl rfl d_C_loop_48 ?_
        refine qv_iload_n C 1 d_C_loop_51 rfl rfl ?_
        refine qv_iald C 2 rfl (by omega) d_C_loop_52 ?_
        refine qv_iret C hrt hlk d_C_loop_53 ?_
        refine ⟨?_, rfl⟩
        rw [if_pos (by omega)]
      · refine qv_tabIn C d_C_loop_18 (by omega) (by omega) (by omega) (by rw [hs18]; rfl) (tgt := 54) (by decide) ?_
        refine qv_aload_n C 0 d_C_loop_54 rfl rfl ?_
        refine qv_get C in_C 0 rfl rfl 3 (by decide) wf_C_23 rfl rfl d_C_loop_55 ?_
        refine qv_getN C in_P 1 rfl rfl 7 (by decide) wf_C_108 rfl rfl d_C_loop_58 ?_
        refine qv_iload_n C 1 d_C_loop_61 rfl rfl ?_
        refine qv_iald C 3 rfl (by omega) d_C_loop_62 ?_
        refine qv_iret C hrt hlk d_C_loop_63 ?_
        refine ⟨?_, rfl⟩
        rw [if_neg (by omega), if_pos (by omega)]
      · refine qv_tabIn C d_C_loop_18 (by omega) (by omega) (by omega) (by rw [hs18]; rfl) (tgt := 64) (by decide) ?_
        refine qv_aload_n C 0 d_C_loop_64 rfl rfl ?_
        refine qv_get C in_C 0 rfl rfl 3 (by decide) wf_C_23 rfl rfl d_C_loop_65 ?_
        refine qv_getN C in_P 1 rfl rfl 8 (by decide) wf_C_111 rfl rfl d_C_loop_68 ?_
        refine qv_iload_n C 1 d_C_loop_71 rfl rfl ?_
        refine qv_iald C 4 rfl (by omega) d_C_loop_72 ?_
        refine qv_iret C hrt hlk d_C_loop_73 ?_
        refine ⟨?_, rfl⟩
        rw [if_neg (by omega), if_neg (by omega), if_pos (by omega)]
      · refine qv_tabOut C d_C_loop_18 (by omega) (by omega) (tgt := 74) (by decide) ?_
        refine qv_iconst C d_C_loop_74 ?_
        refine qv_iret C hrt hlk d_C_loop_75 ?_
        refine ⟨?_, rfl⟩
        rw [if_neg (by omega), if_neg (by omega), if_neg (by omega)]
    · refine qv_iconst C d_C_loop_15 ?_
      refine qv_iret C hrt hlk d_C_loop_16 ?_
      refine ⟨?_, rfl⟩
      rw [if_neg (by omega), if_neg (by omega), if_neg (by omega)]
set_option maxHeartbeats 4000000 in
set_option maxRecDepth 100000 in
theorem c_C_leaps (l : Launch) (G : qG) {o tx rd q m mb mk z : Nat} {tl on cn hd ps ss : Int} {p : Nat} {b : Int} (hb : 0 ≤ b ∧ b ≤ 1) : qM l G y_C_leaps b_C_leaps 2 none ({ frames := 0, cells := 0, slots := 0, locals := 0 }) [.ref o, .int (qI b)] [(o, .inr (4, [.ref tx, .int (qI tl), .ref rd, .ref p, .ref q, .ref m, .ref mb, .ref mk, .ref z, .int (qI on), .int (qI cn), .int (qI hd), .long (qL ps), .long (qL ss)]))] (fun v' ws' => v' = none ∧ ws' = [(o, .inr (4, [.ref tx, .int (qI tl), .ref rd, .ref p, .ref q, .ref m, .ref mb, .ref mk, .ref z, .int (qI b), .int (qI cn), .int (qI hd), .long (qL ps), .long (qL ss)]))]) := by
  refine qM.of (by decide) (Nat.le_of_ble_eq_true rfl) (fun xp xe xs xm xb xme xc A C hrt hlk hnm => ?_)
  refine qv_eq (lv' := [(0, .ref o), (1, .int (qI b))]) rfl rfl rfl ?_
  refine qv_aload_n C 0 d_C_leaps_0 rfl rfl ?_
  refine qv_iload_n C 1 d_C_leaps_1 rfl rfl ?_
  refine qv_put C in_C 0 rfl rfl 9 (by decide) t_C t_C_ok n_C wf_C_50 rfl rfl (t_C_ok 9 (by decide)) (qI_nb hb) (qI_fb hb) (Nat.le_of_ble_eq_true rfl) d_C_leaps_2 (ws' := [(o, .inr (4, [.ref tx, .int (qI tl), .ref rd, .ref p, .ref q, .ref m, .ref mb, .ref mk, .ref z, .int (qI b), .int (qI cn), .int (qI hd), .long (qL ps), .long (qL ss)]))]) rfl ?_
  refine qv_vret C hrt hlk d_C_leaps_5 ?_
  exact ⟨rfl, rfl⟩
set_option maxHeartbeats 4000000 in
set_option maxRecDepth 100000 in
theorem c_C_at (l : Launch) (G : qG) {o tx rd q m mb mk z : Nat} {tl on cn hd ps ss : Int}{mv p : Nat} {pl st : Int}  : qM l G y_C_at b_C_at 1 (some .int) ({ frames := 0, cells := 0, slots := 0, locals := 0 }) [.ref o] [(o, .inr (4, [.ref tx, .int (qI tl), .ref rd, .ref p, .ref q, .ref m, .ref mb, .ref mk, .ref z, .int (qI on), .int (qI cn), .int (qI hd), .long (qL ps), .long (qL ss)])), (m, .inr (0, [.ref mv, .int (qI pl), .long (qL st)]))] (fun v' ws' => v' = some (.int (qI pl)) ∧ ws' = [(o, .inr (4, [.ref tx, .int (qI tl), .ref rd, .ref p, .ref q, .ref m, .ref mb, .ref mk, .ref z, .int (qI on), .int (qI cn), .int (qI hd), .long (qL ps), .long (qL ss)])), (m, .inr (0, [.ref mv, .int (qI pl), .long (qL st)]))]) := by
  refine qM.of (by decide) (Nat.le_of_ble_eq_true rfl) (fun xp xe xs xm xb xme xc A C hrt hlk hnm => ?_)
  refine qv_eq (lv' := [(0, .ref o)]) rfl rfl rfl ?_
  refine qv_aload_n C 0 d_C_at_0 rfl rfl ?_
  refine qv_get C in_C 0 rfl rfl 5 (by decide) wf_C_33 rfl rfl d_C_at_1 ?_
  refine qv_getN C in_M 1 rfl rfl 1 (by decide) wf_C_173 rfl rfl d_C_at_4 ?_
  refine qv_iret C hrt hlk d_C_at_7 ?_
  exact ⟨rfl, rfl⟩
set_option maxHeartbeats 4000000 in
set_option maxRecDepth 100000 in
theorem c_C_steps (l : Launch) (G : qG) {o tx rd q m mb mk z : Nat} {tl on cn hd ps ss : Int}{mv p : Nat} {pl st : Int}  : qM l G y_C_steps b_C_steps 1 (some .long) ({ frames := 0, cells := 0, slots := 0, locals := 0 }) [.ref o] [(o, .inr (4, [.ref tx, .int (qI tl), .ref rd, .ref p, .ref q, .ref m, .ref mb, .ref mk, .ref z, .int (qI on), .int (qI cn), .int (qI hd), .long (qL ps), .long (qL ss)])), (m, .inr (0, [.ref mv, .int (qI pl), .long (qL st)]))] (fun v' ws' => v' = some (.long (qL st)) ∧ ws' = [(o, .inr (4, [.ref tx, .int (qI tl), .ref rd, .ref p, .ref q, .ref m, .ref mb, .ref mk, .ref z, .int (qI on), .int (qI cn), .int (qI hd), .long (qL ps), .long (qL ss)])), (m, .inr (0, [.ref mv, .int (qI pl), .long (qL st)]))]) := by
  refine qM.of (by decide) (Nat.le_of_ble_eq_true rfl) (fun xp xe xs xm xb xme xc A C hrt hlk hnm => ?_)
  refine qv_eq (lv' := [(0, .ref o)]) rfl rfl rfl ?_
  refine qv_aload_n C 0 d_C_steps_0 rfl rfl ?_
  refine qv_get C in_C 0 rfl rfl 5 (by decide) wf_C_33 rfl rfl d_C_steps_1 ?_
  refine qv_getN C in_M 1 rfl rfl 2 (by decide) wf_C_166 rfl rfl d_C_steps_4 ?_
  refine qv_lret C hrt hlk d_C_steps_7 ?_
  exact ⟨rfl, rfl⟩
set_option maxHeartbeats 4000000 in
set_option maxRecDepth 100000 in
theorem c_C_counter (l : Launch) (G : qG) {o tx rd q m mb mk z : Nat} {tl on cn hd ps ss : Int}{mv p : Nat} {pl st : Int} {c : Int} {v : Int → Int} (hc : -2147483648 ≤ c ∧ c ≤ 2147483647) : qM l G y_C_counter b_C_counter 2 (some .int) ({ frames := 0, cells := 0, slots := 0, locals := 0 }) [.ref o, .int (qI c)] [(o, .inr (4, [.ref tx, .int (qI tl), .ref rd, .ref p, .ref q, .ref m, .ref mb, .ref mk, .ref z, .int (qI on), .int (qI cn), .int (qI hd), .long (qL ps), .long (qL ss)])), (m, .inr (0, [.ref mv, .int (qI pl), .long (qL st)])), (mv, .inl (G.2.1, 8, .inl (qA v)))] (fun v' ws' => v' = some (.int (qI (if 0 ≤ c ∧ c < 8 then v c else -1))) ∧ ws' = [(o, .inr (4, [.ref tx, .int (qI tl), .ref rd, .ref p, .ref q, .ref m, .ref mb, .ref mk, .ref z, .int (qI on), .int (qI cn), .int (qI hd), .long (qL ps), .long (qL ss)])), (m, .inr (0, [.ref mv, .int (qI pl), .long (qL st)])), (mv, .inl (G.2.1, 8, .inl (qA v)))]) := by
  refine qM.of (by decide) (Nat.le_of_ble_eq_true rfl) (fun xp xe xs xm xb xme xc A C hrt hlk hnm => ?_)
  refine qv_eq (lv' := [(0, .ref o), (1, .int (qI c))]) rfl rfl rfl ?_
  refine qv_iload_n C 1 d_C_counter_0 rfl rfl ?_
  refine qv_if_lt C d_C_counter_1 (tgt := 10) (by decide) (by omega) (fun ht1 => ?_) (fun hf1 => ?_)
  · refine qv_iconst C d_C_counter_10 ?_
    refine qv_goto C d_C_counter_11 (by decide) (tgt := 23) ?_
    refine qv_iret C hrt hlk d_C_counter_23 ?_
    refine ⟨?_, rfl⟩
    rw [if_neg (by omega)]
  · refine qv_iload_n C 1 d_C_counter_4 rfl rfl ?_
    refine qv_bipush C d_C_counter_5 (by decide) ?_
    refine qv_icmp_lt C d_C_counter_7 (tgt := 14) (by decide) (by omega) (by omega) (fun ht7 => ?_) (fun hf7 => ?_)
    · refine qv_aload_n C 0 d_C_counter_14 rfl rfl ?_
      refine qv_get C in_C 0 rfl rfl 5 (by decide) wf_C_33 rfl rfl d_C_counter_15 ?_
      refine qv_getN C in_M 1 rfl rfl 0 (by decide) wf_C_117 rfl rfl d_C_counter_18 ?_
      refine qv_iload_n C 1 d_C_counter_21 rfl rfl ?_
      refine qv_iald C 2 rfl (by omega) d_C_counter_22 ?_
      refine qv_iret C hrt hlk d_C_counter_23 ?_
      refine ⟨?_, rfl⟩
      rw [if_pos (by omega)]
    · refine qv_iconst C d_C_counter_10 ?_
      refine qv_goto C d_C_counter_11 (by decide) (tgt := 23) ?_
      refine qv_iret C hrt hlk d_C_counter_23 ?_
      refine ⟨?_, rfl⟩
      rw [if_neg (by omega)]
set_option maxHeartbeats 4000000 in
set_option maxRecDepth 100000 in
theorem c_C_leap (l : Launch) (G : qG) {o tx rd q m mb mk z : Nat} {tl on cn hd ps ss : Int} {p : Nat} {w : Int} (hw : -2147483648 ≤ w ∧ w ≤ 2147483647) (hcn : 0 ≤ cn ∧ cn ≤ 1000000) (hhd : -2147483648 ≤ hd ∧ hd ≤ 2147483647) : qM l G y_C_leap b_C_leap 2 (some .long) ({ frames := 0, cells := 0, slots := 0, locals := 0 }) [.ref o, .int (qI w)] [(o, .inr (4, [.ref tx, .int (qI tl), .ref rd, .ref p, .ref q, .ref m, .ref mb, .ref mk, .ref z, .int (qI on), .int (qI cn), .int (qI hd), .long (qL ps), .long (qL ss)]))] (fun v' ws' => v' = some (.long (qL (if w = 0 then cn else if cn = 0 then -1 else if w = 1 then hd else if w = 2 then ps else if w = 3 then ss else -1))) ∧ ws' = [(o, .inr (4, [.ref tx, .int (qI tl), .ref rd, .ref p, .ref q, .ref m, .ref mb, .ref mk, .ref z, .int (qI on), .int (qI cn), .int (qI hd), .long (qL ps), .long (qL ss)]))]) := by
  refine qM.of (by decide) (Nat.le_of_ble_eq_true rfl) (fun xp xe xs xm xb xme xc A C hrt hlk hnm => ?_)
  refine qv_eq (lv' := [(0, .ref o), (1, .int (qI w))]) rfl rfl rfl ?_
  refine qv_iload_n C 1 d_C_leap_0 rfl rfl ?_
  refine qv_if_ne C d_C_leap_1 (tgt := 10) (by decide) (by omega) (fun ht1 => ?_) (fun hf1 => ?_)
  · refine qv_aload_n C 0 d_C_leap_10 rfl rfl ?_
    refine qv_get C in_C 0 rfl rfl 10 (by decide) wf_C_193 rfl rfl d_C_leap_11 ?_
    refine qv_if_ne C d_C_leap_14 (tgt := 21) (by decide) (by omega) (fun ht14 => ?_) (fun hf14 => ?_)
    · refine qv_iload_n C 1 d_C_leap_21 rfl rfl ?_
      rcases (show w = 1 ∨ w = 2 ∨ w = 3 ∨ (¬ w = 1 ∧ ¬ w = 2 ∧ ¬ w = 3) by omega) with hs22 | hs22 | hs22 | hs22
      · refine qv_tabIn C d_C_leap_22 (by omega) (by omega) (by omega) (by rw [hs22]; rfl) (tgt := 48) (by decide) ?_
        refine qv_aload_n C 0 d_C_leap_48 rfl rfl ?_
        refine qv_get C in_C 0 rfl rfl 11 (by decide) wf_C_198 rfl rfl d_C_leap_49 ?_
        refine qv_i2l C (by omega) d_C_leap_52 ?_
        refine qv_lret C hrt hlk d_C_leap_53 ?_
        refine ⟨?_, rfl⟩
        rw [if_neg (by omega), if_neg (by omega), if_pos (by omega)]
      · refine qv_tabIn C d_C_leap_22 (by omega) (by omega) (by omega) (by rw [hs22]; rfl) (tgt := 54) (by decide) ?_
        refine qv_aload_n C 0 d_C_leap_54 rfl rfl ?_
        refine qv_get C in_C 0 rfl rfl 12 (by decide) wf_C_201 rfl rfl d_C_leap_55 ?_
        refine qv_lret C hrt hlk d_C_leap_58 ?_
        refine ⟨?_, rfl⟩
        rw [if_neg (by omega), if_neg (by omega), if_neg (by omega), if_pos (by omega)]
      · refine qv_tabIn C d_C_leap_22 (by omega) (by omega) (by omega) (by rw [hs22]; rfl) (tgt := 59) (by decide) ?_
        refine qv_aload_n C 0 d_C_leap_59 rfl rfl ?_
        refine qv_get C in_C 0 rfl rfl 13 (by decide) wf_C_204 rfl rfl d_C_leap_60 ?_
        refine qv_lret C hrt hlk d_C_leap_63 ?_
        refine ⟨?_, rfl⟩
        rw [if_neg (by omega), if_neg (by omega), if_neg (by omega), if_neg (by omega), if_pos (by omega)]
      · refine qv_tabOut C d_C_leap_22 (by omega) (by omega) (tgt := 64) (by decide) ?_
        refine qv_ldc2 C (n := -1) wk_C_196 (by decide) d_C_leap_64 ?_
        refine qv_lret C hrt hlk d_C_leap_67 ?_
        refine ⟨?_, rfl⟩
        rw [if_neg (by omega), if_neg (by omega), if_neg (by omega), if_neg (by omega), if_neg (by omega)]
    · refine qv_ldc2 C (n := -1) wk_C_196 (by decide) d_C_leap_17 ?_
      refine qv_lret C hrt hlk d_C_leap_20 ?_
      refine ⟨?_, rfl⟩
      rw [if_neg (by omega), if_pos (by omega)]
  · refine qv_aload_n C 0 d_C_leap_4 rfl rfl ?_
    refine qv_get C in_C 0 rfl rfl 10 (by decide) wf_C_193 rfl rfl d_C_leap_5 ?_
    refine qv_i2l C (by omega) d_C_leap_8 ?_
    refine qv_lret C hrt hlk d_C_leap_9 ?_
    refine ⟨?_, rfl⟩
    rw [if_pos (by omega)]
set_option maxHeartbeats 4000000 in
set_option maxRecDepth 100000 in
theorem c_C_begin (l : Launch) (G : qG) {o tx rd q m mb mk z : Nat} {tl on cn hd ps ss : Int} {mv mbv p : Nat} {pl st pl2 st2 : Int} {v v2 : Int → Int} (ho : ∀ j : Int, ¬ (0 ≤ j ∧ j < 8) → v j = v2 j) : qM l G y_C_begin b_C_begin 1 none ({ frames := 2, cells := 0, slots := 0, locals := 61 }) [.ref o] [(o, .inr (4, [.ref tx, .int (qI tl), .ref rd, .ref p, .ref q, .ref m, .ref mb, .ref mk, .ref z, .int (qI on), .int (qI cn), .int (qI hd), .long (qL ps), .long (qL ss)])), (m, .inr (0, [.ref mv, .int (qI pl), .long (qL st)])), (mv, .inl (G.2.1, 8, .inl (qA v))), (mb, .inr (0, [.ref mbv, .int (qI pl2), .long (qL st2)])), (mbv, .inl (G.2.1, 8, .inl (qA v2)))] (fun v' ws' => v' = none ∧ ws' = [(o, .inr (4, [.ref tx, .int (qI tl), .ref rd, .ref p, .ref q, .ref m, .ref mb, .ref mk, .ref z, .int (qI on), .int (qI 0), .int (qI hd), .long (qL ps), .long (qL ss)])), (m, .inr (0, [.ref mv, .int (qI 0), .long (qL 0)])), (mv, .inl (G.2.1, 8, .inl (qA v))), (mb, .inr (0, [.ref mbv, .int (qI 0), .long (qL 0)])), (mbv, .inl (G.2.1, 8, .inl (qA v)))]) := by
  refine qM.of (by decide) (Nat.le_of_ble_eq_true rfl) (fun xp xe xs xm xb xme xc A C hrt hlk hnm => ?_)
  refine qv_eq (lv' := [(0, .ref o)]) rfl rfl rfl ?_
  refine qv_aload_n C 0 d_C_begin_0 rfl rfl ?_
  refine qv_get C in_C 0 rfl rfl 5 (by decide) wf_C_33 rfl rfl d_C_begin_1 ?_
  refine qv_iconst C d_C_begin_4 ?_
  refine qv_putN C in_M 1 rfl rfl 1 (by decide) t_M t_M_ok n_M wf_C_173 rfl rfl (t_M_ok 1 (by decide)) (rfl) (rfl) (Nat.le_of_ble_eq_true rfl) d_C_begin_5 (ws' := [(o, .inr (4, [.ref tx, .int (qI tl), .ref rd, .ref p, .ref q, .ref m, .ref mb, .ref mk, .ref z, .int (qI on), .int (qI cn), .int (qI hd), .long (qL ps), .long (qL ss)])), (m, .inr (0, [.ref mv, .int (qI 0), .long (qL st)])), (mv, .inl (G.2.1, 8, .inl (qA v))), (mb, .inr (0, [.ref mbv, .int (qI pl2), .long (qL st2)])), (mbv, .inl (G.2.1, 8, .inl (qA v2)))]) rfl ?_
  refine qv_aload_n C 0 d_C_begin_8 rfl rfl ?_
  refine qv_get C in_C 0 rfl rfl 5 (by decide) wf_C_33 rfl rfl d_C_begin_9 ?_
  refine qv_lconst C (z := 0) d_C_begin_12 (by decide) ?_
  refine qv_putN C in_M 1 rfl rfl 2 (by decide) t_M t_M_ok n_M wf_C_166 rfl rfl (t_M_ok 2 (by decide)) (rfl) (rfl) (Nat.le_of_ble_eq_true rfl) d_C_begin_13 (ws' := [(o, .inr (4, [.ref tx, .int (qI tl), .ref rd, .ref p, .ref q, .ref m, .ref mb, .ref mk, .ref z, .int (qI on), .int (qI cn), .int (qI hd), .long (qL ps), .long (qL ss)])), (m, .inr (0, [.ref mv, .int (qI 0), .long (qL 0)])), (mv, .inl (G.2.1, 8, .inl (qA v))), (mb, .inr (0, [.ref mbv, .int (qI pl2), .long (qL st2)])), (mbv, .inl (G.2.1, 8, .inl (qA v2)))]) rfl ?_
  refine qv_aload_n C 0 d_C_begin_16 rfl rfl ?_
  refine qv_get C in_C 0 rfl rfl 6 (by decide) wf_C_37 rfl rfl d_C_begin_17 ?_
  refine qv_aload_n C 0 d_C_begin_20 rfl rfl ?_
  refine qv_get C in_C 0 rfl rfl 5 (by decide) wf_C_33 rfl rfl d_C_begin_21 ?_
  refine qv_cVN (As := [.ref m]) (rest := []) (wc := [(mb, .inr (0, [.ref mbv, .int (qI pl2), .long (qL st2)])), (m, .inr (0, [.ref mv, .int (qI 0), .long (qL 0)])), (mbv, .inl (G.2.1, 8, .inl (qA v2))), (mv, .inl (G.2.1, 8, .inl (qA v)))]) (wr := [(o, .inr (4, [.ref tx, .int (qI tl), .ref rd, .ref p, .ref q, .ref m, .ref mb, .ref mk, .ref z, .int (qI on), .int (qI cn), .int (qI hd), .long (qL ps), .long (qL ss)]))]) C k_M_copyFrom (c_M_copyFrom l G ho) wm_C_153 wi_M_copyFrom ws_M_copyFrom 0 rfl rfl (by decide) d_C_begin_24 rfl rfl (Nat.le_of_ble_eq_true rfl) (by decide) [3, 1, 4, 2] [0] rfl (by decide) rfl (by decide) (by decide) (fun v ws' hpost => ?_)
  obtain ⟨rfl, rfl⟩ := hpost
  refine qv_eq (ws' := [(o, .inr (4, [.ref tx, .int (qI tl), .ref rd, .ref p, .ref q, .ref m, .ref mb, .ref mk, .ref z, .int (qI on), .int (qI cn), .int (qI hd), .long (qL ps), .long (qL ss)])), (mb, .inr (0, [.ref mbv, .int (qI 0), .long (qL 0)])), (m, .inr (0, [.ref mv, .int (qI 0), .long (qL 0)])), (mbv, .inl (G.2.1, 8, .inl (qA v))), (mv, .inl (G.2.1, 8, .inl (qA v)))]) (st' := []) rfl rfl rfl ?_
  refine qv_aload_n C 0 d_C_begin_27 rfl rfl ?_
  refine qv_iconst C d_C_begin_28 ?_
  refine qv_put C in_C 0 rfl rfl 10 (by decide) t_C t_C_ok n_C wf_C_193 rfl rfl (t_C_ok 10 (by decide)) (rfl) (rfl) (Nat.le_of_ble_eq_true rfl) d_C_begin_29 (ws' := [(o, .inr (4, [.ref tx, .int (qI tl), .ref rd, .ref p, .ref q, .ref m, .ref mb, .ref mk, .ref z, .int (qI on), .int (qI 0), .int (qI hd), .long (qL ps), .long (qL ss)])), (mb, .inr (0, [.ref mbv, .int (qI 0), .long (qL 0)])), (m, .inr (0, [.ref mv, .int (qI 0), .long (qL 0)])), (mbv, .inl (G.2.1, 8, .inl (qA v))), (mv, .inl (G.2.1, 8, .inl (qA v)))]) rfl ?_
  refine qv_ws (ws' := [(o, .inr (4, [.ref tx, .int (qI tl), .ref rd, .ref p, .ref q, .ref m, .ref mb, .ref mk, .ref z, .int (qI on), .int (qI 0), .int (qI hd), .long (qL ps), .long (qL ss)])), (m, .inr (0, [.ref mv, .int (qI 0), .long (qL 0)])), (mv, .inl (G.2.1, 8, .inl (qA v))), (mb, .inr (0, [.ref mbv, .int (qI 0), .long (qL 0)])), (mbv, .inl (G.2.1, 8, .inl (qA v)))]) [0, 2, 4, 1, 3] (by decide) rfl ?_
  refine qv_vret C hrt hlk d_C_begin_32 ?_
  exact ⟨rfl, rfl⟩
set_option maxHeartbeats 4000000 in
set_option maxRecDepth 100000 in
theorem c_C_passesUntil (l : Launch) (G : qG) {o tx rd q m mb mk z : Nat} {tl on cn hd ps ss : Int} {mv p pk pr pt pd pb ph pe pg zv zl zh zc zd : Nat} {pl st n lc fu len : Int} {k r t de lb lh le ld v w lo hi dr ch : Int → Int} {al : Int} (hpg : m_pg n lc k r t de lb lh le ld) (hv : m_vw v) (hz : m_zw fu len w lo hi dr ch) (hp : 0 ≤ pl ∧ pl ≤ n) (hs : 0 ≤ st ∧ st ≤ 1000000000000000) (hal : 0 ≤ al ∧ al ≤ 1000000000000000) : qM l G y_C_passesUntil b_C_passesUntil 4 (some .long) ({ frames := 4, cells := 0, slots := 0, locals := 116 }) [.ref o, .long (qL al)] [(o, .inr (4, [.ref tx, .int (qI tl), .ref rd, .ref p, .ref q, .ref m, .ref mb, .ref mk, .ref z, .int (qI on), .int (qI cn), .int (qI hd), .long (qL ps), .long (qL ss)])), (m, .inr (0, [.ref mv, .int (qI pl), .long (qL st)])), (mv, .inl (G.2.1, 8, .inl (qA v))), (p, .inr (2, [.ref pk, .ref pr, .ref pt, .int (qI n), .ref pd, .ref pb, .ref ph, .ref pe, .ref pg, .int (qI lc)])), (pk, .inl (G.2.1, 24, .inl (qA k))), (pr, .inl (G.2.1, 24, .inl (qA r))), (pd, .inl (G.2.1, 24, .inl (qA de))), (pb, .inl (G.2.1, 24, .inl (qA lb))), (ph, .inl (G.2.1, 24, .inl (qA lh))), (pe, .inl (G.2.1, 24, .inl (qA le))), (z, .inr (1, [.ref zv, .ref zl, .ref zh, .ref zc, .ref zd, .int (qI fu), .long (qL len)])), (zv, .inl (G.2.1, 8, .inl (qA w))), (zl, .inl (G.2.1, 8, .inl (qA lo))), (zh, .inl (G.2.1, 8, .inl (qA hi))), (zd, .inl (G.2.2.2.1, 8, .inl (qA dr))), (zc, .inl (G.2.1, 8, .inl (qA ch)))] (fun v' ws' => ∃ (x fu' len' : Int) (w' lo' hi' dr' ch' : Int → Int), v' = some (.long (qL x)) ∧ ws' = [(o, .inr (4, [.ref tx, .int (qI tl), .ref rd, .ref p, .ref q, .ref m, .ref mb, .ref mk, .ref z, .int (qI on), .int (qI cn), .int (qI hd), .long (qL ps), .long (qL ss)])), (m, .inr (0, [.ref mv, .int (qI pl), .long (qL st)])), (mv, .inl (G.2.1, 8, .inl (qA v))), (p, .inr (2, [.ref pk, .ref pr, .ref pt, .int (qI n), .ref pd, .ref pb, .ref ph, .ref pe, .ref pg, .int (qI lc)])), (pk, .inl (G.2.1, 24, .inl (qA k))), (pr, .inl (G.2.1, 24, .inl (qA r))), (pd, .inl (G.2.1, 24, .inl (qA de))), (pb, .inl (G.2.1, 24, .inl (qA lb))), (ph, .inl (G.2.1, 24, .inl (qA lh))), (pe, .inl (G.2.1, 24, .inl (qA le))), (z, .inr (1, [.ref zv, .ref zl, .ref zh, .ref zc, .ref zd, .int (qI fu'), .long (qL len')])), (zv, .inl (G.2.1, 8, .inl (qA w'))), (zl, .inl (G.2.1, 8, .inl (qA lo'))), (zh, .inl (G.2.1, 8, .inl (qA hi'))), (zd, .inl (G.2.2.2.1, 8, .inl (qA dr'))), (zc, .inl (G.2.1, 8, .inl (qA ch')))] ∧ m_zw fu' len' w' lo' hi' dr' ch' ∧ (0 ≤ x ∧ x ≤ 1000000000000000) ∧ x = m_pq n k r t de pl v (al - st) ∧ (0 < x → ∃ Y : m_S × (Int → Int) × Int, m_xp n k r t de pl v = some Y ∧ len' = m_ln (m_xp n k r t de pl v) ∧ ch' = m_dl (m_xp n k r t de pl v) v)) := by
  refine qM.of (by decide) (Nat.le_of_ble_eq_true rfl) (fun xp xe xs xm xb xme xc A C hrt hlk hnm => ?_)
  refine qv_eq (lv' := [(0, .ref o), (1, .long (qL al))]) rfl rfl rfl ?_
  obtain ⟨g1, g2, g3, g4, g5, g6, g7, g8, g9, g10⟩ := id hpg
  refine qv_aload_n C 0 d_C_passesUntil_0 rfl rfl ?_
  refine qv_get C in_C 0 rfl rfl 3 (by decide) wf_C_23 rfl rfl d_C_passesUntil_1 ?_
  refine qv_aload_n C 0 d_C_passesUntil_4 rfl rfl ?_
  refine qv_get C in_C 0 rfl rfl 5 (by decide) wf_C_33 rfl rfl d_C_passesUntil_5 ?_
  refine qv_getN C in_M 1 rfl rfl 1 (by decide) wf_C_173 rfl rfl d_C_passesUntil_8 ?_
  refine qv_cVN (As := [.int (qI pl)]) (rest := []) (wc := [(p, .inr (2, [.ref pk, .ref pr, .ref pt, .int (qI n), .ref pd, .ref pb, .ref ph, .ref pe, .ref pg, .int (qI lc)])), (pb, .inl (G.2.1, 24, .inl (qA lb)))]) (wr := [(o, .inr (4, [.ref tx, .int (qI tl), .ref rd, .ref p, .ref q, .ref m, .ref mb, .ref mk, .ref z, .int (qI on), .int (qI cn), .int (qI hd), .long (qL ps), .long (qL ss)])), (m, .inr (0, [.ref mv, .int (qI pl), .long (qL st)])), (mv, .inl (G.2.1, 8, .inl (qA v))), (pk, .inl (G.2.1, 24, .inl (qA k))), (pr, .inl (G.2.1, 24, .inl (qA r))), (pd, .inl (G.2.1, 24, .inl (qA de))), (ph, .inl (G.2.1, 24, .inl (qA lh))), (pe, .inl (G.2.1, 24, .inl (qA le))), (z, .inr (1, [.ref zv, .ref zl, .ref zh, .ref zc, .ref zd, .int (qI fu), .long (qL len)])), (zv, .inl (G.2.1, 8, .inl (qA w))), (zl, .inl (G.2.1, 8, .inl (qA lo))), (zh, .inl (G.2.1, 8, .inl (qA hi))), (zd, .inl (G.2.2.2.1, 8, .inl (qA dr))), (zc, .inl (G.2.1, 8, .inl (qA ch)))]) C k_P_loopFrom (c_P_loopFrom l G g1 (pl := pl) (by omega)) wm_C_207 wi_P_loopFrom ws_P_loopFrom 0 rfl rfl (by decide) d_C_passesUntil_11 rfl rfl (Nat.le_of_ble_eq_true rfl) (by decide) [3, 7] [0, 1, 2, 4, 5, 6, 8, 9, 10, 11, 12, 13, 14, 15] rfl (by decide) rfl (by decide) (by decide) (fun v ws' hpost => ?_)
  obtain ⟨rfl, k0, rfl, hk0⟩ := hpost
  refine qv_eq (ws' := [(o, .inr (4, [.ref tx, .int (qI tl), .ref rd, .ref p, .ref q, .ref m, .ref mb, .ref mk, .ref z, .int (qI on), .int (qI cn), .int (qI hd), .long (qL ps), .long (qL ss)])), (m, .inr (0, [.ref mv, .int (qI pl), .long (qL st)])), (mv, .inl (G.2.1, 8, .inl (qA v))), (pk, .inl (G.2.1, 24, .inl (qA k))), (pr, .inl (G.2.1, 24, .inl (qA r))), (pd, .inl (G.2.1, 24, .inl (qA de))), (ph, .inl (G.2.1, 24, .inl (qA lh))), (pe, .inl (G.2.1, 24, .inl (qA le))), (z, .inr (1, [.ref zv, .ref zl, .ref zh, .ref zc, .ref zd, .int (qI fu), .long (qL len)])), (zv, .inl (G.2.1, 8, .inl (qA w))), (zl, .inl (G.2.1, 8, .inl (qA lo))), (zh, .inl (G.2.1, 8, .inl (qA hi))), (zd, .inl (G.2.2.2.1, 8, .inl (qA dr))), (zc, .inl (G.2.1, 8, .inl (qA ch))), (p, .inr (2, [.ref pk, .ref pr, .ref pt, .int (qI n), .ref pd, .ref pb, .ref ph, .ref pe, .ref pg, .int (qI lc)])), (pb, .inl (G.2.1, 24, .inl (qA lb)))]) (st' := [.int (qI k0)]) rfl rfl rfl ?_
  have hlp : (¬ (0 ≤ pl ∧ pl < n ∧ 0 ≤ m_le n k t de pl) ∧ k0 = -1) ∨ ((0 ≤ pl ∧ pl < n) ∧ 0 ≤ m_le n k t de pl ∧ (0 ≤ k0 ∧ k0 < 24) ∧ lh k0 = pl ∧ le k0 = m_le n k t de pl) := by
    rcases hk0 with ⟨a, b⟩ | ⟨a, b⟩
    · exact Or.inl ⟨fun h => a ⟨h.1, h.2.1⟩, b⟩
    · obtain ⟨c1, c2⟩ := g9 pl a.1 a.2
      by_cases hle : 0 ≤ m_le n k t de pl
      · obtain ⟨d1, d2, d3, d4⟩ := c1 hle
        have hc := m_cn_le (m_le n k t de) pl.toNat
        refine Or.inr ⟨a, hle, ?_, ?_, ?_⟩
        · omega
        · rw [b, d1]; exact d2
        · rw [b, d1]; exact d3
      · exact Or.inl ⟨fun h => hle h.2.2, by rw [b]; exact c2 hle⟩
  refine qv_istore_n C d_C_passesUntil_14 rfl (by decide) (lv' := [(3, .int (qI k0)), (0, .ref o), (1, .long (qL al))]) rfl ?_
  refine qv_iload_n C 0 d_C_passesUntil_15 rfl rfl ?_
  refine qv_iconst C d_C_passesUntil_16 ?_
  refine qv_icmp_ne C d_C_passesUntil_17 (tgt := 22) (by decide) (by rcases hlp with h | h <;> omega) (by omega) (fun ht17 => ?_) (fun hf17 => ?_)
  · have hlq := hlp.resolve_left (fun h => by omega)
    have hmc := (m_le_cases n k t de pl).resolve_left (by omega)
    have hhe : 0 ≤ pl ∧ pl < m_le n k t de pl ∧ m_le n k t de pl < n := ⟨hlq.1.1, hmc.1, hmc.2.1⟩
    have hls : (m_ls n k de pl 24 pl 0).1 = m_le n k t de pl := hmc.2.2.symm
    have hoo : ∀ j : Int, ¬ (0 ≤ j ∧ j < 8) → w j = v j ∧ lo j = v j ∧ hi j = v j ∧ dr j = 0 ∧ ch j = 0 := fun j h => by obtain ⟨a, b, c, d, e⟩ := hz.2.2.2.2.2.2.2 j h; have f := hv.2 j h; exact ⟨a.trans f.symm, b.trans f.symm, c.trans f.symm, d, e⟩
    refine qv_aload_n C 1 d_C_passesUntil_22 rfl rfl ?_
    refine qv_get C in_C 0 rfl rfl 8 (by decide) wf_C_46 rfl rfl d_C_passesUntil_23 ?_
    refine qv_aload_n C 1 d_C_passesUntil_26 rfl rfl ?_
    refine qv_get C in_C 0 rfl rfl 3 (by decide) wf_C_23 rfl rfl d_C_passesUntil_27 ?_
    refine qv_iload_n C 0 d_C_passesUntil_30 rfl rfl ?_
    refine qv_aload_n C 1 d_C_passesUntil_31 rfl rfl ?_
    refine qv_get C in_C 0 rfl rfl 5 (by decide) wf_C_33 rfl rfl d_C_passesUntil_32 ?_
    refine qv_getN C in_M 1 rfl rfl 0 (by decide) wf_C_117 rfl rfl d_C_passesUntil_35 ?_
    refine qv_cVN (As := [.ref p, .int (qI k0), .ref mv]) (rest := []) (wc := [(z, .inr (1, [.ref zv, .ref zl, .ref zh, .ref zc, .ref zd, .int (qI fu), .long (qL len)])), (zv, .inl (G.2.1, 8, .inl (qA w))), (zl, .inl (G.2.1, 8, .inl (qA lo))), (zh, .inl (G.2.1, 8, .inl (qA hi))), (zd, .inl (G.2.2.2.1, 8, .inl (qA dr))), (zc, .inl (G.2.1, 8, .inl (qA ch))), (p, .inr (2, [.ref pk, .ref pr, .ref pt, .int (qI n), .ref pd, .ref pb, .ref ph, .ref pe, .ref pg, .int (qI lc)])), (pk, .inl (G.2.1, 24, .inl (qA k))), (pr, .inl (G.2.1, 24, .inl (qA r))), (pd, .inl (G.2.1, 24, .inl (qA de))), (ph, .inl (G.2.1, 24, .inl (qA lh))), (pe, .inl (G.2.1, 24, .inl (qA le))), (mv, .inl (G.2.1, 8, .inl (qA v)))]) (wr := [(o, .inr (4, [.ref tx, .int (qI tl), .ref rd, .ref p, .ref q, .ref m, .ref mb, .ref mk, .ref z, .int (qI on), .int (qI cn), .int (qI hd), .long (qL ps), .long (qL ss)])), (m, .inr (0, [.ref mv, .int (qI pl), .long (qL st)])), (pb, .inl (G.2.1, 24, .inl (qA lb)))]) C k_S_follow (c_S_follow l G (h := pl) (e := m_le n k t de pl) (k0 := k0) g1 g2 g3 g4 g7 (m_pg_de hpg) hlq.2.2.1 hlq.2.2.2.1 hlq.2.2.2.2 hhe hls hv.1 hoo) wm_C_181 wi_S_follow ws_S_follow 0 rfl rfl (by decide) d_C_passesUntil_38 rfl rfl (Nat.le_of_ble_eq_true rfl) (by decide) [8, 9, 10, 11, 12, 13, 14, 3, 4, 5, 6, 7, 2] [0, 1, 15] rfl (by decide) rfl (by decide) (by decide) (fun v ws' hpost => ?_)
    obtain ⟨fu', len', w', lo', hi', dr', rfl, rfl, hfin, hw', hlo', hhi', hdr', hout', hlen'⟩ := hpost
    refine qv_eq (ws' := [(o, .inr (4, [.ref tx, .int (qI tl), .ref rd, .ref p, .ref q, .ref m, .ref mb, .ref mk, .ref z, .int (qI on), .int (qI cn), .int (qI hd), .long (qL ps), .long (qL ss)])), (m, .inr (0, [.ref mv, .int (qI pl), .long (qL st)])), (pb, .inl (G.2.1, 24, .inl (qA lb))), (z, .inr (1, [.ref zv, .ref zl, .ref zh, .ref zc, .ref zd, .int (qI fu'), .long (qL (len' + 1))])), (zv, .inl (G.2.1, 8, .inl (qA w'))), (zl, .inl (G.2.1, 8, .inl (qA lo'))), (zh, .inl (G.2.1, 8, .inl (qA hi'))), (zd, .inl (G.2.2.2.1, 8, .inl (qA dr'))), (zc, .inl (G.2.1, 8, .inl (qA (fun c => w' c - v c)))), (p, .inr (2, [.ref pk, .ref pr, .ref pt, .int (qI n), .ref pd, .ref pb, .ref ph, .ref pe, .ref pg, .int (qI lc)])), (pk, .inl (G.2.1, 24, .inl (qA k))), (pr, .inl (G.2.1, 24, .inl (qA r))), (pd, .inl (G.2.1, 24, .inl (qA de))), (ph, .inl (G.2.1, 24, .inl (qA lh))), (pe, .inl (G.2.1, 24, .inl (qA le))), (mv, .inl (G.2.1, 8, .inl (qA v)))]) (st' := []) rfl rfl rfl ?_
    have hch' : ∀ c, -1000000 ≤ (fun c => w' c - v c) c ∧ (fun c => w' c - v c) c ≤ 1000000 := fun c => by have a := hw' c; have b := hv.1 c; dsimp only; omega
    have hfu' : 0 ≤ fu' ∧ fu' ≤ 1 := by rcases hfin with h | h <;> omega
    refine qv_aload_n C 1 d_C_passesUntil_41 rfl rfl ?_
    refine qv_get C in_C 0 rfl rfl 8 (by decide) wf_C_46 rfl rfl d_C_passesUntil_42 ?_
    refine qv_lload_n C 2 d_C_passesUntil_45 rfl rfl ?_
    refine qv_aload_n C 1 d_C_passesUntil_46 rfl rfl ?_
    refine qv_get C in_C 0 rfl rfl 5 (by decide) wf_C_33 rfl rfl d_C_passesUntil_47 ?_
    refine qv_getN C in_M 1 rfl rfl 2 (by decide) wf_C_166 rfl rfl d_C_passesUntil_50 ?_
    refine qv_lsub C d_C_passesUntil_53 ?_
    refine qv_cVN (As := [.long (qL (al - st))]) (rest := []) (wc := [(z, .inr (1, [.ref zv, .ref zl, .ref zh, .ref zc, .ref zd, .int (qI fu'), .long (qL (len' + 1))])), (zl, .inl (G.2.1, 8, .inl (qA lo'))), (zh, .inl (G.2.1, 8, .inl (qA hi'))), (zc, .inl (G.2.1, 8, .inl (qA (fun c => w' c - v c)))), (zd, .inl (G.2.2.2.1, 8, .inl (qA dr')))]) (wr := [(o, .inr (4, [.ref tx, .int (qI tl), .ref rd, .ref p, .ref q, .ref m, .ref mb, .ref mk, .ref z, .int (qI on), .int (qI cn), .int (qI hd), .long (qL ps), .long (qL ss)])), (m, .inr (0, [.ref mv, .int (qI pl), .long (qL st)])), (pb, .inl (G.2.1, 24, .inl (qA lb))), (zv, .inl (G.2.1, 8, .inl (qA w'))), (p, .inr (2, [.ref pk, .ref pr, .ref pt, .int (qI n), .ref pd, .ref pb, .ref ph, .ref pe, .ref pg, .int (qI lc)])), (pk, .inl (G.2.1, 24, .inl (qA k))), (pr, .inl (G.2.1, 24, .inl (qA r))), (pd, .inl (G.2.1, 24, .inl (qA de))), (ph, .inl (G.2.1, 24, .inl (qA lh))), (pe, .inl (G.2.1, 24, .inl (qA le))), (mv, .inl (G.2.1, 8, .inl (qA v)))]) C k_S_passesIn (c_S_passesIn l G (sl := al - st) (w := w') hlo' hhi' hch' hdr' hfu' (by omega) (by omega)) wm_C_185 wi_S_passesIn ws_S_passesIn 0 rfl rfl (by decide) d_C_passesUntil_54 rfl rfl (Nat.le_of_ble_eq_true rfl) (by decide) [3, 5, 6, 8, 7] [0, 1, 2, 4, 9, 10, 11, 12, 13, 14, 15] rfl (by decide) rfl (by decide) (by decide) (fun v ws' hpost => ?_)
    obtain ⟨rfl, xq, rfl, hxr, hxq⟩ := hpost
    refine qv_eq (ws' := [(o, .inr (4, [.ref tx, .int (qI tl), .ref rd, .ref p, .ref q, .ref m, .ref mb, .ref mk, .ref z, .int (qI on), .int (qI cn), .int (qI hd), .long (qL ps), .long (qL ss)])), (m, .inr (0, [.ref mv, .int (qI pl), .long (qL st)])), (pb, .inl (G.2.1, 24, .inl (qA lb))), (zv, .inl (G.2.1, 8, .inl (qA w'))), (p, .inr (2, [.ref pk, .ref pr, .ref pt, .int (qI n), .ref pd, .ref pb, .ref ph, .ref pe, .ref pg, .int (qI lc)])), (pk, .inl (G.2.1, 24, .inl (qA k))), (pr, .inl (G.2.1, 24, .inl (qA r))), (pd, .inl (G.2.1, 24, .inl (qA de))), (ph, .inl (G.2.1, 24, .inl (qA lh))), (pe, .inl (G.2.1, 24, .inl (qA le))), (mv, .inl (G.2.1, 8, .inl (qA v))), (z, .inr (1, [.ref zv, .ref zl, .ref zh, .ref zc, .ref zd, .int (qI fu'), .long (qL (len' + 1))])), (zl, .inl (G.2.1, 8, .inl (qA lo'))), (zh, .inl (G.2.1, 8, .inl (qA hi'))), (zc, .inl (G.2.1, 8, .inl (qA (fun c => w' c - v c)))), (zd, .inl (G.2.2.2.1, 8, .inl (qA dr')))]) (st' := [.long (qL xq)]) rfl rfl rfl ?_
    refine qv_ws (ws' := [(o, .inr (4, [.ref tx, .int (qI tl), .ref rd, .ref p, .ref q, .ref m, .ref mb, .ref mk, .ref z, .int (qI on), .int (qI cn), .int (qI hd), .long (qL ps), .long (qL ss)])), (m, .inr (0, [.ref mv, .int (qI pl), .long (qL st)])), (mv, .inl (G.2.1, 8, .inl (qA v))), (p, .inr (2, [.ref pk, .ref pr, .ref pt, .int (qI n), .ref pd, .ref pb, .ref ph, .ref pe, .ref pg, .int (qI lc)])), (pk, .inl (G.2.1, 24, .inl (qA k))), (pr, .inl (G.2.1, 24, .inl (qA r))), (pd, .inl (G.2.1, 24, .inl (qA de))), (pb, .inl (G.2.1, 24, .inl (qA lb))), (ph, .inl (G.2.1, 24, .inl (qA lh))), (pe, .inl (G.2.1, 24, .inl (qA le))), (z, .inr (1, [.ref zv, .ref zl, .ref zh, .ref zc, .ref zd, .int (qI fu'), .long (qL (len' + 1))])), (zv, .inl (G.2.1, 8, .inl (qA w'))), (zl, .inl (G.2.1, 8, .inl (qA lo'))), (zh, .inl (G.2.1, 8, .inl (qA hi'))), (zd, .inl (G.2.2.2.1, 8, .inl (qA dr'))), (zc, .inl (G.2.1, 8, .inl (qA (fun c => w' c - v c))))]) [0, 1, 10, 4, 5, 6, 7, 2, 8, 9, 11, 3, 12, 13, 15, 14] (by decide) rfl ?_
    refine qv_lret C hrt hlk d_C_passesUntil_57 ?_
    have hX : m_xp n k r t de pl v = m_px k r de pl (m_le n k t de pl) 24 pl (v, v, v) (fun _ => 0) 0 := by unfold m_xp; rw [if_pos ⟨hlq.1.1, hlq.1.2, hlq.2.1⟩]; rfl
    have hnp := m_np_eq (v := v) (sl := al - st) (by rw [← hX] at hfin; exact hfin) hxq hlen'.1
    refine ⟨xq, fu', len' + 1, w', lo', hi', dr', _, rfl, rfl, ?_, hxr, hnp.1, fun h => ?_⟩
    · exact ⟨hfu', by omega, hw', hlo', hhi', hdr', hch', fun c h => by have a := hout' c h; have b := hv.2 c h; refine ⟨a.1.trans b, a.2.1.trans b, a.2.2.1.trans b, a.2.2.2, ?_⟩; dsimp only; rw [a.1]; omega⟩
    · refine ⟨_, hnp.2 h, ?_, ?_⟩
      · rw [hnp.2 h]; rfl
      · rw [hnp.2 h]; rfl
  · refine qv_lconst C (z := 0) d_C_passesUntil_20 (by decide) ?_
    refine qv_ws (ws' := [(o, .inr (4, [.ref tx, .int (qI tl), .ref rd, .ref p, .ref q, .ref m, .ref mb, .ref mk, .ref z, .int (qI on), .int (qI cn), .int (qI hd), .long (qL ps), .long (qL ss)])), (m, .inr (0, [.ref mv, .int (qI pl), .long (qL st)])), (mv, .inl (G.2.1, 8, .inl (qA v))), (p, .inr (2, [.ref pk, .ref pr, .ref pt, .int (qI n), .ref pd, .ref pb, .ref ph, .ref pe, .ref pg, .int (qI lc)])), (pk, .inl (G.2.1, 24, .inl (qA k))), (pr, .inl (G.2.1, 24, .inl (qA r))), (pd, .inl (G.2.1, 24, .inl (qA de))), (pb, .inl (G.2.1, 24, .inl (qA lb))), (ph, .inl (G.2.1, 24, .inl (qA lh))), (pe, .inl (G.2.1, 24, .inl (qA le))), (z, .inr (1, [.ref zv, .ref zl, .ref zh, .ref zc, .ref zd, .int (qI fu), .long (qL len)])), (zv, .inl (G.2.1, 8, .inl (qA w))), (zl, .inl (G.2.1, 8, .inl (qA lo))), (zh, .inl (G.2.1, 8, .inl (qA hi))), (zd, .inl (G.2.2.2.1, 8, .inl (qA dr))), (zc, .inl (G.2.1, 8, .inl (qA ch)))]) [0, 1, 2, 14, 3, 4, 5, 15, 6, 7, 8, 9, 10, 11, 12, 13] (by decide) rfl ?_
    refine qv_lret C hrt hlk d_C_passesUntil_21 ?_
    refine ⟨0, fu, len, w, lo, hi, dr, ch, rfl, rfl, hz, by omega, ?_, fun h => by omega⟩
    unfold m_pq m_xp
    rw [if_neg (hlp.resolve_right (fun h => by omega)).1]
    rfl
set_option maxHeartbeats 4000000 in
set_option maxRecDepth 100000 in
theorem c_C_stateWith (l : Launch) (G : qG) {o tx rd q m mb mk z : Nat} {tl on cn hd ps ss : Int} {mv p pk pr pt pd pb ph pe pg zv zl zh zc zd : Nat} {pl st n lc fu len qq : Int} {k r v ch : Int → Int} (hn : 0 ≤ n ∧ n ≤ 24) (hp : 0 ≤ pl ∧ pl ≤ n) (hk : ∀ i, 0 ≤ k i ∧ k i ≤ 3) (hr : ∀ i, 0 ≤ i → i < n → k i = 0 ∨ k i = 1 → 0 ≤ r i ∧ r i ≤ 7) (hs : 0 ≤ st ∧ st ≤ 1000000000000000) (hv : ∀ c, 0 ≤ v c ∧ v c ≤ 1000000) (hq : 0 ≤ qq ∧ qq ≤ 1000000000000000) (hch : ∀ c, -1000000 ≤ ch c ∧ ch c ≤ 1000000) : qM l G y_C_stateWith b_C_stateWith 3 (some .int) ({ frames := 2, cells := 0, slots := 0, locals := 43 }) [.ref o, .long (qL qq)] [(o, .inr (4, [.ref tx, .int (qI tl), .ref rd, .ref p, .ref q, .ref m, .ref mb, .ref mk, .ref z, .int (qI on), .int (qI cn), .int (qI hd), .long (qL ps), .long (qL ss)])), (m, .inr (0, [.ref mv, .int (qI pl), .long (qL st)])), (p, .inr (2, [.ref pk, .ref pr, .ref pt, .int (qI n), .ref pd, .ref pb, .ref ph, .ref pe, .ref pg, .int (qI lc)])), (pk, .inl (G.2.1, 24, .inl (qA k))), (pr, .inl (G.2.1, 24, .inl (qA r))), (mv, .inl (G.2.1, 8, .inl (qA v))), (z, .inr (1, [.ref zv, .ref zl, .ref zh, .ref zc, .ref zd, .int (qI fu), .long (qL len)])), (zc, .inl (G.2.1, 8, .inl (qA ch)))] (fun v' ws' => ws' = [(o, .inr (4, [.ref tx, .int (qI tl), .ref rd, .ref p, .ref q, .ref m, .ref mb, .ref mk, .ref z, .int (qI on), .int (qI cn), .int (qI hd), .long (qL ps), .long (qL ss)])), (m, .inr (0, [.ref mv, .int (qI pl), .long (qL st)])), (p, .inr (2, [.ref pk, .ref pr, .ref pt, .int (qI n), .ref pd, .ref pb, .ref ph, .ref pe, .ref pg, .int (qI lc)])), (pk, .inl (G.2.1, 24, .inl (qA k))), (pr, .inl (G.2.1, 24, .inl (qA r))), (mv, .inl (G.2.1, 8, .inl (qA v))), (z, .inr (1, [.ref zv, .ref zl, .ref zh, .ref zc, .ref zd, .int (qI fu), .long (qL len)])), (zc, .inl (G.2.1, 8, .inl (qA ch)))] ∧ ∃ x : Int, v' = some (.int (qI x)) ∧ ((x = 1 ∧ (n ≤ pl ∨ k pl = 3)) ∨ (x = 2 ∧ (pl < n ∧ ¬ k pl = 3) ∧ ((k pl = 0 ∧ 1000000 ≤ v (r pl)) ∨ 1000000000000000 ≤ st)) ∨ (x = 3 ∧ (pl < n ∧ ¬ k pl = 3) ∧ ¬ ((k pl = 0 ∧ 1000000 ≤ v (r pl)) ∨ 1000000000000000 ≤ st) ∧ 0 < qq ∧ (∀ c, 0 ≤ c → c < 8 → ch c = 0)) ∨ (x = 0 ∧ (pl < n ∧ ¬ k pl = 3) ∧ ¬ ((k pl = 0 ∧ 1000000 ≤ v (r pl)) ∨ 1000000000000000 ≤ st) ∧ ¬ (0 < qq ∧ (∀ c, 0 ≤ c → c < 8 → ch c = 0))))) := by
  refine qM.of (by decide) (Nat.le_of_ble_eq_true rfl) (fun xp xe xs xm xb xme xc A C hrt hlk hnm => ?_)
  refine qv_eq (lv' := [(0, .ref o), (1, .long (qL qq))]) rfl rfl rfl ?_
  refine qv_aload_n C 0 d_C_stateWith_0 rfl rfl ?_
  refine qv_get C in_C 0 rfl rfl 5 (by decide) wf_C_33 rfl rfl d_C_stateWith_1 ?_
  refine qv_aload_n C 0 d_C_stateWith_4 rfl rfl ?_
  refine qv_get C in_C 0 rfl rfl 3 (by decide) wf_C_23 rfl rfl d_C_stateWith_5 ?_
  refine qv_cVN (As := [.ref p]) (rest := []) (wc := [(m, .inr (0, [.ref mv, .int (qI pl), .long (qL st)])), (p, .inr (2, [.ref pk, .ref pr, .ref pt, .int (qI n), .ref pd, .ref pb, .ref ph, .ref pe, .ref pg, .int (qI lc)])), (pk, .inl (G.2.1, 24, .inl (qA k)))]) (wr := [(o, .inr (4, [.ref tx, .int (qI tl), .ref rd, .ref p, .ref q, .ref m, .ref mb, .ref mk, .ref z, .int (qI on), .int (qI cn), .int (qI hd), .long (qL ps), .long (qL ss)])), (pr, .inl (G.2.1, 24, .inl (qA r))), (mv, .inl (G.2.1, 8, .inl (qA v))), (z, .inr (1, [.ref zv, .ref zl, .ref zh, .ref zc, .ref zd, .int (qI fu), .long (qL len)])), (zc, .inl (G.2.1, 8, .inl (qA ch)))]) C k_M_isHalted (c_M_isHalted l G hn hp hk) wm_C_170 wi_M_isHalted ws_M_isHalted 0 rfl rfl (by decide) d_C_stateWith_8 rfl rfl (Nat.le_of_ble_eq_true rfl) (by decide) [1, 2, 3] [0, 4, 5, 6, 7] rfl (by decide) rfl (by decide) (by decide) (fun v ws' hpost => ?_)
  obtain ⟨rfl, xh, rfl, hxh⟩ := hpost
  refine qv_eq (ws' := [(o, .inr (4, [.ref tx, .int (qI tl), .ref rd, .ref p, .ref q, .ref m, .ref mb, .ref mk, .ref z, .int (qI on), .int (qI cn), .int (qI hd), .long (qL ps), .long (qL ss)])), (pr, .inl (G.2.1, 24, .inl (qA r))), (mv, .inl (G.2.1, 8, .inl (qA v))), (z, .inr (1, [.ref zv, .ref zl, .ref zh, .ref zc, .ref zd, .int (qI fu), .long (qL len)])), (zc, .inl (G.2.1, 8, .inl (qA ch))), (m, .inr (0, [.ref mv, .int (qI pl), .long (qL st)])), (p, .inr (2, [.ref pk, .ref pr, .ref pt, .int (qI n), .ref pd, .ref pb, .ref ph, .ref pe, .ref pg, .int (qI lc)])), (pk, .inl (G.2.1, 24, .inl (qA k)))]) (st' := [.int (qI xh)]) rfl rfl rfl ?_
  refine qv_if_eq C d_C_stateWith_11 (tgt := 16) (by decide) (by omega) (fun ht11 => ?_) (fun hf11 => ?_)
  · refine qv_aload_n C 0 d_C_stateWith_16 rfl rfl ?_
    refine qv_get C in_C 0 rfl rfl 5 (by decide) wf_C_33 rfl rfl d_C_stateWith_17 ?_
    refine qv_aload_n C 0 d_C_stateWith_20 rfl rfl ?_
    refine qv_get C in_C 0 rfl rfl 3 (by decide) wf_C_23 rfl rfl d_C_stateWith_21 ?_
    refine qv_cVN (As := [.ref p]) (rest := []) (wc := [(m, .inr (0, [.ref mv, .int (qI pl), .long (qL st)])), (p, .inr (2, [.ref pk, .ref pr, .ref pt, .int (qI n), .ref pd, .ref pb, .ref ph, .ref pe, .ref pg, .int (qI lc)])), (pk, .inl (G.2.1, 24, .inl (qA k))), (pr, .inl (G.2.1, 24, .inl (qA r))), (mv, .inl (G.2.1, 8, .inl (qA v)))]) (wr := [(o, .inr (4, [.ref tx, .int (qI tl), .ref rd, .ref p, .ref q, .ref m, .ref mb, .ref mk, .ref z, .int (qI on), .int (qI cn), .int (qI hd), .long (qL ps), .long (qL ss)])), (z, .inr (1, [.ref zv, .ref zl, .ref zh, .ref zc, .ref zd, .int (qI fu), .long (qL len)])), (zc, .inl (G.2.1, 8, .inl (qA ch)))]) C k_M_isStuck (c_M_isStuck l G hn hp hk hr hs hv) wm_C_211 wi_M_isStuck ws_M_isStuck 0 rfl rfl (by decide) d_C_stateWith_24 rfl rfl (Nat.le_of_ble_eq_true rfl) (by decide) [5, 6, 7, 1, 2] [0, 3, 4] rfl (by decide) rfl (by decide) (by decide) (fun v ws' hpost => ?_)
    obtain ⟨rfl, xk, rfl, hxk⟩ := hpost
    refine qv_eq (ws' := [(o, .inr (4, [.ref tx, .int (qI tl), .ref rd, .ref p, .ref q, .ref m, .ref mb, .ref mk, .ref z, .int (qI on), .int (qI cn), .int (qI hd), .long (qL ps), .long (qL ss)])), (z, .inr (1, [.ref zv, .ref zl, .ref zh, .ref zc, .ref zd, .int (qI fu), .long (qL len)])), (zc, .inl (G.2.1, 8, .inl (qA ch))), (m, .inr (0, [.ref mv, .int (qI pl), .long (qL st)])), (p, .inr (2, [.ref pk, .ref pr, .ref pt, .int (qI n), .ref pd, .ref pb, .ref ph, .ref pe, .ref pg, .int (qI lc)])), (pk, .inl (G.2.1, 24, .inl (qA k))), (pr, .inl (G.2.1, 24, .inl (qA r))), (mv, .inl (G.2.1, 8, .inl (qA v)))]) (st' := [.int (qI xk)]) rfl rfl rfl ?_
    refine qv_if_eq C d_C_stateWith_27 (tgt := 32) (by decide) (by omega) (fun ht27 => ?_) (fun hf27 => ?_)
    · have hNS : (pl < n ∧ ¬ k pl = 3) ∧ ¬ ((k pl = 0 ∧ 1000000 ≤ v (r pl)) ∨ 1000000000000000 ≤ st) := ⟨by omega, by omega⟩
      refine qv_lload_n C 1 d_C_stateWith_32 rfl rfl ?_
      refine qv_lconst C (z := 0) d_C_stateWith_33 (by decide) ?_
      refine qv_lcmp_le C d_C_stateWith_34 d_C_stateWith_35 (tgt := 52) (by decide) (by omega) (by omega) (fun ht34 => ?_) (fun hf34 => ?_)
      · refine qv_iconst C d_C_stateWith_52 ?_
        refine qv_ws (ws' := [(o, .inr (4, [.ref tx, .int (qI tl), .ref rd, .ref p, .ref q, .ref m, .ref mb, .ref mk, .ref z, .int (qI on), .int (qI cn), .int (qI hd), .long (qL ps), .long (qL ss)])), (m, .inr (0, [.ref mv, .int (qI pl), .long (qL st)])), (p, .inr (2, [.ref pk, .ref pr, .ref pt, .int (qI n), .ref pd, .ref pb, .ref ph, .ref pe, .ref pg, .int (qI lc)])), (pk, .inl (G.2.1, 24, .inl (qA k))), (pr, .inl (G.2.1, 24, .inl (qA r))), (mv, .inl (G.2.1, 8, .inl (qA v))), (z, .inr (1, [.ref zv, .ref zl, .ref zh, .ref zc, .ref zd, .int (qI fu), .long (qL len)])), (zc, .inl (G.2.1, 8, .inl (qA ch)))]) [0, 3, 4, 5, 6, 7, 1, 2] (by decide) rfl ?_
        refine qv_iret C hrt hlk d_C_stateWith_53 ?_
        refine ⟨rfl, 0, rfl, Or.inr (Or.inr (Or.inr ⟨rfl, hNS.1, hNS.2, ?_⟩))⟩
        rintro ⟨a, b⟩
        first | omega | (obtain ⟨c, d1, d2, d3⟩ := (hxc.resolve_left (fun h => by omega)).2; exact d3 (b c d1 d2))
      · refine qv_aload_n C 0 d_C_stateWith_38 rfl rfl ?_
        refine qv_get C in_C 0 rfl rfl 8 (by decide) wf_C_46 rfl rfl d_C_stateWith_39 ?_
        refine qv_cVN (As := []) (rest := []) (wc := [(z, .inr (1, [.ref zv, .ref zl, .ref zh, .ref zc, .ref zd, .int (qI fu), .long (qL len)])), (zc, .inl (G.2.1, 8, .inl (qA ch)))]) (wr := [(o, .inr (4, [.ref tx, .int (qI tl), .ref rd, .ref p, .ref q, .ref m, .ref mb, .ref mk, .ref z, .int (qI on), .int (qI cn), .int (qI hd), .long (qL ps), .long (qL ss)])), (m, .inr (0, [.ref mv, .int (qI pl), .long (qL st)])), (p, .inr (2, [.ref pk, .ref pr, .ref pt, .int (qI n), .ref pd, .ref pb, .ref ph, .ref pe, .ref pg, .int (qI lc)])), (pk, .inl (G.2.1, 24, .inl (qA k))), (pr, .inl (G.2.1, 24, .inl (qA r))), (mv, .inl (G.2.1, 8, .inl (qA v)))]) C k_S_changesNothing (c_S_changesNothing l G hch) wm_C_214 wi_S_changesNothing ws_S_changesNothing 0 rfl rfl (by decide) d_C_stateWith_42 rfl rfl (Nat.le_of_ble_eq_true rfl) (by decide) [1, 2] [0, 3, 4, 5, 6, 7] rfl (by decide) rfl (by decide) (by decide) (fun v ws' hpost => ?_)
        obtain ⟨rfl, xc, rfl, hxc⟩ := hpost
        refine qv_eq (ws' := [(o, .inr (4, [.ref tx, .int (qI tl), .ref rd, .ref p, .ref q, .ref m, .ref mb, .ref mk, .ref z, .int (qI on), .int (qI cn), .int (qI hd), .long (qL ps), .long (qL ss)])), (m, .inr (0, [.ref mv, .int (qI pl), .long (qL st)])), (p, .inr (2, [.ref pk, .ref pr, .ref pt, .int (qI n), .ref pd, .ref pb, .ref ph, .ref pe, .ref pg, .int (qI lc)])), (pk, .inl (G.2.1, 24, .inl (qA k))), (pr, .inl (G.2.1, 24, .inl (qA r))), (mv, .inl (G.2.1, 8, .inl (qA v))), (z, .inr (1, [.ref zv, .ref zl, .ref zh, .ref zc, .ref zd, .int (qI fu), .long (qL len)])), (zc, .inl (G.2.1, 8, .inl (qA ch)))]) (st' := [.int (qI xc)]) rfl rfl rfl ?_
        refine qv_if_eq C d_C_stateWith_45 (tgt := 52) (by decide) (by rcases hxc with h | h <;> omega) (fun ht45 => ?_) (fun hf45 => ?_)
        · refine qv_iconst C d_C_stateWith_52 ?_
          refine qv_iret C hrt hlk d_C_stateWith_53 ?_
          refine ⟨rfl, 0, rfl, Or.inr (Or.inr (Or.inr ⟨rfl, hNS.1, hNS.2, ?_⟩))⟩
          rintro ⟨a, b⟩
          first | omega | (obtain ⟨c, d1, d2, d3⟩ := (hxc.resolve_left (fun h => by omega)).2; exact d3 (b c d1 d2))
        · refine qv_iconst C d_C_stateWith_48 ?_
          refine qv_goto C d_C_stateWith_49 (by decide) (tgt := 53) ?_
          refine qv_iret C hrt hlk d_C_stateWith_53 ?_
          exact ⟨rfl, 3, rfl, Or.inr (Or.inr (Or.inl ⟨rfl, hNS.1, hNS.2, by omega, (hxc.resolve_right (fun h => by omega)).2⟩))⟩
    · refine qv_iconst C d_C_stateWith_30 ?_
      refine qv_ws (ws' := [(o, .inr (4, [.ref tx, .int (qI tl), .ref rd, .ref p, .ref q, .ref m, .ref mb, .ref mk, .ref z, .int (qI on), .int (qI cn), .int (qI hd), .long (qL ps), .long (qL ss)])), (m, .inr (0, [.ref mv, .int (qI pl), .long (qL st)])), (p, .inr (2, [.ref pk, .ref pr, .ref pt, .int (qI n), .ref pd, .ref pb, .ref ph, .ref pe, .ref pg, .int (qI lc)])), (pk, .inl (G.2.1, 24, .inl (qA k))), (pr, .inl (G.2.1, 24, .inl (qA r))), (mv, .inl (G.2.1, 8, .inl (qA v))), (z, .inr (1, [.ref zv, .ref zl, .ref zh, .ref zc, .ref zd, .int (qI fu), .long (qL len)])), (zc, .inl (G.2.1, 8, .inl (qA ch)))]) [0, 3, 4, 5, 6, 7, 1, 2] (by decide) rfl ?_
      refine qv_iret C hrt hlk d_C_stateWith_31 ?_
      exact ⟨rfl, 2, rfl, Or.inr (Or.inl ⟨rfl, by omega, by omega⟩)⟩
  · refine qv_iconst C d_C_stateWith_14 ?_
    refine qv_ws (ws' := [(o, .inr (4, [.ref tx, .int (qI tl), .ref rd, .ref p, .ref q, .ref m, .ref mb, .ref mk, .ref z, .int (qI on), .int (qI cn), .int (qI hd), .long (qL ps), .long (qL ss)])), (m, .inr (0, [.ref mv, .int (qI pl), .long (qL st)])), (p, .inr (2, [.ref pk, .ref pr, .ref pt, .int (qI n), .ref pd, .ref pb, .ref ph, .ref pe, .ref pg, .int (qI lc)])), (pk, .inl (G.2.1, 24, .inl (qA k))), (pr, .inl (G.2.1, 24, .inl (qA r))), (mv, .inl (G.2.1, 8, .inl (qA v))), (z, .inr (1, [.ref zv, .ref zl, .ref zh, .ref zc, .ref zd, .int (qI fu), .long (qL len)])), (zc, .inl (G.2.1, 8, .inl (qA ch)))]) [0, 5, 6, 7, 1, 2, 3, 4] (by decide) rfl ?_
    refine qv_iret C hrt hlk d_C_stateWith_15 ?_
    exact ⟨rfl, 1, rfl, Or.inl ⟨rfl, by omega⟩⟩
set_option maxHeartbeats 4000000 in
set_option maxRecDepth 100000 in
theorem c_C_move (l : Launch) (G : qG) {o tx rd q m mb mk z : Nat} {tl on cn hd ps ss : Int} {mv p pk pr pt pd pb ph pe pg zv zl zh zc zd : Nat} {pl st n lc fu len qq : Int} {k r t v ch : Int → Int} (hn : 0 ≤ n ∧ n ≤ 24) (hp : 0 ≤ pl ∧ pl ≤ n) (hk : ∀ i, 0 ≤ k i ∧ k i ≤ 3) (hr : ∀ i, 0 ≤ i → i < n → k i = 0 ∨ k i = 1 → 0 ≤ r i ∧ r i ≤ 7) (hs : 0 ≤ st ∧ st ≤ 1000000000000000) (hv : ∀ c, 0 ≤ v c ∧ v c ≤ 1000000) (hq : 0 ≤ qq ∧ qq ≤ 1000000000000000) (hch : ∀ c, -1000000 ≤ ch c ∧ ch c ≤ 1000000) (hN : (pl < n ∧ ¬ k pl = 3)) (hS : ¬ ((k pl = 0 ∧ 1000000 ≤ v (r pl)) ∨ 1000000000000000 ≤ st)) (hon : 0 ≤ on ∧ on ≤ 1) : qM l G y_C_move b_C_move 3 none ({ frames := 4, cells := 0, slots := 0, locals := 87 }) [.ref o, .long (qL qq)] [(o, .inr (4, [.ref tx, .int (qI tl), .ref rd, .ref p, .ref q, .ref m, .ref mb, .ref mk, .ref z, .int (qI on), .int (qI cn), .int (qI hd), .long (qL ps), .long (qL ss)])), (m, .inr (0, [.ref mv, .int (qI pl), .long (qL st)])), (p, .inr (2, [.ref pk, .ref pr, .ref pt, .int (qI n), .ref pd, .ref pb, .ref ph, .ref pe, .ref pg, .int (qI lc)])), (pk, .inl (G.2.1, 24, .inl (qA k))), (pr, .inl (G.2.1, 24, .inl (qA r))), (mv, .inl (G.2.1, 8, .inl (qA v))), (pt, .inl (G.2.1, 24, .inl (qA t))), (z, .inr (1, [.ref zv, .ref zl, .ref zh, .ref zc, .ref zd, .int (qI fu), .long (qL len)])), (zc, .inl (G.2.1, 8, .inl (qA ch)))] (fun v' ws' => v' = none ∧ (((on = 1 ∧ 0 < qq) ∧ ws' = [(o, .inr (4, [.ref tx, .int (qI tl), .ref rd, .ref p, .ref q, .ref m, .ref mb, .ref mk, .ref z, .int (qI on), .int (qI (cn + 1)), .int (qI pl), .long (qL qq), .long (qL len)])), (m, .inr (0, [.ref mv, .int (qI pl), .long (qL (st + qq * len))])), (p, .inr (2, [.ref pk, .ref pr, .ref pt, .int (qI n), .ref pd, .ref pb, .ref ph, .ref pe, .ref pg, .int (qI lc)])), (pk, .inl (G.2.1, 24, .inl (qA k))), (pr, .inl (G.2.1, 24, .inl (qA r))), (mv, .inl (G.2.1, 8, .inl (qA (m_lf v ch qq 8)))), (pt, .inl (G.2.1, 24, .inl (qA t))), (z, .inr (1, [.ref zv, .ref zl, .ref zh, .ref zc, .ref zd, .int (qI fu), .long (qL len)])), (zc, .inl (G.2.1, 8, .inl (qA ch)))]) ∨ (¬ (on = 1 ∧ 0 < qq) ∧ ws' = [(o, .inr (4, [.ref tx, .int (qI tl), .ref rd, .ref p, .ref q, .ref m, .ref mb, .ref mk, .ref z, .int (qI on), .int (qI cn), .int (qI hd), .long (qL ps), .long (qL ss)])), (m, .inr (0, [.ref mv, .int (qI (m_sp k r t pl v)), .long (qL (st + 1))])), (p, .inr (2, [.ref pk, .ref pr, .ref pt, .int (qI n), .ref pd, .ref pb, .ref ph, .ref pe, .ref pg, .int (qI lc)])), (pk, .inl (G.2.1, 24, .inl (qA k))), (pr, .inl (G.2.1, 24, .inl (qA r))), (mv, .inl (G.2.1, 8, .inl (qA (m_sv k r pl v)))), (pt, .inl (G.2.1, 24, .inl (qA t))), (z, .inr (1, [.ref zv, .ref zl, .ref zh, .ref zc, .ref zd, .int (qI fu), .long (qL len)])), (zc, .inl (G.2.1, 8, .inl (qA ch)))]))) := by
  refine qM.of (by decide) (Nat.le_of_ble_eq_true rfl) (fun xp xe xs xm xb xme xc A C hrt hlk hnm => ?_)
  refine qv_eq (lv' := [(0, .ref o), (1, .long (qL qq))]) rfl rfl rfl ?_
  refine qv_aload_n C 0 d_C_move_0 rfl rfl ?_
  refine qv_get C in_C 0 rfl rfl 9 (by decide) wf_C_50 rfl rfl d_C_move_1 ?_
  refine qv_if_eq C d_C_move_4 (tgt := 65) (by decide) (by omega) (fun ht4 => ?_) (fun hf4 => ?_)
  · refine qv_aload_n C 0 d_C_move_65 rfl rfl ?_
    refine qv_get C in_C 0 rfl rfl 5 (by decide) wf_C_33 rfl rfl d_C_move_66 ?_
    refine qv_aload_n C 0 d_C_move_69 rfl rfl ?_
    refine qv_get C in_C 0 rfl rfl 3 (by decide) wf_C_23 rfl rfl d_C_move_70 ?_
    refine qv_cVN (As := [.ref p]) (rest := []) (wc := [(m, .inr (0, [.ref mv, .int (qI pl), .long (qL st)])), (p, .inr (2, [.ref pk, .ref pr, .ref pt, .int (qI n), .ref pd, .ref pb, .ref ph, .ref pe, .ref pg, .int (qI lc)])), (pk, .inl (G.2.1, 24, .inl (qA k))), (pr, .inl (G.2.1, 24, .inl (qA r))), (mv, .inl (G.2.1, 8, .inl (qA v))), (pt, .inl (G.2.1, 24, .inl (qA t)))]) (wr := [(o, .inr (4, [.ref tx, .int (qI tl), .ref rd, .ref p, .ref q, .ref m, .ref mb, .ref mk, .ref z, .int (qI on), .int (qI cn), .int (qI hd), .long (qL ps), .long (qL ss)])), (z, .inr (1, [.ref zv, .ref zl, .ref zh, .ref zc, .ref zd, .int (qI fu), .long (qL len)])), (zc, .inl (G.2.1, 8, .inl (qA ch)))]) C k_M_step (c_M_step l G hn hp hk hr hs hv hN hS) wm_C_147 wi_M_step ws_M_step 0 rfl rfl (by decide) d_C_move_73 rfl rfl (Nat.le_of_ble_eq_true rfl) (by decide) [1, 2, 3, 4, 5, 6] [0, 7, 8] rfl (by decide) rfl (by decide) (by decide) (fun v ws' hpost => ?_)
    obtain ⟨rfl, rfl⟩ := hpost
    refine qv_eq (ws' := [(o, .inr (4, [.ref tx, .int (qI tl), .ref rd, .ref p, .ref q, .ref m, .ref mb, .ref mk, .ref z, .int (qI on), .int (qI cn), .int (qI hd), .long (qL ps), .long (qL ss)])), (z, .inr (1, [.ref zv, .ref zl, .ref zh, .ref zc, .ref zd, .int (qI fu), .long (qL len)])), (zc, .inl (G.2.1, 8, .inl (qA ch))), (m, .inr (0, [.ref mv, .int (qI (m_sp k r t pl v)), .long (qL (st + 1))])), (p, .inr (2, [.ref pk, .ref pr, .ref pt, .int (qI n), .ref pd, .ref pb, .ref ph, .ref pe, .ref pg, .int (qI lc)])), (pk, .inl (G.2.1, 24, .inl (qA k))), (pr, .inl (G.2.1, 24, .inl (qA r))), (mv, .inl (G.2.1, 8, .inl (qA (m_sv k r pl v)))), (pt, .inl (G.2.1, 24, .inl (qA t)))]) (st' := []) rfl rfl rfl ?_
    refine qv_ws (ws' := [(o, .inr (4, [.ref tx, .int (qI tl), .ref rd, .ref p, .ref q, .ref m, .ref mb, .ref mk, .ref z, .int (qI on), .int (qI cn), .int (qI hd), .long (qL ps), .long (qL ss)])), (m, .inr (0, [.ref mv, .int (qI (m_sp k r t pl v)), .long (qL (st + 1))])), (p, .inr (2, [.ref pk, .ref pr, .ref pt, .int (qI n), .ref pd, .ref pb, .ref ph, .ref pe, .ref pg, .int (qI lc)])), (pk, .inl (G.2.1, 24, .inl (qA k))), (pr, .inl (G.2.1, 24, .inl (qA r))), (mv, .inl (G.2.1, 8, .inl (qA (m_sv k r pl v)))), (pt, .inl (G.2.1, 24, .inl (qA t))), (z, .inr (1, [.ref zv, .ref zl, .ref zh, .ref zc, .ref zd, .int (qI fu), .long (qL len)])), (zc, .inl (G.2.1, 8, .inl (qA ch)))]) [0, 3, 4, 5, 6, 7, 8, 1, 2] (by decide) rfl ?_
    refine qv_vret C hrt hlk d_C_move_76 ?_
    exact ⟨rfl, Or.inr ⟨by omega, rfl⟩⟩
  · refine qv_lload_n C 1 d_C_move_7 rfl rfl ?_
    refine qv_lconst C (z := 0) d_C_move_8 (by decide) ?_
    refine qv_lcmp_le C d_C_move_9 d_C_move_10 (tgt := 65) (by decide) (by omega) (by omega) (fun ht9 => ?_) (fun hf9 => ?_)
    · refine qv_aload_n C 0 d_C_move_65 rfl rfl ?_
      refine qv_get C in_C 0 rfl rfl 5 (by decide) wf_C_33 rfl rfl d_C_move_66 ?_
      refine qv_aload_n C 0 d_C_move_69 rfl rfl ?_
      refine qv_get C in_C 0 rfl rfl 3 (by decide) wf_C_23 rfl rfl d_C_move_70 ?_
      refine qv_cVN (As := [.ref p]) (rest := []) (wc := [(m, .inr (0, [.ref mv, .int (qI pl), .long (qL st)])), (p, .inr (2, [.ref pk, .ref pr, .ref pt, .int (qI n), .ref pd, .ref pb, .ref ph, .ref pe, .ref pg, .int (qI lc)])), (pk, .inl (G.2.1, 24, .inl (qA k))), (pr, .inl (G.2.1, 24, .inl (qA r))), (mv, .inl (G.2.1, 8, .inl (qA v))), (pt, .inl (G.2.1, 24, .inl (qA t)))]) (wr := [(o, .inr (4, [.ref tx, .int (qI tl), .ref rd, .ref p, .ref q, .ref m, .ref mb, .ref mk, .ref z, .int (qI on), .int (qI cn), .int (qI hd), .long (qL ps), .long (qL ss)])), (z, .inr (1, [.ref zv, .ref zl, .ref zh, .ref zc, .ref zd, .int (qI fu), .long (qL len)])), (zc, .inl (G.2.1, 8, .inl (qA ch)))]) C k_M_step (c_M_step l G hn hp hk hr hs hv hN hS) wm_C_147 wi_M_step ws_M_step 0 rfl rfl (by decide) d_C_move_73 rfl rfl (Nat.le_of_ble_eq_true rfl) (by decide) [1, 2, 3, 4, 5, 6] [0, 7, 8] rfl (by decide) rfl (by decide) (by decide) (fun v ws' hpost => ?_)
      obtain ⟨rfl, rfl⟩ := hpost
      refine qv_eq (ws' := [(o, .inr (4, [.ref tx, .int (qI tl), .ref rd, .ref p, .ref q, .ref m, .ref mb, .ref mk, .ref z, .int (qI on), .int (qI cn), .int (qI hd), .long (qL ps), .long (qL ss)])), (z, .inr (1, [.ref zv, .ref zl, .ref zh, .ref zc, .ref zd, .int (qI fu), .long (qL len)])), (zc, .inl (G.2.1, 8, .inl (qA ch))), (m, .inr (0, [.ref mv, .int (qI (m_sp k r t pl v)), .long (qL (st + 1))])), (p, .inr (2, [.ref pk, .ref pr, .ref pt, .int (qI n), .ref pd, .ref pb, .ref ph, .ref pe, .ref pg, .int (qI lc)])), (pk, .inl (G.2.1, 24, .inl (qA k))), (pr, .inl (G.2.1, 24, .inl (qA r))), (mv, .inl (G.2.1, 8, .inl (qA (m_sv k r pl v)))), (pt, .inl (G.2.1, 24, .inl (qA t)))]) (st' := []) rfl rfl rfl ?_
      refine qv_ws (ws' := [(o, .inr (4, [.ref tx, .int (qI tl), .ref rd, .ref p, .ref q, .ref m, .ref mb, .ref mk, .ref z, .int (qI on), .int (qI cn), .int (qI hd), .long (qL ps), .long (qL ss)])), (m, .inr (0, [.ref mv, .int (qI (m_sp k r t pl v)), .long (qL (st + 1))])), (p, .inr (2, [.ref pk, .ref pr, .ref pt, .int (qI n), .ref pd, .ref pb, .ref ph, .ref pe, .ref pg, .int (qI lc)])), (pk, .inl (G.2.1, 24, .inl (qA k))), (pr, .inl (G.2.1, 24, .inl (qA r))), (mv, .inl (G.2.1, 8, .inl (qA (m_sv k r pl v)))), (pt, .inl (G.2.1, 24, .inl (qA t))), (z, .inr (1, [.ref zv, .ref zl, .ref zh, .ref zc, .ref zd, .int (qI fu), .long (qL len)])), (zc, .inl (G.2.1, 8, .inl (qA ch)))]) [0, 3, 4, 5, 6, 7, 8, 1, 2] (by decide) rfl ?_
      refine qv_vret C hrt hlk d_C_move_76 ?_
      exact ⟨rfl, Or.inr ⟨by omega, rfl⟩⟩
    · refine qv_aload_n C 0 d_C_move_13 rfl rfl ?_
      refine qv_dup C d_C_move_14 rfl ?_
      refine qv_get C in_C 0 rfl rfl 10 (by decide) wf_C_193 rfl rfl d_C_move_15 ?_
      refine qv_iconst C d_C_move_18 ?_
      refine qv_iadd C d_C_move_19 ?_
      refine qv_put C in_C 0 rfl rfl 10 (by decide) t_C t_C_ok n_C wf_C_193 rfl rfl (t_C_ok 10 (by decide)) (rfl) (rfl) (Nat.le_of_ble_eq_true rfl) d_C_move_20 (ws' := [(o, .inr (4, [.ref tx, .int (qI tl), .ref rd, .ref p, .ref q, .ref m, .ref mb, .ref mk, .ref z, .int (qI on), .int (qI (cn + 1)), .int (qI hd), .long (qL ps), .long (qL ss)])), (m, .inr (0, [.ref mv, .int (qI pl), .long (qL st)])), (p, .inr (2, [.ref pk, .ref pr, .ref pt, .int (qI n), .ref pd, .ref pb, .ref ph, .ref pe, .ref pg, .int (qI lc)])), (pk, .inl (G.2.1, 24, .inl (qA k))), (pr, .inl (G.2.1, 24, .inl (qA r))), (mv, .inl (G.2.1, 8, .inl (qA v))), (pt, .inl (G.2.1, 24, .inl (qA t))), (z, .inr (1, [.ref zv, .ref zl, .ref zh, .ref zc, .ref zd, .int (qI fu), .long (qL len)])), (zc, .inl (G.2.1, 8, .inl (qA ch)))]) rfl ?_
      refine qv_aload_n C 0 d_C_move_23 rfl rfl ?_
      refine qv_aload_n C 0 d_C_move_24 rfl rfl ?_
      refine qv_get C in_C 0 rfl rfl 5 (by decide) wf_C_33 rfl rfl d_C_move_25 ?_
      refine qv_getN C in_M 1 rfl rfl 1 (by decide) wf_C_173 rfl rfl d_C_move_28 ?_
      refine qv_put C in_C 0 rfl rfl 11 (by decide) t_C t_C_ok n_C wf_C_198 rfl rfl (t_C_ok 11 (by decide)) (rfl) (rfl) (Nat.le_of_ble_eq_true rfl) d_C_move_31 (ws' := [(o, .inr (4, [.ref tx, .int (qI tl), .ref rd, .ref p, .ref q, .ref m, .ref mb, .ref mk, .ref z, .int (qI on), .int (qI (cn + 1)), .int (qI pl), .long (qL ps), .long (qL ss)])), (m, .inr (0, [.ref mv, .int (qI pl), .long (qL st)])), (p, .inr (2, [.ref pk, .ref pr, .ref pt, .int (qI n), .ref pd, .ref pb, .ref ph, .ref pe, .ref pg, .int (qI lc)])), (pk, .inl (G.2.1, 24, .inl (qA k))), (pr, .inl (G.2.1, 24, .inl (qA r))), (mv, .inl (G.2.1, 8, .inl (qA v))), (pt, .inl (G.2.1, 24, .inl (qA t))), (z, .inr (1, [.ref zv, .ref zl, .ref zh, .ref zc, .ref zd, .int (qI fu), .long (qL len)])), (zc, .inl (G.2.1, 8, .inl (qA ch)))]) rfl ?_
      refine qv_aload_n C 0 d_C_move_34 rfl rfl ?_
      refine qv_lload_n C 1 d_C_move_35 rfl rfl ?_
      refine qv_put C in_C 0 rfl rfl 12 (by decide) t_C t_C_ok n_C wf_C_201 rfl rfl (t_C_ok 12 (by decide)) (rfl) (rfl) (Nat.le_of_ble_eq_true rfl) d_C_move_36 (ws' := [(o, .inr (4, [.ref tx, .int (qI tl), .ref rd, .ref p, .ref q, .ref m, .ref mb, .ref mk, .ref z, .int (qI on), .int (qI (cn + 1)), .int (qI pl), .long (qL qq), .long (qL ss)])), (m, .inr (0, [.ref mv, .int (qI pl), .long (qL st)])), (p, .inr (2, [.ref pk, .ref pr, .ref pt, .int (qI n), .ref pd, .ref pb, .ref ph, .ref pe, .ref pg, .int (qI lc)])), (pk, .inl (G.2.1, 24, .inl (qA k))), (pr, .inl (G.2.1, 24, .inl (qA r))), (mv, .inl (G.2.1, 8, .inl (qA v))), (pt, .inl (G.2.1, 24, .inl (qA t))), (z, .inr (1, [.ref zv, .ref zl, .ref zh, .ref zc, .ref zd, .int (qI fu), .long (qL len)])), (zc, .inl (G.2.1, 8, .inl (qA ch)))]) rfl ?_
      refine qv_aload_n C 0 d_C_move_39 rfl rfl ?_
      refine qv_aload_n C 0 d_C_move_40 rfl rfl ?_
      refine qv_get C in_C 0 rfl rfl 8 (by decide) wf_C_46 rfl rfl d_C_move_41 ?_
      refine qv_getN C in_S 7 rfl rfl 6 (by decide) wf_C_218 rfl rfl d_C_move_44 ?_
      refine qv_put C in_C 0 rfl rfl 13 (by decide) t_C t_C_ok n_C wf_C_204 rfl rfl (t_C_ok 13 (by decide)) (rfl) (rfl) (Nat.le_of_ble_eq_true rfl) d_C_move_47 (ws' := [(o, .inr (4, [.ref tx, .int (qI tl), .ref rd, .ref p, .ref q, .ref m, .ref mb, .ref mk, .ref z, .int (qI on), .int (qI (cn + 1)), .int (qI pl), .long (qL qq), .long (qL len)])), (m, .inr (0, [.ref mv, .int (qI pl), .long (qL st)])), (p, .inr (2, [.ref pk, .ref pr, .ref pt, .int (qI n), .ref pd, .ref pb, .ref ph, .ref pe, .ref pg, .int (qI lc)])), (pk, .inl (G.2.1, 24, .inl (qA k))), (pr, .inl (G.2.1, 24, .inl (qA r))), (mv, .inl (G.2.1, 8, .inl (qA v))), (pt, .inl (G.2.1, 24, .inl (qA t))), (z, .inr (1, [.ref zv, .ref zl, .ref zh, .ref zc, .ref zd, .int (qI fu), .long (qL len)])), (zc, .inl (G.2.1, 8, .inl (qA ch)))]) rfl ?_
      refine qv_aload_n C 0 d_C_move_50 rfl rfl ?_
      refine qv_get C in_C 0 rfl rfl 5 (by decide) wf_C_33 rfl rfl d_C_move_51 ?_
      refine qv_aload_n C 0 d_C_move_54 rfl rfl ?_
      refine qv_get C in_C 0 rfl rfl 8 (by decide) wf_C_46 rfl rfl d_C_move_55 ?_
      refine qv_lload_n C 1 d_C_move_58 rfl rfl ?_
      refine qv_cVN (As := [.ref z, .long (qL qq)]) (rest := []) (wc := [(m, .inr (0, [.ref mv, .int (qI pl), .long (qL st)])), (z, .inr (1, [.ref zv, .ref zl, .ref zh, .ref zc, .ref zd, .int (qI fu), .long (qL len)])), (mv, .inl (G.2.1, 8, .inl (qA v))), (zc, .inl (G.2.1, 8, .inl (qA ch)))]) (wr := [(o, .inr (4, [.ref tx, .int (qI tl), .ref rd, .ref p, .ref q, .ref m, .ref mb, .ref mk, .ref z, .int (qI on), .int (qI (cn + 1)), .int (qI pl), .long (qL qq), .long (qL len)])), (p, .inr (2, [.ref pk, .ref pr, .ref pt, .int (qI n), .ref pd, .ref pb, .ref ph, .ref pe, .ref pg, .int (qI lc)])), (pk, .inl (G.2.1, 24, .inl (qA k))), (pr, .inl (G.2.1, 24, .inl (qA r))), (pt, .inl (G.2.1, 24, .inl (qA t)))]) C k_M_leapBy (c_M_leapBy l G (q := qq) hch) wm_C_221 wi_M_leapBy ws_M_leapBy 0 rfl rfl (by decide) d_C_move_59 rfl rfl (Nat.le_of_ble_eq_true rfl) (by decide) [1, 7, 5, 8] [0, 2, 3, 4, 6] rfl (by decide) rfl (by decide) (by decide) (fun v ws' hpost => ?_)
      obtain ⟨rfl, rfl⟩ := hpost
      refine qv_eq (ws' := [(o, .inr (4, [.ref tx, .int (qI tl), .ref rd, .ref p, .ref q, .ref m, .ref mb, .ref mk, .ref z, .int (qI on), .int (qI (cn + 1)), .int (qI pl), .long (qL qq), .long (qL len)])), (p, .inr (2, [.ref pk, .ref pr, .ref pt, .int (qI n), .ref pd, .ref pb, .ref ph, .ref pe, .ref pg, .int (qI lc)])), (pk, .inl (G.2.1, 24, .inl (qA k))), (pr, .inl (G.2.1, 24, .inl (qA r))), (pt, .inl (G.2.1, 24, .inl (qA t))), (m, .inr (0, [.ref mv, .int (qI pl), .long (qL (st + qq * len))])), (z, .inr (1, [.ref zv, .ref zl, .ref zh, .ref zc, .ref zd, .int (qI fu), .long (qL len)])), (mv, .inl (G.2.1, 8, .inl (qA (m_lf v ch qq 8)))), (zc, .inl (G.2.1, 8, .inl (qA ch)))]) (st' := []) rfl rfl rfl ?_
      refine qv_goto C d_C_move_62 (by decide) (tgt := 76) ?_
      refine qv_ws (ws' := [(o, .inr (4, [.ref tx, .int (qI tl), .ref rd, .ref p, .ref q, .ref m, .ref mb, .ref mk, .ref z, .int (qI on), .int (qI (cn + 1)), .int (qI pl), .long (qL qq), .long (qL len)])), (m, .inr (0, [.ref mv, .int (qI pl), .long (qL (st + qq * len))])), (p, .inr (2, [.ref pk, .ref pr, .ref pt, .int (qI n), .ref pd, .ref pb, .ref ph, .ref pe, .ref pg, .int (qI lc)])), (pk, .inl (G.2.1, 24, .inl (qA k))), (pr, .inl (G.2.1, 24, .inl (qA r))), (mv, .inl (G.2.1, 8, .inl (qA (m_lf v ch qq 8)))), (pt, .inl (G.2.1, 24, .inl (qA t))), (z, .inr (1, [.ref zv, .ref zl, .ref zh, .ref zc, .ref zd, .int (qI fu), .long (qL len)])), (zc, .inl (G.2.1, 8, .inl (qA ch)))]) [0, 5, 1, 2, 3, 7, 4, 6, 8] (by decide) rfl ?_
      refine qv_vret C hrt hlk d_C_move_76 ?_
      exact ⟨rfl, Or.inl ⟨by omega, rfl⟩⟩
set_option maxHeartbeats 4000000 in
set_option maxRecDepth 100000 in
theorem c_C_advance (l : Launch) (G : qG) {o tx rd q m mb mk z : Nat} {tl on cn hd ps ss : Int} {mv p pk pr pt pd pb ph pe pg zv zl zh zc zd : Nat} {pl st n lc fu len qq : Int} {k r t v ch : Int → Int} (hn : 0 ≤ n ∧ n ≤ 24) (hp : 0 ≤ pl ∧ pl ≤ n) (hk : ∀ i, 0 ≤ k i ∧ k i ≤ 3) (hr : ∀ i, 0 ≤ i → i < n → k i = 0 ∨ k i = 1 → 0 ≤ r i ∧ r i ≤ 7) (hs : 0 ≤ st ∧ st ≤ 1000000000000000) (hv : ∀ c, 0 ≤ v c ∧ v c ≤ 1000000) (hq : 0 ≤ qq ∧ qq ≤ 1000000000000000) (hch : ∀ c, -1000000 ≤ ch c ∧ ch c ≤ 1000000) (hN : (pl < n ∧ ¬ k pl = 3)) (hS : ¬ ((k pl = 0 ∧ 1000000 ≤ v (r pl)) ∨ 1000000000000000 ≤ st)) : qM l G y_C_advance b_C_advance 3 none ({ frames := 4, cells := 0, slots := 0, locals := 87 }) [.ref o, .long (qL qq)] [(o, .inr (4, [.ref tx, .int (qI tl), .ref rd, .ref p, .ref q, .ref m, .ref mb, .ref mk, .ref z, .int (qI on), .int (qI cn), .int (qI hd), .long (qL ps), .long (qL ss)])), (m, .inr (0, [.ref mv, .int (qI pl), .long (qL st)])), (p, .inr (2, [.ref pk, .ref pr, .ref pt, .int (qI n), .ref pd, .ref pb, .ref ph, .ref pe, .ref pg, .int (qI lc)])), (pk, .inl (G.2.1, 24, .inl (qA k))), (pr, .inl (G.2.1, 24, .inl (qA r))), (mv, .inl (G.2.1, 8, .inl (qA v))), (pt, .inl (G.2.1, 24, .inl (qA t))), (z, .inr (1, [.ref zv, .ref zl, .ref zh, .ref zc, .ref zd, .int (qI fu), .long (qL len)])), (zc, .inl (G.2.1, 8, .inl (qA ch)))] (fun v' ws' => v' = none ∧ ((0 < qq ∧ ws' = [(o, .inr (4, [.ref tx, .int (qI tl), .ref rd, .ref p, .ref q, .ref m, .ref mb, .ref mk, .ref z, .int (qI on), .int (qI cn), .int (qI hd), .long (qL ps), .long (qL ss)])), (m, .inr (0, [.ref mv, .int (qI pl), .long (qL (st + qq * len))])), (p, .inr (2, [.ref pk, .ref pr, .ref pt, .int (qI n), .ref pd, .ref pb, .ref ph, .ref pe, .ref pg, .int (qI lc)])), (pk, .inl (G.2.1, 24, .inl (qA k))), (pr, .inl (G.2.1, 24, .inl (qA r))), (mv, .inl (G.2.1, 8, .inl (qA (m_lf v ch qq 8)))), (pt, .inl (G.2.1, 24, .inl (qA t))), (z, .inr (1, [.ref zv, .ref zl, .ref zh, .ref zc, .ref zd, .int (qI fu), .long (qL len)])), (zc, .inl (G.2.1, 8, .inl (qA ch)))]) ∨ (¬ 0 < qq ∧ ws' = [(o, .inr (4, [.ref tx, .int (qI tl), .ref rd, .ref p, .ref q, .ref m, .ref mb, .ref mk, .ref z, .int (qI on), .int (qI cn), .int (qI hd), .long (qL ps), .long (qL ss)])), (m, .inr (0, [.ref mv, .int (qI (m_sp k r t pl v)), .long (qL (st + 1))])), (p, .inr (2, [.ref pk, .ref pr, .ref pt, .int (qI n), .ref pd, .ref pb, .ref ph, .ref pe, .ref pg, .int (qI lc)])), (pk, .inl (G.2.1, 24, .inl (qA k))), (pr, .inl (G.2.1, 24, .inl (qA r))), (mv, .inl (G.2.1, 8, .inl (qA (m_sv k r pl v)))), (pt, .inl (G.2.1, 24, .inl (qA t))), (z, .inr (1, [.ref zv, .ref zl, .ref zh, .ref zc, .ref zd, .int (qI fu), .long (qL len)])), (zc, .inl (G.2.1, 8, .inl (qA ch)))]))) := by
  refine qM.of (by decide) (Nat.le_of_ble_eq_true rfl) (fun xp xe xs xm xb xme xc A C hrt hlk hnm => ?_)
  refine qv_eq (lv' := [(0, .ref o), (1, .long (qL qq))]) rfl rfl rfl ?_
  refine qv_lload_n C 1 d_C_advance_0 rfl rfl ?_
  refine qv_lconst C (z := 0) d_C_advance_1 (by decide) ?_
  refine qv_lcmp_le C d_C_advance_2 d_C_advance_3 (tgt := 21) (by decide) (by omega) (by omega) (fun ht2 => ?_) (fun hf2 => ?_)
  · refine qv_aload_n C 0 d_C_advance_21 rfl rfl ?_
    refine qv_get C in_C 0 rfl rfl 5 (by decide) wf_C_33 rfl rfl d_C_advance_22 ?_
    refine qv_aload_n C 0 d_C_advance_25 rfl rfl ?_
    refine qv_get C in_C 0 rfl rfl 3 (by decide) wf_C_23 rfl rfl d_C_advance_26 ?_
    refine qv_cVN (As := [.ref p]) (rest := []) (wc := [(m, .inr (0, [.ref mv, .int (qI pl), .long (qL st)])), (p, .inr (2, [.ref pk, .ref pr, .ref pt, .int (qI n), .ref pd, .ref pb, .ref ph, .ref pe, .ref pg, .int (qI lc)])), (pk, .inl (G.2.1, 24, .inl (qA k))), (pr, .inl (G.2.1, 24, .inl (qA r))), (mv, .inl (G.2.1, 8, .inl (qA v))), (pt, .inl (G.2.1, 24, .inl (qA t)))]) (wr := [(o, .inr (4, [.ref tx, .int (qI tl), .ref rd, .ref p, .ref q, .ref m, .ref mb, .ref mk, .ref z, .int (qI on), .int (qI cn), .int (qI hd), .long (qL ps), .long (qL ss)])), (z, .inr (1, [.ref zv, .ref zl, .ref zh, .ref zc, .ref zd, .int (qI fu), .long (qL len)])), (zc, .inl (G.2.1, 8, .inl (qA ch)))]) C k_M_step (c_M_step l G hn hp hk hr hs hv hN hS) wm_C_147 wi_M_step ws_M_step 0 rfl rfl (by decide) d_C_advance_29 rfl rfl (Nat.le_of_ble_eq_true rfl) (by decide) [1, 2, 3, 4, 5, 6] [0, 7, 8] rfl (by decide) rfl (by decide) (by decide) (fun v ws' hpost => ?_)
    obtain ⟨rfl, rfl⟩ := hpost
    refine qv_eq (ws' := [(o, .inr (4, [.ref tx, .int (qI tl), .ref rd, .ref p, .ref q, .ref m, .ref mb, .ref mk, .ref z, .int (qI on), .int (qI cn), .int (qI hd), .long (qL ps), .long (qL ss)])), (z, .inr (1, [.ref zv, .ref zl, .ref zh, .ref zc, .ref zd, .int (qI fu), .long (qL len)])), (zc, .inl (G.2.1, 8, .inl (qA ch))), (m, .inr (0, [.ref mv, .int (qI (m_sp k r t pl v)), .long (qL (st + 1))])), (p, .inr (2, [.ref pk, .ref pr, .ref pt, .int (qI n), .ref pd, .ref pb, .ref ph, .ref pe, .ref pg, .int (qI lc)])), (pk, .inl (G.2.1, 24, .inl (qA k))), (pr, .inl (G.2.1, 24, .inl (qA r))), (mv, .inl (G.2.1, 8, .inl (qA (m_sv k r pl v)))), (pt, .inl (G.2.1, 24, .inl (qA t)))]) (st' := []) rfl rfl rfl ?_
    refine qv_ws (ws' := [(o, .inr (4, [.ref tx, .int (qI tl), .ref rd, .ref p, .ref q, .ref m, .ref mb, .ref mk, .ref z, .int (qI on), .int (qI cn), .int (qI hd), .long (qL ps), .long (qL ss)])), (m, .inr (0, [.ref mv, .int (qI (m_sp k r t pl v)), .long (qL (st + 1))])), (p, .inr (2, [.ref pk, .ref pr, .ref pt, .int (qI n), .ref pd, .ref pb, .ref ph, .ref pe, .ref pg, .int (qI lc)])), (pk, .inl (G.2.1, 24, .inl (qA k))), (pr, .inl (G.2.1, 24, .inl (qA r))), (mv, .inl (G.2.1, 8, .inl (qA (m_sv k r pl v)))), (pt, .inl (G.2.1, 24, .inl (qA t))), (z, .inr (1, [.ref zv, .ref zl, .ref zh, .ref zc, .ref zd, .int (qI fu), .long (qL len)])), (zc, .inl (G.2.1, 8, .inl (qA ch)))]) [0, 3, 4, 5, 6, 7, 8, 1, 2] (by decide) rfl ?_
    refine qv_vret C hrt hlk d_C_advance_32 ?_
    exact ⟨rfl, Or.inr ⟨by omega, rfl⟩⟩
  · refine qv_aload_n C 0 d_C_advance_6 rfl rfl ?_
    refine qv_get C in_C 0 rfl rfl 5 (by decide) wf_C_33 rfl rfl d_C_advance_7 ?_
    refine qv_aload_n C 0 d_C_advance_10 rfl rfl ?_
    refine qv_get C in_C 0 rfl rfl 8 (by decide) wf_C_46 rfl rfl d_C_advance_11 ?_
    refine qv_lload_n C 1 d_C_advance_14 rfl rfl ?_
    refine qv_cVN (As := [.ref z, .long (qL qq)]) (rest := []) (wc := [(m, .inr (0, [.ref mv, .int (qI pl), .long (qL st)])), (z, .inr (1, [.ref zv, .ref zl, .ref zh, .ref zc, .ref zd, .int (qI fu), .long (qL len)])), (mv, .inl (G.2.1, 8, .inl (qA v))), (zc, .inl (G.2.1, 8, .inl (qA ch)))]) (wr := [(o, .inr (4, [.ref tx, .int (qI tl), .ref rd, .ref p, .ref q, .ref m, .ref mb, .ref mk, .ref z, .int (qI on), .int (qI cn), .int (qI hd), .long (qL ps), .long (qL ss)])), (p, .inr (2, [.ref pk, .ref pr, .ref pt, .int (qI n), .ref pd, .ref pb, .ref ph, .ref pe, .ref pg, .int (qI lc)])), (pk, .inl (G.2.1, 24, .inl (qA k))), (pr, .inl (G.2.1, 24, .inl (qA r))), (pt, .inl (G.2.1, 24, .inl (qA t)))]) C k_M_leapBy (c_M_leapBy l G (q := qq) hch) wm_C_221 wi_M_leapBy ws_M_leapBy 0 rfl rfl (by decide) d_C_advance_15 rfl rfl (Nat.le_of_ble_eq_true rfl) (by decide) [1, 7, 5, 8] [0, 2, 3, 4, 6] rfl (by decide) rfl (by decide) (by decide) (fun v ws' hpost => ?_)
    obtain ⟨rfl, rfl⟩ := hpost
    refine qv_eq (ws' := [(o, .inr (4, [.ref tx, .int (qI tl), .ref rd, .ref p, .ref q, .ref m, .ref mb, .ref mk, .ref z, .int (qI on), .int (qI cn), .int (qI hd), .long (qL ps), .long (qL ss)])), (p, .inr (2, [.ref pk, .ref pr, .ref pt, .int (qI n), .ref pd, .ref pb, .ref ph, .ref pe, .ref pg, .int (qI lc)])), (pk, .inl (G.2.1, 24, .inl (qA k))), (pr, .inl (G.2.1, 24, .inl (qA r))), (pt, .inl (G.2.1, 24, .inl (qA t))), (m, .inr (0, [.ref mv, .int (qI pl), .long (qL (st + qq * len))])), (z, .inr (1, [.ref zv, .ref zl, .ref zh, .ref zc, .ref zd, .int (qI fu), .long (qL len)])), (mv, .inl (G.2.1, 8, .inl (qA (m_lf v ch qq 8)))), (zc, .inl (G.2.1, 8, .inl (qA ch)))]) (st' := []) rfl rfl rfl ?_
    refine qv_goto C d_C_advance_18 (by decide) (tgt := 32) ?_
    refine qv_ws (ws' := [(o, .inr (4, [.ref tx, .int (qI tl), .ref rd, .ref p, .ref q, .ref m, .ref mb, .ref mk, .ref z, .int (qI on), .int (qI cn), .int (qI hd), .long (qL ps), .long (qL ss)])), (m, .inr (0, [.ref mv, .int (qI pl), .long (qL (st + qq * len))])), (p, .inr (2, [.ref pk, .ref pr, .ref pt, .int (qI n), .ref pd, .ref pb, .ref ph, .ref pe, .ref pg, .int (qI lc)])), (pk, .inl (G.2.1, 24, .inl (qA k))), (pr, .inl (G.2.1, 24, .inl (qA r))), (mv, .inl (G.2.1, 8, .inl (qA (m_lf v ch qq 8)))), (pt, .inl (G.2.1, 24, .inl (qA t))), (z, .inr (1, [.ref zv, .ref zl, .ref zh, .ref zc, .ref zd, .int (qI fu), .long (qL len)])), (zc, .inl (G.2.1, 8, .inl (qA ch)))]) [0, 5, 1, 2, 3, 7, 4, 6, 8] (by decide) rfl ?_
    refine qv_vret C hrt hlk d_C_advance_32 ?_
    exact ⟨rfl, Or.inl ⟨by omega, rfl⟩⟩
set_option maxHeartbeats 4000000 in
set_option maxRecDepth 100000 in
theorem c_C_goesOnUntil (l : Launch) (G : qG) {o tx rd q m mb mk z : Nat} {tl on cn hd ps ss : Int} {mv p pk pr pt pd pb ph pe pg : Nat} {pl st n lc al : Int} {k r v : Int → Int} (hn : 0 ≤ n ∧ n ≤ 24) (hp : 0 ≤ pl ∧ pl ≤ n) (hk : ∀ i, 0 ≤ k i ∧ k i ≤ 3) (hr : ∀ i, 0 ≤ i → i < n → k i = 0 ∨ k i = 1 → 0 ≤ r i ∧ r i ≤ 7) (hs : 0 ≤ st ∧ st ≤ 1000000000000000) (hv : ∀ c, 0 ≤ v c ∧ v c ≤ 1000000) (hal : 0 ≤ al ∧ al ≤ 1000000000000000) : qM l G y_C_goesOnUntil b_C_goesOnUntil 3 (some .boolean) ({ frames := 3, cells := 0, slots := 0, locals := 64 }) [.ref o, .long (qL al)] [(o, .inr (4, [.ref tx, .int (qI tl), .ref rd, .ref p, .ref q, .ref m, .ref mb, .ref mk, .ref z, .int (qI on), .int (qI cn), .int (qI hd), .long (qL ps), .long (qL ss)])), (m, .inr (0, [.ref mv, .int (qI pl), .long (qL st)])), (p, .inr (2, [.ref pk, .ref pr, .ref pt, .int (qI n), .ref pd, .ref pb, .ref ph, .ref pe, .ref pg, .int (qI lc)])), (pk, .inl (G.2.1, 24, .inl (qA k))), (pr, .inl (G.2.1, 24, .inl (qA r))), (mv, .inl (G.2.1, 8, .inl (qA v)))] (fun v' ws' => ws' = [(o, .inr (4, [.ref tx, .int (qI tl), .ref rd, .ref p, .ref q, .ref m, .ref mb, .ref mk, .ref z, .int (qI on), .int (qI cn), .int (qI hd), .long (qL ps), .long (qL ss)])), (m, .inr (0, [.ref mv, .int (qI pl), .long (qL st)])), (p, .inr (2, [.ref pk, .ref pr, .ref pt, .int (qI n), .ref pd, .ref pb, .ref ph, .ref pe, .ref pg, .int (qI lc)])), (pk, .inl (G.2.1, 24, .inl (qA k))), (pr, .inl (G.2.1, 24, .inl (qA r))), (mv, .inl (G.2.1, 8, .inl (qA v)))] ∧ ∃ x : Int, v' = some (.int (qI x)) ∧ ((x = 1 ∧ st < al ∧ (pl < n ∧ ¬ k pl = 3) ∧ ¬ ((k pl = 0 ∧ 1000000 ≤ v (r pl)) ∨ 1000000000000000 ≤ st)) ∨ (x = 0 ∧ ¬ (st < al ∧ (pl < n ∧ ¬ k pl = 3) ∧ ¬ ((k pl = 0 ∧ 1000000 ≤ v (r pl)) ∨ 1000000000000000 ≤ st))))) := by
  refine qM.of (by decide) (Nat.le_of_ble_eq_true rfl) (fun xp xe xs xm xb xme xc A C hrt hlk hnm => ?_)
  refine qv_eq (lv' := [(0, .ref o), (1, .long (qL al))]) rfl rfl rfl ?_
  refine qv_aload_n C 0 d_C_goesOnUntil_0 rfl rfl ?_
  refine qv_get C in_C 0 rfl rfl 5 (by decide) wf_C_33 rfl rfl d_C_goesOnUntil_1 ?_
  refine qv_getN C in_M 1 rfl rfl 2 (by decide) wf_C_166 rfl rfl d_C_goesOnUntil_4 ?_
  refine qv_lload_n C 1 d_C_goesOnUntil_7 rfl rfl ?_
  refine qv_lcmp_ge C d_C_goesOnUntil_8 d_C_goesOnUntil_9 (tgt := 30) (by decide) (by omega) (by omega) (fun ht8 => ?_) (fun hf8 => ?_)
  · refine qv_iconst C d_C_goesOnUntil_30 ?_
    refine qv_zret C (by omega) hrt hlk d_C_goesOnUntil_31 ?_
    exact ⟨rfl, 0, rfl, by omega⟩
  · refine qv_aload_n C 0 d_C_goesOnUntil_12 rfl rfl ?_
    refine qv_get C in_C 0 rfl rfl 5 (by decide) wf_C_33 rfl rfl d_C_goesOnUntil_13 ?_
    refine qv_aload_n C 0 d_C_goesOnUntil_16 rfl rfl ?_
    refine qv_get C in_C 0 rfl rfl 3 (by decide) wf_C_23 rfl rfl d_C_goesOnUntil_17 ?_
    refine qv_cVN (As := [.ref p]) (rest := []) (wc := [(m, .inr (0, [.ref mv, .int (qI pl), .long (qL st)])), (p, .inr (2, [.ref pk, .ref pr, .ref pt, .int (qI n), .ref pd, .ref pb, .ref ph, .ref pe, .ref pg, .int (qI lc)])), (pk, .inl (G.2.1, 24, .inl (qA k))), (pr, .inl (G.2.1, 24, .inl (qA r))), (mv, .inl (G.2.1, 8, .inl (qA v)))]) (wr := [(o, .inr (4, [.ref tx, .int (qI tl), .ref rd, .ref p, .ref q, .ref m, .ref mb, .ref mk, .ref z, .int (qI on), .int (qI cn), .int (qI hd), .long (qL ps), .long (qL ss)]))]) C k_M_rests (c_M_rests l G hn hp hk hr hs hv) wm_C_143 wi_M_rests ws_M_rests 0 rfl rfl (by decide) d_C_goesOnUntil_20 rfl rfl (Nat.le_of_ble_eq_true rfl) (by decide) [1, 2, 3, 4, 5] [0] rfl (by decide) rfl (by decide) (by decide) (fun v ws' hpost => ?_)
    obtain ⟨rfl, xr, rfl, hxr⟩ := hpost
    refine qv_eq (ws' := [(o, .inr (4, [.ref tx, .int (qI tl), .ref rd, .ref p, .ref q, .ref m, .ref mb, .ref mk, .ref z, .int (qI on), .int (qI cn), .int (qI hd), .long (qL ps), .long (qL ss)])), (m, .inr (0, [.ref mv, .int (qI pl), .long (qL st)])), (p, .inr (2, [.ref pk, .ref pr, .ref pt, .int (qI n), .ref pd, .ref pb, .ref ph, .ref pe, .ref pg, .int (qI lc)])), (pk, .inl (G.2.1, 24, .inl (qA k))), (pr, .inl (G.2.1, 24, .inl (qA r))), (mv, .inl (G.2.1, 8, .inl (qA v)))]) (st' := [.int (qI xr)]) rfl rfl rfl ?_
    refine qv_if_ne C d_C_goesOnUntil_23 (tgt := 30) (by decide) (by omega) (fun ht23 => ?_) (fun hf23 => ?_)
    · refine qv_iconst C d_C_goesOnUntil_30 ?_
      refine qv_zret C (by omega) hrt hlk d_C_goesOnUntil_31 ?_
      exact ⟨rfl, 0, rfl, by omega⟩
    · refine qv_iconst C d_C_goesOnUntil_26 ?_
      refine qv_goto C d_C_goesOnUntil_27 (by decide) (tgt := 31) ?_
      refine qv_zret C (by omega) hrt hlk d_C_goesOnUntil_31 ?_
      exact ⟨rfl, 1, rfl, by omega⟩

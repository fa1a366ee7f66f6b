set_option maxHeartbeats 4000000 in
set_option maxRecDepth 100000 in
theorem c_C_byteOf (l : Launch) (G : qG)  {ch i : Int} (hi : 0 ≤ i ∧ i ≤ 7) : qM l G y_C_byteOf b_C_byteOf 3 (some .int) ({ frames := 0, cells := 0, slots := 0, locals := 0 }) [.long (qL ch), .int (qI i)] [] (fun v' ws' => v' = some (.int (qI (m_by ch i))) ∧ ws' = []) := by
  refine qM.of (by decide) (Nat.le_of_ble_eq_true rfl) (fun xp xe xs xm xb xme xc A C hrt hlk hnm => ?_)
  refine qv_eq (lv' := [(0, .long (qL ch)), (2, .int (qI i))]) rfl rfl rfl ?_
  refine qv_lload_n C 0 d_C_byteOf_0 rfl rfl ?_
  refine qv_bipush C d_C_byteOf_1 (by decide) ?_
  refine qv_iload_n C 1 d_C_byteOf_3 rfl rfl ?_
  refine qv_imul C d_C_byteOf_4 ?_
  refine qv_lushr C (z := ch % 18446744073709551616 / 2 ^ (8 * i).toNat) (m_by_C hi) d_C_byteOf_5 ?_
  refine qv_l2i C d_C_byteOf_6 ?_
  refine qv_sipush C d_C_byteOf_7 (by decide) ?_
  refine qv_iand C (z := (ch % 18446744073709551616 / 2 ^ (8 * i).toNat) % 256) (qI_and255 _) d_C_byteOf_10 ?_
  refine qv_iret C hrt hlk d_C_byteOf_11 ?_
  refine ⟨?_, rfl⟩
  rw [m_by_eq hi]
set_option maxHeartbeats 4000000 in
set_option maxRecDepth 100000 in
theorem c_D_type (l : Launch) (G : qG) {u utx uro urc urn urp ula uop urg utg ude ule udn uv ub ubf ubh ukp uwa : Nat} {cd sz cu fa rdn n pl st on cn hd ps ss tk : Int} {ch m : Int} {x : Int → Int} (hsz : 0 ≤ sz ∧ sz ≤ 120) (hch : -9223372036854775808 ≤ ch ∧ ch ≤ 9223372036854775807) (hm : -2147483648 ≤ m ∧ m ≤ 2147483647) : qM l G y_D_type b_D_type 7 (some .int) ({ frames := 0, cells := 0, slots := 0, locals := 0 }) [.ref u, .long (qL ch), .int (qI m)] [(u, .inr (5, [.int (qI cd), .int (qI sz), .ref utx, .int (qI cu), .int (qI fa), .int (qI rdn), .ref uro, .ref urc, .ref urn, .ref urp, .ref ula, .int (qI n), .ref uop, .ref urg, .ref utg, .ref ude, .ref ule, .ref udn, .ref uv, .ref ub, .int (qI pl), .long (qL st), .int (qI on), .long (qL cn), .int (qI hd), .long (qL ps), .long (qL ss), .ref ubf, .ref ubh, .long (qL tk), .ref ukp, .ref uwa])), (utx, .inl (G.2.1, 120, .inl (qA x)))] (fun v' ws' => (¬ ((0 < m ∧ m < 9) ∧ m_rt ch m) ∧ v' = some (.int (qI 0)) ∧ ws' = [(u, .inr (5, [.int (qI 1), .int (qI sz), .ref utx, .int (qI cu), .int (qI fa), .int (qI rdn), .ref uro, .ref urc, .ref urn, .ref urp, .ref ula, .int (qI n), .ref uop, .ref urg, .ref utg, .ref ude, .ref ule, .ref udn, .ref uv, .ref ub, .int (qI pl), .long (qL st), .int (qI on), .long (qL cn), .int (qI hd), .long (qL ps), .long (qL ss), .ref ubf, .ref ubh, .long (qL tk), .ref ukp, .ref uwa])), (utx, .inl (G.2.1, 120, .inl (qA x)))]) ∨ (((0 < m ∧ m < 9) ∧ m_rt ch m) ∧ 120 < sz + m ∧ v' = some (.int (qI 0)) ∧ ws' = [(u, .inr (5, [.int (qI 2), .int (qI sz), .ref utx, .int (qI cu), .int (qI fa), .int (qI rdn), .ref uro, .ref urc, .ref urn, .ref urp, .ref ula, .int (qI n), .ref uop, .ref urg, .ref utg, .ref ude, .ref ule, .ref udn, .ref uv, .ref ub, .int (qI pl), .long (qL st), .int (qI on), .long (qL cn), .int (qI hd), .long (qL ps), .long (qL ss), .ref ubf, .ref ubh, .long (qL tk), .ref ukp, .ref uwa])), (utx, .inl (G.2.1, 120, .inl (qA x)))]) ∨ (((0 < m ∧ m < 9) ∧ m_rt ch m) ∧ sz + m ≤ 120 ∧ v' = some (.int (qI (sz + m))) ∧ ws' = [(u, .inr (5, [.int (qI 0), .int (qI (sz + m)), .ref utx, .int (qI cu), .int (qI fa), .int (qI rdn), .ref uro, .ref urc, .ref urn, .ref urp, .ref ula, .int (qI n), .ref uop, .ref urg, .ref utg, .ref ude, .ref ule, .ref udn, .ref uv, .ref ub, .int (qI pl), .long (qL st), .int (qI on), .long (qL cn), .int (qI hd), .long (qL ps), .long (qL ss), .ref ubf, .ref ubh, .long (qL tk), .ref ukp, .ref uwa])), (utx, .inl (G.2.1, 120, .inl (qA (m_tx x sz ch m m))))])) := by
  refine qM.of (by decide) (Nat.le_of_ble_eq_true rfl) (fun xp xe xs xm xb xme xc A C hrt hlk hnm => ?_)
  refine qv_eq (lv' := [(0, .ref u), (1, .long (qL ch)), (3, .int (qI m))]) rfl rfl rfl ?_
  have J72 : ∀ (y : Int), ((y = 1 ∧ (0 < m ∧ m < 9) ∧ m_rt ch m) ∨ (y = 0 ∧ ¬ ((0 < m ∧ m < 9) ∧ m_rt ch m))) → qV xp l xe ({ frames := 0, cells := 0, slots := 0, locals := 0 }) xs xm [.ref u, .long (qL ch), .int (qI m)].toArray xb xme xc G A xs.heap 7 (MQ xb (qQ G A (fun v' ws' => (¬ ((0 < m ∧ m < 9) ∧ m_rt ch m) ∧ v' = some (.int (qI 0)) ∧ ws' = [(u, .inr (5, [.int (qI 1), .int (qI sz), .ref utx, .int (qI cu), .int (qI fa), .int (qI rdn), .ref uro, .ref urc, .ref urn, .ref urp, .ref ula, .int (qI n), .ref uop, .ref urg, .ref utg, .ref ude, .ref ule, .ref udn, .ref uv, .ref ub, .int (qI pl), .long (qL st), .int (qI on), .long (qL cn), .int (qI hd), .long (qL ps), .long (qL ss), .ref ubf, .ref ubh, .long (qL tk), .ref ukp, .ref uwa])), (utx, .inl (G.2.1, 120, .inl (qA x)))]) ∨ (((0 < m ∧ m < 9) ∧ m_rt ch m) ∧ 120 < sz + m ∧ v' = some (.int (qI 0)) ∧ ws' = [(u, .inr (5, [.int (qI 2), .int (qI sz), .ref utx, .int (qI cu), .int (qI fa), .int (qI rdn), .ref uro, .ref urc, .ref urn, .ref urp, .ref ula, .int (qI n), .ref uop, .ref urg, .ref utg, .ref ude, .ref ule, .ref udn, .ref uv, .ref ub, .int (qI pl), .long (qL st), .int (qI on), .long (qL cn), .int (qI hd), .long (qL ps), .long (qL ss), .ref ubf, .ref ubh, .long (qL tk), .ref ukp, .ref uwa])), (utx, .inl (G.2.1, 120, .inl (qA x)))]) ∨ (((0 < m ∧ m < 9) ∧ m_rt ch m) ∧ sz + m ≤ 120 ∧ v' = some (.int (qI (sz + m))) ∧ ws' = [(u, .inr (5, [.int (qI 0), .int (qI (sz + m)), .ref utx, .int (qI cu), .int (qI fa), .int (qI rdn), .ref uro, .ref urc, .ref urn, .ref urp, .ref ula, .int (qI n), .ref uop, .ref urg, .ref utg, .ref ude, .ref ule, .ref udn, .ref uv, .ref ub, .int (qI pl), .long (qL st), .int (qI on), .long (qL cn), .int (qI hd), .long (qL ps), .long (qL ss), .ref ubf, .ref ubh, .long (qL tk), .ref ukp, .ref uwa])), (utx, .inl (G.2.1, 120, .inl (qA (m_tx x sz ch m m))))]))) [.ref u, .long (qL ch), .int (qI m)].toArray xs 0 0 A) 0 0 [(u, .inr (5, [.int (qI cd), .int (qI sz), .ref utx, .int (qI cu), .int (qI fa), .int (qI rdn), .ref uro, .ref urc, .ref urn, .ref urp, .ref ula, .int (qI n), .ref uop, .ref urg, .ref utg, .ref ude, .ref ule, .ref udn, .ref uv, .ref ub, .int (qI pl), .long (qL st), .int (qI on), .long (qL cn), .int (qI hd), .long (qL ps), .long (qL ss), .ref ubf, .ref ubh, .long (qL tk), .ref ukp, .ref uwa])), (utx, .inl (G.2.1, 120, .inl (qA x)))] [(4, .int (qI y)), (0, .ref u), (1, .long (qL ch)), (3, .int (qI m))] 72 [] := by
    intro y hy2
    refine qv_aload_n C 1 d_D_type_72 rfl rfl ?_
    refine qv_iload C 0 d_D_type_73 rfl ?_
    refine qv_if_ne C d_D_type_75 (tgt := 82) (by decide) (by rcases hy2 with q | q <;> omega) (fun ht75 => ?_) (fun hf75 => ?_)
    · have hy3 := (hy2.resolve_right (fun q => by omega)).2
      have hy4 := hy3.1
      refine qv_aload_n C 1 d_D_type_82 rfl rfl ?_
      refine qv_get C in_D 0 rfl rfl 1 (by decide) wf_D_74 rfl rfl d_D_type_83 ?_
      refine qv_iload_n C 3 d_D_type_86 rfl rfl ?_
      refine qv_iadd C d_D_type_87 ?_
      refine qv_bipush C d_D_type_88 (by decide) ?_
      refine qv_icmp_le C d_D_type_90 (tgt := 97) (by decide) (by omega) (by omega) (fun ht90 => ?_) (fun hf90 => ?_)
      · refine qv_iconst C d_D_type_97 ?_
        refine qv_put C in_D 0 rfl rfl 0 (by decide) t_D t_D_ok n_D wf_D_68 rfl rfl (t_D_ok 0 (by decide)) (rfl) (rfl) (Nat.le_of_ble_eq_true rfl) d_D_type_98 (ws' := [(u, .inr (5, [.int (qI 0), .int (qI sz), .ref utx, .int (qI cu), .int (qI fa), .int (qI rdn), .ref uro, .ref urc, .ref urn, .ref urp, .ref ula, .int (qI n), .ref uop, .ref urg, .ref utg, .ref ude, .ref ule, .ref udn, .ref uv, .ref ub, .int (qI pl), .long (qL st), .int (qI on), .long (qL cn), .int (qI hd), .long (qL ps), .long (qL ss), .ref ubf, .ref ubh, .long (qL tk), .ref ukp, .ref uwa])), (utx, .inl (G.2.1, 120, .inl (qA x)))]) rfl ?_
        refine qv_aload_n C 1 d_D_type_101 rfl rfl ?_
        refine qv_get C in_D 0 rfl rfl 0 (by decide) wf_D_68 rfl rfl d_D_type_102 ?_
        refine qv_if_le C d_D_type_105 (tgt := 110) (by decide) (by omega) (fun ht105 => ?_) (fun hf105 => ?_)
        · refine qv_iload_n C 3 d_D_type_110 rfl rfl ?_
          refine qv_iconst C d_D_type_111 ?_
          refine qv_isub C d_D_type_112 ?_
          refine qv_istore C d_D_type_113 (by decide) (lv' := [(5, .int (qI (m - 1))), (4, .int (qI y)), (0, .ref u), (1, .long (qL ch)), (3, .int (qI m))]) rfl ?_
          have L115 : ∀ (N115 : Nat) (j : Int), (m - j).toNat < N115 → (0 ≤ j ∧ j ≤ m) → qV xp l xe ({ frames := 0, cells := 0, slots := 0, locals := 0 }) xs xm [.ref u, .long (qL ch), .int (qI m)].toArray xb xme xc G A xs.heap 7 (MQ xb (qQ G A (fun v' ws' => (¬ ((0 < m ∧ m < 9) ∧ m_rt ch m) ∧ v' = some (.int (qI 0)) ∧ ws' = [(u, .inr (5, [.int (qI 1), .int (qI sz), .ref utx, .int (qI cu), .int (qI fa), .int (qI rdn), .ref uro, .ref urc, .ref urn, .ref urp, .ref ula, .int (qI n), .ref uop, .ref urg, .ref utg, .ref ude, .ref ule, .ref udn, .ref uv, .ref ub, .int (qI pl), .long (qL st), .int (qI on), .long (qL cn), .int (qI hd), .long (qL ps), .long (qL ss), .ref ubf, .ref ubh, .long (qL tk), .ref ukp, .ref uwa])), (utx, .inl (G.2.1, 120, .inl (qA x)))]) ∨ (((0 < m ∧ m < 9) ∧ m_rt ch m) ∧ 120 < sz + m ∧ v' = some (.int (qI 0)) ∧ ws' = [(u, .inr (5, [.int (qI 2), .int (qI sz), .ref utx, .int (qI cu), .int (qI fa), .int (qI rdn), .ref uro, .ref urc, .ref urn, .ref urp, .ref ula, .int (qI n), .ref uop, .ref urg, .ref utg, .ref ude, .ref ule, .ref udn, .ref uv, .ref ub, .int (qI pl), .long (qL st), .int (qI on), .long (qL cn), .int (qI hd), .long (qL ps), .long (qL ss), .ref ubf, .ref ubh, .long (qL tk), .ref ukp, .ref uwa])), (utx, .inl (G.2.1, 120, .inl (qA x)))]) ∨ (((0 < m ∧ m < 9) ∧ m_rt ch m) ∧ sz + m ≤ 120 ∧ v' = some (.int (qI (sz + m))) ∧ ws' = [(u, .inr (5, [.int (qI 0), .int (qI (sz + m)), .ref utx, .int (qI cu), .int (qI fa), .int (qI rdn), .ref uro, .ref urc, .ref urn, .ref urp, .ref ula, .int (qI n), .ref uop, .ref urg, .ref utg, .ref ude, .ref ule, .ref udn, .ref uv, .ref ub, .int (qI pl), .long (qL st), .int (qI on), .long (qL cn), .int (qI hd), .long (qL ps), .long (qL ss), .ref ubf, .ref ubh, .long (qL tk), .ref ukp, .ref uwa])), (utx, .inl (G.2.1, 120, .inl (qA (m_tx x sz ch m m))))]))) [.ref u, .long (qL ch), .int (qI m)].toArray xs 0 0 A) 0 0 [(u, .inr (5, [.int (qI 0), .int (qI (sz + j)), .ref utx, .int (qI cu), .int (qI fa), .int (qI rdn), .ref uro, .ref urc, .ref urn, .ref urp, .ref ula, .int (qI n), .ref uop, .ref urg, .ref utg, .ref ude, .ref ule, .ref udn, .ref uv, .ref ub, .int (qI pl), .long (qL st), .int (qI on), .long (qL cn), .int (qI hd), .long (qL ps), .long (qL ss), .ref ubf, .ref ubh, .long (qL tk), .ref ukp, .ref uwa])), (utx, .inl (G.2.1, 120, .inl (qA (m_tx x sz ch m j))))] [(5, .int (qI (m - 1 - j))), (0, .ref u), (1, .long (qL ch))] 115 [] := by
            intro N115
            induction N115 with
            | zero => intro j hmu; exact absurd hmu (Nat.not_lt_zero _)
            | succ N115 ih115 =>
              intro j hmu115 hj
              refine qv_iload C 0 d_D_type_115 rfl ?_
              refine qv_if_lt C d_D_type_117 (tgt := 157) (by decide) (by omega) (fun ht117 => ?_) (fun hf117 => ?_)
              · refine qv_aload_n C 1 d_D_type_157 rfl rfl ?_
                refine qv_get C in_D 0 rfl rfl 1 (by decide) wf_D_74 rfl rfl d_D_type_158 ?_
                refine qv_iret C hrt hlk d_D_type_161 ?_
                obtain rfl : j = m := by omega
                exact Or.inr (Or.inr ⟨(hy2.resolve_right (fun q => by omega)).2, by omega, rfl, rfl⟩)
              · refine qv_aload_n C 1 d_D_type_120 rfl rfl ?_
                refine qv_get C in_D 0 rfl rfl 2 (by decide) wf_D_7 rfl rfl d_D_type_121 ?_
                refine qv_aload_n C 1 d_D_type_124 rfl rfl ?_
                refine qv_get C in_D 0 rfl rfl 1 (by decide) wf_D_74 rfl rfl d_D_type_125 ?_
                refine qv_lload_n C 2 d_D_type_128 rfl rfl ?_
                refine qv_bipush C d_D_type_129 (by decide) ?_
                refine qv_iload C 0 d_D_type_131 rfl ?_
                refine qv_imul C d_D_type_133 ?_
                refine qv_lshr C (z := ch / 2 ^ (8 * (m - 1 - j)).toNat) (m_by_D hch (by omega)) d_D_type_134 ?_
                refine qv_ldc2 C (n := 255) wk_D_72 (by decide) d_D_type_135 ?_
                refine qv_land C (z := (ch / 2 ^ (8 * (m - 1 - j)).toNat) % 256) (qL_and255 _) d_D_type_138 ?_
                refine qv_l2i C d_D_type_139 ?_
                refine qv_eq (st' := [.int (qI (m_by ch (m - 1 - j))), .int (qI (sz + j)), .ref utx]) rfl rfl (by rw [show ch / 2 ^ (8 * (m - 1 - j)).toNat % 256 = m_by ch (m - 1 - j) from rfl]) ?_
                refine qv_iast C 1 rfl (by omega) d_D_type_140 (ws' := [(u, .inr (5, [.int (qI 0), .int (qI (sz + j)), .ref utx, .int (qI cu), .int (qI fa), .int (qI rdn), .ref uro, .ref urc, .ref urn, .ref urp, .ref ula, .int (qI n), .ref uop, .ref urg, .ref utg, .ref ude, .ref ule, .ref udn, .ref uv, .ref ub, .int (qI pl), .long (qL st), .int (qI on), .long (qL cn), .int (qI hd), .long (qL ps), .long (qL ss), .ref ubf, .ref ubh, .long (qL tk), .ref ukp, .ref uwa])), (utx, .inl (G.2.1, 120, .inl (qA (qU (m_tx x sz ch m j) (sz + j) (m_by ch (m - 1 - j))))))]) rfl ?_
                refine qv_aload_n C 1 d_D_type_141 rfl rfl ?_
                refine qv_dup C d_D_type_142 rfl ?_
                refine qv_get C in_D 0 rfl rfl 1 (by decide) wf_D_74 rfl rfl d_D_type_143 ?_
                refine qv_iconst C d_D_type_146 ?_
                refine qv_iadd C d_D_type_147 ?_
                refine qv_put C in_D 0 rfl rfl 1 (by decide) t_D t_D_ok n_D wf_D_74 rfl rfl (t_D_ok 1 (by decide)) (rfl) (rfl) (Nat.le_of_ble_eq_true rfl) d_D_type_148 (ws' := [(u, .inr (5, [.int (qI 0), .int (qI ((sz + j) + 1)), .ref utx, .int (qI cu), .int (qI fa), .int (qI rdn), .ref uro, .ref urc, .ref urn, .ref urp, .ref ula, .int (qI n), .ref uop, .ref urg, .ref utg, .ref ude, .ref ule, .ref udn, .ref uv, .ref ub, .int (qI pl), .long (qL st), .int (qI on), .long (qL cn), .int (qI hd), .long (qL ps), .long (qL ss), .ref ubf, .ref ubh, .long (qL tk), .ref ukp, .ref uwa])), (utx, .inl (G.2.1, 120, .inl (qA (qU (m_tx x sz ch m j) (sz + j) (m_by ch (m - 1 - j))))))]) rfl ?_
                refine qv_iinc C 0 d_D_type_151 rfl (by decide) (lv' := [(5, .int (qI ((m - 1 - j) + (-1)))), (0, .ref u), (1, .long (qL ch))]) rfl ?_
                refine qv_goto C d_D_type_154 (by decide) (tgt := 115) ?_
                refine qv_eq (ws' := [(u, .inr (5, [.int (qI 0), .int (qI (sz + (j + 1))), .ref utx, .int (qI cu), .int (qI fa), .int (qI rdn), .ref uro, .ref urc, .ref urn, .ref urp, .ref ula, .int (qI n), .ref uop, .ref urg, .ref utg, .ref ude, .ref ule, .ref udn, .ref uv, .ref ub, .int (qI pl), .long (qL st), .int (qI on), .long (qL cn), .int (qI hd), .long (qL ps), .long (qL ss), .ref ubf, .ref ubh, .long (qL tk), .ref ukp, .ref uwa])), (utx, .inl (G.2.1, 120, .inl (qA (m_tx x sz ch m (j + 1)))))]) (lv' := [(5, .int (qI (m - 1 - (j + 1)))), (0, .ref u), (1, .long (qL ch))]) (by rw [m_tx_s hj.1, show sz + (j + 1) = sz + j + 1 by omega]) (by rw [show m - 1 - (j + 1) = m - 1 - j + (-1) by omega]) rfl ?_
                exact ih115 (j + 1) (by omega) (by first | assumption | omega)
          refine qv_lv (lv' := [(5, .int (qI (m - 1))), (0, .ref u), (1, .long (qL ch))]) [0, 2, 3] rfl ?_
          refine qv_eq (ws' := [(u, .inr (5, [.int (qI 0), .int (qI (sz + 0)), .ref utx, .int (qI cu), .int (qI fa), .int (qI rdn), .ref uro, .ref urc, .ref urn, .ref urp, .ref ula, .int (qI n), .ref uop, .ref urg, .ref utg, .ref ude, .ref ule, .ref udn, .ref uv, .ref ub, .int (qI pl), .long (qL st), .int (qI on), .long (qL cn), .int (qI hd), .long (qL ps), .long (qL ss), .ref ubf, .ref ubh, .long (qL tk), .ref ukp, .ref uwa])), (utx, .inl (G.2.1, 120, .inl (qA (m_tx x sz ch m 0))))]) (lv' := [(5, .int (qI (m - 1 - 0))), (0, .ref u), (1, .long (qL ch))]) (by rw [m_tx_0, show sz + 0 = sz by omega]) (by rw [show m - 1 - 0 = m - 1 by omega]) rfl ?_
          exact L115 _ 0 (Nat.lt_succ_self _) (by first | assumption | omega)
        · exfalso; omega
      · refine qv_iconst C d_D_type_93 ?_
        refine qv_goto C d_D_type_94 (by decide) (tgt := 98) ?_
        refine qv_put C in_D 0 rfl rfl 0 (by decide) t_D t_D_ok n_D wf_D_68 rfl rfl (t_D_ok 0 (by decide)) (rfl) (rfl) (Nat.le_of_ble_eq_true rfl) d_D_type_98 (ws' := [(u, .inr (5, [.int (qI 2), .int (qI sz), .ref utx, .int (qI cu), .int (qI fa), .int (qI rdn), .ref uro, .ref urc, .ref urn, .ref urp, .ref ula, .int (qI n), .ref uop, .ref urg, .ref utg, .ref ude, .ref ule, .ref udn, .ref uv, .ref ub, .int (qI pl), .long (qL st), .int (qI on), .long (qL cn), .int (qI hd), .long (qL ps), .long (qL ss), .ref ubf, .ref ubh, .long (qL tk), .ref ukp, .ref uwa])), (utx, .inl (G.2.1, 120, .inl (qA x)))]) rfl ?_
        refine qv_aload_n C 1 d_D_type_101 rfl rfl ?_
        refine qv_get C in_D 0 rfl rfl 0 (by decide) wf_D_68 rfl rfl d_D_type_102 ?_
        refine qv_if_le C d_D_type_105 (tgt := 110) (by decide) (by omega) (fun ht105 => ?_) (fun hf105 => ?_)
        · exfalso; omega
        · refine qv_iconst C d_D_type_108 ?_
          refine qv_iret C hrt hlk d_D_type_109 ?_
          first | (exfalso; omega) | exact Or.inl ⟨(hy2.resolve_left (fun q => by omega)).2, rfl, rfl⟩ | exact Or.inr (Or.inl ⟨(hy2.resolve_right (fun q => by omega)).2, by omega, rfl, rfl⟩)
    · refine qv_iconst C d_D_type_78 ?_
      refine qv_goto C d_D_type_79 (by decide) (tgt := 98) ?_
      refine qv_put C in_D 0 rfl rfl 0 (by decide) t_D t_D_ok n_D wf_D_68 rfl rfl (t_D_ok 0 (by decide)) (rfl) (rfl) (Nat.le_of_ble_eq_true rfl) d_D_type_98 (ws' := [(u, .inr (5, [.int (qI 1), .int (qI sz), .ref utx, .int (qI cu), .int (qI fa), .int (qI rdn), .ref uro, .ref urc, .ref urn, .ref urp, .ref ula, .int (qI n), .ref uop, .ref urg, .ref utg, .ref ude, .ref ule, .ref udn, .ref uv, .ref ub, .int (qI pl), .long (qL st), .int (qI on), .long (qL cn), .int (qI hd), .long (qL ps), .long (qL ss), .ref ubf, .ref ubh, .long (qL tk), .ref ukp, .ref uwa])), (utx, .inl (G.2.1, 120, .inl (qA x)))]) rfl ?_
      refine qv_aload_n C 1 d_D_type_101 rfl rfl ?_
      refine qv_get C in_D 0 rfl rfl 0 (by decide) wf_D_68 rfl rfl d_D_type_102 ?_
      refine qv_if_le C d_D_type_105 (tgt := 110) (by decide) (by omega) (fun ht105 => ?_) (fun hf105 => ?_)
      · exfalso; omega
      · refine qv_iconst C d_D_type_108 ?_
        refine qv_iret C hrt hlk d_D_type_109 ?_
        first | (exfalso; omega) | exact Or.inl ⟨(hy2.resolve_left (fun q => by omega)).2, rfl, rfl⟩ | exact Or.inr (Or.inl ⟨(hy2.resolve_right (fun q => by omega)).2, by omega, rfl, rfl⟩)
  refine qv_iload_n C 2 d_D_type_0 rfl rfl ?_
  refine qv_if_le C d_D_type_1 (tgt := 14) (by decide) (by omega) (fun ht1 => ?_) (fun hf1 => ?_)
  · refine qv_iconst C d_D_type_14 ?_
    refine qv_istore C d_D_type_15 (by decide) (lv' := [(4, .int (qI 0)), (0, .ref u), (1, .long (qL ch)), (3, .int (qI m))]) rfl ?_
    refine qv_iconst C d_D_type_17 ?_
    refine qv_istore C d_D_type_18 (by decide) (lv' := [(5, .int (qI 0)), (4, .int (qI 0)), (0, .ref u), (1, .long (qL ch)), (3, .int (qI m))]) rfl ?_
    have L20 : ∀ (N20 : Nat) (y : Int) (i : Int), (m - i).toNat < N20 → (0 ≤ i ∧ i ≤ 9) → ((y = 1 ∧ (0 < m ∧ m < 9) ∧ i ≤ m ∧ m_rt ch i) ∨ (y = 0 ∧ ¬ (0 < m ∧ m < 9)) ∨ (y = 0 ∧ (0 < m ∧ m < 9) ∧ m_rb ch m)) → qV xp l xe ({ frames := 0, cells := 0, slots := 0, locals := 0 }) xs xm [.ref u, .long (qL ch), .int (qI m)].toArray xb xme xc G A xs.heap 7 (MQ xb (qQ G A (fun v' ws' => (¬ ((0 < m ∧ m < 9) ∧ m_rt ch m) ∧ v' = some (.int (qI 0)) ∧ ws' = [(u, .inr (5, [.int (qI 1), .int (qI sz), .ref utx, .int (qI cu), .int (qI fa), .int (qI rdn), .ref uro, .ref urc, .ref urn, .ref urp, .ref ula, .int (qI n), .ref uop, .ref urg, .ref utg, .ref ude, .ref ule, .ref udn, .ref uv, .ref ub, .int (qI pl), .long (qL st), .int (qI on), .long (qL cn), .int (qI hd), .long (qL ps), .long (qL ss), .ref ubf, .ref ubh, .long (qL tk), .ref ukp, .ref uwa])), (utx, .inl (G.2.1, 120, .inl (qA x)))]) ∨ (((0 < m ∧ m < 9) ∧ m_rt ch m) ∧ 120 < sz + m ∧ v' = some (.int (qI 0)) ∧ ws' = [(u, .inr (5, [.int (qI 2), .int (qI sz), .ref utx, .int (qI cu), .int (qI fa), .int (qI rdn), .ref uro, .ref urc, .ref urn, .ref urp, .ref ula, .int (qI n), .ref uop, .ref urg, .ref utg, .ref ude, .ref ule, .ref udn, .ref uv, .ref ub, .int (qI pl), .long (qL st), .int (qI on), .long (qL cn), .int (qI hd), .long (qL ps), .long (qL ss), .ref ubf, .ref ubh, .long (qL tk), .ref ukp, .ref uwa])), (utx, .inl (G.2.1, 120, .inl (qA x)))]) ∨ (((0 < m ∧ m < 9) ∧ m_rt ch m) ∧ sz + m ≤ 120 ∧ v' = some (.int (qI (sz + m))) ∧ ws' = [(u, .inr (5, [.int (qI 0), .int (qI (sz + m)), .ref utx, .int (qI cu), .int (qI fa), .int (qI rdn), .ref uro, .ref urc, .ref urn, .ref urp, .ref ula, .int (qI n), .ref uop, .ref urg, .ref utg, .ref ude, .ref ule, .ref udn, .ref uv, .ref ub, .int (qI pl), .long (qL st), .int (qI on), .long (qL cn), .int (qI hd), .long (qL ps), .long (qL ss), .ref ubf, .ref ubh, .long (qL tk), .ref ukp, .ref uwa])), (utx, .inl (G.2.1, 120, .inl (qA (m_tx x sz ch m m))))]))) [.ref u, .long (qL ch), .int (qI m)].toArray xs 0 0 A) 0 0 [(u, .inr (5, [.int (qI cd), .int (qI sz), .ref utx, .int (qI cu), .int (qI fa), .int (qI rdn), .ref uro, .ref urc, .ref urn, .ref urp, .ref ula, .int (qI n), .ref uop, .ref urg, .ref utg, .ref ude, .ref ule, .ref udn, .ref uv, .ref ub, .int (qI pl), .long (qL st), .int (qI on), .long (qL cn), .int (qI hd), .long (qL ps), .long (qL ss), .ref ubf, .ref ubh, .long (qL tk), .ref ukp, .ref uwa])), (utx, .inl (G.2.1, 120, .inl (qA x)))] [(4, .int (qI y)), (5, .int (qI i)), (0, .ref u), (1, .long (qL ch)), (3, .int (qI m))] 20 [] := by
      intro N20
      induction N20 with
      | zero => intro y i hmu; exact absurd hmu (Nat.not_lt_zero _)
      | succ N20 ih20 =>
        intro y i hmu20 hi hy
        refine qv_iload C 1 d_D_type_20 rfl ?_
        refine qv_iload_n C 4 d_D_type_22 rfl rfl ?_
        refine qv_icmp_ge C d_D_type_23 (tgt := 72) (by decide) (by omega) (by omega) (fun ht23 => ?_) (fun hf23 => ?_)
        · refine qv_lv (lv' := [(4, .int (qI y)), (0, .ref u), (1, .long (qL ch)), (3, .int (qI m))]) [0, 2, 3, 4] rfl ?_
          exact J72 y (by rcases hy with ⟨q1, q2, q3, q4⟩ | ⟨q1, q2⟩ | ⟨q1, q2, q3⟩; (· first | (exfalso; omega) | exact Or.inl ⟨q1, q2, by rw [show m = i by omega]; exact q4⟩); (· exact Or.inr ⟨q1, fun h => q2 h.1⟩); (· exact Or.inr ⟨q1, fun h => m_rb_n q3 h.2⟩))
        · refine qv_iload C 0 d_D_type_26 rfl ?_
          refine qv_if_eq C d_D_type_28 (tgt := 72) (by decide) (by rcases hy with q | q | q <;> omega) (fun ht28 => ?_) (fun hf28 => ?_)
          · refine qv_lv (lv' := [(4, .int (qI y)), (0, .ref u), (1, .long (qL ch)), (3, .int (qI m))]) [0, 2, 3, 4] rfl ?_
            exact J72 y (by rcases hy with ⟨q1, q2, q3, q4⟩ | ⟨q1, q2⟩ | ⟨q1, q2, q3⟩; (· first | (exfalso; omega) | exact Or.inl ⟨q1, q2, by rw [show m = i by omega]; exact q4⟩); (· exact Or.inr ⟨q1, fun h => q2 h.1⟩); (· exact Or.inr ⟨q1, fun h => m_rb_n q3 h.2⟩))
          · have hy1 := hy.resolve_right (fun q => by rcases q with q | q <;> omega)
            refine qv_lload_n C 3 d_D_type_31 rfl rfl ?_
            refine qv_bipush C d_D_type_32 (by decide) ?_
            refine qv_iload C 1 d_D_type_34 rfl ?_
            refine qv_imul C d_D_type_36 ?_
            refine qv_lshr C (z := ch / 2 ^ (8 * i).toNat) (m_by_D hch (by omega)) d_D_type_37 ?_
            refine qv_ldc2 C (n := 255) wk_D_72 (by decide) d_D_type_38 ?_
            refine qv_land C (z := (ch / 2 ^ (8 * i).toNat) % 256) (qL_and255 _) d_D_type_41 ?_
            refine qv_l2i C d_D_type_42 ?_
            refine qv_eq (st' := [.int (qI (m_by ch i))]) rfl rfl (by rw [show ch / 2 ^ (8 * i).toNat % 256 = m_by ch i from rfl]) ?_
            have hby := m_by_rg ch i
            refine qv_istore C d_D_type_43 (by decide) (lv' := [(6, .int (qI (m_by ch i))), (4, .int (qI y)), (5, .int (qI i)), (0, .ref u), (1, .long (qL ch)), (3, .int (qI m))]) rfl ?_
            refine qv_iload C 0 d_D_type_45 rfl ?_
            refine qv_bipush C d_D_type_47 (by decide) ?_
            refine qv_icmp_le C d_D_type_49 (tgt := 63) (by decide) (by omega) (by omega) (fun ht49 => ?_) (fun hf49 => ?_)
            · refine qv_iconst C d_D_type_63 ?_
              refine qv_istore C d_D_type_64 (by decide) (lv' := [(4, .int (qI 0)), (6, .int (qI (m_by ch i))), (5, .int (qI i)), (0, .ref u), (1, .long (qL ch)), (3, .int (qI m))]) rfl ?_
              refine qv_iinc C 2 d_D_type_66 rfl (by decide) (lv' := [(5, .int (qI (i + 1))), (4, .int (qI 0)), (6, .int (qI (m_by ch i))), (0, .ref u), (1, .long (qL ch)), (3, .int (qI m))]) rfl ?_
              refine qv_goto C d_D_type_69 (by decide) (tgt := 20) ?_
              refine qv_lv (lv' := [(4, .int (qI 0)), (5, .int (qI (i + 1))), (0, .ref u), (1, .long (qL ch)), (3, .int (qI m))]) [1, 0, 3, 4, 5] rfl ?_
              exact ih20 0 (i + 1) (by omega) (by omega) (Or.inr (Or.inr ⟨rfl, hy1.2.1, m_rb_i (i := i) (by omega) (by omega)⟩))
            · refine qv_iload C 0 d_D_type_52 rfl ?_
              refine qv_bipush C d_D_type_54 (by decide) ?_
              refine qv_icmp_ge C d_D_type_56 (tgt := 63) (by decide) (by omega) (by omega) (fun ht56 => ?_) (fun hf56 => ?_)
              · refine qv_iconst C d_D_type_63 ?_
                refine qv_istore C d_D_type_64 (by decide) (lv' := [(4, .int (qI 0)), (6, .int (qI (m_by ch i))), (5, .int (qI i)), (0, .ref u), (1, .long (qL ch)), (3, .int (qI m))]) rfl ?_
                refine qv_iinc C 2 d_D_type_66 rfl (by decide) (lv' := [(5, .int (qI (i + 1))), (4, .int (qI 0)), (6, .int (qI (m_by ch i))), (0, .ref u), (1, .long (qL ch)), (3, .int (qI m))]) rfl ?_
                refine qv_goto C d_D_type_69 (by decide) (tgt := 20) ?_
                refine qv_lv (lv' := [(4, .int (qI 0)), (5, .int (qI (i + 1))), (0, .ref u), (1, .long (qL ch)), (3, .int (qI m))]) [1, 0, 3, 4, 5] rfl ?_
                exact ih20 0 (i + 1) (by omega) (by omega) (Or.inr (Or.inr ⟨rfl, hy1.2.1, m_rb_i (i := i) (by omega) (by omega)⟩))
              · refine qv_iconst C d_D_type_59 ?_
                refine qv_goto C d_D_type_60 (by decide) (tgt := 64) ?_
                refine qv_istore C d_D_type_64 (by decide) (lv' := [(4, .int (qI 1)), (6, .int (qI (m_by ch i))), (5, .int (qI i)), (0, .ref u), (1, .long (qL ch)), (3, .int (qI m))]) rfl ?_
                refine qv_iinc C 2 d_D_type_66 rfl (by decide) (lv' := [(5, .int (qI (i + 1))), (4, .int (qI 1)), (6, .int (qI (m_by ch i))), (0, .ref u), (1, .long (qL ch)), (3, .int (qI m))]) rfl ?_
                refine qv_goto C d_D_type_69 (by decide) (tgt := 20) ?_
                refine qv_lv (lv' := [(4, .int (qI 1)), (5, .int (qI (i + 1))), (0, .ref u), (1, .long (qL ch)), (3, .int (qI m))]) [1, 0, 3, 4, 5] rfl ?_
                exact ih20 1 (i + 1) (by omega) (by omega) (Or.inl ⟨rfl, hy1.2.1, by omega, m_rt_s hy1.2.2.2 (by omega)⟩)
    refine qv_lv (lv' := [(4, .int (qI 0)), (5, .int (qI 0)), (0, .ref u), (1, .long (qL ch)), (3, .int (qI m))]) [1, 0, 2, 3, 4] rfl ?_
    exact L20 _ 0 0 (Nat.lt_succ_self _) (by omega) (Or.inr (Or.inl ⟨rfl, by omega⟩))
  · refine qv_iload_n C 2 d_D_type_4 rfl rfl ?_
    refine qv_bipush C d_D_type_5 (by decide) ?_
    refine qv_icmp_ge C d_D_type_7 (tgt := 14) (by decide) (by omega) (by omega) (fun ht7 => ?_) (fun hf7 => ?_)
    · refine qv_iconst C d_D_type_14 ?_
      refine qv_istore C d_D_type_15 (by decide) (lv' := [(4, .int (qI 0)), (0, .ref u), (1, .long (qL ch)), (3, .int (qI m))]) rfl ?_
      refine qv_iconst C d_D_type_17 ?_
      refine qv_istore C d_D_type_18 (by decide) (lv' := [(5, .int (qI 0)), (4, .int (qI 0)), (0, .ref u), (1, .long (qL ch)), (3, .int (qI m))]) rfl ?_
      have L20 : ∀ (N20 : Nat) (y : Int) (i : Int), (m - i).toNat < N20 → (0 ≤ i ∧ i ≤ 9) → ((y = 1 ∧ (0 < m ∧ m < 9) ∧ i ≤ m ∧ m_rt ch i) ∨ (y = 0 ∧ ¬ (0 < m ∧ m < 9)) ∨ (y = 0 ∧ (0 < m ∧ m < 9) ∧ m_rb ch m)) → qV xp l xe ({ frames := 0, cells := 0, slots := 0, locals := 0 }) xs xm [.ref u, .long (qL ch), .int (qI m)].toArray xb xme xc G A xs.heap 7 (MQ xb (qQ G A (fun v' ws' => (¬ ((0 < m ∧ m < 9) ∧ m_rt ch m) ∧ v' = some (.int (qI 0)) ∧ ws' = [(u, .inr (5, [.int (qI 1), .int (qI sz), .ref utx, .int (qI cu), .int (qI fa), .int (qI rdn), .ref uro, .ref urc, .ref urn, .ref urp, .ref ula, .int (qI n), .ref uop, .ref urg, .ref utg, .ref ude, .ref ule, .ref udn, .ref uv, .ref ub, .int (qI pl), .long (qL st), .int (qI on), .long (qL cn), .int (qI hd), .long (qL ps), .long (qL ss), .ref ubf, .ref ubh, .long (qL tk), .ref ukp, .ref uwa])), (utx, .inl (G.2.1, 120, .inl (qA x)))]) ∨ (((0 < m ∧ m < 9) ∧ m_rt ch m) ∧ 120 < sz + m ∧ v' = some (.int (qI 0)) ∧ ws' = [(u, .inr (5, [.int (qI 2), .int (qI sz), .ref utx, .int (qI cu), .int (qI fa), .int (qI rdn), .ref uro, .ref urc, .ref urn, .ref urp, .ref ula, .int (qI n), .ref uop, .ref urg, .ref utg, .ref ude, .ref ule, .ref udn, .ref uv, .ref ub, .int (qI pl), .long (qL st), .int (qI on), .long (qL cn), .int (qI hd), .long (qL ps), .long (qL ss), .ref ubf, .ref ubh, .long (qL tk), .ref ukp, .ref uwa])), (utx, .inl (G.2.1, 120, .inl (qA x)))]) ∨ (((0 < m ∧ m < 9) ∧ m_rt ch m) ∧ sz + m ≤ 120 ∧ v' = some (.int (qI (sz + m))) ∧ ws' = [(u, .inr (5, [.int (qI 0), .int (qI (sz + m)), .ref utx, .int (qI cu), .int (qI fa), .int (qI rdn), .ref uro, .ref urc, .ref urn, .ref urp, .ref ula, .int (qI n), .ref uop, .ref urg, .ref utg, .ref ude, .ref ule, .ref udn, .ref uv, .ref ub, .int (qI pl), .long (qL st), .int (qI on), .long (qL cn), .int (qI hd), .long (qL ps), .long (qL ss), .ref ubf, .ref ubh, .long (qL tk), .ref ukp, .ref uwa])), (utx, .inl (G.2.1, 120, .inl (qA (m_tx x sz ch m m))))]))) [.ref u, .long (qL ch), .int (qI m)].toArray xs 0 0 A) 0 0 [(u, .inr (5, [.int (qI cd), .int (qI sz), .ref utx, .int (qI cu), .int (qI fa), .int (qI rdn), .ref uro, .ref urc, .ref urn, .ref urp, .ref ula, .int (qI n), .ref uop, .ref urg, .ref utg, .ref ude, .ref ule, .ref udn, .ref uv, .ref ub, .int (qI pl), .long (qL st), .int (qI on), .long (qL cn), .int (qI hd), .long (qL ps), .long (qL ss), .ref ubf, .ref ubh, .long (qL tk), .ref ukp, .ref uwa])), (utx, .inl (G.2.1, 120, .inl (qA x)))] [(4, .int (qI y)), (5, .int (qI i)), (0, .ref u), (1, .long (qL ch)), (3, .int (qI m))] 20 [] := by
        intro N20
        induction N20 with
        | zero => intro y i hmu; exact absurd hmu (Nat.not_lt_zero _)
        | succ N20 ih20 =>
          intro y i hmu20 hi hy
          refine qv_iload C 1 d_D_type_20 rfl ?_
          refine qv_iload_n C 4 d_D_type_22 rfl rfl ?_
          refine qv_icmp_ge C d_D_type_23 (tgt := 72) (by decide) (by omega) (by omega) (fun ht23 => ?_) (fun hf23 => ?_)
          · refine qv_lv (lv' := [(4, .int (qI y)), (0, .ref u), (1, .long (qL ch)), (3, .int (qI m))]) [0, 2, 3, 4] rfl ?_
            exact J72 y (by rcases hy with ⟨q1, q2, q3, q4⟩ | ⟨q1, q2⟩ | ⟨q1, q2, q3⟩; (· first | (exfalso; omega) | exact Or.inl ⟨q1, q2, by rw [show m = i by omega]; exact q4⟩); (· exact Or.inr ⟨q1, fun h => q2 h.1⟩); (· exact Or.inr ⟨q1, fun h => m_rb_n q3 h.2⟩))
          · refine qv_iload C 0 d_D_type_26 rfl ?_
            refine qv_if_eq C d_D_type_28 (tgt := 72) (by decide) (by rcases hy with q | q | q <;> omega) (fun ht28 => ?_) (fun hf28 => ?_)
            · refine qv_lv (lv' := [(4, .int (qI y)), (0, .ref u), (1, .long (qL ch)), (3, .int (qI m))]) [0, 2, 3, 4] rfl ?_
              exact J72 y (by rcases hy with ⟨q1, q2, q3, q4⟩ | ⟨q1, q2⟩ | ⟨q1, q2, q3⟩; (· first | (exfalso; omega) | exact Or.inl ⟨q1, q2, by rw [show m = i by omega]; exact q4⟩); (· exact Or.inr ⟨q1, fun h => q2 h.1⟩); (· exact Or.inr ⟨q1, fun h => m_rb_n q3 h.2⟩))
            · have hy1 := hy.resolve_right (fun q => by rcases q with q | q <;> omega)
              refine qv_lload_n C 3 d_D_type_31 rfl rfl ?_
              refine qv_bipush C d_D_type_32 (by decide) ?_
              refine qv_iload C 1 d_D_type_34 rfl ?_
              refine qv_imul C d_D_type_36 ?_
              refine qv_lshr C (z := ch / 2 ^ (8 * i).toNat) (m_by_D hch (by omega)) d_D_type_37 ?_
              refine qv_ldc2 C (n := 255) wk_D_72 (by decide) d_D_type_38 ?_
              refine qv_land C (z := (ch / 2 ^ (8 * i).toNat) % 256) (qL_and255 _) d_D_type_41 ?_
              refine qv_l2i C d_D_type_42 ?_
              refine qv_eq (st' := [.int (qI (m_by ch i))]) rfl rfl (by rw [show ch / 2 ^ (8 * i).toNat % 256 = m_by ch i from rfl]) ?_
              have hby := m_by_rg ch i
              refine qv_istore C d_D_type_43 (by decide) (lv' := [(6, .int (qI (m_by ch i))), (4, .int (qI y)), (5, .int (qI i)), (0, .ref u), (1, .long (qL ch)), (3, .int (qI m))]) rfl ?_
              refine qv_iload C 0 d_D_type_45 rfl ?_
              refine qv_bipush C d_D_type_47 (by decide) ?_
              refine qv_icmp_le C d_D_type_49 (tgt := 63) (by decide) (by omega) (by omega) (fun ht49 => ?_) (fun hf49 => ?_)
              · refine qv_iconst C d_D_type_63 ?_
                refine qv_istore C d_D_type_64 (by decide) (lv' := [(4, .int (qI 0)), (6, .int (qI (m_by ch i))), (5, .int (qI i)), (0, .ref u), (1, .long (qL ch)), (3, .int (qI m))]) rfl ?_
                refine qv_iinc C 2 d_D_type_66 rfl (by decide) (lv' := [(5, .int (qI (i + 1))), (4, .int (qI 0)), (6, .int (qI (m_by ch i))), (0, .ref u), (1, .long (qL ch)), (3, .int (qI m))]) rfl ?_
                refine qv_goto C d_D_type_69 (by decide) (tgt := 20) ?_
                refine qv_lv (lv' := [(4, .int (qI 0)), (5, .int (qI (i + 1))), (0, .ref u), (1, .long (qL ch)), (3, .int (qI m))]) [1, 0, 3, 4, 5] rfl ?_
                exact ih20 0 (i + 1) (by omega) (by omega) (Or.inr (Or.inr ⟨rfl, hy1.2.1, m_rb_i (i := i) (by omega) (by omega)⟩))
              · refine qv_iload C 0 d_D_type_52 rfl ?_
                refine qv_bipush C d_D_type_54 (by decide) ?_
                refine qv_icmp_ge C d_D_type_56 (tgt := 63) (by decide) (by omega) (by omega) (fun ht56 => ?_) (fun hf56 => ?_)
                · refine qv_iconst C d_D_type_63 ?_
                  refine qv_istore C d_D_type_64 (by decide) (lv' := [(4, .int (qI 0)), (6, .int (qI (m_by ch i))), (5, .int (qI i)), (0, .ref u), (1, .long (qL ch)), (3, .int (qI m))]) rfl ?_
                  refine qv_iinc C 2 d_D_type_66 rfl (by decide) (lv' := [(5, .int (qI (i + 1))), (4, .int (qI 0)), (6, .int (qI (m_by ch i))), (0, .ref u), (1, .long (qL ch)), (3, .int (qI m))]) rfl ?_
                  refine qv_goto C d_D_type_69 (by decide) (tgt := 20) ?_
                  refine qv_lv (lv' := [(4, .int (qI 0)), (5, .int (qI (i + 1))), (0, .ref u), (1, .long (qL ch)), (3, .int (qI m))]) [1, 0, 3, 4, 5] rfl ?_
                  exact ih20 0 (i + 1) (by omega) (by omega) (Or.inr (Or.inr ⟨rfl, hy1.2.1, m_rb_i (i := i) (by omega) (by omega)⟩))
                · refine qv_iconst C d_D_type_59 ?_
                  refine qv_goto C d_D_type_60 (by decide) (tgt := 64) ?_
                  refine qv_istore C d_D_type_64 (by decide) (lv' := [(4, .int (qI 1)), (6, .int (qI (m_by ch i))), (5, .int (qI i)), (0, .ref u), (1, .long (qL ch)), (3, .int (qI m))]) rfl ?_
                  refine qv_iinc C 2 d_D_type_66 rfl (by decide) (lv' := [(5, .int (qI (i + 1))), (4, .int (qI 1)), (6, .int (qI (m_by ch i))), (0, .ref u), (1, .long (qL ch)), (3, .int (qI m))]) rfl ?_
                  refine qv_goto C d_D_type_69 (by decide) (tgt := 20) ?_
                  refine qv_lv (lv' := [(4, .int (qI 1)), (5, .int (qI (i + 1))), (0, .ref u), (1, .long (qL ch)), (3, .int (qI m))]) [1, 0, 3, 4, 5] rfl ?_
                  exact ih20 1 (i + 1) (by omega) (by omega) (Or.inl ⟨rfl, hy1.2.1, by omega, m_rt_s hy1.2.2.2 (by omega)⟩)
      refine qv_lv (lv' := [(4, .int (qI 0)), (5, .int (qI 0)), (0, .ref u), (1, .long (qL ch)), (3, .int (qI m))]) [1, 0, 2, 3, 4] rfl ?_
      exact L20 _ 0 0 (Nat.lt_succ_self _) (by omega) (Or.inr (Or.inl ⟨rfl, by omega⟩))
    · refine qv_iconst C d_D_type_10 ?_
      refine qv_goto C d_D_type_11 (by decide) (tgt := 15) ?_
      refine qv_istore C d_D_type_15 (by decide) (lv' := [(4, .int (qI 1)), (0, .ref u), (1, .long (qL ch)), (3, .int (qI m))]) rfl ?_
      refine qv_iconst C d_D_type_17 ?_
      refine qv_istore C d_D_type_18 (by decide) (lv' := [(5, .int (qI 0)), (4, .int (qI 1)), (0, .ref u), (1, .long (qL ch)), (3, .int (qI m))]) rfl ?_
      have L20 : ∀ (N20 : Nat) (y : Int) (i : Int), (m - i).toNat < N20 → (0 ≤ i ∧ i ≤ 9) → ((y = 1 ∧ (0 < m ∧ m < 9) ∧ i ≤ m ∧ m_rt ch i) ∨ (y = 0 ∧ ¬ (0 < m ∧ m < 9)) ∨ (y = 0 ∧ (0 < m ∧ m < 9) ∧ m_rb ch m)) → qV xp l xe ({ frames := 0, cells := 0, slots := 0, locals := 0 }) xs xm [.ref u, .long (qL ch), .int (qI m)].toArray xb xme xc G A xs.heap 7 (MQ xb (qQ G A (fun v' ws' => (¬ ((0 < m ∧ m < 9) ∧ m_rt ch m) ∧ v' = some (.int (qI 0)) ∧ ws' = [(u, .inr (5, [.int (qI 1), .int (qI sz), .ref utx, .int (qI cu), .int (qI fa), .int (qI rdn), .ref uro, .ref urc, .ref urn, .ref urp, .ref ula, .int (qI n), .ref uop, .ref urg, .ref utg, .ref ude, .ref ule, .ref udn, .ref uv, .ref ub, .int (qI pl), .long (qL st), .int (qI on), .long (qL cn), .int (qI hd), .long (qL ps), .long (qL ss), .ref ubf, .ref ubh, .long (qL tk), .ref ukp, .ref uwa])), (utx, .inl (G.2.1, 120, .inl (qA x)))]) ∨ (((0 < m ∧ m < 9) ∧ m_rt ch m) ∧ 120 < sz + m ∧ v' = some (.int (qI 0)) ∧ ws' = [(u, .inr (5, [.int (qI 2), .int (qI sz), .ref utx, .int (qI cu), .int (qI fa), .int (qI rdn), .ref uro, .ref urc, .ref urn, .ref urp, .ref ula, .int (qI n), .ref uop, .ref urg, .ref utg, .ref ude, .ref ule, .ref udn, .ref uv, .ref ub, .int (qI pl), .long (qL st), .int (qI on), .long (qL cn), .int (qI hd), .long (qL ps), .long (qL ss), .ref ubf, .ref ubh, .long (qL tk), .ref ukp, .ref uwa])), (utx, .inl (G.2.1, 120, .inl (qA x)))]) ∨ (((0 < m ∧ m < 9) ∧ m_rt ch m) ∧ sz + m ≤ 120 ∧ v' = some (.int (qI (sz + m))) ∧ ws' = [(u, .inr (5, [.int (qI 0), .int (qI (sz + m)), .ref utx, .int (qI cu), .int (qI fa), .int (qI rdn), .ref uro, .ref urc, .ref urn, .ref urp, .ref ula, .int (qI n), .ref uop, .ref urg, .ref utg, .ref ude, .ref ule, .ref udn, .ref uv, .ref ub, .int (qI pl), .long (qL st), .int (qI on), .long (qL cn), .int (qI hd), .long (qL ps), .long (qL ss), .ref ubf, .ref ubh, .long (qL tk), .ref ukp, .ref uwa])), (utx, .inl (G.2.1, 120, .inl (qA (m_tx x sz ch m m))))]))) [.ref u, .long (qL ch), .int (qI m)].toArray xs 0 0 A) 0 0 [(u, .inr (5, [.int (qI cd), .int (qI sz), .ref utx, .int (qI cu), .int (qI fa), .int (qI rdn), .ref uro, .ref urc, .ref urn, .ref urp, .ref ula, .int (qI n), .ref uop, .ref urg, .ref utg, .ref ude, .ref ule, .ref udn, .ref uv, .ref ub, .int (qI pl), .long (qL st), .int (qI on), .long (qL cn), .int (qI hd), .long (qL ps), .long (qL ss), .ref ubf, .ref ubh, .long (qL tk), .ref ukp, .ref uwa])), (utx, .inl (G.2.1, 120, .inl (qA x)))] [(4, .int (qI y)), (5, .int (qI i)), (0, .ref u), (1, .long (qL ch)), (3, .int (qI m))] 20 [] := by
        intro N20
        induction N20 with
        | zero => intro y i hmu; exact absurd hmu (Nat.not_lt_zero _)
        | succ N20 ih20 =>
          intro y i hmu20 hi hy
          refine qv_iload C 1 d_D_type_20 rfl ?_
          refine qv_iload_n C 4 d_D_type_22 rfl rfl ?_
          refine qv_icmp_ge C d_D_type_23 (tgt := 72) (by decide) (by omega) (by omega) (fun ht23 => ?_) (fun hf23 => ?_)
          · refine qv_lv (lv' := [(4, .int (qI y)), (0, .ref u), (1, .long (qL ch)), (3, .int (qI m))]) [0, 2, 3, 4] rfl ?_
            exact J72 y (by rcases hy with ⟨q1, q2, q3, q4⟩ | ⟨q1, q2⟩ | ⟨q1, q2, q3⟩; (· first | (exfalso; omega) | exact Or.inl ⟨q1, q2, by rw [show m = i by omega]; exact q4⟩); (· exact Or.inr ⟨q1, fun h => q2 h.1⟩); (· exact Or.inr ⟨q1, fun h => m_rb_n q3 h.2⟩))
          · refine qv_iload C 0 d_D_type_26 rfl ?_
            refine qv_if_eq C d_D_type_28 (tgt := 72) (by decide) (by rcases hy with q | q | q <;> omega) (fun ht28 => ?_) (fun hf28 => ?_)
            · refine qv_lv (lv' := [(4, .int (qI y)), (0, .ref u), (1, .long (qL ch)), (3, .int (qI m))]) [0, 2, 3, 4] rfl ?_
              exact J72 y (by rcases hy with ⟨q1, q2, q3, q4⟩ | ⟨q1, q2⟩ | ⟨q1, q2, q3⟩; (· first | (exfalso; omega) | exact Or.inl ⟨q1, q2, by rw [show m = i by omega]; exact q4⟩); (· exact Or.inr ⟨q1, fun h => q2 h.1⟩); (· exact Or.inr ⟨q1, fun h => m_rb_n q3 h.2⟩))
            · have hy1 := hy.resolve_right (fun q => by rcases q with q | q <;> omega)
              refine qv_lload_n C 3 d_D_type_31 rfl rfl ?_
              refine qv_bipush C d_D_type_32 (by decide) ?_
              refine qv_iload C 1 d_D_type_34 rfl ?_
              refine qv_imul C d_D_type_36 ?_
              refine qv_lshr C (z := ch / 2 ^ (8 * i).toNat) (m_by_D hch (by omega)) d_D_type_37 ?_
              refine qv_ldc2 C (n := 255) wk_D_72 (by decide) d_D_type_38 ?_
              refine qv_land C (z := (ch / 2 ^ (8 * i).toNat) % 256) (qL_and255 _) d_D_type_41 ?_
              refine qv_l2i C d_D_type_42 ?_
              refine qv_eq (st' := [.int (qI (m_by ch i))]) rfl rfl (by rw [show ch / 2 ^ (8 * i).toNat % 256 = m_by ch i from rfl]) ?_
              have hby := m_by_rg ch i
              refine qv_istore C d_D_type_43 (by decide) (lv' := [(6, .int (qI (m_by ch i))), (4, .int (qI y)), (5, .int (qI i)), (0, .ref u), (1, .long (qL ch)), (3, .int (qI m))]) rfl ?_
              refine qv_iload C 0 d_D_type_45 rfl ?_
              refine qv_bipush C d_D_type_47 (by decide) ?_
              refine qv_icmp_le C d_D_type_49 (tgt := 63) (by decide) (by omega) (by omega) (fun ht49 => ?_) (fun hf49 => ?_)
              · refine qv_iconst C d_D_type_63 ?_
                refine qv_istore C d_D_type_64 (by decide) (lv' := [(4, .int (qI 0)), (6, .int (qI (m_by ch i))), (5, .int (qI i)), (0, .ref u), (1, .long (qL ch)), (3, .int (qI m))]) rfl ?_
                refine qv_iinc C 2 d_D_type_66 rfl (by decide) (lv' := [(5, .int (qI (i + 1))), (4, .int (qI 0)), (6, .int (qI (m_by ch i))), (0, .ref u), (1, .long (qL ch)), (3, .int (qI m))]) rfl ?_
                refine qv_goto C d_D_type_69 (by decide) (tgt := 20) ?_
                refine qv_lv (lv' := [(4, .int (qI 0)), (5, .int (qI (i + 1))), (0, .ref u), (1, .long (qL ch)), (3, .int (qI m))]) [1, 0, 3, 4, 5] rfl ?_
                exact ih20 0 (i + 1) (by omega) (by omega) (Or.inr (Or.inr ⟨rfl, hy1.2.1, m_rb_i (i := i) (by omega) (by omega)⟩))
              · refine qv_iload C 0 d_D_type_52 rfl ?_
                refine qv_bipush C d_D_type_54 (by decide) ?_
                refine qv_icmp_ge C d_D_type_56 (tgt := 63) (by decide) (by omega) (by omega) (fun ht56 => ?_) (fun hf56 => ?_)
                · refine qv_iconst C d_D_type_63 ?_
                  refine qv_istore C d_D_type_64 (by decide) (lv' := [(4, .int (qI 0)), (6, .int (qI (m_by ch i))), (5, .int (qI i)), (0, .ref u), (1, .long (qL ch)), (3, .int (qI m))]) rfl ?_
                  refine qv_iinc C 2 d_D_type_66 rfl (by decide) (lv' := [(5, .int (qI (i + 1))), (4, .int (qI 0)), (6, .int (qI (m_by ch i))), (0, .ref u), (1, .long (qL ch)), (3, .int (qI m))]) rfl ?_
                  refine qv_goto C d_D_type_69 (by decide) (tgt := 20) ?_
                  refine qv_lv (lv' := [(4, .int (qI 0)), (5, .int (qI (i + 1))), (0, .ref u), (1, .long (qL ch)), (3, .int (qI m))]) [1, 0, 3, 4, 5] rfl ?_
                  exact ih20 0 (i + 1) (by omega) (by omega) (Or.inr (Or.inr ⟨rfl, hy1.2.1, m_rb_i (i := i) (by omega) (by omega)⟩))
                · refine qv_iconst C d_D_type_59 ?_
                  refine qv_goto C d_D_type_60 (by decide) (tgt := 64) ?_
                  refine qv_istore C d_D_type_64 (by decide) (lv' := [(4, .int (qI 1)), (6, .int (qI (m_by ch i))), (5, .int (qI i)), (0, .ref u), (1, .long (qL ch)), (3, .int (qI m))]) rfl ?_
                  refine qv_iinc C 2 d_D_type_66 rfl (by decide) (lv' := [(5, .int (qI (i + 1))), (4, .int (qI 1)), (6, .int (qI (m_by ch i))), (0, .ref u), (1, .long (qL ch)), (3, .int (qI m))]) rfl ?_
                  refine qv_goto C d_D_type_69 (by decide) (tgt := 20) ?_
                  refine qv_lv (lv' := [(4, .int (qI 1)), (5, .int (qI (i + 1))), (0, .ref u), (1, .long (qL ch)), (3, .int (qI m))]) [1, 0, 3, 4, 5] rfl ?_
                  exact ih20 1 (i + 1) (by omega) (by omega) (Or.inl ⟨rfl, hy1.2.1, by omega, m_rt_s hy1.2.2.2 (by omega)⟩)
      refine qv_lv (lv' := [(4, .int (qI 1)), (5, .int (qI 0)), (0, .ref u), (1, .long (qL ch)), (3, .int (qI m))]) [1, 0, 2, 3, 4] rfl ?_
      exact L20 _ 1 0 (Nat.lt_succ_self _) (by omega) (Or.inl ⟨rfl, by omega, by omega, m_rt_0 _⟩)

set_option maxHeartbeats 4000000 in
set_option maxRecDepth 100000 in
theorem c_D_findDrain (l : Launch) (G : qG) {u utx uro urc urn urp ula uop urg utg ude ule udn uv ub ubf ubh ukp uwa : Nat} {cd sz cu fa rdn n pl st on cn hd ps ss tk : Int} {i0 : Int} {k r t : Int → Int} (hn : 0 ≤ n ∧ n ≤ 24) (hk : ∀ i, 0 ≤ k i ∧ k i ≤ 3) (hr : ∀ i, -200 ≤ r i ∧ r i ≤ 200) (ht : ∀ i, -1 ≤ t i ∧ t i ≤ 24) (hi0 : 0 ≤ i0 ∧ i0 < n) : qM l G y_D_findDrain b_D_findDrain 4 (some .int) ({ frames := 0, cells := 0, slots := 0, locals := 0 }) [.ref u, .int (qI i0)] [(u, .inr (5, [.int (qI cd), .int (qI sz), .ref utx, .int (qI cu), .int (qI fa), .int (qI rdn), .ref uro, .ref urc, .ref urn, .ref urp, .ref ula, .int (qI n), .ref uop, .ref urg, .ref utg, .ref ude, .ref ule, .ref udn, .ref uv, .ref ub, .int (qI pl), .long (qL st), .int (qI on), .long (qL cn), .int (qI hd), .long (qL ps), .long (qL ss), .ref ubf, .ref ubh, .long (qL tk), .ref ukp, .ref uwa])), (uop, .inl (G.2.1, 24, .inl (qA k))), (urg, .inl (G.2.1, 24, .inl (qA r))), (utg, .inl (G.2.1, 24, .inl (qA t)))] (fun v' ws' => v' = some (.int (qI (m_de n k r t i0))) ∧ ws' = [(u, .inr (5, [.int (qI cd), .int (qI sz), .ref utx, .int (qI cu), .int (qI fa), .int (qI rdn), .ref uro, .ref urc, .ref urn, .ref urp, .ref ula, .int (qI n), .ref uop, .ref urg, .ref utg, .ref ude, .ref ule, .ref udn, .ref uv, .ref ub, .int (qI pl), .long (qL st), .int (qI on), .long (qL cn), .int (qI hd), .long (qL ps), .long (qL ss), .ref ubf, .ref ubh, .long (qL tk), .ref ukp, .ref uwa])), (uop, .inl (G.2.1, 24, .inl (qA k))), (urg, .inl (G.2.1, 24, .inl (qA r))), (utg, .inl (G.2.1, 24, .inl (qA t)))]) := by
  refine qM.of (by decide) (Nat.le_of_ble_eq_true rfl) (fun xp xe xs xm xb xme xc A C hrt hlk hnm => ?_)
  refine qv_eq (lv' := [(0, .ref u), (1, .int (qI i0))]) rfl rfl rfl ?_
  refine qv_iload_n C 1 d_D_findDrain_0 rfl rfl ?_
  refine qv_iconst C d_D_findDrain_1 ?_
  refine qv_iadd C d_D_findDrain_2 ?_
  refine qv_istore_n C d_D_findDrain_3 rfl (by decide) (lv' := [(2, .int (qI (i0 + 1))), (0, .ref u), (1, .int (qI i0))]) rfl ?_
  have J42 : ∀ (i : Int), (i0 + 1 ≤ i ∧ i ≤ n) → (m_sc n k r (r i0) 24 (i0 + 1) = i) → qV xp l xe ({ frames := 0, cells := 0, slots := 0, locals := 0 }) xs xm [.ref u, .int (qI i0)].toArray xb xme xc G A xs.heap 4 (MQ xb (qQ G A (fun v' ws' => v' = some (.int (qI (m_de n k r t i0))) ∧ ws' = [(u, .inr (5, [.int (qI cd), .int (qI sz), .ref utx, .int (qI cu), .int (qI fa), .int (qI rdn), .ref uro, .ref urc, .ref urn, .ref urp, .ref ula, .int (qI n), .ref uop, .ref urg, .ref utg, .ref ude, .ref ule, .ref udn, .ref uv, .ref ub, .int (qI pl), .long (qL st), .int (qI on), .long (qL cn), .int (qI hd), .long (qL ps), .long (qL ss), .ref ubf, .ref ubh, .long (qL tk), .ref ukp, .ref uwa])), (uop, .inl (G.2.1, 24, .inl (qA k))), (urg, .inl (G.2.1, 24, .inl (qA r))), (utg, .inl (G.2.1, 24, .inl (qA t)))])) [.ref u, .int (qI i0)].toArray xs 0 0 A) 0 0 [(u, .inr (5, [.int (qI cd), .int (qI sz), .ref utx, .int (qI cu), .int (qI fa), .int (qI rdn), .ref uro, .ref urc, .ref urn, .ref urp, .ref ula, .int (qI n), .ref uop, .ref urg, .ref utg, .ref ude, .ref ule, .ref udn, .ref uv, .ref ub, .int (qI pl), .long (qL st), .int (qI on), .long (qL cn), .int (qI hd), .long (qL ps), .long (qL ss), .ref ubf, .ref ubh, .long (qL tk), .ref ukp, .ref uwa])), (uop, .inl (G.2.1, 24, .inl (qA k))), (urg, .inl (G.2.1, 24, .inl (qA r))), (utg, .inl (G.2.1, 24, .inl (qA t)))] [(2, .int (qI i)), (0, .ref u), (1, .int (qI i0))] 42 [] := by
    intro i hi he
    refine qv_aload_n C 1 d_D_findDrain_42 rfl rfl ?_
    refine qv_get C in_D 0 rfl rfl 12 (by decide) wf_D_28 rfl rfl d_D_findDrain_43 ?_
    refine qv_iload_n C 2 d_D_findDrain_46 rfl rfl ?_
    refine qv_iald C 1 rfl (by omega) d_D_findDrain_47 ?_
    have hq0 := hk i0
    refine qv_iconst C d_D_findDrain_48 ?_
    refine qv_icmp_ne C d_D_findDrain_49 (tgt := 96) (by decide) (by omega) (by omega) (fun ht49 => ?_) (fun hf49 => ?_)
    · refine qv_iconst C d_D_findDrain_96 ?_
      refine qv_istore_n C d_D_findDrain_97 rfl (by decide) (lv' := [(3, .int (qI 0)), (2, .int (qI i)), (0, .ref u), (1, .int (qI i0))]) rfl ?_
      refine qv_iload_n C 0 d_D_findDrain_98 rfl rfl ?_
      refine qv_if_eq C d_D_findDrain_99 (tgt := 106) (by decide) (by omega) (fun ht99 => ?_) (fun hf99 => ?_)
      · refine qv_iconst C d_D_findDrain_106 ?_
        refine qv_iret C hrt hlk d_D_findDrain_107 ?_
        refine ⟨?_, rfl⟩
        rw [show m_de n k r t i0 = -1 by unfold m_de; rw [he]; exact if_neg (by omega)]
      · exfalso; omega
    · refine qv_iload_n C 0 d_D_findDrain_52 rfl rfl ?_
      refine qv_aload_n C 1 d_D_findDrain_53 rfl rfl ?_
      refine qv_get C in_D 0 rfl rfl 11 (by decide) wf_D_109 rfl rfl d_D_findDrain_54 ?_
      refine qv_icmp_ge C d_D_findDrain_57 (tgt := 96) (by decide) (by omega) (by omega) (fun ht57 => ?_) (fun hf57 => ?_)
      · refine qv_iconst C d_D_findDrain_96 ?_
        refine qv_istore_n C d_D_findDrain_97 rfl (by decide) (lv' := [(3, .int (qI 0)), (2, .int (qI i)), (0, .ref u), (1, .int (qI i0))]) rfl ?_
        refine qv_iload_n C 0 d_D_findDrain_98 rfl rfl ?_
        refine qv_if_eq C d_D_findDrain_99 (tgt := 106) (by decide) (by omega) (fun ht99 => ?_) (fun hf99 => ?_)
        · refine qv_iconst C d_D_findDrain_106 ?_
          refine qv_iret C hrt hlk d_D_findDrain_107 ?_
          refine ⟨?_, rfl⟩
          rw [show m_de n k r t i0 = -1 by unfold m_de; rw [he]; exact if_neg (by omega)]
        · exfalso; omega
      · refine qv_aload_n C 1 d_D_findDrain_60 rfl rfl ?_
        refine qv_get C in_D 0 rfl rfl 12 (by decide) wf_D_28 rfl rfl d_D_findDrain_61 ?_
        refine qv_iload_n C 0 d_D_findDrain_64 rfl rfl ?_
        refine qv_iald C 1 rfl (by omega) d_D_findDrain_65 ?_
        have hq1 := hk i
        refine qv_iconst C d_D_findDrain_66 ?_
        refine qv_icmp_ne C d_D_findDrain_67 (tgt := 96) (by decide) (by omega) (by omega) (fun ht67 => ?_) (fun hf67 => ?_)
        · refine qv_iconst C d_D_findDrain_96 ?_
          refine qv_istore_n C d_D_findDrain_97 rfl (by decide) (lv' := [(3, .int (qI 0)), (2, .int (qI i)), (0, .ref u), (1, .int (qI i0))]) rfl ?_
          refine qv_iload_n C 0 d_D_findDrain_98 rfl rfl ?_
          refine qv_if_eq C d_D_findDrain_99 (tgt := 106) (by decide) (by omega) (fun ht99 => ?_) (fun hf99 => ?_)
          · refine qv_iconst C d_D_findDrain_106 ?_
            refine qv_iret C hrt hlk d_D_findDrain_107 ?_
            refine ⟨?_, rfl⟩
            rw [show m_de n k r t i0 = -1 by unfold m_de; rw [he]; exact if_neg (by omega)]
          · exfalso; omega
        · refine qv_aload_n C 1 d_D_findDrain_70 rfl rfl ?_
          refine qv_get C in_D 0 rfl rfl 14 (by decide) wf_D_34 rfl rfl d_D_findDrain_71 ?_
          refine qv_iload_n C 0 d_D_findDrain_74 rfl rfl ?_
          refine qv_iald C 3 rfl (by omega) d_D_findDrain_75 ?_
          have hq2 := ht i
          refine qv_iload_n C 2 d_D_findDrain_76 rfl rfl ?_
          refine qv_icmp_ne C d_D_findDrain_77 (tgt := 96) (by decide) (by omega) (by omega) (fun ht77 => ?_) (fun hf77 => ?_)
          · refine qv_iconst C d_D_findDrain_96 ?_
            refine qv_istore_n C d_D_findDrain_97 rfl (by decide) (lv' := [(3, .int (qI 0)), (2, .int (qI i)), (0, .ref u), (1, .int (qI i0))]) rfl ?_
            refine qv_iload_n C 0 d_D_findDrain_98 rfl rfl ?_
            refine qv_if_eq C d_D_findDrain_99 (tgt := 106) (by decide) (by omega) (fun ht99 => ?_) (fun hf99 => ?_)
            · refine qv_iconst C d_D_findDrain_106 ?_
              refine qv_iret C hrt hlk d_D_findDrain_107 ?_
              refine ⟨?_, rfl⟩
              rw [show m_de n k r t i0 = -1 by unfold m_de; rw [he]; exact if_neg (by omega)]
            · exfalso; omega
          · refine qv_aload_n C 1 d_D_findDrain_80 rfl rfl ?_
            refine qv_get C in_D 0 rfl rfl 14 (by decide) wf_D_34 rfl rfl d_D_findDrain_81 ?_
            refine qv_iload_n C 2 d_D_findDrain_84 rfl rfl ?_
            refine qv_iald C 3 rfl (by omega) d_D_findDrain_85 ?_
            have hq3 := ht i0
            refine qv_iload_n C 0 d_D_findDrain_86 rfl rfl ?_
            refine qv_iconst C d_D_findDrain_87 ?_
            refine qv_iadd C d_D_findDrain_88 ?_
            refine qv_icmp_ne C d_D_findDrain_89 (tgt := 96) (by decide) (by omega) (by omega) (fun ht89 => ?_) (fun hf89 => ?_)
            · refine qv_iconst C d_D_findDrain_96 ?_
              refine qv_istore_n C d_D_findDrain_97 rfl (by decide) (lv' := [(3, .int (qI 0)), (2, .int (qI i)), (0, .ref u), (1, .int (qI i0))]) rfl ?_
              refine qv_iload_n C 0 d_D_findDrain_98 rfl rfl ?_
              refine qv_if_eq C d_D_findDrain_99 (tgt := 106) (by decide) (by omega) (fun ht99 => ?_) (fun hf99 => ?_)
              · refine qv_iconst C d_D_findDrain_106 ?_
                refine qv_iret C hrt hlk d_D_findDrain_107 ?_
                refine ⟨?_, rfl⟩
                rw [show m_de n k r t i0 = -1 by unfold m_de; rw [he]; exact if_neg (by omega)]
              · exfalso; omega
            · refine qv_iconst C d_D_findDrain_92 ?_
              refine qv_goto C d_D_findDrain_93 (by decide) (tgt := 97) ?_
              refine qv_istore_n C d_D_findDrain_97 rfl (by decide) (lv' := [(3, .int (qI 1)), (2, .int (qI i)), (0, .ref u), (1, .int (qI i0))]) rfl ?_
              refine qv_iload_n C 0 d_D_findDrain_98 rfl rfl ?_
              refine qv_if_eq C d_D_findDrain_99 (tgt := 106) (by decide) (by omega) (fun ht99 => ?_) (fun hf99 => ?_)
              · exfalso; omega
              · refine qv_iload_n C 1 d_D_findDrain_102 rfl rfl ?_
                refine qv_goto C d_D_findDrain_103 (by decide) (tgt := 107) ?_
                refine qv_iret C hrt hlk d_D_findDrain_107 ?_
                refine ⟨?_, rfl⟩
                rw [show m_de n k r t i0 = i by unfold m_de; rw [he]; exact if_pos (by omega)]
  have L4 : ∀ (N4 : Nat) (i : Int) (f : Nat), (n - i).toNat < N4 → (i0 + 1 ≤ i ∧ i ≤ n) → (m_sc n k r (r i0) 24 (i0 + 1) = m_sc n k r (r i0) f i) → (n - i ≤ (f : Int)) → qV xp l xe ({ frames := 0, cells := 0, slots := 0, locals := 0 }) xs xm [.ref u, .int (qI i0)].toArray xb xme xc G A xs.heap 4 (MQ xb (qQ G A (fun v' ws' => v' = some (.int (qI (m_de n k r t i0))) ∧ ws' = [(u, .inr (5, [.int (qI cd), .int (qI sz), .ref utx, .int (qI cu), .int (qI fa), .int (qI rdn), .ref uro, .ref urc, .ref urn, .ref urp, .ref ula, .int (qI n), .ref uop, .ref urg, .ref utg, .ref ude, .ref ule, .ref udn, .ref uv, .ref ub, .int (qI pl), .long (qL st), .int (qI on), .long (qL cn), .int (qI hd), .long (qL ps), .long (qL ss), .ref ubf, .ref ubh, .long (qL tk), .ref ukp, .ref uwa])), (uop, .inl (G.2.1, 24, .inl (qA k))), (urg, .inl (G.2.1, 24, .inl (qA r))), (utg, .inl (G.2.1, 24, .inl (qA t)))])) [.ref u, .int (qI i0)].toArray xs 0 0 A) 0 0 [(u, .inr (5, [.int (qI cd), .int (qI sz), .ref utx, .int (qI cu), .int (qI fa), .int (qI rdn), .ref uro, .ref urc, .ref urn, .ref urp, .ref ula, .int (qI n), .ref uop, .ref urg, .ref utg, .ref ude, .ref ule, .ref udn, .ref uv, .ref ub, .int (qI pl), .long (qL st), .int (qI on), .long (qL cn), .int (qI hd), .long (qL ps), .long (qL ss), .ref ubf, .ref ubh, .long (qL tk), .ref ukp, .ref uwa])), (uop, .inl (G.2.1, 24, .inl (qA k))), (urg, .inl (G.2.1, 24, .inl (qA r))), (utg, .inl (G.2.1, 24, .inl (qA t)))] [(2, .int (qI i)), (0, .ref u), (1, .int (qI i0))] 4 [] := by
    intro N4
    induction N4 with
    | zero => intro i f hmu; exact absurd hmu (Nat.not_lt_zero _)
    | succ N4 ih4 =>
      intro i f hmu4 hi hf hg
      refine qv_iload_n C 0 d_D_findDrain_4 rfl rfl ?_
      refine qv_aload_n C 1 d_D_findDrain_5 rfl rfl ?_
      refine qv_get C in_D 0 rfl rfl 11 (by decide) wf_D_109 rfl rfl d_D_findDrain_6 ?_
      refine qv_icmp_ge C d_D_findDrain_9 (tgt := 42) (by decide) (by omega) (by omega) (fun ht9 => ?_) (fun hf9 => ?_)
      · exact J42 i (by first | assumption | omega) (hf.trans (m_sc_stop (by omega)))
      · refine qv_aload_n C 1 d_D_findDrain_12 rfl rfl ?_
        refine qv_get C in_D 0 rfl rfl 12 (by decide) wf_D_28 rfl rfl d_D_findDrain_13 ?_
        refine qv_iload_n C 0 d_D_findDrain_16 rfl rfl ?_
        refine qv_iald C 1 rfl (by omega) d_D_findDrain_17 ?_
        have hq4 := hk i
        refine qv_if_ne C d_D_findDrain_18 (tgt := 42) (by decide) (by omega) (fun ht18 => ?_) (fun hf18 => ?_)
        · exact J42 i (by first | assumption | omega) (hf.trans (m_sc_stop (by omega)))
        · refine qv_aload_n C 1 d_D_findDrain_21 rfl rfl ?_
          refine qv_get C in_D 0 rfl rfl 13 (by decide) wf_D_31 rfl rfl d_D_findDrain_22 ?_
          refine qv_iload_n C 0 d_D_findDrain_25 rfl rfl ?_
          refine qv_iald C 2 rfl (by omega) d_D_findDrain_26 ?_
          have hq5 := hr i
          refine qv_aload_n C 1 d_D_findDrain_27 rfl rfl ?_
          refine qv_get C in_D 0 rfl rfl 13 (by decide) wf_D_31 rfl rfl d_D_findDrain_28 ?_
          refine qv_iload_n C 2 d_D_findDrain_31 rfl rfl ?_
          refine qv_iald C 2 rfl (by omega) d_D_findDrain_32 ?_
          have hq6 := hr i0
          refine qv_icmp_eq C d_D_findDrain_33 (tgt := 42) (by decide) (by omega) (by omega) (fun ht33 => ?_) (fun hf33 => ?_)
          · exact J42 i (by first | assumption | omega) (hf.trans (m_sc_stop (by omega)))
          · obtain ⟨f', rfl⟩ : ∃ f', f = f' + 1 := ⟨f - 1, by omega⟩
            refine qv_iinc C 0 d_D_findDrain_36 rfl (by decide) (lv' := [(2, .int (qI (i + 1))), (0, .ref u), (1, .int (qI i0))]) rfl ?_
            refine qv_goto C d_D_findDrain_39 (by decide) (tgt := 4) ?_
            exact ih4 (i + 1) f' (by omega) (by omega) (hf.trans (m_sc_go ⟨by omega, by omega, by omega⟩)) (by omega)
  exact L4 _ (i0 + 1) 24 (Nat.lt_succ_self _) (by first | assumption | omega) (rfl) (by omega)
set_option maxHeartbeats 4000000 in
set_option maxRecDepth 100000 in
theorem c_D_findLoop (l : Launch) (G : qG) {u utx uro urc urn urp ula uop urg utg ude ule udn uv ub ubf ubh ukp uwa : Nat} {cd sz cu fa rdn n pl st on cn hd ps ss tk : Int} {h : Int} {k t de le dn : Int → Int} (hn : 0 ≤ n ∧ n ≤ 24) (hk : ∀ i, 0 ≤ k i ∧ k i ≤ 3) (ht : ∀ i, -1 ≤ t i ∧ t i ≤ 24) (hdx : ∀ i, -1 ≤ de i ∧ de i ≤ 24) (hde : ∀ i, 0 ≤ i → i < n → de i = -1 ∨ (i < de i ∧ de i < n)) (hh : 0 ≤ h ∧ h < n) : qM l G y_D_findLoop b_D_findLoop 5 none ({ frames := 0, cells := 0, slots := 0, locals := 0 }) [.ref u, .int (qI h)] [(u, .inr (5, [.int (qI cd), .int (qI sz), .ref utx, .int (qI cu), .int (qI fa), .int (qI rdn), .ref uro, .ref urc, .ref urn, .ref urp, .ref ula, .int (qI n), .ref uop, .ref urg, .ref utg, .ref ude, .ref ule, .ref udn, .ref uv, .ref ub, .int (qI pl), .long (qL st), .int (qI on), .long (qL cn), .int (qI hd), .long (qL ps), .long (qL ss), .ref ubf, .ref ubh, .long (qL tk), .ref ukp, .ref uwa])), (uop, .inl (G.2.1, 24, .inl (qA k))), (utg, .inl (G.2.1, 24, .inl (qA t))), (ude, .inl (G.2.1, 24, .inl (qA de))), (ule, .inl (G.2.1, 24, .inl (qA le))), (udn, .inl (G.2.1, 24, .inl (qA dn)))] (fun v' ws' => v' = none ∧ ws' = [(u, .inr (5, [.int (qI cd), .int (qI sz), .ref utx, .int (qI cu), .int (qI fa), .int (qI rdn), .ref uro, .ref urc, .ref urn, .ref urp, .ref ula, .int (qI n), .ref uop, .ref urg, .ref utg, .ref ude, .ref ule, .ref udn, .ref uv, .ref ub, .int (qI pl), .long (qL st), .int (qI on), .long (qL cn), .int (qI hd), .long (qL ps), .long (qL ss), .ref ubf, .ref ubh, .long (qL tk), .ref ukp, .ref uwa])), (uop, .inl (G.2.1, 24, .inl (qA k))), (utg, .inl (G.2.1, 24, .inl (qA t))), (ude, .inl (G.2.1, 24, .inl (qA de))), (ule, .inl (G.2.1, 24, .inl (qA (qU le h (m_le n k t de h))))), (udn, .inl (G.2.1, 24, .inl (qA (qU dn h (m_ld n k de h)))))]) := by
  refine qM.of (by decide) (Nat.le_of_ble_eq_true rfl) (fun xp xe xs xm xb xme xc A C hrt hlk hnm => ?_)
  refine qv_eq (lv' := [(0, .ref u), (1, .int (qI h))]) rfl rfl rfl ?_
  refine qv_iload_n C 1 d_D_findLoop_0 rfl rfl ?_
  refine qv_istore_n C d_D_findLoop_1 rfl (by decide) (lv' := [(2, .int (qI h)), (0, .ref u), (1, .int (qI h))]) rfl ?_
  refine qv_iconst C d_D_findLoop_2 ?_
  refine qv_istore_n C d_D_findLoop_3 rfl (by decide) (lv' := [(3, .int (qI 0)), (2, .int (qI h)), (0, .ref u), (1, .int (qI h))]) rfl ?_
  have J79 : ∀ (i : Int) (d : Int), (h ≤ i ∧ i ≤ n) → (0 ≤ d ∧ d ≤ 24) → (m_ls n k de h 24 h 0 = (i, d)) → qV xp l xe ({ frames := 0, cells := 0, slots := 0, locals := 0 }) xs xm [.ref u, .int (qI h)].toArray xb xme xc G A xs.heap 5 (MQ xb (qQ G A (fun v' ws' => v' = none ∧ ws' = [(u, .inr (5, [.int (qI cd), .int (qI sz), .ref utx, .int (qI cu), .int (qI fa), .int (qI rdn), .ref uro, .ref urc, .ref urn, .ref urp, .ref ula, .int (qI n), .ref uop, .ref urg, .ref utg, .ref ude, .ref ule, .ref udn, .ref uv, .ref ub, .int (qI pl), .long (qL st), .int (qI on), .long (qL cn), .int (qI hd), .long (qL ps), .long (qL ss), .ref ubf, .ref ubh, .long (qL tk), .ref ukp, .ref uwa])), (uop, .inl (G.2.1, 24, .inl (qA k))), (utg, .inl (G.2.1, 24, .inl (qA t))), (ude, .inl (G.2.1, 24, .inl (qA de))), (ule, .inl (G.2.1, 24, .inl (qA (qU le h (m_le n k t de h))))), (udn, .inl (G.2.1, 24, .inl (qA (qU dn h (m_ld n k de h)))))])) [.ref u, .int (qI h)].toArray xs 0 0 A) 0 0 [(u, .inr (5, [.int (qI cd), .int (qI sz), .ref utx, .int (qI cu), .int (qI fa), .int (qI rdn), .ref uro, .ref urc, .ref urn, .ref urp, .ref ula, .int (qI n), .ref uop, .ref urg, .ref utg, .ref ude, .ref ule, .ref udn, .ref uv, .ref ub, .int (qI pl), .long (qL st), .int (qI on), .long (qL cn), .int (qI hd), .long (qL ps), .long (qL ss), .ref ubf, .ref ubh, .long (qL tk), .ref ukp, .ref uwa])), (uop, .inl (G.2.1, 24, .inl (qA k))), (utg, .inl (G.2.1, 24, .inl (qA t))), (ude, .inl (G.2.1, 24, .inl (qA de))), (ule, .inl (G.2.1, 24, .inl (qA le))), (udn, .inl (G.2.1, 24, .inl (qA dn)))] [(2, .int (qI i)), (3, .int (qI d)), (0, .ref u), (1, .int (qI h))] 79 [] := by
    intro i d hi hdd he
    refine qv_aload_n C 2 d_D_findLoop_79 rfl rfl ?_
    refine qv_get C in_D 0 rfl rfl 17 (by decide) wf_D_43 rfl rfl d_D_findLoop_80 ?_
    refine qv_iload_n C 3 d_D_findLoop_83 rfl rfl ?_
    refine qv_iload_n C 1 d_D_findLoop_84 rfl rfl ?_
    refine qv_iast C 5 rfl (by omega) d_D_findLoop_85 (ws' := [(u, .inr (5, [.int (qI cd), .int (qI sz), .ref utx, .int (qI cu), .int (qI fa), .int (qI rdn), .ref uro, .ref urc, .ref urn, .ref urp, .ref ula, .int (qI n), .ref uop, .ref urg, .ref utg, .ref ude, .ref ule, .ref udn, .ref uv, .ref ub, .int (qI pl), .long (qL st), .int (qI on), .long (qL cn), .int (qI hd), .long (qL ps), .long (qL ss), .ref ubf, .ref ubh, .long (qL tk), .ref ukp, .ref uwa])), (uop, .inl (G.2.1, 24, .inl (qA k))), (utg, .inl (G.2.1, 24, .inl (qA t))), (ude, .inl (G.2.1, 24, .inl (qA de))), (ule, .inl (G.2.1, 24, .inl (qA le))), (udn, .inl (G.2.1, 24, .inl (qA (qU dn h d))))]) rfl ?_
    refine qv_aload_n C 2 d_D_findLoop_86 rfl rfl ?_
    refine qv_get C in_D 0 rfl rfl 16 (by decide) wf_D_40 rfl rfl d_D_findLoop_87 ?_
    refine qv_iload_n C 3 d_D_findLoop_90 rfl rfl ?_
    refine qv_iload_n C 0 d_D_findLoop_91 rfl rfl ?_
    refine qv_iload_n C 3 d_D_findLoop_92 rfl rfl ?_
    refine qv_icmp_le C d_D_findLoop_93 (tgt := 128) (by decide) (by omega) (by omega) (fun ht93 => ?_) (fun hf93 => ?_)
    · refine qv_iconst C d_D_findLoop_128 ?_
      refine qv_iast C 4 rfl (by omega) d_D_findLoop_129 (ws' := [(u, .inr (5, [.int (qI cd), .int (qI sz), .ref utx, .int (qI cu), .int (qI fa), .int (qI rdn), .ref uro, .ref urc, .ref urn, .ref urp, .ref ula, .int (qI n), .ref uop, .ref urg, .ref utg, .ref ude, .ref ule, .ref udn, .ref uv, .ref ub, .int (qI pl), .long (qL st), .int (qI on), .long (qL cn), .int (qI hd), .long (qL ps), .long (qL ss), .ref ubf, .ref ubh, .long (qL tk), .ref ukp, .ref uwa])), (uop, .inl (G.2.1, 24, .inl (qA k))), (utg, .inl (G.2.1, 24, .inl (qA t))), (ude, .inl (G.2.1, 24, .inl (qA de))), (ule, .inl (G.2.1, 24, .inl (qA (qU le h (-1))))), (udn, .inl (G.2.1, 24, .inl (qA (qU dn h d))))]) rfl ?_
      refine qv_vret C hrt hlk d_D_findLoop_130 ?_
      refine ⟨rfl, ?_⟩
      rw [show m_le n k t de h = -1 by unfold m_le; rw [he]; dsimp only; exact if_neg (by omega), show m_ld n k de h = d by unfold m_ld; rw [he]]
    · refine qv_iload_n C 0 d_D_findLoop_96 rfl rfl ?_
      refine qv_aload_n C 2 d_D_findLoop_97 rfl rfl ?_
      refine qv_get C in_D 0 rfl rfl 11 (by decide) wf_D_109 rfl rfl d_D_findLoop_98 ?_
      refine qv_icmp_ge C d_D_findLoop_101 (tgt := 128) (by decide) (by omega) (by omega) (fun ht101 => ?_) (fun hf101 => ?_)
      · refine qv_iconst C d_D_findLoop_128 ?_
        refine qv_iast C 4 rfl (by omega) d_D_findLoop_129 (ws' := [(u, .inr (5, [.int (qI cd), .int (qI sz), .ref utx, .int (qI cu), .int (qI fa), .int (qI rdn), .ref uro, .ref urc, .ref urn, .ref urp, .ref ula, .int (qI n), .ref uop, .ref urg, .ref utg, .ref ude, .ref ule, .ref udn, .ref uv, .ref ub, .int (qI pl), .long (qL st), .int (qI on), .long (qL cn), .int (qI hd), .long (qL ps), .long (qL ss), .ref ubf, .ref ubh, .long (qL tk), .ref ukp, .ref uwa])), (uop, .inl (G.2.1, 24, .inl (qA k))), (utg, .inl (G.2.1, 24, .inl (qA t))), (ude, .inl (G.2.1, 24, .inl (qA de))), (ule, .inl (G.2.1, 24, .inl (qA (qU le h (-1))))), (udn, .inl (G.2.1, 24, .inl (qA (qU dn h d))))]) rfl ?_
        refine qv_vret C hrt hlk d_D_findLoop_130 ?_
        refine ⟨rfl, ?_⟩
        rw [show m_le n k t de h = -1 by unfold m_le; rw [he]; dsimp only; exact if_neg (by omega), show m_ld n k de h = d by unfold m_ld; rw [he]]
      · refine qv_aload_n C 2 d_D_findLoop_104 rfl rfl ?_
        refine qv_get C in_D 0 rfl rfl 12 (by decide) wf_D_28 rfl rfl d_D_findLoop_105 ?_
        refine qv_iload_n C 0 d_D_findLoop_108 rfl rfl ?_
        refine qv_iald C 1 rfl (by omega) d_D_findLoop_109 ?_
        have hq0 := hk i
        refine qv_iconst C d_D_findLoop_110 ?_
        refine qv_icmp_ne C d_D_findLoop_111 (tgt := 128) (by decide) (by omega) (by omega) (fun ht111 => ?_) (fun hf111 => ?_)
        · refine qv_iconst C d_D_findLoop_128 ?_
          refine qv_iast C 4 rfl (by omega) d_D_findLoop_129 (ws' := [(u, .inr (5, [.int (qI cd), .int (qI sz), .ref utx, .int (qI cu), .int (qI fa), .int (qI rdn), .ref uro, .ref urc, .ref urn, .ref urp, .ref ula, .int (qI n), .ref uop, .ref urg, .ref utg, .ref ude, .ref ule, .ref udn, .ref uv, .ref ub, .int (qI pl), .long (qL st), .int (qI on), .long (qL cn), .int (qI hd), .long (qL ps), .long (qL ss), .ref ubf, .ref ubh, .long (qL tk), .ref ukp, .ref uwa])), (uop, .inl (G.2.1, 24, .inl (qA k))), (utg, .inl (G.2.1, 24, .inl (qA t))), (ude, .inl (G.2.1, 24, .inl (qA de))), (ule, .inl (G.2.1, 24, .inl (qA (qU le h (-1))))), (udn, .inl (G.2.1, 24, .inl (qA (qU dn h d))))]) rfl ?_
          refine qv_vret C hrt hlk d_D_findLoop_130 ?_
          refine ⟨rfl, ?_⟩
          rw [show m_le n k t de h = -1 by unfold m_le; rw [he]; dsimp only; exact if_neg (by omega), show m_ld n k de h = d by unfold m_ld; rw [he]]
        · refine qv_aload_n C 2 d_D_findLoop_114 rfl rfl ?_
          refine qv_get C in_D 0 rfl rfl 14 (by decide) wf_D_34 rfl rfl d_D_findLoop_115 ?_
          refine qv_iload_n C 0 d_D_findLoop_118 rfl rfl ?_
          refine qv_iald C 2 rfl (by omega) d_D_findLoop_119 ?_
          have hq1 := ht i
          refine qv_iload_n C 3 d_D_findLoop_120 rfl rfl ?_
          refine qv_icmp_ne C d_D_findLoop_121 (tgt := 128) (by decide) (by omega) (by omega) (fun ht121 => ?_) (fun hf121 => ?_)
          · refine qv_iconst C d_D_findLoop_128 ?_
            refine qv_iast C 4 rfl (by omega) d_D_findLoop_129 (ws' := [(u, .inr (5, [.int (qI cd), .int (qI sz), .ref utx, .int (qI cu), .int (qI fa), .int (qI rdn), .ref uro, .ref urc, .ref urn, .ref urp, .ref ula, .int (qI n), .ref uop, .ref urg, .ref utg, .ref ude, .ref ule, .ref udn, .ref uv, .ref ub, .int (qI pl), .long (qL st), .int (qI on), .long (qL cn), .int (qI hd), .long (qL ps), .long (qL ss), .ref ubf, .ref ubh, .long (qL tk), .ref ukp, .ref uwa])), (uop, .inl (G.2.1, 24, .inl (qA k))), (utg, .inl (G.2.1, 24, .inl (qA t))), (ude, .inl (G.2.1, 24, .inl (qA de))), (ule, .inl (G.2.1, 24, .inl (qA (qU le h (-1))))), (udn, .inl (G.2.1, 24, .inl (qA (qU dn h d))))]) rfl ?_
            refine qv_vret C hrt hlk d_D_findLoop_130 ?_
            refine ⟨rfl, ?_⟩
            rw [show m_le n k t de h = -1 by unfold m_le; rw [he]; dsimp only; exact if_neg (by omega), show m_ld n k de h = d by unfold m_ld; rw [he]]
          · refine qv_iload_n C 0 d_D_findLoop_124 rfl rfl ?_
            refine qv_goto C d_D_findLoop_125 (by decide) (tgt := 129) ?_
            refine qv_iast C 4 rfl (by omega) d_D_findLoop_129 (ws' := [(u, .inr (5, [.int (qI cd), .int (qI sz), .ref utx, .int (qI cu), .int (qI fa), .int (qI rdn), .ref uro, .ref urc, .ref urn, .ref urp, .ref ula, .int (qI n), .ref uop, .ref urg, .ref utg, .ref ude, .ref ule, .ref udn, .ref uv, .ref ub, .int (qI pl), .long (qL st), .int (qI on), .long (qL cn), .int (qI hd), .long (qL ps), .long (qL ss), .ref ubf, .ref ubh, .long (qL tk), .ref ukp, .ref uwa])), (uop, .inl (G.2.1, 24, .inl (qA k))), (utg, .inl (G.2.1, 24, .inl (qA t))), (ude, .inl (G.2.1, 24, .inl (qA de))), (ule, .inl (G.2.1, 24, .inl (qA (qU le h i)))), (udn, .inl (G.2.1, 24, .inl (qA (qU dn h d))))]) rfl ?_
            refine qv_vret C hrt hlk d_D_findLoop_130 ?_
            refine ⟨rfl, ?_⟩
            rw [show m_le n k t de h = i by unfold m_le; rw [he]; dsimp only; exact if_pos (by omega), show m_ld n k de h = d by unfold m_ld; rw [he]]
  have L4 : ∀ (N4 : Nat) (i : Int) (d : Int) (f : Nat), (n - i).toNat < N4 → (h ≤ i ∧ i ≤ n) → (0 ≤ d ∧ d ≤ i - h) → (m_ls n k de h 24 h 0 = m_ls n k de h f i d) → (n - i ≤ (f : Int)) → qV xp l xe ({ frames := 0, cells := 0, slots := 0, locals := 0 }) xs xm [.ref u, .int (qI h)].toArray xb xme xc G A xs.heap 5 (MQ xb (qQ G A (fun v' ws' => v' = none ∧ ws' = [(u, .inr (5, [.int (qI cd), .int (qI sz), .ref utx, .int (qI cu), .int (qI fa), .int (qI rdn), .ref uro, .ref urc, .ref urn, .ref urp, .ref ula, .int (qI n), .ref uop, .ref urg, .ref utg, .ref ude, .ref ule, .ref udn, .ref uv, .ref ub, .int (qI pl), .long (qL st), .int (qI on), .long (qL cn), .int (qI hd), .long (qL ps), .long (qL ss), .ref ubf, .ref ubh, .long (qL tk), .ref ukp, .ref uwa])), (uop, .inl (G.2.1, 24, .inl (qA k))), (utg, .inl (G.2.1, 24, .inl (qA t))), (ude, .inl (G.2.1, 24, .inl (qA de))), (ule, .inl (G.2.1, 24, .inl (qA (qU le h (m_le n k t de h))))), (udn, .inl (G.2.1, 24, .inl (qA (qU dn h (m_ld n k de h)))))])) [.ref u, .int (qI h)].toArray xs 0 0 A) 0 0 [(u, .inr (5, [.int (qI cd), .int (qI sz), .ref utx, .int (qI cu), .int (qI fa), .int (qI rdn), .ref uro, .ref urc, .ref urn, .ref urp, .ref ula, .int (qI n), .ref uop, .ref urg, .ref utg, .ref ude, .ref ule, .ref udn, .ref uv, .ref ub, .int (qI pl), .long (qL st), .int (qI on), .long (qL cn), .int (qI hd), .long (qL ps), .long (qL ss), .ref ubf, .ref ubh, .long (qL tk), .ref ukp, .ref uwa])), (uop, .inl (G.2.1, 24, .inl (qA k))), (utg, .inl (G.2.1, 24, .inl (qA t))), (ude, .inl (G.2.1, 24, .inl (qA de))), (ule, .inl (G.2.1, 24, .inl (qA le))), (udn, .inl (G.2.1, 24, .inl (qA dn)))] [(2, .int (qI i)), (3, .int (qI d)), (0, .ref u), (1, .int (qI h))] 4 [] := by
    intro N4
    induction N4 with
    | zero => intro i d f hmu; exact absurd hmu (Nat.not_lt_zero _)
    | succ N4 ih4 =>
      intro i d f hmu4 hi hdd hf hg
      refine qv_iload_n C 0 d_D_findLoop_4 rfl rfl ?_
      refine qv_aload_n C 2 d_D_findLoop_5 rfl rfl ?_
      refine qv_get C in_D 0 rfl rfl 11 (by decide) wf_D_109 rfl rfl d_D_findLoop_6 ?_
      refine qv_icmp_ge C d_D_findLoop_9 (tgt := 79) (by decide) (by omega) (by omega) (fun ht9 => ?_) (fun hf9 => ?_)
      · exact J79 i d (by omega) (by omega) (hf.trans (m_ls_stop (by omega)))
      · refine qv_aload_n C 2 d_D_findLoop_12 rfl rfl ?_
        refine qv_get C in_D 0 rfl rfl 12 (by decide) wf_D_28 rfl rfl d_D_findLoop_13 ?_
        refine qv_iload_n C 0 d_D_findLoop_16 rfl rfl ?_
        refine qv_iald C 1 rfl (by omega) d_D_findLoop_17 ?_
        have hq2 := hk i
        refine qv_iconst C d_D_findLoop_18 ?_
        refine qv_icmp_ge C d_D_findLoop_19 (tgt := 79) (by decide) (by omega) (by omega) (fun ht19 => ?_) (fun hf19 => ?_)
        · exact J79 i d (by omega) (by omega) (hf.trans (m_ls_stop (by omega)))
        · have hdi := hdx i
          have hdei := hde i (by omega) (by omega)
          obtain ⟨f', rfl⟩ : ∃ f', f = f' + 1 := ⟨f - 1, by omega⟩
          refine qv_iload_n C 0 d_D_findLoop_22 rfl rfl ?_
          refine qv_iload_n C 3 d_D_findLoop_23 rfl rfl ?_
          refine qv_icmp_eq C d_D_findLoop_24 (tgt := 40) (by decide) (by omega) (by omega) (fun ht24 => ?_) (fun hf24 => ?_)
          · refine qv_iconst C d_D_findLoop_40 ?_
            refine qv_istore C d_D_findLoop_41 (by decide) (lv' := [(4, .int (qI 0)), (2, .int (qI i)), (3, .int (qI d)), (0, .ref u), (1, .int (qI h))]) rfl ?_
            refine qv_iload C 0 d_D_findLoop_43 rfl ?_
            refine qv_if_eq C d_D_findLoop_45 (tgt := 54) (by decide) (by omega) (fun ht45 => ?_) (fun hf45 => ?_)
            · refine qv_iload_n C 2 d_D_findLoop_54 rfl rfl ?_
              refine qv_istore_n C d_D_findLoop_55 rfl (by decide) (lv' := [(3, .int (qI d)), (4, .int (qI 0)), (2, .int (qI i)), (0, .ref u), (1, .int (qI h))]) rfl ?_
              refine qv_iload C 1 d_D_findLoop_56 rfl ?_
              refine qv_if_eq C d_D_findLoop_58 (tgt := 72) (by decide) (by omega) (fun ht58 => ?_) (fun hf58 => ?_)
              · refine qv_iload_n C 2 d_D_findLoop_72 rfl rfl ?_
                refine qv_iconst C d_D_findLoop_73 ?_
                refine qv_iadd C d_D_findLoop_74 ?_
                refine qv_istore_n C d_D_findLoop_75 rfl (by decide) (lv' := [(2, .int (qI (i + 1))), (3, .int (qI d)), (4, .int (qI 0)), (0, .ref u), (1, .int (qI h))]) rfl ?_
                refine qv_goto C d_D_findLoop_76 (by decide) (tgt := 4) ?_
                refine qv_lv (lv' := [(2, .int (qI (i + 1))), (3, .int (qI d)), (0, .ref u), (1, .int (qI h))]) [0, 1, 3, 4] rfl ?_
                exact ih4 (i + 1) d f' (by omega) (by omega) (by omega) (by first | exact hf.trans (m_ls_drain ⟨by omega, by omega⟩ ⟨by omega, by omega⟩) | exact hf.trans (m_ls_one ⟨by omega, by omega⟩ (by omega))) (by omega)
              · exfalso; omega
            · exfalso; omega
          · refine qv_aload_n C 2 d_D_findLoop_27 rfl rfl ?_
            refine qv_get C in_D 0 rfl rfl 15 (by decide) wf_D_37 rfl rfl d_D_findLoop_28 ?_
            refine qv_iload_n C 0 d_D_findLoop_31 rfl rfl ?_
            refine qv_iald C 3 rfl (by omega) d_D_findLoop_32 ?_
            have hq3 := hdx i
            refine qv_if_lt C d_D_findLoop_33 (tgt := 40) (by decide) (by omega) (fun ht33 => ?_) (fun hf33 => ?_)
            · refine qv_iconst C d_D_findLoop_40 ?_
              refine qv_istore C d_D_findLoop_41 (by decide) (lv' := [(4, .int (qI 0)), (2, .int (qI i)), (3, .int (qI d)), (0, .ref u), (1, .int (qI h))]) rfl ?_
              refine qv_iload C 0 d_D_findLoop_43 rfl ?_
              refine qv_if_eq C d_D_findLoop_45 (tgt := 54) (by decide) (by omega) (fun ht45 => ?_) (fun hf45 => ?_)
              · refine qv_iload_n C 2 d_D_findLoop_54 rfl rfl ?_
                refine qv_istore_n C d_D_findLoop_55 rfl (by decide) (lv' := [(3, .int (qI d)), (4, .int (qI 0)), (2, .int (qI i)), (0, .ref u), (1, .int (qI h))]) rfl ?_
                refine qv_iload C 1 d_D_findLoop_56 rfl ?_
                refine qv_if_eq C d_D_findLoop_58 (tgt := 72) (by decide) (by omega) (fun ht58 => ?_) (fun hf58 => ?_)
                · refine qv_iload_n C 2 d_D_findLoop_72 rfl rfl ?_
                  refine qv_iconst C d_D_findLoop_73 ?_
                  refine qv_iadd C d_D_findLoop_74 ?_
                  refine qv_istore_n C d_D_findLoop_75 rfl (by decide) (lv' := [(2, .int (qI (i + 1))), (3, .int (qI d)), (4, .int (qI 0)), (0, .ref u), (1, .int (qI h))]) rfl ?_
                  refine qv_goto C d_D_findLoop_76 (by decide) (tgt := 4) ?_
                  refine qv_lv (lv' := [(2, .int (qI (i + 1))), (3, .int (qI d)), (0, .ref u), (1, .int (qI h))]) [0, 1, 3, 4] rfl ?_
                  exact ih4 (i + 1) d f' (by omega) (by omega) (by omega) (by first | exact hf.trans (m_ls_drain ⟨by omega, by omega⟩ ⟨by omega, by omega⟩) | exact hf.trans (m_ls_one ⟨by omega, by omega⟩ (by omega))) (by omega)
                · exfalso; omega
              · exfalso; omega
            · refine qv_iconst C d_D_findLoop_36 ?_
              refine qv_goto C d_D_findLoop_37 (by decide) (tgt := 41) ?_
              refine qv_istore C d_D_findLoop_41 (by decide) (lv' := [(4, .int (qI 1)), (2, .int (qI i)), (3, .int (qI d)), (0, .ref u), (1, .int (qI h))]) rfl ?_
              refine qv_iload C 0 d_D_findLoop_43 rfl ?_
              refine qv_if_eq C d_D_findLoop_45 (tgt := 54) (by decide) (by omega) (fun ht45 => ?_) (fun hf45 => ?_)
              · exfalso; omega
              · refine qv_iload_n C 2 d_D_findLoop_48 rfl rfl ?_
                refine qv_iconst C d_D_findLoop_49 ?_
                refine qv_iadd C d_D_findLoop_50 ?_
                refine qv_goto C d_D_findLoop_51 (by decide) (tgt := 55) ?_
                refine qv_istore_n C d_D_findLoop_55 rfl (by decide) (lv' := [(3, .int (qI (d + 1))), (4, .int (qI 1)), (2, .int (qI i)), (0, .ref u), (1, .int (qI h))]) rfl ?_
                refine qv_iload C 1 d_D_findLoop_56 rfl ?_
                refine qv_if_eq C d_D_findLoop_58 (tgt := 72) (by decide) (by omega) (fun ht58 => ?_) (fun hf58 => ?_)
                · exfalso; omega
                · refine qv_aload_n C 3 d_D_findLoop_61 rfl rfl ?_
                  refine qv_get C in_D 0 rfl rfl 15 (by decide) wf_D_37 rfl rfl d_D_findLoop_62 ?_
                  refine qv_iload_n C 2 d_D_findLoop_65 rfl rfl ?_
                  refine qv_iald C 3 rfl (by omega) d_D_findLoop_66 ?_
                  have hq4 := hdx i
                  refine qv_iconst C d_D_findLoop_67 ?_
                  refine qv_iadd C d_D_findLoop_68 ?_
                  refine qv_goto C d_D_findLoop_69 (by decide) (tgt := 75) ?_
                  refine qv_istore_n C d_D_findLoop_75 rfl (by decide) (lv' := [(2, .int (qI ((de i) + 1))), (3, .int (qI (d + 1))), (4, .int (qI 1)), (0, .ref u), (1, .int (qI h))]) rfl ?_
                  refine qv_goto C d_D_findLoop_76 (by decide) (tgt := 4) ?_
                  refine qv_lv (lv' := [(2, .int (qI ((de i) + 1))), (3, .int (qI (d + 1))), (0, .ref u), (1, .int (qI h))]) [0, 1, 3, 4] rfl ?_
                  exact ih4 ((de i) + 1) (d + 1) f' (by omega) (by omega) (by omega) (by first | exact hf.trans (m_ls_drain ⟨by omega, by omega⟩ ⟨by omega, by omega⟩) | exact hf.trans (m_ls_one ⟨by omega, by omega⟩ (by omega))) (by omega)
  refine qv_lv (lv' := [(2, .int (qI h)), (3, .int (qI 0)), (0, .ref u), (1, .int (qI h))]) [1, 0, 2, 3] rfl ?_
  exact L4 _ h 0 24 (Nat.lt_succ_self _) (by first | assumption | omega) (by first | assumption | omega) (rfl) (by omega)
set_option maxHeartbeats 4000000 in
set_option maxRecDepth 100000 in
theorem c_D_step (l : Launch) (G : qG) {u utx uro urc urn urp ula uop urg utg ude ule udn uv ub ubf ubh ukp uwa : Nat} {cd sz cu fa rdn n pl st on cn hd ps ss tk : Int} {k r t v : Int → Int} (hn : 0 ≤ n ∧ n ≤ 24) (hp : 0 ≤ pl ∧ pl ≤ n) (hk : ∀ i, 0 ≤ k i ∧ k i ≤ 3) (hr7 : ∀ i, 0 ≤ i → i < n → k i = 0 ∨ k i = 1 → 0 ≤ r i ∧ r i ≤ 7) (hs : 0 ≤ st ∧ st ≤ 1000000000000000) (hv : ∀ c, 0 ≤ v c ∧ v c ≤ 1000000) (hN : (pl < n ∧ ¬ k pl = 3)) (hS : ¬ ((k pl = 0 ∧ 1000000 ≤ v (r pl)) ∨ 1000000000000000 ≤ st)) : qM l G y_D_step b_D_step 4 none ({ frames := 0, cells := 0, slots := 0, locals := 0 }) [.ref u] [(u, .inr (5, [.int (qI cd), .int (qI sz), .ref utx, .int (qI cu), .int (qI fa), .int (qI rdn), .ref uro, .ref urc, .ref urn, .ref urp, .ref ula, .int (qI n), .ref uop, .ref urg, .ref utg, .ref ude, .ref ule, .ref udn, .ref uv, .ref ub, .int (qI pl), .long (qL st), .int (qI on), .long (qL cn), .int (qI hd), .long (qL ps), .long (qL ss), .ref ubf, .ref ubh, .long (qL tk), .ref ukp, .ref uwa])), (uop, .inl (G.2.1, 24, .inl (qA k))), (urg, .inl (G.2.1, 24, .inl (qA r))), (utg, .inl (G.2.1, 24, .inl (qA t))), (uv, .inl (G.2.1, 8, .inl (qA v)))] (fun v' ws' => v' = none ∧ ws' = [(u, .inr (5, [.int (qI cd), .int (qI sz), .ref utx, .int (qI cu), .int (qI fa), .int (qI rdn), .ref uro, .ref urc, .ref urn, .ref urp, .ref ula, .int (qI n), .ref uop, .ref urg, .ref utg, .ref ude, .ref ule, .ref udn, .ref uv, .ref ub, .int (qI (m_sp k r t pl v)), .long (qL (st + 1)), .int (qI on), .long (qL cn), .int (qI hd), .long (qL ps), .long (qL ss), .ref ubf, .ref ubh, .long (qL tk), .ref ukp, .ref uwa])), (uop, .inl (G.2.1, 24, .inl (qA k))), (urg, .inl (G.2.1, 24, .inl (qA r))), (utg, .inl (G.2.1, 24, .inl (qA t))), (uv, .inl (G.2.1, 8, .inl (qA (m_sv k r pl v))))]) := by
  refine qM.of (by decide) (Nat.le_of_ble_eq_true rfl) (fun xp xe xs xm xb xme xc A C hrt hlk hnm => ?_)
  refine qv_eq (lv' := [(0, .ref u)]) rfl rfl rfl ?_
  refine qv_aload_n C 0 d_D_step_0 rfl rfl ?_
  refine qv_get C in_D 0 rfl rfl 20 (by decide) wf_D_126 rfl rfl d_D_step_1 ?_
  refine qv_istore_n C d_D_step_4 rfl (by decide) (lv' := [(1, .int (qI pl)), (0, .ref u)]) rfl ?_
  refine qv_aload_n C 1 d_D_step_5 rfl rfl ?_
  refine qv_get C in_D 0 rfl rfl 13 (by decide) wf_D_31 rfl rfl d_D_step_6 ?_
  refine qv_iload_n C 0 d_D_step_9 rfl rfl ?_
  refine qv_iald C 2 rfl (by omega) d_D_step_10 ?_
  have hq0 := hr7 pl (by omega) (by omega)
  refine qv_istore_n C d_D_step_11 rfl (by decide) (lv' := [(2, .int (qI (r pl))), (1, .int (qI pl)), (0, .ref u)]) rfl ?_
  refine qv_aload_n C 2 d_D_step_12 rfl rfl ?_
  refine qv_get C in_D 0 rfl rfl 12 (by decide) wf_D_28 rfl rfl d_D_step_13 ?_
  refine qv_iload_n C 1 d_D_step_16 rfl rfl ?_
  refine qv_iald C 1 rfl (by omega) d_D_step_17 ?_
  have hq1 := hk pl
  refine qv_iconst C d_D_step_18 ?_
  refine qv_icmp_eq C d_D_step_19 (tgt := 41) (by decide) (by omega) (by omega) (fun ht19 => ?_) (fun hf19 => ?_)
  · refine qv_iconst C d_D_step_41 ?_
    refine qv_goto C d_D_step_42 (by decide) (tgt := 46) ?_
    refine qv_istore_n C d_D_step_46 rfl (by decide) (lv' := [(3, .int (qI 1)), (2, .int (qI (r pl))), (1, .int (qI pl)), (0, .ref u)]) rfl ?_
    refine qv_iload_n C 0 d_D_step_47 rfl rfl ?_
    refine qv_if_ne C d_D_step_48 (tgt := 74) (by decide) (by omega) (fun ht48 => ?_) (fun hf48 => ?_)
    · refine qv_aload_n C 3 d_D_step_74 rfl rfl ?_
      refine qv_iload_n C 0 d_D_step_75 rfl rfl ?_
      refine qv_if_eq C d_D_step_76 (tgt := 88) (by decide) (by omega) (fun ht76 => ?_) (fun hf76 => ?_)
      · exfalso; omega
      · refine qv_aload_n C 3 d_D_step_79 rfl rfl ?_
        refine qv_get C in_D 0 rfl rfl 14 (by decide) wf_D_34 rfl rfl d_D_step_80 ?_
        refine qv_iload_n C 2 d_D_step_83 rfl rfl ?_
        refine qv_iald C 3 rfl (by omega) d_D_step_84 ?_
        refine qv_goto C d_D_step_85 (by decide) (tgt := 91) ?_
        refine qv_put C in_D 0 rfl rfl 20 (by decide) t_D t_D_ok n_D wf_D_126 rfl rfl (t_D_ok 20 (by decide)) (rfl) (rfl) (Nat.le_of_ble_eq_true rfl) d_D_step_91 (ws' := [(u, .inr (5, [.int (qI cd), .int (qI sz), .ref utx, .int (qI cu), .int (qI fa), .int (qI rdn), .ref uro, .ref urc, .ref urn, .ref urp, .ref ula, .int (qI n), .ref uop, .ref urg, .ref utg, .ref ude, .ref ule, .ref udn, .ref uv, .ref ub, .int (qI (t pl)), .long (qL st), .int (qI on), .long (qL cn), .int (qI hd), .long (qL ps), .long (qL ss), .ref ubf, .ref ubh, .long (qL tk), .ref ukp, .ref uwa])), (uop, .inl (G.2.1, 24, .inl (qA k))), (urg, .inl (G.2.1, 24, .inl (qA r))), (utg, .inl (G.2.1, 24, .inl (qA t))), (uv, .inl (G.2.1, 8, .inl (qA v)))]) rfl ?_
        refine qv_aload_n C 3 d_D_step_94 rfl rfl ?_
        refine qv_dup C d_D_step_95 rfl ?_
        refine qv_get C in_D 0 rfl rfl 21 (by decide) wf_D_129 rfl rfl d_D_step_96 ?_
        refine qv_lconst C (z := 1) d_D_step_99 (by decide) ?_
        refine qv_ladd C d_D_step_100 ?_
        refine qv_put C in_D 0 rfl rfl 21 (by decide) t_D t_D_ok n_D wf_D_129 rfl rfl (t_D_ok 21 (by decide)) (rfl) (rfl) (Nat.le_of_ble_eq_true rfl) d_D_step_101 (ws' := [(u, .inr (5, [.int (qI cd), .int (qI sz), .ref utx, .int (qI cu), .int (qI fa), .int (qI rdn), .ref uro, .ref urc, .ref urn, .ref urp, .ref ula, .int (qI n), .ref uop, .ref urg, .ref utg, .ref ude, .ref ule, .ref udn, .ref uv, .ref ub, .int (qI (t pl)), .long (qL (st + 1)), .int (qI on), .long (qL cn), .int (qI hd), .long (qL ps), .long (qL ss), .ref ubf, .ref ubh, .long (qL tk), .ref ukp, .ref uwa])), (uop, .inl (G.2.1, 24, .inl (qA k))), (urg, .inl (G.2.1, 24, .inl (qA r))), (utg, .inl (G.2.1, 24, .inl (qA t))), (uv, .inl (G.2.1, 8, .inl (qA v)))]) rfl ?_
        refine qv_vret C hrt hlk d_D_step_104 ?_
        first | (exfalso; omega) | (refine ⟨rfl, ?_⟩; rw [m_sp, m_sv, if_neg (by omega), if_neg (by omega), if_neg (by omega)])
    · exfalso; omega
  · refine qv_aload_n C 2 d_D_step_22 rfl rfl ?_
    refine qv_get C in_D 0 rfl rfl 12 (by decide) wf_D_28 rfl rfl d_D_step_23 ?_
    refine qv_iload_n C 1 d_D_step_26 rfl rfl ?_
    refine qv_iald C 1 rfl (by omega) d_D_step_27 ?_
    have hq2 := hk pl
    refine qv_iconst C d_D_step_28 ?_
    refine qv_icmp_ne C d_D_step_29 (tgt := 45) (by decide) (by omega) (by omega) (fun ht29 => ?_) (fun hf29 => ?_)
    · have hk0 : k pl = 0 := by omega
      refine qv_iconst C d_D_step_45 ?_
      refine qv_istore_n C d_D_step_46 rfl (by decide) (lv' := [(3, .int (qI 0)), (2, .int (qI (r pl))), (1, .int (qI pl)), (0, .ref u)]) rfl ?_
      refine qv_iload_n C 0 d_D_step_47 rfl rfl ?_
      refine qv_if_ne C d_D_step_48 (tgt := 74) (by decide) (by omega) (fun ht48 => ?_) (fun hf48 => ?_)
      · exfalso; omega
      · refine qv_aload_n C 3 d_D_step_51 rfl rfl ?_
        refine qv_get C in_D 0 rfl rfl 18 (by decide) wf_D_46 rfl rfl d_D_step_52 ?_
        refine qv_iload_n C 1 d_D_step_55 rfl rfl ?_
        refine qv_dup2 C d_D_step_56 rfl rfl ?_
        refine qv_iald C 4 rfl (by omega) d_D_step_57 ?_
        have hq3 := hv (r pl)
        refine qv_aload_n C 3 d_D_step_58 rfl rfl ?_
        refine qv_get C in_D 0 rfl rfl 12 (by decide) wf_D_28 rfl rfl d_D_step_59 ?_
        refine qv_iload_n C 2 d_D_step_62 rfl rfl ?_
        refine qv_iald C 1 rfl (by omega) d_D_step_63 ?_
        have hq4 := hk pl
        refine qv_if_ne C d_D_step_64 (tgt := 71) (by decide) (by omega) (fun ht64 => ?_) (fun hf64 => ?_)
        · refine qv_iconst C d_D_step_71 ?_
          refine qv_iadd C d_D_step_72 ?_
          refine qv_iast C 4 rfl (by omega) d_D_step_73 (ws' := [(u, .inr (5, [.int (qI cd), .int (qI sz), .ref utx, .int (qI cu), .int (qI fa), .int (qI rdn), .ref uro, .ref urc, .ref urn, .ref urp, .ref ula, .int (qI n), .ref uop, .ref urg, .ref utg, .ref ude, .ref ule, .ref udn, .ref uv, .ref ub, .int (qI pl), .long (qL st), .int (qI on), .long (qL cn), .int (qI hd), .long (qL ps), .long (qL ss), .ref ubf, .ref ubh, .long (qL tk), .ref ukp, .ref uwa])), (uop, .inl (G.2.1, 24, .inl (qA k))), (urg, .inl (G.2.1, 24, .inl (qA r))), (utg, .inl (G.2.1, 24, .inl (qA t))), (uv, .inl (G.2.1, 8, .inl (qA (qU v (r pl) ((v (r pl)) + (-1))))))]) rfl ?_
          refine qv_aload_n C 3 d_D_step_74 rfl rfl ?_
          refine qv_iload_n C 0 d_D_step_75 rfl rfl ?_
          refine qv_if_eq C d_D_step_76 (tgt := 88) (by decide) (by omega) (fun ht76 => ?_) (fun hf76 => ?_)
          · refine qv_iload_n C 2 d_D_step_88 rfl rfl ?_
            refine qv_iconst C d_D_step_89 ?_
            refine qv_iadd C d_D_step_90 ?_
            refine qv_put C in_D 0 rfl rfl 20 (by decide) t_D t_D_ok n_D wf_D_126 rfl rfl (t_D_ok 20 (by decide)) (rfl) (rfl) (Nat.le_of_ble_eq_true rfl) d_D_step_91 (ws' := [(u, .inr (5, [.int (qI cd), .int (qI sz), .ref utx, .int (qI cu), .int (qI fa), .int (qI rdn), .ref uro, .ref urc, .ref urn, .ref urp, .ref ula, .int (qI n), .ref uop, .ref urg, .ref utg, .ref ude, .ref ule, .ref udn, .ref uv, .ref ub, .int (qI (pl + 1)), .long (qL st), .int (qI on), .long (qL cn), .int (qI hd), .long (qL ps), .long (qL ss), .ref ubf, .ref ubh, .long (qL tk), .ref ukp, .ref uwa])), (uop, .inl (G.2.1, 24, .inl (qA k))), (urg, .inl (G.2.1, 24, .inl (qA r))), (utg, .inl (G.2.1, 24, .inl (qA t))), (uv, .inl (G.2.1, 8, .inl (qA (qU v (r pl) ((v (r pl)) + (-1))))))]) rfl ?_
            refine qv_aload_n C 3 d_D_step_94 rfl rfl ?_
            refine qv_dup C d_D_step_95 rfl ?_
            refine qv_get C in_D 0 rfl rfl 21 (by decide) wf_D_129 rfl rfl d_D_step_96 ?_
            refine qv_lconst C (z := 1) d_D_step_99 (by decide) ?_
            refine qv_ladd C d_D_step_100 ?_
            refine qv_put C in_D 0 rfl rfl 21 (by decide) t_D t_D_ok n_D wf_D_129 rfl rfl (t_D_ok 21 (by decide)) (rfl) (rfl) (Nat.le_of_ble_eq_true rfl) d_D_step_101 (ws' := [(u, .inr (5, [.int (qI cd), .int (qI sz), .ref utx, .int (qI cu), .int (qI fa), .int (qI rdn), .ref uro, .ref urc, .ref urn, .ref urp, .ref ula, .int (qI n), .ref uop, .ref urg, .ref utg, .ref ude, .ref ule, .ref udn, .ref uv, .ref ub, .int (qI (pl + 1)), .long (qL (st + 1)), .int (qI on), .long (qL cn), .int (qI hd), .long (qL ps), .long (qL ss), .ref ubf, .ref ubh, .long (qL tk), .ref ukp, .ref uwa])), (uop, .inl (G.2.1, 24, .inl (qA k))), (urg, .inl (G.2.1, 24, .inl (qA r))), (utg, .inl (G.2.1, 24, .inl (qA t))), (uv, .inl (G.2.1, 8, .inl (qA (qU v (r pl) ((v (r pl)) + (-1))))))]) rfl ?_
            refine qv_vret C hrt hlk d_D_step_104 ?_
            first | (exfalso; omega) | (refine ⟨rfl, ?_⟩; rw [m_sp, m_sv, if_pos (by omega), if_neg (by omega), if_pos (by omega)]; rfl)
          · exfalso; omega
        · refine qv_iconst C d_D_step_67 ?_
          refine qv_goto C d_D_step_68 (by decide) (tgt := 72) ?_
          refine qv_iadd C d_D_step_72 ?_
          refine qv_iast C 4 rfl (by omega) d_D_step_73 (ws' := [(u, .inr (5, [.int (qI cd), .int (qI sz), .ref utx, .int (qI cu), .int (qI fa), .int (qI rdn), .ref uro, .ref urc, .ref urn, .ref urp, .ref ula, .int (qI n), .ref uop, .ref urg, .ref utg, .ref ude, .ref ule, .ref udn, .ref uv, .ref ub, .int (qI pl), .long (qL st), .int (qI on), .long (qL cn), .int (qI hd), .long (qL ps), .long (qL ss), .ref ubf, .ref ubh, .long (qL tk), .ref ukp, .ref uwa])), (uop, .inl (G.2.1, 24, .inl (qA k))), (urg, .inl (G.2.1, 24, .inl (qA r))), (utg, .inl (G.2.1, 24, .inl (qA t))), (uv, .inl (G.2.1, 8, .inl (qA (qU v (r pl) ((v (r pl)) + 1)))))]) rfl ?_
          refine qv_aload_n C 3 d_D_step_74 rfl rfl ?_
          refine qv_iload_n C 0 d_D_step_75 rfl rfl ?_
          refine qv_if_eq C d_D_step_76 (tgt := 88) (by decide) (by omega) (fun ht76 => ?_) (fun hf76 => ?_)
          · refine qv_iload_n C 2 d_D_step_88 rfl rfl ?_
            refine qv_iconst C d_D_step_89 ?_
            refine qv_iadd C d_D_step_90 ?_
            refine qv_put C in_D 0 rfl rfl 20 (by decide) t_D t_D_ok n_D wf_D_126 rfl rfl (t_D_ok 20 (by decide)) (rfl) (rfl) (Nat.le_of_ble_eq_true rfl) d_D_step_91 (ws' := [(u, .inr (5, [.int (qI cd), .int (qI sz), .ref utx, .int (qI cu), .int (qI fa), .int (qI rdn), .ref uro, .ref urc, .ref urn, .ref urp, .ref ula, .int (qI n), .ref uop, .ref urg, .ref utg, .ref ude, .ref ule, .ref udn, .ref uv, .ref ub, .int (qI (pl + 1)), .long (qL st), .int (qI on), .long (qL cn), .int (qI hd), .long (qL ps), .long (qL ss), .ref ubf, .ref ubh, .long (qL tk), .ref ukp, .ref uwa])), (uop, .inl (G.2.1, 24, .inl (qA k))), (urg, .inl (G.2.1, 24, .inl (qA r))), (utg, .inl (G.2.1, 24, .inl (qA t))), (uv, .inl (G.2.1, 8, .inl (qA (qU v (r pl) ((v (r pl)) + 1)))))]) rfl ?_
            refine qv_aload_n C 3 d_D_step_94 rfl rfl ?_
            refine qv_dup C d_D_step_95 rfl ?_
            refine qv_get C in_D 0 rfl rfl 21 (by decide) wf_D_129 rfl rfl d_D_step_96 ?_
            refine qv_lconst C (z := 1) d_D_step_99 (by decide) ?_
            refine qv_ladd C d_D_step_100 ?_
            refine qv_put C in_D 0 rfl rfl 21 (by decide) t_D t_D_ok n_D wf_D_129 rfl rfl (t_D_ok 21 (by decide)) (rfl) (rfl) (Nat.le_of_ble_eq_true rfl) d_D_step_101 (ws' := [(u, .inr (5, [.int (qI cd), .int (qI sz), .ref utx, .int (qI cu), .int (qI fa), .int (qI rdn), .ref uro, .ref urc, .ref urn, .ref urp, .ref ula, .int (qI n), .ref uop, .ref urg, .ref utg, .ref ude, .ref ule, .ref udn, .ref uv, .ref ub, .int (qI (pl + 1)), .long (qL (st + 1)), .int (qI on), .long (qL cn), .int (qI hd), .long (qL ps), .long (qL ss), .ref ubf, .ref ubh, .long (qL tk), .ref ukp, .ref uwa])), (uop, .inl (G.2.1, 24, .inl (qA k))), (urg, .inl (G.2.1, 24, .inl (qA r))), (utg, .inl (G.2.1, 24, .inl (qA t))), (uv, .inl (G.2.1, 8, .inl (qA (qU v (r pl) ((v (r pl)) + 1)))))]) rfl ?_
            refine qv_vret C hrt hlk d_D_step_104 ?_
            first | (exfalso; omega) | (refine ⟨rfl, ?_⟩; rw [m_sp, m_sv, if_pos (by omega), if_pos (by omega)])
          · exfalso; omega
    · have hk1 : k pl = 1 := by omega
      refine qv_aload_n C 2 d_D_step_32 rfl rfl ?_
      refine qv_get C in_D 0 rfl rfl 18 (by decide) wf_D_46 rfl rfl d_D_step_33 ?_
      refine qv_iload_n C 0 d_D_step_36 rfl rfl ?_
      refine qv_iald C 4 rfl (by omega) d_D_step_37 ?_
      have hq5 := hv (r pl)
      refine qv_if_ne C d_D_step_38 (tgt := 45) (by decide) (by omega) (fun ht38 => ?_) (fun hf38 => ?_)
      · refine qv_iconst C d_D_step_45 ?_
        refine qv_istore_n C d_D_step_46 rfl (by decide) (lv' := [(3, .int (qI 0)), (2, .int (qI (r pl))), (1, .int (qI pl)), (0, .ref u)]) rfl ?_
        refine qv_iload_n C 0 d_D_step_47 rfl rfl ?_
        refine qv_if_ne C d_D_step_48 (tgt := 74) (by decide) (by omega) (fun ht48 => ?_) (fun hf48 => ?_)
        · exfalso; omega
        · refine qv_aload_n C 3 d_D_step_51 rfl rfl ?_
          refine qv_get C in_D 0 rfl rfl 18 (by decide) wf_D_46 rfl rfl d_D_step_52 ?_
          refine qv_iload_n C 1 d_D_step_55 rfl rfl ?_
          refine qv_dup2 C d_D_step_56 rfl rfl ?_
          refine qv_iald C 4 rfl (by omega) d_D_step_57 ?_
          have hq6 := hv (r pl)
          refine qv_aload_n C 3 d_D_step_58 rfl rfl ?_
          refine qv_get C in_D 0 rfl rfl 12 (by decide) wf_D_28 rfl rfl d_D_step_59 ?_
          refine qv_iload_n C 2 d_D_step_62 rfl rfl ?_
          refine qv_iald C 1 rfl (by omega) d_D_step_63 ?_
          have hq7 := hk pl
          refine qv_if_ne C d_D_step_64 (tgt := 71) (by decide) (by omega) (fun ht64 => ?_) (fun hf64 => ?_)
          · refine qv_iconst C d_D_step_71 ?_
            refine qv_iadd C d_D_step_72 ?_
            refine qv_iast C 4 rfl (by omega) d_D_step_73 (ws' := [(u, .inr (5, [.int (qI cd), .int (qI sz), .ref utx, .int (qI cu), .int (qI fa), .int (qI rdn), .ref uro, .ref urc, .ref urn, .ref urp, .ref ula, .int (qI n), .ref uop, .ref urg, .ref utg, .ref ude, .ref ule, .ref udn, .ref uv, .ref ub, .int (qI pl), .long (qL st), .int (qI on), .long (qL cn), .int (qI hd), .long (qL ps), .long (qL ss), .ref ubf, .ref ubh, .long (qL tk), .ref ukp, .ref uwa])), (uop, .inl (G.2.1, 24, .inl (qA k))), (urg, .inl (G.2.1, 24, .inl (qA r))), (utg, .inl (G.2.1, 24, .inl (qA t))), (uv, .inl (G.2.1, 8, .inl (qA (qU v (r pl) ((v (r pl)) + (-1))))))]) rfl ?_
            refine qv_aload_n C 3 d_D_step_74 rfl rfl ?_
            refine qv_iload_n C 0 d_D_step_75 rfl rfl ?_
            refine qv_if_eq C d_D_step_76 (tgt := 88) (by decide) (by omega) (fun ht76 => ?_) (fun hf76 => ?_)
            · refine qv_iload_n C 2 d_D_step_88 rfl rfl ?_
              refine qv_iconst C d_D_step_89 ?_
              refine qv_iadd C d_D_step_90 ?_
              refine qv_put C in_D 0 rfl rfl 20 (by decide) t_D t_D_ok n_D wf_D_126 rfl rfl (t_D_ok 20 (by decide)) (rfl) (rfl) (Nat.le_of_ble_eq_true rfl) d_D_step_91 (ws' := [(u, .inr (5, [.int (qI cd), .int (qI sz), .ref utx, .int (qI cu), .int (qI fa), .int (qI rdn), .ref uro, .ref urc, .ref urn, .ref urp, .ref ula, .int (qI n), .ref uop, .ref urg, .ref utg, .ref ude, .ref ule, .ref udn, .ref uv, .ref ub, .int (qI (pl + 1)), .long (qL st), .int (qI on), .long (qL cn), .int (qI hd), .long (qL ps), .long (qL ss), .ref ubf, .ref ubh, .long (qL tk), .ref ukp, .ref uwa])), (uop, .inl (G.2.1, 24, .inl (qA k))), (urg, .inl (G.2.1, 24, .inl (qA r))), (utg, .inl (G.2.1, 24, .inl (qA t))), (uv, .inl (G.2.1, 8, .inl (qA (qU v (r pl) ((v (r pl)) + (-1))))))]) rfl ?_
              refine qv_aload_n C 3 d_D_step_94 rfl rfl ?_
              refine qv_dup C d_D_step_95 rfl ?_
              refine qv_get C in_D 0 rfl rfl 21 (by decide) wf_D_129 rfl rfl d_D_step_96 ?_
              refine qv_lconst C (z := 1) d_D_step_99 (by decide) ?_
              refine qv_ladd C d_D_step_100 ?_
              refine qv_put C in_D 0 rfl rfl 21 (by decide) t_D t_D_ok n_D wf_D_129 rfl rfl (t_D_ok 21 (by decide)) (rfl) (rfl) (Nat.le_of_ble_eq_true rfl) d_D_step_101 (ws' := [(u, .inr (5, [.int (qI cd), .int (qI sz), .ref utx, .int (qI cu), .int (qI fa), .int (qI rdn), .ref uro, .ref urc, .ref urn, .ref urp, .ref ula, .int (qI n), .ref uop, .ref urg, .ref utg, .ref ude, .ref ule, .ref udn, .ref uv, .ref ub, .int (qI (pl + 1)), .long (qL (st + 1)), .int (qI on), .long (qL cn), .int (qI hd), .long (qL ps), .long (qL ss), .ref ubf, .ref ubh, .long (qL tk), .ref ukp, .ref uwa])), (uop, .inl (G.2.1, 24, .inl (qA k))), (urg, .inl (G.2.1, 24, .inl (qA r))), (utg, .inl (G.2.1, 24, .inl (qA t))), (uv, .inl (G.2.1, 8, .inl (qA (qU v (r pl) ((v (r pl)) + (-1))))))]) rfl ?_
              refine qv_vret C hrt hlk d_D_step_104 ?_
              first | (exfalso; omega) | (refine ⟨rfl, ?_⟩; rw [m_sp, m_sv, if_pos (by omega), if_neg (by omega), if_pos (by omega)]; rfl)
            · exfalso; omega
          · refine qv_iconst C d_D_step_67 ?_
            refine qv_goto C d_D_step_68 (by decide) (tgt := 72) ?_
            refine qv_iadd C d_D_step_72 ?_
            refine qv_iast C 4 rfl (by omega) d_D_step_73 (ws' := [(u, .inr (5, [.int (qI cd), .int (qI sz), .ref utx, .int (qI cu), .int (qI fa), .int (qI rdn), .ref uro, .ref urc, .ref urn, .ref urp, .ref ula, .int (qI n), .ref uop, .ref urg, .ref utg, .ref ude, .ref ule, .ref udn, .ref uv, .ref ub, .int (qI pl), .long (qL st), .int (qI on), .long (qL cn), .int (qI hd), .long (qL ps), .long (qL ss), .ref ubf, .ref ubh, .long (qL tk), .ref ukp, .ref uwa])), (uop, .inl (G.2.1, 24, .inl (qA k))), (urg, .inl (G.2.1, 24, .inl (qA r))), (utg, .inl (G.2.1, 24, .inl (qA t))), (uv, .inl (G.2.1, 8, .inl (qA (qU v (r pl) ((v (r pl)) + 1)))))]) rfl ?_
            refine qv_aload_n C 3 d_D_step_74 rfl rfl ?_
            refine qv_iload_n C 0 d_D_step_75 rfl rfl ?_
            refine qv_if_eq C d_D_step_76 (tgt := 88) (by decide) (by omega) (fun ht76 => ?_) (fun hf76 => ?_)
            · refine qv_iload_n C 2 d_D_step_88 rfl rfl ?_
              refine qv_iconst C d_D_step_89 ?_
              refine qv_iadd C d_D_step_90 ?_
              refine qv_put C in_D 0 rfl rfl 20 (by decide) t_D t_D_ok n_D wf_D_126 rfl rfl (t_D_ok 20 (by decide)) (rfl) (rfl) (Nat.le_of_ble_eq_true rfl) d_D_step_91 (ws' := [(u, .inr (5, [.int (qI cd), .int (qI sz), .ref utx, .int (qI cu), .int (qI fa), .int (qI rdn), .ref uro, .ref urc, .ref urn, .ref urp, .ref ula, .int (qI n), .ref uop, .ref urg, .ref utg, .ref ude, .ref ule, .ref udn, .ref uv, .ref ub, .int (qI (pl + 1)), .long (qL st), .int (qI on), .long (qL cn), .int (qI hd), .long (qL ps), .long (qL ss), .ref ubf, .ref ubh, .long (qL tk), .ref ukp, .ref uwa])), (uop, .inl (G.2.1, 24, .inl (qA k))), (urg, .inl (G.2.1, 24, .inl (qA r))), (utg, .inl (G.2.1, 24, .inl (qA t))), (uv, .inl (G.2.1, 8, .inl (qA (qU v (r pl) ((v (r pl)) + 1)))))]) rfl ?_
              refine qv_aload_n C 3 d_D_step_94 rfl rfl ?_
              refine qv_dup C d_D_step_95 rfl ?_
              refine qv_get C in_D 0 rfl rfl 21 (by decide) wf_D_129 rfl rfl d_D_step_96 ?_
              refine qv_lconst C (z := 1) d_D_step_99 (by decide) ?_
              refine qv_ladd C d_D_step_100 ?_
              refine qv_put C in_D 0 rfl rfl 21 (by decide) t_D t_D_ok n_D wf_D_129 rfl rfl (t_D_ok 21 (by decide)) (rfl) (rfl) (Nat.le_of_ble_eq_true rfl) d_D_step_101 (ws' := [(u, .inr (5, [.int (qI cd), .int (qI sz), .ref utx, .int (qI cu), .int (qI fa), .int (qI rdn), .ref uro, .ref urc, .ref urn, .ref urp, .ref ula, .int (qI n), .ref uop, .ref urg, .ref utg, .ref ude, .ref ule, .ref udn, .ref uv, .ref ub, .int (qI (pl + 1)), .long (qL (st + 1)), .int (qI on), .long (qL cn), .int (qI hd), .long (qL ps), .long (qL ss), .ref ubf, .ref ubh, .long (qL tk), .ref ukp, .ref uwa])), (uop, .inl (G.2.1, 24, .inl (qA k))), (urg, .inl (G.2.1, 24, .inl (qA r))), (utg, .inl (G.2.1, 24, .inl (qA t))), (uv, .inl (G.2.1, 8, .inl (qA (qU v (r pl) ((v (r pl)) + 1)))))]) rfl ?_
              refine qv_vret C hrt hlk d_D_step_104 ?_
              first | (exfalso; omega) | (refine ⟨rfl, ?_⟩; rw [m_sp, m_sv, if_pos (by omega), if_pos (by omega)])
            · exfalso; omega
      · refine qv_iconst C d_D_step_41 ?_
        refine qv_goto C d_D_step_42 (by decide) (tgt := 46) ?_
        refine qv_istore_n C d_D_step_46 rfl (by decide) (lv' := [(3, .int (qI 1)), (2, .int (qI (r pl))), (1, .int (qI pl)), (0, .ref u)]) rfl ?_
        refine qv_iload_n C 0 d_D_step_47 rfl rfl ?_
        refine qv_if_ne C d_D_step_48 (tgt := 74) (by decide) (by omega) (fun ht48 => ?_) (fun hf48 => ?_)
        · refine qv_aload_n C 3 d_D_step_74 rfl rfl ?_
          refine qv_iload_n C 0 d_D_step_75 rfl rfl ?_
          refine qv_if_eq C d_D_step_76 (tgt := 88) (by decide) (by omega) (fun ht76 => ?_) (fun hf76 => ?_)
          · exfalso; omega
          · refine qv_aload_n C 3 d_D_step_79 rfl rfl ?_
            refine qv_get C in_D 0 rfl rfl 14 (by decide) wf_D_34 rfl rfl d_D_step_80 ?_
            refine qv_iload_n C 2 d_D_step_83 rfl rfl ?_
            refine qv_iald C 3 rfl (by omega) d_D_step_84 ?_
            refine qv_goto C d_D_step_85 (by decide) (tgt := 91) ?_
            refine qv_put C in_D 0 rfl rfl 20 (by decide) t_D t_D_ok n_D wf_D_126 rfl rfl (t_D_ok 20 (by decide)) (rfl) (rfl) (Nat.le_of_ble_eq_true rfl) d_D_step_91 (ws' := [(u, .inr (5, [.int (qI cd), .int (qI sz), .ref utx, .int (qI cu), .int (qI fa), .int (qI rdn), .ref uro, .ref urc, .ref urn, .ref urp, .ref ula, .int (qI n), .ref uop, .ref urg, .ref utg, .ref ude, .ref ule, .ref udn, .ref uv, .ref ub, .int (qI (t pl)), .long (qL st), .int (qI on), .long (qL cn), .int (qI hd), .long (qL ps), .long (qL ss), .ref ubf, .ref ubh, .long (qL tk), .ref ukp, .ref uwa])), (uop, .inl (G.2.1, 24, .inl (qA k))), (urg, .inl (G.2.1, 24, .inl (qA r))), (utg, .inl (G.2.1, 24, .inl (qA t))), (uv, .inl (G.2.1, 8, .inl (qA v)))]) rfl ?_
            refine qv_aload_n C 3 d_D_step_94 rfl rfl ?_
            refine qv_dup C d_D_step_95 rfl ?_
            refine qv_get C in_D 0 rfl rfl 21 (by decide) wf_D_129 rfl rfl d_D_step_96 ?_
            refine qv_lconst C (z := 1) d_D_step_99 (by decide) ?_
            refine qv_ladd C d_D_step_100 ?_
            refine qv_put C in_D 0 rfl rfl 21 (by decide) t_D t_D_ok n_D wf_D_129 rfl rfl (t_D_ok 21 (by decide)) (rfl) (rfl) (Nat.le_of_ble_eq_true rfl) d_D_step_101 (ws' := [(u, .inr (5, [.int (qI cd), .int (qI sz), .ref utx, .int (qI cu), .int (qI fa), .int (qI rdn), .ref uro, .ref urc, .ref urn, .ref urp, .ref ula, .int (qI n), .ref uop, .ref urg, .ref utg, .ref ude, .ref ule, .ref udn, .ref uv, .ref ub, .int (qI (t pl)), .long (qL (st + 1)), .int (qI on), .long (qL cn), .int (qI hd), .long (qL ps), .long (qL ss), .ref ubf, .ref ubh, .long (qL tk), .ref ukp, .ref uwa])), (uop, .inl (G.2.1, 24, .inl (qA k))), (urg, .inl (G.2.1, 24, .inl (qA r))), (utg, .inl (G.2.1, 24, .inl (qA t))), (uv, .inl (G.2.1, 8, .inl (qA v)))]) rfl ?_
            refine qv_vret C hrt hlk d_D_step_104 ?_
            first | (exfalso; omega) | (refine ⟨rfl, ?_⟩; rw [m_sp, m_sv, if_neg (by omega), if_neg (by omega), if_neg (by omega)])
        · exfalso; omega
set_option maxHeartbeats 4000000 in
set_option maxRecDepth 100000 in
theorem c_D_drained (l : Launch) (G : qG) {u utx uro urc urn urp ula uop urg utg ude ule udn uv ub ubf ubh ukp uwa : Nat} {cd sz cu fa rdn n pl st on cn hd ps ss tk : Int} {i0 x : Int} {r de bh lo hi : Int → Int} (hi0 : 0 ≤ i0 ∧ i0 < de i0 ∧ de i0 < 24) (hx : 0 ≤ x ∧ x ≤ 1000000) (hrj : ∀ j, i0 ≤ j → j < de i0 → 0 ≤ r j ∧ r j ≤ 7) (hw : ∀ c, 0 ≤ bh c ∧ bh c ≤ 1000000) : qM l G y_D_drained b_D_drained 5 (some .boolean) ({ frames := 0, cells := 0, slots := 0, locals := 0 }) [.ref u, .int (qI i0), .int (qI x)] [(u, .inr (5, [.int (qI cd), .int (qI sz), .ref utx, .int (qI cu), .int (qI fa), .int (qI rdn), .ref uro, .ref urc, .ref urn, .ref urp, .ref ula, .int (qI n), .ref uop, .ref urg, .ref utg, .ref ude, .ref ule, .ref udn, .ref uv, .ref ub, .int (qI pl), .long (qL st), .int (qI on), .long (qL cn), .int (qI hd), .long (qL ps), .long (qL ss), .ref ubf, .ref ubh, .long (qL tk), .ref ukp, .ref uwa])), (urg, .inl (G.2.1, 24, .inl (qA r))), (ude, .inl (G.2.1, 24, .inl (qA de))), (ubh, .inl (G.2.1, 8, .inl (qA bh)))] (fun v' ws' => ∃ (fu' : Int) (w' : Int → Int), v' = some (.int (qI fu')) ∧ ws' = [(u, .inr (5, [.int (qI cd), .int (qI sz), .ref utx, .int (qI cu), .int (qI fa), .int (qI rdn), .ref uro, .ref urc, .ref urn, .ref urp, .ref ula, .int (qI n), .ref uop, .ref urg, .ref utg, .ref ude, .ref ule, .ref udn, .ref uv, .ref ub, .int (qI pl), .long (qL st), .int (qI on), .long (qL cn), .int (qI hd), .long (qL ps), .long (qL ss), .ref ubf, .ref ubh, .long (qL (tk + (x * (de i0 - i0 + 1) + 1))), .ref ukp, .ref uwa])), (urg, .inl (G.2.1, 24, .inl (qA r))), (ude, .inl (G.2.1, 24, .inl (qA de))), (ubh, .inl (G.2.1, 8, .inl (qA w')))] ∧ ((fu' = 1 ∧ ∃ S1 : m_S, m_dr r (de i0) x 24 (i0 + 1) (bh, lo, hi) = some S1 ∧ w' = qU S1.1 (r i0) 0 ∧ (∀ c, 0 ≤ w' c ∧ w' c ≤ 1000000)) ∨ (fu' = 0 ∧ m_dr r (de i0) x 24 (i0 + 1) (bh, lo, hi) = none)) ∧ (∀ c, -1 ≤ w' c ∧ w' c ≤ 1000001) ∧ (∀ c : Int, ¬ (0 ≤ c ∧ c < 8) → w' c = bh c)) := by
  refine qM.of (by decide) (Nat.le_of_ble_eq_true rfl) (fun xp xe xs xm xb xme xc A C hrt hlk hnm => ?_)
  refine qv_eq (lv' := [(0, .ref u), (1, .int (qI i0)), (2, .int (qI x))]) rfl rfl rfl ?_
  refine qv_iconst C d_D_drained_0 ?_
  refine qv_istore_n C d_D_drained_1 rfl (by decide) (lv' := [(3, .int (qI 1)), (0, .ref u), (1, .int (qI i0)), (2, .int (qI x))]) rfl ?_
  refine qv_iload_n C 2 d_D_drained_2 rfl rfl ?_
  refine qv_iconst C d_D_drained_3 ?_
  refine qv_iadd C d_D_drained_4 ?_
  refine qv_istore C d_D_drained_5 (by decide) (lv' := [(4, .int (qI (i0 + 1))), (3, .int (qI 1)), (0, .ref u), (1, .int (qI i0)), (2, .int (qI x))]) rfl ?_
  have J81 : ∀ (fu' : Int) (w' : Int → Int) (lo' : Int → Int) (hi' : Int → Int), ((fu' = 1 ∧ m_dr r (de i0) x 24 (i0 + 1) (bh, lo, hi) = some (w', lo', hi') ∧ (∀ c, 0 ≤ w' c ∧ w' c ≤ 1000000)) ∨ (fu' = 0 ∧ m_dr r (de i0) x 24 (i0 + 1) (bh, lo, hi) = none)) → (∀ c, -1 ≤ w' c ∧ w' c ≤ 1000001) → (∀ c : Int, ¬ (0 ≤ c ∧ c < 8) → w' c = bh c) → qV xp l xe ({ frames := 0, cells := 0, slots := 0, locals := 0 }) xs xm [.ref u, .int (qI i0), .int (qI x)].toArray xb xme xc G A xs.heap 5 (MQ xb (qQ G A (fun v' ws' => ∃ (fu' : Int) (w' : Int → Int), v' = some (.int (qI fu')) ∧ ws' = [(u, .inr (5, [.int (qI cd), .int (qI sz), .ref utx, .int (qI cu), .int (qI fa), .int (qI rdn), .ref uro, .ref urc, .ref urn, .ref urp, .ref ula, .int (qI n), .ref uop, .ref urg, .ref utg, .ref ude, .ref ule, .ref udn, .ref uv, .ref ub, .int (qI pl), .long (qL st), .int (qI on), .long (qL cn), .int (qI hd), .long (qL ps), .long (qL ss), .ref ubf, .ref ubh, .long (qL (tk + (x * (de i0 - i0 + 1) + 1))), .ref ukp, .ref uwa])), (urg, .inl (G.2.1, 24, .inl (qA r))), (ude, .inl (G.2.1, 24, .inl (qA de))), (ubh, .inl (G.2.1, 8, .inl (qA w')))] ∧ ((fu' = 1 ∧ ∃ S1 : m_S, m_dr r (de i0) x 24 (i0 + 1) (bh, lo, hi) = some S1 ∧ w' = qU S1.1 (r i0) 0 ∧ (∀ c, 0 ≤ w' c ∧ w' c ≤ 1000000)) ∨ (fu' = 0 ∧ m_dr r (de i0) x 24 (i0 + 1) (bh, lo, hi) = none)) ∧ (∀ c, -1 ≤ w' c ∧ w' c ≤ 1000001) ∧ (∀ c : Int, ¬ (0 ≤ c ∧ c < 8) → w' c = bh c))) [.ref u, .int (qI i0), .int (qI x)].toArray xs 0 0 A) 0 0 [(u, .inr (5, [.int (qI cd), .int (qI sz), .ref utx, .int (qI cu), .int (qI fa), .int (qI rdn), .ref uro, .ref urc, .ref urn, .ref urp, .ref ula, .int (qI n), .ref uop, .ref urg, .ref utg, .ref ude, .ref ule, .ref udn, .ref uv, .ref ub, .int (qI pl), .long (qL st), .int (qI on), .long (qL cn), .int (qI hd), .long (qL ps), .long (qL ss), .ref ubf, .ref ubh, .long (qL tk), .ref ukp, .ref uwa])), (urg, .inl (G.2.1, 24, .inl (qA r))), (ude, .inl (G.2.1, 24, .inl (qA de))), (ubh, .inl (G.2.1, 8, .inl (qA w')))] [(3, .int (qI fu')), (0, .ref u), (1, .int (qI i0)), (2, .int (qI x))] 81 [] := by
    intro fu' w' lo' hi' hcs hw1 hout
    refine qv_aload_n C 1 d_D_drained_81 rfl rfl ?_
    refine qv_get C in_D 0 rfl rfl 28 (by decide) wf_D_59 rfl rfl d_D_drained_82 ?_
    refine qv_aload_n C 1 d_D_drained_85 rfl rfl ?_
    refine qv_get C in_D 0 rfl rfl 13 (by decide) wf_D_31 rfl rfl d_D_drained_86 ?_
    refine qv_iload_n C 2 d_D_drained_89 rfl rfl ?_
    refine qv_iald C 1 rfl (by omega) d_D_drained_90 ?_
    have hq0 := hrj i0 (by omega) (by omega)
    refine qv_iconst C d_D_drained_91 ?_
    refine qv_iast C 3 rfl (by omega) d_D_drained_92 (ws' := [(u, .inr (5, [.int (qI cd), .int (qI sz), .ref utx, .int (qI cu), .int (qI fa), .int (qI rdn), .ref uro, .ref urc, .ref urn, .ref urp, .ref ula, .int (qI n), .ref uop, .ref urg, .ref utg, .ref ude, .ref ule, .ref udn, .ref uv, .ref ub, .int (qI pl), .long (qL st), .int (qI on), .long (qL cn), .int (qI hd), .long (qL ps), .long (qL ss), .ref ubf, .ref ubh, .long (qL tk), .ref ukp, .ref uwa])), (urg, .inl (G.2.1, 24, .inl (qA r))), (ude, .inl (G.2.1, 24, .inl (qA de))), (ubh, .inl (G.2.1, 8, .inl (qA (qU w' (r i0) 0))))]) rfl ?_
    refine qv_aload_n C 1 d_D_drained_93 rfl rfl ?_
    refine qv_dup C d_D_drained_94 rfl ?_
    refine qv_get C in_D 0 rfl rfl 29 (by decide) wf_D_142 rfl rfl d_D_drained_95 ?_
    refine qv_iload_n C 3 d_D_drained_98 rfl rfl ?_
    refine qv_i2l C (by omega) d_D_drained_99 ?_
    refine qv_aload_n C 1 d_D_drained_100 rfl rfl ?_
    refine qv_get C in_D 0 rfl rfl 15 (by decide) wf_D_37 rfl rfl d_D_drained_101 ?_
    refine qv_iload_n C 2 d_D_drained_104 rfl rfl ?_
    refine qv_iald C 2 rfl (by omega) d_D_drained_105 ?_
    refine qv_iload_n C 2 d_D_drained_106 rfl rfl ?_
    refine qv_isub C d_D_drained_107 ?_
    refine qv_iconst C d_D_drained_108 ?_
    refine qv_iadd C d_D_drained_109 ?_
    refine qv_i2l C (by omega) d_D_drained_110 ?_
    refine qv_lmul C d_D_drained_111 ?_
    refine qv_lconst C (z := 1) d_D_drained_112 (by decide) ?_
    refine qv_ladd C d_D_drained_113 ?_
    refine qv_ladd C d_D_drained_114 ?_
    refine qv_put C in_D 0 rfl rfl 29 (by decide) t_D t_D_ok n_D wf_D_142 rfl rfl (t_D_ok 29 (by decide)) (rfl) (rfl) (Nat.le_of_ble_eq_true rfl) d_D_drained_115 (ws' := [(u, .inr (5, [.int (qI cd), .int (qI sz), .ref utx, .int (qI cu), .int (qI fa), .int (qI rdn), .ref uro, .ref urc, .ref urn, .ref urp, .ref ula, .int (qI n), .ref uop, .ref urg, .ref utg, .ref ude, .ref ule, .ref udn, .ref uv, .ref ub, .int (qI pl), .long (qL st), .int (qI on), .long (qL cn), .int (qI hd), .long (qL ps), .long (qL ss), .ref ubf, .ref ubh, .long (qL (tk + ((x * (((de i0) - i0) + 1)) + 1))), .ref ukp, .ref uwa])), (urg, .inl (G.2.1, 24, .inl (qA r))), (ude, .inl (G.2.1, 24, .inl (qA de))), (ubh, .inl (G.2.1, 8, .inl (qA (qU w' (r i0) 0))))]) rfl ?_
    refine qv_iload_n C 0 d_D_drained_118 rfl rfl ?_
    refine qv_zret C (by rcases hcs with h | h <;> omega) hrt hlk d_D_drained_119 ?_
    refine ⟨fu', _, rfl, rfl, ?_, qU_rg hw1 (by omega), fun c h => (qU_n (by omega)).trans (hout c h)⟩
    rcases hcs with ⟨c1, c2, c3⟩ | ⟨c1, c2⟩
    · exact Or.inl ⟨c1, _, c2, rfl, qU_rg c3 (by omega)⟩
    · exact Or.inr ⟨c1, c2⟩
  have L7 : ∀ (N7 : Nat) (j : Int) (f : Nat) (fu' : Int) (w' : Int → Int) (lo' : Int → Int) (hi' : Int → Int), (de i0 - j).toNat < N7 → (i0 + 1 ≤ j ∧ j ≤ 24) → (de i0 - j ≤ (f : Int)) → ((fu' = 1 ∧ m_dr r (de i0) x 24 (i0 + 1) (bh, lo, hi) = m_dr r (de i0) x f j (w', lo', hi') ∧ (∀ c, 0 ≤ w' c ∧ w' c ≤ 1000000)) ∨ (fu' = 0 ∧ m_dr r (de i0) x 24 (i0 + 1) (bh, lo, hi) = none)) → (∀ c, -1 ≤ w' c ∧ w' c ≤ 1000001) → (∀ c : Int, ¬ (0 ≤ c ∧ c < 8) → w' c = bh c) → qV xp l xe ({ frames := 0, cells := 0, slots := 0, locals := 0 }) xs xm [.ref u, .int (qI i0), .int (qI x)].toArray xb xme xc G A xs.heap 5 (MQ xb (qQ G A (fun v' ws' => ∃ (fu' : Int) (w' : Int → Int), v' = some (.int (qI fu')) ∧ ws' = [(u, .inr (5, [.int (qI cd), .int (qI sz), .ref utx, .int (qI cu), .int (qI fa), .int (qI rdn), .ref uro, .ref urc, .ref urn, .ref urp, .ref ula, .int (qI n), .ref uop, .ref urg, .ref utg, .ref ude, .ref ule, .ref udn, .ref uv, .ref ub, .int (qI pl), .long (qL st), .int (qI on), .long (qL cn), .int (qI hd), .long (qL ps), .long (qL ss), .ref ubf, .ref ubh, .long (qL (tk + (x * (de i0 - i0 + 1) + 1))), .ref ukp, .ref uwa])), (urg, .inl (G.2.1, 24, .inl (qA r))), (ude, .inl (G.2.1, 24, .inl (qA de))), (ubh, .inl (G.2.1, 8, .inl (qA w')))] ∧ ((fu' = 1 ∧ ∃ S1 : m_S, m_dr r (de i0) x 24 (i0 + 1) (bh, lo, hi) = some S1 ∧ w' = qU S1.1 (r i0) 0 ∧ (∀ c, 0 ≤ w' c ∧ w' c ≤ 1000000)) ∨ (fu' = 0 ∧ m_dr r (de i0) x 24 (i0 + 1) (bh, lo, hi) = none)) ∧ (∀ c, -1 ≤ w' c ∧ w' c ≤ 1000001) ∧ (∀ c : Int, ¬ (0 ≤ c ∧ c < 8) → w' c = bh c))) [.ref u, .int (qI i0), .int (qI x)].toArray xs 0 0 A) 0 0 [(u, .inr (5, [.int (qI cd), .int (qI sz), .ref utx, .int (qI cu), .int (qI fa), .int (qI rdn), .ref uro, .ref urc, .ref urn, .ref urp, .ref ula, .int (qI n), .ref uop, .ref urg, .ref utg, .ref ude, .ref ule, .ref udn, .ref uv, .ref ub, .int (qI pl), .long (qL st), .int (qI on), .long (qL cn), .int (qI hd), .long (qL ps), .long (qL ss), .ref ubf, .ref ubh, .long (qL tk), .ref ukp, .ref uwa])), (urg, .inl (G.2.1, 24, .inl (qA r))), (ude, .inl (G.2.1, 24, .inl (qA de))), (ubh, .inl (G.2.1, 8, .inl (qA w')))] [(4, .int (qI j)), (3, .int (qI fu')), (0, .ref u), (1, .int (qI i0)), (2, .int (qI x))] 7 [] := by
    intro N7
    induction N7 with
    | zero => intro j f fu' w' lo' hi' hmu; exact absurd hmu (Nat.not_lt_zero _)
    | succ N7 ih7 =>
      intro j f fu' w' lo' hi' hmu7 hj hg hcs hw1 hout
      refine qv_iload C 0 d_D_drained_7 rfl ?_
      refine qv_aload_n C 2 d_D_drained_9 rfl rfl ?_
      refine qv_get C in_D 0 rfl rfl 15 (by decide) wf_D_37 rfl rfl d_D_drained_10 ?_
      refine qv_iload_n C 3 d_D_drained_13 rfl rfl ?_
      refine qv_iald C 2 rfl (by omega) d_D_drained_14 ?_
      refine qv_icmp_ge C d_D_drained_15 (tgt := 81) (by decide) (by omega) (by omega) (fun ht15 => ?_) (fun hf15 => ?_)
      · refine qv_lv (lv' := [(3, .int (qI fu')), (0, .ref u), (1, .int (qI i0)), (2, .int (qI x))]) [1, 2, 3, 4] rfl ?_
        exact J81 fu' w' lo' hi' (by rcases hcs with ⟨c1, c2, c3⟩ | ⟨c1, c2⟩; (· first | exact Or.inl ⟨c1, c2.trans (m_dr_stop (by omega)), c3⟩ | (exfalso; omega)); (· exact Or.inr ⟨c1, c2⟩)) (hw1) (hout)
      · refine qv_iload_n C 1 d_D_drained_18 rfl rfl ?_
        refine qv_if_eq C d_D_drained_19 (tgt := 81) (by decide) (by rcases hcs with h | h <;> omega) (fun ht19 => ?_) (fun hf19 => ?_)
        · refine qv_lv (lv' := [(3, .int (qI fu')), (0, .ref u), (1, .int (qI i0)), (2, .int (qI x))]) [1, 2, 3, 4] rfl ?_
          exact J81 fu' w' lo' hi' (by rcases hcs with ⟨c1, c2, c3⟩ | ⟨c1, c2⟩; (· first | exact Or.inl ⟨c1, c2.trans (m_dr_stop (by omega)), c3⟩ | (exfalso; omega)); (· exact Or.inr ⟨c1, c2⟩)) (hw1) (hout)
        · obtain ⟨f', rfl⟩ : ∃ f', f = f' + 1 := ⟨f - 1, by omega⟩
          have hcs1 := hcs.resolve_right (fun h => hf19 h.1)
          have hcsr := hcs1.2.2 (r j)
          refine qv_aload_n C 2 d_D_drained_22 rfl rfl ?_
          refine qv_get C in_D 0 rfl rfl 28 (by decide) wf_D_59 rfl rfl d_D_drained_23 ?_
          refine qv_aload_n C 2 d_D_drained_26 rfl rfl ?_
          refine qv_get C in_D 0 rfl rfl 13 (by decide) wf_D_31 rfl rfl d_D_drained_27 ?_
          refine qv_iload C 0 d_D_drained_30 rfl ?_
          refine qv_iald C 1 rfl (by omega) d_D_drained_32 ?_
          have hq1 := hrj j (by omega) (by omega)
          refine qv_iald C 3 rfl (by omega) d_D_drained_33 ?_
          have hq2 := hw1 (r j)
          refine qv_i2l C (by omega) d_D_drained_34 ?_
          refine qv_iload_n C 4 d_D_drained_35 rfl rfl ?_
          refine qv_i2l C (by omega) d_D_drained_36 ?_
          refine qv_ladd C d_D_drained_37 ?_
          refine qv_ldc2 C (n := 1000000) wk_D_148 (by decide) d_D_drained_38 ?_
          refine qv_lcmp_gt C d_D_drained_41 d_D_drained_42 (tgt := 49) (by decide) (by omega) (by omega) (fun ht41 => ?_) (fun hf41 => ?_)
          · refine qv_iconst C d_D_drained_49 ?_
            refine qv_istore_n C d_D_drained_50 rfl (by decide) (lv' := [(3, .int (qI 0)), (4, .int (qI j)), (0, .ref u), (1, .int (qI i0)), (2, .int (qI x))]) rfl ?_
            refine qv_aload_n C 2 d_D_drained_51 rfl rfl ?_
            refine qv_get C in_D 0 rfl rfl 28 (by decide) wf_D_59 rfl rfl d_D_drained_52 ?_
            refine qv_aload_n C 2 d_D_drained_55 rfl rfl ?_
            refine qv_get C in_D 0 rfl rfl 13 (by decide) wf_D_31 rfl rfl d_D_drained_56 ?_
            refine qv_iload C 1 d_D_drained_59 rfl ?_
            refine qv_iald C 1 rfl (by omega) d_D_drained_61 ?_
            have hq3 := hrj j (by omega) (by omega)
            refine qv_dup2 C d_D_drained_62 rfl rfl ?_
            refine qv_iald C 3 rfl (by omega) d_D_drained_63 ?_
            have hq4 := hw1 (r j)
            refine qv_iload_n C 0 d_D_drained_64 rfl rfl ?_
            refine qv_if_eq C d_D_drained_65 (tgt := 72) (by decide) (by omega) (fun ht65 => ?_) (fun hf65 => ?_)
            · refine qv_iconst C d_D_drained_72 ?_
              refine qv_iadd C d_D_drained_73 ?_
              refine qv_iast C 3 rfl (by omega) d_D_drained_74 (ws' := [(u, .inr (5, [.int (qI cd), .int (qI sz), .ref utx, .int (qI cu), .int (qI fa), .int (qI rdn), .ref uro, .ref urc, .ref urn, .ref urp, .ref ula, .int (qI n), .ref uop, .ref urg, .ref utg, .ref ude, .ref ule, .ref udn, .ref uv, .ref ub, .int (qI pl), .long (qL st), .int (qI on), .long (qL cn), .int (qI hd), .long (qL ps), .long (qL ss), .ref ubf, .ref ubh, .long (qL tk), .ref ukp, .ref uwa])), (urg, .inl (G.2.1, 24, .inl (qA r))), (ude, .inl (G.2.1, 24, .inl (qA de))), (ubh, .inl (G.2.1, 8, .inl (qA (qU w' (r j) ((w' (r j)) + 0)))))]) rfl ?_
              refine qv_iinc C 1 d_D_drained_75 rfl (by decide) (lv' := [(4, .int (qI (j + 1))), (3, .int (qI 0)), (0, .ref u), (1, .int (qI i0)), (2, .int (qI x))]) rfl ?_
              refine qv_goto C d_D_drained_78 (by decide) (tgt := 7) ?_
              exact ih7 (j + 1) f' 0 (qU w' (r j) ((w' (r j)) + 0)) (qU lo' (r j) (min (lo' (r j)) (w' (r j) + x))) (qU hi' (r j) (max (hi' (r j)) (w' (r j) + x))) (by omega) (by omega) (by omega) (Or.inr ⟨rfl, hcs1.2.1.trans (m_dr_no (by omega) (m_ct_none (S := (w', lo', hi')) (by dsimp only; omega)))⟩) (qU_rg hw1 (by omega)) (fun c h => (qU_n (by omega)).trans (hout c h))
            · exfalso; omega
          · refine qv_iconst C d_D_drained_45 ?_
            refine qv_goto C d_D_drained_46 (by decide) (tgt := 50) ?_
            refine qv_istore_n C d_D_drained_50 rfl (by decide) (lv' := [(3, .int (qI 1)), (4, .int (qI j)), (0, .ref u), (1, .int (qI i0)), (2, .int (qI x))]) rfl ?_
            refine qv_aload_n C 2 d_D_drained_51 rfl rfl ?_
            refine qv_get C in_D 0 rfl rfl 28 (by decide) wf_D_59 rfl rfl d_D_drained_52 ?_
            refine qv_aload_n C 2 d_D_drained_55 rfl rfl ?_
            refine qv_get C in_D 0 rfl rfl 13 (by decide) wf_D_31 rfl rfl d_D_drained_56 ?_
            refine qv_iload C 1 d_D_drained_59 rfl ?_
            refine qv_iald C 1 rfl (by omega) d_D_drained_61 ?_
            have hq5 := hrj j (by omega) (by omega)
            refine qv_dup2 C d_D_drained_62 rfl rfl ?_
            refine qv_iald C 3 rfl (by omega) d_D_drained_63 ?_
            have hq6 := hw1 (r j)
            refine qv_iload_n C 0 d_D_drained_64 rfl rfl ?_
            refine qv_if_eq C d_D_drained_65 (tgt := 72) (by decide) (by omega) (fun ht65 => ?_) (fun hf65 => ?_)
            · exfalso; omega
            · refine qv_iload_n C 4 d_D_drained_68 rfl rfl ?_
              refine qv_goto C d_D_drained_69 (by decide) (tgt := 73) ?_
              refine qv_iadd C d_D_drained_73 ?_
              refine qv_iast C 3 rfl (by omega) d_D_drained_74 (ws' := [(u, .inr (5, [.int (qI cd), .int (qI sz), .ref utx, .int (qI cu), .int (qI fa), .int (qI rdn), .ref uro, .ref urc, .ref urn, .ref urp, .ref ula, .int (qI n), .ref uop, .ref urg, .ref utg, .ref ude, .ref ule, .ref udn, .ref uv, .ref ub, .int (qI pl), .long (qL st), .int (qI on), .long (qL cn), .int (qI hd), .long (qL ps), .long (qL ss), .ref ubf, .ref ubh, .long (qL tk), .ref ukp, .ref uwa])), (urg, .inl (G.2.1, 24, .inl (qA r))), (ude, .inl (G.2.1, 24, .inl (qA de))), (ubh, .inl (G.2.1, 8, .inl (qA (qU w' (r j) ((w' (r j)) + x)))))]) rfl ?_
              refine qv_iinc C 1 d_D_drained_75 rfl (by decide) (lv' := [(4, .int (qI (j + 1))), (3, .int (qI 1)), (0, .ref u), (1, .int (qI i0)), (2, .int (qI x))]) rfl ?_
              refine qv_goto C d_D_drained_78 (by decide) (tgt := 7) ?_
              exact ih7 (j + 1) f' 1 (qU w' (r j) ((w' (r j)) + x)) (qU lo' (r j) (min (lo' (r j)) (w' (r j) + x))) (qU hi' (r j) (max (hi' (r j)) (w' (r j) + x))) (by omega) (by omega) (by omega) (Or.inl ⟨rfl, hcs1.2.1.trans (m_dr_go (by omega) (m_ct_val (S := (w', lo', hi')) (by dsimp only; omega))), qU_rg hcs1.2.2 (by omega)⟩) (qU_rg hw1 (by omega)) (fun c h => (qU_n (by omega)).trans (hout c h))
  exact L7 _ (i0 + 1) 24 1 bh lo hi (Nat.lt_succ_self _) (by omega) (by omega) (Or.inl ⟨rfl, rfl, hw⟩) (fun c => by have := hw c; omega) (fun _ _ => rfl)
set_option maxHeartbeats 4000000 in
set_option maxRecDepth 100000 in
theorem c_D_pass (l : Launch) (G : qG) {u utx uro urc urn urp ula uop urg utg ude ule udn uv ub ubf ubh ukp uwa : Nat} {cd sz cu fa rdn n pl st on cn hd ps ss tk : Int} {h s0 : Int} {k r t de le dn bf bh : Int → Int} (hpd : m_pd n k r t de le dn) (hh : 0 ≤ h ∧ h < n ∧ 0 ≤ le h) (hs0 : 0 ≤ s0 ∧ s0 ≤ 1000000000000000) (hbf : ∀ c, 0 ≤ bf c ∧ bf c ≤ 1000000) (ho : ∀ j : Int, ¬ (0 ≤ j ∧ j < 8) → bh j = bf j) : qM l G y_D_pass b_D_pass 7 (some .boolean) ({ frames := 1, cells := 0, slots := 0, locals := 24 }) [.ref u, .int (qI h), .long (qL s0)] [(u, .inr (5, [.int (qI cd), .int (qI sz), .ref utx, .int (qI cu), .int (qI fa), .int (qI rdn), .ref uro, .ref urc, .ref urn, .ref urp, .ref ula, .int (qI n), .ref uop, .ref urg, .ref utg, .ref ude, .ref ule, .ref udn, .ref uv, .ref ub, .int (qI pl), .long (qL st), .int (qI on), .long (qL cn), .int (qI hd), .long (qL ps), .long (qL ss), .ref ubf, .ref ubh, .long (qL tk), .ref ukp, .ref uwa])), (uop, .inl (G.2.1, 24, .inl (qA k))), (urg, .inl (G.2.1, 24, .inl (qA r))), (ude, .inl (G.2.1, 24, .inl (qA de))), (ule, .inl (G.2.1, 24, .inl (qA le))), (ubf, .inl (G.2.1, 8, .inl (qA bf))), (ubh, .inl (G.2.1, 8, .inl (qA bh)))] (fun v' ws' => ∃ (x tk' : Int) (w' : Int → Int), v' = some (.int (qI x)) ∧ ws' = [(u, .inr (5, [.int (qI cd), .int (qI sz), .ref utx, .int (qI cu), .int (qI fa), .int (qI rdn), .ref uro, .ref urc, .ref urn, .ref urp, .ref ula, .int (qI n), .ref uop, .ref urg, .ref utg, .ref ude, .ref ule, .ref udn, .ref uv, .ref ub, .int (qI pl), .long (qL st), .int (qI on), .long (qL cn), .int (qI hd), .long (qL ps), .long (qL ss), .ref ubf, .ref ubh, .long (qL tk'), .ref ukp, .ref uwa])), (uop, .inl (G.2.1, 24, .inl (qA k))), (urg, .inl (G.2.1, 24, .inl (qA r))), (ude, .inl (G.2.1, 24, .inl (qA de))), (ule, .inl (G.2.1, 24, .inl (qA le))), (ubf, .inl (G.2.1, 8, .inl (qA bf))), (ubh, .inl (G.2.1, 8, .inl (qA w')))] ∧ ((x = 1 ∧ ∃ (lo' hi' dr' : Int → Int) (ln : Int), m_px k r de h (le h) 24 h (bf, bf, bf) (fun _ => 0) 0 = some ((w', lo', hi'), dr', ln) ∧ tk' = ln + 1 ∧ s0 + (ln + 1) ≤ 1000000000000000 ∧ 0 ≤ ln ∧ (∀ c, 0 ≤ w' c ∧ w' c ≤ 1000000)) ∨ (x = 0 ∧ ∀ (S : m_S) (d : Int → Int) (ln : Int), m_px k r de h (le h) 24 h (bf, bf, bf) (fun _ => 0) 0 = some (S, d, ln) → 1000000000000000 < s0 + (ln + 1))) ∧ (∀ c, -1 ≤ w' c ∧ w' c ≤ 1000001) ∧ (∀ c : Int, ¬ (0 ≤ c ∧ c < 8) → w' c = bf c) ∧ 0 ≤ tk' ∧ tk' ≤ 1000000000) := by
  refine qM.of (by decide) (Nat.le_of_ble_eq_true rfl) (fun xp xe xs xm xb xme xc A C hrt hlk hnm => ?_)
  refine qv_eq (lv' := [(0, .ref u), (1, .int (qI h)), (2, .long (qL s0))]) rfl rfl rfl ?_
  have hn := hpd.1
  have hk := hpd.2.1
  have hr := hpd.2.2.1
  have hr7 := hpd.2.2.2.1
  have ht := hpd.2.2.2.2.1
  have ht2 := hpd.2.2.2.2.2.1
  have hdx := hpd.2.2.2.2.2.2.1
  have hl := hpd.2.2.2.2.2.2.2.2.1
  have hlq := hpd.2.2.2.2.2.2.2.2.2.1
  have hde := m_pd_de hpd
  have hls : (m_ls n k de h 24 h 0).1 = le h := by
    have q := hlq h hh.1 hh.2.1
    rcases m_le_cases n k t de h with q2 | q2
    · omega
    · rw [q]; exact q2.2.2.symm
  have hle : h < le h ∧ le h < n := by
    have q := hlq h hh.1 hh.2.1
    rcases m_le_cases n k t de h with q2 | q2 <;> omega
  refine qv_aload_n C 0 d_D_pass_0 rfl rfl ?_
  refine qv_lconst C (z := 0) d_D_pass_1 (by decide) ?_
  refine qv_put C in_D 0 rfl rfl 29 (by decide) t_D t_D_ok n_D wf_D_142 rfl rfl (t_D_ok 29 (by decide)) (rfl) (rfl) (Nat.le_of_ble_eq_true rfl) d_D_pass_2 (ws' := [(u, .inr (5, [.int (qI cd), .int (qI sz), .ref utx, .int (qI cu), .int (qI fa), .int (qI rdn), .ref uro, .ref urc, .ref urn, .ref urp, .ref ula, .int (qI n), .ref uop, .ref urg, .ref utg, .ref ude, .ref ule, .ref udn, .ref uv, .ref ub, .int (qI pl), .long (qL st), .int (qI on), .long (qL cn), .int (qI hd), .long (qL ps), .long (qL ss), .ref ubf, .ref ubh, .long (qL 0), .ref ukp, .ref uwa])), (uop, .inl (G.2.1, 24, .inl (qA k))), (urg, .inl (G.2.1, 24, .inl (qA r))), (ude, .inl (G.2.1, 24, .inl (qA de))), (ule, .inl (G.2.1, 24, .inl (qA le))), (ubf, .inl (G.2.1, 8, .inl (qA bf))), (ubh, .inl (G.2.1, 8, .inl (qA bh)))]) rfl ?_
  refine qv_iconst C d_D_pass_5 ?_
  refine qv_istore C d_D_pass_6 (by decide) (lv' := [(4, .int (qI 1)), (0, .ref u), (1, .int (qI h)), (2, .long (qL s0))]) rfl ?_
  refine qv_iconst C d_D_pass_8 ?_
  refine qv_istore C d_D_pass_9 (by decide) (lv' := [(5, .int (qI 0)), (4, .int (qI 1)), (0, .ref u), (1, .int (qI h)), (2, .long (qL s0))]) rfl ?_
  have L11 : ∀ (N11 : Nat) (i : Int), (8 - i).toNat < N11 → (0 ≤ i ∧ i ≤ 8) → qV xp l xe ({ frames := 1, cells := 0, slots := 0, locals := 24 }) xs xm [.ref u, .int (qI h), .long (qL s0)].toArray xb xme xc G A xs.heap 7 (MQ xb (qQ G A (fun v' ws' => ∃ (x tk' : Int) (w' : Int → Int), v' = some (.int (qI x)) ∧ ws' = [(u, .inr (5, [.int (qI cd), .int (qI sz), .ref utx, .int (qI cu), .int (qI fa), .int (qI rdn), .ref uro, .ref urc, .ref urn, .ref urp, .ref ula, .int (qI n), .ref uop, .ref urg, .ref utg, .ref ude, .ref ule, .ref udn, .ref uv, .ref ub, .int (qI pl), .long (qL st), .int (qI on), .long (qL cn), .int (qI hd), .long (qL ps), .long (qL ss), .ref ubf, .ref ubh, .long (qL tk'), .ref ukp, .ref uwa])), (uop, .inl (G.2.1, 24, .inl (qA k))), (urg, .inl (G.2.1, 24, .inl (qA r))), (ude, .inl (G.2.1, 24, .inl (qA de))), (ule, .inl (G.2.1, 24, .inl (qA le))), (ubf, .inl (G.2.1, 8, .inl (qA bf))), (ubh, .inl (G.2.1, 8, .inl (qA w')))] ∧ ((x = 1 ∧ ∃ (lo' hi' dr' : Int → Int) (ln : Int), m_px k r de h (le h) 24 h (bf, bf, bf) (fun _ => 0) 0 = some ((w', lo', hi'), dr', ln) ∧ tk' = ln + 1 ∧ s0 + (ln + 1) ≤ 1000000000000000 ∧ 0 ≤ ln ∧ (∀ c, 0 ≤ w' c ∧ w' c ≤ 1000000)) ∨ (x = 0 ∧ ∀ (S : m_S) (d : Int → Int) (ln : Int), m_px k r de h (le h) 24 h (bf, bf, bf) (fun _ => 0) 0 = some (S, d, ln) → 1000000000000000 < s0 + (ln + 1))) ∧ (∀ c, -1 ≤ w' c ∧ w' c ≤ 1000001) ∧ (∀ c : Int, ¬ (0 ≤ c ∧ c < 8) → w' c = bf c) ∧ 0 ≤ tk' ∧ tk' ≤ 1000000000)) [.ref u, .int (qI h), .long (qL s0)].toArray xs 0 0 A) 0 0 [(u, .inr (5, [.int (qI cd), .int (qI sz), .ref utx, .int (qI cu), .int (qI fa), .int (qI rdn), .ref uro, .ref urc, .ref urn, .ref urp, .ref ula, .int (qI n), .ref uop, .ref urg, .ref utg, .ref ude, .ref ule, .ref udn, .ref uv, .ref ub, .int (qI pl), .long (qL st), .int (qI on), .long (qL cn), .int (qI hd), .long (qL ps), .long (qL ss), .ref ubf, .ref ubh, .long (qL 0), .ref ukp, .ref uwa])), (uop, .inl (G.2.1, 24, .inl (qA k))), (urg, .inl (G.2.1, 24, .inl (qA r))), (ude, .inl (G.2.1, 24, .inl (qA de))), (ule, .inl (G.2.1, 24, .inl (qA le))), (ubf, .inl (G.2.1, 8, .inl (qA bf))), (ubh, .inl (G.2.1, 8, .inl (qA (m_up bh bf i))))] [(5, .int (qI i)), (4, .int (qI 1)), (0, .ref u), (1, .int (qI h)), (2, .long (qL s0))] 11 [] := by
    intro N11
    induction N11 with
    | zero => intro i hmu; exact absurd hmu (Nat.not_lt_zero _)
    | succ N11 ih11 =>
      intro i hmu11 hi
      refine qv_iload C 0 d_D_pass_11 rfl ?_
      refine qv_bipush C d_D_pass_13 (by decide) ?_
      refine qv_icmp_ge C d_D_pass_15 (tgt := 72) (by decide) (by omega) (by omega) (fun ht15 => ?_) (fun hf15 => ?_)
      · refine qv_iload_n C 3 d_D_pass_72 rfl rfl ?_
        refine qv_istore C d_D_pass_73 (by decide) (lv' := [(5, .int (qI h)), (4, .int (qI 1)), (0, .ref u), (1, .int (qI h)), (2, .long (qL s0))]) rfl ?_
        have J231 : ∀ (fu' : Int) (w' : Int → Int) (lo' : Int → Int) (hi' : Int → Int) (dr' : Int → Int) (tk' : Int), ((fu' = 1 ∧ m_px k r de h (le h) 24 h (bf, bf, bf) (fun _ => 0) 0 = some ((w', lo', hi'), dr', tk') ∧ (∀ c, 0 ≤ w' c ∧ w' c ≤ 1000000)) ∨ (fu' = 0 ∧ m_px k r de h (le h) 24 h (bf, bf, bf) (fun _ => 0) 0 = none)) → (∀ c, -1 ≤ w' c ∧ w' c ≤ 1000001) → (∀ c : Int, ¬ (0 ≤ c ∧ c < 8) → w' c = bf c) → (0 ≤ tk' ∧ tk' ≤ 576000024) → qV xp l xe ({ frames := 1, cells := 0, slots := 0, locals := 24 }) xs xm [.ref u, .int (qI h), .long (qL s0)].toArray xb xme xc G A xs.heap 7 (MQ xb (qQ G A (fun v' ws' => ∃ (x tk' : Int) (w' : Int → Int), v' = some (.int (qI x)) ∧ ws' = [(u, .inr (5, [.int (qI cd), .int (qI sz), .ref utx, .int (qI cu), .int (qI fa), .int (qI rdn), .ref uro, .ref urc, .ref urn, .ref urp, .ref ula, .int (qI n), .ref uop, .ref urg, .ref utg, .ref ude, .ref ule, .ref udn, .ref uv, .ref ub, .int (qI pl), .long (qL st), .int (qI on), .long (qL cn), .int (qI hd), .long (qL ps), .long (qL ss), .ref ubf, .ref ubh, .long (qL tk'), .ref ukp, .ref uwa])), (uop, .inl (G.2.1, 24, .inl (qA k))), (urg, .inl (G.2.1, 24, .inl (qA r))), (ude, .inl (G.2.1, 24, .inl (qA de))), (ule, .inl (G.2.1, 24, .inl (qA le))), (ubf, .inl (G.2.1, 8, .inl (qA bf))), (ubh, .inl (G.2.1, 8, .inl (qA w')))] ∧ ((x = 1 ∧ ∃ (lo' hi' dr' : Int → Int) (ln : Int), m_px k r de h (le h) 24 h (bf, bf, bf) (fun _ => 0) 0 = some ((w', lo', hi'), dr', ln) ∧ tk' = ln + 1 ∧ s0 + (ln + 1) ≤ 1000000000000000 ∧ 0 ≤ ln ∧ (∀ c, 0 ≤ w' c ∧ w' c ≤ 1000000)) ∨ (x = 0 ∧ ∀ (S : m_S) (d : Int → Int) (ln : Int), m_px k r de h (le h) 24 h (bf, bf, bf) (fun _ => 0) 0 = some (S, d, ln) → 1000000000000000 < s0 + (ln + 1))) ∧ (∀ c, -1 ≤ w' c ∧ w' c ≤ 1000001) ∧ (∀ c : Int, ¬ (0 ≤ c ∧ c < 8) → w' c = bf c) ∧ 0 ≤ tk' ∧ tk' ≤ 1000000000)) [.ref u, .int (qI h), .long (qL s0)].toArray xs 0 0 A) 0 0 [(u, .inr (5, [.int (qI cd), .int (qI sz), .ref utx, .int (qI cu), .int (qI fa), .int (qI rdn), .ref uro, .ref urc, .ref urn, .ref urp, .ref ula, .int (qI n), .ref uop, .ref urg, .ref utg, .ref ude, .ref ule, .ref udn, .ref uv, .ref ub, .int (qI pl), .long (qL st), .int (qI on), .long (qL cn), .int (qI hd), .long (qL ps), .long (qL ss), .ref ubf, .ref ubh, .long (qL tk'), .ref ukp, .ref uwa])), (uop, .inl (G.2.1, 24, .inl (qA k))), (urg, .inl (G.2.1, 24, .inl (qA r))), (ude, .inl (G.2.1, 24, .inl (qA de))), (ule, .inl (G.2.1, 24, .inl (qA le))), (ubf, .inl (G.2.1, 8, .inl (qA bf))), (ubh, .inl (G.2.1, 8, .inl (qA w')))] [(4, .int (qI fu')), (0, .ref u), (2, .long (qL s0))] 231 [] := by
          intro fu' w' lo' hi' dr' tk' hfin hw1 hout hlen
          refine qv_aload_n C 1 d_D_pass_231 rfl rfl ?_
          refine qv_dup C d_D_pass_232 rfl ?_
          refine qv_get C in_D 0 rfl rfl 29 (by decide) wf_D_142 rfl rfl d_D_pass_233 ?_
          refine qv_lconst C (z := 1) d_D_pass_236 (by decide) ?_
          refine qv_ladd C d_D_pass_237 ?_
          refine qv_put C in_D 0 rfl rfl 29 (by decide) t_D t_D_ok n_D wf_D_142 rfl rfl (t_D_ok 29 (by decide)) (rfl) (rfl) (Nat.le_of_ble_eq_true rfl) d_D_pass_238 (ws' := [(u, .inr (5, [.int (qI cd), .int (qI sz), .ref utx, .int (qI cu), .int (qI fa), .int (qI rdn), .ref uro, .ref urc, .ref urn, .ref urp, .ref ula, .int (qI n), .ref uop, .ref urg, .ref utg, .ref ude, .ref ule, .ref udn, .ref uv, .ref ub, .int (qI pl), .long (qL st), .int (qI on), .long (qL cn), .int (qI hd), .long (qL ps), .long (qL ss), .ref ubf, .ref ubh, .long (qL (tk' + 1)), .ref ukp, .ref uwa])), (uop, .inl (G.2.1, 24, .inl (qA k))), (urg, .inl (G.2.1, 24, .inl (qA r))), (ude, .inl (G.2.1, 24, .inl (qA de))), (ule, .inl (G.2.1, 24, .inl (qA le))), (ubf, .inl (G.2.1, 8, .inl (qA bf))), (ubh, .inl (G.2.1, 8, .inl (qA w')))]) rfl ?_
          refine qv_iload C 0 d_D_pass_241 rfl ?_
          refine qv_if_eq C d_D_pass_243 (tgt := 263) (by decide) (by rcases hfin with h | h <;> omega) (fun ht243 => ?_) (fun hf243 => ?_)
          · refine qv_iconst C d_D_pass_263 ?_
            refine qv_zret C (by omega) hrt hlk d_D_pass_264 ?_
            refine ⟨0, tk' + 1, w', rfl, rfl, Or.inr ⟨rfl, fun S d ln hq => ?_⟩, hw1, hout, by omega⟩
            rcases hfin with ⟨h1, h2, h3⟩ | ⟨h1, h2⟩
            · rw [h2] at hq
              cases hq
              first | omega | (exfalso; omega)
            · rw [h2] at hq
              cases hq
          · refine qv_lload_n C 2 d_D_pass_246 rfl rfl ?_
            refine qv_aload_n C 1 d_D_pass_247 rfl rfl ?_
            refine qv_get C in_D 0 rfl rfl 29 (by decide) wf_D_142 rfl rfl d_D_pass_248 ?_
            refine qv_ladd C d_D_pass_251 ?_
            refine qv_ldc2 C (n := 1000000000000000) wk_D_140 (by decide) d_D_pass_252 ?_
            refine qv_lcmp_gt C d_D_pass_255 d_D_pass_256 (tgt := 263) (by decide) (by omega) (by omega) (fun ht255 => ?_) (fun hf255 => ?_)
            · refine qv_iconst C d_D_pass_263 ?_
              refine qv_zret C (by omega) hrt hlk d_D_pass_264 ?_
              refine ⟨0, tk' + 1, w', rfl, rfl, Or.inr ⟨rfl, fun S d ln hq => ?_⟩, hw1, hout, by omega⟩
              rcases hfin with ⟨h1, h2, h3⟩ | ⟨h1, h2⟩
              · rw [h2] at hq
                cases hq
                first | omega | (exfalso; omega)
              · rw [h2] at hq
                cases hq
            · refine qv_iconst C d_D_pass_259 ?_
              refine qv_goto C d_D_pass_260 (by decide) (tgt := 264) ?_
              refine qv_zret C (by omega) hrt hlk d_D_pass_264 ?_
              refine ⟨1, tk' + 1, w', rfl, rfl, Or.inl ⟨rfl, lo', hi', dr', tk', ?_, rfl, by omega, by omega, ?_⟩, hw1, hout, by omega⟩
              · rcases hfin with h | h
                · exact h.2.1
                · exact absurd h.1 (by omega)
              · rcases hfin with h | h
                · exact h.2.2
                · exact absurd h.1 (by omega)
        have L75 : ∀ (N75 : Nat) (i : Int) (f : Nat) (d2 : Int) (fu' : Int) (w' : Int → Int) (lo' : Int → Int) (hi' : Int → Int) (dr' : Int → Int) (tk' : Int), (le h - i).toNat < N75 → (h ≤ i ∧ i ≤ 24) → (n - i ≤ (f : Int)) → (m_ls n k de h 24 h 0 = m_ls n k de h f i d2) → ((fu' = 1 ∧ m_px k r de h (le h) 24 h (bf, bf, bf) (fun _ => 0) 0 = m_px k r de h (le h) f i (w', lo', hi') dr' tk' ∧ (∀ c, 0 ≤ w' c ∧ w' c ≤ 1000000)) ∨ (fu' = 0 ∧ m_px k r de h (le h) 24 h (bf, bf, bf) (fun _ => 0) 0 = none)) → (∀ c, -1 ≤ w' c ∧ w' c ≤ 1000001) → (∀ c : Int, ¬ (0 ≤ c ∧ c < 8) → w' c = bf c) → (0 ≤ tk' ∧ tk' ≤ i * 24000001) → qV xp l xe ({ frames := 1, cells := 0, slots := 0, locals := 24 }) xs xm [.ref u, .int (qI h), .long (qL s0)].toArray xb xme xc G A xs.heap 7 (MQ xb (qQ G A (fun v' ws' => ∃ (x tk' : Int) (w' : Int → Int), v' = some (.int (qI x)) ∧ ws' = [(u, .inr (5, [.int (qI cd), .int (qI sz), .ref utx, .int (qI cu), .int (qI fa), .int (qI rdn), .ref uro, .ref urc, .ref urn, .ref urp, .ref ula, .int (qI n), .ref uop, .ref urg, .ref utg, .ref ude, .ref ule, .ref udn, .ref uv, .ref ub, .int (qI pl), .long (qL st), .int (qI on), .long (qL cn), .int (qI hd), .long (qL ps), .long (qL ss), .ref ubf, .ref ubh, .long (qL tk'), .ref ukp, .ref uwa])), (uop, .inl (G.2.1, 24, .inl (qA k))), (urg, .inl (G.2.1, 24, .inl (qA r))), (ude, .inl (G.2.1, 24, .inl (qA de))), (ule, .inl (G.2.1, 24, .inl (qA le))), (ubf, .inl (G.2.1, 8, .inl (qA bf))), (ubh, .inl (G.2.1, 8, .inl (qA w')))] ∧ ((x = 1 ∧ ∃ (lo' hi' dr' : Int → Int) (ln : Int), m_px k r de h (le h) 24 h (bf, bf, bf) (fun _ => 0) 0 = some ((w', lo', hi'), dr', ln) ∧ tk' = ln + 1 ∧ s0 + (ln + 1) ≤ 1000000000000000 ∧ 0 ≤ ln ∧ (∀ c, 0 ≤ w' c ∧ w' c ≤ 1000000)) ∨ (x = 0 ∧ ∀ (S : m_S) (d : Int → Int) (ln : Int), m_px k r de h (le h) 24 h (bf, bf, bf) (fun _ => 0) 0 = some (S, d, ln) → 1000000000000000 < s0 + (ln + 1))) ∧ (∀ c, -1 ≤ w' c ∧ w' c ≤ 1000001) ∧ (∀ c : Int, ¬ (0 ≤ c ∧ c < 8) → w' c = bf c) ∧ 0 ≤ tk' ∧ tk' ≤ 1000000000)) [.ref u, .int (qI h), .long (qL s0)].toArray xs 0 0 A) 0 0 [(u, .inr (5, [.int (qI cd), .int (qI sz), .ref utx, .int (qI cu), .int (qI fa), .int (qI rdn), .ref uro, .ref urc, .ref urn, .ref urp, .ref ula, .int (qI n), .ref uop, .ref urg, .ref utg, .ref ude, .ref ule, .ref udn, .ref uv, .ref ub, .int (qI pl), .long (qL st), .int (qI on), .long (qL cn), .int (qI hd), .long (qL ps), .long (qL ss), .ref ubf, .ref ubh, .long (qL tk'), .ref ukp, .ref uwa])), (uop, .inl (G.2.1, 24, .inl (qA k))), (urg, .inl (G.2.1, 24, .inl (qA r))), (ude, .inl (G.2.1, 24, .inl (qA de))), (ule, .inl (G.2.1, 24, .inl (qA le))), (ubf, .inl (G.2.1, 8, .inl (qA bf))), (ubh, .inl (G.2.1, 8, .inl (qA w')))] [(5, .int (qI i)), (4, .int (qI fu')), (0, .ref u), (1, .int (qI h)), (2, .long (qL s0))] 75 [] := by
          intro N75
          induction N75 with
          | zero => intro i f d2 fu' w' lo' hi' dr' tk' hmu; exact absurd hmu (Nat.not_lt_zero _)
          | succ N75 ih75 =>
            intro i f d2 fu' w' lo' hi' dr' tk' hmu75 hi hg hl_ hcs hw1 hout hlen
            refine qv_iload C 1 d_D_pass_75 rfl ?_
            refine qv_if_eq C d_D_pass_77 (tgt := 231) (by decide) (by rcases hcs with h | h <;> omega) (fun ht77 => ?_) (fun hf77 => ?_)
            · refine qv_lv (lv' := [(4, .int (qI fu')), (0, .ref u), (2, .long (qL s0))]) [1, 2, 4] rfl ?_
              exact J231 fu' w' lo' hi' dr' tk' (by rcases hcs with ⟨c1, c2, c3⟩ | ⟨c1, c2⟩; (· first | exact Or.inl ⟨c1, c2.trans (m_px_stop (by omega)), c3⟩ | (exfalso; omega)); (· exact Or.inr ⟨c1, c2⟩)) (hw1) (hout) (by omega)
            · refine qv_iload C 0 d_D_pass_80 rfl ?_
              refine qv_aload_n C 2 d_D_pass_82 rfl rfl ?_
              refine qv_get C in_D 0 rfl rfl 16 (by decide) wf_D_40 rfl rfl d_D_pass_83 ?_
              refine qv_iload_n C 3 d_D_pass_86 rfl rfl ?_
              refine qv_iald C 4 rfl (by omega) d_D_pass_87 ?_
              have hq0 := hl h
              refine qv_icmp_ge C d_D_pass_88 (tgt := 231) (by decide) (by omega) (by omega) (fun ht88 => ?_) (fun hf88 => ?_)
              · refine qv_lv (lv' := [(4, .int (qI fu')), (0, .ref u), (2, .long (qL s0))]) [1, 2, 4] rfl ?_
                exact J231 fu' w' lo' hi' dr' tk' (by rcases hcs with ⟨c1, c2, c3⟩ | ⟨c1, c2⟩; (· first | exact Or.inl ⟨c1, c2.trans (m_px_stop (by omega)), c3⟩ | (exfalso; omega)); (· exact Or.inr ⟨c1, c2⟩)) (hw1) (hout) (by omega)
              · have hfu1 := hcs.resolve_right (fun h => hf77 h.1)
                have hki : i < n ∧ k i < 2 := by
                  by_cases hq : i < n ∧ k i < 2
                  · exact hq
                  · exfalso
                    rw [hl_, m_ls_stop hq] at hls
                    dsimp only at hls
                    omega
                have hk9 := hk i
                have hdei := hde i (by omega) (by omega)
                obtain ⟨f', rfl⟩ : ∃ f', f = f' + 1 := ⟨f - 1, by omega⟩
                refine qv_aload_n C 2 d_D_pass_91 rfl rfl ?_
                refine qv_get C in_D 0 rfl rfl 13 (by decide) wf_D_31 rfl rfl d_D_pass_92 ?_
                refine qv_iload C 0 d_D_pass_95 rfl ?_
                refine qv_iald C 2 rfl (by omega) d_D_pass_97 ?_
                have hq1 := hr7 i (by omega) (by omega) (by omega)
                refine qv_istore C d_D_pass_98 (by decide) (lv' := [(6, .int (qI (r i))), (5, .int (qI i)), (4, .int (qI fu')), (0, .ref u), (1, .int (qI h)), (2, .long (qL s0))]) rfl ?_
                refine qv_iload C 1 d_D_pass_100 rfl ?_
                refine qv_iload_n C 4 d_D_pass_102 rfl rfl ?_
                refine qv_icmp_eq C d_D_pass_103 (tgt := 143) (by decide) (by omega) (by omega) (fun ht103 => ?_) (fun hf103 => ?_)
                · refine qv_aload_n C 3 d_D_pass_143 rfl rfl ?_
                  refine qv_get C in_D 0 rfl rfl 12 (by decide) wf_D_28 rfl rfl d_D_pass_144 ?_
                  refine qv_iload C 1 d_D_pass_147 rfl ?_
                  refine qv_iald C 1 rfl (by omega) d_D_pass_149 ?_
                  have hq2 := hk i
                  refine qv_if_ne C d_D_pass_150 (tgt := 173) (by decide) (by omega) (fun ht150 => ?_) (fun hf150 => ?_)
                  · have hwr := hfu1.2.2 (r i)
                    have hkk : k i = 1 := by omega
                    refine qv_aload_n C 3 d_D_pass_173 rfl rfl ?_
                    refine qv_get C in_D 0 rfl rfl 28 (by decide) wf_D_59 rfl rfl d_D_pass_174 ?_
                    refine qv_iload C 0 d_D_pass_177 rfl ?_
                    refine qv_iald C 6 rfl (by omega) d_D_pass_179 ?_
                    have hq3 := hw1 (r i)
                    refine qv_if_le C d_D_pass_180 (tgt := 187) (by decide) (by omega) (fun ht180 => ?_) (fun hf180 => ?_)
                    · refine qv_iconst C d_D_pass_187 ?_
                      refine qv_istore C d_D_pass_188 (by decide) (lv' := [(4, .int (qI 0)), (6, .int (qI (r i))), (5, .int (qI i)), (0, .ref u), (1, .int (qI h)), (2, .long (qL s0))]) rfl ?_
                      refine qv_aload_n C 3 d_D_pass_190 rfl rfl ?_
                      refine qv_get C in_D 0 rfl rfl 28 (by decide) wf_D_59 rfl rfl d_D_pass_191 ?_
                      refine qv_iload C 1 d_D_pass_194 rfl ?_
                      refine qv_dup2 C d_D_pass_196 rfl rfl ?_
                      refine qv_iald C 6 rfl (by omega) d_D_pass_197 ?_
                      have hq4 := hw1 (r i)
                      refine qv_aload_n C 3 d_D_pass_198 rfl rfl ?_
                      refine qv_get C in_D 0 rfl rfl 12 (by decide) wf_D_28 rfl rfl d_D_pass_199 ?_
                      refine qv_iload C 2 d_D_pass_202 rfl ?_
                      refine qv_iald C 1 rfl (by omega) d_D_pass_204 ?_
                      have hq5 := hk i
                      refine qv_if_ne C d_D_pass_205 (tgt := 212) (by decide) (by omega) (fun ht205 => ?_) (fun hf205 => ?_)
                      · refine qv_iconst C d_D_pass_212 ?_
                        refine qv_iadd C d_D_pass_213 ?_
                        refine qv_iast C 6 rfl (by omega) d_D_pass_214 (ws' := [(u, .inr (5, [.int (qI cd), .int (qI sz), .ref utx, .int (qI cu), .int (qI fa), .int (qI rdn), .ref uro, .ref urc, .ref urn, .ref urp, .ref ula, .int (qI n), .ref uop, .ref urg, .ref utg, .ref ude, .ref ule, .ref udn, .ref uv, .ref ub, .int (qI pl), .long (qL st), .int (qI on), .long (qL cn), .int (qI hd), .long (qL ps), .long (qL ss), .ref ubf, .ref ubh, .long (qL tk'), .ref ukp, .ref uwa])), (uop, .inl (G.2.1, 24, .inl (qA k))), (urg, .inl (G.2.1, 24, .inl (qA r))), (ude, .inl (G.2.1, 24, .inl (qA de))), (ule, .inl (G.2.1, 24, .inl (qA le))), (ubf, .inl (G.2.1, 8, .inl (qA bf))), (ubh, .inl (G.2.1, 8, .inl (qA (qU w' (r i) ((w' (r i)) + (-1))))))]) rfl ?_
                        refine qv_aload_n C 3 d_D_pass_215 rfl rfl ?_
                        refine qv_dup C d_D_pass_216 rfl ?_
                        refine qv_get C in_D 0 rfl rfl 29 (by decide) wf_D_142 rfl rfl d_D_pass_217 ?_
                        refine qv_lconst C (z := 1) d_D_pass_220 (by decide) ?_
                        refine qv_ladd C d_D_pass_221 ?_
                        refine qv_put C in_D 0 rfl rfl 29 (by decide) t_D t_D_ok n_D wf_D_142 rfl rfl (t_D_ok 29 (by decide)) (rfl) (rfl) (Nat.le_of_ble_eq_true rfl) d_D_pass_222 (ws' := [(u, .inr (5, [.int (qI cd), .int (qI sz), .ref utx, .int (qI cu), .int (qI fa), .int (qI rdn), .ref uro, .ref urc, .ref urn, .ref urp, .ref ula, .int (qI n), .ref uop, .ref urg, .ref utg, .ref ude, .ref ule, .ref udn, .ref uv, .ref ub, .int (qI pl), .long (qL st), .int (qI on), .long (qL cn), .int (qI hd), .long (qL ps), .long (qL ss), .ref ubf, .ref ubh, .long (qL (tk' + 1)), .ref ukp, .ref uwa])), (uop, .inl (G.2.1, 24, .inl (qA k))), (urg, .inl (G.2.1, 24, .inl (qA r))), (ude, .inl (G.2.1, 24, .inl (qA de))), (ule, .inl (G.2.1, 24, .inl (qA le))), (ubf, .inl (G.2.1, 8, .inl (qA bf))), (ubh, .inl (G.2.1, 8, .inl (qA (qU w' (r i) ((w' (r i)) + (-1))))))]) rfl ?_
                        refine qv_iinc C 2 d_D_pass_225 rfl (by decide) (lv' := [(5, .int (qI (i + 1))), (4, .int (qI 0)), (6, .int (qI (r i))), (0, .ref u), (1, .int (qI h)), (2, .long (qL s0))]) rfl ?_
                        refine qv_goto C d_D_pass_228 (by decide) (tgt := 75) ?_
                        refine qv_lv (lv' := [(5, .int (qI (i + 1))), (4, .int (qI 0)), (0, .ref u), (1, .int (qI h)), (2, .long (qL s0))]) [0, 1, 3, 4, 5] rfl ?_
                        exact ih75 (i + 1) f' d2 0 (qU w' (r i) ((w' (r i)) + (-1))) (qU lo' (r i) (min (lo' (r i)) (w' (r i) + (-1)))) (qU hi' (r i) (max (hi' (r i)) (w' (r i) + (-1)))) dr' (tk' + 1) (by omega) (by omega) (by omega) (hl_.trans (m_ls_one ⟨by omega, by omega⟩ (by omega))) (Or.inr ⟨rfl, hfu1.2.1.trans (m_px_oneNo (by omega) (by omega) (by rw [if_neg (by omega)]; exact m_ct_none (S := (w', lo', hi')) (by dsimp only; omega)))⟩) (qU_rg hw1 (by omega)) (fun c h => (qU_n (by omega)).trans (hout c h)) (by omega)
                      · refine qv_iconst C d_D_pass_208 ?_
                        refine qv_goto C d_D_pass_209 (by decide) (tgt := 213) ?_
                        refine qv_iadd C d_D_pass_213 ?_
                        refine qv_iast C 6 rfl (by omega) d_D_pass_214 (ws' := [(u, .inr (5, [.int (qI cd), .int (qI sz), .ref utx, .int (qI cu), .int (qI fa), .int (qI rdn), .ref uro, .ref urc, .ref urn, .ref urp, .ref ula, .int (qI n), .ref uop, .ref urg, .ref utg, .ref ude, .ref ule, .ref udn, .ref uv, .ref ub, .int (qI pl), .long (qL st), .int (qI on), .long (qL cn), .int (qI hd), .long (qL ps), .long (qL ss), .ref ubf, .ref ubh, .long (qL tk'), .ref ukp, .ref uwa])), (uop, .inl (G.2.1, 24, .inl (qA k))), (urg, .inl (G.2.1, 24, .inl (qA r))), (ude, .inl (G.2.1, 24, .inl (qA de))), (ule, .inl (G.2.1, 24, .inl (qA le))), (ubf, .inl (G.2.1, 8, .inl (qA bf))), (ubh, .inl (G.2.1, 8, .inl (qA (qU w' (r i) ((w' (r i)) + 1)))))]) rfl ?_
                        refine qv_aload_n C 3 d_D_pass_215 rfl rfl ?_
                        refine qv_dup C d_D_pass_216 rfl ?_
                        refine qv_get C in_D 0 rfl rfl 29 (by decide) wf_D_142 rfl rfl d_D_pass_217 ?_
                        refine qv_lconst C (z := 1) d_D_pass_220 (by decide) ?_
                        refine qv_ladd C d_D_pass_221 ?_
                        refine qv_put C in_D 0 rfl rfl 29 (by decide) t_D t_D_ok n_D wf_D_142 rfl rfl (t_D_ok 29 (by decide)) (rfl) (rfl) (Nat.le_of_ble_eq_true rfl) d_D_pass_222 (ws' := [(u, .inr (5, [.int (qI cd), .int (qI sz), .ref utx, .int (qI cu), .int (qI fa), .int (qI rdn), .ref uro, .ref urc, .ref urn, .ref urp, .ref ula, .int (qI n), .ref uop, .ref urg, .ref utg, .ref ude, .ref ule, .ref udn, .ref uv, .ref ub, .int (qI pl), .long (qL st), .int (qI on), .long (qL cn), .int (qI hd), .long (qL ps), .long (qL ss), .ref ubf, .ref ubh, .long (qL (tk' + 1)), .ref ukp, .ref uwa])), (uop, .inl (G.2.1, 24, .inl (qA k))), (urg, .inl (G.2.1, 24, .inl (qA r))), (ude, .inl (G.2.1, 24, .inl (qA de))), (ule, .inl (G.2.1, 24, .inl (qA le))), (ubf, .inl (G.2.1, 8, .inl (qA bf))), (ubh, .inl (G.2.1, 8, .inl (qA (qU w' (r i) ((w' (r i)) + 1)))))]) rfl ?_
                        refine qv_iinc C 2 d_D_pass_225 rfl (by decide) (lv' := [(5, .int (qI (i + 1))), (4, .int (qI 0)), (6, .int (qI (r i))), (0, .ref u), (1, .int (qI h)), (2, .long (qL s0))]) rfl ?_
                        refine qv_goto C d_D_pass_228 (by decide) (tgt := 75) ?_
                        refine qv_lv (lv' := [(5, .int (qI (i + 1))), (4, .int (qI 0)), (0, .ref u), (1, .int (qI h)), (2, .long (qL s0))]) [0, 1, 3, 4, 5] rfl ?_
                        exact ih75 (i + 1) f' d2 0 (qU w' (r i) ((w' (r i)) + 1)) (qU lo' (r i) (min (lo' (r i)) (w' (r i) + 1))) (qU hi' (r i) (max (hi' (r i)) (w' (r i) + 1))) dr' (tk' + 1) (by omega) (by omega) (by omega) (hl_.trans (m_ls_one ⟨by omega, by omega⟩ (by omega))) (Or.inr ⟨rfl, hfu1.2.1.trans (m_px_oneNo (by omega) (by omega) (by rw [if_pos (by omega)]; exact m_ct_none (S := (w', lo', hi')) (by dsimp only; omega)))⟩) (qU_rg hw1 (by omega)) (fun c h => (qU_n (by omega)).trans (hout c h)) (by omega)
                    · refine qv_iconst C d_D_pass_183 ?_
                      refine qv_goto C d_D_pass_184 (by decide) (tgt := 188) ?_
                      refine qv_istore C d_D_pass_188 (by decide) (lv' := [(4, .int (qI 1)), (6, .int (qI (r i))), (5, .int (qI i)), (0, .ref u), (1, .int (qI h)), (2, .long (qL s0))]) rfl ?_
                      refine qv_aload_n C 3 d_D_pass_190 rfl rfl ?_
                      refine qv_get C in_D 0 rfl rfl 28 (by decide) wf_D_59 rfl rfl d_D_pass_191 ?_
                      refine qv_iload C 1 d_D_pass_194 rfl ?_
                      refine qv_dup2 C d_D_pass_196 rfl rfl ?_
                      refine qv_iald C 6 rfl (by omega) d_D_pass_197 ?_
                      have hq6 := hw1 (r i)
                      refine qv_aload_n C 3 d_D_pass_198 rfl rfl ?_
                      refine qv_get C in_D 0 rfl rfl 12 (by decide) wf_D_28 rfl rfl d_D_pass_199 ?_
                      refine qv_iload C 2 d_D_pass_202 rfl ?_
                      refine qv_iald C 1 rfl (by omega) d_D_pass_204 ?_
                      have hq7 := hk i
                      refine qv_if_ne C d_D_pass_205 (tgt := 212) (by decide) (by omega) (fun ht205 => ?_) (fun hf205 => ?_)
                      · refine qv_iconst C d_D_pass_212 ?_
                        refine qv_iadd C d_D_pass_213 ?_
                        refine qv_iast C 6 rfl (by omega) d_D_pass_214 (ws' := [(u, .inr (5, [.int (qI cd), .int (qI sz), .ref utx, .int (qI cu), .int (qI fa), .int (qI rdn), .ref uro, .ref urc, .ref urn, .ref urp, .ref ula, .int (qI n), .ref uop, .ref urg, .ref utg, .ref ude, .ref ule, .ref udn, .ref uv, .ref ub, .int (qI pl), .long (qL st), .int (qI on), .long (qL cn), .int (qI hd), .long (qL ps), .long (qL ss), .ref ubf, .ref ubh, .long (qL tk'), .ref ukp, .ref uwa])), (uop, .inl (G.2.1, 24, .inl (qA k))), (urg, .inl (G.2.1, 24, .inl (qA r))), (ude, .inl (G.2.1, 24, .inl (qA de))), (ule, .inl (G.2.1, 24, .inl (qA le))), (ubf, .inl (G.2.1, 8, .inl (qA bf))), (ubh, .inl (G.2.1, 8, .inl (qA (qU w' (r i) ((w' (r i)) + (-1))))))]) rfl ?_
                        refine qv_aload_n C 3 d_D_pass_215 rfl rfl ?_
                        refine qv_dup C d_D_pass_216 rfl ?_
                        refine qv_get C in_D 0 rfl rfl 29 (by decide) wf_D_142 rfl rfl d_D_pass_217 ?_
                        refine qv_lconst C (z := 1) d_D_pass_220 (by decide) ?_
                        refine qv_ladd C d_D_pass_221 ?_
                        refine qv_put C in_D 0 rfl rfl 29 (by decide) t_D t_D_ok n_D wf_D_142 rfl rfl (t_D_ok 29 (by decide)) (rfl) (rfl) (Nat.le_of_ble_eq_true rfl) d_D_pass_222 (ws' := [(u, .inr (5, [.int (qI cd), .int (qI sz), .ref utx, .int (qI cu), .int (qI fa), .int (qI rdn), .ref uro, .ref urc, .ref urn, .ref urp, .ref ula, .int (qI n), .ref uop, .ref urg, .ref utg, .ref ude, .ref ule, .ref udn, .ref uv, .ref ub, .int (qI pl), .long (qL st), .int (qI on), .long (qL cn), .int (qI hd), .long (qL ps), .long (qL ss), .ref ubf, .ref ubh, .long (qL (tk' + 1)), .ref ukp, .ref uwa])), (uop, .inl (G.2.1, 24, .inl (qA k))), (urg, .inl (G.2.1, 24, .inl (qA r))), (ude, .inl (G.2.1, 24, .inl (qA de))), (ule, .inl (G.2.1, 24, .inl (qA le))), (ubf, .inl (G.2.1, 8, .inl (qA bf))), (ubh, .inl (G.2.1, 8, .inl (qA (qU w' (r i) ((w' (r i)) + (-1))))))]) rfl ?_
                        refine qv_iinc C 2 d_D_pass_225 rfl (by decide) (lv' := [(5, .int (qI (i + 1))), (4, .int (qI 1)), (6, .int (qI (r i))), (0, .ref u), (1, .int (qI h)), (2, .long (qL s0))]) rfl ?_
                        refine qv_goto C d_D_pass_228 (by decide) (tgt := 75) ?_
                        refine qv_lv (lv' := [(5, .int (qI (i + 1))), (4, .int (qI 1)), (0, .ref u), (1, .int (qI h)), (2, .long (qL s0))]) [0, 1, 3, 4, 5] rfl ?_
                        exact ih75 (i + 1) f' d2 1 (qU w' (r i) ((w' (r i)) + (-1))) (qU lo' (r i) (min (lo' (r i)) (w' (r i) + (-1)))) (qU hi' (r i) (max (hi' (r i)) (w' (r i) + (-1)))) dr' (tk' + 1) (by omega) (by omega) (by omega) (hl_.trans (m_ls_one ⟨by omega, by omega⟩ (by omega))) (Or.inl ⟨rfl, hfu1.2.1.trans (m_px_one (by omega) (by omega) (by rw [if_neg (by omega)]; exact m_ct_val (S := (w', lo', hi')) (by dsimp only; omega))), qU_rg hfu1.2.2 (by omega)⟩) (qU_rg hw1 (by omega)) (fun c h => (qU_n (by omega)).trans (hout c h)) (by omega)
                      · refine qv_iconst C d_D_pass_208 ?_
                        refine qv_goto C d_D_pass_209 (by decide) (tgt := 213) ?_
                        refine qv_iadd C d_D_pass_213 ?_
                        refine qv_iast C 6 rfl (by omega) d_D_pass_214 (ws' := [(u, .inr (5, [.int (qI cd), .int (qI sz), .ref utx, .int (qI cu), .int (qI fa), .int (qI rdn), .ref uro, .ref urc, .ref urn, .ref urp, .ref ula, .int (qI n), .ref uop, .ref urg, .ref utg, .ref ude, .ref ule, .ref udn, .ref uv, .ref ub, .int (qI pl), .long (qL st), .int (qI on), .long (qL cn), .int (qI hd), .long (qL ps), .long (qL ss), .ref ubf, .ref ubh, .long (qL tk'), .ref ukp, .ref uwa])), (uop, .inl (G.2.1, 24, .inl (qA k))), (urg, .inl (G.2.1, 24, .inl (qA r))), (ude, .inl (G.2.1, 24, .inl (qA de))), (ule, .inl (G.2.1, 24, .inl (qA le))), (ubf, .inl (G.2.1, 8, .inl (qA bf))), (ubh, .inl (G.2.1, 8, .inl (qA (qU w' (r i) ((w' (r i)) + 1)))))]) rfl ?_
                        refine qv_aload_n C 3 d_D_pass_215 rfl rfl ?_
                        refine qv_dup C d_D_pass_216 rfl ?_
                        refine qv_get C in_D 0 rfl rfl 29 (by decide) wf_D_142 rfl rfl d_D_pass_217 ?_
                        refine qv_lconst C (z := 1) d_D_pass_220 (by decide) ?_
                        refine qv_ladd C d_D_pass_221 ?_
                        refine qv_put C in_D 0 rfl rfl 29 (by decide) t_D t_D_ok n_D wf_D_142 rfl rfl (t_D_ok 29 (by decide)) (rfl) (rfl) (Nat.le_of_ble_eq_true rfl) d_D_pass_222 (ws' := [(u, .inr (5, [.int (qI cd), .int (qI sz), .ref utx, .int (qI cu), .int (qI fa), .int (qI rdn), .ref uro, .ref urc, .ref urn, .ref urp, .ref ula, .int (qI n), .ref uop, .ref urg, .ref utg, .ref ude, .ref ule, .ref udn, .ref uv, .ref ub, .int (qI pl), .long (qL st), .int (qI on), .long (qL cn), .int (qI hd), .long (qL ps), .long (qL ss), .ref ubf, .ref ubh, .long (qL (tk' + 1)), .ref ukp, .ref uwa])), (uop, .inl (G.2.1, 24, .inl (qA k))), (urg, .inl (G.2.1, 24, .inl (qA r))), (ude, .inl (G.2.1, 24, .inl (qA de))), (ule, .inl (G.2.1, 24, .inl (qA le))), (ubf, .inl (G.2.1, 8, .inl (qA bf))), (ubh, .inl (G.2.1, 8, .inl (qA (qU w' (r i) ((w' (r i)) + 1)))))]) rfl ?_
                        refine qv_iinc C 2 d_D_pass_225 rfl (by decide) (lv' := [(5, .int (qI (i + 1))), (4, .int (qI 1)), (6, .int (qI (r i))), (0, .ref u), (1, .int (qI h)), (2, .long (qL s0))]) rfl ?_
                        refine qv_goto C d_D_pass_228 (by decide) (tgt := 75) ?_
                        refine qv_lv (lv' := [(5, .int (qI (i + 1))), (4, .int (qI 1)), (0, .ref u), (1, .int (qI h)), (2, .long (qL s0))]) [0, 1, 3, 4, 5] rfl ?_
                        exact ih75 (i + 1) f' d2 1 (qU w' (r i) ((w' (r i)) + 1)) (qU lo' (r i) (min (lo' (r i)) (w' (r i) + 1))) (qU hi' (r i) (max (hi' (r i)) (w' (r i) + 1))) dr' (tk' + 1) (by omega) (by omega) (by omega) (hl_.trans (m_ls_one ⟨by omega, by omega⟩ (by omega))) (Or.inl ⟨rfl, hfu1.2.1.trans (m_px_one (by omega) (by omega) (by rw [if_pos (by omega)]; exact m_ct_val (S := (w', lo', hi')) (by dsimp only; omega))), qU_rg hfu1.2.2 (by omega)⟩) (qU_rg hw1 (by omega)) (fun c h => (qU_n (by omega)).trans (hout c h)) (by omega)
                  · have hwr := hfu1.2.2 (r i)
                    refine qv_aload_n C 3 d_D_pass_153 rfl rfl ?_
                    refine qv_get C in_D 0 rfl rfl 28 (by decide) wf_D_59 rfl rfl d_D_pass_154 ?_
                    refine qv_iload C 0 d_D_pass_157 rfl ?_
                    refine qv_iald C 6 rfl (by omega) d_D_pass_159 ?_
                    have hq8 := hw1 (r i)
                    refine qv_ldc C (n := 1000000) wk_D_125 (by decide) d_D_pass_160 ?_
                    refine qv_icmp_ge C d_D_pass_162 (tgt := 169) (by decide) (by omega) (by omega) (fun ht162 => ?_) (fun hf162 => ?_)
                    · refine qv_iconst C d_D_pass_169 ?_
                      refine qv_goto C d_D_pass_170 (by decide) (tgt := 188) ?_
                      refine qv_istore C d_D_pass_188 (by decide) (lv' := [(4, .int (qI 0)), (6, .int (qI (r i))), (5, .int (qI i)), (0, .ref u), (1, .int (qI h)), (2, .long (qL s0))]) rfl ?_
                      refine qv_aload_n C 3 d_D_pass_190 rfl rfl ?_
                      refine qv_get C in_D 0 rfl rfl 28 (by decide) wf_D_59 rfl rfl d_D_pass_191 ?_
                      refine qv_iload C 1 d_D_pass_194 rfl ?_
                      refine qv_dup2 C d_D_pass_196 rfl rfl ?_
                      refine qv_iald C 6 rfl (by omega) d_D_pass_197 ?_
                      have hq9 := hw1 (r i)
                      refine qv_aload_n C 3 d_D_pass_198 rfl rfl ?_
                      refine qv_get C in_D 0 rfl rfl 12 (by decide) wf_D_28 rfl rfl d_D_pass_199 ?_
                      refine qv_iload C 2 d_D_pass_202 rfl ?_
                      refine qv_iald C 1 rfl (by omega) d_D_pass_204 ?_
                      have hq10 := hk i
                      refine qv_if_ne C d_D_pass_205 (tgt := 212) (by decide) (by omega) (fun ht205 => ?_) (fun hf205 => ?_)
                      · refine qv_iconst C d_D_pass_212 ?_
                        refine qv_iadd C d_D_pass_213 ?_
                        refine qv_iast C 6 rfl (by omega) d_D_pass_214 (ws' := [(u, .inr (5, [.int (qI cd), .int (qI sz), .ref utx, .int (qI cu), .int (qI fa), .int (qI rdn), .ref uro, .ref urc, .ref urn, .ref urp, .ref ula, .int (qI n), .ref uop, .ref urg, .ref utg, .ref ude, .ref ule, .ref udn, .ref uv, .ref ub, .int (qI pl), .long (qL st), .int (qI on), .long (qL cn), .int (qI hd), .long (qL ps), .long (qL ss), .ref ubf, .ref ubh, .long (qL tk'), .ref ukp, .ref uwa])), (uop, .inl (G.2.1, 24, .inl (qA k))), (urg, .inl (G.2.1, 24, .inl (qA r))), (ude, .inl (G.2.1, 24, .inl (qA de))), (ule, .inl (G.2.1, 24, .inl (qA le))), (ubf, .inl (G.2.1, 8, .inl (qA bf))), (ubh, .inl (G.2.1, 8, .inl (qA (qU w' (r i) ((w' (r i)) + (-1))))))]) rfl ?_
                        refine qv_aload_n C 3 d_D_pass_215 rfl rfl ?_
                        refine qv_dup C d_D_pass_216 rfl ?_
                        refine qv_get C in_D 0 rfl rfl 29 (by decide) wf_D_142 rfl rfl d_D_pass_217 ?_
                        refine qv_lconst C (z := 1) d_D_pass_220 (by decide) ?_
                        refine qv_ladd C d_D_pass_221 ?_
                        refine qv_put C in_D 0 rfl rfl 29 (by decide) t_D t_D_ok n_D wf_D_142 rfl rfl (t_D_ok 29 (by decide)) (rfl) (rfl) (Nat.le_of_ble_eq_true rfl) d_D_pass_222 (ws' := [(u, .inr (5, [.int (qI cd), .int (qI sz), .ref utx, .int (qI cu), .int (qI fa), .int (qI rdn), .ref uro, .ref urc, .ref urn, .ref urp, .ref ula, .int (qI n), .ref uop, .ref urg, .ref utg, .ref ude, .ref ule, .ref udn, .ref uv, .ref ub, .int (qI pl), .long (qL st), .int (qI on), .long (qL cn), .int (qI hd), .long (qL ps), .long (qL ss), .ref ubf, .ref ubh, .long (qL (tk' + 1)), .ref ukp, .ref uwa])), (uop, .inl (G.2.1, 24, .inl (qA k))), (urg, .inl (G.2.1, 24, .inl (qA r))), (ude, .inl (G.2.1, 24, .inl (qA de))), (ule, .inl (G.2.1, 24, .inl (qA le))), (ubf, .inl (G.2.1, 8, .inl (qA bf))), (ubh, .inl (G.2.1, 8, .inl (qA (qU w' (r i) ((w' (r i)) + (-1))))))]) rfl ?_
                        refine qv_iinc C 2 d_D_pass_225 rfl (by decide) (lv' := [(5, .int (qI (i + 1))), (4, .int (qI 0)), (6, .int (qI (r i))), (0, .ref u), (1, .int (qI h)), (2, .long (qL s0))]) rfl ?_
                        refine qv_goto C d_D_pass_228 (by decide) (tgt := 75) ?_
                        refine qv_lv (lv' := [(5, .int (qI (i + 1))), (4, .int (qI 0)), (0, .ref u), (1, .int (qI h)), (2, .long (qL s0))]) [0, 1, 3, 4, 5] rfl ?_
                        exact ih75 (i + 1) f' d2 0 (qU w' (r i) ((w' (r i)) + (-1))) (qU lo' (r i) (min (lo' (r i)) (w' (r i) + (-1)))) (qU hi' (r i) (max (hi' (r i)) (w' (r i) + (-1)))) dr' (tk' + 1) (by omega) (by omega) (by omega) (hl_.trans (m_ls_one ⟨by omega, by omega⟩ (by omega))) (Or.inr ⟨rfl, hfu1.2.1.trans (m_px_oneNo (by omega) (by omega) (by rw [if_neg (by omega)]; exact m_ct_none (S := (w', lo', hi')) (by dsimp only; omega)))⟩) (qU_rg hw1 (by omega)) (fun c h => (qU_n (by omega)).trans (hout c h)) (by omega)
                      · refine qv_iconst C d_D_pass_208 ?_
                        refine qv_goto C d_D_pass_209 (by decide) (tgt := 213) ?_
                        refine qv_iadd C d_D_pass_213 ?_
                        refine qv_iast C 6 rfl (by omega) d_D_pass_214 (ws' := [(u, .inr (5, [.int (qI cd), .int (qI sz), .ref utx, .int (qI cu), .int (qI fa), .int (qI rdn), .ref uro, .ref urc, .ref urn, .ref urp, .ref ula, .int (qI n), .ref uop, .ref urg, .ref utg, .ref ude, .ref ule, .ref udn, .ref uv, .ref ub, .int (qI pl), .long (qL st), .int (qI on), .long (qL cn), .int (qI hd), .long (qL ps), .long (qL ss), .ref ubf, .ref ubh, .long (qL tk'), .ref ukp, .ref uwa])), (uop, .inl (G.2.1, 24, .inl (qA k))), (urg, .inl (G.2.1, 24, .inl (qA r))), (ude, .inl (G.2.1, 24, .inl (qA de))), (ule, .inl (G.2.1, 24, .inl (qA le))), (ubf, .inl (G.2.1, 8, .inl (qA bf))), (ubh, .inl (G.2.1, 8, .inl (qA (qU w' (r i) ((w' (r i)) + 1)))))]) rfl ?_
                        refine qv_aload_n C 3 d_D_pass_215 rfl rfl ?_
                        refine qv_dup C d_D_pass_216 rfl ?_
                        refine qv_get C in_D 0 rfl rfl 29 (by decide) wf_D_142 rfl rfl d_D_pass_217 ?_
                        refine qv_lconst C (z := 1) d_D_pass_220 (by decide) ?_
                        refine qv_ladd C d_D_pass_221 ?_
                        refine qv_put C in_D 0 rfl rfl 29 (by decide) t_D t_D_ok n_D wf_D_142 rfl rfl (t_D_ok 29 (by decide)) (rfl) (rfl) (Nat.le_of_ble_eq_true rfl) d_D_pass_222 (ws' := [(u, .inr (5, [.int (qI cd), .int (qI sz), .ref utx, .int (qI cu), .int (qI fa), .int (qI rdn), .ref uro, .ref urc, .ref urn, .ref urp, .ref ula, .int (qI n), .ref uop, .ref urg, .ref utg, .ref ude, .ref ule, .ref udn, .ref uv, .ref ub, .int (qI pl), .long (qL st), .int (qI on), .long (qL cn), .int (qI hd), .long (qL ps), .long (qL ss), .ref ubf, .ref ubh, .long (qL (tk' + 1)), .ref ukp, .ref uwa])), (uop, .inl (G.2.1, 24, .inl (qA k))), (urg, .inl (G.2.1, 24, .inl (qA r))), (ude, .inl (G.2.1, 24, .inl (qA de))), (ule, .inl (G.2.1, 24, .inl (qA le))), (ubf, .inl (G.2.1, 8, .inl (qA bf))), (ubh, .inl (G.2.1, 8, .inl (qA (qU w' (r i) ((w' (r i)) + 1)))))]) rfl ?_
                        refine qv_iinc C 2 d_D_pass_225 rfl (by decide) (lv' := [(5, .int (qI (i + 1))), (4, .int (qI 0)), (6, .int (qI (r i))), (0, .ref u), (1, .int (qI h)), (2, .long (qL s0))]) rfl ?_
                        refine qv_goto C d_D_pass_228 (by decide) (tgt := 75) ?_
                        refine qv_lv (lv' := [(5, .int (qI (i + 1))), (4, .int (qI 0)), (0, .ref u), (1, .int (qI h)), (2, .long (qL s0))]) [0, 1, 3, 4, 5] rfl ?_
                        exact ih75 (i + 1) f' d2 0 (qU w' (r i) ((w' (r i)) + 1)) (qU lo' (r i) (min (lo' (r i)) (w' (r i) + 1))) (qU hi' (r i) (max (hi' (r i)) (w' (r i) + 1))) dr' (tk' + 1) (by omega) (by omega) (by omega) (hl_.trans (m_ls_one ⟨by omega, by omega⟩ (by omega))) (Or.inr ⟨rfl, hfu1.2.1.trans (m_px_oneNo (by omega) (by omega) (by rw [if_pos (by omega)]; exact m_ct_none (S := (w', lo', hi')) (by dsimp only; omega)))⟩) (qU_rg hw1 (by omega)) (fun c h => (qU_n (by omega)).trans (hout c h)) (by omega)
                    · refine qv_iconst C d_D_pass_165 ?_
                      refine qv_goto C d_D_pass_166 (by decide) (tgt := 188) ?_
                      refine qv_istore C d_D_pass_188 (by decide) (lv' := [(4, .int (qI 1)), (6, .int (qI (r i))), (5, .int (qI i)), (0, .ref u), (1, .int (qI h)), (2, .long (qL s0))]) rfl ?_
                      refine qv_aload_n C 3 d_D_pass_190 rfl rfl ?_
                      refine qv_get C in_D 0 rfl rfl 28 (by decide) wf_D_59 rfl rfl d_D_pass_191 ?_
                      refine qv_iload C 1 d_D_pass_194 rfl ?_
                      refine qv_dup2 C d_D_pass_196 rfl rfl ?_
                      refine qv_iald C 6 rfl (by omega) d_D_pass_197 ?_
                      have hq11 := hw1 (r i)
                      refine qv_aload_n C 3 d_D_pass_198 rfl rfl ?_
                      refine qv_get C in_D 0 rfl rfl 12 (by decide) wf_D_28 rfl rfl d_D_pass_199 ?_
                      refine qv_iload C 2 d_D_pass_202 rfl ?_
                      refine qv_iald C 1 rfl (by omega) d_D_pass_204 ?_
                      have hq12 := hk i
                      refine qv_if_ne C d_D_pass_205 (tgt := 212) (by decide) (by omega) (fun ht205 => ?_) (fun hf205 => ?_)
                      · refine qv_iconst C d_D_pass_212 ?_
                        refine qv_iadd C d_D_pass_213 ?_
                        refine qv_iast C 6 rfl (by omega) d_D_pass_214 (ws' := [(u, .inr (5, [.int (qI cd), .int (qI sz), .ref utx, .int (qI cu), .int (qI fa), .int (qI rdn), .ref uro, .ref urc, .ref urn, .ref urp, .ref ula, .int (qI n), .ref uop, .ref urg, .ref utg, .ref ude, .ref ule, .ref udn, .ref uv, .ref ub, .int (qI pl), .long (qL st), .int (qI on), .long (qL cn), .int (qI hd), .long (qL ps), .long (qL ss), .ref ubf, .ref ubh, .long (qL tk'), .ref ukp, .ref uwa])), (uop, .inl (G.2.1, 24, .inl (qA k))), (urg, .inl (G.2.1, 24, .inl (qA r))), (ude, .inl (G.2.1, 24, .inl (qA de))), (ule, .inl (G.2.1, 24, .inl (qA le))), (ubf, .inl (G.2.1, 8, .inl (qA bf))), (ubh, .inl (G.2.1, 8, .inl (qA (qU w' (r i) ((w' (r i)) + (-1))))))]) rfl ?_
                        refine qv_aload_n C 3 d_D_pass_215 rfl rfl ?_
                        refine qv_dup C d_D_pass_216 rfl ?_
                        refine qv_get C in_D 0 rfl rfl 29 (by decide) wf_D_142 rfl rfl d_D_pass_217 ?_
                        refine qv_lconst C (z := 1) d_D_pass_220 (by decide) ?_
                        refine qv_ladd C d_D_pass_221 ?_
                        refine qv_put C in_D 0 rfl rfl 29 (by decide) t_D t_D_ok n_D wf_D_142 rfl rfl (t_D_ok 29 (by decide)) (rfl) (rfl) (Nat.le_of_ble_eq_true rfl) d_D_pass_222 (ws' := [(u, .inr (5, [.int (qI cd), .int (qI sz), .ref utx, .int (qI cu), .int (qI fa), .int (qI rdn), .ref uro, .ref urc, .ref urn, .ref urp, .ref ula, .int (qI n), .ref uop, .ref urg, .ref utg, .ref ude, .ref ule, .ref udn, .ref uv, .ref ub, .int (qI pl), .long (qL st), .int (qI on), .long (qL cn), .int (qI hd), .long (qL ps), .long (qL ss), .ref ubf, .ref ubh, .long (qL (tk' + 1)), .ref ukp, .ref uwa])), (uop, .inl (G.2.1, 24, .inl (qA k))), (urg, .inl (G.2.1, 24, .inl (qA r))), (ude, .inl (G.2.1, 24, .inl (qA de))), (ule, .inl (G.2.1, 24, .inl (qA le))), (ubf, .inl (G.2.1, 8, .inl (qA bf))), (ubh, .inl (G.2.1, 8, .inl (qA (qU w' (r i) ((w' (r i)) + (-1))))))]) rfl ?_
                        refine qv_iinc C 2 d_D_pass_225 rfl (by decide) (lv' := [(5, .int (qI (i + 1))), (4, .int (qI 1)), (6, .int (qI (r i))), (0, .ref u), (1, .int (qI h)), (2, .long (qL s0))]) rfl ?_
                        refine qv_goto C d_D_pass_228 (by decide) (tgt := 75) ?_
                        refine qv_lv (lv' := [(5, .int (qI (i + 1))), (4, .int (qI 1)), (0, .ref u), (1, .int (qI h)), (2, .long (qL s0))]) [0, 1, 3, 4, 5] rfl ?_
                        exact ih75 (i + 1) f' d2 1 (qU w' (r i) ((w' (r i)) + (-1))) (qU lo' (r i) (min (lo' (r i)) (w' (r i) + (-1)))) (qU hi' (r i) (max (hi' (r i)) (w' (r i) + (-1)))) dr' (tk' + 1) (by omega) (by omega) (by omega) (hl_.trans (m_ls_one ⟨by omega, by omega⟩ (by omega))) (Or.inl ⟨rfl, hfu1.2.1.trans (m_px_one (by omega) (by omega) (by rw [if_neg (by omega)]; exact m_ct_val (S := (w', lo', hi')) (by dsimp only; omega))), qU_rg hfu1.2.2 (by omega)⟩) (qU_rg hw1 (by omega)) (fun c h => (qU_n (by omega)).trans (hout c h)) (by omega)
                      · refine qv_iconst C d_D_pass_208 ?_
                        refine qv_goto C d_D_pass_209 (by decide) (tgt := 213) ?_
                        refine qv_iadd C d_D_pass_213 ?_
                        refine qv_iast C 6 rfl (by omega) d_D_pass_214 (ws' := [(u, .inr (5, [.int (qI cd), .int (qI sz), .ref utx, .int (qI cu), .int (qI fa), .int (qI rdn), .ref uro, .ref urc, .ref urn, .ref urp, .ref ula, .int (qI n), .ref uop, .ref urg, .ref utg, .ref ude, .ref ule, .ref udn, .ref uv, .ref ub, .int (qI pl), .long (qL st), .int (qI on), .long (qL cn), .int (qI hd), .long (qL ps), .long (qL ss), .ref ubf, .ref ubh, .long (qL tk'), .ref ukp, .ref uwa])), (uop, .inl (G.2.1, 24, .inl (qA k))), (urg, .inl (G.2.1, 24, .inl (qA r))), (ude, .inl (G.2.1, 24, .inl (qA de))), (ule, .inl (G.2.1, 24, .inl (qA le))), (ubf, .inl (G.2.1, 8, .inl (qA bf))), (ubh, .inl (G.2.1, 8, .inl (qA (qU w' (r i) ((w' (r i)) + 1)))))]) rfl ?_
                        refine qv_aload_n C 3 d_D_pass_215 rfl rfl ?_
                        refine qv_dup C d_D_pass_216 rfl ?_
                        refine qv_get C in_D 0 rfl rfl 29 (by decide) wf_D_142 rfl rfl d_D_pass_217 ?_
                        refine qv_lconst C (z := 1) d_D_pass_220 (by decide) ?_
                        refine qv_ladd C d_D_pass_221 ?_
                        refine qv_put C in_D 0 rfl rfl 29 (by decide) t_D t_D_ok n_D wf_D_142 rfl rfl (t_D_ok 29 (by decide)) (rfl) (rfl) (Nat.le_of_ble_eq_true rfl) d_D_pass_222 (ws' := [(u, .inr (5, [.int (qI cd), .int (qI sz), .ref utx, .int (qI cu), .int (qI fa), .int (qI rdn), .ref uro, .ref urc, .ref urn, .ref urp, .ref ula, .int (qI n), .ref uop, .ref urg, .ref utg, .ref ude, .ref ule, .ref udn, .ref uv, .ref ub, .int (qI pl), .long (qL st), .int (qI on), .long (qL cn), .int (qI hd), .long (qL ps), .long (qL ss), .ref ubf, .ref ubh, .long (qL (tk' + 1)), .ref ukp, .ref uwa])), (uop, .inl (G.2.1, 24, .inl (qA k))), (urg, .inl (G.2.1, 24, .inl (qA r))), (ude, .inl (G.2.1, 24, .inl (qA de))), (ule, .inl (G.2.1, 24, .inl (qA le))), (ubf, .inl (G.2.1, 8, .inl (qA bf))), (ubh, .inl (G.2.1, 8, .inl (qA (qU w' (r i) ((w' (r i)) + 1)))))]) rfl ?_
                        refine qv_iinc C 2 d_D_pass_225 rfl (by decide) (lv' := [(5, .int (qI (i + 1))), (4, .int (qI 1)), (6, .int (qI (r i))), (0, .ref u), (1, .int (qI h)), (2, .long (qL s0))]) rfl ?_
                        refine qv_goto C d_D_pass_228 (by decide) (tgt := 75) ?_
                        refine qv_lv (lv' := [(5, .int (qI (i + 1))), (4, .int (qI 1)), (0, .ref u), (1, .int (qI h)), (2, .long (qL s0))]) [0, 1, 3, 4, 5] rfl ?_
                        exact ih75 (i + 1) f' d2 1 (qU w' (r i) ((w' (r i)) + 1)) (qU lo' (r i) (min (lo' (r i)) (w' (r i) + 1))) (qU hi' (r i) (max (hi' (r i)) (w' (r i) + 1))) dr' (tk' + 1) (by omega) (by omega) (by omega) (hl_.trans (m_ls_one ⟨by omega, by omega⟩ (by omega))) (Or.inl ⟨rfl, hfu1.2.1.trans (m_px_one (by omega) (by omega) (by rw [if_pos (by omega)]; exact m_ct_val (S := (w', lo', hi')) (by dsimp only; omega))), qU_rg hfu1.2.2 (by omega)⟩) (qU_rg hw1 (by omega)) (fun c h => (qU_n (by omega)).trans (hout c h)) (by omega)
                · refine qv_aload_n C 3 d_D_pass_106 rfl rfl ?_
                  refine qv_get C in_D 0 rfl rfl 15 (by decide) wf_D_37 rfl rfl d_D_pass_107 ?_
                  refine qv_iload C 1 d_D_pass_110 rfl ?_
                  refine qv_iald C 3 rfl (by omega) d_D_pass_112 ?_
                  have hq13 := hdx i
                  refine qv_if_lt C d_D_pass_113 (tgt := 143) (by decide) (by omega) (fun ht113 => ?_) (fun hf113 => ?_)
                  · refine qv_aload_n C 3 d_D_pass_143 rfl rfl ?_
                    refine qv_get C in_D 0 rfl rfl 12 (by decide) wf_D_28 rfl rfl d_D_pass_144 ?_
                    refine qv_iload C 1 d_D_pass_147 rfl ?_
                    refine qv_iald C 1 rfl (by omega) d_D_pass_149 ?_
                    have hq14 := hk i
                    refine qv_if_ne C d_D_pass_150 (tgt := 173) (by decide) (by omega) (fun ht150 => ?_) (fun hf150 => ?_)
                    · have hwr := hfu1.2.2 (r i)
                      have hkk : k i = 1 := by omega
                      refine qv_aload_n C 3 d_D_pass_173 rfl rfl ?_
                      refine qv_get C in_D 0 rfl rfl 28 (by decide) wf_D_59 rfl rfl d_D_pass_174 ?_
                      refine qv_iload C 0 d_D_pass_177 rfl ?_
                      refine qv_iald C 6 rfl (by omega) d_D_pass_179 ?_
                      have hq15 := hw1 (r i)
                      refine qv_if_le C d_D_pass_180 (tgt := 187) (by decide) (by omega) (fun ht180 => ?_) (fun hf180 => ?_)
                      · refine qv_iconst C d_D_pass_187 ?_
                        refine qv_istore C d_D_pass_188 (by decide) (lv' := [(4, .int (qI 0)), (6, .int (qI (r i))), (5, .int (qI i)), (0, .ref u), (1, .int (qI h)), (2, .long (qL s0))]) rfl ?_
                        refine qv_aload_n C 3 d_D_pass_190 rfl rfl ?_
                        refine qv_get C in_D 0 rfl rfl 28 (by decide) wf_D_59 rfl rfl d_D_pass_191 ?_
                        refine qv_iload C 1 d_D_pass_194 rfl ?_
                        refine qv_dup2 C d_D_pass_196 rfl rfl ?_
                        refine qv_iald C 6 rfl (by omega) d_D_pass_197 ?_
                        have hq16 := hw1 (r i)
                        refine qv_aload_n C 3 d_D_pass_198 rfl rfl ?_
                        refine qv_get C in_D 0 rfl rfl 12 (by decide) wf_D_28 rfl rfl d_D_pass_199 ?_
                        refine qv_iload C 2 d_D_pass_202 rfl ?_
                        refine qv_iald C 1 rfl (by omega) d_D_pass_204 ?_
                        have hq17 := hk i
                        refine qv_if_ne C d_D_pass_205 (tgt := 212) (by decide) (by omega) (fun ht205 => ?_) (fun hf205 => ?_)
                        · refine qv_iconst C d_D_pass_212 ?_
                          refine qv_iadd C d_D_pass_213 ?_
                          refine qv_iast C 6 rfl (by omega) d_D_pass_214 (ws' := [(u, .inr (5, [.int (qI cd), .int (qI sz), .ref utx, .int (qI cu), .int (qI fa), .int (qI rdn), .ref uro, .ref urc, .ref urn, .ref urp, .ref ula, .int (qI n), .ref uop, .ref urg, .ref utg, .ref ude, .ref ule, .ref udn, .ref uv, .ref ub, .int (qI pl), .long (qL st), .int (qI on), .long (qL cn), .int (qI hd), .long (qL ps), .long (qL ss), .ref ubf, .ref ubh, .long (qL tk'), .ref ukp, .ref uwa])), (uop, .inl (G.2.1, 24, .inl (qA k))), (urg, .inl (G.2.1, 24, .inl (qA r))), (ude, .inl (G.2.1, 24, .inl (qA de))), (ule, .inl (G.2.1, 24, .inl (qA le))), (ubf, .inl (G.2.1, 8, .inl (qA bf))), (ubh, .inl (G.2.1, 8, .inl (qA (qU w' (r i) ((w' (r i)) + (-1))))))]) rfl ?_
                          refine qv_aload_n C 3 d_D_pass_215 rfl rfl ?_
                          refine qv_dup C d_D_pass_216 rfl ?_
                          refine qv_get C in_D 0 rfl rfl 29 (by decide) wf_D_142 rfl rfl d_D_pass_217 ?_
                          refine qv_lconst C (z := 1) d_D_pass_220 (by decide) ?_
                          refine qv_ladd C d_D_pass_221 ?_
                          refine qv_put C in_D 0 rfl rfl 29 (by decide) t_D t_D_ok n_D wf_D_142 rfl rfl (t_D_ok 29 (by decide)) (rfl) (rfl) (Nat.le_of_ble_eq_true rfl) d_D_pass_222 (ws' := [(u, .inr (5, [.int (qI cd), .int (qI sz), .ref utx, .int (qI cu), .int (qI fa), .int (qI rdn), .ref uro, .ref urc, .ref urn, .ref urp, .ref ula, .int (qI n), .ref uop, .ref urg, .ref utg, .ref ude, .ref ule, .ref udn, .ref uv, .ref ub, .int (qI pl), .long (qL st), .int (qI on), .long (qL cn), .int (qI hd), .long (qL ps), .long (qL ss), .ref ubf, .ref ubh, .long (qL (tk' + 1)), .ref ukp, .ref uwa])), (uop, .inl (G.2.1, 24, .inl (qA k))), (urg, .inl (G.2.1, 24, .inl (qA r))), (ude, .inl (G.2.1, 24, .inl (qA de))), (ule, .inl (G.2.1, 24, .inl (qA le))), (ubf, .inl (G.2.1, 8, .inl (qA bf))), (ubh, .inl (G.2.1, 8, .inl (qA (qU w' (r i) ((w' (r i)) + (-1))))))]) rfl ?_
                          refine qv_iinc C 2 d_D_pass_225 rfl (by decide) (lv' := [(5, .int (qI (i + 1))), (4, .int (qI 0)), (6, .int (qI (r i))), (0, .ref u), (1, .int (qI h)), (2, .long (qL s0))]) rfl ?_
                          refine qv_goto C d_D_pass_228 (by decide) (tgt := 75) ?_
                          refine qv_lv (lv' := [(5, .int (qI (i + 1))), (4, .int (qI 0)), (0, .ref u), (1, .int (qI h)), (2, .long (qL s0))]) [0, 1, 3, 4, 5] rfl ?_
                          exact ih75 (i + 1) f' d2 0 (qU w' (r i) ((w' (r i)) + (-1))) (qU lo' (r i) (min (lo' (r i)) (w' (r i) + (-1)))) (qU hi' (r i) (max (hi' (r i)) (w' (r i) + (-1)))) dr' (tk' + 1) (by omega) (by omega) (by omega) (hl_.trans (m_ls_one ⟨by omega, by omega⟩ (by omega))) (Or.inr ⟨rfl, hfu1.2.1.trans (m_px_oneNo (by omega) (by omega) (by rw [if_neg (by omega)]; exact m_ct_none (S := (w', lo', hi')) (by dsimp only; omega)))⟩) (qU_rg hw1 (by omega)) (fun c h => (qU_n (by omega)).trans (hout c h)) (by omega)
                        · refine qv_iconst C d_D_pass_208 ?_
                          refine qv_goto C d_D_pass_209 (by decide) (tgt := 213) ?_
                          refine qv_iadd C d_D_pass_213 ?_
                          refine qv_iast C 6 rfl (by omega) d_D_pass_214 (ws' := [(u, .inr (5, [.int (qI cd), .int (qI sz), .ref utx, .int (qI cu), .int (qI fa), .int (qI rdn), .ref uro, .ref urc, .ref urn, .ref urp, .ref ula, .int (qI n), .ref uop, .ref urg, .ref utg, .ref ude, .ref ule, .ref udn, .ref uv, .ref ub, .int (qI pl), .long (qL st), .int (qI on), .long (qL cn), .int (qI hd), .long (qL ps), .long (qL ss), .ref ubf, .ref ubh, .long (qL tk'), .ref ukp, .ref uwa])), (uop, .inl (G.2.1, 24, .inl (qA k))), (urg, .inl (G.2.1, 24, .inl (qA r))), (ude, .inl (G.2.1, 24, .inl (qA de))), (ule, .inl (G.2.1, 24, .inl (qA le))), (ubf, .inl (G.2.1, 8, .inl (qA bf))), (ubh, .inl (G.2.1, 8, .inl (qA (qU w' (r i) ((w' (r i)) + 1)))))]) rfl ?_
                          refine qv_aload_n C 3 d_D_pass_215 rfl rfl ?_
                          refine qv_dup C d_D_pass_216 rfl ?_
                          refine qv_get C in_D 0 rfl rfl 29 (by decide) wf_D_142 rfl rfl d_D_pass_217 ?_
                          refine qv_lconst C (z := 1) d_D_pass_220 (by decide) ?_
                          refine qv_ladd C d_D_pass_221 ?_
                          refine qv_put C in_D 0 rfl rfl 29 (by decide) t_D t_D_ok n_D wf_D_142 rfl rfl (t_D_ok 29 (by decide)) (rfl) (rfl) (Nat.le_of_ble_eq_true rfl) d_D_pass_222 (ws' := [(u, .inr (5, [.int (qI cd), .int (qI sz), .ref utx, .int (qI cu), .int (qI fa), .int (qI rdn), .ref uro, .ref urc, .ref urn, .ref urp, .ref ula, .int (qI n), .ref uop, .ref urg, .ref utg, .ref ude, .ref ule, .ref udn, .ref uv, .ref ub, .int (qI pl), .long (qL st), .int (qI on), .long (qL cn), .int (qI hd), .long (qL ps), .long (qL ss), .ref ubf, .ref ubh, .long (qL (tk' + 1)), .ref ukp, .ref uwa])), (uop, .inl (G.2.1, 24, .inl (qA k))), (urg, .inl (G.2.1, 24, .inl (qA r))), (ude, .inl (G.2.1, 24, .inl (qA de))), (ule, .inl (G.2.1, 24, .inl (qA le))), (ubf, .inl (G.2.1, 8, .inl (qA bf))), (ubh, .inl (G.2.1, 8, .inl (qA (qU w' (r i) ((w' (r i)) + 1)))))]) rfl ?_
                          refine qv_iinc C 2 d_D_pass_225 rfl (by decide) (lv' := [(5, .int (qI (i + 1))), (4, .int (qI 0)), (6, .int (qI (r i))), (0, .ref u), (1, .int (qI h)), (2, .long (qL s0))]) rfl ?_
                          refine qv_goto C d_D_pass_228 (by decide) (tgt := 75) ?_
                          refine qv_lv (lv' := [(5, .int (qI (i + 1))), (4, .int (qI 0)), (0, .ref u), (1, .int (qI h)), (2, .long (qL s0))]) [0, 1, 3, 4, 5] rfl ?_
                          exact ih75 (i + 1) f' d2 0 (qU w' (r i) ((w' (r i)) + 1)) (qU lo' (r i) (min (lo' (r i)) (w' (r i) + 1))) (qU hi' (r i) (max (hi' (r i)) (w' (r i) + 1))) dr' (tk' + 1) (by omega) (by omega) (by omega) (hl_.trans (m_ls_one ⟨by omega, by omega⟩ (by omega))) (Or.inr ⟨rfl, hfu1.2.1.trans (m_px_oneNo (by omega) (by omega) (by rw [if_pos (by omega)]; exact m_ct_none (S := (w', lo', hi')) (by dsimp only; omega)))⟩) (qU_rg hw1 (by omega)) (fun c h => (qU_n (by omega)).trans (hout c h)) (by omega)
                      · refine qv_iconst C d_D_pass_183 ?_
                        refine qv_goto C d_D_pass_184 (by decide) (tgt := 188) ?_
                        refine qv_istore C d_D_pass_188 (by decide) (lv' := [(4, .int (qI 1)), (6, .int (qI (r i))), (5, .int (qI i)), (0, .ref u), (1, .int (qI h)), (2, .long (qL s0))]) rfl ?_
                        refine qv_aload_n C 3 d_D_pass_190 rfl rfl ?_
                        refine qv_get C in_D 0 rfl rfl 28 (by decide) wf_D_59 rfl rfl d_D_pass_191 ?_
                        refine qv_iload C 1 d_D_pass_194 rfl ?_
                        refine qv_dup2 C d_D_pass_196 rfl rfl ?_
                        refine qv_iald C 6 rfl (by omega) d_D_pass_197 ?_
                        have hq18 := hw1 (r i)
                        refine qv_aload_n C 3 d_D_pass_198 rfl rfl ?_
                        refine qv_get C in_D 0 rfl rfl 12 (by decide) wf_D_28 rfl rfl d_D_pass_199 ?_
                        refine qv_iload C 2 d_D_pass_202 rfl ?_
                        refine qv_iald C 1 rfl (by omega) d_D_pass_204 ?_
                        have hq19 := hk i
                        refine qv_if_ne C d_D_pass_205 (tgt := 212) (by decide) (by omega) (fun ht205 => ?_) (fun hf205 => ?_)
                        · refine qv_iconst C d_D_pass_212 ?_
                          refine qv_iadd C d_D_pass_213 ?_
                          refine qv_iast C 6 rfl (by omega) d_D_pass_214 (ws' := [(u, .inr (5, [.int (qI cd), .int (qI sz), .ref utx, .int (qI cu), .int (qI fa), .int (qI rdn), .ref uro, .ref urc, .ref urn, .ref urp, .ref ula, .int (qI n), .ref uop, .ref urg, .ref utg, .ref ude, .ref ule, .ref udn, .ref uv, .ref ub, .int (qI pl), .long (qL st), .int (qI on), .long (qL cn), .int (qI hd), .long (qL ps), .long (qL ss), .ref ubf, .ref ubh, .long (qL tk'), .ref ukp, .ref uwa])), (uop, .inl (G.2.1, 24, .inl (qA k))), (urg, .inl (G.2.1, 24, .inl (qA r))), (ude, .inl (G.2.1, 24, .inl (qA de))), (ule, .inl (G.2.1, 24, .inl (qA le))), (ubf, .inl (G.2.1, 8, .inl (qA bf))), (ubh, .inl (G.2.1, 8, .inl (qA (qU w' (r i) ((w' (r i)) + (-1))))))]) rfl ?_
                          refine qv_aload_n C 3 d_D_pass_215 rfl rfl ?_
                          refine qv_dup C d_D_pass_216 rfl ?_
                          refine qv_get C in_D 0 rfl rfl 29 (by decide) wf_D_142 rfl rfl d_D_pass_217 ?_
                          refine qv_lconst C (z := 1) d_D_pass_220 (by decide) ?_
                          refine qv_ladd C d_D_pass_221 ?_
                          refine qv_put C in_D 0 rfl rfl 29 (by decide) t_D t_D_ok n_D wf_D_142 rfl rfl (t_D_ok 29 (by decide)) (rfl) (rfl) (Nat.le_of_ble_eq_true rfl) d_D_pass_222 (ws' := [(u, .inr (5, [.int (qI cd), .int (qI sz), .ref utx, .int (qI cu), .int (qI fa), .int (qI rdn), .ref uro, .ref urc, .ref urn, .ref urp, .ref ula, .int (qI n), .ref uop, .ref urg, .ref utg, .ref ude, .ref ule, .ref udn, .ref uv, .ref ub, .int (qI pl), .long (qL st), .int (qI on), .long (qL cn), .int (qI hd), .long (qL ps), .long (qL ss), .ref ubf, .ref ubh, .long (qL (tk' + 1)), .ref ukp, .ref uwa])), (uop, .inl (G.2.1, 24, .inl (qA k))), (urg, .inl (G.2.1, 24, .inl (qA r))), (ude, .inl (G.2.1, 24, .inl (qA de))), (ule, .inl (G.2.1, 24, .inl (qA le))), (ubf, .inl (G.2.1, 8, .inl (qA bf))), (ubh, .inl (G.2.1, 8, .inl (qA (qU w' (r i) ((w' (r i)) + (-1))))))]) rfl ?_
                          refine qv_iinc C 2 d_D_pass_225 rfl (by decide) (lv' := [(5, .int (qI (i + 1))), (4, .int (qI 1)), (6, .int (qI (r i))), (0, .ref u), (1, .int (qI h)), (2, .long (qL s0))]) rfl ?_
                          refine qv_goto C d_D_pass_228 (by decide) (tgt := 75) ?_
                          refine qv_lv (lv' := [(5, .int (qI (i + 1))), (4, .int (qI 1)), (0, .ref u), (1, .int (qI h)), (2, .long (qL s0))]) [0, 1, 3, 4, 5] rfl ?_
                          exact ih75 (i + 1) f' d2 1 (qU w' (r i) ((w' (r i)) + (-1))) (qU lo' (r i) (min (lo' (r i)) (w' (r i) + (-1)))) (qU hi' (r i) (max (hi' (r i)) (w' (r i) + (-1)))) dr' (tk' + 1) (by omega) (by omega) (by omega) (hl_.trans (m_ls_one ⟨by omega, by omega⟩ (by omega))) (Or.inl ⟨rfl, hfu1.2.1.trans (m_px_one (by omega) (by omega) (by rw [if_neg (by omega)]; exact m_ct_val (S := (w', lo', hi')) (by dsimp only; omega))), qU_rg hfu1.2.2 (by omega)⟩) (qU_rg hw1 (by omega)) (fun c h => (qU_n (by omega)).trans (hout c h)) (by omega)
                        · refine qv_iconst C d_D_pass_208 ?_
                          refine qv_goto C d_D_pass_209 (by decide) (tgt := 213) ?_
                          refine qv_iadd C d_D_pass_213 ?_
                          refine qv_iast C 6 rfl (by omega) d_D_pass_214 (ws' := [(u, .inr (5, [.int (qI cd), .int (qI sz), .ref utx, .int (qI cu), .int (qI fa), .int (qI rdn), .ref uro, .ref urc, .ref urn, .ref urp, .ref ula, .int (qI n), .ref uop, .ref urg, .ref utg, .ref ude, .ref ule, .ref udn, .ref uv, .ref ub, .int (qI pl), .long (qL st), .int (qI on), .long (qL cn), .int (qI hd), .long (qL ps), .long (qL ss), .ref ubf, .ref ubh, .long (qL tk'), .ref ukp, .ref uwa])), (uop, .inl (G.2.1, 24, .inl (qA k))), (urg, .inl (G.2.1, 24, .inl (qA r))), (ude, .inl (G.2.1, 24, .inl (qA de))), (ule, .inl (G.2.1, 24, .inl (qA le))), (ubf, .inl (G.2.1, 8, .inl (qA bf))), (ubh, .inl (G.2.1, 8, .inl (qA (qU w' (r i) ((w' (r i)) + 1)))))]) rfl ?_
                          refine qv_aload_n C 3 d_D_pass_215 rfl rfl ?_
                          refine qv_dup C d_D_pass_216 rfl ?_
                          refine qv_get C in_D 0 rfl rfl 29 (by decide) wf_D_142 rfl rfl d_D_pass_217 ?_
                          refine qv_lconst C (z := 1) d_D_pass_220 (by decide) ?_
                          refine qv_ladd C d_D_pass_221 ?_
                          refine qv_put C in_D 0 rfl rfl 29 (by decide) t_D t_D_ok n_D wf_D_142 rfl rfl (t_D_ok 29 (by decide)) (rfl) (rfl) (Nat.le_of_ble_eq_true rfl) d_D_pass_222 (ws' := [(u, .inr (5, [.int (qI cd), .int (qI sz), .ref utx, .int (qI cu), .int (qI fa), .int (qI rdn), .ref uro, .ref urc, .ref urn, .ref urp, .ref ula, .int (qI n), .ref uop, .ref urg, .ref utg, .ref ude, .ref ule, .ref udn, .ref uv, .ref ub, .int (qI pl), .long (qL st), .int (qI on), .long (qL cn), .int (qI hd), .long (qL ps), .long (qL ss), .ref ubf, .ref ubh, .long (qL (tk' + 1)), .ref ukp, .ref uwa])), (uop, .inl (G.2.1, 24, .inl (qA k))), (urg, .inl (G.2.1, 24, .inl (qA r))), (ude, .inl (G.2.1, 24, .inl (qA de))), (ule, .inl (G.2.1, 24, .inl (qA le))), (ubf, .inl (G.2.1, 8, .inl (qA bf))), (ubh, .inl (G.2.1, 8, .inl (qA (qU w' (r i) ((w' (r i)) + 1)))))]) rfl ?_
                          refine qv_iinc C 2 d_D_pass_225 rfl (by decide) (lv' := [(5, .int (qI (i + 1))), (4, .int (qI 1)), (6, .int (qI (r i))), (0, .ref u), (1, .int (qI h)), (2, .long (qL s0))]) rfl ?_
                          refine qv_goto C d_D_pass_228 (by decide) (tgt := 75) ?_
                          refine qv_lv (lv' := [(5, .int (qI (i + 1))), (4, .int (qI 1)), (0, .ref u), (1, .int (qI h)), (2, .long (qL s0))]) [0, 1, 3, 4, 5] rfl ?_
                          exact ih75 (i + 1) f' d2 1 (qU w' (r i) ((w' (r i)) + 1)) (qU lo' (r i) (min (lo' (r i)) (w' (r i) + 1))) (qU hi' (r i) (max (hi' (r i)) (w' (r i) + 1))) dr' (tk' + 1) (by omega) (by omega) (by omega) (hl_.trans (m_ls_one ⟨by omega, by omega⟩ (by omega))) (Or.inl ⟨rfl, hfu1.2.1.trans (m_px_one (by omega) (by omega) (by rw [if_pos (by omega)]; exact m_ct_val (S := (w', lo', hi')) (by dsimp only; omega))), qU_rg hfu1.2.2 (by omega)⟩) (qU_rg hw1 (by omega)) (fun c h => (qU_n (by omega)).trans (hout c h)) (by omega)
                    · have hwr := hfu1.2.2 (r i)
                      refine qv_aload_n C 3 d_D_pass_153 rfl rfl ?_
                      refine qv_get C in_D 0 rfl rfl 28 (by decide) wf_D_59 rfl rfl d_D_pass_154 ?_
                      refine qv_iload C 0 d_D_pass_157 rfl ?_
                      refine qv_iald C 6 rfl (by omega) d_D_pass_159 ?_
                      have hq20 := hw1 (r i)
                      refine qv_ldc C (n := 1000000) wk_D_125 (by decide) d_D_pass_160 ?_
                      refine qv_icmp_ge C d_D_pass_162 (tgt := 169) (by decide) (by omega) (by omega) (fun ht162 => ?_) (fun hf162 => ?_)
                      · refine qv_iconst C d_D_pass_169 ?_
                        refine qv_goto C d_D_pass_170 (by decide) (tgt := 188) ?_
                        refine qv_istore C d_D_pass_188 (by decide) (lv' := [(4, .int (qI 0)), (6, .int (qI (r i))), (5, .int (qI i)), (0, .ref u), (1, .int (qI h)), (2, .long (qL s0))]) rfl ?_
                        refine qv_aload_n C 3 d_D_pass_190 rfl rfl ?_
                        refine qv_get C in_D 0 rfl rfl 28 (by decide) wf_D_59 rfl rfl d_D_pass_191 ?_
                        refine qv_iload C 1 d_D_pass_194 rfl ?_
                        refine qv_dup2 C d_D_pass_196 rfl rfl ?_
                        refine qv_iald C 6 rfl (by omega) d_D_pass_197 ?_
                        have hq21 := hw1 (r i)
                        refine qv_aload_n C 3 d_D_pass_198 rfl rfl ?_
                        refine qv_get C in_D 0 rfl rfl 12 (by decide) wf_D_28 rfl rfl d_D_pass_199 ?_
                        refine qv_iload C 2 d_D_pass_202 rfl ?_
                        refine qv_iald C 1 rfl (by omega) d_D_pass_204 ?_
                        have hq22 := hk i
                        refine qv_if_ne C d_D_pass_205 (tgt := 212) (by decide) (by omega) (fun ht205 => ?_) (fun hf205 => ?_)
                        · refine qv_iconst C d_D_pass_212 ?_
                          refine qv_iadd C d_D_pass_213 ?_
                          refine qv_iast C 6 rfl (by omega) d_D_pass_214 (ws' := [(u, .inr (5, [.int (qI cd), .int (qI sz), .ref utx, .int (qI cu), .int (qI fa), .int (qI rdn), .ref uro, .ref urc, .ref urn, .ref urp, .ref ula, .int (qI n), .ref uop, .ref urg, .ref utg, .ref ude, .ref ule, .ref udn, .ref uv, .ref ub, .int (qI pl), .long (qL st), .int (qI on), .long (qL cn), .int (qI hd), .long (qL ps), .long (qL ss), .ref ubf, .ref ubh, .long (qL tk'), .ref ukp, .ref uwa])), (uop, .inl (G.2.1, 24, .inl (qA k))), (urg, .inl (G.2.1, 24, .inl (qA r))), (ude, .inl (G.2.1, 24, .inl (qA de))), (ule, .inl (G.2.1, 24, .inl (qA le))), (ubf, .inl (G.2.1, 8, .inl (qA bf))), (ubh, .inl (G.2.1, 8, .inl (qA (qU w' (r i) ((w' (r i)) + (-1))))))]) rfl ?_
                          refine qv_aload_n C 3 d_D_pass_215 rfl rfl ?_
                          refine qv_dup C d_D_pass_216 rfl ?_
                          refine qv_get C in_D 0 rfl rfl 29 (by decide) wf_D_142 rfl rfl d_D_pass_217 ?_
                          refine qv_lconst C (z := 1) d_D_pass_220 (by decide) ?_
                          refine qv_ladd C d_D_pass_221 ?_
                          refine qv_put C in_D 0 rfl rfl 29 (by decide) t_D t_D_ok n_D wf_D_142 rfl rfl (t_D_ok 29 (by decide)) (rfl) (rfl) (Nat.le_of_ble_eq_true rfl) d_D_pass_222 (ws' := [(u, .inr (5, [.int (qI cd), .int (qI sz), .ref utx, .int (qI cu), .int (qI fa), .int (qI rdn), .ref uro, .ref urc, .ref urn, .ref urp, .ref ula, .int (qI n), .ref uop, .ref urg, .ref utg, .ref ude, .ref ule, .ref udn, .ref uv, .ref ub, .int (qI pl), .long (qL st), .int (qI on), .long (qL cn), .int (qI hd), .long (qL ps), .long (qL ss), .ref ubf, .ref ubh, .long (qL (tk' + 1)), .ref ukp, .ref uwa])), (uop, .inl (G.2.1, 24, .inl (qA k))), (urg, .inl (G.2.1, 24, .inl (qA r))), (ude, .inl (G.2.1, 24, .inl (qA de))), (ule, .inl (G.2.1, 24, .inl (qA le))), (ubf, .inl (G.2.1, 8, .inl (qA bf))), (ubh, .inl (G.2.1, 8, .inl (qA (qU w' (r i) ((w' (r i)) + (-1))))))]) rfl ?_
                          refine qv_iinc C 2 d_D_pass_225 rfl (by decide) (lv' := [(5, .int (qI (i + 1))), (4, .int (qI 0)), (6, .int (qI (r i))), (0, .ref u), (1, .int (qI h)), (2, .long (qL s0))]) rfl ?_
                          refine qv_goto C d_D_pass_228 (by decide) (tgt := 75) ?_
                          refine qv_lv (lv' := [(5, .int (qI (i + 1))), (4, .int (qI 0)), (0, .ref u), (1, .int (qI h)), (2, .long (qL s0))]) [0, 1, 3, 4, 5] rfl ?_
                          exact ih75 (i + 1) f' d2 0 (qU w' (r i) ((w' (r i)) + (-1))) (qU lo' (r i) (min (lo' (r i)) (w' (r i) + (-1)))) (qU hi' (r i) (max (hi' (r i)) (w' (r i) + (-1)))) dr' (tk' + 1) (by omega) (by omega) (by omega) (hl_.trans (m_ls_one ⟨by omega, by omega⟩ (by omega))) (Or.inr ⟨rfl, hfu1.2.1.trans (m_px_oneNo (by omega) (by omega) (by rw [if_neg (by omega)]; exact m_ct_none (S := (w', lo', hi')) (by dsimp only; omega)))⟩) (qU_rg hw1 (by omega)) (fun c h => (qU_n (by omega)).trans (hout c h)) (by omega)
                        · refine qv_iconst C d_D_pass_208 ?_
                          refine qv_goto C d_D_pass_209 (by decide) (tgt := 213) ?_
                          refine qv_iadd C d_D_pass_213 ?_
                          refine qv_iast C 6 rfl (by omega) d_D_pass_214 (ws' := [(u, .inr (5, [.int (qI cd), .int (qI sz), .ref utx, .int (qI cu), .int (qI fa), .int (qI rdn), .ref uro, .ref urc, .ref urn, .ref urp, .ref ula, .int (qI n), .ref uop, .ref urg, .ref utg, .ref ude, .ref ule, .ref udn, .ref uv, .ref ub, .int (qI pl), .long (qL st), .int (qI on), .long (qL cn), .int (qI hd), .long (qL ps), .long (qL ss), .ref ubf, .ref ubh, .long (qL tk'), .ref ukp, .ref uwa])), (uop, .inl (G.2.1, 24, .inl (qA k))), (urg, .inl (G.2.1, 24, .inl (qA r))), (ude, .inl (G.2.1, 24, .inl (qA de))), (ule, .inl (G.2.1, 24, .inl (qA le))), (ubf, .inl (G.2.1, 8, .inl (qA bf))), (ubh, .inl (G.2.1, 8, .inl (qA (qU w' (r i) ((w' (r i)) + 1)))))]) rfl ?_
                          refine qv_aload_n C 3 d_D_pass_215 rfl rfl ?_
                          refine qv_dup C d_D_pass_216 rfl ?_
                          refine qv_get C in_D 0 rfl rfl 29 (by decide) wf_D_142 rfl rfl d_D_pass_217 ?_
                          refine qv_lconst C (z := 1) d_D_pass_220 (by decide) ?_
                          refine qv_ladd C d_D_pass_221 ?_
                          refine qv_put C in_D 0 rfl rfl 29 (by decide) t_D t_D_ok n_D wf_D_142 rfl rfl (t_D_ok 29 (by decide)) (rfl) (rfl) (Nat.le_of_ble_eq_true rfl) d_D_pass_222 (ws' := [(u, .inr (5, [.int (qI cd), .int (qI sz), .ref utx, .int (qI cu), .int (qI fa), .int (qI rdn), .ref uro, .ref urc, .ref urn, .ref urp, .ref ula, .int (qI n), .ref uop, .ref urg, .ref utg, .ref ude, .ref ule, .ref udn, .ref uv, .ref ub, .int (qI pl), .long (qL st), .int (qI on), .long (qL cn), .int (qI hd), .long (qL ps), .long (qL ss), .ref ubf, .ref ubh, .long (qL (tk' + 1)), .ref ukp, .ref uwa])), (uop, .inl (G.2.1, 24, .inl (qA k))), (urg, .inl (G.2.1, 24, .inl (qA r))), (ude, .inl (G.2.1, 24, .inl (qA de))), (ule, .inl (G.2.1, 24, .inl (qA le))), (ubf, .inl (G.2.1, 8, .inl (qA bf))), (ubh, .inl (G.2.1, 8, .inl (qA (qU w' (r i) ((w' (r i)) + 1)))))]) rfl ?_
                          refine qv_iinc C 2 d_D_pass_225 rfl (by decide) (lv' := [(5, .int (qI (i + 1))), (4, .int (qI 0)), (6, .int (qI (r i))), (0, .ref u), (1, .int (qI h)), (2, .long (qL s0))]) rfl ?_
                          refine qv_goto C d_D_pass_228 (by decide) (tgt := 75) ?_
                          refine qv_lv (lv' := [(5, .int (qI (i + 1))), (4, .int (qI 0)), (0, .ref u), (1, .int (qI h)), (2, .long (qL s0))]) [0, 1, 3, 4, 5] rfl ?_
                          exact ih75 (i + 1) f' d2 0 (qU w' (r i) ((w' (r i)) + 1)) (qU lo' (r i) (min (lo' (r i)) (w' (r i) + 1))) (qU hi' (r i) (max (hi' (r i)) (w' (r i) + 1))) dr' (tk' + 1) (by omega) (by omega) (by omega) (hl_.trans (m_ls_one ⟨by omega, by omega⟩ (by omega))) (Or.inr ⟨rfl, hfu1.2.1.trans (m_px_oneNo (by omega) (by omega) (by rw [if_pos (by omega)]; exact m_ct_none (S := (w', lo', hi')) (by dsimp only; omega)))⟩) (qU_rg hw1 (by omega)) (fun c h => (qU_n (by omega)).trans (hout c h)) (by omega)
                      · refine qv_iconst C d_D_pass_165 ?_
                        refine qv_goto C d_D_pass_166 (by decide) (tgt := 188) ?_
                        refine qv_istore C d_D_pass_188 (by decide) (lv' := [(4, .int (qI 1)), (6, .int (qI (r i))), (5, .int (qI i)), (0, .ref u), (1, .int (qI h)), (2, .long (qL s0))]) rfl ?_
                        refine qv_aload_n C 3 d_D_pass_190 rfl rfl ?_
                        refine qv_get C in_D 0 rfl rfl 28 (by decide) wf_D_59 rfl rfl d_D_pass_191 ?_
                        refine qv_iload C 1 d_D_pass_194 rfl ?_
                        refine qv_dup2 C d_D_pass_196 rfl rfl ?_
                        refine qv_iald C 6 rfl (by omega) d_D_pass_197 ?_
                        have hq23 := hw1 (r i)
                        refine qv_aload_n C 3 d_D_pass_198 rfl rfl ?_
                        refine qv_get C in_D 0 rfl rfl 12 (by decide) wf_D_28 rfl rfl d_D_pass_199 ?_
                        refine qv_iload C 2 d_D_pass_202 rfl ?_
                        refine qv_iald C 1 rfl (by omega) d_D_pass_204 ?_
                        have hq24 := hk i
                        refine qv_if_ne C d_D_pass_205 (tgt := 212) (by decide) (by omega) (fun ht205 => ?_) (fun hf205 => ?_)
                        · refine qv_iconst C d_D_pass_212 ?_
                          refine qv_iadd C d_D_pass_213 ?_
                          refine qv_iast C 6 rfl (by omega) d_D_pass_214 (ws' := [(u, .inr (5, [.int (qI cd), .int (qI sz), .ref utx, .int (qI cu), .int (qI fa), .int (qI rdn), .ref uro, .ref urc, .ref urn, .ref urp, .ref ula, .int (qI n), .ref uop, .ref urg, .ref utg, .ref ude, .ref ule, .ref udn, .ref uv, .ref ub, .int (qI pl), .long (qL st), .int (qI on), .long (qL cn), .int (qI hd), .long (qL ps), .long (qL ss), .ref ubf, .ref ubh, .long (qL tk'), .ref ukp, .ref uwa])), (uop, .inl (G.2.1, 24, .inl (qA k))), (urg, .inl (G.2.1, 24, .inl (qA r))), (ude, .inl (G.2.1, 24, .inl (qA de))), (ule, .inl (G.2.1, 24, .inl (qA le))), (ubf, .inl (G.2.1, 8, .inl (qA bf))), (ubh, .inl (G.2.1, 8, .inl (qA (qU w' (r i) ((w' (r i)) + (-1))))))]) rfl ?_
                          refine qv_aload_n C 3 d_D_pass_215 rfl rfl ?_
                          refine qv_dup C d_D_pass_216 rfl ?_
                          refine qv_get C in_D 0 rfl rfl 29 (by decide) wf_D_142 rfl rfl d_D_pass_217 ?_
                          refine qv_lconst C (z := 1) d_D_pass_220 (by decide) ?_
                          refine qv_ladd C d_D_pass_221 ?_
                          refine qv_put C in_D 0 rfl rfl 29 (by decide) t_D t_D_ok n_D wf_D_142 rfl rfl (t_D_ok 29 (by decide)) (rfl) (rfl) (Nat.le_of_ble_eq_true rfl) d_D_pass_222 (ws' := [(u, .inr (5, [.int (qI cd), .int (qI sz), .ref utx, .int (qI cu), .int (qI fa), .int (qI rdn), .ref uro, .ref urc, .ref urn, .ref urp, .ref ula, .int (qI n), .ref uop, .ref urg, .ref utg, .ref ude, .ref ule, .ref udn, .ref uv, .ref ub, .int (qI pl), .long (qL st), .int (qI on), .long (qL cn), .int (qI hd), .long (qL ps), .long (qL ss), .ref ubf, .ref ubh, .long (qL (tk' + 1)), .ref ukp, .ref uwa])), (uop, .inl (G.2.1, 24, .inl (qA k))), (urg, .inl (G.2.1, 24, .inl (qA r))), (ude, .inl (G.2.1, 24, .inl (qA de))), (ule, .inl (G.2.1, 24, .inl (qA le))), (ubf, .inl (G.2.1, 8, .inl (qA bf))), (ubh, .inl (G.2.1, 8, .inl (qA (qU w' (r i) ((w' (r i)) + (-1))))))]) rfl ?_
                          refine qv_iinc C 2 d_D_pass_225 rfl (by decide) (lv' := [(5, .int (qI (i + 1))), (4, .int (qI 1)), (6, .int (qI (r i))), (0, .ref u), (1, .int (qI h)), (2, .long (qL s0))]) rfl ?_
                          refine qv_goto C d_D_pass_228 (by decide) (tgt := 75) ?_
                          refine qv_lv (lv' := [(5, .int (qI (i + 1))), (4, .int (qI 1)), (0, .ref u), (1, .int (qI h)), (2, .long (qL s0))]) [0, 1, 3, 4, 5] rfl ?_
                          exact ih75 (i + 1) f' d2 1 (qU w' (r i) ((w' (r i)) + (-1))) (qU lo' (r i) (min (lo' (r i)) (w' (r i) + (-1)))) (qU hi' (r i) (max (hi' (r i)) (w' (r i) + (-1)))) dr' (tk' + 1) (by omega) (by omega) (by omega) (hl_.trans (m_ls_one ⟨by omega, by omega⟩ (by omega))) (Or.inl ⟨rfl, hfu1.2.1.trans (m_px_one (by omega) (by omega) (by rw [if_neg (by omega)]; exact m_ct_val (S := (w', lo', hi')) (by dsimp only; omega))), qU_rg hfu1.2.2 (by omega)⟩) (qU_rg hw1 (by omega)) (fun c h => (qU_n (by omega)).trans (hout c h)) (by omega)
                        · refine qv_iconst C d_D_pass_208 ?_
                          refine qv_goto C d_D_pass_209 (by decide) (tgt := 213) ?_
                          refine qv_iadd C d_D_pass_213 ?_
                          refine qv_iast C 6 rfl (by omega) d_D_pass_214 (ws' := [(u, .inr (5, [.int (qI cd), .int (qI sz), .ref utx, .int (qI cu), .int (qI fa), .int (qI rdn), .ref uro, .ref urc, .ref urn, .ref urp, .ref ula, .int (qI n), .ref uop, .ref urg, .ref utg, .ref ude, .ref ule, .ref udn, .ref uv, .ref ub, .int (qI pl), .long (qL st), .int (qI on), .long (qL cn), .int (qI hd), .long (qL ps), .long (qL ss), .ref ubf, .ref ubh, .long (qL tk'), .ref ukp, .ref uwa])), (uop, .inl (G.2.1, 24, .inl (qA k))), (urg, .inl (G.2.1, 24, .inl (qA r))), (ude, .inl (G.2.1, 24, .inl (qA de))), (ule, .inl (G.2.1, 24, .inl (qA le))), (ubf, .inl (G.2.1, 8, .inl (qA bf))), (ubh, .inl (G.2.1, 8, .inl (qA (qU w' (r i) ((w' (r i)) + 1)))))]) rfl ?_
                          refine qv_aload_n C 3 d_D_pass_215 rfl rfl ?_
                          refine qv_dup C d_D_pass_216 rfl ?_
                          refine qv_get C in_D 0 rfl rfl 29 (by decide) wf_D_142 rfl rfl d_D_pass_217 ?_
                          refine qv_lconst C (z := 1) d_D_pass_220 (by decide) ?_
                          refine qv_ladd C d_D_pass_221 ?_
                          refine qv_put C in_D 0 rfl rfl 29 (by decide) t_D t_D_ok n_D wf_D_142 rfl rfl (t_D_ok 29 (by decide)) (rfl) (rfl) (Nat.le_of_ble_eq_true rfl) d_D_pass_222 (ws' := [(u, .inr (5, [.int (qI cd), .int (qI sz), .ref utx, .int (qI cu), .int (qI fa), .int (qI rdn), .ref uro, .ref urc, .ref urn, .ref urp, .ref ula, .int (qI n), .ref uop, .ref urg, .ref utg, .ref ude, .ref ule, .ref udn, .ref uv, .ref ub, .int (qI pl), .long (qL st), .int (qI on), .long (qL cn), .int (qI hd), .long (qL ps), .long (qL ss), .ref ubf, .ref ubh, .long (qL (tk' + 1)), .ref ukp, .ref uwa])), (uop, .inl (G.2.1, 24, .inl (qA k))), (urg, .inl (G.2.1, 24, .inl (qA r))), (ude, .inl (G.2.1, 24, .inl (qA de))), (ule, .inl (G.2.1, 24, .inl (qA le))), (ubf, .inl (G.2.1, 8, .inl (qA bf))), (ubh, .inl (G.2.1, 8, .inl (qA (qU w' (r i) ((w' (r i)) + 1)))))]) rfl ?_
                          refine qv_iinc C 2 d_D_pass_225 rfl (by decide) (lv' := [(5, .int (qI (i + 1))), (4, .int (qI 1)), (6, .int (qI (r i))), (0, .ref u), (1, .int (qI h)), (2, .long (qL s0))]) rfl ?_
                          refine qv_goto C d_D_pass_228 (by decide) (tgt := 75) ?_
                          refine qv_lv (lv' := [(5, .int (qI (i + 1))), (4, .int (qI 1)), (0, .ref u), (1, .int (qI h)), (2, .long (qL s0))]) [0, 1, 3, 4, 5] rfl ?_
                          exact ih75 (i + 1) f' d2 1 (qU w' (r i) ((w' (r i)) + 1)) (qU lo' (r i) (min (lo' (r i)) (w' (r i) + 1))) (qU hi' (r i) (max (hi' (r i)) (w' (r i) + 1))) dr' (tk' + 1) (by omega) (by omega) (by omega) (hl_.trans (m_ls_one ⟨by omega, by omega⟩ (by omega))) (Or.inl ⟨rfl, hfu1.2.1.trans (m_px_one (by omega) (by omega) (by rw [if_pos (by omega)]; exact m_ct_val (S := (w', lo', hi')) (by dsimp only; omega))), qU_rg hfu1.2.2 (by omega)⟩) (qU_rg hw1 (by omega)) (fun c h => (qU_n (by omega)).trans (hout c h)) (by omega)
                  · have hwr := hfu1.2.2 (r i)
                    have hrj : ∀ j, i ≤ j → j < de i → 0 ≤ r j ∧ r j ≤ 7 := fun j h1 h2 => hr7 j (by omega) (by omega) (by
                      rcases hdei with h | h
                      · omega
                      · by_cases hj : j = i
                        · rw [hj]; exact Or.inr h.2.2.1
                        · exact Or.inl (h.2.2.2.1 j (by omega) (by omega)))
                    refine qv_aload_n C 3 d_D_pass_116 rfl rfl ?_
                    refine qv_iload C 1 d_D_pass_117 rfl ?_
                    refine qv_aload_n C 3 d_D_pass_119 rfl rfl ?_
                    refine qv_get C in_D 0 rfl rfl 28 (by decide) wf_D_59 rfl rfl d_D_pass_120 ?_
                    refine qv_iload C 0 d_D_pass_123 rfl ?_
                    refine qv_iald C 6 rfl (by omega) d_D_pass_125 ?_
                    have hq25 := hw1 (r i)
                    refine qv_cV (As := [.int (qI i), .int (qI (w' (r i)))]) (rest := []) (wc := [(u, .inr (5, [.int (qI cd), .int (qI sz), .ref utx, .int (qI cu), .int (qI fa), .int (qI rdn), .ref uro, .ref urc, .ref urn, .ref urp, .ref ula, .int (qI n), .ref uop, .ref urg, .ref utg, .ref ude, .ref ule, .ref udn, .ref uv, .ref ub, .int (qI pl), .long (qL st), .int (qI on), .long (qL cn), .int (qI hd), .long (qL ps), .long (qL ss), .ref ubf, .ref ubh, .long (qL tk'), .ref ukp, .ref uwa])), (urg, .inl (G.2.1, 24, .inl (qA r))), (ude, .inl (G.2.1, 24, .inl (qA de))), (ubh, .inl (G.2.1, 8, .inl (qA w')))]) (wr := [(uop, .inl (G.2.1, 24, .inl (qA k))), (ule, .inl (G.2.1, 24, .inl (qA le))), (ubf, .inl (G.2.1, 8, .inl (qA bf)))]) C k_D_drained (c_D_drained l G (i0 := i) (x := w' (r i)) (lo := lo') (hi := hi') (by omega) (by omega) hrj hfu1.2.2) wm_D_145 wi_D_drained ws_D_drained 0 rfl rfl (by decide) d_D_pass_126 rfl rfl (Nat.le_of_ble_eq_true rfl) (by decide) [0, 2, 3, 6] [1, 4, 5] rfl (by decide) rfl (by decide) (by decide) (fun v ws' hpost => ?_)
                    obtain ⟨fu2, w2, rfl, rfl, hal, hw2, hout1⟩ := hpost
                    refine qv_eq (ws' := [(uop, .inl (G.2.1, 24, .inl (qA k))), (ule, .inl (G.2.1, 24, .inl (qA le))), (ubf, .inl (G.2.1, 8, .inl (qA bf))), (u, .inr (5, [.int (qI cd), .int (qI sz), .ref utx, .int (qI cu), .int (qI fa), .int (qI rdn), .ref uro, .ref urc, .ref urn, .ref urp, .ref ula, .int (qI n), .ref uop, .ref urg, .ref utg, .ref ude, .ref ule, .ref udn, .ref uv, .ref ub, .int (qI pl), .long (qL st), .int (qI on), .long (qL cn), .int (qI hd), .long (qL ps), .long (qL ss), .ref ubf, .ref ubh, .long (qL (tk' + (w' (r i) * (de i - i + 1) + 1))), .ref ukp, .ref uwa])), (urg, .inl (G.2.1, 24, .inl (qA r))), (ude, .inl (G.2.1, 24, .inl (qA de))), (ubh, .inl (G.2.1, 8, .inl (qA w2)))]) (st' := [.int (qI fu2)]) rfl rfl rfl ?_
                    have hm1 : 0 ≤ w' (r i) * (de i - i + 1) := Int.mul_nonneg (by omega) (by omega)
                    have hm2 : w' (r i) * (de i - i + 1) ≤ 1000000 * 24 := Int.mul_le_mul (by omega) (by omega) (by omega) (by omega)
                    have hout2 : ∀ c : Int, ¬ (0 ≤ c ∧ c < 8) → w2 c = bf c := fun c h => (hout1 c h).trans (hout c h)
                    obtain ⟨S1, hnx⟩ : ∃ S1 : m_S, (fu2 = 1 ∧ m_px k r de h (le h) 24 h (bf, bf, bf) (fun _ => 0) 0 = m_px k r de h (le h) f' (de i + 1) (w2, S1.2.1, S1.2.2) (qU dr' (r i) 1) (tk' + (w' (r i) * (de i - i + 1) + 1)) ∧ (∀ c, 0 ≤ w2 c ∧ w2 c ≤ 1000000)) ∨ (fu2 = 0 ∧ m_px k r de h (le h) 24 h (bf, bf, bf) (fun _ => 0) 0 = none) := by
                      rcases hal with ⟨a1, S1, a2, a3, a4⟩ | ⟨a1, a2⟩
                      · refine ⟨S1, Or.inl ⟨a1, ?_, a4⟩⟩
                        rw [a3]
                        exact hfu1.2.1.trans (m_px_drain (by omega) ⟨by omega, by omega⟩ a2)
                      · exact ⟨(bf, bf, bf), Or.inr ⟨a1, hfu1.2.1.trans (m_px_drainNo (by omega) ⟨by omega, by omega⟩ a2)⟩⟩
                    refine qv_istore C d_D_pass_129 (by decide) (lv' := [(4, .int (qI fu2)), (6, .int (qI (r i))), (5, .int (qI i)), (0, .ref u), (1, .int (qI h)), (2, .long (qL s0))]) rfl ?_
                    refine qv_aload_n C 3 d_D_pass_131 rfl rfl ?_
                    refine qv_get C in_D 3 rfl rfl 15 (by decide) wf_D_37 rfl rfl d_D_pass_132 ?_
                    refine qv_iload C 2 d_D_pass_135 rfl ?_
                    refine qv_iald C 5 rfl (by omega) d_D_pass_137 ?_
                    have hq26 := hdx i
                    refine qv_istore C d_D_pass_138 (by decide) (lv' := [(5, .int (qI (de i))), (4, .int (qI fu2)), (6, .int (qI (r i))), (0, .ref u), (1, .int (qI h)), (2, .long (qL s0))]) rfl ?_
                    refine qv_goto C d_D_pass_140 (by decide) (tgt := 225) ?_
                    refine qv_iinc C 0 d_D_pass_225 rfl (by decide) (lv' := [(5, .int (qI ((de i) + 1))), (4, .int (qI fu2)), (6, .int (qI (r i))), (0, .ref u), (1, .int (qI h)), (2, .long (qL s0))]) rfl ?_
                    refine qv_goto C d_D_pass_228 (by decide) (tgt := 75) ?_
                    refine qv_lv (lv' := [(5, .int (qI ((de i) + 1))), (4, .int (qI fu2)), (0, .ref u), (1, .int (qI h)), (2, .long (qL s0))]) [0, 1, 3, 4, 5] rfl ?_
                    refine qv_ws (ws' := [(u, .inr (5, [.int (qI cd), .int (qI sz), .ref utx, .int (qI cu), .int (qI fa), .int (qI rdn), .ref uro, .ref urc, .ref urn, .ref urp, .ref ula, .int (qI n), .ref uop, .ref urg, .ref utg, .ref ude, .ref ule, .ref udn, .ref uv, .ref ub, .int (qI pl), .long (qL st), .int (qI on), .long (qL cn), .int (qI hd), .long (qL ps), .long (qL ss), .ref ubf, .ref ubh, .long (qL (tk' + (w' (r i) * (de i - i + 1) + 1))), .ref ukp, .ref uwa])), (uop, .inl (G.2.1, 24, .inl (qA k))), (urg, .inl (G.2.1, 24, .inl (qA r))), (ude, .inl (G.2.1, 24, .inl (qA de))), (ule, .inl (G.2.1, 24, .inl (qA le))), (ubf, .inl (G.2.1, 8, .inl (qA bf))), (ubh, .inl (G.2.1, 8, .inl (qA w2)))]) [3, 0, 4, 5, 1, 2, 6] (by decide) rfl ?_
                    exact ih75 ((de i) + 1) f' (d2 + 1) fu2 w2 S1.2.1 S1.2.2 (qU dr' (r i) 1) (tk' + (w' (r i) * (de i - i + 1) + 1)) (by omega) (by omega) (by omega) (hl_.trans (m_ls_drain ⟨by omega, by omega⟩ ⟨by omega, by omega⟩)) (hnx) (hw2) (hout2) (by omega)
        refine qv_eq (ws' := [(u, .inr (5, [.int (qI cd), .int (qI sz), .ref utx, .int (qI cu), .int (qI fa), .int (qI rdn), .ref uro, .ref urc, .ref urn, .ref urp, .ref ula, .int (qI n), .ref uop, .ref urg, .ref utg, .ref ude, .ref ule, .ref udn, .ref uv, .ref ub, .int (qI pl), .long (qL st), .int (qI on), .long (qL cn), .int (qI hd), .long (qL ps), .long (qL ss), .ref ubf, .ref ubh, .long (qL 0), .ref ukp, .ref uwa])), (uop, .inl (G.2.1, 24, .inl (qA k))), (urg, .inl (G.2.1, 24, .inl (qA r))), (ude, .inl (G.2.1, 24, .inl (qA de))), (ule, .inl (G.2.1, 24, .inl (qA le))), (ubf, .inl (G.2.1, 8, .inl (qA bf))), (ubh, .inl (G.2.1, 8, .inl (qA bf)))]) (lv' := [(5, .int (qI h)), (4, .int (qI 1)), (0, .ref u), (1, .int (qI h)), (2, .long (qL s0))]) (by rw [show i = 8 by omega, m_up_all (f := bh) (g := bf) ho]) (rfl) rfl ?_
        exact L75 _ h 24 0 1 bf bf bf (fun _ => 0) 0 (Nat.lt_succ_self _) (by omega) (by omega) (rfl) (Or.inl ⟨rfl, rfl, hbf⟩) (fun c => by have := hbf c; omega) (fun _ _ => rfl) (by omega)
      · refine qv_aload_n C 2 d_D_pass_18 rfl rfl ?_
        refine qv_get C in_D 0 rfl rfl 28 (by decide) wf_D_59 rfl rfl d_D_pass_19 ?_
        refine qv_iload C 0 d_D_pass_22 rfl ?_
        refine qv_aload_n C 2 d_D_pass_24 rfl rfl ?_
        refine qv_get C in_D 0 rfl rfl 27 (by decide) wf_D_56 rfl rfl d_D_pass_25 ?_
        refine qv_iload C 0 d_D_pass_28 rfl ?_
        refine qv_iald C 5 rfl (by omega) d_D_pass_30 ?_
        have hq27 := hbf i
        refine qv_iast C 6 rfl (by omega) d_D_pass_31 (ws' := [(u, .inr (5, [.int (qI cd), .int (qI sz), .ref utx, .int (qI cu), .int (qI fa), .int (qI rdn), .ref uro, .ref urc, .ref urn, .ref urp, .ref ula, .int (qI n), .ref uop, .ref urg, .ref utg, .ref ude, .ref ule, .ref udn, .ref uv, .ref ub, .int (qI pl), .long (qL st), .int (qI on), .long (qL cn), .int (qI hd), .long (qL ps), .long (qL ss), .ref ubf, .ref ubh, .long (qL 0), .ref ukp, .ref uwa])), (uop, .inl (G.2.1, 24, .inl (qA k))), (urg, .inl (G.2.1, 24, .inl (qA r))), (ude, .inl (G.2.1, 24, .inl (qA de))), (ule, .inl (G.2.1, 24, .inl (qA le))), (ubf, .inl (G.2.1, 8, .inl (qA bf))), (ubh, .inl (G.2.1, 8, .inl (qA (qU (m_up bh bf i) i (bf i)))))]) rfl ?_
        refine qv_iload C 1 d_D_pass_32 rfl ?_
        refine qv_if_eq C d_D_pass_34 (tgt := 63) (by decide) (by omega) (fun ht34 => ?_) (fun hf34 => ?_)
        · exfalso; omega
        · refine qv_aload_n C 2 d_D_pass_37 rfl rfl ?_
          refine qv_get C in_D 0 rfl rfl 27 (by decide) wf_D_56 rfl rfl d_D_pass_38 ?_
          refine qv_iload C 0 d_D_pass_41 rfl ?_
          refine qv_iald C 5 rfl (by omega) d_D_pass_43 ?_
          have hq28 := hbf i
          refine qv_if_lt C d_D_pass_44 (tgt := 63) (by decide) (by omega) (fun ht44 => ?_) (fun hf44 => ?_)
          · exfalso; omega
          · refine qv_aload_n C 2 d_D_pass_47 rfl rfl ?_
            refine qv_get C in_D 0 rfl rfl 27 (by decide) wf_D_56 rfl rfl d_D_pass_48 ?_
            refine qv_iload C 0 d_D_pass_51 rfl ?_
            refine qv_iald C 5 rfl (by omega) d_D_pass_53 ?_
            have hq29 := hbf i
            refine qv_ldc C (n := 1000000) wk_D_125 (by decide) d_D_pass_54 ?_
            refine qv_icmp_gt C d_D_pass_56 (tgt := 63) (by decide) (by omega) (by omega) (fun ht56 => ?_) (fun hf56 => ?_)
            · exfalso; omega
            · refine qv_iconst C d_D_pass_59 ?_
              refine qv_goto C d_D_pass_60 (by decide) (tgt := 64) ?_
              refine qv_istore C d_D_pass_64 (by decide) (lv' := [(4, .int (qI 1)), (5, .int (qI i)), (0, .ref u), (1, .int (qI h)), (2, .long (qL s0))]) rfl ?_
              refine qv_iinc C 1 d_D_pass_66 rfl (by decide) (lv' := [(5, .int (qI (i + 1))), (4, .int (qI 1)), (0, .ref u), (1, .int (qI h)), (2, .long (qL s0))]) rfl ?_
              refine qv_goto C d_D_pass_69 (by decide) (tgt := 11) ?_
              refine qv_eq (ws' := [(u, .inr (5, [.int (qI cd), .int (qI sz), .ref utx, .int (qI cu), .int (qI fa), .int (qI rdn), .ref uro, .ref urc, .ref urn, .ref urp, .ref ula, .int (qI n), .ref uop, .ref urg, .ref utg, .ref ude, .ref ule, .ref udn, .ref uv, .ref ub, .int (qI pl), .long (qL st), .int (qI on), .long (qL cn), .int (qI hd), .long (qL ps), .long (qL ss), .ref ubf, .ref ubh, .long (qL 0), .ref ukp, .ref uwa])), (uop, .inl (G.2.1, 24, .inl (qA k))), (urg, .inl (G.2.1, 24, .inl (qA r))), (ude, .inl (G.2.1, 24, .inl (qA de))), (ule, .inl (G.2.1, 24, .inl (qA le))), (ubf, .inl (G.2.1, 8, .inl (qA bf))), (ubh, .inl (G.2.1, 8, .inl (qA (m_up bh bf (i + 1)))))]) (lv' := [(5, .int (qI (i + 1))), (4, .int (qI 1)), (0, .ref u), (1, .int (qI h)), (2, .long (qL s0))]) (by rw [m_up_s hi.1]) (rfl) rfl ?_
              exact ih11 (i + 1) (by omega) (by first | assumption | omega)
  refine qv_eq (ws' := [(u, .inr (5, [.int (qI cd), .int (qI sz), .ref utx, .int (qI cu), .int (qI fa), .int (qI rdn), .ref uro, .ref urc, .ref urn, .ref urp, .ref ula, .int (qI n), .ref uop, .ref urg, .ref utg, .ref ude, .ref ule, .ref udn, .ref uv, .ref ub, .int (qI pl), .long (qL st), .int (qI on), .long (qL cn), .int (qI hd), .long (qL ps), .long (qL ss), .ref ubf, .ref ubh, .long (qL 0), .ref ukp, .ref uwa])), (uop, .inl (G.2.1, 24, .inl (qA k))), (urg, .inl (G.2.1, 24, .inl (qA r))), (ude, .inl (G.2.1, 24, .inl (qA de))), (ule, .inl (G.2.1, 24, .inl (qA le))), (ubf, .inl (G.2.1, 8, .inl (qA bf))), (ubh, .inl (G.2.1, 8, .inl (qA (m_up bh bf 0))))]) (lv' := [(5, .int (qI 0)), (4, .int (qI 1)), (0, .ref u), (1, .int (qI h)), (2, .long (qL s0))]) (by rw [m_up_0]) (rfl) rfl ?_
  exact L11 _ 0 (Nat.lt_succ_self _) (by first | assumption | omega)

set_option maxHeartbeats 4000000 in
set_option maxRecDepth 100000 in
theorem c_P_add (l : Launch) (G : qG) {p pk pr pt pd pb ph pe pg : Nat} {n lc kd ct : Int} {k r t : Int → Int} (hn : 0 ≤ n ∧ n < 24) : qM l G y_P_add b_P_add 3 none ({ frames := 0, cells := 0, slots := 0, locals := 0 }) [.ref p, .int (qI kd), .int (qI ct)] [(p, .inr (2, [.ref pk, .ref pr, .ref pt, .int (qI n), .ref pd, .ref pb, .ref ph, .ref pe, .ref pg, .int (qI lc)])), (pk, .inl (G.2.1, 24, .inl (qA k))), (pr, .inl (G.2.1, 24, .inl (qA r))), (pt, .inl (G.2.1, 24, .inl (qA t)))] (fun v' ws' => v' = none ∧ ws' = [(p, .inr (2, [.ref pk, .ref pr, .ref pt, .int (qI (n + 1)), .ref pd, .ref pb, .ref ph, .ref pe, .ref pg, .int (qI lc)])), (pk, .inl (G.2.1, 24, .inl (qA (qU k n kd)))), (pr, .inl (G.2.1, 24, .inl (qA (qU r n ct)))), (pt, .inl (G.2.1, 24, .inl (qA (qU t n (-1)))))]) := by
  refine qM.of (by decide) (Nat.le_of_ble_eq_true rfl) (fun xp xe xs xm xb xme xc A C hrt hlk hnm => ?_)
  refine qv_eq (lv' := [(0, .ref p), (1, .int (qI kd)), (2, .int (qI ct))]) rfl rfl rfl ?_
  refine qv_aload_n C 0 d_P_add_0 rfl rfl ?_
  refine qv_get C in_P 0 rfl rfl 0 (by decide) wf_P_9 rfl rfl d_P_add_1 ?_
  refine qv_aload_n C 0 d_P_add_4 rfl rfl ?_
  refine qv_get C in_P 0 rfl rfl 3 (by decide) wf_P_36 rfl rfl d_P_add_5 ?_
  refine qv_iload_n C 1 d_P_add_8 rfl rfl ?_
  refine qv_iast C 1 rfl (by omega) d_P_add_9 (ws' := [(p, .inr (2, [.ref pk, .ref pr, .ref pt, .int (qI n), .ref pd, .ref pb, .ref ph, .ref pe, .ref pg, .int (qI lc)])), (pk, .inl (G.2.1, 24, .inl (qA (qU k n kd)))), (pr, .inl (G.2.1, 24, .inl (qA r))), (pt, .inl (G.2.1, 24, .inl (qA t)))]) rfl ?_
  refine qv_aload_n C 0 d_P_add_10 rfl rfl ?_
  refine qv_get C in_P 0 rfl rfl 1 (by decide) wf_P_15 rfl rfl d_P_add_11 ?_
  refine qv_aload_n C 0 d_P_add_14 rfl rfl ?_
  refine qv_get C in_P 0 rfl rfl 3 (by decide) wf_P_36 rfl rfl d_P_add_15 ?_
  refine qv_iload_n C 2 d_P_add_18 rfl rfl ?_
  refine qv_iast C 2 rfl (by omega) d_P_add_19 (ws' := [(p, .inr (2, [.ref pk, .ref pr, .ref pt, .int (qI n), .ref pd, .ref pb, .ref ph, .ref pe, .ref pg, .int (qI lc)])), (pk, .inl (G.2.1, 24, .inl (qA (qU k n kd)))), (pr, .inl (G.2.1, 24, .inl (qA (qU r n ct)))), (pt, .inl (G.2.1, 24, .inl (qA t)))]) rfl ?_
  refine qv_aload_n C 0 d_P_add_20 rfl rfl ?_
  refine qv_get C in_P 0 rfl rfl 2 (by decide) wf_P_18 rfl rfl d_P_add_21 ?_
  refine qv_aload_n C 0 d_P_add_24 rfl rfl ?_
  refine qv_get C in_P 0 rfl rfl 3 (by decide) wf_P_36 rfl rfl d_P_add_25 ?_
  refine qv_iconst C d_P_add_28 ?_
  refine qv_iast C 3 rfl (by omega) d_P_add_29 (ws' := [(p, .inr (2, [.ref pk, .ref pr, .ref pt, .int (qI n), .ref pd, .ref pb, .ref ph, .ref pe, .ref pg, .int (qI lc)])), (pk, .inl (G.2.1, 24, .inl (qA (qU k n kd)))), (pr, .inl (G.2.1, 24, .inl (qA (qU r n ct)))), (pt, .inl (G.2.1, 24, .inl (qA (qU t n (-1)))))]) rfl ?_
  refine qv_aload_n C 0 d_P_add_30 rfl rfl ?_
  refine qv_dup C d_P_add_31 rfl ?_
  refine qv_get C in_P 0 rfl rfl 3 (by decide) wf_P_36 rfl rfl d_P_add_32 ?_
  refine qv_iconst C d_P_add_35 ?_
  refine qv_iadd C d_P_add_36 ?_
  refine qv_put C in_P 0 rfl rfl 3 (by decide) t_P t_P_ok n_P wf_P_36 rfl rfl (t_P_ok 3 (by decide)) (rfl) (rfl) (Nat.le_of_ble_eq_true rfl) d_P_add_37 (ws' := [(p, .inr (2, [.ref pk, .ref pr, .ref pt, .int (qI (n + 1)), .ref pd, .ref pb, .ref ph, .ref pe, .ref pg, .int (qI lc)])), (pk, .inl (G.2.1, 24, .inl (qA (qU k n kd)))), (pr, .inl (G.2.1, 24, .inl (qA (qU r n ct)))), (pt, .inl (G.2.1, 24, .inl (qA (qU t n (-1)))))]) rfl ?_
  refine qv_vret C hrt hlk d_P_add_40 ?_
  exact ⟨rfl, rfl⟩
set_option maxHeartbeats 4000000 in
set_option maxRecDepth 100000 in
theorem c_P_isFull (l : Launch) (G : qG) {p pk pr pt pd pb ph pe pg : Nat} {n lc : Int} (hn : 0 ≤ n ∧ n ≤ 24) : qM l G y_P_isFull b_P_isFull 1 (some .boolean) ({ frames := 0, cells := 0, slots := 0, locals := 0 }) [.ref p] [(p, .inr (2, [.ref pk, .ref pr, .ref pt, .int (qI n), .ref pd, .ref pb, .ref ph, .ref pe, .ref pg, .int (qI lc)]))] (fun v' ws' => ws' = [(p, .inr (2, [.ref pk, .ref pr, .ref pt, .int (qI n), .ref pd, .ref pb, .ref ph, .ref pe, .ref pg, .int (qI lc)]))] ∧ ∃ x : Int, v' = some (.int (qI x)) ∧ ((x = 1 ∧ 24 ≤ n) ∨ (x = 0 ∧ n < 24))) := by
  refine qM.of (by decide) (Nat.le_of_ble_eq_true rfl) (fun xp xe xs xm xb xme xc A C hrt hlk hnm => ?_)
  refine qv_eq (lv' := [(0, .ref p)]) rfl rfl rfl ?_
  refine qv_aload_n C 0 d_P_isFull_0 rfl rfl ?_
  refine qv_get C in_P 0 rfl rfl 3 (by decide) wf_P_36 rfl rfl d_P_isFull_1 ?_
  refine qv_bipush C d_P_isFull_4 (by decide) ?_
  refine qv_icmp_lt C d_P_isFull_6 (tgt := 13) (by decide) (by omega) (by omega) (fun ht6 => ?_) (fun hf6 => ?_)
  · refine qv_iconst C d_P_isFull_13 ?_
    refine qv_zret C (by omega) hrt hlk d_P_isFull_14 ?_
    exact ⟨rfl, 0, rfl, by omega⟩
  · refine qv_iconst C d_P_isFull_9 ?_
    refine qv_goto C d_P_isFull_10 (by decide) (tgt := 14) ?_
    refine qv_zret C (by omega) hrt hlk d_P_isFull_14 ?_
    exact ⟨rfl, 1, rfl, by omega⟩
set_option maxHeartbeats 4000000 in
set_option maxRecDepth 100000 in
theorem c_P_drainEndFrom (l : Launch) (G : qG) {p pk pr pt pd pb ph pe pg : Nat} {n lc i0 : Int} {k r t : Int → Int} (hn : 0 ≤ n ∧ n ≤ 24) (hk : ∀ i, 0 ≤ k i ∧ k i ≤ 3) (hr : ∀ i, -1 ≤ r i ∧ r i ≤ 7) (ht : ∀ i, -1 ≤ t i ∧ t i ≤ 24) (hi0 : 0 ≤ i0 ∧ i0 < n) : qM l G y_P_drainEndFrom b_P_drainEndFrom 4 (some .int) ({ frames := 0, cells := 0, slots := 0, locals := 0 }) [.ref p, .int (qI i0)] [(p, .inr (2, [.ref pk, .ref pr, .ref pt, .int (qI n), .ref pd, .ref pb, .ref ph, .ref pe, .ref pg, .int (qI lc)])), (pk, .inl (G.2.1, 24, .inl (qA k))), (pr, .inl (G.2.1, 24, .inl (qA r))), (pt, .inl (G.2.1, 24, .inl (qA t)))] (fun v' ws' => v' = some (.int (qI (m_de n k r t i0))) ∧ ws' = [(p, .inr (2, [.ref pk, .ref pr, .ref pt, .int (qI n), .ref pd, .ref pb, .ref ph, .ref pe, .ref pg, .int (qI lc)])), (pk, .inl (G.2.1, 24, .inl (qA k))), (pr, .inl (G.2.1, 24, .inl (qA r))), (pt, .inl (G.2.1, 24, .inl (qA t)))]) := by
  refine qM.of (by decide) (Nat.le_of_ble_eq_true rfl) (fun xp xe xs xm xb xme xc A C hrt hlk hnm => ?_)
  refine qv_eq (lv' := [(0, .ref p), (1, .int (qI i0))]) rfl rfl rfl ?_
  refine qv_aload_n C 0 d_P_drainEndFrom_0 rfl rfl ?_
  refine qv_get C in_P 0 rfl rfl 0 (by decide) wf_P_9 rfl rfl d_P_drainEndFrom_1 ?_
  refine qv_iload_n C 1 d_P_drainEndFrom_4 rfl rfl ?_
  refine qv_iald C 1 rfl (by omega) d_P_drainEndFrom_5 ?_
  have hq0 := hk i0
  refine qv_iconst C d_P_drainEndFrom_6 ?_
  refine qv_icmp_eq C d_P_drainEndFrom_7 (tgt := 12) (by decide) (by omega) (by omega) (fun ht7 => ?_) (fun hf7 => ?_)
  · refine qv_iload_n C 1 d_P_drainEndFrom_12 rfl rfl ?_
    refine qv_iconst C d_P_drainEndFrom_13 ?_
    refine qv_iadd C d_P_drainEndFrom_14 ?_
    refine qv_istore_n C d_P_drainEndFrom_15 rfl (by decide) (lv' := [(2, .int (qI (i0 + 1))), (0, .ref p), (1, .int (qI i0))]) rfl ?_
    have J54 : ∀ (i : Int), (i0 + 1 ≤ i ∧ i ≤ n) → (m_sc n k r (r i0) 24 (i0 + 1) = i) → qV xp l xe ({ frames := 0, cells := 0, slots := 0, locals := 0 }) xs xm [.ref p, .int (qI i0)].toArray xb xme xc G A xs.heap 4 (MQ xb (qQ G A (fun v' ws' => v' = some (.int (qI (m_de n k r t i0))) ∧ ws' = [(p, .inr (2, [.ref pk, .ref pr, .ref pt, .int (qI n), .ref pd, .ref pb, .ref ph, .ref pe, .ref pg, .int (qI lc)])), (pk, .inl (G.2.1, 24, .inl (qA k))), (pr, .inl (G.2.1, 24, .inl (qA r))), (pt, .inl (G.2.1, 24, .inl (qA t)))])) [.ref p, .int (qI i0)].toArray xs 0 0 A) 0 0 [(p, .inr (2, [.ref pk, .ref pr, .ref pt, .int (qI n), .ref pd, .ref pb, .ref ph, .ref pe, .ref pg, .int (qI lc)])), (pk, .inl (G.2.1, 24, .inl (qA k))), (pr, .inl (G.2.1, 24, .inl (qA r))), (pt, .inl (G.2.1, 24, .inl (qA t)))] [(2, .int (qI i)), (0, .ref p), (1, .int (qI i0))] 54 [] := by
      intro i hi he
      refine qv_iload_n C 0 d_P_drainEndFrom_54 rfl rfl ?_
      refine qv_aload_n C 1 d_P_drainEndFrom_55 rfl rfl ?_
      refine qv_get C in_P 0 rfl rfl 3 (by decide) wf_P_36 rfl rfl d_P_drainEndFrom_56 ?_
      refine qv_icmp_ge C d_P_drainEndFrom_59 (tgt := 86) (by decide) (by omega) (by omega) (fun ht59 => ?_) (fun hf59 => ?_)
      · refine qv_iconst C d_P_drainEndFrom_86 ?_
        refine qv_istore_n C d_P_drainEndFrom_87 rfl (by decide) (lv' := [(3, .int (qI 0)), (2, .int (qI i)), (0, .ref p), (1, .int (qI i0))]) rfl ?_
        refine qv_iload_n C 0 d_P_drainEndFrom_88 rfl rfl ?_
        refine qv_if_eq C d_P_drainEndFrom_89 (tgt := 108) (by decide) (by omega) (fun ht89 => ?_) (fun hf89 => ?_)
        · refine qv_iconst C d_P_drainEndFrom_108 ?_
          refine qv_iret C hrt hlk d_P_drainEndFrom_109 ?_
          refine ⟨?_, rfl⟩
          rw [show m_de n k r t i0 = -1 by unfold m_de; rw [he]; exact if_neg (by omega)]
        · exfalso; omega
      · refine qv_aload_n C 1 d_P_drainEndFrom_62 rfl rfl ?_
        refine qv_get C in_P 0 rfl rfl 0 (by decide) wf_P_9 rfl rfl d_P_drainEndFrom_63 ?_
        refine qv_iload_n C 0 d_P_drainEndFrom_66 rfl rfl ?_
        refine qv_iald C 1 rfl (by omega) d_P_drainEndFrom_67 ?_
        have hq1 := hk i
        refine qv_iconst C d_P_drainEndFrom_68 ?_
        refine qv_icmp_ne C d_P_drainEndFrom_69 (tgt := 86) (by decide) (by omega) (by omega) (fun ht69 => ?_) (fun hf69 => ?_)
        · refine qv_iconst C d_P_drainEndFrom_86 ?_
          refine qv_istore_n C d_P_drainEndFrom_87 rfl (by decide) (lv' := [(3, .int (qI 0)), (2, .int (qI i)), (0, .ref p), (1, .int (qI i0))]) rfl ?_
          refine qv_iload_n C 0 d_P_drainEndFrom_88 rfl rfl ?_
          refine qv_if_eq C d_P_drainEndFrom_89 (tgt := 108) (by decide) (by omega) (fun ht89 => ?_) (fun hf89 => ?_)
          · refine qv_iconst C d_P_drainEndFrom_108 ?_
            refine qv_iret C hrt hlk d_P_drainEndFrom_109 ?_
            refine ⟨?_, rfl⟩
            rw [show m_de n k r t i0 = -1 by unfold m_de; rw [he]; exact if_neg (by omega)]
          · exfalso; omega
        · refine qv_aload_n C 1 d_P_drainEndFrom_72 rfl rfl ?_
          refine qv_get C in_P 0 rfl rfl 2 (by decide) wf_P_18 rfl rfl d_P_drainEndFrom_73 ?_
          refine qv_iload_n C 0 d_P_drainEndFrom_76 rfl rfl ?_
          refine qv_iald C 3 rfl (by omega) d_P_drainEndFrom_77 ?_
          have hq2 := ht i
          refine qv_iload_n C 2 d_P_drainEndFrom_78 rfl rfl ?_
          refine qv_icmp_ne C d_P_drainEndFrom_79 (tgt := 86) (by decide) (by omega) (by omega) (fun ht79 => ?_) (fun hf79 => ?_)
          · refine qv_iconst C d_P_drainEndFrom_86 ?_
            refine qv_istore_n C d_P_drainEndFrom_87 rfl (by decide) (lv' := [(3, .int (qI 0)), (2, .int (qI i)), (0, .ref p), (1, .int (qI i0))]) rfl ?_
            refine qv_iload_n C 0 d_P_drainEndFrom_88 rfl rfl ?_
            refine qv_if_eq C d_P_drainEndFrom_89 (tgt := 108) (by decide) (by omega) (fun ht89 => ?_) (fun hf89 => ?_)
            · refine qv_iconst C d_P_drainEndFrom_108 ?_
              refine qv_iret C hrt hlk d_P_drainEndFrom_109 ?_
              refine ⟨?_, rfl⟩
              rw [show m_de n k r t i0 = -1 by unfold m_de; rw [he]; exact if_neg (by omega)]
            · exfalso; omega
          · refine qv_iconst C d_P_drainEndFrom_82 ?_
            refine qv_goto C d_P_drainEndFrom_83 (by decide) (tgt := 87) ?_
            refine qv_istore_n C d_P_drainEndFrom_87 rfl (by decide) (lv' := [(3, .int (qI 1)), (2, .int (qI i)), (0, .ref p), (1, .int (qI i0))]) rfl ?_
            refine qv_iload_n C 0 d_P_drainEndFrom_88 rfl rfl ?_
            refine qv_if_eq C d_P_drainEndFrom_89 (tgt := 108) (by decide) (by omega) (fun ht89 => ?_) (fun hf89 => ?_)
            · exfalso; omega
            · refine qv_aload_n C 2 d_P_drainEndFrom_92 rfl rfl ?_
              refine qv_get C in_P 0 rfl rfl 2 (by decide) wf_P_18 rfl rfl d_P_drainEndFrom_93 ?_
              refine qv_iload_n C 3 d_P_drainEndFrom_96 rfl rfl ?_
              refine qv_iald C 3 rfl (by omega) d_P_drainEndFrom_97 ?_
              have hq3 := ht i0
              refine qv_iload_n C 1 d_P_drainEndFrom_98 rfl rfl ?_
              refine qv_iconst C d_P_drainEndFrom_99 ?_
              refine qv_iadd C d_P_drainEndFrom_100 ?_
              refine qv_icmp_ne C d_P_drainEndFrom_101 (tgt := 108) (by decide) (by omega) (by omega) (fun ht101 => ?_) (fun hf101 => ?_)
              · refine qv_iconst C d_P_drainEndFrom_108 ?_
                refine qv_iret C hrt hlk d_P_drainEndFrom_109 ?_
                refine ⟨?_, rfl⟩
                rw [show m_de n k r t i0 = -1 by unfold m_de; rw [he]; exact if_neg (by omega)]
              · refine qv_iload_n C 1 d_P_drainEndFrom_104 rfl rfl ?_
                refine qv_goto C d_P_drainEndFrom_105 (by decide) (tgt := 109) ?_
                refine qv_iret C hrt hlk d_P_drainEndFrom_109 ?_
                refine ⟨?_, rfl⟩
                rw [show m_de n k r t i0 = i by unfold m_de; rw [he]; exact if_pos (by omega)]
    have L16 : ∀ (N16 : Nat) (i : Int) (f : Nat), (n - i).toNat < N16 → (i0 + 1 ≤ i ∧ i ≤ n) → (m_sc n k r (r i0) 24 (i0 + 1) = m_sc n k r (r i0) f i) → (n - i ≤ (f : Int)) → qV xp l xe ({ frames := 0, cells := 0, slots := 0, locals := 0 }) xs xm [.ref p, .int (qI i0)].toArray xb xme xc G A xs.heap 4 (MQ xb (qQ G A (fun v' ws' => v' = some (.int (qI (m_de n k r t i0))) ∧ ws' = [(p, .inr (2, [.ref pk, .ref pr, .ref pt, .int (qI n), .ref pd, .ref pb, .ref ph, .ref pe, .ref pg, .int (qI lc)])), (pk, .inl (G.2.1, 24, .inl (qA k))), (pr, .inl (G.2.1, 24, .inl (qA r))), (pt, .inl (G.2.1, 24, .inl (qA t)))])) [.ref p, .int (qI i0)].toArray xs 0 0 A) 0 0 [(p, .inr (2, [.ref pk, .ref pr, .ref pt, .int (qI n), .ref pd, .ref pb, .ref ph, .ref pe, .ref pg, .int (qI lc)])), (pk, .inl (G.2.1, 24, .inl (qA k))), (pr, .inl (G.2.1, 24, .inl (qA r))), (pt, .inl (G.2.1, 24, .inl (qA t)))] [(2, .int (qI i)), (0, .ref p), (1, .int (qI i0))] 16 [] := by
      intro N16
      induction N16 with
      | zero => intro i f hmu; exact absurd hmu (Nat.not_lt_zero _)
      | succ N16 ih16 =>
        intro i f hmu16 hi hf hg
        refine qv_iload_n C 0 d_P_drainEndFrom_16 rfl rfl ?_
        refine qv_aload_n C 1 d_P_drainEndFrom_17 rfl rfl ?_
        refine qv_get C in_P 0 rfl rfl 3 (by decide) wf_P_36 rfl rfl d_P_drainEndFrom_18 ?_
        refine qv_icmp_ge C d_P_drainEndFrom_21 (tgt := 54) (by decide) (by omega) (by omega) (fun ht21 => ?_) (fun hf21 => ?_)
        · exact J54 i (by first | assumption | omega) (hf.trans (m_sc_stop (by omega)))
        · refine qv_aload_n C 1 d_P_drainEndFrom_24 rfl rfl ?_
          refine qv_get C in_P 0 rfl rfl 0 (by decide) wf_P_9 rfl rfl d_P_drainEndFrom_25 ?_
          refine qv_iload_n C 0 d_P_drainEndFrom_28 rfl rfl ?_
          refine qv_iald C 1 rfl (by omega) d_P_drainEndFrom_29 ?_
          have hq4 := hk i
          refine qv_if_ne C d_P_drainEndFrom_30 (tgt := 54) (by decide) (by omega) (fun ht30 => ?_) (fun hf30 => ?_)
          · exact J54 i (by first | assumption | omega) (hf.trans (m_sc_stop (by omega)))
          · refine qv_aload_n C 1 d_P_drainEndFrom_33 rfl rfl ?_
            refine qv_get C in_P 0 rfl rfl 1 (by decide) wf_P_15 rfl rfl d_P_drainEndFrom_34 ?_
            refine qv_iload_n C 0 d_P_drainEndFrom_37 rfl rfl ?_
            refine qv_iald C 2 rfl (by omega) d_P_drainEndFrom_38 ?_
            have hq5 := hr i
            refine qv_aload_n C 1 d_P_drainEndFrom_39 rfl rfl ?_
            refine qv_get C in_P 0 rfl rfl 1 (by decide) wf_P_15 rfl rfl d_P_drainEndFrom_40 ?_
            refine qv_iload_n C 2 d_P_drainEndFrom_43 rfl rfl ?_
            refine qv_iald C 2 rfl (by omega) d_P_drainEndFrom_44 ?_
            have hq6 := hr i0
            refine qv_icmp_eq C d_P_drainEndFrom_45 (tgt := 54) (by decide) (by omega) (by omega) (fun ht45 => ?_) (fun hf45 => ?_)
            · exact J54 i (by first | assumption | omega) (hf.trans (m_sc_stop (by omega)))
            · obtain ⟨f', rfl⟩ : ∃ f', f = f' + 1 := ⟨f - 1, by omega⟩
              refine qv_iinc C 0 d_P_drainEndFrom_48 rfl (by decide) (lv' := [(2, .int (qI (i + 1))), (0, .ref p), (1, .int (qI i0))]) rfl ?_
              refine qv_goto C d_P_drainEndFrom_51 (by decide) (tgt := 16) ?_
              exact ih16 (i + 1) f' (by omega) (by omega) (hf.trans (m_sc_go ⟨by omega, by omega, by omega⟩)) (by omega)
    exact L16 _ (i0 + 1) 24 (Nat.lt_succ_self _) (by first | assumption | omega) (rfl) (by omega)
  · refine qv_iconst C d_P_drainEndFrom_10 ?_
    refine qv_iret C hrt hlk d_P_drainEndFrom_11 ?_
    refine ⟨?_, rfl⟩
    rw [show m_de n k r t i0 = -1 by unfold m_de; exact if_neg (by omega)]
set_option maxHeartbeats 4000000 in
set_option maxRecDepth 100000 in
theorem c_P_findDrains (l : Launch) (G : qG) {p pk pr pt pd pb ph pe pg : Nat} {n lc : Int} {k r t de : Int → Int} (hn : 0 ≤ n ∧ n ≤ 24) (hk : ∀ i, 0 ≤ k i ∧ k i ≤ 3) (hr : ∀ i, -1 ≤ r i ∧ r i ≤ 7) (ht : ∀ i, -1 ≤ t i ∧ t i ≤ 24) : qM l G y_P_findDrains b_P_findDrains 2 none ({ frames := 1, cells := 0, slots := 0, locals := 23 }) [.ref p] [(p, .inr (2, [.ref pk, .ref pr, .ref pt, .int (qI n), .ref pd, .ref pb, .ref ph, .ref pe, .ref pg, .int (qI lc)])), (pk, .inl (G.2.1, 24, .inl (qA k))), (pr, .inl (G.2.1, 24, .inl (qA r))), (pt, .inl (G.2.1, 24, .inl (qA t))), (pd, .inl (G.2.1, 24, .inl (qA de)))] (fun v' ws' => v' = none ∧ ws' = [(p, .inr (2, [.ref pk, .ref pr, .ref pt, .int (qI n), .ref pd, .ref pb, .ref ph, .ref pe, .ref pg, .int (qI lc)])), (pk, .inl (G.2.1, 24, .inl (qA k))), (pr, .inl (G.2.1, 24, .inl (qA r))), (pt, .inl (G.2.1, 24, .inl (qA t))), (pd, .inl (G.2.1, 24, .inl (qA (m_up de (m_de n k r t) n))))]) := by
  refine qM.of (by decide) (Nat.le_of_ble_eq_true rfl) (fun xp xe xs xm xb xme xc A C hrt hlk hnm => ?_)
  refine qv_eq (lv' := [(0, .ref p)]) rfl rfl rfl ?_
  refine qv_iconst C d_P_findDrains_0 ?_
  refine qv_istore_n C d_P_findDrains_1 rfl (by decide) (lv' := [(1, .int (qI 0)), (0, .ref p)]) rfl ?_
  have L2 : ∀ (N2 : Nat) (i : Int), (n - i).toNat < N2 → (0 ≤ i ∧ i ≤ n) → qV xp l xe ({ frames := 1, cells := 0, slots := 0, locals := 23 }) xs xm [.ref p].toArray xb xme xc G A xs.heap 2 (MQ xb (qQ G A (fun v' ws' => v' = none ∧ ws' = [(p, .inr (2, [.ref pk, .ref pr, .ref pt, .int (qI n), .ref pd, .ref pb, .ref ph, .ref pe, .ref pg, .int (qI lc)])), (pk, .inl (G.2.1, 24, .inl (qA k))), (pr, .inl (G.2.1, 24, .inl (qA r))), (pt, .inl (G.2.1, 24, .inl (qA t))), (pd, .inl (G.2.1, 24, .inl (qA (m_up de (m_de n k r t) n))))])) [.ref p].toArray xs 0 0 A) 0 0 [(p, .inr (2, [.ref pk, .ref pr, .ref pt, .int (qI n), .ref pd, .ref pb, .ref ph, .ref pe, .ref pg, .int (qI lc)])), (pk, .inl (G.2.1, 24, .inl (qA k))), (pr, .inl (G.2.1, 24, .inl (qA r))), (pt, .inl (G.2.1, 24, .inl (qA t))), (pd, .inl (G.2.1, 24, .inl (qA (m_up de (m_de n k r t) i))))] [(1, .int (qI i)), (0, .ref p)] 2 [] := by
    intro N2
    induction N2 with
    | zero => intro i hmu; exact absurd hmu (Nat.not_lt_zero _)
    | succ N2 ih2 =>
      intro i hmu2 hi
      refine qv_iload_n C 0 d_P_findDrains_2 rfl rfl ?_
      refine qv_aload_n C 1 d_P_findDrains_3 rfl rfl ?_
      refine qv_get C in_P 0 rfl rfl 3 (by decide) wf_P_36 rfl rfl d_P_findDrains_4 ?_
      refine qv_icmp_ge C d_P_findDrains_7 (tgt := 27) (by decide) (by omega) (by omega) (fun ht7 => ?_) (fun hf7 => ?_)
      · refine qv_vret C hrt hlk d_P_findDrains_27 ?_
        obtain rfl : i = n := by omega
        exact ⟨rfl, rfl⟩
      · refine qv_aload_n C 1 d_P_findDrains_10 rfl rfl ?_
        refine qv_get C in_P 0 rfl rfl 4 (by decide) wf_P_21 rfl rfl d_P_findDrains_11 ?_
        refine qv_iload_n C 0 d_P_findDrains_14 rfl rfl ?_
        refine qv_aload_n C 1 d_P_findDrains_15 rfl rfl ?_
        refine qv_iload_n C 0 d_P_findDrains_16 rfl rfl ?_
        refine qv_cV (As := [.int (qI i)]) (rest := [.int (qI i), .ref pd]) (wc := [(p, .inr (2, [.ref pk, .ref pr, .ref pt, .int (qI n), .ref pd, .ref pb, .ref ph, .ref pe, .ref pg, .int (qI lc)])), (pk, .inl (G.2.1, 24, .inl (qA k))), (pr, .inl (G.2.1, 24, .inl (qA r))), (pt, .inl (G.2.1, 24, .inl (qA t)))]) (wr := [(pd, .inl (G.2.1, 24, .inl (qA (m_up de (m_de n k r t) i))))]) C k_P_drainEndFrom (c_P_drainEndFrom l G hn hk hr ht (i0 := i) (by omega)) wm_P_40 wi_P_drainEndFrom ws_P_drainEndFrom 0 rfl rfl (by decide) d_P_findDrains_17 rfl rfl (Nat.le_of_ble_eq_true rfl) (by decide) [0, 1, 2, 3] [4] rfl (by decide) rfl (by decide) (by decide) (fun v ws' hpost => ?_)
        obtain ⟨rfl, rfl⟩ := hpost
        refine qv_eq (ws' := [(pd, .inl (G.2.1, 24, .inl (qA (m_up de (m_de n k r t) i)))), (p, .inr (2, [.ref pk, .ref pr, .ref pt, .int (qI n), .ref pd, .ref pb, .ref ph, .ref pe, .ref pg, .int (qI lc)])), (pk, .inl (G.2.1, 24, .inl (qA k))), (pr, .inl (G.2.1, 24, .inl (qA r))), (pt, .inl (G.2.1, 24, .inl (qA t)))]) (st' := [.int (qI (m_de n k r t i)), .int (qI i), .ref pd]) rfl rfl rfl ?_
        refine qv_iast C 0 rfl (by omega) d_P_findDrains_20 (ws' := [(pd, .inl (G.2.1, 24, .inl (qA (qU (m_up de (m_de n k r t) i) i (m_de n k r t i))))), (p, .inr (2, [.ref pk, .ref pr, .ref pt, .int (qI n), .ref pd, .ref pb, .ref ph, .ref pe, .ref pg, .int (qI lc)])), (pk, .inl (G.2.1, 24, .inl (qA k))), (pr, .inl (G.2.1, 24, .inl (qA r))), (pt, .inl (G.2.1, 24, .inl (qA t)))]) rfl ?_
        refine qv_iinc C 0 d_P_findDrains_21 rfl (by decide) (lv' := [(1, .int (qI (i + 1))), (0, .ref p)]) rfl ?_
        refine qv_goto C d_P_findDrains_24 (by decide) (tgt := 2) ?_
        refine qv_ws (ws' := [(p, .inr (2, [.ref pk, .ref pr, .ref pt, .int (qI n), .ref pd, .ref pb, .ref ph, .ref pe, .ref pg, .int (qI lc)])), (pk, .inl (G.2.1, 24, .inl (qA k))), (pr, .inl (G.2.1, 24, .inl (qA r))), (pt, .inl (G.2.1, 24, .inl (qA t))), (pd, .inl (G.2.1, 24, .inl (qA (qU (m_up de (m_de n k r t) i) i (m_de n k r t i)))))]) [1, 2, 3, 4, 0] (by decide) rfl ?_
        refine qv_eq (ws' := [(p, .inr (2, [.ref pk, .ref pr, .ref pt, .int (qI n), .ref pd, .ref pb, .ref ph, .ref pe, .ref pg, .int (qI lc)])), (pk, .inl (G.2.1, 24, .inl (qA k))), (pr, .inl (G.2.1, 24, .inl (qA r))), (pt, .inl (G.2.1, 24, .inl (qA t))), (pd, .inl (G.2.1, 24, .inl (qA (m_up de (m_de n k r t) (i + 1)))))]) (lv' := [(1, .int (qI (i + 1))), (0, .ref p)]) (by rw [m_up_s hi.1]) (rfl) rfl ?_
        exact ih2 (i + 1) (by omega) (by first | assumption | omega)
  refine qv_eq (ws' := [(p, .inr (2, [.ref pk, .ref pr, .ref pt, .int (qI n), .ref pd, .ref pb, .ref ph, .ref pe, .ref pg, .int (qI lc)])), (pk, .inl (G.2.1, 24, .inl (qA k))), (pr, .inl (G.2.1, 24, .inl (qA r))), (pt, .inl (G.2.1, 24, .inl (qA t))), (pd, .inl (G.2.1, 24, .inl (qA (m_up de (m_de n k r t) 0))))]) (lv' := [(1, .int (qI 0)), (0, .ref p)]) (by rw [m_up_0]) (rfl) rfl ?_
  exact L2 _ 0 (Nat.lt_succ_self _) (by first | assumption | omega)
set_option maxHeartbeats 4000000 in
set_option maxRecDepth 100000 in
theorem c_P_drainInLoop (l : Launch) (G : qG) {p pk pr pt pd pb ph pe pg : Nat} {n lc h i : Int} {de : Int → Int} (hh : 0 ≤ h ∧ h < 24) (hi : 0 ≤ i ∧ i < 24) (hd : ∀ i, -1 ≤ de i ∧ de i ≤ 24) : qM l G y_P_drainInLoop b_P_drainInLoop 3 (some .int) ({ frames := 0, cells := 0, slots := 0, locals := 0 }) [.ref p, .int (qI h), .int (qI i)] [(p, .inr (2, [.ref pk, .ref pr, .ref pt, .int (qI n), .ref pd, .ref pb, .ref ph, .ref pe, .ref pg, .int (qI lc)])), (pd, .inl (G.2.1, 24, .inl (qA de)))] (fun v' ws' => ws' = [(p, .inr (2, [.ref pk, .ref pr, .ref pt, .int (qI n), .ref pd, .ref pb, .ref ph, .ref pe, .ref pg, .int (qI lc)])), (pd, .inl (G.2.1, 24, .inl (qA de)))] ∧ ∃ x : Int, v' = some (.int (qI x)) ∧ ((i = h ∧ x = -1) ∨ (¬ i = h ∧ x = de i))) := by
  refine qM.of (by decide) (Nat.le_of_ble_eq_true rfl) (fun xp xe xs xm xb xme xc A C hrt hlk hnm => ?_)
  refine qv_eq (lv' := [(0, .ref p), (1, .int (qI h)), (2, .int (qI i))]) rfl rfl rfl ?_
  refine qv_iload_n C 2 d_P_drainInLoop_0 rfl rfl ?_
  refine qv_iload_n C 1 d_P_drainInLoop_1 rfl rfl ?_
  refine qv_icmp_ne C d_P_drainInLoop_2 (tgt := 9) (by decide) (by omega) (by omega) (fun ht2 => ?_) (fun hf2 => ?_)
  · refine qv_aload_n C 0 d_P_drainInLoop_9 rfl rfl ?_
    refine qv_get C in_P 0 rfl rfl 4 (by decide) wf_P_21 rfl rfl d_P_drainInLoop_10 ?_
    refine qv_iload_n C 2 d_P_drainInLoop_13 rfl rfl ?_
    refine qv_iald C 1 rfl (by omega) d_P_drainInLoop_14 ?_
    have hq0 := hd i
    refine qv_iret C hrt hlk d_P_drainInLoop_15 ?_
    exact ⟨rfl, de i, rfl, by omega⟩
  · refine qv_iconst C d_P_drainInLoop_5 ?_
    refine qv_goto C d_P_drainInLoop_6 (by decide) (tgt := 15) ?_
    refine qv_iret C hrt hlk d_P_drainInLoop_15 ?_
    exact ⟨rfl, (-1), rfl, by omega⟩
set_option maxHeartbeats 4000000 in
set_option maxRecDepth 100000 in
theorem c_P_loopFrom (l : Launch) (G : qG) {p pk pr pt pd pb ph pe pg : Nat} {n lc pl : Int} {lb : Int → Int} (hn : 0 ≤ n ∧ n ≤ 24) (hp : -2147483648 ≤ pl ∧ pl ≤ 2147483647) : qM l G y_P_loopFrom b_P_loopFrom 2 (some .int) ({ frames := 0, cells := 0, slots := 0, locals := 0 }) [.ref p, .int (qI pl)] [(p, .inr (2, [.ref pk, .ref pr, .ref pt, .int (qI n), .ref pd, .ref pb, .ref ph, .ref pe, .ref pg, .int (qI lc)])), (pb, .inl (G.2.1, 24, .inl (qA lb)))] (fun v' ws' => ws' = [(p, .inr (2, [.ref pk, .ref pr, .ref pt, .int (qI n), .ref pd, .ref pb, .ref ph, .ref pe, .ref pg, .int (qI lc)])), (pb, .inl (G.2.1, 24, .inl (qA lb)))] ∧ ∃ x : Int, v' = some (.int (qI x)) ∧ ((¬ (0 ≤ pl ∧ pl < n) ∧ x = -1) ∨ ((0 ≤ pl ∧ pl < n) ∧ x = lb pl))) := by
  refine qM.of (by decide) (Nat.le_of_ble_eq_true rfl) (fun xp xe xs xm xb xme xc A C hrt hlk hnm => ?_)
  refine qv_eq (lv' := [(0, .ref p), (1, .int (qI pl))]) rfl rfl rfl ?_
  refine qv_iload_n C 1 d_P_loopFrom_0 rfl rfl ?_
  refine qv_if_lt C d_P_loopFrom_1 (tgt := 12) (by decide) (by omega) (fun ht1 => ?_) (fun hf1 => ?_)
  · refine qv_iconst C d_P_loopFrom_12 ?_
    refine qv_goto C d_P_loopFrom_13 (by decide) (tgt := 22) ?_
    refine qv_iret C hrt hlk d_P_loopFrom_22 ?_
    exact ⟨rfl, (-1), rfl, by omega⟩
  · refine qv_iload_n C 1 d_P_loopFrom_4 rfl rfl ?_
    refine qv_aload_n C 0 d_P_loopFrom_5 rfl rfl ?_
    refine qv_get C in_P 0 rfl rfl 3 (by decide) wf_P_36 rfl rfl d_P_loopFrom_6 ?_
    refine qv_icmp_lt C d_P_loopFrom_9 (tgt := 16) (by decide) (by omega) (by omega) (fun ht9 => ?_) (fun hf9 => ?_)
    · refine qv_aload_n C 0 d_P_loopFrom_16 rfl rfl ?_
      refine qv_get C in_P 0 rfl rfl 5 (by decide) wf_P_24 rfl rfl d_P_loopFrom_17 ?_
      refine qv_iload_n C 1 d_P_loopFrom_20 rfl rfl ?_
      refine qv_iald C 1 rfl (by omega) d_P_loopFrom_21 ?_
      refine qv_iret C hrt hlk d_P_loopFrom_22 ?_
      exact ⟨rfl, lb pl, rfl, by omega⟩
    · refine qv_iconst C d_P_loopFrom_12 ?_
      refine qv_goto C d_P_loopFrom_13 (by decide) (tgt := 22) ?_
      refine qv_iret C hrt hlk d_P_loopFrom_22 ?_
      exact ⟨rfl, (-1), rfl, by omega⟩
set_option maxHeartbeats 4000000 in
set_option maxRecDepth 100000 in
theorem c_P_addLoopFrom (l : Launch) (G : qG) {p pk pr pt pd pb ph pe pg : Nat} {n lc h : Int} {k t de lb lh le ld : Int → Int} (hn : 0 ≤ n ∧ n ≤ 24) (hk : ∀ i, 0 ≤ k i ∧ k i ≤ 3) (ht : ∀ i, -1 ≤ t i ∧ t i ≤ 24) (hd : ∀ i, -1 ≤ de i ∧ de i ≤ 24) (hde : ∀ i, 0 ≤ i → i < n → de i = -1 ∨ (i < de i ∧ de i < n)) (hh : 0 ≤ h ∧ h < n) (hlc : 0 ≤ lc ∧ lc ≤ h) : qM l G y_P_addLoopFrom b_P_addLoopFrom 5 none ({ frames := 1, cells := 0, slots := 0, locals := 40 }) [.ref p, .int (qI h)] [(p, .inr (2, [.ref pk, .ref pr, .ref pt, .int (qI n), .ref pd, .ref pb, .ref ph, .ref pe, .ref pg, .int (qI lc)])), (pk, .inl (G.2.1, 24, .inl (qA k))), (pt, .inl (G.2.1, 24, .inl (qA t))), (pd, .inl (G.2.1, 24, .inl (qA de))), (pb, .inl (G.2.1, 24, .inl (qA lb))), (ph, .inl (G.2.1, 24, .inl (qA lh))), (pe, .inl (G.2.1, 24, .inl (qA le))), (pg, .inl (G.2.1, 24, .inl (qA ld)))] (fun v' ws' => ∃ (lc' : Int) (lb' lh' le' ld' : Int → Int), v' = none ∧ ws' = [(p, .inr (2, [.ref pk, .ref pr, .ref pt, .int (qI n), .ref pd, .ref pb, .ref ph, .ref pe, .ref pg, .int (qI lc')])), (pk, .inl (G.2.1, 24, .inl (qA k))), (pt, .inl (G.2.1, 24, .inl (qA t))), (pd, .inl (G.2.1, 24, .inl (qA de))), (pb, .inl (G.2.1, 24, .inl (qA lb'))), (ph, .inl (G.2.1, 24, .inl (qA lh'))), (pe, .inl (G.2.1, 24, .inl (qA le'))), (pg, .inl (G.2.1, 24, .inl (qA ld')))] ∧ ((0 ≤ m_le n k t de h ∧ lc' = lc + 1 ∧ lb' = qU lb h lc ∧ lh' = qU lh lc h ∧ le' = qU le lc (m_le n k t de h) ∧ ld' = qU ld lc (m_ld n k de h)) ∨ (m_le n k t de h = -1 ∧ lc' = lc ∧ lb' = lb ∧ lh' = lh ∧ le' = le ∧ ld' = ld))) := by
  refine qM.of (by decide) (Nat.le_of_ble_eq_true rfl) (fun xp xe xs xm xb xme xc A C hrt hlk hnm => ?_)
  refine qv_eq (lv' := [(0, .ref p), (1, .int (qI h))]) rfl rfl rfl ?_
  refine qv_iconst C d_P_addLoopFrom_0 ?_
  refine qv_istore_n C d_P_addLoopFrom_1 rfl (by decide) (lv' := [(2, .int (qI 0)), (0, .ref p), (1, .int (qI h))]) rfl ?_
  refine qv_iload_n C 2 d_P_addLoopFrom_2 rfl rfl ?_
  refine qv_istore_n C d_P_addLoopFrom_3 rfl (by decide) (lv' := [(3, .int (qI h)), (2, .int (qI 0)), (0, .ref p), (1, .int (qI h))]) rfl ?_
  have J60 : ∀ (i : Int) (d : Int), (h ≤ i ∧ i ≤ n) → (0 ≤ d ∧ d ≤ 24) → (m_ls n k de h 24 h 0 = (i, d)) → qV xp l xe ({ frames := 1, cells := 0, slots := 0, locals := 40 }) xs xm [.ref p, .int (qI h)].toArray xb xme xc G A xs.heap 5 (MQ xb (qQ G A (fun v' ws' => ∃ (lc' : Int) (lb' lh' le' ld' : Int → Int), v' = none ∧ ws' = [(p, .inr (2, [.ref pk, .ref pr, .ref pt, .int (qI n), .ref pd, .ref pb, .ref ph, .ref pe, .ref pg, .int (qI lc')])), (pk, .inl (G.2.1, 24, .inl (qA k))), (pt, .inl (G.2.1, 24, .inl (qA t))), (pd, .inl (G.2.1, 24, .inl (qA de))), (pb, .inl (G.2.1, 24, .inl (qA lb'))), (ph, .inl (G.2.1, 24, .inl (qA lh'))), (pe, .inl (G.2.1, 24, .inl (qA le'))), (pg, .inl (G.2.1, 24, .inl (qA ld')))] ∧ ((0 ≤ m_le n k t de h ∧ lc' = lc + 1 ∧ lb' = qU lb h lc ∧ lh' = qU lh lc h ∧ le' = qU le lc (m_le n k t de h) ∧ ld' = qU ld lc (m_ld n k de h)) ∨ (m_le n k t de h = -1 ∧ lc' = lc ∧ lb' = lb ∧ lh' = lh ∧ le' = le ∧ ld' = ld)))) [.ref p, .int (qI h)].toArray xs 0 0 A) 0 0 [(p, .inr (2, [.ref pk, .ref pr, .ref pt, .int (qI n), .ref pd, .ref pb, .ref ph, .ref pe, .ref pg, .int (qI lc)])), (pk, .inl (G.2.1, 24, .inl (qA k))), (pt, .inl (G.2.1, 24, .inl (qA t))), (pd, .inl (G.2.1, 24, .inl (qA de))), (pb, .inl (G.2.1, 24, .inl (qA lb))), (ph, .inl (G.2.1, 24, .inl (qA lh))), (pe, .inl (G.2.1, 24, .inl (qA le))), (pg, .inl (G.2.1, 24, .inl (qA ld)))] [(3, .int (qI i)), (2, .int (qI d)), (0, .ref p), (1, .int (qI h))] 60 [] := by
    intro i d hi hdd he
    refine qv_iload_n C 0 d_P_addLoopFrom_60 rfl rfl ?_
    refine qv_iload_n C 3 d_P_addLoopFrom_61 rfl rfl ?_
    refine qv_icmp_le C d_P_addLoopFrom_62 (tgt := 143) (by decide) (by omega) (by omega) (fun ht62 => ?_) (fun hf62 => ?_)
    · refine qv_vret C hrt hlk d_P_addLoopFrom_143 ?_
      refine ⟨lc, lb, lh, le, ld, rfl, rfl, Or.inr ⟨?_, rfl, rfl, rfl, rfl, rfl⟩⟩
      unfold m_le
      rw [he]
      dsimp only
      exact if_neg (by omega)
    · refine qv_iload_n C 0 d_P_addLoopFrom_65 rfl rfl ?_
      refine qv_aload_n C 2 d_P_addLoopFrom_66 rfl rfl ?_
      refine qv_get C in_P 0 rfl rfl 3 (by decide) wf_P_36 rfl rfl d_P_addLoopFrom_67 ?_
      refine qv_icmp_ge C d_P_addLoopFrom_70 (tgt := 143) (by decide) (by omega) (by omega) (fun ht70 => ?_) (fun hf70 => ?_)
      · refine qv_vret C hrt hlk d_P_addLoopFrom_143 ?_
        refine ⟨lc, lb, lh, le, ld, rfl, rfl, Or.inr ⟨?_, rfl, rfl, rfl, rfl, rfl⟩⟩
        unfold m_le
        rw [he]
        dsimp only
        exact if_neg (by omega)
      · refine qv_aload_n C 2 d_P_addLoopFrom_73 rfl rfl ?_
        refine qv_get C in_P 0 rfl rfl 0 (by decide) wf_P_9 rfl rfl d_P_addLoopFrom_74 ?_
        refine qv_iload_n C 0 d_P_addLoopFrom_77 rfl rfl ?_
        refine qv_iald C 1 rfl (by omega) d_P_addLoopFrom_78 ?_
        have hq0 := hk i
        refine qv_iconst C d_P_addLoopFrom_79 ?_
        refine qv_icmp_ne C d_P_addLoopFrom_80 (tgt := 143) (by decide) (by omega) (by omega) (fun ht80 => ?_) (fun hf80 => ?_)
        · refine qv_vret C hrt hlk d_P_addLoopFrom_143 ?_
          refine ⟨lc, lb, lh, le, ld, rfl, rfl, Or.inr ⟨?_, rfl, rfl, rfl, rfl, rfl⟩⟩
          unfold m_le
          rw [he]
          dsimp only
          exact if_neg (by omega)
        · refine qv_aload_n C 2 d_P_addLoopFrom_83 rfl rfl ?_
          refine qv_get C in_P 0 rfl rfl 2 (by decide) wf_P_18 rfl rfl d_P_addLoopFrom_84 ?_
          refine qv_iload_n C 0 d_P_addLoopFrom_87 rfl rfl ?_
          refine qv_iald C 2 rfl (by omega) d_P_addLoopFrom_88 ?_
          have hq1 := ht i
          refine qv_iload_n C 3 d_P_addLoopFrom_89 rfl rfl ?_
          refine qv_icmp_ne C d_P_addLoopFrom_90 (tgt := 143) (by decide) (by omega) (by omega) (fun ht90 => ?_) (fun hf90 => ?_)
          · refine qv_vret C hrt hlk d_P_addLoopFrom_143 ?_
            refine ⟨lc, lb, lh, le, ld, rfl, rfl, Or.inr ⟨?_, rfl, rfl, rfl, rfl, rfl⟩⟩
            unfold m_le
            rw [he]
            dsimp only
            exact if_neg (by omega)
          · refine qv_aload_n C 2 d_P_addLoopFrom_93 rfl rfl ?_
            refine qv_get C in_P 0 rfl rfl 5 (by decide) wf_P_24 rfl rfl d_P_addLoopFrom_94 ?_
            refine qv_iload_n C 3 d_P_addLoopFrom_97 rfl rfl ?_
            refine qv_aload_n C 2 d_P_addLoopFrom_98 rfl rfl ?_
            refine qv_get C in_P 0 rfl rfl 9 (by decide) wf_P_44 rfl rfl d_P_addLoopFrom_99 ?_
            refine qv_iast C 4 rfl (by omega) d_P_addLoopFrom_102 (ws' := [(p, .inr (2, [.ref pk, .ref pr, .ref pt, .int (qI n), .ref pd, .ref pb, .ref ph, .ref pe, .ref pg, .int (qI lc)])), (pk, .inl (G.2.1, 24, .inl (qA k))), (pt, .inl (G.2.1, 24, .inl (qA t))), (pd, .inl (G.2.1, 24, .inl (qA de))), (pb, .inl (G.2.1, 24, .inl (qA (qU lb h lc)))), (ph, .inl (G.2.1, 24, .inl (qA lh))), (pe, .inl (G.2.1, 24, .inl (qA le))), (pg, .inl (G.2.1, 24, .inl (qA ld)))]) rfl ?_
            refine qv_aload_n C 2 d_P_addLoopFrom_103 rfl rfl ?_
            refine qv_get C in_P 0 rfl rfl 6 (by decide) wf_P_27 rfl rfl d_P_addLoopFrom_104 ?_
            refine qv_aload_n C 2 d_P_addLoopFrom_107 rfl rfl ?_
            refine qv_get C in_P 0 rfl rfl 9 (by decide) wf_P_44 rfl rfl d_P_addLoopFrom_108 ?_
            refine qv_iload_n C 3 d_P_addLoopFrom_111 rfl rfl ?_
            refine qv_iast C 5 rfl (by omega) d_P_addLoopFrom_112 (ws' := [(p, .inr (2, [.ref pk, .ref pr, .ref pt, .int (qI n), .ref pd, .ref pb, .ref ph, .ref pe, .ref pg, .int (qI lc)])), (pk, .inl (G.2.1, 24, .inl (qA k))), (pt, .inl (G.2.1, 24, .inl (qA t))), (pd, .inl (G.2.1, 24, .inl (qA de))), (pb, .inl (G.2.1, 24, .inl (qA (qU lb h lc)))), (ph, .inl (G.2.1, 24, .inl (qA (qU lh lc h)))), (pe, .inl (G.2.1, 24, .inl (qA le))), (pg, .inl (G.2.1, 24, .inl (qA ld)))]) rfl ?_
            refine qv_aload_n C 2 d_P_addLoopFrom_113 rfl rfl ?_
            refine qv_get C in_P 0 rfl rfl 7 (by decide) wf_P_30 rfl rfl d_P_addLoopFrom_114 ?_
            refine qv_aload_n C 2 d_P_addLoopFrom_117 rfl rfl ?_
            refine qv_get C in_P 0 rfl rfl 9 (by decide) wf_P_44 rfl rfl d_P_addLoopFrom_118 ?_
            refine qv_iload_n C 0 d_P_addLoopFrom_121 rfl rfl ?_
            refine qv_iast C 6 rfl (by omega) d_P_addLoopFrom_122 (ws' := [(p, .inr (2, [.ref pk, .ref pr, .ref pt, .int (qI n), .ref pd, .ref pb, .ref ph, .ref pe, .ref pg, .int (qI lc)])), (pk, .inl (G.2.1, 24, .inl (qA k))), (pt, .inl (G.2.1, 24, .inl (qA t))), (pd, .inl (G.2.1, 24, .inl (qA de))), (pb, .inl (G.2.1, 24, .inl (qA (qU lb h lc)))), (ph, .inl (G.2.1, 24, .inl (qA (qU lh lc h)))), (pe, .inl (G.2.1, 24, .inl (qA (qU le lc i)))), (pg, .inl (G.2.1, 24, .inl (qA ld)))]) rfl ?_
            refine qv_aload_n C 2 d_P_addLoopFrom_123 rfl rfl ?_
            refine qv_get C in_P 0 rfl rfl 8 (by decide) wf_P_33 rfl rfl d_P_addLoopFrom_124 ?_
            refine qv_aload_n C 2 d_P_addLoopFrom_127 rfl rfl ?_
            refine qv_get C in_P 0 rfl rfl 9 (by decide) wf_P_44 rfl rfl d_P_addLoopFrom_128 ?_
            refine qv_iload_n C 1 d_P_addLoopFrom_131 rfl rfl ?_
            refine qv_iast C 7 rfl (by omega) d_P_addLoopFrom_132 (ws' := [(p, .inr (2, [.ref pk, .ref pr, .ref pt, .int (qI n), .ref pd, .ref pb, .ref ph, .ref pe, .ref pg, .int (qI lc)])), (pk, .inl (G.2.1, 24, .inl (qA k))), (pt, .inl (G.2.1, 24, .inl (qA t))), (pd, .inl (G.2.1, 24, .inl (qA de))), (pb, .inl (G.2.1, 24, .inl (qA (qU lb h lc)))), (ph, .inl (G.2.1, 24, .inl (qA (qU lh lc h)))), (pe, .inl (G.2.1, 24, .inl (qA (qU le lc i)))), (pg, .inl (G.2.1, 24, .inl (qA (qU ld lc d))))]) rfl ?_
            refine qv_aload_n C 2 d_P_addLoopFrom_133 rfl rfl ?_
            refine qv_dup C d_P_addLoopFrom_134 rfl ?_
            refine qv_get C in_P 0 rfl rfl 9 (by decide) wf_P_44 rfl rfl d_P_addLoopFrom_135 ?_
            refine qv_iconst C d_P_addLoopFrom_138 ?_
            refine qv_iadd C d_P_addLoopFrom_139 ?_
            refine qv_put C in_P 0 rfl rfl 9 (by decide) t_P t_P_ok n_P wf_P_44 rfl rfl (t_P_ok 9 (by decide)) (rfl) (rfl) (Nat.le_of_ble_eq_true rfl) d_P_addLoopFrom_140 (ws' := [(p, .inr (2, [.ref pk, .ref pr, .ref pt, .int (qI n), .ref pd, .ref pb, .ref ph, .ref pe, .ref pg, .int (qI (lc + 1))])), (pk, .inl (G.2.1, 24, .inl (qA k))), (pt, .inl (G.2.1, 24, .inl (qA t))), (pd, .inl (G.2.1, 24, .inl (qA de))), (pb, .inl (G.2.1, 24, .inl (qA (qU lb h lc)))), (ph, .inl (G.2.1, 24, .inl (qA (qU lh lc h)))), (pe, .inl (G.2.1, 24, .inl (qA (qU le lc i)))), (pg, .inl (G.2.1, 24, .inl (qA (qU ld lc d))))]) rfl ?_
            refine qv_vret C hrt hlk d_P_addLoopFrom_143 ?_
            have e1 : m_le n k t de h = i := by unfold m_le; rw [he]; dsimp only; exact if_pos (by omega)
            have e2 : m_ld n k de h = d := by unfold m_ld; rw [he]
            refine ⟨lc + 1, qU lb h lc, qU lh lc h, qU le lc i, qU ld lc d, rfl, rfl, Or.inl ⟨by omega, rfl, rfl, rfl, by rw [e1], by rw [e2]⟩⟩
  have L4 : ∀ (N4 : Nat) (i : Int) (d : Int) (f : Nat), (n - i).toNat < N4 → (h ≤ i ∧ i ≤ n) → (0 ≤ d ∧ d ≤ i - h) → (m_ls n k de h 24 h 0 = m_ls n k de h f i d) → (n - i ≤ (f : Int)) → qV xp l xe ({ frames := 1, cells := 0, slots := 0, locals := 40 }) xs xm [.ref p, .int (qI h)].toArray xb xme xc G A xs.heap 5 (MQ xb (qQ G A (fun v' ws' => ∃ (lc' : Int) (lb' lh' le' ld' : Int → Int), v' = none ∧ ws' = [(p, .inr (2, [.ref pk, .ref pr, .ref pt, .int (qI n), .ref pd, .ref pb, .ref ph, .ref pe, .ref pg, .int (qI lc')])), (pk, .inl (G.2.1, 24, .inl (qA k))), (pt, .inl (G.2.1, 24, .inl (qA t))), (pd, .inl (G.2.1, 24, .inl (qA de))), (pb, .inl (G.2.1, 24, .inl (qA lb'))), (ph, .inl (G.2.1, 24, .inl (qA lh'))), (pe, .inl (G.2.1, 24, .inl (qA le'))), (pg, .inl (G.2.1, 24, .inl (qA ld')))] ∧ ((0 ≤ m_le n k t de h ∧ lc' = lc + 1 ∧ lb' = qU lb h lc ∧ lh' = qU lh lc h ∧ le' = qU le lc (m_le n k t de h) ∧ ld' = qU ld lc (m_ld n k de h)) ∨ (m_le n k t de h = -1 ∧ lc' = lc ∧ lb' = lb ∧ lh' = lh ∧ le' = le ∧ ld' = ld)))) [.ref p, .int (qI h)].toArray xs 0 0 A) 0 0 [(p, .inr (2, [.ref pk, .ref pr, .ref pt, .int (qI n), .ref pd, .ref pb, .ref ph, .ref pe, .ref pg, .int (qI lc)])), (pk, .inl (G.2.1, 24, .inl (qA k))), (pt, .inl (G.2.1, 24, .inl (qA t))), (pd, .inl (G.2.1, 24, .inl (qA de))), (pb, .inl (G.2.1, 24, .inl (qA lb))), (ph, .inl (G.2.1, 24, .inl (qA lh))), (pe, .inl (G.2.1, 24, .inl (qA le))), (pg, .inl (G.2.1, 24, .inl (qA ld)))] [(3, .int (qI i)), (2, .int (qI d)), (0, .ref p), (1, .int (qI h))] 4 [] := by
    intro N4
    induction N4 with
    | zero => intro i d f hmu; exact absurd hmu (Nat.not_lt_zero _)
    | succ N4 ih4 =>
      intro i d f hmu4 hi hdd hf hg
      refine qv_iload_n C 0 d_P_addLoopFrom_4 rfl rfl ?_
      refine qv_aload_n C 2 d_P_addLoopFrom_5 rfl rfl ?_
      refine qv_get C in_P 0 rfl rfl 3 (by decide) wf_P_36 rfl rfl d_P_addLoopFrom_6 ?_
      refine qv_icmp_ge C d_P_addLoopFrom_9 (tgt := 60) (by decide) (by omega) (by omega) (fun ht9 => ?_) (fun hf9 => ?_)
      · exact J60 i d (by omega) (by omega) (hf.trans (m_ls_stop (by omega)))
      · refine qv_aload_n C 2 d_P_addLoopFrom_12 rfl rfl ?_
        refine qv_get C in_P 0 rfl rfl 0 (by decide) wf_P_9 rfl rfl d_P_addLoopFrom_13 ?_
        refine qv_iload_n C 0 d_P_addLoopFrom_16 rfl rfl ?_
        refine qv_iald C 1 rfl (by omega) d_P_addLoopFrom_17 ?_
        have hq2 := hk i
        refine qv_if_eq C d_P_addLoopFrom_18 (tgt := 31) (by decide) (by omega) (fun ht18 => ?_) (fun hf18 => ?_)
        · refine qv_aload_n C 2 d_P_addLoopFrom_31 rfl rfl ?_
          refine qv_iload_n C 3 d_P_addLoopFrom_32 rfl rfl ?_
          refine qv_iload_n C 0 d_P_addLoopFrom_33 rfl rfl ?_
          refine qv_cV (As := [.int (qI h), .int (qI i)]) (rest := []) (wc := [(p, .inr (2, [.ref pk, .ref pr, .ref pt, .int (qI n), .ref pd, .ref pb, .ref ph, .ref pe, .ref pg, .int (qI lc)])), (pd, .inl (G.2.1, 24, .inl (qA de)))]) (wr := [(pk, .inl (G.2.1, 24, .inl (qA k))), (pt, .inl (G.2.1, 24, .inl (qA t))), (pb, .inl (G.2.1, 24, .inl (qA lb))), (ph, .inl (G.2.1, 24, .inl (qA lh))), (pe, .inl (G.2.1, 24, .inl (qA le))), (pg, .inl (G.2.1, 24, .inl (qA ld)))]) C k_P_drainInLoop (c_P_drainInLoop l G (h := h) (i := i) (by omega) (by omega) hd) wm_P_51 wi_P_drainInLoop ws_P_drainInLoop 0 rfl rfl (by decide) d_P_addLoopFrom_34 rfl rfl (Nat.le_of_ble_eq_true rfl) (by decide) [0, 3] [1, 2, 4, 5, 6, 7] rfl (by decide) rfl (by decide) (by decide) (fun v ws' hpost => ?_)
          obtain ⟨rfl, xd, rfl, hxd⟩ := hpost
          refine qv_eq (ws' := [(pk, .inl (G.2.1, 24, .inl (qA k))), (pt, .inl (G.2.1, 24, .inl (qA t))), (pb, .inl (G.2.1, 24, .inl (qA lb))), (ph, .inl (G.2.1, 24, .inl (qA lh))), (pe, .inl (G.2.1, 24, .inl (qA le))), (pg, .inl (G.2.1, 24, .inl (qA ld))), (p, .inr (2, [.ref pk, .ref pr, .ref pt, .int (qI n), .ref pd, .ref pb, .ref ph, .ref pe, .ref pg, .int (qI lc)])), (pd, .inl (G.2.1, 24, .inl (qA de)))]) (st' := [.int (qI xd)]) rfl rfl rfl ?_
          have hdi := hd i
          have hde_ := hde i (by omega) (by omega)
          obtain ⟨f', rfl⟩ : ∃ f', f = f' + 1 := ⟨f - 1, by omega⟩
          refine qv_istore C d_P_addLoopFrom_37 (by decide) (lv' := [(4, .int (qI xd)), (3, .int (qI i)), (2, .int (qI d)), (0, .ref p), (1, .int (qI h))]) rfl ?_
          refine qv_iload C 0 d_P_addLoopFrom_39 rfl ?_
          refine qv_iconst C d_P_addLoopFrom_41 ?_
          refine qv_icmp_eq C d_P_addLoopFrom_42 (tgt := 48) (by decide) (by omega) (by omega) (fun ht42 => ?_) (fun hf42 => ?_)
          · refine qv_iload_n C 1 d_P_addLoopFrom_48 rfl rfl ?_
            refine qv_iload C 0 d_P_addLoopFrom_49 rfl ?_
            refine qv_max C wm_P_55 (by omega) (by omega) (by decide) (Nat.le_of_ble_eq_true rfl) (by decide) d_P_addLoopFrom_51 ?_
            refine qv_iconst C d_P_addLoopFrom_54 ?_
            refine qv_iadd C d_P_addLoopFrom_55 ?_
            refine qv_istore_n C d_P_addLoopFrom_56 rfl (by decide) (lv' := [(3, .int (qI ((max i xd) + 1))), (4, .int (qI xd)), (2, .int (qI d)), (0, .ref p), (1, .int (qI h))]) rfl ?_
            refine qv_goto C d_P_addLoopFrom_57 (by decide) (tgt := 4) ?_
            refine qv_lv (lv' := [(3, .int (qI ((max i xd) + 1))), (2, .int (qI d)), (0, .ref p), (1, .int (qI h))]) [0, 2, 3, 4] rfl ?_
            refine qv_ws (ws' := [(p, .inr (2, [.ref pk, .ref pr, .ref pt, .int (qI n), .ref pd, .ref pb, .ref ph, .ref pe, .ref pg, .int (qI lc)])), (pk, .inl (G.2.1, 24, .inl (qA k))), (pt, .inl (G.2.1, 24, .inl (qA t))), (pd, .inl (G.2.1, 24, .inl (qA de))), (pb, .inl (G.2.1, 24, .inl (qA lb))), (ph, .inl (G.2.1, 24, .inl (qA lh))), (pe, .inl (G.2.1, 24, .inl (qA le))), (pg, .inl (G.2.1, 24, .inl (qA ld)))]) [6, 0, 1, 7, 2, 3, 4, 5] (by decide) rfl ?_
            exact ih4 ((max i xd) + 1) d f' (by omega) (by omega) (by omega) (by first | (rw [show max i xd + 1 = de i + 1 by omega]; exact hf.trans (m_ls_drain ⟨by omega, by omega⟩ ⟨by omega, by omega⟩)) | (rw [show max i xd + 1 = i + 1 by omega]; exact hf.trans (m_ls_one ⟨by omega, by omega⟩ (by omega)))) (by omega)
          · refine qv_iinc C 2 d_P_addLoopFrom_45 rfl (by decide) (lv' := [(2, .int (qI (d + 1))), (4, .int (qI xd)), (3, .int (qI i)), (0, .ref p), (1, .int (qI h))]) rfl ?_
            refine qv_iload_n C 2 d_P_addLoopFrom_48 rfl rfl ?_
            refine qv_iload C 1 d_P_addLoopFrom_49 rfl ?_
            refine qv_max C wm_P_55 (by omega) (by omega) (by decide) (Nat.le_of_ble_eq_true rfl) (by decide) d_P_addLoopFrom_51 ?_
            refine qv_iconst C d_P_addLoopFrom_54 ?_
            refine qv_iadd C d_P_addLoopFrom_55 ?_
            refine qv_istore_n C d_P_addLoopFrom_56 rfl (by decide) (lv' := [(3, .int (qI ((max i xd) + 1))), (2, .int (qI (d + 1))), (4, .int (qI xd)), (0, .ref p), (1, .int (qI h))]) rfl ?_
            refine qv_goto C d_P_addLoopFrom_57 (by decide) (tgt := 4) ?_
            refine qv_lv (lv' := [(3, .int (qI ((max i xd) + 1))), (2, .int (qI (d + 1))), (0, .ref p), (1, .int (qI h))]) [0, 1, 3, 4] rfl ?_
            refine qv_ws (ws' := [(p, .inr (2, [.ref pk, .ref pr, .ref pt, .int (qI n), .ref pd, .ref pb, .ref ph, .ref pe, .ref pg, .int (qI lc)])), (pk, .inl (G.2.1, 24, .inl (qA k))), (pt, .inl (G.2.1, 24, .inl (qA t))), (pd, .inl (G.2.1, 24, .inl (qA de))), (pb, .inl (G.2.1, 24, .inl (qA lb))), (ph, .inl (G.2.1, 24, .inl (qA lh))), (pe, .inl (G.2.1, 24, .inl (qA le))), (pg, .inl (G.2.1, 24, .inl (qA ld)))]) [6, 0, 1, 7, 2, 3, 4, 5] (by decide) rfl ?_
            exact ih4 ((max i xd) + 1) (d + 1) f' (by omega) (by omega) (by omega) (by first | (rw [show max i xd + 1 = de i + 1 by omega]; exact hf.trans (m_ls_drain ⟨by omega, by omega⟩ ⟨by omega, by omega⟩)) | (rw [show max i xd + 1 = i + 1 by omega]; exact hf.trans (m_ls_one ⟨by omega, by omega⟩ (by omega)))) (by omega)
        · refine qv_aload_n C 2 d_P_addLoopFrom_21 rfl rfl ?_
          refine qv_get C in_P 0 rfl rfl 0 (by decide) wf_P_9 rfl rfl d_P_addLoopFrom_22 ?_
          refine qv_iload_n C 0 d_P_addLoopFrom_25 rfl rfl ?_
          refine qv_iald C 1 rfl (by omega) d_P_addLoopFrom_26 ?_
          have hq3 := hk i
          refine qv_iconst C d_P_addLoopFrom_27 ?_
          refine qv_icmp_ne C d_P_addLoopFrom_28 (tgt := 60) (by decide) (by omega) (by omega) (fun ht28 => ?_) (fun hf28 => ?_)
          · exact J60 i d (by omega) (by omega) (hf.trans (m_ls_stop (by omega)))
          · refine qv_aload_n C 2 d_P_addLoopFrom_31 rfl rfl ?_
            refine qv_iload_n C 3 d_P_addLoopFrom_32 rfl rfl ?_
            refine qv_iload_n C 0 d_P_addLoopFrom_33 rfl rfl ?_
            refine qv_cV (As := [.int (qI h), .int (qI i)]) (rest := []) (wc := [(p, .inr (2, [.ref pk, .ref pr, .ref pt, .int (qI n), .ref pd, .ref pb, .ref ph, .ref pe, .ref pg, .int (qI lc)])), (pd, .inl (G.2.1, 24, .inl (qA de)))]) (wr := [(pk, .inl (G.2.1, 24, .inl (qA k))), (pt, .inl (G.2.1, 24, .inl (qA t))), (pb, .inl (G.2.1, 24, .inl (qA lb))), (ph, .inl (G.2.1, 24, .inl (qA lh))), (pe, .inl (G.2.1, 24, .inl (qA le))), (pg, .inl (G.2.1, 24, .inl (qA ld)))]) C k_P_drainInLoop (c_P_drainInLoop l G (h := h) (i := i) (by omega) (by omega) hd) wm_P_51 wi_P_drainInLoop ws_P_drainInLoop 0 rfl rfl (by decide) d_P_addLoopFrom_34 rfl rfl (Nat.le_of_ble_eq_true rfl) (by decide) [0, 3] [1, 2, 4, 5, 6, 7] rfl (by decide) rfl (by decide) (by decide) (fun v ws' hpost => ?_)
            obtain ⟨rfl, xd, rfl, hxd⟩ := hpost
            refine qv_eq (ws' := [(pk, .inl (G.2.1, 24, .inl (qA k))), (pt, .inl (G.2.1, 24, .inl (qA t))), (pb, .inl (G.2.1, 24, .inl (qA lb))), (ph, .inl (G.2.1, 24, .inl (qA lh))), (pe, .inl (G.2.1, 24, .inl (qA le))), (pg, .inl (G.2.1, 24, .inl (qA ld))), (p, .inr (2, [.ref pk, .ref pr, .ref pt, .int (qI n), .ref pd, .ref pb, .ref ph, .ref pe, .ref pg, .int (qI lc)])), (pd, .inl (G.2.1, 24, .inl (qA de)))]) (st' := [.int (qI xd)]) rfl rfl rfl ?_
            have hdi := hd i
            have hde_ := hde i (by omega) (by omega)
            obtain ⟨f', rfl⟩ : ∃ f', f = f' + 1 := ⟨f - 1, by omega⟩
            refine qv_istore C d_P_addLoopFrom_37 (by decide) (lv' := [(4, .int (qI xd)), (3, .int (qI i)), (2, .int (qI d)), (0, .ref p), (1, .int (qI h))]) rfl ?_
            refine qv_iload C 0 d_P_addLoopFrom_39 rfl ?_
            refine qv_iconst C d_P_addLoopFrom_41 ?_
            refine qv_icmp_eq C d_P_addLoopFrom_42 (tgt := 48) (by decide) (by omega) (by omega) (fun ht42 => ?_) (fun hf42 => ?_)
            · refine qv_iload_n C 1 d_P_addLoopFrom_48 rfl rfl ?_
              refine qv_iload C 0 d_P_addLoopFrom_49 rfl ?_
              refine qv_max C wm_P_55 (by omega) (by omega) (by decide) (Nat.le_of_ble_eq_true rfl) (by decide) d_P_addLoopFrom_51 ?_
              refine qv_iconst C d_P_addLoopFrom_54 ?_
              refine qv_iadd C d_P_addLoopFrom_55 ?_
              refine qv_istore_n C d_P_addLoopFrom_56 rfl (by decide) (lv' := [(3, .int (qI ((max i xd) + 1))), (4, .int (qI xd)), (2, .int (qI d)), (0, .ref p), (1, .int (qI h))]) rfl ?_
              refine qv_goto C d_P_addLoopFrom_57 (by decide) (tgt := 4) ?_
              refine qv_lv (lv' := [(3, .int (qI ((max i xd) + 1))), (2, .int (qI d)), (0, .ref p), (1, .int (qI h))]) [0, 2, 3, 4] rfl ?_
              refine qv_ws (ws' := [(p, .inr (2, [.ref pk, .ref pr, .ref pt, .int (qI n), .ref pd, .ref pb, .ref ph, .ref pe, .ref pg, .int (qI lc)])), (pk, .inl (G.2.1, 24, .inl (qA k))), (pt, .inl (G.2.1, 24, .inl (qA t))), (pd, .inl (G.2.1, 24, .inl (qA de))), (pb, .inl (G.2.1, 24, .inl (qA lb))), (ph, .inl (G.2.1, 24, .inl (qA lh))), (pe, .inl (G.2.1, 24, .inl (qA le))), (pg, .inl (G.2.1, 24, .inl (qA ld)))]) [6, 0, 1, 7, 2, 3, 4, 5] (by decide) rfl ?_
              exact ih4 ((max i xd) + 1) d f' (by omega) (by omega) (by omega) (by first | (rw [show max i xd + 1 = de i + 1 by omega]; exact hf.trans (m_ls_drain ⟨by omega, by omega⟩ ⟨by omega, by omega⟩)) | (rw [show max i xd + 1 = i + 1 by omega]; exact hf.trans (m_ls_one ⟨by omega, by omega⟩ (by omega)))) (by omega)
            · refine qv_iinc C 2 d_P_addLoopFrom_45 rfl (by decide) (lv' := [(2, .int (qI (d + 1))), (4, .int (qI xd)), (3, .int (qI i)), (0, .ref p), (1, .int (qI h))]) rfl ?_
              refine qv_iload_n C 2 d_P_addLoopFrom_48 rfl rfl ?_
              refine qv_iload C 1 d_P_addLoopFrom_49 rfl ?_
              refine qv_max C wm_P_55 (by omega) (by omega) (by decide) (Nat.le_of_ble_eq_true rfl) (by decide) d_P_addLoopFrom_51 ?_
              refine qv_iconst C d_P_addLoopFrom_54 ?_
              refine qv_iadd C d_P_addLoopFrom_55 ?_
              refine qv_istore_n C d_P_addLoopFrom_56 rfl (by decide) (lv' := [(3, .int (qI ((max i xd) + 1))), (2, .int (qI (d + 1))), (4, .int (qI xd)), (0, .ref p), (1, .int (qI h))]) rfl ?_
              refine qv_goto C d_P_addLoopFrom_57 (by decide) (tgt := 4) ?_
              refine qv_lv (lv' := [(3, .int (qI ((max i xd) + 1))), (2, .int (qI (d + 1))), (0, .ref p), (1, .int (qI h))]) [0, 1, 3, 4] rfl ?_
              refine qv_ws (ws' := [(p, .inr (2, [.ref pk, .ref pr, .ref pt, .int (qI n), .ref pd, .ref pb, .ref ph, .ref pe, .ref pg, .int (qI lc)])), (pk, .inl (G.2.1, 24, .inl (qA k))), (pt, .inl (G.2.1, 24, .inl (qA t))), (pd, .inl (G.2.1, 24, .inl (qA de))), (pb, .inl (G.2.1, 24, .inl (qA lb))), (ph, .inl (G.2.1, 24, .inl (qA lh))), (pe, .inl (G.2.1, 24, .inl (qA le))), (pg, .inl (G.2.1, 24, .inl (qA ld)))]) [6, 0, 1, 7, 2, 3, 4, 5] (by decide) rfl ?_
              exact ih4 ((max i xd) + 1) (d + 1) f' (by omega) (by omega) (by omega) (by first | (rw [show max i xd + 1 = de i + 1 by omega]; exact hf.trans (m_ls_drain ⟨by omega, by omega⟩ ⟨by omega, by omega⟩)) | (rw [show max i xd + 1 = i + 1 by omega]; exact hf.trans (m_ls_one ⟨by omega, by omega⟩ (by omega)))) (by omega)
  exact L4 _ h 0 24 (Nat.lt_succ_self _) (by first | assumption | omega) (by first | assumption | omega) (rfl) (by omega)
set_option maxHeartbeats 4000000 in
set_option maxRecDepth 100000 in
theorem c_P_findLoops (l : Launch) (G : qG) {p pk pr pt pd pb ph pe pg : Nat} {n lc : Int} {k t de lb lh le ld : Int → Int} (hn : 0 ≤ n ∧ n ≤ 24) (hk : ∀ i, 0 ≤ k i ∧ k i ≤ 3) (ht : ∀ i, -1 ≤ t i ∧ t i ≤ 24) (hd : ∀ i, -1 ≤ de i ∧ de i ≤ 24) (hde : ∀ i, 0 ≤ i → i < n → de i = -1 ∨ (i < de i ∧ de i < n)) : qM l G y_P_findLoops b_P_findLoops 2 none ({ frames := 2, cells := 0, slots := 0, locals := 64 }) [.ref p] [(p, .inr (2, [.ref pk, .ref pr, .ref pt, .int (qI n), .ref pd, .ref pb, .ref ph, .ref pe, .ref pg, .int (qI lc)])), (pk, .inl (G.2.1, 24, .inl (qA k))), (pt, .inl (G.2.1, 24, .inl (qA t))), (pd, .inl (G.2.1, 24, .inl (qA de))), (pb, .inl (G.2.1, 24, .inl (qA lb))), (ph, .inl (G.2.1, 24, .inl (qA lh))), (pe, .inl (G.2.1, 24, .inl (qA le))), (pg, .inl (G.2.1, 24, .inl (qA ld)))] (fun v' ws' => ∃ (lb' lh' le' ld' : Int → Int), v' = none ∧ ws' = [(p, .inr (2, [.ref pk, .ref pr, .ref pt, .int (qI n), .ref pd, .ref pb, .ref ph, .ref pe, .ref pg, .int (qI (m_cn (m_le n k t de) (Int.toNat n)))])), (pk, .inl (G.2.1, 24, .inl (qA k))), (pt, .inl (G.2.1, 24, .inl (qA t))), (pd, .inl (G.2.1, 24, .inl (qA de))), (pb, .inl (G.2.1, 24, .inl (qA lb'))), (ph, .inl (G.2.1, 24, .inl (qA lh'))), (pe, .inl (G.2.1, 24, .inl (qA le'))), (pg, .inl (G.2.1, 24, .inl (qA ld')))] ∧ m_lo (m_le n k t de) (m_ld n k de) n lb' lh' le' ld') := by
  refine qM.of (by decide) (Nat.le_of_ble_eq_true rfl) (fun xp xe xs xm xb xme xc A C hrt hlk hnm => ?_)
  refine qv_eq (lv' := [(0, .ref p)]) rfl rfl rfl ?_
  refine qv_aload_n C 0 d_P_findLoops_0 rfl rfl ?_
  refine qv_iconst C d_P_findLoops_1 ?_
  refine qv_put C in_P 0 rfl rfl 9 (by decide) t_P t_P_ok n_P wf_P_44 rfl rfl (t_P_ok 9 (by decide)) (rfl) (rfl) (Nat.le_of_ble_eq_true rfl) d_P_findLoops_2 (ws' := [(p, .inr (2, [.ref pk, .ref pr, .ref pt, .int (qI n), .ref pd, .ref pb, .ref ph, .ref pe, .ref pg, .int (qI 0)])), (pk, .inl (G.2.1, 24, .inl (qA k))), (pt, .inl (G.2.1, 24, .inl (qA t))), (pd, .inl (G.2.1, 24, .inl (qA de))), (pb, .inl (G.2.1, 24, .inl (qA lb))), (ph, .inl (G.2.1, 24, .inl (qA lh))), (pe, .inl (G.2.1, 24, .inl (qA le))), (pg, .inl (G.2.1, 24, .inl (qA ld)))]) rfl ?_
  refine qv_iconst C d_P_findLoops_5 ?_
  refine qv_istore_n C d_P_findLoops_6 rfl (by decide) (lv' := [(1, .int (qI 0)), (0, .ref p)]) rfl ?_
  have L7 : ∀ (N7 : Nat) (i : Int) (lb : Int → Int) (lh : Int → Int) (le : Int → Int) (ld : Int → Int), (n - i).toNat < N7 → (0 ≤ i ∧ i ≤ n) → (m_lo (m_le n k t de) (m_ld n k de) i lb lh le ld) → qV xp l xe ({ frames := 2, cells := 0, slots := 0, locals := 64 }) xs xm [.ref p].toArray xb xme xc G A xs.heap 2 (MQ xb (qQ G A (fun v' ws' => ∃ (lb' lh' le' ld' : Int → Int), v' = none ∧ ws' = [(p, .inr (2, [.ref pk, .ref pr, .ref pt, .int (qI n), .ref pd, .ref pb, .ref ph, .ref pe, .ref pg, .int (qI (m_cn (m_le n k t de) (Int.toNat n)))])), (pk, .inl (G.2.1, 24, .inl (qA k))), (pt, .inl (G.2.1, 24, .inl (qA t))), (pd, .inl (G.2.1, 24, .inl (qA de))), (pb, .inl (G.2.1, 24, .inl (qA lb'))), (ph, .inl (G.2.1, 24, .inl (qA lh'))), (pe, .inl (G.2.1, 24, .inl (qA le'))), (pg, .inl (G.2.1, 24, .inl (qA ld')))] ∧ m_lo (m_le n k t de) (m_ld n k de) n lb' lh' le' ld')) [.ref p].toArray xs 0 0 A) 0 0 [(p, .inr (2, [.ref pk, .ref pr, .ref pt, .int (qI n), .ref pd, .ref pb, .ref ph, .ref pe, .ref pg, .int (qI (m_cn (m_le n k t de) (Int.toNat i)))])), (pk, .inl (G.2.1, 24, .inl (qA k))), (pt, .inl (G.2.1, 24, .inl (qA t))), (pd, .inl (G.2.1, 24, .inl (qA de))), (pb, .inl (G.2.1, 24, .inl (qA lb))), (ph, .inl (G.2.1, 24, .inl (qA lh))), (pe, .inl (G.2.1, 24, .inl (qA le))), (pg, .inl (G.2.1, 24, .inl (qA ld)))] [(1, .int (qI i)), (0, .ref p)] 7 [] := by
    intro N7
    induction N7 with
    | zero => intro i lb lh le ld hmu; exact absurd hmu (Nat.not_lt_zero _)
    | succ N7 ih7 =>
      intro i lb lh le ld hmu7 hi hlo
      refine qv_iload_n C 0 d_P_findLoops_7 rfl rfl ?_
      refine qv_aload_n C 1 d_P_findLoops_8 rfl rfl ?_
      refine qv_get C in_P 0 rfl rfl 3 (by decide) wf_P_36 rfl rfl d_P_findLoops_9 ?_
      refine qv_icmp_ge C d_P_findLoops_12 (tgt := 33) (by decide) (by omega) (by omega) (fun ht12 => ?_) (fun hf12 => ?_)
      · refine qv_vret C hrt hlk d_P_findLoops_33 ?_
        obtain rfl : i = n := by omega
        exact ⟨lb, lh, le, ld, rfl, rfl, hlo⟩
      · refine qv_aload_n C 1 d_P_findLoops_15 rfl rfl ?_
        refine qv_get C in_P 0 rfl rfl 5 (by decide) wf_P_24 rfl rfl d_P_findLoops_16 ?_
        refine qv_iload_n C 0 d_P_findLoops_19 rfl rfl ?_
        refine qv_iconst C d_P_findLoops_20 ?_
        refine qv_iast C 4 rfl (by omega) d_P_findLoops_21 (ws' := [(p, .inr (2, [.ref pk, .ref pr, .ref pt, .int (qI n), .ref pd, .ref pb, .ref ph, .ref pe, .ref pg, .int (qI (m_cn (m_le n k t de) (Int.toNat i)))])), (pk, .inl (G.2.1, 24, .inl (qA k))), (pt, .inl (G.2.1, 24, .inl (qA t))), (pd, .inl (G.2.1, 24, .inl (qA de))), (pb, .inl (G.2.1, 24, .inl (qA (qU lb i (-1))))), (ph, .inl (G.2.1, 24, .inl (qA lh))), (pe, .inl (G.2.1, 24, .inl (qA le))), (pg, .inl (G.2.1, 24, .inl (qA ld)))]) rfl ?_
        refine qv_aload_n C 1 d_P_findLoops_22 rfl rfl ?_
        refine qv_iload_n C 0 d_P_findLoops_23 rfl rfl ?_
        have hcn : 0 ≤ m_cn (m_le n k t de) i.toNat ∧ m_cn (m_le n k t de) i.toNat ≤ i := by have := m_cn_le (m_le n k t de) i.toNat; omega
        refine qv_cV (As := [.int (qI i)]) (rest := []) (wc := [(p, .inr (2, [.ref pk, .ref pr, .ref pt, .int (qI n), .ref pd, .ref pb, .ref ph, .ref pe, .ref pg, .int (qI (m_cn (m_le n k t de) (Int.toNat i)))])), (pk, .inl (G.2.1, 24, .inl (qA k))), (pt, .inl (G.2.1, 24, .inl (qA t))), (pd, .inl (G.2.1, 24, .inl (qA de))), (pb, .inl (G.2.1, 24, .inl (qA (qU lb i (-1))))), (ph, .inl (G.2.1, 24, .inl (qA lh))), (pe, .inl (G.2.1, 24, .inl (qA le))), (pg, .inl (G.2.1, 24, .inl (qA ld)))]) (wr := []) C k_P_addLoopFrom (c_P_addLoopFrom l G hn hk ht hd hde (h := i) (by omega) hcn) wm_P_47 wi_P_addLoopFrom ws_P_addLoopFrom 0 rfl rfl (by decide) d_P_findLoops_24 rfl rfl (Nat.le_of_ble_eq_true rfl) (by decide) [0, 1, 2, 3, 4, 5, 6, 7] [] rfl (by decide) rfl (by decide) (by decide) (fun v ws' hpost => ?_)
        obtain ⟨lc', lb', lh', le', ld', rfl, rfl, hal⟩ := hpost
        refine qv_eq (ws' := [(p, .inr (2, [.ref pk, .ref pr, .ref pt, .int (qI n), .ref pd, .ref pb, .ref ph, .ref pe, .ref pg, .int (qI lc')])), (pk, .inl (G.2.1, 24, .inl (qA k))), (pt, .inl (G.2.1, 24, .inl (qA t))), (pd, .inl (G.2.1, 24, .inl (qA de))), (pb, .inl (G.2.1, 24, .inl (qA lb'))), (ph, .inl (G.2.1, 24, .inl (qA lh'))), (pe, .inl (G.2.1, 24, .inl (qA le'))), (pg, .inl (G.2.1, 24, .inl (qA ld')))]) (st' := []) rfl rfl rfl ?_
        have hl1 : m_cn (m_le n k t de) (i + 1).toNat = lc' ∧ m_lo (m_le n k t de) (m_ld n k de) (i + 1) lb' lh' le' ld' := by
          rcases hal with ⟨a1, rfl, rfl, rfl, rfl, rfl⟩ | ⟨a1, rfl, rfl, rfl, rfl, rfl⟩
          · exact ⟨by rw [m_cn_up _ hi.1, if_pos a1], m_lo_go hlo hi.1 a1⟩
          · exact ⟨by rw [m_cn_up _ hi.1, if_neg (by omega)]; omega, m_lo_no hlo hi.1 (by omega)⟩
        obtain ⟨hl1, hlo2⟩ := hl1
        refine qv_iinc C 0 d_P_findLoops_27 rfl (by decide) (lv' := [(1, .int (qI (i + 1))), (0, .ref p)]) rfl ?_
        refine qv_goto C d_P_findLoops_30 (by decide) (tgt := 7) ?_
        refine qv_eq (ws' := [(p, .inr (2, [.ref pk, .ref pr, .ref pt, .int (qI n), .ref pd, .ref pb, .ref ph, .ref pe, .ref pg, .int (qI (m_cn (m_le n k t de) (Int.toNat (i + 1))))])), (pk, .inl (G.2.1, 24, .inl (qA k))), (pt, .inl (G.2.1, 24, .inl (qA t))), (pd, .inl (G.2.1, 24, .inl (qA de))), (pb, .inl (G.2.1, 24, .inl (qA lb'))), (ph, .inl (G.2.1, 24, .inl (qA lh'))), (pe, .inl (G.2.1, 24, .inl (qA le'))), (pg, .inl (G.2.1, 24, .inl (qA ld')))]) (lv' := [(1, .int (qI (i + 1))), (0, .ref p)]) (by rw [hl1]) (rfl) rfl ?_
        exact ih7 (i + 1) lb' lh' le' ld' (by omega) (by omega) (hlo2)
  refine qv_eq (ws' := [(p, .inr (2, [.ref pk, .ref pr, .ref pt, .int (qI n), .ref pd, .ref pb, .ref ph, .ref pe, .ref pg, .int (qI (m_cn (m_le n k t de) (Int.toNat 0)))])), (pk, .inl (G.2.1, 24, .inl (qA k))), (pt, .inl (G.2.1, 24, .inl (qA t))), (pd, .inl (G.2.1, 24, .inl (qA de))), (pb, .inl (G.2.1, 24, .inl (qA lb))), (ph, .inl (G.2.1, 24, .inl (qA lh))), (pe, .inl (G.2.1, 24, .inl (qA le))), (pg, .inl (G.2.1, 24, .inl (qA ld)))]) (lv' := [(1, .int (qI 0)), (0, .ref p)]) (rfl) (rfl) rfl ?_
  exact L7 _ 0 lb lh le ld (Nat.lt_succ_self _) (by first | assumption | omega) (m_lo_0 _ _ _ _ _ _)

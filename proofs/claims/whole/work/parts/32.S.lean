set_option maxHeartbeats 4000000 in
set_option maxRecDepth 100000 in
theorem c_S_clear (l : Launch) (G : qG) {z zv zl zh zc zd : Nat} {mv : Nat} {fu len : Int} {w lo hi dr v : Int → Int} (ho : ∀ j : Int, ¬ (0 ≤ j ∧ j < 8) → w j = v j ∧ lo j = v j ∧ hi j = v j ∧ dr j = 0) : qM l G y_S_clear b_S_clear 3 none ({ frames := 0, cells := 0, slots := 0, locals := 0 }) [.ref z, .ref mv] [(z, .inr (1, [.ref zv, .ref zl, .ref zh, .ref zc, .ref zd, .int (qI fu), .long (qL len)])), (zv, .inl (G.2.1, 8, .inl (qA w))), (zl, .inl (G.2.1, 8, .inl (qA lo))), (zh, .inl (G.2.1, 8, .inl (qA hi))), (zd, .inl (G.2.2.2.1, 8, .inl (qA dr))), (mv, .inl (G.2.1, 8, .inl (qA v)))] (fun v' ws' => v' = none ∧ ws' = [(z, .inr (1, [.ref zv, .ref zl, .ref zh, .ref zc, .ref zd, .int (qI 1), .long (qL 0)])), (zv, .inl (G.2.1, 8, .inl (qA v))), (zl, .inl (G.2.1, 8, .inl (qA v))), (zh, .inl (G.2.1, 8, .inl (qA v))), (zd, .inl (G.2.2.2.1, 8, .inl (qA (fun _ => 0)))), (mv, .inl (G.2.1, 8, .inl (qA v)))]) := by
  refine qM.of (by decide) (Nat.le_of_ble_eq_true rfl) (fun xp xe xs xm xb xme xc A C hrt hlk hnm => ?_)
  refine qv_eq (lv' := [(0, .ref z), (1, .ref mv)]) rfl rfl rfl ?_
  refine qv_aload_n C 0 d_S_clear_0 rfl rfl ?_
  refine qv_iconst C d_S_clear_1 ?_
  refine qv_put C in_S 0 rfl rfl 5 (by decide) t_S t_S_ok n_S wf_S_40 rfl rfl (t_S_ok 5 (by decide)) (by decide) (by decide) (Nat.le_of_ble_eq_true rfl) d_S_clear_2 (ws' := [(z, .inr (1, [.ref zv, .ref zl, .ref zh, .ref zc, .ref zd, .int (qI 1), .long (qL len)])), (zv, .inl (G.2.1, 8, .inl (qA w))), (zl, .inl (G.2.1, 8, .inl (qA lo))), (zh, .inl (G.2.1, 8, .inl (qA hi))), (zd, .inl (G.2.2.2.1, 8, .inl (qA dr))), (mv, .inl (G.2.1, 8, .inl (qA v)))]) rfl ?_
  refine qv_aload_n C 0 d_S_clear_5 rfl rfl ?_
  refine qv_lconst C (z := 0) d_S_clear_6 (by decide) ?_
  refine qv_put C in_S 0 rfl rfl 6 (by decide) t_S t_S_ok n_S wf_S_58 rfl rfl (t_S_ok 6 (by decide)) (rfl) (rfl) (Nat.le_of_ble_eq_true rfl) d_S_clear_7 (ws' := [(z, .inr (1, [.ref zv, .ref zl, .ref zh, .ref zc, .ref zd, .int (qI 1), .long (qL 0)])), (zv, .inl (G.2.1, 8, .inl (qA w))), (zl, .inl (G.2.1, 8, .inl (qA lo))), (zh, .inl (G.2.1, 8, .inl (qA hi))), (zd, .inl (G.2.2.2.1, 8, .inl (qA dr))), (mv, .inl (G.2.1, 8, .inl (qA v)))]) rfl ?_
  refine qv_iconst C d_S_clear_10 ?_
  refine qv_istore_n C d_S_clear_11 rfl (by decide) (lv' := [(2, .int (qI 0)), (0, .ref z), (1, .ref mv)]) rfl ?_
  have L12 : ∀ (N12 : Nat) (i : Int), (8 - i).toNat < N12 → (0 ≤ i ∧ i ≤ 8) → qV xp l xe ({ frames := 0, cells := 0, slots := 0, locals := 0 }) xs xm [.ref z, .ref mv].toArray xb xme xc G A xs.heap 3 (MQ xb (qQ G A (fun v' ws' => v' = none ∧ ws' = [(z, .inr (1, [.ref zv, .ref zl, .ref zh, .ref zc, .ref zd, .int (qI 1), .long (qL 0)])), (zv, .inl (G.2.1, 8, .inl (qA v))), (zl, .inl (G.2.1, 8, .inl (qA v))), (zh, .inl (G.2.1, 8, .inl (qA v))), (zd, .inl (G.2.2.2.1, 8, .inl (qA (fun _ => 0)))), (mv, .inl (G.2.1, 8, .inl (qA v)))])) [.ref z, .ref mv].toArray xs 0 0 A) 0 0 [(z, .inr (1, [.ref zv, .ref zl, .ref zh, .ref zc, .ref zd, .int (qI 1), .long (qL 0)])), (zv, .inl (G.2.1, 8, .inl (qA (m_up w v i)))), (zl, .inl (G.2.1, 8, .inl (qA (m_up lo v i)))), (zh, .inl (G.2.1, 8, .inl (qA (m_up hi v i)))), (zd, .inl (G.2.2.2.1, 8, .inl (qA (m_up dr (fun _ => 0) i)))), (mv, .inl (G.2.1, 8, .inl (qA v)))] [(2, .int (qI i)), (0, .ref z), (1, .ref mv)] 12 [] := by
    intro N12
    induction N12 with
    | zero => intro i hmu; exact absurd hmu (Nat.not_lt_zero _)
    | succ N12 ih12 =>
      intro i hmu12 hi_
      refine qv_iload_n C 0 d_S_clear_12 rfl rfl ?_
      refine qv_bipush C d_S_clear_13 (by decide) ?_
      refine qv_icmp_ge C d_S_clear_15 (tgt := 58) (by decide) (by omega) (by omega) (fun ht15 => ?_) (fun hf15 => ?_)
      · refine qv_vret C hrt hlk d_S_clear_58 ?_
        obtain rfl : i = 8 := by omega
        rw [m_up_all (f := w) (g := v) (fun j h => (ho j h).1), m_up_all (f := lo) (g := v) (fun j h => (ho j h).2.1), m_up_all (f := hi) (g := v) (fun j h => (ho j h).2.2.1), m_up_all (f := dr) (g := (fun _ => 0)) (fun j h => (ho j h).2.2.2)]
        exact ⟨rfl, rfl⟩
      · refine qv_aload_n C 1 d_S_clear_18 rfl rfl ?_
        refine qv_get C in_S 0 rfl rfl 0 (by decide) wf_S_9 rfl rfl d_S_clear_19 ?_
        refine qv_iload_n C 0 d_S_clear_22 rfl rfl ?_
        refine qv_aload_n C 2 d_S_clear_23 rfl rfl ?_
        refine qv_iload_n C 0 d_S_clear_24 rfl rfl ?_
        refine qv_iald C 5 rfl (by omega) d_S_clear_25 ?_
        refine qv_iast C 1 rfl (by omega) d_S_clear_26 (ws' := [(z, .inr (1, [.ref zv, .ref zl, .ref zh, .ref zc, .ref zd, .int (qI 1), .long (qL 0)])), (zv, .inl (G.2.1, 8, .inl (qA (qU (m_up w v i) i (v i))))), (zl, .inl (G.2.1, 8, .inl (qA (m_up lo v i)))), (zh, .inl (G.2.1, 8, .inl (qA (m_up hi v i)))), (zd, .inl (G.2.2.2.1, 8, .inl (qA (m_up dr (fun _ => 0) i)))), (mv, .inl (G.2.1, 8, .inl (qA v)))]) rfl ?_
        refine qv_aload_n C 1 d_S_clear_27 rfl rfl ?_
        refine qv_get C in_S 0 rfl rfl 1 (by decide) wf_S_15 rfl rfl d_S_clear_28 ?_
        refine qv_iload_n C 0 d_S_clear_31 rfl rfl ?_
        refine qv_aload_n C 2 d_S_clear_32 rfl rfl ?_
        refine qv_iload_n C 0 d_S_clear_33 rfl rfl ?_
        refine qv_iald C 5 rfl (by omega) d_S_clear_34 ?_
        refine qv_iast C 2 rfl (by omega) d_S_clear_35 (ws' := [(z, .inr (1, [.ref zv, .ref zl, .ref zh, .ref zc, .ref zd, .int (qI 1), .long (qL 0)])), (zv, .inl (G.2.1, 8, .inl (qA (qU (m_up w v i) i (v i))))), (zl, .inl (G.2.1, 8, .inl (qA (qU (m_up lo v i) i (v i))))), (zh, .inl (G.2.1, 8, .inl (qA (m_up hi v i)))), (zd, .inl (G.2.2.2.1, 8, .inl (qA (m_up dr (fun _ => 0) i)))), (mv, .inl (G.2.1, 8, .inl (qA v)))]) rfl ?_
        refine qv_aload_n C 1 d_S_clear_36 rfl rfl ?_
        refine qv_get C in_S 0 rfl rfl 2 (by decide) wf_S_18 rfl rfl d_S_clear_37 ?_
        refine qv_iload_n C 0 d_S_clear_40 rfl rfl ?_
        refine qv_aload_n C 2 d_S_clear_41 rfl rfl ?_
        refine qv_iload_n C 0 d_S_clear_42 rfl rfl ?_
        refine qv_iald C 5 rfl (by omega) d_S_clear_43 ?_
        refine qv_iast C 3 rfl (by omega) d_S_clear_44 (ws' := [(z, .inr (1, [.ref zv, .ref zl, .ref zh, .ref zc, .ref zd, .int (qI 1), .long (qL 0)])), (zv, .inl (G.2.1, 8, .inl (qA (qU (m_up w v i) i (v i))))), (zl, .inl (G.2.1, 8, .inl (qA (qU (m_up lo v i) i (v i))))), (zh, .inl (G.2.1, 8, .inl (qA (qU (m_up hi v i) i (v i))))), (zd, .inl (G.2.2.2.1, 8, .inl (qA (m_up dr (fun _ => 0) i)))), (mv, .inl (G.2.1, 8, .inl (qA v)))]) rfl ?_
        refine qv_aload_n C 1 d_S_clear_45 rfl rfl ?_
        refine qv_get C in_S 0 rfl rfl 4 (by decide) wf_S_24 rfl rfl d_S_clear_46 ?_
        refine qv_iload_n C 0 d_S_clear_49 rfl rfl ?_
        refine qv_iconst C d_S_clear_50 ?_
        refine qv_zast C 4 rfl (by omega) (by omega) d_S_clear_51 (ws' := [(z, .inr (1, [.ref zv, .ref zl, .ref zh, .ref zc, .ref zd, .int (qI 1), .long (qL 0)])), (zv, .inl (G.2.1, 8, .inl (qA (qU (m_up w v i) i (v i))))), (zl, .inl (G.2.1, 8, .inl (qA (qU (m_up lo v i) i (v i))))), (zh, .inl (G.2.1, 8, .inl (qA (qU (m_up hi v i) i (v i))))), (zd, .inl (G.2.2.2.1, 8, .inl (qA (qU (m_up dr (fun _ => 0) i) i 0)))), (mv, .inl (G.2.1, 8, .inl (qA v)))]) rfl ?_
        refine qv_iinc C 0 d_S_clear_52 rfl (by decide) (lv' := [(2, .int (qI (i + 1))), (0, .ref z), (1, .ref mv)]) rfl ?_
        refine qv_goto C d_S_clear_55 (by decide) (tgt := 12) ?_
        refine qv_eq (ws' := [(z, .inr (1, [.ref zv, .ref zl, .ref zh, .ref zc, .ref zd, .int (qI 1), .long (qL 0)])), (zv, .inl (G.2.1, 8, .inl (qA (m_up w v (i + 1))))), (zl, .inl (G.2.1, 8, .inl (qA (m_up lo v (i + 1))))), (zh, .inl (G.2.1, 8, .inl (qA (m_up hi v (i + 1))))), (zd, .inl (G.2.2.2.1, 8, .inl (qA (m_up dr (fun _ => 0) (i + 1))))), (mv, .inl (G.2.1, 8, .inl (qA v)))]) (lv' := [(2, .int (qI (i + 1))), (0, .ref z), (1, .ref mv)]) (by rw [m_up_s (f := w) (g := v) hi_.1, m_up_s (f := lo) (g := v) hi_.1, m_up_s (f := hi) (g := v) hi_.1, show qU (m_up dr (fun _ => 0) i) i 0 = m_up dr (fun _ => 0) (i + 1) from m_up_s (g := (fun _ => 0)) hi_.1]) (rfl) rfl ?_
        exact ih12 (i + 1) (by omega) (by first | assumption | omega)
  refine qv_eq (ws' := [(z, .inr (1, [.ref zv, .ref zl, .ref zh, .ref zc, .ref zd, .int (qI 1), .long (qL 0)])), (zv, .inl (G.2.1, 8, .inl (qA (m_up w v 0)))), (zl, .inl (G.2.1, 8, .inl (qA (m_up lo v 0)))), (zh, .inl (G.2.1, 8, .inl (qA (m_up hi v 0)))), (zd, .inl (G.2.2.2.1, 8, .inl (qA (m_up dr (fun _ => 0) 0)))), (mv, .inl (G.2.1, 8, .inl (qA v)))]) (lv' := [(2, .int (qI 0)), (0, .ref z), (1, .ref mv)]) (by rw [m_up_0, m_up_0, m_up_0, m_up_0]) (rfl) rfl ?_
  exact L12 _ 0 (Nat.lt_succ_self _) (by first | assumption | omega)
set_option maxHeartbeats 4000000 in
set_option maxRecDepth 100000 in
theorem c_S_count (l : Launch) (G : qG) {z zv zl zh zc zd : Nat} {fu len c x : Int} {w lo hi : Int → Int} (hc : 0 ≤ c ∧ c ≤ 7) (hx : -1000000 ≤ x ∧ x ≤ 1000000) (hw : ∀ c, 0 ≤ w c ∧ w c ≤ 1000000) (hlo : ∀ c, 0 ≤ lo c ∧ lo c ≤ 1000000) (hhi : ∀ c, 0 ≤ hi c ∧ hi c ≤ 1000000) : qM l G y_S_count b_S_count 4 none ({ frames := 1, cells := 0, slots := 0, locals := 40 }) [.ref z, .int (qI c), .int (qI x)] [(z, .inr (1, [.ref zv, .ref zl, .ref zh, .ref zc, .ref zd, .int (qI fu), .long (qL len)])), (zv, .inl (G.2.1, 8, .inl (qA w))), (zl, .inl (G.2.1, 8, .inl (qA lo))), (zh, .inl (G.2.1, 8, .inl (qA hi)))] (fun v' ws' => ∃ (fu' : Int) (w' lo' hi' : Int → Int), v' = none ∧ ws' = [(z, .inr (1, [.ref zv, .ref zl, .ref zh, .ref zc, .ref zd, .int (qI fu'), .long (qL len)])), (zv, .inl (G.2.1, 8, .inl (qA w'))), (zl, .inl (G.2.1, 8, .inl (qA lo'))), (zh, .inl (G.2.1, 8, .inl (qA hi')))] ∧ ((m_ct c x (w, lo, hi) = some (w', lo', hi') ∧ fu' = fu) ∨ (m_ct c x (w, lo, hi) = none ∧ fu' = 0 ∧ w' = w ∧ lo' = lo ∧ hi' = hi))) := by
  refine qM.of (by decide) (Nat.le_of_ble_eq_true rfl) (fun xp xe xs xm xb xme xc A C hrt hlk hnm => ?_)
  refine qv_eq (lv' := [(0, .ref z), (1, .int (qI c)), (2, .int (qI x))]) rfl rfl rfl ?_
  refine qv_aload_n C 0 d_S_count_0 rfl rfl ?_
  refine qv_get C in_S 0 rfl rfl 0 (by decide) wf_S_9 rfl rfl d_S_count_1 ?_
  refine qv_iload_n C 1 d_S_count_4 rfl rfl ?_
  refine qv_iald C 1 rfl (by omega) d_S_count_5 ?_
  have hq0 := hw c
  refine qv_iload_n C 2 d_S_count_6 rfl rfl ?_
  refine qv_iadd C d_S_count_7 ?_
  refine qv_istore_n C d_S_count_8 rfl (by decide) (lv' := [(3, .int (qI ((w c) + x))), (0, .ref z), (1, .int (qI c)), (2, .int (qI x))]) rfl ?_
  refine qv_iload_n C 0 d_S_count_9 rfl rfl ?_
  refine qv_if_lt C d_S_count_10 (tgt := 19) (by decide) (by omega) (fun ht10 => ?_) (fun hf10 => ?_)
  · refine qv_aload_n C 1 d_S_count_19 rfl rfl ?_
    refine qv_iconst C d_S_count_20 ?_
    refine qv_put C in_S 0 rfl rfl 5 (by decide) t_S t_S_ok n_S wf_S_40 rfl rfl (t_S_ok 5 (by decide)) (by decide) (by decide) (Nat.le_of_ble_eq_true rfl) d_S_count_21 (ws' := [(z, .inr (1, [.ref zv, .ref zl, .ref zh, .ref zc, .ref zd, .int (qI 0), .long (qL len)])), (zv, .inl (G.2.1, 8, .inl (qA w))), (zl, .inl (G.2.1, 8, .inl (qA lo))), (zh, .inl (G.2.1, 8, .inl (qA hi)))]) rfl ?_
    refine qv_vret C hrt hlk d_S_count_24 ?_
    exact ⟨0, w, lo, hi, rfl, rfl, Or.inr ⟨m_ct_none (by dsimp only; omega), rfl, rfl, rfl, rfl⟩⟩
  · refine qv_iload_n C 0 d_S_count_13 rfl rfl ?_
    refine qv_ldc C (n := 1000000) wk_S_71 (by decide) d_S_count_14 ?_
    refine qv_icmp_le C d_S_count_16 (tgt := 25) (by decide) (by omega) (by omega) (fun ht16 => ?_) (fun hf16 => ?_)
    · refine qv_aload_n C 1 d_S_count_25 rfl rfl ?_
      refine qv_get C in_S 0 rfl rfl 0 (by decide) wf_S_9 rfl rfl d_S_count_26 ?_
      refine qv_iload_n C 2 d_S_count_29 rfl rfl ?_
      refine qv_iload_n C 0 d_S_count_30 rfl rfl ?_
      refine qv_iast C 1 rfl (by omega) d_S_count_31 (ws' := [(z, .inr (1, [.ref zv, .ref zl, .ref zh, .ref zc, .ref zd, .int (qI fu), .long (qL len)])), (zv, .inl (G.2.1, 8, .inl (qA (qU w c ((w c) + x))))), (zl, .inl (G.2.1, 8, .inl (qA lo))), (zh, .inl (G.2.1, 8, .inl (qA hi)))]) rfl ?_
      refine qv_aload_n C 1 d_S_count_32 rfl rfl ?_
      refine qv_get C in_S 0 rfl rfl 1 (by decide) wf_S_15 rfl rfl d_S_count_33 ?_
      refine qv_iload_n C 2 d_S_count_36 rfl rfl ?_
      refine qv_aload_n C 1 d_S_count_37 rfl rfl ?_
      refine qv_get C in_S 0 rfl rfl 1 (by decide) wf_S_15 rfl rfl d_S_count_38 ?_
      refine qv_iload_n C 2 d_S_count_41 rfl rfl ?_
      refine qv_iald C 2 rfl (by omega) d_S_count_42 ?_
      have hq1 := hlo c
      refine qv_iload_n C 0 d_S_count_43 rfl rfl ?_
      refine qv_min C wm_S_72 (by omega) (by omega) (by decide) (Nat.le_of_ble_eq_true rfl) (by decide) d_S_count_44 ?_
      refine qv_iast C 2 rfl (by omega) d_S_count_47 (ws' := [(z, .inr (1, [.ref zv, .ref zl, .ref zh, .ref zc, .ref zd, .int (qI fu), .long (qL len)])), (zv, .inl (G.2.1, 8, .inl (qA (qU w c ((w c) + x))))), (zl, .inl (G.2.1, 8, .inl (qA (qU lo c (min (lo c) ((w c) + x)))))), (zh, .inl (G.2.1, 8, .inl (qA hi)))]) rfl ?_
      refine qv_aload_n C 1 d_S_count_48 rfl rfl ?_
      refine qv_get C in_S 0 rfl rfl 2 (by decide) wf_S_18 rfl rfl d_S_count_49 ?_
      refine qv_iload_n C 2 d_S_count_52 rfl rfl ?_
      refine qv_aload_n C 1 d_S_count_53 rfl rfl ?_
      refine qv_get C in_S 0 rfl rfl 2 (by decide) wf_S_18 rfl rfl d_S_count_54 ?_
      refine qv_iload_n C 2 d_S_count_57 rfl rfl ?_
      refine qv_iald C 3 rfl (by omega) d_S_count_58 ?_
      have hq2 := hhi c
      refine qv_iload_n C 0 d_S_count_59 rfl rfl ?_
      refine qv_max C wm_S_66 (by omega) (by omega) (by decide) (Nat.le_of_ble_eq_true rfl) (by decide) d_S_count_60 ?_
      refine qv_iast C 3 rfl (by omega) d_S_count_63 (ws' := [(z, .inr (1, [.ref zv, .ref zl, .ref zh, .ref zc, .ref zd, .int (qI fu), .long (qL len)])), (zv, .inl (G.2.1, 8, .inl (qA (qU w c ((w c) + x))))), (zl, .inl (G.2.1, 8, .inl (qA (qU lo c (min (lo c) ((w c) + x)))))), (zh, .inl (G.2.1, 8, .inl (qA (qU hi c (max (hi c) ((w c) + x))))))]) rfl ?_
      refine qv_vret C hrt hlk d_S_count_64 ?_
      exact ⟨fu, _, _, _, rfl, rfl, Or.inl ⟨m_ct_val (S := (w, lo, hi)) (by dsimp only; omega), rfl⟩⟩
    · refine qv_aload_n C 1 d_S_count_19 rfl rfl ?_
      refine qv_iconst C d_S_count_20 ?_
      refine qv_put C in_S 0 rfl rfl 5 (by decide) t_S t_S_ok n_S wf_S_40 rfl rfl (t_S_ok 5 (by decide)) (by decide) (by decide) (Nat.le_of_ble_eq_true rfl) d_S_count_21 (ws' := [(z, .inr (1, [.ref zv, .ref zl, .ref zh, .ref zc, .ref zd, .int (qI 0), .long (qL len)])), (zv, .inl (G.2.1, 8, .inl (qA w))), (zl, .inl (G.2.1, 8, .inl (qA lo))), (zh, .inl (G.2.1, 8, .inl (qA hi)))]) rfl ?_
      refine qv_vret C hrt hlk d_S_count_24 ?_
      exact ⟨0, w, lo, hi, rfl, rfl, Or.inr ⟨m_ct_none (by dsimp only; omega), rfl, rfl, rfl, rfl⟩⟩
set_option maxHeartbeats 4000000 in
set_option maxRecDepth 100000 in
theorem c_S_drain (l : Launch) (G : qG) {z zv zl zh zc zd : Nat} {p pk pr pt pd pb ph pe pg : Nat} {n lc fu len i0 e : Int} {w lo hi dr r : Int → Int} (hfu : fu = 1) (hi0 : 0 ≤ i0 ∧ i0 < e ∧ e < 24) (hrj : ∀ j, i0 ≤ j → j < e → 0 ≤ r j ∧ r j ≤ 7) (hw : ∀ c, 0 ≤ w c ∧ w c ≤ 1000000) (hlo : ∀ c, 0 ≤ lo c ∧ lo c ≤ 1000000) (hhi : ∀ c, 0 ≤ hi c ∧ hi c ≤ 1000000) : qM l G y_S_drain b_S_drain 7 none ({ frames := 2, cells := 0, slots := 0, locals := 63 }) [.ref z, .ref p, .int (qI i0), .int (qI e)] [(z, .inr (1, [.ref zv, .ref zl, .ref zh, .ref zc, .ref zd, .int (qI fu), .long (qL len)])), (zv, .inl (G.2.1, 8, .inl (qA w))), (zl, .inl (G.2.1, 8, .inl (qA lo))), (zh, .inl (G.2.1, 8, .inl (qA hi))), (zd, .inl (G.2.2.2.1, 8, .inl (qA dr))), (p, .inr (2, [.ref pk, .ref pr, .ref pt, .int (qI n), .ref pd, .ref pb, .ref ph, .ref pe, .ref pg, .int (qI lc)])), (pr, .inl (G.2.1, 24, .inl (qA r)))] (fun v' ws' => ∃ (fu' : Int) (w' lo' hi' : Int → Int), v' = none ∧ ws' = [(z, .inr (1, [.ref zv, .ref zl, .ref zh, .ref zc, .ref zd, .int (qI fu'), .long (qL (len + (w (r i0) * (e - i0 + 1) + 1)))])), (zv, .inl (G.2.1, 8, .inl (qA w'))), (zl, .inl (G.2.1, 8, .inl (qA lo'))), (zh, .inl (G.2.1, 8, .inl (qA hi'))), (zd, .inl (G.2.2.2.1, 8, .inl (qA (qU dr (r i0) 1)))), (p, .inr (2, [.ref pk, .ref pr, .ref pt, .int (qI n), .ref pd, .ref pb, .ref ph, .ref pe, .ref pg, .int (qI lc)])), (pr, .inl (G.2.1, 24, .inl (qA r)))] ∧ ((fu' = 1 ∧ ∃ S1 : m_S, m_dr r e (w (r i0)) 24 (i0 + 1) (w, lo, hi) = some S1 ∧ w' = qU S1.1 (r i0) 0 ∧ lo' = S1.2.1 ∧ hi' = S1.2.2) ∨ (fu' = 0 ∧ m_dr r e (w (r i0)) 24 (i0 + 1) (w, lo, hi) = none)) ∧ (∀ c, 0 ≤ w' c ∧ w' c ≤ 1000000) ∧ (∀ c, 0 ≤ lo' c ∧ lo' c ≤ 1000000) ∧ (∀ c, 0 ≤ hi' c ∧ hi' c ≤ 1000000) ∧ (∀ c : Int, ¬ (0 ≤ c ∧ c < 8) → w' c = w c ∧ lo' c = lo c ∧ hi' c = hi c)) := by
  refine qM.of (by decide) (Nat.le_of_ble_eq_true rfl) (fun xp xe xs xm xb xme xc A C hrt hlk hnm => ?_)
  refine qv_eq (lv' := [(0, .ref z), (1, .ref p), (2, .int (qI i0)), (3, .int (qI e))]) rfl rfl rfl ?_
  refine qv_aload_n C 1 d_S_drain_0 rfl rfl ?_
  refine qv_getN C in_P 5 rfl rfl 1 (by decide) wf_S_48 rfl rfl d_S_drain_1 ?_
  refine qv_iload_n C 2 d_S_drain_4 rfl rfl ?_
  refine qv_iald C 6 rfl (by omega) d_S_drain_5 ?_
  have hq0 := hrj i0 (by omega) (by omega)
  refine qv_istore C d_S_drain_6 (by decide) (lv' := [(4, .int (qI (r i0))), (0, .ref z), (1, .ref p), (2, .int (qI i0)), (3, .int (qI e))]) rfl ?_
  refine qv_aload_n C 1 d_S_drain_8 rfl rfl ?_
  refine qv_get C in_S 0 rfl rfl 0 (by decide) wf_S_9 rfl rfl d_S_drain_9 ?_
  refine qv_iload C 0 d_S_drain_12 rfl ?_
  refine qv_iald C 1 rfl (by omega) d_S_drain_14 ?_
  have hq1 := hw (r i0)
  refine qv_istore C d_S_drain_15 (by decide) (lv' := [(5, .int (qI (w (r i0)))), (4, .int (qI (r i0))), (0, .ref z), (1, .ref p), (2, .int (qI i0)), (3, .int (qI e))]) rfl ?_
  refine qv_iload_n C 4 d_S_drain_17 rfl rfl ?_
  refine qv_iconst C d_S_drain_18 ?_
  refine qv_iadd C d_S_drain_19 ?_
  refine qv_istore C d_S_drain_20 (by decide) (lv' := [(6, .int (qI (i0 + 1))), (5, .int (qI (w (r i0)))), (4, .int (qI (r i0))), (0, .ref z), (1, .ref p), (2, .int (qI i0)), (3, .int (qI e))]) rfl ?_
  have L22 : ∀ (N22 : Nat) (j : Int) (f : Nat) (fu' : Int) (w' : Int → Int) (lo' : Int → Int) (hi' : Int → Int), (e - j).toNat < N22 → (i0 + 1 ≤ j ∧ j ≤ 24) → (e - j ≤ (f : Int)) → ((fu' = 1 ∧ m_dr r e (w (r i0)) 24 (i0 + 1) (w, lo, hi) = m_dr r e (w (r i0)) f j (w', lo', hi')) ∨ (fu' = 0 ∧ m_dr r e (w (r i0)) 24 (i0 + 1) (w, lo, hi) = none)) → (∀ c, 0 ≤ w' c ∧ w' c ≤ 1000000) → (∀ c, 0 ≤ lo' c ∧ lo' c ≤ 1000000) → (∀ c, 0 ≤ hi' c ∧ hi' c ≤ 1000000) → (∀ c : Int, ¬ (0 ≤ c ∧ c < 8) → w' c = w c ∧ lo' c = lo c ∧ hi' c = hi c) → qV xp l xe ({ frames := 2, cells := 0, slots := 0, locals := 63 }) xs xm [.ref z, .ref p, .int (qI i0), .int (qI e)].toArray xb xme xc G A xs.heap 7 (MQ xb (qQ G A (fun v' ws' => ∃ (fu' : Int) (w' lo' hi' : Int → Int), v' = none ∧ ws' = [(z, .inr (1, [.ref zv, .ref zl, .ref zh, .ref zc, .ref zd, .int (qI fu'), .long (qL (len + (w (r i0) * (e - i0 + 1) + 1)))])), (zv, .inl (G.2.1, 8, .inl (qA w'))), (zl, .inl (G.2.1, 8, .inl (qA lo'))), (zh, .inl (G.2.1, 8, .inl (qA hi'))), (zd, .inl (G.2.2.2.1, 8, .inl (qA (qU dr (r i0) 1)))), (p, .inr (2, [.ref pk, .ref pr, .ref pt, .int (qI n), .ref pd, .ref pb, .ref ph, .ref pe, .ref pg, .int (qI lc)])), (pr, .inl (G.2.1, 24, .inl (qA r)))] ∧ ((fu' = 1 ∧ ∃ S1 : m_S, m_dr r e (w (r i0)) 24 (i0 + 1) (w, lo, hi) = some S1 ∧ w' = qU S1.1 (r i0) 0 ∧ lo' = S1.2.1 ∧ hi' = S1.2.2) ∨ (fu' = 0 ∧ m_dr r e (w (r i0)) 24 (i0 + 1) (w, lo, hi) = none)) ∧ (∀ c, 0 ≤ w' c ∧ w' c ≤ 1000000) ∧ (∀ c, 0 ≤ lo' c ∧ lo' c ≤ 1000000) ∧ (∀ c, 0 ≤ hi' c ∧ hi' c ≤ 1000000) ∧ (∀ c : Int, ¬ (0 ≤ c ∧ c < 8) → w' c = w c ∧ lo' c = lo c ∧ hi' c = hi c))) [.ref z, .ref p, .int (qI i0), .int (qI e)].toArray xs 0 0 A) 0 0 [(z, .inr (1, [.ref zv, .ref zl, .ref zh, .ref zc, .ref zd, .int (qI fu'), .long (qL len)])), (zv, .inl (G.2.1, 8, .inl (qA w'))), (zl, .inl (G.2.1, 8, .inl (qA lo'))), (zh, .inl (G.2.1, 8, .inl (qA hi'))), (zd, .inl (G.2.2.2.1, 8, .inl (qA dr))), (p, .inr (2, [.ref pk, .ref pr, .ref pt, .int (qI n), .ref pd, .ref pb, .ref ph, .ref pe, .ref pg, .int (qI lc)])), (pr, .inl (G.2.1, 24, .inl (qA r)))] [(6, .int (qI j)), (5, .int (qI (w (r i0)))), (4, .int (qI (r i0))), (0, .ref z), (1, .ref p), (2, .int (qI i0)), (3, .int (qI e))] 22 [] := by
    intro N22
    induction N22 with
    | zero => intro j f fu' w' lo' hi' hmu; exact absurd hmu (Nat.not_lt_zero _)
    | succ N22 ih22 =>
      intro j f fu' w' lo' hi' hmu22 hj hg hcs hw' hlo' hhi' hout
      refine qv_iload C 0 d_S_drain_22 rfl ?_
      refine qv_iload_n C 6 d_S_drain_24 rfl rfl ?_
      refine qv_icmp_ge C d_S_drain_25 (tgt := 47) (by decide) (by omega) (by omega) (fun ht25 => ?_) (fun hf25 => ?_)
      · refine qv_aload_n C 3 d_S_drain_47 rfl rfl ?_
        refine qv_get C in_S 0 rfl rfl 0 (by decide) wf_S_9 rfl rfl d_S_drain_48 ?_
        refine qv_iload C 2 d_S_drain_51 rfl ?_
        refine qv_iconst C d_S_drain_53 ?_
        refine qv_iast C 1 rfl (by omega) d_S_drain_54 (ws' := [(z, .inr (1, [.ref zv, .ref zl, .ref zh, .ref zc, .ref zd, .int (qI fu'), .long (qL len)])), (zv, .inl (G.2.1, 8, .inl (qA (qU w' (r i0) 0)))), (zl, .inl (G.2.1, 8, .inl (qA lo'))), (zh, .inl (G.2.1, 8, .inl (qA hi'))), (zd, .inl (G.2.2.2.1, 8, .inl (qA dr))), (p, .inr (2, [.ref pk, .ref pr, .ref pt, .int (qI n), .ref pd, .ref pb, .ref ph, .ref pe, .ref pg, .int (qI lc)])), (pr, .inl (G.2.1, 24, .inl (qA r)))]) rfl ?_
        refine qv_aload_n C 3 d_S_drain_55 rfl rfl ?_
        refine qv_get C in_S 0 rfl rfl 4 (by decide) wf_S_24 rfl rfl d_S_drain_56 ?_
        refine qv_iload C 2 d_S_drain_59 rfl ?_
        refine qv_iconst C d_S_drain_61 ?_
        refine qv_zast C 4 rfl (by omega) (by omega) d_S_drain_62 (ws' := [(z, .inr (1, [.ref zv, .ref zl, .ref zh, .ref zc, .ref zd, .int (qI fu'), .long (qL len)])), (zv, .inl (G.2.1, 8, .inl (qA (qU w' (r i0) 0)))), (zl, .inl (G.2.1, 8, .inl (qA lo'))), (zh, .inl (G.2.1, 8, .inl (qA hi'))), (zd, .inl (G.2.2.2.1, 8, .inl (qA (qU dr (r i0) 1)))), (p, .inr (2, [.ref pk, .ref pr, .ref pt, .int (qI n), .ref pd, .ref pb, .ref ph, .ref pe, .ref pg, .int (qI lc)])), (pr, .inl (G.2.1, 24, .inl (qA r)))]) rfl ?_
        refine qv_aload_n C 3 d_S_drain_63 rfl rfl ?_
        refine qv_dup C d_S_drain_64 rfl ?_
        refine qv_get C in_S 0 rfl rfl 6 (by decide) wf_S_58 rfl rfl d_S_drain_65 ?_
        refine qv_iload C 1 d_S_drain_68 rfl ?_
        refine qv_i2l C (by omega) d_S_drain_70 ?_
        refine qv_iload_n C 6 d_S_drain_71 rfl rfl ?_
        refine qv_iload_n C 5 d_S_drain_72 rfl rfl ?_
        refine qv_isub C d_S_drain_73 ?_
        refine qv_iconst C d_S_drain_74 ?_
        refine qv_iadd C d_S_drain_75 ?_
        refine qv_i2l C (by omega) d_S_drain_76 ?_
        refine qv_lmul C d_S_drain_77 ?_
        refine qv_lconst C (z := 1) d_S_drain_78 (by decide) ?_
        refine qv_ladd C d_S_drain_79 ?_
        refine qv_ladd C d_S_drain_80 ?_
        refine qv_put C in_S 0 rfl rfl 6 (by decide) t_S t_S_ok n_S wf_S_58 rfl rfl (t_S_ok 6 (by decide)) (rfl) (rfl) (Nat.le_of_ble_eq_true rfl) d_S_drain_81 (ws' := [(z, .inr (1, [.ref zv, .ref zl, .ref zh, .ref zc, .ref zd, .int (qI fu'), .long (qL (len + (((w (r i0)) * ((e - i0) + 1)) + 1)))])), (zv, .inl (G.2.1, 8, .inl (qA (qU w' (r i0) 0)))), (zl, .inl (G.2.1, 8, .inl (qA lo'))), (zh, .inl (G.2.1, 8, .inl (qA hi'))), (zd, .inl (G.2.2.2.1, 8, .inl (qA (qU dr (r i0) 1)))), (p, .inr (2, [.ref pk, .ref pr, .ref pt, .int (qI n), .ref pd, .ref pb, .ref ph, .ref pe, .ref pg, .int (qI lc)])), (pr, .inl (G.2.1, 24, .inl (qA r)))]) rfl ?_
        refine qv_vret C hrt hlk d_S_drain_84 ?_
        refine ⟨fu', _, _, _, rfl, rfl, ?_, qU_rg hw' (by omega), hlo', hhi', fun c h => ⟨(qU_n (by omega)).trans (hout c h).1, (hout c h).2⟩⟩
        rcases hcs with ⟨c1, c2⟩ | ⟨c1, c2⟩
        · exact Or.inl ⟨c1, (w', lo', hi'), c2.trans (m_dr_stop (by omega)), rfl, rfl, rfl⟩
        · exact Or.inr ⟨c1, c2⟩
      · refine qv_aload_n C 3 d_S_drain_28 rfl rfl ?_
        refine qv_aload_n C 4 d_S_drain_29 rfl rfl ?_
        refine qv_getN C in_P 5 rfl rfl 1 (by decide) wf_S_48 rfl rfl d_S_drain_30 ?_
        refine qv_iload C 0 d_S_drain_33 rfl ?_
        refine qv_iald C 6 rfl (by omega) d_S_drain_35 ?_
        have hq2 := hrj j (by omega) (by omega)
        refine qv_iload C 1 d_S_drain_36 rfl ?_
        refine qv_cV (As := [.int (qI (r j)), .int (qI (w (r i0)))]) (rest := []) (wc := [(z, .inr (1, [.ref zv, .ref zl, .ref zh, .ref zc, .ref zd, .int (qI fu'), .long (qL len)])), (zv, .inl (G.2.1, 8, .inl (qA w'))), (zl, .inl (G.2.1, 8, .inl (qA lo'))), (zh, .inl (G.2.1, 8, .inl (qA hi')))]) (wr := [(zd, .inl (G.2.2.2.1, 8, .inl (qA dr))), (p, .inr (2, [.ref pk, .ref pr, .ref pt, .int (qI n), .ref pd, .ref pb, .ref ph, .ref pe, .ref pg, .int (qI lc)])), (pr, .inl (G.2.1, 24, .inl (qA r)))]) C k_S_count (c_S_count l G (c := r j) (x := w (r i0)) (hrj j (by omega) (by omega)) (by omega) hw' hlo' hhi') wm_S_54 wi_S_count ws_S_count 0 rfl rfl (by decide) d_S_drain_38 rfl rfl (Nat.le_of_ble_eq_true rfl) (by decide) [0, 1, 2, 3] [4, 5, 6] rfl (by decide) rfl (by decide) (by decide) (fun v ws' hpost => ?_)
        obtain ⟨fu2, w2, lo2, hi2, rfl, rfl, hal⟩ := hpost
        refine qv_eq (ws' := [(zd, .inl (G.2.2.2.1, 8, .inl (qA dr))), (p, .inr (2, [.ref pk, .ref pr, .ref pt, .int (qI n), .ref pd, .ref pb, .ref ph, .ref pe, .ref pg, .int (qI lc)])), (pr, .inl (G.2.1, 24, .inl (qA r))), (z, .inr (1, [.ref zv, .ref zl, .ref zh, .ref zc, .ref zd, .int (qI fu2), .long (qL len)])), (zv, .inl (G.2.1, 8, .inl (qA w2))), (zl, .inl (G.2.1, 8, .inl (qA lo2))), (zh, .inl (G.2.1, 8, .inl (qA hi2)))]) (st' := []) rfl rfl rfl ?_
        obtain ⟨f', rfl⟩ : ∃ f', f = f' + 1 := ⟨f - 1, by omega⟩
        have hnx : ((fu2 = 1 ∧ m_dr r e (w (r i0)) 24 (i0 + 1) (w, lo, hi) = m_dr r e (w (r i0)) f' (j + 1) (w2, lo2, hi2)) ∨ (fu2 = 0 ∧ m_dr r e (w (r i0)) 24 (i0 + 1) (w, lo, hi) = none)) ∧ (∀ c, 0 ≤ w2 c ∧ w2 c ≤ 1000000) ∧ (∀ c, 0 ≤ lo2 c ∧ lo2 c ≤ 1000000) ∧ (∀ c, 0 ≤ hi2 c ∧ hi2 c ≤ 1000000) ∧ (∀ c : Int, ¬ (0 ≤ c ∧ c < 8) → w2 c = w c ∧ lo2 c = lo c ∧ hi2 c = hi c) := by
          rcases hal with ⟨a1, rfl⟩ | ⟨a1, rfl, rfl, rfl, rfl⟩
          · obtain ⟨b1, b2, b3, b4⟩ := m_ct_rg a1 (hrj j (by omega) (by omega)) hw' hlo' hhi'
            refine ⟨?_, b1, b2, b3, fun c h => ⟨(b4 c h).1.trans (hout c h).1, (b4 c h).2.1.trans (hout c h).2.1, (b4 c h).2.2.trans (hout c h).2.2⟩⟩
            rcases hcs with ⟨c1, c2⟩ | ⟨c1, c2⟩
            · exact Or.inl ⟨c1, c2.trans (m_dr_go (by omega) a1)⟩
            · exact Or.inr ⟨c1, c2⟩
          · refine ⟨Or.inr ⟨rfl, ?_⟩, hw', hlo', hhi', hout⟩
            rcases hcs with ⟨c1, c2⟩ | ⟨c1, c2⟩
            · exact c2.trans (m_dr_no (by omega) a1)
            · exact c2
        refine qv_iinc C 0 d_S_drain_41 rfl (by decide) (lv' := [(6, .int (qI (j + 1))), (5, .int (qI (w (r i0)))), (4, .int (qI (r i0))), (0, .ref z), (1, .ref p), (2, .int (qI i0)), (3, .int (qI e))]) rfl ?_
        refine qv_goto C d_S_drain_44 (by decide) (tgt := 22) ?_
        refine qv_ws (ws' := [(z, .inr (1, [.ref zv, .ref zl, .ref zh, .ref zc, .ref zd, .int (qI fu2), .long (qL len)])), (zv, .inl (G.2.1, 8, .inl (qA w2))), (zl, .inl (G.2.1, 8, .inl (qA lo2))), (zh, .inl (G.2.1, 8, .inl (qA hi2))), (zd, .inl (G.2.2.2.1, 8, .inl (qA dr))), (p, .inr (2, [.ref pk, .ref pr, .ref pt, .int (qI n), .ref pd, .ref pb, .ref ph, .ref pe, .ref pg, .int (qI lc)])), (pr, .inl (G.2.1, 24, .inl (qA r)))]) [3, 4, 5, 6, 0, 1, 2] (by decide) rfl ?_
        exact ih22 (j + 1) f' fu2 w2 lo2 hi2 (by omega) (by omega) (by omega) (hnx.1) (hnx.2.1) (hnx.2.2.1) (hnx.2.2.2.1) (hnx.2.2.2.2)
  exact L22 _ (i0 + 1) 24 fu w lo hi (Nat.lt_succ_self _) (by omega) (by omega) (Or.inl ⟨hfu, rfl⟩) (hw) (hlo) (hhi) (fun _ _ => ⟨rfl, rfl, rfl⟩)
set_option maxHeartbeats 4000000 in
set_option maxRecDepth 100000 in
theorem c_S_changesNothing (l : Launch) (G : qG) {z zv zl zh zc zd : Nat} {fu len : Int} {ch : Int → Int} (hch : ∀ c, -1000000 ≤ ch c ∧ ch c ≤ 1000000) : qM l G y_S_changesNothing b_S_changesNothing 2 (some .boolean) ({ frames := 0, cells := 0, slots := 0, locals := 0 }) [.ref z] [(z, .inr (1, [.ref zv, .ref zl, .ref zh, .ref zc, .ref zd, .int (qI fu), .long (qL len)])), (zc, .inl (G.2.1, 8, .inl (qA ch)))] (fun v' ws' => ws' = [(z, .inr (1, [.ref zv, .ref zl, .ref zh, .ref zc, .ref zd, .int (qI fu), .long (qL len)])), (zc, .inl (G.2.1, 8, .inl (qA ch)))] ∧ ∃ x : Int, v' = some (.int (qI x)) ∧ ((x = 1 ∧ ∀ c, 0 ≤ c → c < 8 → ch c = 0) ∨ (x = 0 ∧ ∃ c, 0 ≤ c ∧ c < 8 ∧ ¬ ch c = 0))) := by
  refine qM.of (by decide) (Nat.le_of_ble_eq_true rfl) (fun xp xe xs xm xb xme xc A C hrt hlk hnm => ?_)
  refine qv_eq (lv' := [(0, .ref z)]) rfl rfl rfl ?_
  refine qv_iconst C d_S_changesNothing_0 ?_
  refine qv_istore_n C d_S_changesNothing_1 rfl (by decide) (lv' := [(1, .int (qI 0)), (0, .ref z)]) rfl ?_
  have L2 : ∀ (N2 : Nat) (i : Int), (8 - i).toNat < N2 → (0 ≤ i ∧ i ≤ 8) → (∀ c, 0 ≤ c → c < i → ch c = 0) → qV xp l xe ({ frames := 0, cells := 0, slots := 0, locals := 0 }) xs xm [.ref z].toArray xb xme xc G A xs.heap 2 (MQ xb (qQ G A (fun v' ws' => ws' = [(z, .inr (1, [.ref zv, .ref zl, .ref zh, .ref zc, .ref zd, .int (qI fu), .long (qL len)])), (zc, .inl (G.2.1, 8, .inl (qA ch)))] ∧ ∃ x : Int, v' = some (.int (qI x)) ∧ ((x = 1 ∧ ∀ c, 0 ≤ c → c < 8 → ch c = 0) ∨ (x = 0 ∧ ∃ c, 0 ≤ c ∧ c < 8 ∧ ¬ ch c = 0)))) [.ref z].toArray xs 0 0 A) 0 0 [(z, .inr (1, [.ref zv, .ref zl, .ref zh, .ref zc, .ref zd, .int (qI fu), .long (qL len)])), (zc, .inl (G.2.1, 8, .inl (qA ch)))] [(1, .int (qI i)), (0, .ref z)] 2 [] := by
    intro N2
    induction N2 with
    | zero => intro i hmu; exact absurd hmu (Nat.not_lt_zero _)
    | succ N2 ih2 =>
      intro i hmu2 hi_ hz
      refine qv_iload_n C 0 d_S_changesNothing_2 rfl rfl ?_
      refine qv_bipush C d_S_changesNothing_3 (by decide) ?_
      refine qv_icmp_ge C d_S_changesNothing_5 (tgt := 25) (by decide) (by omega) (by omega) (fun ht5 => ?_) (fun hf5 => ?_)
      · refine qv_iconst C d_S_changesNothing_25 ?_
        refine qv_zret C (by omega) hrt hlk d_S_changesNothing_26 ?_
        exact ⟨rfl, 1, rfl, Or.inl ⟨rfl, fun c h1 h2 => hz c h1 (by omega)⟩⟩
      · refine qv_aload_n C 1 d_S_changesNothing_8 rfl rfl ?_
        refine qv_get C in_S 0 rfl rfl 3 (by decide) wf_S_21 rfl rfl d_S_changesNothing_9 ?_
        refine qv_iload_n C 0 d_S_changesNothing_12 rfl rfl ?_
        refine qv_iald C 1 rfl (by omega) d_S_changesNothing_13 ?_
        have hq0 := hch i
        refine qv_if_eq C d_S_changesNothing_14 (tgt := 19) (by decide) (by omega) (fun ht14 => ?_) (fun hf14 => ?_)
        · refine qv_iinc C 0 d_S_changesNothing_19 rfl (by decide) (lv' := [(1, .int (qI (i + 1))), (0, .ref z)]) rfl ?_
          refine qv_goto C d_S_changesNothing_22 (by decide) (tgt := 2) ?_
          exact ih2 (i + 1) (by omega) (by omega) (fun c h1 h2 => by by_cases hc : c = i; (· subst hc; assumption); (· exact hz c h1 (by omega)))
        · refine qv_iconst C d_S_changesNothing_17 ?_
          refine qv_zret C (by omega) hrt hlk d_S_changesNothing_18 ?_
          exact ⟨rfl, 0, rfl, Or.inr ⟨rfl, i, by omega, by omega, by assumption⟩⟩
  exact L2 _ 0 (Nat.lt_succ_self _) (by first | assumption | omega) (fun c h1 h2 => by omega)
set_option maxHeartbeats 4000000 in
set_option maxRecDepth 100000 in
theorem c_S_changesDrained (l : Launch) (G : qG) {z zv zl zh zc zd : Nat} {fu len : Int} {ch dr : Int → Int} (hch : ∀ c, -1000000 ≤ ch c ∧ ch c ≤ 1000000) (hdr : ∀ c, 0 ≤ dr c ∧ dr c ≤ 1) : qM l G y_S_changesDrained b_S_changesDrained 2 (some .boolean) ({ frames := 0, cells := 0, slots := 0, locals := 0 }) [.ref z] [(z, .inr (1, [.ref zv, .ref zl, .ref zh, .ref zc, .ref zd, .int (qI fu), .long (qL len)])), (zc, .inl (G.2.1, 8, .inl (qA ch))), (zd, .inl (G.2.2.2.1, 8, .inl (qA dr)))] (fun v' ws' => ws' = [(z, .inr (1, [.ref zv, .ref zl, .ref zh, .ref zc, .ref zd, .int (qI fu), .long (qL len)])), (zc, .inl (G.2.1, 8, .inl (qA ch))), (zd, .inl (G.2.2.2.1, 8, .inl (qA dr)))] ∧ ∃ x : Int, v' = some (.int (qI x)) ∧ ((x = 0 ∧ ∀ c, 0 ≤ c → c < 8 → dr c = 1 → ch c = 0) ∨ (x = 1 ∧ ∃ c, 0 ≤ c ∧ c < 8 ∧ dr c = 1 ∧ ¬ ch c = 0))) := by
  refine qM.of (by decide) (Nat.le_of_ble_eq_true rfl) (fun xp xe xs xm xb xme xc A C hrt hlk hnm => ?_)
  refine qv_eq (lv' := [(0, .ref z)]) rfl rfl rfl ?_
  refine qv_iconst C d_S_changesDrained_0 ?_
  refine qv_istore_n C d_S_changesDrained_1 rfl (by decide) (lv' := [(1, .int (qI 0)), (0, .ref z)]) rfl ?_
  have L2 : ∀ (N2 : Nat) (i : Int), (8 - i).toNat < N2 → (0 ≤ i ∧ i ≤ 8) → (∀ c, 0 ≤ c → c < i → dr c = 1 → ch c = 0) → qV xp l xe ({ frames := 0, cells := 0, slots := 0, locals := 0 }) xs xm [.ref z].toArray xb xme xc G A xs.heap 2 (MQ xb (qQ G A (fun v' ws' => ws' = [(z, .inr (1, [.ref zv, .ref zl, .ref zh, .ref zc, .ref zd, .int (qI fu), .long (qL len)])), (zc, .inl (G.2.1, 8, .inl (qA ch))), (zd, .inl (G.2.2.2.1, 8, .inl (qA dr)))] ∧ ∃ x : Int, v' = some (.int (qI x)) ∧ ((x = 0 ∧ ∀ c, 0 ≤ c → c < 8 → dr c = 1 → ch c = 0) ∨ (x = 1 ∧ ∃ c, 0 ≤ c ∧ c < 8 ∧ dr c = 1 ∧ ¬ ch c = 0)))) [.ref z].toArray xs 0 0 A) 0 0 [(z, .inr (1, [.ref zv, .ref zl, .ref zh, .ref zc, .ref zd, .int (qI fu), .long (qL len)])), (zc, .inl (G.2.1, 8, .inl (qA ch))), (zd, .inl (G.2.2.2.1, 8, .inl (qA dr)))] [(1, .int (qI i)), (0, .ref z)] 2 [] := by
    intro N2
    induction N2 with
    | zero => intro i hmu; exact absurd hmu (Nat.not_lt_zero _)
    | succ N2 ih2 =>
      intro i hmu2 hi_ hz
      refine qv_iload_n C 0 d_S_changesDrained_2 rfl rfl ?_
      refine qv_bipush C d_S_changesDrained_3 (by decide) ?_
      refine qv_icmp_ge C d_S_changesDrained_5 (tgt := 34) (by decide) (by omega) (by omega) (fun ht5 => ?_) (fun hf5 => ?_)
      · refine qv_iconst C d_S_changesDrained_34 ?_
        refine qv_zret C (by omega) hrt hlk d_S_changesDrained_35 ?_
        exact ⟨rfl, 0, rfl, Or.inl ⟨rfl, fun c h1 h2 => hz c h1 (by omega)⟩⟩
      · refine qv_aload_n C 1 d_S_changesDrained_8 rfl rfl ?_
        refine qv_get C in_S 0 rfl rfl 4 (by decide) wf_S_24 rfl rfl d_S_changesDrained_9 ?_
        refine qv_iload_n C 0 d_S_changesDrained_12 rfl rfl ?_
        refine qv_zald C 2 rfl (by omega) d_S_changesDrained_13 ?_
        have hq0 := hdr i
        refine qv_if_eq C d_S_changesDrained_14 (tgt := 28) (by decide) (by omega) (fun ht14 => ?_) (fun hf14 => ?_)
        · refine qv_iinc C 0 d_S_changesDrained_28 rfl (by decide) (lv' := [(1, .int (qI (i + 1))), (0, .ref z)]) rfl ?_
          refine qv_goto C d_S_changesDrained_31 (by decide) (tgt := 2) ?_
          exact ih2 (i + 1) (by omega) (by omega) (fun c h1 h2 h3 => by by_cases hc : c = i; (· subst hc; omega); (· exact hz c h1 (by omega) h3))
        · refine qv_aload_n C 1 d_S_changesDrained_17 rfl rfl ?_
          refine qv_get C in_S 0 rfl rfl 3 (by decide) wf_S_21 rfl rfl d_S_changesDrained_18 ?_
          refine qv_iload_n C 0 d_S_changesDrained_21 rfl rfl ?_
          refine qv_iald C 1 rfl (by omega) d_S_changesDrained_22 ?_
          have hq1 := hch i
          refine qv_if_eq C d_S_changesDrained_23 (tgt := 28) (by decide) (by omega) (fun ht23 => ?_) (fun hf23 => ?_)
          · refine qv_iinc C 0 d_S_changesDrained_28 rfl (by decide) (lv' := [(1, .int (qI (i + 1))), (0, .ref z)]) rfl ?_
            refine qv_goto C d_S_changesDrained_31 (by decide) (tgt := 2) ?_
            exact ih2 (i + 1) (by omega) (by omega) (fun c h1 h2 h3 => by by_cases hc : c = i; (· subst hc; omega); (· exact hz c h1 (by omega) h3))
          · refine qv_iconst C d_S_changesDrained_26 ?_
            refine qv_zret C (by omega) hrt hlk d_S_changesDrained_27 ?_
            exact ⟨rfl, 1, rfl, Or.inr ⟨rfl, i, by omega, by omega, by omega, by assumption⟩⟩
  exact L2 _ 0 (Nat.lt_succ_self _) (by first | assumption | omega) (fun c h1 h2 => by omega)
set_option maxHeartbeats 4000000 in
set_option maxRecDepth 100000 in
theorem c_S_passesOf (l : Launch) (G : qG) {z zv zl zh zc zd : Nat} {fu len c : Int} {w lo hi ch : Int → Int} (hc : 0 ≤ c ∧ c ≤ 7) (hlo : ∀ c, 0 ≤ lo c ∧ lo c ≤ 1000000) (hhi : ∀ c, 0 ≤ hi c ∧ hi c ≤ 1000000) (hch : ∀ c, -1000000 ≤ ch c ∧ ch c ≤ 1000000) : qM l G y_S_passesOf b_S_passesOf 2 (some .long) ({ frames := 0, cells := 0, slots := 0, locals := 0 }) [.ref z, .int (qI c)] [(z, .inr (1, [.ref zv, .ref zl, .ref zh, .ref zc, .ref zd, .int (qI fu), .long (qL len)])), (zl, .inl (G.2.1, 8, .inl (qA lo))), (zh, .inl (G.2.1, 8, .inl (qA hi))), (zc, .inl (G.2.1, 8, .inl (qA ch)))] (fun v' ws' => ws' = [(z, .inr (1, [.ref zv, .ref zl, .ref zh, .ref zc, .ref zd, .int (qI fu), .long (qL len)])), (zl, .inl (G.2.1, 8, .inl (qA lo))), (zh, .inl (G.2.1, 8, .inl (qA hi))), (zc, .inl (G.2.1, 8, .inl (qA ch)))] ∧ v' = some (.long (qL (m_po ch (w, lo, hi) c)))) := by
  refine qM.of (by decide) (Nat.le_of_ble_eq_true rfl) (fun xp xe xs xm xb xme xc A C hrt hlk hnm => ?_)
  refine qv_eq (lv' := [(0, .ref z), (1, .int (qI c))]) rfl rfl rfl ?_
  refine qv_aload_n C 0 d_S_passesOf_0 rfl rfl ?_
  refine qv_get C in_S 0 rfl rfl 3 (by decide) wf_S_21 rfl rfl d_S_passesOf_1 ?_
  refine qv_iload_n C 1 d_S_passesOf_4 rfl rfl ?_
  refine qv_iald C 3 rfl (by omega) d_S_passesOf_5 ?_
  have hq0 := hch c
  refine qv_if_le C d_S_passesOf_6 (tgt := 29) (by decide) (by omega) (fun ht6 => ?_) (fun hf6 => ?_)
  · refine qv_aload_n C 0 d_S_passesOf_29 rfl rfl ?_
    refine qv_get C in_S 0 rfl rfl 3 (by decide) wf_S_21 rfl rfl d_S_passesOf_30 ?_
    refine qv_iload_n C 1 d_S_passesOf_33 rfl rfl ?_
    refine qv_iald C 3 rfl (by omega) d_S_passesOf_34 ?_
    have hq1 := hch c
    refine qv_if_ge C d_S_passesOf_35 (tgt := 56) (by decide) (by omega) (fun ht35 => ?_) (fun hf35 => ?_)
    · refine qv_ldc2 C (n := 1000000000000000) wk_S_86 (by decide) d_S_passesOf_56 ?_
      refine qv_lret C hrt hlk d_S_passesOf_59 ?_
      refine ⟨rfl, ?_⟩
      unfold m_po
      rw [if_neg (by omega), if_neg (by omega)]
    · refine qv_aload_n C 0 d_S_passesOf_38 rfl rfl ?_
      refine qv_get C in_S 0 rfl rfl 1 (by decide) wf_S_15 rfl rfl d_S_passesOf_39 ?_
      refine qv_iload_n C 1 d_S_passesOf_42 rfl rfl ?_
      refine qv_iald C 1 rfl (by omega) d_S_passesOf_43 ?_
      have hq2 := hlo c
      refine qv_aload_n C 0 d_S_passesOf_44 rfl rfl ?_
      refine qv_get C in_S 0 rfl rfl 3 (by decide) wf_S_21 rfl rfl d_S_passesOf_45 ?_
      refine qv_iload_n C 1 d_S_passesOf_48 rfl rfl ?_
      refine qv_iald C 3 rfl (by omega) d_S_passesOf_49 ?_
      have hq3 := hch c
      refine qv_ineg C d_S_passesOf_50 ?_
      refine qv_idiv C (by omega) (by omega) d_S_passesOf_51 ?_
      refine qv_iconst C d_S_passesOf_52 ?_
      refine qv_iadd C d_S_passesOf_53 ?_
      refine qv_i2l C (by have h3 : 0 ≤ lo c / -ch c := Int.ediv_nonneg (by omega) (by omega); have h4 : lo c / -ch c ≤ lo c := Int.ediv_le_self _ (by omega); omega) d_S_passesOf_54 ?_
      refine qv_lret C hrt hlk d_S_passesOf_55 ?_
      refine ⟨rfl, ?_⟩
      unfold m_po
      rw [if_neg (by omega), if_pos (by omega)]
  · refine qv_ldc C (n := 1000000) wk_S_71 (by decide) d_S_passesOf_9 ?_
    refine qv_aload_n C 0 d_S_passesOf_11 rfl rfl ?_
    refine qv_get C in_S 0 rfl rfl 2 (by decide) wf_S_18 rfl rfl d_S_passesOf_12 ?_
    refine qv_iload_n C 1 d_S_passesOf_15 rfl rfl ?_
    refine qv_iald C 2 rfl (by omega) d_S_passesOf_16 ?_
    have hq4 := hhi c
    refine qv_isub C d_S_passesOf_17 ?_
    refine qv_aload_n C 0 d_S_passesOf_18 rfl rfl ?_
    refine qv_get C in_S 0 rfl rfl 3 (by decide) wf_S_21 rfl rfl d_S_passesOf_19 ?_
    refine qv_iload_n C 1 d_S_passesOf_22 rfl rfl ?_
    refine qv_iald C 3 rfl (by omega) d_S_passesOf_23 ?_
    have hq5 := hch c
    refine qv_idiv C (by omega) (by omega) d_S_passesOf_24 ?_
    refine qv_iconst C d_S_passesOf_25 ?_
    refine qv_iadd C d_S_passesOf_26 ?_
    refine qv_i2l C (by have h3 : 0 ≤ (1000000 - hi c) / ch c := Int.ediv_nonneg (by omega) (by omega); have h4 : (1000000 - hi c) / ch c ≤ 1000000 - hi c := Int.ediv_le_self _ (by omega); omega) d_S_passesOf_27 ?_
    refine qv_lret C hrt hlk d_S_passesOf_28 ?_
    refine ⟨rfl, ?_⟩
    unfold m_po
    rw [if_pos (by omega)]
set_option maxHeartbeats 4000000 in
set_option maxRecDepth 100000 in
theorem c_S_passesIn (l : Launch) (G : qG) {z zv zl zh zc zd : Nat} {fu len sl : Int} {w lo hi ch dr : Int → Int} (hlo : ∀ c, 0 ≤ lo c ∧ lo c ≤ 1000000) (hhi : ∀ c, 0 ≤ hi c ∧ hi c ≤ 1000000) (hch : ∀ c, -1000000 ≤ ch c ∧ ch c ≤ 1000000) (hdr : ∀ c, 0 ≤ dr c ∧ dr c ≤ 1) (hfu : 0 ≤ fu ∧ fu ≤ 1) (hln : 0 ≤ len ∧ len ≤ 1000000000000000) (hsl : -1000000000000000 ≤ sl ∧ sl ≤ 1000000000000000) : qM l G y_S_passesIn b_S_passesIn 6 (some .long) ({ frames := 1, cells := 0, slots := 0, locals := 40 }) [.ref z, .long (qL sl)] [(z, .inr (1, [.ref zv, .ref zl, .ref zh, .ref zc, .ref zd, .int (qI fu), .long (qL len)])), (zl, .inl (G.2.1, 8, .inl (qA lo))), (zh, .inl (G.2.1, 8, .inl (qA hi))), (zc, .inl (G.2.1, 8, .inl (qA ch))), (zd, .inl (G.2.2.2.1, 8, .inl (qA dr)))] (fun v' ws' => ws' = [(z, .inr (1, [.ref zv, .ref zl, .ref zh, .ref zc, .ref zd, .int (qI fu), .long (qL len)])), (zl, .inl (G.2.1, 8, .inl (qA lo))), (zh, .inl (G.2.1, 8, .inl (qA hi))), (zc, .inl (G.2.1, 8, .inl (qA ch))), (zd, .inl (G.2.2.2.1, 8, .inl (qA dr)))] ∧ ∃ x : Int, v' = some (.long (qL x)) ∧ (0 ≤ x ∧ x ≤ 1000000000000000) ∧ ((x = 0 ∧ (fu = 0 ∨ len < 1 ∨ sl < len)) ∨ (x = 1 ∧ fu = 1 ∧ 1 ≤ len ∧ len ≤ sl ∧ ∃ c, 0 ≤ c ∧ c < 8 ∧ dr c = 1 ∧ ¬ ch c = 0) ∨ (x = m_mn (m_po ch (w, lo, hi)) 8 (sl / len) ∧ fu = 1 ∧ 1 ≤ len ∧ len ≤ sl ∧ ∀ c, 0 ≤ c → c < 8 → dr c = 1 → ch c = 0))) := by
  refine qM.of (by decide) (Nat.le_of_ble_eq_true rfl) (fun xp xe xs xm xb xme xc A C hrt hlk hnm => ?_)
  refine qv_eq (lv' := [(0, .ref z), (1, .long (qL sl))]) rfl rfl rfl ?_
  refine qv_aload_n C 0 d_S_passesIn_0 rfl rfl ?_
  refine qv_get C in_S 0 rfl rfl 5 (by decide) wf_S_40 rfl rfl d_S_passesIn_1 ?_
  refine qv_if_eq C d_S_passesIn_4 (tgt := 25) (by decide) (by omega) (fun ht4 => ?_) (fun hf4 => ?_)
  · refine qv_lconst C (z := 0) d_S_passesIn_25 (by decide) ?_
    refine qv_lret C hrt hlk d_S_passesIn_26 ?_
    exact ⟨rfl, 0, rfl, by omega, Or.inl ⟨rfl, by omega⟩⟩
  · refine qv_aload_n C 0 d_S_passesIn_7 rfl rfl ?_
    refine qv_get C in_S 0 rfl rfl 6 (by decide) wf_S_58 rfl rfl d_S_passesIn_8 ?_
    refine qv_lconst C (z := 1) d_S_passesIn_11 (by decide) ?_
    refine qv_lcmp_lt C d_S_passesIn_12 d_S_passesIn_13 (tgt := 25) (by decide) (by omega) (by omega) (fun ht12 => ?_) (fun hf12 => ?_)
    · refine qv_lconst C (z := 0) d_S_passesIn_25 (by decide) ?_
      refine qv_lret C hrt hlk d_S_passesIn_26 ?_
      exact ⟨rfl, 0, rfl, by omega, Or.inl ⟨rfl, by omega⟩⟩
    · refine qv_lload_n C 1 d_S_passesIn_16 rfl rfl ?_
      refine qv_aload_n C 0 d_S_passesIn_17 rfl rfl ?_
      refine qv_get C in_S 0 rfl rfl 6 (by decide) wf_S_58 rfl rfl d_S_passesIn_18 ?_
      refine qv_lcmp_ge C d_S_passesIn_21 d_S_passesIn_22 (tgt := 27) (by decide) (by omega) (by omega) (fun ht21 => ?_) (fun hf21 => ?_)
      · refine qv_aload_n C 0 d_S_passesIn_27 rfl rfl ?_
        refine qv_cV (As := []) (rest := []) (wc := [(z, .inr (1, [.ref zv, .ref zl, .ref zh, .ref zc, .ref zd, .int (qI fu), .long (qL len)])), (zc, .inl (G.2.1, 8, .inl (qA ch))), (zd, .inl (G.2.2.2.1, 8, .inl (qA dr)))]) (wr := [(zl, .inl (G.2.1, 8, .inl (qA lo))), (zh, .inl (G.2.1, 8, .inl (qA hi)))]) C k_S_changesDrained (c_S_changesDrained l G hch hdr) wm_S_75 wi_S_changesDrained ws_S_changesDrained 0 rfl rfl (by decide) d_S_passesIn_28 rfl rfl (Nat.le_of_ble_eq_true rfl) (by decide) [0, 3, 4] [1, 2] rfl (by decide) rfl (by decide) (by decide) (fun v ws' hpost => ?_)
        obtain ⟨rfl, xd, rfl, hxd⟩ := hpost
        refine qv_eq (ws' := [(zl, .inl (G.2.1, 8, .inl (qA lo))), (zh, .inl (G.2.1, 8, .inl (qA hi))), (z, .inr (1, [.ref zv, .ref zl, .ref zh, .ref zc, .ref zd, .int (qI fu), .long (qL len)])), (zc, .inl (G.2.1, 8, .inl (qA ch))), (zd, .inl (G.2.2.2.1, 8, .inl (qA dr)))]) (st' := [.int (qI xd)]) rfl rfl rfl ?_
        refine qv_if_eq C d_S_passesIn_31 (tgt := 36) (by decide) (by omega) (fun ht31 => ?_) (fun hf31 => ?_)
        · refine qv_lload_n C 1 d_S_passesIn_36 rfl rfl ?_
          refine qv_aload_n C 0 d_S_passesIn_37 rfl rfl ?_
          refine qv_get C in_S 2 rfl rfl 6 (by decide) wf_S_58 rfl rfl d_S_passesIn_38 ?_
          refine qv_ldiv C (by omega) (by omega) d_S_passesIn_41 ?_
          refine qv_lstore_n C d_S_passesIn_42 rfl (by decide) (lv' := [(3, .long (qL (sl / len))), (0, .ref z), (1, .long (qL sl))]) rfl ?_
          have hq0 : 0 ≤ sl / len ∧ sl / len ≤ 1000000000000000 := by
            have h3 : 0 ≤ sl / len := Int.ediv_nonneg (by omega) (by omega)
            have h4 : sl / len ≤ sl := Int.ediv_le_self _ (by omega)
            omega
          refine qv_iconst C d_S_passesIn_43 ?_
          refine qv_istore C d_S_passesIn_44 (by decide) (lv' := [(5, .int (qI 0)), (3, .long (qL (sl / len))), (0, .ref z), (1, .long (qL sl))]) rfl ?_
          have L46 : ∀ (N46 : Nat) (i : Int), (8 - i).toNat < N46 → (0 ≤ i ∧ i ≤ 8) → (0 ≤ m_mn (m_po ch (w, lo, hi)) (Int.toNat i) (sl / len) ∧ m_mn (m_po ch (w, lo, hi)) (Int.toNat i) (sl / len) ≤ 1000000000000000) → qV xp l xe ({ frames := 1, cells := 0, slots := 0, locals := 40 }) xs xm [.ref z, .long (qL sl)].toArray xb xme xc G A xs.heap 6 (MQ xb (qQ G A (fun v' ws' => ws' = [(z, .inr (1, [.ref zv, .ref zl, .ref zh, .ref zc, .ref zd, .int (qI fu), .long (qL len)])), (zl, .inl (G.2.1, 8, .inl (qA lo))), (zh, .inl (G.2.1, 8, .inl (qA hi))), (zc, .inl (G.2.1, 8, .inl (qA ch))), (zd, .inl (G.2.2.2.1, 8, .inl (qA dr)))] ∧ ∃ x : Int, v' = some (.long (qL x)) ∧ (0 ≤ x ∧ x ≤ 1000000000000000) ∧ ((x = 0 ∧ (fu = 0 ∨ len < 1 ∨ sl < len)) ∨ (x = 1 ∧ fu = 1 ∧ 1 ≤ len ∧ len ≤ sl ∧ ∃ c, 0 ≤ c ∧ c < 8 ∧ dr c = 1 ∧ ¬ ch c = 0) ∨ (x = m_mn (m_po ch (w, lo, hi)) 8 (sl / len) ∧ fu = 1 ∧ 1 ≤ len ∧ len ≤ sl ∧ ∀ c, 0 ≤ c → c < 8 → dr c = 1 → ch c = 0)))) [.ref z, .long (qL sl)].toArray xs 0 0 A) 0 0 [(z, .inr (1, [.ref zv, .ref zl, .ref zh, .ref zc, .ref zd, .int (qI fu), .long (qL len)])), (zl, .inl (G.2.1, 8, .inl (qA lo))), (zh, .inl (G.2.1, 8, .inl (qA hi))), (zc, .inl (G.2.1, 8, .inl (qA ch))), (zd, .inl (G.2.2.2.1, 8, .inl (qA dr)))] [(5, .int (qI i)), (3, .long (qL (m_mn (m_po ch (w, lo, hi)) (Int.toNat i) (sl / len)))), (0, .ref z), (1, .long (qL sl))] 46 [] := by
            intro N46
            induction N46 with
            | zero => intro i hmu; exact absurd hmu (Nat.not_lt_zero _)
            | succ N46 ih46 =>
              intro i hmu46 hi_ hm
              refine qv_iload C 0 d_S_passesIn_46 rfl ?_
              refine qv_bipush C d_S_passesIn_48 (by decide) ?_
              refine qv_icmp_ge C d_S_passesIn_50 (tgt := 70) (by decide) (by omega) (by omega) (fun ht50 => ?_) (fun hf50 => ?_)
              · refine qv_lload_n C 1 d_S_passesIn_70 rfl rfl ?_
                refine qv_lret C hrt hlk d_S_passesIn_71 ?_
                obtain rfl : i = 8 := by omega
                refine ⟨rfl, _, rfl, hm, Or.inr (Or.inr ⟨rfl, by omega, by omega, by omega, ?_⟩)⟩
                rcases hxd with h | h
                · exact h.2
                · exact absurd h.1 (by omega)
              · refine qv_lload_n C 1 d_S_passesIn_53 rfl rfl ?_
                refine qv_aload_n C 2 d_S_passesIn_54 rfl rfl ?_
                refine qv_iload C 0 d_S_passesIn_55 rfl ?_
                refine qv_cV (As := [.int (qI i)]) (rest := [.long (qL (m_mn (m_po ch (w, lo, hi)) (Int.toNat i) (sl / len)))]) (wc := [(z, .inr (1, [.ref zv, .ref zl, .ref zh, .ref zc, .ref zd, .int (qI fu), .long (qL len)])), (zl, .inl (G.2.1, 8, .inl (qA lo))), (zh, .inl (G.2.1, 8, .inl (qA hi))), (zc, .inl (G.2.1, 8, .inl (qA ch)))]) (wr := [(zd, .inl (G.2.2.2.1, 8, .inl (qA dr)))]) C k_S_passesOf (c_S_passesOf l G (c := i) (w := w) (by omega) hlo hhi hch) wm_S_79 wi_S_passesOf ws_S_passesOf 0 rfl rfl (by decide) d_S_passesIn_57 rfl rfl (Nat.le_of_ble_eq_true rfl) (by decide) [0, 1, 2, 3] [4] rfl (by decide) rfl (by decide) (by decide) (fun v ws' hpost => ?_)
                obtain ⟨rfl, rfl⟩ := hpost
                refine qv_eq (ws' := [(zd, .inl (G.2.2.2.1, 8, .inl (qA dr))), (z, .inr (1, [.ref zv, .ref zl, .ref zh, .ref zc, .ref zd, .int (qI fu), .long (qL len)])), (zl, .inl (G.2.1, 8, .inl (qA lo))), (zh, .inl (G.2.1, 8, .inl (qA hi))), (zc, .inl (G.2.1, 8, .inl (qA ch)))]) (st' := [.long (qL (m_po ch (w, lo, hi) i)), .long (qL (m_mn (m_po ch (w, lo, hi)) (Int.toNat i) (sl / len)))]) rfl rfl rfl ?_
                have hpo := m_po_rg (ch := ch) (S := (w, lo, hi)) hlo hhi i
                refine qv_minl C wm_S_83 (by omega) (by omega) (by decide) (Nat.le_of_ble_eq_true rfl) (by decide) d_S_passesIn_60 ?_
                refine qv_lstore_n C d_S_passesIn_63 rfl (by decide) (lv' := [(3, .long (qL (min (m_mn (m_po ch (w, lo, hi)) (Int.toNat i) (sl / len)) (m_po ch (w, lo, hi) i)))), (5, .int (qI i)), (0, .ref z), (1, .long (qL sl))]) rfl ?_
                refine qv_iinc C 1 d_S_passesIn_64 rfl (by decide) (lv' := [(5, .int (qI (i + 1))), (3, .long (qL (min (m_mn (m_po ch (w, lo, hi)) (Int.toNat i) (sl / len)) (m_po ch (w, lo, hi) i)))), (0, .ref z), (1, .long (qL sl))]) rfl ?_
                refine qv_goto C d_S_passesIn_67 (by decide) (tgt := 46) ?_
                refine qv_ws (ws' := [(z, .inr (1, [.ref zv, .ref zl, .ref zh, .ref zc, .ref zd, .int (qI fu), .long (qL len)])), (zl, .inl (G.2.1, 8, .inl (qA lo))), (zh, .inl (G.2.1, 8, .inl (qA hi))), (zc, .inl (G.2.1, 8, .inl (qA ch))), (zd, .inl (G.2.2.2.1, 8, .inl (qA dr)))]) [1, 2, 3, 4, 0] (by decide) rfl ?_
                refine qv_eq (ws' := [(z, .inr (1, [.ref zv, .ref zl, .ref zh, .ref zc, .ref zd, .int (qI fu), .long (qL len)])), (zl, .inl (G.2.1, 8, .inl (qA lo))), (zh, .inl (G.2.1, 8, .inl (qA hi))), (zc, .inl (G.2.1, 8, .inl (qA ch))), (zd, .inl (G.2.2.2.1, 8, .inl (qA dr)))]) (lv' := [(5, .int (qI (i + 1))), (3, .long (qL (m_mn (m_po ch (w, lo, hi)) (Int.toNat (i + 1)) (sl / len)))), (0, .ref z), (1, .long (qL sl))]) (rfl) (by rw [m_mn_up _ _ hi_.1]) rfl ?_
                exact ih46 (i + 1) (by omega) (by omega) (by rw [m_mn_up _ _ hi_.1]; omega)
          refine qv_ws (ws' := [(z, .inr (1, [.ref zv, .ref zl, .ref zh, .ref zc, .ref zd, .int (qI fu), .long (qL len)])), (zl, .inl (G.2.1, 8, .inl (qA lo))), (zh, .inl (G.2.1, 8, .inl (qA hi))), (zc, .inl (G.2.1, 8, .inl (qA ch))), (zd, .inl (G.2.2.2.1, 8, .inl (qA dr)))]) [2, 0, 1, 3, 4] (by decide) rfl ?_
          refine qv_eq (ws' := [(z, .inr (1, [.ref zv, .ref zl, .ref zh, .ref zc, .ref zd, .int (qI fu), .long (qL len)])), (zl, .inl (G.2.1, 8, .inl (qA lo))), (zh, .inl (G.2.1, 8, .inl (qA hi))), (zc, .inl (G.2.1, 8, .inl (qA ch))), (zd, .inl (G.2.2.2.1, 8, .inl (qA dr)))]) (lv' := [(5, .int (qI 0)), (3, .long (qL (m_mn (m_po ch (w, lo, hi)) (Int.toNat 0) (sl / len)))), (0, .ref z), (1, .long (qL sl))]) (rfl) (rfl) rfl ?_
          exact L46 _ 0 (Nat.lt_succ_self _) (by first | assumption | omega) (hq0)
        · refine qv_lconst C (z := 1) d_S_passesIn_34 (by decide) ?_
          refine qv_ws (ws' := [(z, .inr (1, [.ref zv, .ref zl, .ref zh, .ref zc, .ref zd, .int (qI fu), .long (qL len)])), (zl, .inl (G.2.1, 8, .inl (qA lo))), (zh, .inl (G.2.1, 8, .inl (qA hi))), (zc, .inl (G.2.1, 8, .inl (qA ch))), (zd, .inl (G.2.2.2.1, 8, .inl (qA dr)))]) [2, 0, 1, 3, 4] (by decide) rfl ?_
          refine qv_lret C hrt hlk d_S_passesIn_35 ?_
          refine ⟨rfl, 1, rfl, by omega, Or.inr (Or.inl ⟨rfl, by omega, by omega, by omega, ?_⟩)⟩
          rcases hxd with h | h
          · exact absurd h.1 (by omega)
          · exact h.2
      · refine qv_lconst C (z := 0) d_S_passesIn_25 (by decide) ?_
        refine qv_lret C hrt hlk d_S_passesIn_26 ?_
        exact ⟨rfl, 0, rfl, by omega, Or.inl ⟨rfl, by omega⟩⟩

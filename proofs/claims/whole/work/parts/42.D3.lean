set_option maxHeartbeats 4000000 in
set_option maxRecDepth 100000 in
theorem c_D_isFull (l : Launch) (G : qG) {u utx uro urc urn urp ula uop urg utg ude ule udn uv ub ubf ubh ukp uwa : Nat} {cd sz cu fa rdn n pl st on cn hd ps ss tk : Int} {k r t de le dn v bf bh kp : Int → Int} (hpd : m_pd n k r t de le dn) (hp : 0 ≤ pl ∧ pl ≤ n) (hs : 0 ≤ st ∧ st ≤ 1000000000000000) (hvw : m_vw v) (hsw : m_sw bf bh kp tk) : qM l G y_D_isFull b_D_isFull 2 (some .boolean) ({ frames := 2, cells := 0, slots := 0, locals := 50 }) [.ref u] [(u, .inr (5, [.int (qI cd), .int (qI sz), .ref utx, .int (qI cu), .int (qI fa), .int (qI rdn), .ref uro, .ref urc, .ref urn, .ref urp, .ref ula, .int (qI n), .ref uop, .ref urg, .ref utg, .ref ude, .ref ule, .ref udn, .ref uv, .ref ub, .int (qI pl), .long (qL st), .int (qI on), .long (qL cn), .int (qI hd), .long (qL ps), .long (qL ss), .ref ubf, .ref ubh, .long (qL tk), .ref ukp, .ref uwa])), (uop, .inl (G.2.1, 24, .inl (qA k))), (urg, .inl (G.2.1, 24, .inl (qA r))), (ude, .inl (G.2.1, 24, .inl (qA de))), (ule, .inl (G.2.1, 24, .inl (qA le))), (uv, .inl (G.2.1, 8, .inl (qA v))), (ubf, .inl (G.2.1, 8, .inl (qA bf))), (ubh, .inl (G.2.1, 8, .inl (qA bh)))] (fun v' ws' => ∃ (x tk' : Int) (bf' bh' : Int → Int), v' = some (.int (qI x)) ∧ ws' = [(u, .inr (5, [.int (qI cd), .int (qI sz), .ref utx, .int (qI cu), .int (qI fa), .int (qI rdn), .ref uro, .ref urc, .ref urn, .ref urp, .ref ula, .int (qI n), .ref uop, .ref urg, .ref utg, .ref ude, .ref ule, .ref udn, .ref uv, .ref ub, .int (qI pl), .long (qL st), .int (qI on), .long (qL cn), .int (qI hd), .long (qL ps), .long (qL ss), .ref ubf, .ref ubh, .long (qL tk'), .ref ukp, .ref uwa])), (uop, .inl (G.2.1, 24, .inl (qA k))), (urg, .inl (G.2.1, 24, .inl (qA r))), (ude, .inl (G.2.1, 24, .inl (qA de))), (ule, .inl (G.2.1, 24, .inl (qA le))), (uv, .inl (G.2.1, 8, .inl (qA v))), (ubf, .inl (G.2.1, 8, .inl (qA bf'))), (ubh, .inl (G.2.1, 8, .inl (qA bh')))] ∧ m_sw bf' bh' kp tk' ∧ ((x = 1 ∧ m_fu n k r t de pl st v bf' bh' tk') ∨ (x = 0 ∧ m_nf n k r t de pl st v))) := by
  refine qM.of (by decide) (Nat.le_of_ble_eq_true rfl) (fun xp xe xs xm xb xme xc A C hrt hlk hnm => ?_)
  refine qv_eq (lv' := [(0, .ref u)]) rfl rfl rfl ?_
  have hn := hpd.1
  have hk := hpd.2.1
  have hr := hpd.2.2.1
  have hr7 := hpd.2.2.2.1
  have ht := hpd.2.2.2.2.1
  have ht2 := hpd.2.2.2.2.2.1
  have hdx := hpd.2.2.2.2.2.2.1
  have hl := hpd.2.2.2.2.2.2.2.2.1
  have hlq := hpd.2.2.2.2.2.2.2.2.2.1
  have hde := m_pd_de hpd
  refine qv_aload_n C 0 d_D_isFull_0 rfl rfl ?_
  refine qv_get C in_D 0 rfl rfl 20 (by decide) wf_D_126 rfl rfl d_D_isFull_1 ?_
  refine qv_aload_n C 0 d_D_isFull_4 rfl rfl ?_
  refine qv_get C in_D 0 rfl rfl 11 (by decide) wf_D_109 rfl rfl d_D_isFull_5 ?_
  refine qv_icmp_eq C d_D_isFull_8 (tgt := 23) (by decide) (by omega) (by omega) (fun ht8 => ?_) (fun hf8 => ?_)
  · refine qv_iconst C d_D_isFull_23 ?_
    refine qv_zret C (by omega) hrt hlk d_D_isFull_24 ?_
    refine ⟨0, tk, bf, bh, rfl, rfl, hsw, Or.inr ⟨rfl, fun S d ln hq => ?_⟩⟩
    have hq2 := m_xp_in hq
    exfalso
    have hlq2 := hlq pl hq2.1 hq2.2.1
    omega
  · refine qv_aload_n C 0 d_D_isFull_11 rfl rfl ?_
    refine qv_get C in_D 0 rfl rfl 16 (by decide) wf_D_40 rfl rfl d_D_isFull_12 ?_
    refine qv_aload_n C 0 d_D_isFull_15 rfl rfl ?_
    refine qv_get C in_D 0 rfl rfl 20 (by decide) wf_D_126 rfl rfl d_D_isFull_16 ?_
    refine qv_iald C 4 rfl (by omega) d_D_isFull_19 ?_
    have hq0 := hl pl
    refine qv_if_ge C d_D_isFull_20 (tgt := 25) (by decide) (by omega) (fun ht20 => ?_) (fun hf20 => ?_)
    · refine qv_iconst C d_D_isFull_25 ?_
      refine qv_istore_n C d_D_isFull_26 rfl (by decide) (lv' := [(1, .int (qI 0)), (0, .ref u)]) rfl ?_
      have L27 : ∀ (N27 : Nat) (i : Int), (8 - i).toNat < N27 → (0 ≤ i ∧ i ≤ 8) → qV xp l xe ({ frames := 2, cells := 0, slots := 0, locals := 50 }) xs xm [.ref u].toArray xb xme xc G A xs.heap 2 (MQ xb (qQ G A (fun v' ws' => ∃ (x tk' : Int) (bf' bh' : Int → Int), v' = some (.int (qI x)) ∧ ws' = [(u, .inr (5, [.int (qI cd), .int (qI sz), .ref utx, .int (qI cu), .int (qI fa), .int (qI rdn), .ref uro, .ref urc, .ref urn, .ref urp, .ref ula, .int (qI n), .ref uop, .ref urg, .ref utg, .ref ude, .ref ule, .ref udn, .ref uv, .ref ub, .int (qI pl), .long (qL st), .int (qI on), .long (qL cn), .int (qI hd), .long (qL ps), .long (qL ss), .ref ubf, .ref ubh, .long (qL tk'), .ref ukp, .ref uwa])), (uop, .inl (G.2.1, 24, .inl (qA k))), (urg, .inl (G.2.1, 24, .inl (qA r))), (ude, .inl (G.2.1, 24, .inl (qA de))), (ule, .inl (G.2.1, 24, .inl (qA le))), (uv, .inl (G.2.1, 8, .inl (qA v))), (ubf, .inl (G.2.1, 8, .inl (qA bf'))), (ubh, .inl (G.2.1, 8, .inl (qA bh')))] ∧ m_sw bf' bh' kp tk' ∧ ((x = 1 ∧ m_fu n k r t de pl st v bf' bh' tk') ∨ (x = 0 ∧ m_nf n k r t de pl st v)))) [.ref u].toArray xs 0 0 A) 0 0 [(u, .inr (5, [.int (qI cd), .int (qI sz), .ref utx, .int (qI cu), .int (qI fa), .int (qI rdn), .ref uro, .ref urc, .ref urn, .ref urp, .ref ula, .int (qI n), .ref uop, .ref urg, .ref utg, .ref ude, .ref ule, .ref udn, .ref uv, .ref ub, .int (qI pl), .long (qL st), .int (qI on), .long (qL cn), .int (qI hd), .long (qL ps), .long (qL ss), .ref ubf, .ref ubh, .long (qL tk), .ref ukp, .ref uwa])), (uop, .inl (G.2.1, 24, .inl (qA k))), (urg, .inl (G.2.1, 24, .inl (qA r))), (ude, .inl (G.2.1, 24, .inl (qA de))), (ule, .inl (G.2.1, 24, .inl (qA le))), (uv, .inl (G.2.1, 8, .inl (qA v))), (ubf, .inl (G.2.1, 8, .inl (qA (m_up bf v i)))), (ubh, .inl (G.2.1, 8, .inl (qA bh)))] [(1, .int (qI i)), (0, .ref u)] 27 [] := by
        intro N27
        induction N27 with
        | zero => intro i hmu; exact absurd hmu (Nat.not_lt_zero _)
        | succ N27 ih27 =>
          intro i hmu27 hi
          refine qv_iload_n C 0 d_D_isFull_27 rfl rfl ?_
          refine qv_bipush C d_D_isFull_28 (by decide) ?_
          refine qv_icmp_ge C d_D_isFull_30 (tgt := 51) (by decide) (by omega) (by omega) (fun ht30 => ?_) (fun hf30 => ?_)
          · refine qv_aload_n C 1 d_D_isFull_51 rfl rfl ?_
            refine qv_aload_n C 1 d_D_isFull_52 rfl rfl ?_
            refine qv_get C in_D 0 rfl rfl 20 (by decide) wf_D_126 rfl rfl d_D_isFull_53 ?_
            refine qv_aload_n C 1 d_D_isFull_56 rfl rfl ?_
            refine qv_get C in_D 0 rfl rfl 21 (by decide) wf_D_129 rfl rfl d_D_isFull_57 ?_
            obtain rfl : i = 8 := by omega
            rw [m_up_all (f := bf) (g := v) (fun j h => by rw [(hsw.2.2.1 j h).1, hvw.2 j h])]
            refine qv_cV (As := [.int (qI pl), .long (qL st)]) (rest := []) (wc := [(u, .inr (5, [.int (qI cd), .int (qI sz), .ref utx, .int (qI cu), .int (qI fa), .int (qI rdn), .ref uro, .ref urc, .ref urn, .ref urp, .ref ula, .int (qI n), .ref uop, .ref urg, .ref utg, .ref ude, .ref ule, .ref udn, .ref uv, .ref ub, .int (qI pl), .long (qL st), .int (qI on), .long (qL cn), .int (qI hd), .long (qL ps), .long (qL ss), .ref ubf, .ref ubh, .long (qL tk), .ref ukp, .ref uwa])), (uop, .inl (G.2.1, 24, .inl (qA k))), (urg, .inl (G.2.1, 24, .inl (qA r))), (ude, .inl (G.2.1, 24, .inl (qA de))), (ule, .inl (G.2.1, 24, .inl (qA le))), (ubf, .inl (G.2.1, 8, .inl (qA v))), (ubh, .inl (G.2.1, 8, .inl (qA bh)))]) (wr := [(uv, .inl (G.2.1, 8, .inl (qA v)))]) C k_D_pass (c_D_pass l G (t := t) (dn := dn) hpd (h := pl) (s0 := st) ⟨by omega, by omega, by omega⟩ hs hvw.1 (fun j h => by rw [(hsw.2.2.1 j h).2.1, hvw.2 j h])) wm_D_150 wi_D_pass ws_D_pass 0 rfl rfl (by decide) d_D_isFull_60 rfl rfl (Nat.le_of_ble_eq_true rfl) (by decide) [0, 1, 2, 3, 4, 6, 7] [5] rfl (by decide) rfl (by decide) (by decide) (fun v ws' hpost => ?_)
            obtain ⟨x, tk', w', rfl, rfl, hfin, hw1, hout, htk⟩ := hpost
            refine qv_eq (ws' := [(uv, .inl (G.2.1, 8, .inl (qA v))), (u, .inr (5, [.int (qI cd), .int (qI sz), .ref utx, .int (qI cu), .int (qI fa), .int (qI rdn), .ref uro, .ref urc, .ref urn, .ref urp, .ref ula, .int (qI n), .ref uop, .ref urg, .ref utg, .ref ude, .ref ule, .ref udn, .ref uv, .ref ub, .int (qI pl), .long (qL st), .int (qI on), .long (qL cn), .int (qI hd), .long (qL ps), .long (qL ss), .ref ubf, .ref ubh, .long (qL tk'), .ref ukp, .ref uwa])), (uop, .inl (G.2.1, 24, .inl (qA k))), (urg, .inl (G.2.1, 24, .inl (qA r))), (ude, .inl (G.2.1, 24, .inl (qA de))), (ule, .inl (G.2.1, 24, .inl (qA le))), (ubf, .inl (G.2.1, 8, .inl (qA v))), (ubh, .inl (G.2.1, 8, .inl (qA w')))]) (st' := [.int (qI x)]) rfl rfl rfl ?_
            refine qv_ws (ws' := [(u, .inr (5, [.int (qI cd), .int (qI sz), .ref utx, .int (qI cu), .int (qI fa), .int (qI rdn), .ref uro, .ref urc, .ref urn, .ref urp, .ref ula, .int (qI n), .ref uop, .ref urg, .ref utg, .ref ude, .ref ule, .ref udn, .ref uv, .ref ub, .int (qI pl), .long (qL st), .int (qI on), .long (qL cn), .int (qI hd), .long (qL ps), .long (qL ss), .ref ubf, .ref ubh, .long (qL tk'), .ref ukp, .ref uwa])), (uop, .inl (G.2.1, 24, .inl (qA k))), (urg, .inl (G.2.1, 24, .inl (qA r))), (ude, .inl (G.2.1, 24, .inl (qA de))), (ule, .inl (G.2.1, 24, .inl (qA le))), (uv, .inl (G.2.1, 8, .inl (qA v))), (ubf, .inl (G.2.1, 8, .inl (qA v))), (ubh, .inl (G.2.1, 8, .inl (qA w')))]) [1, 2, 3, 4, 5, 0, 6, 7] (by decide) rfl ?_
            refine qv_zret C (by rcases hfin with h | h <;> omega) hrt hlk d_D_isFull_63 ?_
            have hlq2 := hlq pl (by omega) (by omega)
            have hxp : m_xp n k r t de pl v = m_px k r de pl (le pl) 24 pl (v, v, v) (fun _ => 0) 0 := by
              rw [m_xp_at ⟨by omega, by omega, by omega⟩, hlq2]; rfl
            refine ⟨x, tk', v, w', rfl, rfl, ⟨fun c => by have := hvw.1 c; omega, hw1, fun c h => ⟨hvw.2 c h, (hout c h).trans (hvw.2 c h), (hsw.2.2.1 c h).2.2⟩, htk⟩, ?_⟩
            rcases hfin with ⟨h1, lo', hi', dr', ln, h2, h3, h4, h5, h6⟩ | ⟨h1, h2⟩
            · exact Or.inl ⟨h1, lo', hi', dr', ln, hxp.trans h2, h3, rfl, h4, h5, h6⟩
            · exact Or.inr ⟨h1, fun S d ln hq => h2 S d ln (hxp.symm.trans hq)⟩
          · refine qv_aload_n C 1 d_D_isFull_33 rfl rfl ?_
            refine qv_get C in_D 0 rfl rfl 27 (by decide) wf_D_56 rfl rfl d_D_isFull_34 ?_
            refine qv_iload_n C 0 d_D_isFull_37 rfl rfl ?_
            refine qv_aload_n C 1 d_D_isFull_38 rfl rfl ?_
            refine qv_get C in_D 0 rfl rfl 18 (by decide) wf_D_46 rfl rfl d_D_isFull_39 ?_
            refine qv_iload_n C 0 d_D_isFull_42 rfl rfl ?_
            refine qv_iald C 5 rfl (by omega) d_D_isFull_43 ?_
            refine qv_iast C 6 rfl (by omega) d_D_isFull_44 (ws' := [(u, .inr (5, [.int (qI cd), .int (qI sz), .ref utx, .int (qI cu), .int (qI fa), .int (qI rdn), .ref uro, .ref urc, .ref urn, .ref urp, .ref ula, .int (qI n), .ref uop, .ref urg, .ref utg, .ref ude, .ref ule, .ref udn, .ref uv, .ref ub, .int (qI pl), .long (qL st), .int (qI on), .long (qL cn), .int (qI hd), .long (qL ps), .long (qL ss), .ref ubf, .ref ubh, .long (qL tk), .ref ukp, .ref uwa])), (uop, .inl (G.2.1, 24, .inl (qA k))), (urg, .inl (G.2.1, 24, .inl (qA r))), (ude, .inl (G.2.1, 24, .inl (qA de))), (ule, .inl (G.2.1, 24, .inl (qA le))), (uv, .inl (G.2.1, 8, .inl (qA v))), (ubf, .inl (G.2.1, 8, .inl (qA (qU (m_up bf v i) i (v i))))), (ubh, .inl (G.2.1, 8, .inl (qA bh)))]) rfl ?_
            refine qv_iinc C 0 d_D_isFull_45 rfl (by decide) (lv' := [(1, .int (qI (i + 1))), (0, .ref u)]) rfl ?_
            refine qv_goto C d_D_isFull_48 (by decide) (tgt := 27) ?_
            refine qv_eq (ws' := [(u, .inr (5, [.int (qI cd), .int (qI sz), .ref utx, .int (qI cu), .int (qI fa), .int (qI rdn), .ref uro, .ref urc, .ref urn, .ref urp, .ref ula, .int (qI n), .ref uop, .ref urg, .ref utg, .ref ude, .ref ule, .ref udn, .ref uv, .ref ub, .int (qI pl), .long (qL st), .int (qI on), .long (qL cn), .int (qI hd), .long (qL ps), .long (qL ss), .ref ubf, .ref ubh, .long (qL tk), .ref ukp, .ref uwa])), (uop, .inl (G.2.1, 24, .inl (qA k))), (urg, .inl (G.2.1, 24, .inl (qA r))), (ude, .inl (G.2.1, 24, .inl (qA de))), (ule, .inl (G.2.1, 24, .inl (qA le))), (uv, .inl (G.2.1, 8, .inl (qA v))), (ubf, .inl (G.2.1, 8, .inl (qA (m_up bf v (i + 1))))), (ubh, .inl (G.2.1, 8, .inl (qA bh)))]) (lv' := [(1, .int (qI (i + 1))), (0, .ref u)]) (by rw [m_up_s hi.1]) (rfl) rfl ?_
            exact ih27 (i + 1) (by omega) (by first | assumption | omega)
      refine qv_eq (ws' := [(u, .inr (5, [.int (qI cd), .int (qI sz), .ref utx, .int (qI cu), .int (qI fa), .int (qI rdn), .ref uro, .ref urc, .ref urn, .ref urp, .ref ula, .int (qI n), .ref uop, .ref urg, .ref utg, .ref ude, .ref ule, .ref udn, .ref uv, .ref ub, .int (qI pl), .long (qL st), .int (qI on), .long (qL cn), .int (qI hd), .long (qL ps), .long (qL ss), .ref ubf, .ref ubh, .long (qL tk), .ref ukp, .ref uwa])), (uop, .inl (G.2.1, 24, .inl (qA k))), (urg, .inl (G.2.1, 24, .inl (qA r))), (ude, .inl (G.2.1, 24, .inl (qA de))), (ule, .inl (G.2.1, 24, .inl (qA le))), (uv, .inl (G.2.1, 8, .inl (qA v))), (ubf, .inl (G.2.1, 8, .inl (qA (m_up bf v 0)))), (ubh, .inl (G.2.1, 8, .inl (qA bh)))]) (lv' := [(1, .int (qI 0)), (0, .ref u)]) (by rw [m_up_0]) (rfl) rfl ?_
      exact L27 _ 0 (Nat.lt_succ_self _) (by first | assumption | omega)
    · refine qv_iconst C d_D_isFull_23 ?_
      refine qv_zret C (by omega) hrt hlk d_D_isFull_24 ?_
      refine ⟨0, tk, bf, bh, rfl, rfl, hsw, Or.inr ⟨rfl, fun S d ln hq => ?_⟩⟩
      have hq2 := m_xp_in hq
      exfalso
      have hlq2 := hlq pl hq2.1 hq2.2.1
      omega
set_option maxHeartbeats 4000000 in
set_option maxRecDepth 100000 in
theorem c_D_isChanged (l : Launch) (G : qG) {u utx uro urc urn urp ula uop urg utg ude ule udn uv ub ubf ubh ukp uwa : Nat} {cd sz cu fa rdn n pl st on cn hd ps ss tk : Int} {bf bh kp : Int → Int} (hsw : m_sw bf bh kp tk) : qM l G y_D_isChanged b_D_isChanged 3 (some .boolean) ({ frames := 0, cells := 0, slots := 0, locals := 0 }) [.ref u] [(u, .inr (5, [.int (qI cd), .int (qI sz), .ref utx, .int (qI cu), .int (qI fa), .int (qI rdn), .ref uro, .ref urc, .ref urn, .ref urp, .ref ula, .int (qI n), .ref uop, .ref urg, .ref utg, .ref ude, .ref ule, .ref udn, .ref uv, .ref ub, .int (qI pl), .long (qL st), .int (qI on), .long (qL cn), .int (qI hd), .long (qL ps), .long (qL ss), .ref ubf, .ref ubh, .long (qL tk), .ref ukp, .ref uwa])), (ubf, .inl (G.2.1, 8, .inl (qA bf))), (ubh, .inl (G.2.1, 8, .inl (qA bh)))] (fun v' ws' => ws' = [(u, .inr (5, [.int (qI cd), .int (qI sz), .ref utx, .int (qI cu), .int (qI fa), .int (qI rdn), .ref uro, .ref urc, .ref urn, .ref urp, .ref ula, .int (qI n), .ref uop, .ref urg, .ref utg, .ref ude, .ref ule, .ref udn, .ref uv, .ref ub, .int (qI pl), .long (qL st), .int (qI on), .long (qL cn), .int (qI hd), .long (qL ps), .long (qL ss), .ref ubf, .ref ubh, .long (qL tk), .ref ukp, .ref uwa])), (ubf, .inl (G.2.1, 8, .inl (qA bf))), (ubh, .inl (G.2.1, 8, .inl (qA bh)))] ∧ ∃ x : Int, v' = some (.int (qI x)) ∧ ((x = 1 ∧ m_df bf bh 8) ∨ (x = 0 ∧ m_eb bf bh 8))) := by
  refine qM.of (by decide) (Nat.le_of_ble_eq_true rfl) (fun xp xe xs xm xb xme xc A C hrt hlk hnm => ?_)
  refine qv_eq (lv' := [(0, .ref u)]) rfl rfl rfl ?_
  refine qv_iconst C d_D_isChanged_0 ?_
  refine qv_istore_n C d_D_isChanged_1 rfl (by decide) (lv' := [(1, .int (qI 0)), (0, .ref u)]) rfl ?_
  refine qv_iconst C d_D_isChanged_2 ?_
  refine qv_istore_n C d_D_isChanged_3 rfl (by decide) (lv' := [(2, .int (qI 0)), (1, .int (qI 0)), (0, .ref u)]) rfl ?_
  have L4 : ∀ (N4 : Nat) (y : Int) (i : Int), (8 - i).toNat < N4 → (0 ≤ i ∧ i ≤ 8) → ((y = 1 ∧ m_df bf bh i) ∨ (y = 0 ∧ m_eb bf bh i)) → qV xp l xe ({ frames := 0, cells := 0, slots := 0, locals := 0 }) xs xm [.ref u].toArray xb xme xc G A xs.heap 3 (MQ xb (qQ G A (fun v' ws' => ws' = [(u, .inr (5, [.int (qI cd), .int (qI sz), .ref utx, .int (qI cu), .int (qI fa), .int (qI rdn), .ref uro, .ref urc, .ref urn, .ref urp, .ref ula, .int (qI n), .ref uop, .ref urg, .ref utg, .ref ude, .ref ule, .ref udn, .ref uv, .ref ub, .int (qI pl), .long (qL st), .int (qI on), .long (qL cn), .int (qI hd), .long (qL ps), .long (qL ss), .ref ubf, .ref ubh, .long (qL tk), .ref ukp, .ref uwa])), (ubf, .inl (G.2.1, 8, .inl (qA bf))), (ubh, .inl (G.2.1, 8, .inl (qA bh)))] ∧ ∃ x : Int, v' = some (.int (qI x)) ∧ ((x = 1 ∧ m_df bf bh 8) ∨ (x = 0 ∧ m_eb bf bh 8)))) [.ref u].toArray xs 0 0 A) 0 0 [(u, .inr (5, [.int (qI cd), .int (qI sz), .ref utx, .int (qI cu), .int (qI fa), .int (qI rdn), .ref uro, .ref urc, .ref urn, .ref urp, .ref ula, .int (qI n), .ref uop, .ref urg, .ref utg, .ref ude, .ref ule, .ref udn, .ref uv, .ref ub, .int (qI pl), .long (qL st), .int (qI on), .long (qL cn), .int (qI hd), .long (qL ps), .long (qL ss), .ref ubf, .ref ubh, .long (qL tk), .ref ukp, .ref uwa])), (ubf, .inl (G.2.1, 8, .inl (qA bf))), (ubh, .inl (G.2.1, 8, .inl (qA bh)))] [(1, .int (qI y)), (2, .int (qI i)), (0, .ref u)] 4 [] := by
    intro N4
    induction N4 with
    | zero => intro y i hmu; exact absurd hmu (Nat.not_lt_zero _)
    | succ N4 ih4 =>
      intro y i hmu4 hi hy
      refine qv_iload_n C 1 d_D_isChanged_4 rfl rfl ?_
      refine qv_bipush C d_D_isChanged_5 (by decide) ?_
      refine qv_icmp_ge C d_D_isChanged_7 (tgt := 41) (by decide) (by omega) (by omega) (fun ht7 => ?_) (fun hf7 => ?_)
      · refine qv_iload_n C 0 d_D_isChanged_41 rfl rfl ?_
        refine qv_zret C (by rcases hy with h | h <;> omega) hrt hlk d_D_isChanged_42 ?_
        obtain rfl : i = 8 := by omega
        exact ⟨rfl, y, rfl, hy⟩
      · refine qv_iload_n C 0 d_D_isChanged_10 rfl rfl ?_
        refine qv_if_ne C d_D_isChanged_11 (tgt := 29) (by decide) (by rcases hy with h | h <;> omega) (fun ht11 => ?_) (fun hf11 => ?_)
        · refine qv_iconst C d_D_isChanged_29 ?_
          refine qv_goto C d_D_isChanged_30 (by decide) (tgt := 34) ?_
          refine qv_istore_n C d_D_isChanged_34 rfl (by decide) (lv' := [(1, .int (qI 1)), (2, .int (qI i)), (0, .ref u)]) rfl ?_
          refine qv_iinc C 1 d_D_isChanged_35 rfl (by decide) (lv' := [(2, .int (qI (i + 1))), (1, .int (qI 1)), (0, .ref u)]) rfl ?_
          refine qv_goto C d_D_isChanged_38 (by decide) (tgt := 4) ?_
          refine qv_lv (lv' := [(1, .int (qI 1)), (2, .int (qI (i + 1))), (0, .ref u)]) [1, 0, 2] rfl ?_
          exact ih4 1 (i + 1) (by omega) (by omega) (by rcases hy with ⟨h1, h2⟩ | ⟨h1, h2⟩; (· first | exact Or.inl ⟨rfl, m_df_s h2⟩ | (exfalso; omega)); (· first | exact Or.inl ⟨rfl, m_df_i hi.1 (by omega)⟩ | exact Or.inr ⟨rfl, m_eb_s h2 (by omega)⟩ | (exfalso; omega)))
        · refine qv_aload_n C 2 d_D_isChanged_14 rfl rfl ?_
          refine qv_get C in_D 0 rfl rfl 27 (by decide) wf_D_56 rfl rfl d_D_isChanged_15 ?_
          refine qv_iload_n C 1 d_D_isChanged_18 rfl rfl ?_
          refine qv_iald C 1 rfl (by omega) d_D_isChanged_19 ?_
          have hq0 := hsw.1 i
          refine qv_aload_n C 2 d_D_isChanged_20 rfl rfl ?_
          refine qv_get C in_D 0 rfl rfl 28 (by decide) wf_D_59 rfl rfl d_D_isChanged_21 ?_
          refine qv_iload_n C 1 d_D_isChanged_24 rfl rfl ?_
          refine qv_iald C 2 rfl (by omega) d_D_isChanged_25 ?_
          have hq1 := hsw.2.1 i
          refine qv_icmp_eq C d_D_isChanged_26 (tgt := 33) (by decide) (by omega) (by omega) (fun ht26 => ?_) (fun hf26 => ?_)
          · refine qv_iconst C d_D_isChanged_33 ?_
            refine qv_istore_n C d_D_isChanged_34 rfl (by decide) (lv' := [(1, .int (qI 0)), (2, .int (qI i)), (0, .ref u)]) rfl ?_
            refine qv_iinc C 1 d_D_isChanged_35 rfl (by decide) (lv' := [(2, .int (qI (i + 1))), (1, .int (qI 0)), (0, .ref u)]) rfl ?_
            refine qv_goto C d_D_isChanged_38 (by decide) (tgt := 4) ?_
            refine qv_lv (lv' := [(1, .int (qI 0)), (2, .int (qI (i + 1))), (0, .ref u)]) [1, 0, 2] rfl ?_
            exact ih4 0 (i + 1) (by omega) (by omega) (by rcases hy with ⟨h1, h2⟩ | ⟨h1, h2⟩; (· first | exact Or.inl ⟨rfl, m_df_s h2⟩ | (exfalso; omega)); (· first | exact Or.inl ⟨rfl, m_df_i hi.1 (by omega)⟩ | exact Or.inr ⟨rfl, m_eb_s h2 (by omega)⟩ | (exfalso; omega)))
          · refine qv_iconst C d_D_isChanged_29 ?_
            refine qv_goto C d_D_isChanged_30 (by decide) (tgt := 34) ?_
            refine qv_istore_n C d_D_isChanged_34 rfl (by decide) (lv' := [(1, .int (qI 1)), (2, .int (qI i)), (0, .ref u)]) rfl ?_
            refine qv_iinc C 1 d_D_isChanged_35 rfl (by decide) (lv' := [(2, .int (qI (i + 1))), (1, .int (qI 1)), (0, .ref u)]) rfl ?_
            refine qv_goto C d_D_isChanged_38 (by decide) (tgt := 4) ?_
            refine qv_lv (lv' := [(1, .int (qI 1)), (2, .int (qI (i + 1))), (0, .ref u)]) [1, 0, 2] rfl ?_
            exact ih4 1 (i + 1) (by omega) (by omega) (by rcases hy with ⟨h1, h2⟩ | ⟨h1, h2⟩; (· first | exact Or.inl ⟨rfl, m_df_s h2⟩ | (exfalso; omega)); (· first | exact Or.inl ⟨rfl, m_df_i hi.1 (by omega)⟩ | exact Or.inr ⟨rfl, m_eb_s h2 (by omega)⟩ | (exfalso; omega)))
  refine qv_lv (lv' := [(1, .int (qI 0)), (2, .int (qI 0)), (0, .ref u)]) [1, 0, 2] rfl ?_
  exact L4 _ 0 0 (Nat.lt_succ_self _) (by omega) (Or.inr ⟨rfl, m_eb_0 _ _⟩)
set_option maxHeartbeats 4000000 in
set_option maxRecDepth 100000 in
theorem c_D_isDrainChanged (l : Launch) (G : qG) {u utx uro urc urn urp ula uop urg utg ude ule udn uv ub ubf ubh ukp uwa : Nat} {cd sz cu fa rdn n pl st on cn hd ps ss tk : Int} {h : Int} {k r t de le dn bf bh kp : Int → Int} (hpd : m_pd n k r t de le dn) (hsw : m_sw bf bh kp tk) (hh : 0 ≤ h ∧ h < n ∧ 0 ≤ le h) : qM l G y_D_isDrainChanged b_D_isDrainChanged 4 (some .boolean) ({ frames := 0, cells := 0, slots := 0, locals := 0 }) [.ref u, .int (qI h)] [(u, .inr (5, [.int (qI cd), .int (qI sz), .ref utx, .int (qI cu), .int (qI fa), .int (qI rdn), .ref uro, .ref urc, .ref urn, .ref urp, .ref ula, .int (qI n), .ref uop, .ref urg, .ref utg, .ref ude, .ref ule, .ref udn, .ref uv, .ref ub, .int (qI pl), .long (qL st), .int (qI on), .long (qL cn), .int (qI hd), .long (qL ps), .long (qL ss), .ref ubf, .ref ubh, .long (qL tk), .ref ukp, .ref uwa])), (urg, .inl (G.2.1, 24, .inl (qA r))), (ude, .inl (G.2.1, 24, .inl (qA de))), (ule, .inl (G.2.1, 24, .inl (qA le))), (ubf, .inl (G.2.1, 8, .inl (qA bf))), (ubh, .inl (G.2.1, 8, .inl (qA bh)))] (fun v' ws' => ws' = [(u, .inr (5, [.int (qI cd), .int (qI sz), .ref utx, .int (qI cu), .int (qI fa), .int (qI rdn), .ref uro, .ref urc, .ref urn, .ref urp, .ref ula, .int (qI n), .ref uop, .ref urg, .ref utg, .ref ude, .ref ule, .ref udn, .ref uv, .ref ub, .int (qI pl), .long (qL st), .int (qI on), .long (qL cn), .int (qI hd), .long (qL ps), .long (qL ss), .ref ubf, .ref ubh, .long (qL tk), .ref ukp, .ref uwa])), (urg, .inl (G.2.1, 24, .inl (qA r))), (ude, .inl (G.2.1, 24, .inl (qA de))), (ule, .inl (G.2.1, 24, .inl (qA le))), (ubf, .inl (G.2.1, 8, .inl (qA bf))), (ubh, .inl (G.2.1, 8, .inl (qA bh)))] ∧ ∃ x : Int, v' = some (.int (qI x)) ∧ ((x = 1 ∧ m_dc r de bf bh h (le h)) ∨ (x = 0 ∧ m_nc r de bf bh h (le h)))) := by
  refine qM.of (by decide) (Nat.le_of_ble_eq_true rfl) (fun xp xe xs xm xb xme xc A C hrt hlk hnm => ?_)
  refine qv_eq (lv' := [(0, .ref u), (1, .int (qI h))]) rfl rfl rfl ?_
  have hn := hpd.1
  have hk := hpd.2.1
  have hr := hpd.2.2.1
  have hr7 := hpd.2.2.2.1
  have ht := hpd.2.2.2.2.1
  have ht2 := hpd.2.2.2.2.2.1
  have hdx := hpd.2.2.2.2.2.2.1
  have hl := hpd.2.2.2.2.2.2.2.2.1
  have hlq := hpd.2.2.2.2.2.2.2.2.2.1
  have hde := m_pd_de hpd
  have hle : h < le h ∧ le h < n := by
    have q := hlq h hh.1 hh.2.1
    rcases m_le_cases n k t de h with q2 | q2 <;> omega
  refine qv_iconst C d_D_isDrainChanged_0 ?_
  refine qv_istore_n C d_D_isDrainChanged_1 rfl (by decide) (lv' := [(2, .int (qI 0)), (0, .ref u), (1, .int (qI h))]) rfl ?_
  refine qv_iload_n C 2 d_D_isDrainChanged_2 rfl rfl ?_
  refine qv_iconst C d_D_isDrainChanged_3 ?_
  refine qv_iadd C d_D_isDrainChanged_4 ?_
  refine qv_istore_n C d_D_isDrainChanged_5 rfl (by decide) (lv' := [(3, .int (qI (h + 1))), (2, .int (qI 0)), (0, .ref u), (1, .int (qI h))]) rfl ?_
  have L6 : ∀ (N6 : Nat) (y : Int) (i : Int), (n - i).toNat < N6 → (h + 1 ≤ i ∧ i ≤ n) → ((y = 1 ∧ m_dc r de bf bh h i) ∨ (y = 0 ∧ m_nc r de bf bh h i)) → (i ≤ le h) → qV xp l xe ({ frames := 0, cells := 0, slots := 0, locals := 0 }) xs xm [.ref u, .int (qI h)].toArray xb xme xc G A xs.heap 4 (MQ xb (qQ G A (fun v' ws' => ws' = [(u, .inr (5, [.int (qI cd), .int (qI sz), .ref utx, .int (qI cu), .int (qI fa), .int (qI rdn), .ref uro, .ref urc, .ref urn, .ref urp, .ref ula, .int (qI n), .ref uop, .ref urg, .ref utg, .ref ude, .ref ule, .ref udn, .ref uv, .ref ub, .int (qI pl), .long (qL st), .int (qI on), .long (qL cn), .int (qI hd), .long (qL ps), .long (qL ss), .ref ubf, .ref ubh, .long (qL tk), .ref ukp, .ref uwa])), (urg, .inl (G.2.1, 24, .inl (qA r))), (ude, .inl (G.2.1, 24, .inl (qA de))), (ule, .inl (G.2.1, 24, .inl (qA le))), (ubf, .inl (G.2.1, 8, .inl (qA bf))), (ubh, .inl (G.2.1, 8, .inl (qA bh)))] ∧ ∃ x : Int, v' = some (.int (qI x)) ∧ ((x = 1 ∧ m_dc r de bf bh h (le h)) ∨ (x = 0 ∧ m_nc r de bf bh h (le h))))) [.ref u, .int (qI h)].toArray xs 0 0 A) 0 0 [(u, .inr (5, [.int (qI cd), .int (qI sz), .ref utx, .int (qI cu), .int (qI fa), .int (qI rdn), .ref uro, .ref urc, .ref urn, .ref urp, .ref ula, .int (qI n), .ref uop, .ref urg, .ref utg, .ref ude, .ref ule, .ref udn, .ref uv, .ref ub, .int (qI pl), .long (qL st), .int (qI on), .long (qL cn), .int (qI hd), .long (qL ps), .long (qL ss), .ref ubf, .ref ubh, .long (qL tk), .ref ukp, .ref uwa])), (urg, .inl (G.2.1, 24, .inl (qA r))), (ude, .inl (G.2.1, 24, .inl (qA de))), (ule, .inl (G.2.1, 24, .inl (qA le))), (ubf, .inl (G.2.1, 8, .inl (qA bf))), (ubh, .inl (G.2.1, 8, .inl (qA bh)))] [(2, .int (qI y)), (3, .int (qI i)), (0, .ref u), (1, .int (qI h))] 6 [] := by
    intro N6
    induction N6 with
    | zero => intro y i hmu; exact absurd hmu (Nat.not_lt_zero _)
    | succ N6 ih6 =>
      intro y i hmu6 hi hy hil
      refine qv_iload_n C 1 d_D_isDrainChanged_6 rfl rfl ?_
      refine qv_aload_n C 2 d_D_isDrainChanged_7 rfl rfl ?_
      refine qv_get C in_D 0 rfl rfl 16 (by decide) wf_D_40 rfl rfl d_D_isDrainChanged_8 ?_
      refine qv_iload_n C 3 d_D_isDrainChanged_11 rfl rfl ?_
      refine qv_iald C 3 rfl (by omega) d_D_isDrainChanged_12 ?_
      have hq0 := hl h
      refine qv_icmp_ge C d_D_isDrainChanged_13 (tgt := 66) (by decide) (by omega) (by omega) (fun ht13 => ?_) (fun hf13 => ?_)
      · refine qv_iload_n C 0 d_D_isDrainChanged_66 rfl rfl ?_
        refine qv_zret C (by rcases hy with h | h <;> omega) hrt hlk d_D_isDrainChanged_67 ?_
        obtain rfl : i = le h := by omega
        exact ⟨rfl, y, rfl, hy⟩
      · refine qv_iload_n C 0 d_D_isDrainChanged_16 rfl rfl ?_
        refine qv_if_ne C d_D_isDrainChanged_17 (tgt := 54) (by decide) (by rcases hy with h | h <;> omega) (fun ht17 => ?_) (fun hf17 => ?_)
        · refine qv_iconst C d_D_isDrainChanged_54 ?_
          refine qv_goto C d_D_isDrainChanged_55 (by decide) (tgt := 59) ?_
          refine qv_istore_n C d_D_isDrainChanged_59 rfl (by decide) (lv' := [(2, .int (qI 1)), (3, .int (qI i)), (0, .ref u), (1, .int (qI h))]) rfl ?_
          refine qv_iinc C 1 d_D_isDrainChanged_60 rfl (by decide) (lv' := [(3, .int (qI (i + 1))), (2, .int (qI 1)), (0, .ref u), (1, .int (qI h))]) rfl ?_
          refine qv_goto C d_D_isDrainChanged_63 (by decide) (tgt := 6) ?_
          refine qv_lv (lv' := [(2, .int (qI 1)), (3, .int (qI (i + 1))), (0, .ref u), (1, .int (qI h))]) [1, 0, 2, 3] rfl ?_
          exact ih6 1 (i + 1) (by omega) (by omega) (by rcases hy with ⟨h1, h2⟩ | ⟨h1, h2⟩; (· first | exact Or.inl ⟨rfl, m_dc_s h2⟩ | (exfalso; omega)); (· first | exact Or.inl ⟨rfl, m_dc_i (by omega) (by omega) (by omega)⟩ | exact Or.inr ⟨rfl, m_nc_s h2 (fun _ => by omega)⟩ | (exfalso; omega))) (by omega)
        · refine qv_aload_n C 2 d_D_isDrainChanged_20 rfl rfl ?_
          refine qv_get C in_D 0 rfl rfl 15 (by decide) wf_D_37 rfl rfl d_D_isDrainChanged_21 ?_
          refine qv_iload_n C 1 d_D_isDrainChanged_24 rfl rfl ?_
          refine qv_iald C 2 rfl (by omega) d_D_isDrainChanged_25 ?_
          have hq1 := hdx i
          refine qv_if_lt C d_D_isDrainChanged_26 (tgt := 58) (by decide) (by omega) (fun ht26 => ?_) (fun hf26 => ?_)
          · refine qv_iconst C d_D_isDrainChanged_58 ?_
            refine qv_istore_n C d_D_isDrainChanged_59 rfl (by decide) (lv' := [(2, .int (qI 0)), (3, .int (qI i)), (0, .ref u), (1, .int (qI h))]) rfl ?_
            refine qv_iinc C 1 d_D_isDrainChanged_60 rfl (by decide) (lv' := [(3, .int (qI (i + 1))), (2, .int (qI 0)), (0, .ref u), (1, .int (qI h))]) rfl ?_
            refine qv_goto C d_D_isDrainChanged_63 (by decide) (tgt := 6) ?_
            refine qv_lv (lv' := [(2, .int (qI 0)), (3, .int (qI (i + 1))), (0, .ref u), (1, .int (qI h))]) [1, 0, 2, 3] rfl ?_
            exact ih6 0 (i + 1) (by omega) (by omega) (by rcases hy with ⟨h1, h2⟩ | ⟨h1, h2⟩; (· first | exact Or.inl ⟨rfl, m_dc_s h2⟩ | (exfalso; omega)); (· first | exact Or.inl ⟨rfl, m_dc_i (by omega) (by omega) (by omega)⟩ | exact Or.inr ⟨rfl, m_nc_s h2 (fun _ => by omega)⟩ | (exfalso; omega))) (by omega)
          · refine qv_aload_n C 2 d_D_isDrainChanged_29 rfl rfl ?_
            refine qv_get C in_D 0 rfl rfl 27 (by decide) wf_D_56 rfl rfl d_D_isDrainChanged_30 ?_
            refine qv_aload_n C 2 d_D_isDrainChanged_33 rfl rfl ?_
            refine qv_get C in_D 0 rfl rfl 13 (by decide) wf_D_31 rfl rfl d_D_isDrainChanged_34 ?_
            refine qv_iload_n C 1 d_D_isDrainChanged_37 rfl rfl ?_
            refine qv_iald C 1 rfl (by omega) d_D_isDrainChanged_38 ?_
            have hq2 := m_pd_r hpd i (by omega) (by omega) (by omega)
            refine qv_iald C 4 rfl (by omega) d_D_isDrainChanged_39 ?_
            have hq3 := hsw.1 (r i)
            refine qv_aload_n C 2 d_D_isDrainChanged_40 rfl rfl ?_
            refine qv_get C in_D 0 rfl rfl 28 (by decide) wf_D_59 rfl rfl d_D_isDrainChanged_41 ?_
            refine qv_aload_n C 2 d_D_isDrainChanged_44 rfl rfl ?_
            refine qv_get C in_D 0 rfl rfl 13 (by decide) wf_D_31 rfl rfl d_D_isDrainChanged_45 ?_
            refine qv_iload_n C 1 d_D_isDrainChanged_48 rfl rfl ?_
            refine qv_iald C 1 rfl (by omega) d_D_isDrainChanged_49 ?_
            have hq4 := m_pd_r hpd i (by omega) (by omega) (by omega)
            refine qv_iald C 5 rfl (by omega) d_D_isDrainChanged_50 ?_
            have hq5 := hsw.2.1 (r i)
            refine qv_icmp_eq C d_D_isDrainChanged_51 (tgt := 58) (by decide) (by omega) (by omega) (fun ht51 => ?_) (fun hf51 => ?_)
            · refine qv_iconst C d_D_isDrainChanged_58 ?_
              refine qv_istore_n C d_D_isDrainChanged_59 rfl (by decide) (lv' := [(2, .int (qI 0)), (3, .int (qI i)), (0, .ref u), (1, .int (qI h))]) rfl ?_
              refine qv_iinc C 1 d_D_isDrainChanged_60 rfl (by decide) (lv' := [(3, .int (qI (i + 1))), (2, .int (qI 0)), (0, .ref u), (1, .int (qI h))]) rfl ?_
              refine qv_goto C d_D_isDrainChanged_63 (by decide) (tgt := 6) ?_
              refine qv_lv (lv' := [(2, .int (qI 0)), (3, .int (qI (i + 1))), (0, .ref u), (1, .int (qI h))]) [1, 0, 2, 3] rfl ?_
              exact ih6 0 (i + 1) (by omega) (by omega) (by rcases hy with ⟨h1, h2⟩ | ⟨h1, h2⟩; (· first | exact Or.inl ⟨rfl, m_dc_s h2⟩ | (exfalso; omega)); (· first | exact Or.inl ⟨rfl, m_dc_i (by omega) (by omega) (by omega)⟩ | exact Or.inr ⟨rfl, m_nc_s h2 (fun _ => by omega)⟩ | (exfalso; omega))) (by omega)
            · refine qv_iconst C d_D_isDrainChanged_54 ?_
              refine qv_goto C d_D_isDrainChanged_55 (by decide) (tgt := 59) ?_
              refine qv_istore_n C d_D_isDrainChanged_59 rfl (by decide) (lv' := [(2, .int (qI 1)), (3, .int (qI i)), (0, .ref u), (1, .int (qI h))]) rfl ?_
              refine qv_iinc C 1 d_D_isDrainChanged_60 rfl (by decide) (lv' := [(3, .int (qI (i + 1))), (2, .int (qI 1)), (0, .ref u), (1, .int (qI h))]) rfl ?_
              refine qv_goto C d_D_isDrainChanged_63 (by decide) (tgt := 6) ?_
              refine qv_lv (lv' := [(2, .int (qI 1)), (3, .int (qI (i + 1))), (0, .ref u), (1, .int (qI h))]) [1, 0, 2, 3] rfl ?_
              exact ih6 1 (i + 1) (by omega) (by omega) (by rcases hy with ⟨h1, h2⟩ | ⟨h1, h2⟩; (· first | exact Or.inl ⟨rfl, m_dc_s h2⟩ | (exfalso; omega)); (· first | exact Or.inl ⟨rfl, m_dc_i (by omega) (by omega) (by omega)⟩ | exact Or.inr ⟨rfl, m_nc_s h2 (fun _ => by omega)⟩ | (exfalso; omega))) (by omega)
  refine qv_lv (lv' := [(2, .int (qI 0)), (3, .int (qI (h + 1))), (0, .ref u), (1, .int (qI h))]) [1, 0, 2, 3] rfl ?_
  exact L6 _ 0 (h + 1) (Nat.lt_succ_self _) (by omega) (Or.inr ⟨rfl, m_nc_0 _ _ _ _ _⟩) (by omega)
set_option maxHeartbeats 4000000 in
set_option maxRecDepth 100000 in
theorem c_D_stateOf (l : Launch) (G : qG) {u utx uro urc urn urp ula uop urg utg ude ule udn uv ub ubf ubh ukp uwa : Nat} {cd sz cu fa rdn n pl st on cn hd ps ss tk : Int} {k r t de le dn v bf bh kp : Int → Int} (hpd : m_pd n k r t de le dn) (hp : 0 ≤ pl ∧ pl ≤ n) (hs : 0 ≤ st ∧ st ≤ 1000000000000000) (hvw : m_vw v) (hsw : m_sw bf bh kp tk) : qM l G y_D_stateOf b_D_stateOf 1 (some .int) ({ frames := 3, cells := 0, slots := 0, locals := 71 }) [.ref u] [(u, .inr (5, [.int (qI cd), .int (qI sz), .ref utx, .int (qI cu), .int (qI fa), .int (qI rdn), .ref uro, .ref urc, .ref urn, .ref urp, .ref ula, .int (qI n), .ref uop, .ref urg, .ref utg, .ref ude, .ref ule, .ref udn, .ref uv, .ref ub, .int (qI pl), .long (qL st), .int (qI on), .long (qL cn), .int (qI hd), .long (qL ps), .long (qL ss), .ref ubf, .ref ubh, .long (qL tk), .ref ukp, .ref uwa])), (uop, .inl (G.2.1, 24, .inl (qA k))), (urg, .inl (G.2.1, 24, .inl (qA r))), (ude, .inl (G.2.1, 24, .inl (qA de))), (ule, .inl (G.2.1, 24, .inl (qA le))), (uv, .inl (G.2.1, 8, .inl (qA v))), (ubf, .inl (G.2.1, 8, .inl (qA bf))), (ubh, .inl (G.2.1, 8, .inl (qA bh)))] (fun v' ws' => ∃ (x tk' : Int) (bf' bh' : Int → Int), v' = some (.int (qI x)) ∧ ws' = [(u, .inr (5, [.int (qI cd), .int (qI sz), .ref utx, .int (qI cu), .int (qI fa), .int (qI rdn), .ref uro, .ref urc, .ref urn, .ref urp, .ref ula, .int (qI n), .ref uop, .ref urg, .ref utg, .ref ude, .ref ule, .ref udn, .ref uv, .ref ub, .int (qI pl), .long (qL st), .int (qI on), .long (qL cn), .int (qI hd), .long (qL ps), .long (qL ss), .ref ubf, .ref ubh, .long (qL tk'), .ref ukp, .ref uwa])), (uop, .inl (G.2.1, 24, .inl (qA k))), (urg, .inl (G.2.1, 24, .inl (qA r))), (ude, .inl (G.2.1, 24, .inl (qA de))), (ule, .inl (G.2.1, 24, .inl (qA le))), (uv, .inl (G.2.1, 8, .inl (qA v))), (ubf, .inl (G.2.1, 8, .inl (qA bf'))), (ubh, .inl (G.2.1, 8, .inl (qA bh')))] ∧ m_sw bf' bh' kp tk' ∧ m_sta n k r t de pl st v x) := by
  refine qM.of (by decide) (Nat.le_of_ble_eq_true rfl) (fun xp xe xs xm xb xme xc A C hrt hlk hnm => ?_)
  refine qv_eq (lv' := [(0, .ref u)]) rfl rfl rfl ?_
  have hn := hpd.1
  have hk := hpd.2.1
  have hr := hpd.2.2.1
  have hr7 := hpd.2.2.2.1
  have ht := hpd.2.2.2.2.1
  have ht2 := hpd.2.2.2.2.2.1
  have hdx := hpd.2.2.2.2.2.2.1
  have hl := hpd.2.2.2.2.2.2.2.2.1
  have hlq := hpd.2.2.2.2.2.2.2.2.2.1
  have hde := m_pd_de hpd
  refine qv_aload_n C 0 d_D_stateOf_0 rfl rfl ?_
  refine qv_cV (As := []) (rest := []) (wc := [(u, .inr (5, [.int (qI cd), .int (qI sz), .ref utx, .int (qI cu), .int (qI fa), .int (qI rdn), .ref uro, .ref urc, .ref urn, .ref urp, .ref ula, .int (qI n), .ref uop, .ref urg, .ref utg, .ref ude, .ref ule, .ref udn, .ref uv, .ref ub, .int (qI pl), .long (qL st), .int (qI on), .long (qL cn), .int (qI hd), .long (qL ps), .long (qL ss), .ref ubf, .ref ubh, .long (qL tk), .ref ukp, .ref uwa])), (uop, .inl (G.2.1, 24, .inl (qA k)))]) (wr := [(urg, .inl (G.2.1, 24, .inl (qA r))), (ude, .inl (G.2.1, 24, .inl (qA de))), (ule, .inl (G.2.1, 24, .inl (qA le))), (uv, .inl (G.2.1, 8, .inl (qA v))), (ubf, .inl (G.2.1, 8, .inl (qA bf))), (ubh, .inl (G.2.1, 8, .inl (qA bh)))]) C k_D_isHalted (c_D_isHalted l G hn hp hk) wm_D_136 wi_D_isHalted ws_D_isHalted 0 rfl rfl (by decide) d_D_stateOf_1 rfl rfl (Nat.le_of_ble_eq_true rfl) (by decide) [0, 1] [2, 3, 4, 5, 6, 7] rfl (by decide) rfl (by decide) (by decide) (fun v ws' hpost => ?_)
  obtain ⟨rfl, xh, rfl, hxh⟩ := hpost
  refine qv_eq (ws' := [(urg, .inl (G.2.1, 24, .inl (qA r))), (ude, .inl (G.2.1, 24, .inl (qA de))), (ule, .inl (G.2.1, 24, .inl (qA le))), (uv, .inl (G.2.1, 8, .inl (qA v))), (ubf, .inl (G.2.1, 8, .inl (qA bf))), (ubh, .inl (G.2.1, 8, .inl (qA bh))), (u, .inr (5, [.int (qI cd), .int (qI sz), .ref utx, .int (qI cu), .int (qI fa), .int (qI rdn), .ref uro, .ref urc, .ref urn, .ref urp, .ref ula, .int (qI n), .ref uop, .ref urg, .ref utg, .ref ude, .ref ule, .ref udn, .ref uv, .ref ub, .int (qI pl), .long (qL st), .int (qI on), .long (qL cn), .int (qI hd), .long (qL ps), .long (qL ss), .ref ubf, .ref ubh, .long (qL tk), .ref ukp, .ref uwa])), (uop, .inl (G.2.1, 24, .inl (qA k)))]) (st' := [.int (qI xh)]) rfl rfl rfl ?_
  refine qv_if_eq C d_D_stateOf_4 (tgt := 9) (by decide) (by omega) (fun ht4 => ?_) (fun hf4 => ?_)
  · refine qv_aload_n C 0 d_D_stateOf_9 rfl rfl ?_
    refine qv_cV (As := []) (rest := []) (wc := [(u, .inr (5, [.int (qI cd), .int (qI sz), .ref utx, .int (qI cu), .int (qI fa), .int (qI rdn), .ref uro, .ref urc, .ref urn, .ref urp, .ref ula, .int (qI n), .ref uop, .ref urg, .ref utg, .ref ude, .ref ule, .ref udn, .ref uv, .ref ub, .int (qI pl), .long (qL st), .int (qI on), .long (qL cn), .int (qI hd), .long (qL ps), .long (qL ss), .ref ubf, .ref ubh, .long (qL tk), .ref ukp, .ref uwa])), (uop, .inl (G.2.1, 24, .inl (qA k))), (urg, .inl (G.2.1, 24, .inl (qA r))), (uv, .inl (G.2.1, 8, .inl (qA v)))]) (wr := [(ude, .inl (G.2.1, 24, .inl (qA de))), (ule, .inl (G.2.1, 24, .inl (qA le))), (ubf, .inl (G.2.1, 8, .inl (qA bf))), (ubh, .inl (G.2.1, 8, .inl (qA bh)))]) C k_D_isStuck (c_D_isStuck l G hn hp hk hr7 hs hvw.1) wm_D_154 wi_D_isStuck ws_D_isStuck 0 rfl rfl (by decide) d_D_stateOf_10 rfl rfl (Nat.le_of_ble_eq_true rfl) (by decide) [6, 7, 0, 3] [1, 2, 4, 5] rfl (by decide) rfl (by decide) (by decide) (fun v ws' hpost => ?_)
    obtain ⟨rfl, xs_, rfl, hxs⟩ := hpost
    refine qv_eq (ws' := [(ude, .inl (G.2.1, 24, .inl (qA de))), (ule, .inl (G.2.1, 24, .inl (qA le))), (ubf, .inl (G.2.1, 8, .inl (qA bf))), (ubh, .inl (G.2.1, 8, .inl (qA bh))), (u, .inr (5, [.int (qI cd), .int (qI sz), .ref utx, .int (qI cu), .int (qI fa), .int (qI rdn), .ref uro, .ref urc, .ref urn, .ref urp, .ref ula, .int (qI n), .ref uop, .ref urg, .ref utg, .ref ude, .ref ule, .ref udn, .ref uv, .ref ub, .int (qI pl), .long (qL st), .int (qI on), .long (qL cn), .int (qI hd), .long (qL ps), .long (qL ss), .ref ubf, .ref ubh, .long (qL tk), .ref ukp, .ref uwa])), (uop, .inl (G.2.1, 24, .inl (qA k))), (urg, .inl (G.2.1, 24, .inl (qA r))), (uv, .inl (G.2.1, 8, .inl (qA v)))]) (st' := [.int (qI xs_)]) rfl rfl rfl ?_
    refine qv_if_eq C d_D_stateOf_13 (tgt := 18) (by decide) (by omega) (fun ht13 => ?_) (fun hf13 => ?_)
    · refine qv_aload_n C 0 d_D_stateOf_18 rfl rfl ?_
      refine qv_cV (As := []) (rest := []) (wc := [(u, .inr (5, [.int (qI cd), .int (qI sz), .ref utx, .int (qI cu), .int (qI fa), .int (qI rdn), .ref uro, .ref urc, .ref urn, .ref urp, .ref ula, .int (qI n), .ref uop, .ref urg, .ref utg, .ref ude, .ref ule, .ref udn, .ref uv, .ref ub, .int (qI pl), .long (qL st), .int (qI on), .long (qL cn), .int (qI hd), .long (qL ps), .long (qL ss), .ref ubf, .ref ubh, .long (qL tk), .ref ukp, .ref uwa])), (uop, .inl (G.2.1, 24, .inl (qA k))), (urg, .inl (G.2.1, 24, .inl (qA r))), (ude, .inl (G.2.1, 24, .inl (qA de))), (ule, .inl (G.2.1, 24, .inl (qA le))), (uv, .inl (G.2.1, 8, .inl (qA v))), (ubf, .inl (G.2.1, 8, .inl (qA bf))), (ubh, .inl (G.2.1, 8, .inl (qA bh)))]) (wr := []) C k_D_isFull (c_D_isFull l G hpd hp hs hvw hsw) wm_D_157 wi_D_isFull ws_D_isFull 0 rfl rfl (by decide) d_D_stateOf_19 rfl rfl (Nat.le_of_ble_eq_true rfl) (by decide) [4, 5, 6, 0, 1, 7, 2, 3] [] rfl (by decide) rfl (by decide) (by decide) (fun v ws' hpost => ?_)
      obtain ⟨x, tk', bf', bh', rfl, rfl, hsw', hfu⟩ := hpost
      refine qv_eq (ws' := [(u, .inr (5, [.int (qI cd), .int (qI sz), .ref utx, .int (qI cu), .int (qI fa), .int (qI rdn), .ref uro, .ref urc, .ref urn, .ref urp, .ref ula, .int (qI n), .ref uop, .ref urg, .ref utg, .ref ude, .ref ule, .ref udn, .ref uv, .ref ub, .int (qI pl), .long (qL st), .int (qI on), .long (qL cn), .int (qI hd), .long (qL ps), .long (qL ss), .ref ubf, .ref ubh, .long (qL tk'), .ref ukp, .ref uwa])), (uop, .inl (G.2.1, 24, .inl (qA k))), (urg, .inl (G.2.1, 24, .inl (qA r))), (ude, .inl (G.2.1, 24, .inl (qA de))), (ule, .inl (G.2.1, 24, .inl (qA le))), (uv, .inl (G.2.1, 8, .inl (qA v))), (ubf, .inl (G.2.1, 8, .inl (qA bf'))), (ubh, .inl (G.2.1, 8, .inl (qA bh')))]) (st' := [.int (qI x)]) rfl rfl rfl ?_
      have hx01 : 0 ≤ x ∧ x ≤ 1 := by rcases hfu with h | h <;> omega
      refine qv_if_eq C d_D_stateOf_22 (tgt := 36) (by decide) (by omega) (fun ht22 => ?_) (fun hf22 => ?_)
      · refine qv_iconst C d_D_stateOf_36 ?_
        refine qv_iret C hrt hlk d_D_stateOf_37 ?_
        refine ⟨0, tk', bf', bh', rfl, rfl, hsw', m_sta_fu hvw.1 hpd (by omega) (by omega) hfu ?_⟩
        first | exact Or.inr ⟨rfl, Or.inl (by omega)⟩ | exact Or.inr ⟨rfl, Or.inr ⟨by omega, by rcases hxc with h | h; (· exact h.2); (· exact absurd h.1 (by omega))⟩⟩
      · refine qv_aload_n C 0 d_D_stateOf_25 rfl rfl ?_
        refine qv_cV (As := []) (rest := []) (wc := [(u, .inr (5, [.int (qI cd), .int (qI sz), .ref utx, .int (qI cu), .int (qI fa), .int (qI rdn), .ref uro, .ref urc, .ref urn, .ref urp, .ref ula, .int (qI n), .ref uop, .ref urg, .ref utg, .ref ude, .ref ule, .ref udn, .ref uv, .ref ub, .int (qI pl), .long (qL st), .int (qI on), .long (qL cn), .int (qI hd), .long (qL ps), .long (qL ss), .ref ubf, .ref ubh, .long (qL tk'), .ref ukp, .ref uwa])), (ubf, .inl (G.2.1, 8, .inl (qA bf'))), (ubh, .inl (G.2.1, 8, .inl (qA bh')))]) (wr := [(uop, .inl (G.2.1, 24, .inl (qA k))), (urg, .inl (G.2.1, 24, .inl (qA r))), (ude, .inl (G.2.1, 24, .inl (qA de))), (ule, .inl (G.2.1, 24, .inl (qA le))), (uv, .inl (G.2.1, 8, .inl (qA v)))]) C k_D_isChanged (c_D_isChanged l G hsw') wm_D_160 wi_D_isChanged ws_D_isChanged 0 rfl rfl (by decide) d_D_stateOf_26 rfl rfl (Nat.le_of_ble_eq_true rfl) (by decide) [0, 6, 7] [1, 2, 3, 4, 5] rfl (by decide) rfl (by decide) (by decide) (fun v ws' hpost => ?_)
        obtain ⟨rfl, xc, rfl, hxc⟩ := hpost
        refine qv_eq (ws' := [(uop, .inl (G.2.1, 24, .inl (qA k))), (urg, .inl (G.2.1, 24, .inl (qA r))), (ude, .inl (G.2.1, 24, .inl (qA de))), (ule, .inl (G.2.1, 24, .inl (qA le))), (uv, .inl (G.2.1, 8, .inl (qA v))), (u, .inr (5, [.int (qI cd), .int (qI sz), .ref utx, .int (qI cu), .int (qI fa), .int (qI rdn), .ref uro, .ref urc, .ref urn, .ref urp, .ref ula, .int (qI n), .ref uop, .ref urg, .ref utg, .ref ude, .ref ule, .ref udn, .ref uv, .ref ub, .int (qI pl), .long (qL st), .int (qI on), .long (qL cn), .int (qI hd), .long (qL ps), .long (qL ss), .ref ubf, .ref ubh, .long (qL tk'), .ref ukp, .ref uwa])), (ubf, .inl (G.2.1, 8, .inl (qA bf'))), (ubh, .inl (G.2.1, 8, .inl (qA bh')))]) (st' := [.int (qI xc)]) rfl rfl rfl ?_
        have hxc01 : 0 ≤ xc ∧ xc ≤ 1 := by rcases hxc with h | h <;> omega
        refine qv_if_ne C d_D_stateOf_29 (tgt := 36) (by decide) (by omega) (fun ht29 => ?_) (fun hf29 => ?_)
        · refine qv_iconst C d_D_stateOf_36 ?_
          refine qv_ws (ws' := [(u, .inr (5, [.int (qI cd), .int (qI sz), .ref utx, .int (qI cu), .int (qI fa), .int (qI rdn), .ref uro, .ref urc, .ref urn, .ref urp, .ref ula, .int (qI n), .ref uop, .ref urg, .ref utg, .ref ude, .ref ule, .ref udn, .ref uv, .ref ub, .int (qI pl), .long (qL st), .int (qI on), .long (qL cn), .int (qI hd), .long (qL ps), .long (qL ss), .ref ubf, .ref ubh, .long (qL tk'), .ref ukp, .ref uwa])), (uop, .inl (G.2.1, 24, .inl (qA k))), (urg, .inl (G.2.1, 24, .inl (qA r))), (ude, .inl (G.2.1, 24, .inl (qA de))), (ule, .inl (G.2.1, 24, .inl (qA le))), (uv, .inl (G.2.1, 8, .inl (qA v))), (ubf, .inl (G.2.1, 8, .inl (qA bf'))), (ubh, .inl (G.2.1, 8, .inl (qA bh')))]) [5, 0, 1, 2, 3, 4, 6, 7] (by decide) rfl ?_
          refine qv_iret C hrt hlk d_D_stateOf_37 ?_
          refine ⟨0, tk', bf', bh', rfl, rfl, hsw', m_sta_fu hvw.1 hpd (by omega) (by omega) hfu ?_⟩
          first | exact Or.inr ⟨rfl, Or.inl (by omega)⟩ | exact Or.inr ⟨rfl, Or.inr ⟨by omega, by rcases hxc with h | h; (· exact h.2); (· exact absurd h.1 (by omega))⟩⟩
        · refine qv_iconst C d_D_stateOf_32 ?_
          refine qv_goto C d_D_stateOf_33 (by decide) (tgt := 37) ?_
          refine qv_ws (ws' := [(u, .inr (5, [.int (qI cd), .int (qI sz), .ref utx, .int (qI cu), .int (qI fa), .int (qI rdn), .ref uro, .ref urc, .ref urn, .ref urp, .ref ula, .int (qI n), .ref uop, .ref urg, .ref utg, .ref ude, .ref ule, .ref udn, .ref uv, .ref ub, .int (qI pl), .long (qL st), .int (qI on), .long (qL cn), .int (qI hd), .long (qL ps), .long (qL ss), .ref ubf, .ref ubh, .long (qL tk'), .ref ukp, .ref uwa])), (uop, .inl (G.2.1, 24, .inl (qA k))), (urg, .inl (G.2.1, 24, .inl (qA r))), (ude, .inl (G.2.1, 24, .inl (qA de))), (ule, .inl (G.2.1, 24, .inl (qA le))), (uv, .inl (G.2.1, 8, .inl (qA v))), (ubf, .inl (G.2.1, 8, .inl (qA bf'))), (ubh, .inl (G.2.1, 8, .inl (qA bh')))]) [5, 0, 1, 2, 3, 4, 6, 7] (by decide) rfl ?_
          refine qv_iret C hrt hlk d_D_stateOf_37 ?_
          refine ⟨3, tk', bf', bh', rfl, rfl, hsw', m_sta_fu hvw.1 hpd (by omega) (by omega) hfu ?_⟩
          exact Or.inl ⟨rfl, by omega, by rcases hxc with h | h; (· exact absurd h.1 (by omega)); (· exact h.2)⟩
    · refine qv_iconst C d_D_stateOf_16 ?_
      refine qv_ws (ws' := [(u, .inr (5, [.int (qI cd), .int (qI sz), .ref utx, .int (qI cu), .int (qI fa), .int (qI rdn), .ref uro, .ref urc, .ref urn, .ref urp, .ref ula, .int (qI n), .ref uop, .ref urg, .ref utg, .ref ude, .ref ule, .ref udn, .ref uv, .ref ub, .int (qI pl), .long (qL st), .int (qI on), .long (qL cn), .int (qI hd), .long (qL ps), .long (qL ss), .ref ubf, .ref ubh, .long (qL tk), .ref ukp, .ref uwa])), (uop, .inl (G.2.1, 24, .inl (qA k))), (urg, .inl (G.2.1, 24, .inl (qA r))), (ude, .inl (G.2.1, 24, .inl (qA de))), (ule, .inl (G.2.1, 24, .inl (qA le))), (uv, .inl (G.2.1, 8, .inl (qA v))), (ubf, .inl (G.2.1, 8, .inl (qA bf))), (ubh, .inl (G.2.1, 8, .inl (qA bh)))]) [4, 5, 6, 0, 1, 7, 2, 3] (by decide) rfl ?_
      refine qv_iret C hrt hlk d_D_stateOf_17 ?_
      exact ⟨2, tk, bf, bh, rfl, rfl, hsw, Or.inr (Or.inl ⟨rfl, by omega, by omega⟩)⟩
  · refine qv_iconst C d_D_stateOf_7 ?_
    refine qv_ws (ws' := [(u, .inr (5, [.int (qI cd), .int (qI sz), .ref utx, .int (qI cu), .int (qI fa), .int (qI rdn), .ref uro, .ref urc, .ref urn, .ref urp, .ref ula, .int (qI n), .ref uop, .ref urg, .ref utg, .ref ude, .ref ule, .ref udn, .ref uv, .ref ub, .int (qI pl), .long (qL st), .int (qI on), .long (qL cn), .int (qI hd), .long (qL ps), .long (qL ss), .ref ubf, .ref ubh, .long (qL tk), .ref ukp, .ref uwa])), (uop, .inl (G.2.1, 24, .inl (qA k))), (urg, .inl (G.2.1, 24, .inl (qA r))), (ude, .inl (G.2.1, 24, .inl (qA de))), (ule, .inl (G.2.1, 24, .inl (qA le))), (uv, .inl (G.2.1, 8, .inl (qA v))), (ubf, .inl (G.2.1, 8, .inl (qA bf))), (ubh, .inl (G.2.1, 8, .inl (qA bh)))]) [6, 7, 0, 1, 2, 3, 4, 5] (by decide) rfl ?_
    refine qv_iret C hrt hlk d_D_stateOf_8 ?_
    exact ⟨1, tk, bf, bh, rfl, rfl, hsw, Or.inl ⟨rfl, by omega⟩⟩
set_option maxHeartbeats 4000000 in
set_option maxRecDepth 100000 in
theorem c_D_leapBy (l : Launch) (G : qG) {u utx uro urc urn urp ula uop urg utg ude ule udn uv ub ubf ubh ukp uwa : Nat} {cd sz cu fa rdn n pl st on cn hd ps ss tk : Int} {q : Int} {v bh : Int → Int} (hvr : ∀ c, 0 ≤ v c ∧ v c ≤ 1000000) (hbr : ∀ c, -1 ≤ bh c ∧ bh c ≤ 1000001) : qM l G y_D_leapBy b_D_leapBy 4 none ({ frames := 0, cells := 0, slots := 0, locals := 0 }) [.ref u, .long (qL q)] [(u, .inr (5, [.int (qI cd), .int (qI sz), .ref utx, .int (qI cu), .int (qI fa), .int (qI rdn), .ref uro, .ref urc, .ref urn, .ref urp, .ref ula, .int (qI n), .ref uop, .ref urg, .ref utg, .ref ude, .ref ule, .ref udn, .ref uv, .ref ub, .int (qI pl), .long (qL st), .int (qI on), .long (qL cn), .int (qI hd), .long (qL ps), .long (qL ss), .ref ubf, .ref ubh, .long (qL tk), .ref ukp, .ref uwa])), (uv, .inl (G.2.1, 8, .inl (qA v))), (ubh, .inl (G.2.1, 8, .inl (qA bh)))] (fun v' ws' => v' = none ∧ ws' = [(u, .inr (5, [.int (qI cd), .int (qI sz), .ref utx, .int (qI cu), .int (qI fa), .int (qI rdn), .ref uro, .ref urc, .ref urn, .ref urp, .ref ula, .int (qI n), .ref uop, .ref urg, .ref utg, .ref ude, .ref ule, .ref udn, .ref uv, .ref ub, .int (qI pl), .long (qL (st + q * tk)), .int (qI on), .long (qL cn), .int (qI hd), .long (qL ps), .long (qL ss), .ref ubf, .ref ubh, .long (qL tk), .ref ukp, .ref uwa])), (uv, .inl (G.2.1, 8, .inl (qA (m_lf v (fun c => bh c - v c) q 8)))), (ubh, .inl (G.2.1, 8, .inl (qA bh)))]) := by
  refine qM.of (by decide) (Nat.le_of_ble_eq_true rfl) (fun xp xe xs xm xb xme xc A C hrt hlk hnm => ?_)
  refine qv_eq (lv' := [(0, .ref u), (1, .long (qL q))]) rfl rfl rfl ?_
  refine qv_iconst C d_D_leapBy_0 ?_
  refine qv_istore_n C d_D_leapBy_1 rfl (by decide) (lv' := [(3, .int (qI 0)), (0, .ref u), (1, .long (qL q))]) rfl ?_
  have L2 : ∀ (N2 : Nat) (i : Int), (8 - i).toNat < N2 → (0 ≤ i ∧ i ≤ 8) → qV xp l xe ({ frames := 0, cells := 0, slots := 0, locals := 0 }) xs xm [.ref u, .long (qL q)].toArray xb xme xc G A xs.heap 4 (MQ xb (qQ G A (fun v' ws' => v' = none ∧ ws' = [(u, .inr (5, [.int (qI cd), .int (qI sz), .ref utx, .int (qI cu), .int (qI fa), .int (qI rdn), .ref uro, .ref urc, .ref urn, .ref urp, .ref ula, .int (qI n), .ref uop, .ref urg, .ref utg, .ref ude, .ref ule, .ref udn, .ref uv, .ref ub, .int (qI pl), .long (qL (st + q * tk)), .int (qI on), .long (qL cn), .int (qI hd), .long (qL ps), .long (qL ss), .ref ubf, .ref ubh, .long (qL tk), .ref ukp, .ref uwa])), (uv, .inl (G.2.1, 8, .inl (qA (m_lf v (fun c => bh c - v c) q 8)))), (ubh, .inl (G.2.1, 8, .inl (qA bh)))])) [.ref u, .long (qL q)].toArray xs 0 0 A) 0 0 [(u, .inr (5, [.int (qI cd), .int (qI sz), .ref utx, .int (qI cu), .int (qI fa), .int (qI rdn), .ref uro, .ref urc, .ref urn, .ref urp, .ref ula, .int (qI n), .ref uop, .ref urg, .ref utg, .ref ude, .ref ule, .ref udn, .ref uv, .ref ub, .int (qI pl), .long (qL st), .int (qI on), .long (qL cn), .int (qI hd), .long (qL ps), .long (qL ss), .ref ubf, .ref ubh, .long (qL tk), .ref ukp, .ref uwa])), (uv, .inl (G.2.1, 8, .inl (qA (m_lf v (fun c => bh c - v c) q i)))), (ubh, .inl (G.2.1, 8, .inl (qA bh)))] [(3, .int (qI i)), (0, .ref u), (1, .long (qL q))] 2 [] := by
    intro N2
    induction N2 with
    | zero => intro i hmu; exact absurd hmu (Nat.not_lt_zero _)
    | succ N2 ih2 =>
      intro i hmu2 hi
      refine qv_iload_n C 0 d_D_leapBy_2 rfl rfl ?_
      refine qv_bipush C d_D_leapBy_3 (by decide) ?_
      refine qv_icmp_ge C d_D_leapBy_5 (tgt := 40) (by decide) (by omega) (by omega) (fun ht5 => ?_) (fun hf5 => ?_)
      · refine qv_aload_n C 1 d_D_leapBy_40 rfl rfl ?_
        refine qv_dup C d_D_leapBy_41 rfl ?_
        refine qv_get C in_D 0 rfl rfl 21 (by decide) wf_D_129 rfl rfl d_D_leapBy_42 ?_
        refine qv_lload_n C 2 d_D_leapBy_45 rfl rfl ?_
        refine qv_aload_n C 1 d_D_leapBy_46 rfl rfl ?_
        refine qv_get C in_D 0 rfl rfl 29 (by decide) wf_D_142 rfl rfl d_D_leapBy_47 ?_
        refine qv_lmul C d_D_leapBy_50 ?_
        refine qv_ladd C d_D_leapBy_51 ?_
        refine qv_put C in_D 0 rfl rfl 21 (by decide) t_D t_D_ok n_D wf_D_129 rfl rfl (t_D_ok 21 (by decide)) (rfl) (rfl) (Nat.le_of_ble_eq_true rfl) d_D_leapBy_52 (ws' := [(u, .inr (5, [.int (qI cd), .int (qI sz), .ref utx, .int (qI cu), .int (qI fa), .int (qI rdn), .ref uro, .ref urc, .ref urn, .ref urp, .ref ula, .int (qI n), .ref uop, .ref urg, .ref utg, .ref ude, .ref ule, .ref udn, .ref uv, .ref ub, .int (qI pl), .long (qL (st + (q * tk))), .int (qI on), .long (qL cn), .int (qI hd), .long (qL ps), .long (qL ss), .ref ubf, .ref ubh, .long (qL tk), .ref ukp, .ref uwa])), (uv, .inl (G.2.1, 8, .inl (qA (m_lf v (fun c => bh c - v c) q i)))), (ubh, .inl (G.2.1, 8, .inl (qA bh)))]) rfl ?_
        refine qv_vret C hrt hlk d_D_leapBy_55 ?_
        obtain rfl : i = 8 := by omega
        exact ⟨rfl, rfl⟩
      · refine qv_aload_n C 1 d_D_leapBy_8 rfl rfl ?_
        refine qv_get C in_D 0 rfl rfl 18 (by decide) wf_D_46 rfl rfl d_D_leapBy_9 ?_
        refine qv_iload_n C 0 d_D_leapBy_12 rfl rfl ?_
        refine qv_dup2 C d_D_leapBy_13 rfl rfl ?_
        refine qv_iald C 1 rfl (by omega) d_D_leapBy_14 ?_
        have hq0 := hvr i
        refine qv_lload_n C 2 d_D_leapBy_15 rfl rfl ?_
        refine qv_aload_n C 1 d_D_leapBy_16 rfl rfl ?_
        refine qv_get C in_D 0 rfl rfl 28 (by decide) wf_D_59 rfl rfl d_D_leapBy_17 ?_
        refine qv_iload_n C 0 d_D_leapBy_20 rfl rfl ?_
        refine qv_iald C 2 rfl (by omega) d_D_leapBy_21 ?_
        have hq1 := hbr i
        refine qv_aload_n C 1 d_D_leapBy_22 rfl rfl ?_
        refine qv_get C in_D 0 rfl rfl 18 (by decide) wf_D_46 rfl rfl d_D_leapBy_23 ?_
        refine qv_iload_n C 0 d_D_leapBy_26 rfl rfl ?_
        refine qv_iald C 1 rfl (by omega) d_D_leapBy_27 ?_
        have hq2 := hvr i
        refine qv_isub C d_D_leapBy_28 ?_
        refine qv_i2l C (by rw [m_lf_at (by omega)]; omega) d_D_leapBy_29 ?_
        refine qv_lmul C d_D_leapBy_30 ?_
        refine qv_l2i C d_D_leapBy_31 ?_
        refine qv_iadd C d_D_leapBy_32 ?_
        refine qv_iast C 1 rfl (by omega) d_D_leapBy_33 (ws' := [(u, .inr (5, [.int (qI cd), .int (qI sz), .ref utx, .int (qI cu), .int (qI fa), .int (qI rdn), .ref uro, .ref urc, .ref urn, .ref urp, .ref ula, .int (qI n), .ref uop, .ref urg, .ref utg, .ref ude, .ref ule, .ref udn, .ref uv, .ref ub, .int (qI pl), .long (qL st), .int (qI on), .long (qL cn), .int (qI hd), .long (qL ps), .long (qL ss), .ref ubf, .ref ubh, .long (qL tk), .ref ukp, .ref uwa])), (uv, .inl (G.2.1, 8, .inl (qA (qU (m_lf v (fun c => bh c - v c) q i) i (((m_lf v (fun c => bh c - v c) q i) i) + (q * ((bh i) - ((m_lf v (fun c => bh c - v c) q i) i)))))))), (ubh, .inl (G.2.1, 8, .inl (qA bh)))]) rfl ?_
        refine qv_iinc C 0 d_D_leapBy_34 rfl (by decide) (lv' := [(3, .int (qI (i + 1))), (0, .ref u), (1, .long (qL q))]) rfl ?_
        refine qv_goto C d_D_leapBy_37 (by decide) (tgt := 2) ?_
        refine qv_eq (ws' := [(u, .inr (5, [.int (qI cd), .int (qI sz), .ref utx, .int (qI cu), .int (qI fa), .int (qI rdn), .ref uro, .ref urc, .ref urn, .ref urp, .ref ula, .int (qI n), .ref uop, .ref urg, .ref utg, .ref ude, .ref ule, .ref udn, .ref uv, .ref ub, .int (qI pl), .long (qL st), .int (qI on), .long (qL cn), .int (qI hd), .long (qL ps), .long (qL ss), .ref ubf, .ref ubh, .long (qL tk), .ref ukp, .ref uwa])), (uv, .inl (G.2.1, 8, .inl (qA (m_lf v (fun c => bh c - v c) q (i + 1))))), (ubh, .inl (G.2.1, 8, .inl (qA bh)))]) (lv' := [(3, .int (qI (i + 1))), (0, .ref u), (1, .long (qL q))]) (by rw [← m_lf_s (v := v) (δ := fun c => bh c - v c) (q := q) hi.1, m_lf_at (v := v) (δ := fun c => bh c - v c) (q := q) (j := i) (c := i) (by omega)]) (rfl) rfl ?_
        exact ih2 (i + 1) (by omega) (by first | assumption | omega)
  refine qv_eq (ws' := [(u, .inr (5, [.int (qI cd), .int (qI sz), .ref utx, .int (qI cu), .int (qI fa), .int (qI rdn), .ref uro, .ref urc, .ref urn, .ref urp, .ref ula, .int (qI n), .ref uop, .ref urg, .ref utg, .ref ude, .ref ule, .ref udn, .ref uv, .ref ub, .int (qI pl), .long (qL st), .int (qI on), .long (qL cn), .int (qI hd), .long (qL ps), .long (qL ss), .ref ubf, .ref ubh, .long (qL tk), .ref ukp, .ref uwa])), (uv, .inl (G.2.1, 8, .inl (qA (m_lf v (fun c => bh c - v c) q 0)))), (ubh, .inl (G.2.1, 8, .inl (qA bh)))]) (lv' := [(3, .int (qI 0)), (0, .ref u), (1, .long (qL q))]) (by rw [m_lf_0]) (rfl) rfl ?_
  exact L2 _ 0 (Nat.lt_succ_self _) (by first | assumption | omega)

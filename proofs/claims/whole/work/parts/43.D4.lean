set_option maxHeartbeats 4000000 in
set_option maxRecDepth 100000 in
theorem c_D_passes (l : Launch) (G : qG) {u utx uro urc urn urp ula uop urg utg ude ule udn uv ub ubf ubh ukp uwa : Nat} {cd sz cu fa rdn n pl st on cn hd ps ss tk : Int} {k r t de le dn v bf bh kp : Int → Int} (hpd : m_pd n k r t de le dn) (hp : 0 ≤ pl ∧ pl ≤ n) (hs : 0 ≤ st ∧ st ≤ 1000000000000000) (hvw : m_vw v) (hsw : m_sw bf bh kp tk) (hfu : m_fu n k r t de pl st v bf bh tk) : qM l G y_D_passes b_D_passes 10 (some .long) ({ frames := 2, cells := 0, slots := 0, locals := 50 }) [.ref u] [(u, .inr (5, [.int (qI cd), .int (qI sz), .ref utx, .int (qI cu), .int (qI fa), .int (qI rdn), .ref uro, .ref urc, .ref urn, .ref urp, .ref ula, .int (qI n), .ref uop, .ref urg, .ref utg, .ref ude, .ref ule, .ref udn, .ref uv, .ref ub, .int (qI pl), .long (qL st), .int (qI on), .long (qL cn), .int (qI hd), .long (qL ps), .long (qL ss), .ref ubf, .ref ubh, .long (qL tk), .ref ukp, .ref uwa])), (uop, .inl (G.2.1, 24, .inl (qA k))), (urg, .inl (G.2.1, 24, .inl (qA r))), (ude, .inl (G.2.1, 24, .inl (qA de))), (ule, .inl (G.2.1, 24, .inl (qA le))), (uv, .inl (G.2.1, 8, .inl (qA v))), (ubf, .inl (G.2.1, 8, .inl (qA bf))), (ubh, .inl (G.2.1, 8, .inl (qA bh))), (ukp, .inl (G.2.1, 8, .inl (qA kp)))] (fun v' ws' => ∃ (x : Int) (bf' kp' : Int → Int), v' = some (.long (qL x)) ∧ ws' = [(u, .inr (5, [.int (qI cd), .int (qI sz), .ref utx, .int (qI cu), .int (qI fa), .int (qI rdn), .ref uro, .ref urc, .ref urn, .ref urp, .ref ula, .int (qI n), .ref uop, .ref urg, .ref utg, .ref ude, .ref ule, .ref udn, .ref uv, .ref ub, .int (qI pl), .long (qL st), .int (qI on), .long (qL cn), .int (qI hd), .long (qL ps), .long (qL ss), .ref ubf, .ref ubh, .long (qL tk), .ref ukp, .ref uwa])), (uop, .inl (G.2.1, 24, .inl (qA k))), (urg, .inl (G.2.1, 24, .inl (qA r))), (ude, .inl (G.2.1, 24, .inl (qA de))), (ule, .inl (G.2.1, 24, .inl (qA le))), (uv, .inl (G.2.1, 8, .inl (qA v))), (ubf, .inl (G.2.1, 8, .inl (qA bf'))), (ubh, .inl (G.2.1, 8, .inl (qA bh))), (ukp, .inl (G.2.1, 8, .inl (qA kp')))] ∧ m_sw bf' bh kp' tk ∧ (0 ≤ x ∧ x ≤ 1000000000000000) ∧ ((x = 0 ∧ m_eb v bh 8) ∨ (m_df v bh 8 ∧ x = m_pq n k r t de pl v (1000000000000000 - st)))) := by
  refine qM.of (by decide) (Nat.le_of_ble_eq_true rfl) (fun xp xe xs xm xb xme xc A C hrt hlk hnm => ?_)
  refine qv_eq (lv' := [(0, .ref u)]) rfl rfl rfl ?_
  have hn := hpd.1
  have hk := hpd.2.1
  have hr := hpd.2.2.1
  have hr7 := hpd.2.2.2.1
  have ht := hpd.2.2.2.2.1
  have ht2 := hpd.2.2.2.2.2.1
  have hdx := hpd.2.2.2.2.2.2.1
  have hl := hpd.2.2.2.2.2.2.2.2.1
  have hlq := hpd.2.2.2.2.2.2.2.2.2.1
  have hde := m_pd_de hpd
  obtain ⟨lo, hx_, dr, ln, hx9, htk9, hbv, hst9, hln0, hbr⟩ := hfu
  have hxi := m_xp_in hx9
  have hlq9 := hlq pl hxi.1 hxi.2.1
  have hle9 := hlq9
  obtain ⟨δ, hδ⟩ : ∃ δ : Int → Int, δ = fun c => bh c - v c := ⟨_, rfl⟩
  have hδc : ∀ c, δ c = bh c - v c := fun c => by rw [hδ]
  have hδr : ∀ c, -1000000 ≤ δ c ∧ δ c ≤ 1000000 := fun c => by have a := hδc c; have b := hbr c; have d := hvw.1 c; omega
  have hδz : ∀ c : Int, ¬ (0 ≤ c ∧ c < 8) → δ c = 0 := fun c h => by rw [hδc c, (hsw.2.2.1 c h).2.1, hvw.2 c h]; rfl
  have hok0 : m_ok δ 0 (bh, lo, hx_) := m_ok_z (m_fl_lh hx9 hvw.1)
  have hln9 : 0 ≤ ln ∧ ln ≤ 1000000000 := by have := hsw.2.2.2; omega
  have hpa : m_px k r de pl (le pl) 24 pl (v, v, v) (fun _ => 0) 0 = some ((bh, lo, hx_), dr, ln) := by rw [hlq9]; exact hxi.2.2.2
  have hmo := (m_px_mo 24 pl hpa).1
  refine qv_aload_n C 0 d_D_passes_0 rfl rfl ?_
  refine qv_cV (As := []) (rest := []) (wc := [(u, .inr (5, [.int (qI cd), .int (qI sz), .ref utx, .int (qI cu), .int (qI fa), .int (qI rdn), .ref uro, .ref urc, .ref urn, .ref urp, .ref ula, .int (qI n), .ref uop, .ref urg, .ref utg, .ref ude, .ref ule, .ref udn, .ref uv, .ref ub, .int (qI pl), .long (qL st), .int (qI on), .long (qL cn), .int (qI hd), .long (qL ps), .long (qL ss), .ref ubf, .ref ubh, .long (qL tk), .ref ukp, .ref uwa])), (ubf, .inl (G.2.1, 8, .inl (qA bf))), (ubh, .inl (G.2.1, 8, .inl (qA bh)))]) (wr := [(uop, .inl (G.2.1, 24, .inl (qA k))), (urg, .inl (G.2.1, 24, .inl (qA r))), (ude, .inl (G.2.1, 24, .inl (qA de))), (ule, .inl (G.2.1, 24, .inl (qA le))), (uv, .inl (G.2.1, 8, .inl (qA v))), (ukp, .inl (G.2.1, 8, .inl (qA kp)))]) C k_D_isChanged (c_D_isChanged l G hsw) wm_D_160 wi_D_isChanged ws_D_isChanged 0 rfl rfl (by decide) d_D_passes_1 rfl rfl (Nat.le_of_ble_eq_true rfl) (by decide) [0, 6, 7] [1, 2, 3, 4, 5, 8] rfl (by decide) rfl (by decide) (by decide) (fun v ws' hpost => ?_)
  obtain ⟨rfl, xch, rfl, hxc⟩ := hpost
  refine qv_eq (ws' := [(uop, .inl (G.2.1, 24, .inl (qA k))), (urg, .inl (G.2.1, 24, .inl (qA r))), (ude, .inl (G.2.1, 24, .inl (qA de))), (ule, .inl (G.2.1, 24, .inl (qA le))), (uv, .inl (G.2.1, 8, .inl (qA v))), (ukp, .inl (G.2.1, 8, .inl (qA kp))), (u, .inr (5, [.int (qI cd), .int (qI sz), .ref utx, .int (qI cu), .int (qI fa), .int (qI rdn), .ref uro, .ref urc, .ref urn, .ref urp, .ref ula, .int (qI n), .ref uop, .ref urg, .ref utg, .ref ude, .ref ule, .ref udn, .ref uv, .ref ub, .int (qI pl), .long (qL st), .int (qI on), .long (qL cn), .int (qI hd), .long (qL ps), .long (qL ss), .ref ubf, .ref ubh, .long (qL tk), .ref ukp, .ref uwa])), (ubf, .inl (G.2.1, 8, .inl (qA bf))), (ubh, .inl (G.2.1, 8, .inl (qA bh)))]) (st' := [.int (qI xch)]) rfl rfl rfl ?_
  have hxch01 : 0 ≤ xch ∧ xch ≤ 1 := by rcases hxc with h | h <;> omega
  refine qv_if_ne C d_D_passes_4 (tgt := 9) (by decide) (by omega) (fun ht4 => ?_) (fun hf4 => ?_)
  · have hdf : m_df v bh 8 := by
      rcases hxc with h | h
      · rw [← hbv]; exact h.2
      · exact absurd h.1 (by omega)
    refine qv_aload_n C 0 d_D_passes_9 rfl rfl ?_
    refine qv_aload_n C 0 d_D_passes_10 rfl rfl ?_
    refine qv_get C in_D 6 rfl rfl 20 (by decide) wf_D_126 rfl rfl d_D_passes_11 ?_
    refine qv_cV (As := [.int (qI pl)]) (rest := []) (wc := [(u, .inr (5, [.int (qI cd), .int (qI sz), .ref utx, .int (qI cu), .int (qI fa), .int (qI rdn), .ref uro, .ref urc, .ref urn, .ref urp, .ref ula, .int (qI n), .ref uop, .ref urg, .ref utg, .ref ude, .ref ule, .ref udn, .ref uv, .ref ub, .int (qI pl), .long (qL st), .int (qI on), .long (qL cn), .int (qI hd), .long (qL ps), .long (qL ss), .ref ubf, .ref ubh, .long (qL tk), .ref ukp, .ref uwa])), (urg, .inl (G.2.1, 24, .inl (qA r))), (ude, .inl (G.2.1, 24, .inl (qA de))), (ule, .inl (G.2.1, 24, .inl (qA le))), (ubf, .inl (G.2.1, 8, .inl (qA bf))), (ubh, .inl (G.2.1, 8, .inl (qA bh)))]) (wr := [(uop, .inl (G.2.1, 24, .inl (qA k))), (uv, .inl (G.2.1, 8, .inl (qA v))), (ukp, .inl (G.2.1, 8, .inl (qA kp)))]) C k_D_isDrainChanged (c_D_isDrainChanged l G (h := pl) hpd hsw ⟨by omega, by omega, by omega⟩) wm_D_163 wi_D_isDrainChanged ws_D_isDrainChanged 0 rfl rfl (by decide) d_D_passes_14 rfl rfl (Nat.le_of_ble_eq_true rfl) (by decide) [6, 1, 2, 3, 7, 8] [0, 4, 5] rfl (by decide) rfl (by decide) (by decide) (fun v ws' hpost => ?_)
    obtain ⟨rfl, xd, rfl, hxd⟩ := hpost
    refine qv_eq (ws' := [(uop, .inl (G.2.1, 24, .inl (qA k))), (uv, .inl (G.2.1, 8, .inl (qA v))), (ukp, .inl (G.2.1, 8, .inl (qA kp))), (u, .inr (5, [.int (qI cd), .int (qI sz), .ref utx, .int (qI cu), .int (qI fa), .int (qI rdn), .ref uro, .ref urc, .ref urn, .ref urp, .ref ula, .int (qI n), .ref uop, .ref urg, .ref utg, .ref ude, .ref ule, .ref udn, .ref uv, .ref ub, .int (qI pl), .long (qL st), .int (qI on), .long (qL cn), .int (qI hd), .long (qL ps), .long (qL ss), .ref ubf, .ref ubh, .long (qL tk), .ref ukp, .ref uwa])), (urg, .inl (G.2.1, 24, .inl (qA r))), (ude, .inl (G.2.1, 24, .inl (qA de))), (ule, .inl (G.2.1, 24, .inl (qA le))), (ubf, .inl (G.2.1, 8, .inl (qA bf))), (ubh, .inl (G.2.1, 8, .inl (qA bh)))]) (st' := [.int (qI xd)]) rfl rfl rfl ?_
    have hxd01 : 0 ≤ xd ∧ xd ≤ 1 := by rcases hxd with h | h <;> omega
    refine qv_if_eq C d_D_passes_17 (tgt := 22) (by decide) (by omega) (fun ht17 => ?_) (fun hf17 => ?_)
    · have hnd : ∀ c, 0 ≤ c → c < 8 → dr c = 1 → bh c - v c = 0 := (m_dc_of hpd hx9).2 (by
        rcases hxd with h | h
        · exact absurd h.1 (by omega)
        · rw [hbv, hlq9] at h; exact h.2)
      have hδd : ∀ c, dr c = 1 → δ c = 0 := fun c hc => by
        by_cases h8 : 0 ≤ c ∧ c < 8
        · rw [hδc c]; exact hnd c h8.1 h8.2 hc
        · exact hδz c h8
      refine qv_aload_n C 0 d_D_passes_22 rfl rfl ?_
      refine qv_get C in_D 3 rfl rfl 29 (by decide) wf_D_142 rfl rfl d_D_passes_23 ?_
      refine qv_lstore_n C d_D_passes_26 rfl (by decide) (lv' := [(1, .long (qL tk)), (0, .ref u)]) rfl ?_
      refine qv_iconst C d_D_passes_27 ?_
      refine qv_istore_n C d_D_passes_28 rfl (by decide) (lv' := [(3, .int (qI 0)), (1, .long (qL tk)), (0, .ref u)]) rfl ?_
      refine qv_ldc C (n := 1000001) wk_D_167 (by decide) d_D_passes_29 ?_
      refine qv_istore C d_D_passes_31 (by decide) (lv' := [(4, .int (qI 1000001)), (3, .int (qI 0)), (1, .long (qL tk)), (0, .ref u)]) rfl ?_
      refine qv_iconst C d_D_passes_33 ?_
      refine qv_istore C d_D_passes_34 (by decide) (lv' := [(5, .int (qI 0)), (4, .int (qI 1000001)), (3, .int (qI 0)), (1, .long (qL tk)), (0, .ref u)]) rfl ?_
      have L36 : ∀ (N36 : Nat) (i : Int), (8 - i).toNat < N36 → (0 ≤ i ∧ i ≤ 8) → qV xp l xe ({ frames := 2, cells := 0, slots := 0, locals := 50 }) xs xm [.ref u].toArray xb xme xc G A xs.heap 10 (MQ xb (qQ G A (fun v' ws' => ∃ (x : Int) (bf' kp' : Int → Int), v' = some (.long (qL x)) ∧ ws' = [(u, .inr (5, [.int (qI cd), .int (qI sz), .ref utx, .int (qI cu), .int (qI fa), .int (qI rdn), .ref uro, .ref urc, .ref urn, .ref urp, .ref ula, .int (qI n), .ref uop, .ref urg, .ref utg, .ref ude, .ref ule, .ref udn, .ref uv, .ref ub, .int (qI pl), .long (qL st), .int (qI on), .long (qL cn), .int (qI hd), .long (qL ps), .long (qL ss), .ref ubf, .ref ubh, .long (qL tk), .ref ukp, .ref uwa])), (uop, .inl (G.2.1, 24, .inl (qA k))), (urg, .inl (G.2.1, 24, .inl (qA r))), (ude, .inl (G.2.1, 24, .inl (qA de))), (ule, .inl (G.2.1, 24, .inl (qA le))), (uv, .inl (G.2.1, 8, .inl (qA v))), (ubf, .inl (G.2.1, 8, .inl (qA bf'))), (ubh, .inl (G.2.1, 8, .inl (qA bh))), (ukp, .inl (G.2.1, 8, .inl (qA kp')))] ∧ m_sw bf' bh kp' tk ∧ (0 ≤ x ∧ x ≤ 1000000000000000) ∧ ((x = 0 ∧ m_eb v bh 8) ∨ (m_df v bh 8 ∧ x = m_pq n k r t de pl v (1000000000000000 - st))))) [.ref u].toArray xs 0 0 A) 0 0 [(u, .inr (5, [.int (qI cd), .int (qI sz), .ref utx, .int (qI cu), .int (qI fa), .int (qI rdn), .ref uro, .ref urc, .ref urn, .ref urp, .ref ula, .int (qI n), .ref uop, .ref urg, .ref utg, .ref ude, .ref ule, .ref udn, .ref uv, .ref ub, .int (qI pl), .long (qL st), .int (qI on), .long (qL cn), .int (qI hd), .long (qL ps), .long (qL ss), .ref ubf, .ref ubh, .long (qL tk), .ref ukp, .ref uwa])), (uop, .inl (G.2.1, 24, .inl (qA k))), (urg, .inl (G.2.1, 24, .inl (qA r))), (ude, .inl (G.2.1, 24, .inl (qA de))), (ule, .inl (G.2.1, 24, .inl (qA le))), (uv, .inl (G.2.1, 8, .inl (qA v))), (ubf, .inl (G.2.1, 8, .inl (qA bf))), (ubh, .inl (G.2.1, 8, .inl (qA bh))), (ukp, .inl (G.2.1, 8, .inl (qA (m_up kp δ i))))] [(5, .int (qI i)), (4, .int (qI 1000001)), (3, .int (qI 0)), (1, .long (qL tk)), (0, .ref u)] 36 [] := by
        intro N36
        induction N36 with
        | zero => intro i hmu; exact absurd hmu (Nat.not_lt_zero _)
        | succ N36 ih36 =>
          intro i hmu36 hi
          refine qv_iload C 0 d_D_passes_36 rfl ?_
          refine qv_bipush C d_D_passes_38 (by decide) ?_
          refine qv_icmp_ge C d_D_passes_40 (tgt := 71) (by decide) (by omega) (by omega) (fun ht40 => ?_) (fun hf40 => ?_)
          · have L71 : ∀ (N71 : Nat) (low : Int) (high : Int) (tk1 : Int) (bf1 : Int → Int) (bh1 : Int → Int), (high - low).toNat < N71 → (0 ≤ low ∧ low < high ∧ high ≤ 1000001) → (m_ok δ low (bh, lo, hx_)) → (¬ m_ok δ high (bh, lo, hx_)) → (m_sw bf1 bh1 δ tk1) → qV xp l xe ({ frames := 2, cells := 0, slots := 0, locals := 50 }) xs xm [.ref u].toArray xb xme xc G A xs.heap 10 (MQ xb (qQ G A (fun v' ws' => ∃ (x : Int) (bf' kp' : Int → Int), v' = some (.long (qL x)) ∧ ws' = [(u, .inr (5, [.int (qI cd), .int (qI sz), .ref utx, .int (qI cu), .int (qI fa), .int (qI rdn), .ref uro, .ref urc, .ref urn, .ref urp, .ref ula, .int (qI n), .ref uop, .ref urg, .ref utg, .ref ude, .ref ule, .ref udn, .ref uv, .ref ub, .int (qI pl), .long (qL st), .int (qI on), .long (qL cn), .int (qI hd), .long (qL ps), .long (qL ss), .ref ubf, .ref ubh, .long (qL tk), .ref ukp, .ref uwa])), (uop, .inl (G.2.1, 24, .inl (qA k))), (urg, .inl (G.2.1, 24, .inl (qA r))), (ude, .inl (G.2.1, 24, .inl (qA de))), (ule, .inl (G.2.1, 24, .inl (qA le))), (uv, .inl (G.2.1, 8, .inl (qA v))), (ubf, .inl (G.2.1, 8, .inl (qA bf'))), (ubh, .inl (G.2.1, 8, .inl (qA bh))), (ukp, .inl (G.2.1, 8, .inl (qA kp')))] ∧ m_sw bf' bh kp' tk ∧ (0 ≤ x ∧ x ≤ 1000000000000000) ∧ ((x = 0 ∧ m_eb v bh 8) ∨ (m_df v bh 8 ∧ x = m_pq n k r t de pl v (1000000000000000 - st))))) [.ref u].toArray xs 0 0 A) 0 0 [(u, .inr (5, [.int (qI cd), .int (qI sz), .ref utx, .int (qI cu), .int (qI fa), .int (qI rdn), .ref uro, .ref urc, .ref urn, .ref urp, .ref ula, .int (qI n), .ref uop, .ref urg, .ref utg, .ref ude, .ref ule, .ref udn, .ref uv, .ref ub, .int (qI pl), .long (qL st), .int (qI on), .long (qL cn), .int (qI hd), .long (qL ps), .long (qL ss), .ref ubf, .ref ubh, .long (qL tk1), .ref ukp, .ref uwa])), (uop, .inl (G.2.1, 24, .inl (qA k))), (urg, .inl (G.2.1, 24, .inl (qA r))), (ude, .inl (G.2.1, 24, .inl (qA de))), (ule, .inl (G.2.1, 24, .inl (qA le))), (uv, .inl (G.2.1, 8, .inl (qA v))), (ubf, .inl (G.2.1, 8, .inl (qA bf1))), (ubh, .inl (G.2.1, 8, .inl (qA bh1))), (ukp, .inl (G.2.1, 8, .inl (qA δ)))] [(3, .int (qI low)), (4, .int (qI high)), (1, .long (qL tk)), (0, .ref u)] 71 [] := by
              intro N71
              induction N71 with
              | zero => intro low high tk1 bf1 bh1 hmu; exact absurd hmu (Nat.not_lt_zero _)
              | succ N71 ih71 =>
                intro low high tk1 bf1 bh1 hmu71 hlh hL hH hsw1
                refine qv_iload C 1 d_D_passes_71 rfl ?_
                refine qv_iload_n C 0 d_D_passes_73 rfl rfl ?_
                refine qv_isub C d_D_passes_74 ?_
                refine qv_iconst C d_D_passes_75 ?_
                refine qv_icmp_le C d_D_passes_76 (tgt := 229) (by decide) (by omega) (by omega) (fun ht76 => ?_) (fun hf76 => ?_)
                · refine qv_iconst C d_D_passes_229 ?_
                  refine qv_istore C d_D_passes_230 (by decide) (lv' := [(5, .int (qI 0)), (3, .int (qI low)), (4, .int (qI high)), (1, .long (qL tk)), (0, .ref u)]) rfl ?_
                  have L232 : ∀ (N232 : Nat) (i : Int), (8 - i).toNat < N232 → (0 ≤ i ∧ i ≤ 8) → qV xp l xe ({ frames := 2, cells := 0, slots := 0, locals := 50 }) xs xm [.ref u].toArray xb xme xc G A xs.heap 10 (MQ xb (qQ G A (fun v' ws' => ∃ (x : Int) (bf' kp' : Int → Int), v' = some (.long (qL x)) ∧ ws' = [(u, .inr (5, [.int (qI cd), .int (qI sz), .ref utx, .int (qI cu), .int (qI fa), .int (qI rdn), .ref uro, .ref urc, .ref urn, .ref urp, .ref ula, .int (qI n), .ref uop, .ref urg, .ref utg, .ref ude, .ref ule, .ref udn, .ref uv, .ref ub, .int (qI pl), .long (qL st), .int (qI on), .long (qL cn), .int (qI hd), .long (qL ps), .long (qL ss), .ref ubf, .ref ubh, .long (qL tk), .ref ukp, .ref uwa])), (uop, .inl (G.2.1, 24, .inl (qA k))), (urg, .inl (G.2.1, 24, .inl (qA r))), (ude, .inl (G.2.1, 24, .inl (qA de))), (ule, .inl (G.2.1, 24, .inl (qA le))), (uv, .inl (G.2.1, 8, .inl (qA v))), (ubf, .inl (G.2.1, 8, .inl (qA bf'))), (ubh, .inl (G.2.1, 8, .inl (qA bh))), (ukp, .inl (G.2.1, 8, .inl (qA kp')))] ∧ m_sw bf' bh kp' tk ∧ (0 ≤ x ∧ x ≤ 1000000000000000) ∧ ((x = 0 ∧ m_eb v bh 8) ∨ (m_df v bh 8 ∧ x = m_pq n k r t de pl v (1000000000000000 - st))))) [.ref u].toArray xs 0 0 A) 0 0 [(u, .inr (5, [.int (qI cd), .int (qI sz), .ref utx, .int (qI cu), .int (qI fa), .int (qI rdn), .ref uro, .ref urc, .ref urn, .ref urp, .ref ula, .int (qI n), .ref uop, .ref urg, .ref utg, .ref ude, .ref ule, .ref udn, .ref uv, .ref ub, .int (qI pl), .long (qL st), .int (qI on), .long (qL cn), .int (qI hd), .long (qL ps), .long (qL ss), .ref ubf, .ref ubh, .long (qL tk1), .ref ukp, .ref uwa])), (uop, .inl (G.2.1, 24, .inl (qA k))), (urg, .inl (G.2.1, 24, .inl (qA r))), (ude, .inl (G.2.1, 24, .inl (qA de))), (ule, .inl (G.2.1, 24, .inl (qA le))), (uv, .inl (G.2.1, 8, .inl (qA v))), (ubf, .inl (G.2.1, 8, .inl (qA bf1))), (ubh, .inl (G.2.1, 8, .inl (qA (m_up bh1 bh i)))), (ukp, .inl (G.2.1, 8, .inl (qA δ)))] [(5, .int (qI i)), (3, .int (qI low)), (1, .long (qL tk)), (0, .ref u)] 232 [] := by
                    intro N232
                    induction N232 with
                    | zero => intro i hmu; exact absurd hmu (Nat.not_lt_zero _)
                    | succ N232 ih232 =>
                      intro i hmu232 hi
                      refine qv_iload C 0 d_D_passes_232 rfl ?_
                      refine qv_bipush C d_D_passes_234 (by decide) ?_
                      refine qv_icmp_ge C d_D_passes_236 (tgt := 267) (by decide) (by omega) (by omega) (fun ht236 => ?_) (fun hf236 => ?_)
                      · refine qv_aload_n C 3 d_D_passes_267 rfl rfl ?_
                        refine qv_lload_n C 2 d_D_passes_268 rfl rfl ?_
                        refine qv_put C in_D 0 rfl rfl 29 (by decide) t_D t_D_ok n_D wf_D_142 rfl rfl (t_D_ok 29 (by decide)) (rfl) (rfl) (Nat.le_of_ble_eq_true rfl) d_D_passes_269 (ws' := [(u, .inr (5, [.int (qI cd), .int (qI sz), .ref utx, .int (qI cu), .int (qI fa), .int (qI rdn), .ref uro, .ref urc, .ref urn, .ref urp, .ref ula, .int (qI n), .ref uop, .ref urg, .ref utg, .ref ude, .ref ule, .ref udn, .ref uv, .ref ub, .int (qI pl), .long (qL st), .int (qI on), .long (qL cn), .int (qI hd), .long (qL ps), .long (qL ss), .ref ubf, .ref ubh, .long (qL tk), .ref ukp, .ref uwa])), (uop, .inl (G.2.1, 24, .inl (qA k))), (urg, .inl (G.2.1, 24, .inl (qA r))), (ude, .inl (G.2.1, 24, .inl (qA de))), (ule, .inl (G.2.1, 24, .inl (qA le))), (uv, .inl (G.2.1, 8, .inl (qA v))), (ubf, .inl (G.2.1, 8, .inl (qA bf1))), (ubh, .inl (G.2.1, 8, .inl (qA (m_up bh1 bh i)))), (ukp, .inl (G.2.1, 8, .inl (qA δ)))]) rfl ?_
                        refine qv_ldc2 C (n := 1000000000000000) wk_D_140 (by decide) d_D_passes_272 ?_
                        refine qv_aload_n C 3 d_D_passes_275 rfl rfl ?_
                        refine qv_get C in_D 0 rfl rfl 21 (by decide) wf_D_129 rfl rfl d_D_passes_276 ?_
                        refine qv_lsub C d_D_passes_279 ?_
                        have hq8 : 0 ≤ (1000000000000000 - st) / tk ∧ (1000000000000000 - st) / tk ≤ 1000000000000000 := by
                          have h3 : 0 ≤ (1000000000000000 - st) / tk := Int.ediv_nonneg (by omega) (by omega)
                          have h4 : (1000000000000000 - st) / tk ≤ 1000000000000000 - st := Int.ediv_le_self _ (by omega)
                          omega
                        refine qv_lload_n C 2 d_D_passes_280 rfl rfl ?_
                        refine qv_ldiv C (by omega) (by omega) d_D_passes_281 ?_
                        refine qv_lstore C d_D_passes_282 (by decide) (lv' := [(5, .long (qL ((1000000000000000 - st) / tk))), (3, .int (qI low)), (1, .long (qL tk)), (0, .ref u)]) rfl ?_
                        refine qv_iload_n C 1 d_D_passes_284 rfl rfl ?_
                        refine qv_i2l C (by omega) d_D_passes_285 ?_
                        refine qv_lconst C (z := 1) d_D_passes_286 (by decide) ?_
                        refine qv_ladd C d_D_passes_287 ?_
                        refine qv_lload C 0 d_D_passes_288 rfl ?_
                        refine qv_lcmp_ge C d_D_passes_290 d_D_passes_291 (tgt := 301) (by decide) (by omega) (by omega) (fun ht290 => ?_) (fun hf290 => ?_)
                        · refine qv_lload C 0 d_D_passes_301 rfl ?_
                          refine qv_lret C hrt hlk d_D_passes_303 ?_
                          have hi8 : i = 8 := by omega
                          have hq9 : 0 ≤ (1000000000000000 - st) / tk ∧ (1000000000000000 - st) / tk ≤ 1000000000000000 := hq8
                          have hpq := m_pq_of hδ hx9 hln9.1 (sl := 1000000000000000 - st) (by omega) (by omega) hok0 hnd hδz (low := low) (by omega) hL (by rw [show low + 1 = high by omega]; exact hH)
                          rw [← htk9] at hpq
                          refine ⟨(1000000000000000 - st) / tk, bf1, δ, rfl, ?_, ⟨hsw1.1, hsw.2.1, fun c h => ⟨(hsw1.2.2.1 c h).1, (hsw.2.2.1 c h).2.1, hδz c h⟩, hsw.2.2.2⟩, by omega, Or.inr ⟨hdf, by rw [hpq]; omega⟩⟩
                          rw [hi8, m_up_all (f := bh1) (g := bh) (fun j h => by rw [(hsw1.2.2.1 j h).2.1, (hsw.2.2.1 j h).2.1])]
                        · refine qv_iload_n C 1 d_D_passes_294 rfl rfl ?_
                          refine qv_i2l C (by omega) d_D_passes_295 ?_
                          refine qv_lconst C (z := 1) d_D_passes_296 (by decide) ?_
                          refine qv_ladd C d_D_passes_297 ?_
                          refine qv_goto C d_D_passes_298 (by decide) (tgt := 303) ?_
                          refine qv_lret C hrt hlk d_D_passes_303 ?_
                          have hi8 : i = 8 := by omega
                          have hq9 : 0 ≤ (1000000000000000 - st) / tk ∧ (1000000000000000 - st) / tk ≤ 1000000000000000 := hq8
                          have hpq := m_pq_of hδ hx9 hln9.1 (sl := 1000000000000000 - st) (by omega) (by omega) hok0 hnd hδz (low := low) (by omega) hL (by rw [show low + 1 = high by omega]; exact hH)
                          rw [← htk9] at hpq
                          refine ⟨low + 1, bf1, δ, rfl, ?_, ⟨hsw1.1, hsw.2.1, fun c h => ⟨(hsw1.2.2.1 c h).1, (hsw.2.2.1 c h).2.1, hδz c h⟩, hsw.2.2.2⟩, by omega, Or.inr ⟨hdf, by rw [hpq]; omega⟩⟩
                          rw [hi8, m_up_all (f := bh1) (g := bh) (fun j h => by rw [(hsw1.2.2.1 j h).2.1, (hsw.2.2.1 j h).2.1])]
                      · refine qv_aload_n C 3 d_D_passes_239 rfl rfl ?_
                        refine qv_get C in_D 0 rfl rfl 28 (by decide) wf_D_59 rfl rfl d_D_passes_240 ?_
                        refine qv_iload C 0 d_D_passes_243 rfl ?_
                        refine qv_aload_n C 3 d_D_passes_245 rfl rfl ?_
                        refine qv_get C in_D 0 rfl rfl 18 (by decide) wf_D_46 rfl rfl d_D_passes_246 ?_
                        refine qv_iload C 0 d_D_passes_249 rfl ?_
                        refine qv_iald C 5 rfl (by omega) d_D_passes_251 ?_
                        have hq0 := hvw.1 i
                        refine qv_aload_n C 3 d_D_passes_252 rfl rfl ?_
                        refine qv_get C in_D 0 rfl rfl 30 (by decide) wf_D_62 rfl rfl d_D_passes_253 ?_
                        refine qv_iload C 0 d_D_passes_256 rfl ?_
                        refine qv_iald C 8 rfl (by omega) d_D_passes_258 ?_
                        have hq1 := hδr i
                        refine qv_iadd C d_D_passes_259 ?_
                        refine qv_iast C 7 rfl (by omega) d_D_passes_260 (ws' := [(u, .inr (5, [.int (qI cd), .int (qI sz), .ref utx, .int (qI cu), .int (qI fa), .int (qI rdn), .ref uro, .ref urc, .ref urn, .ref urp, .ref ula, .int (qI n), .ref uop, .ref urg, .ref utg, .ref ude, .ref ule, .ref udn, .ref uv, .ref ub, .int (qI pl), .long (qL st), .int (qI on), .long (qL cn), .int (qI hd), .long (qL ps), .long (qL ss), .ref ubf, .ref ubh, .long (qL tk1), .ref ukp, .ref uwa])), (uop, .inl (G.2.1, 24, .inl (qA k))), (urg, .inl (G.2.1, 24, .inl (qA r))), (ude, .inl (G.2.1, 24, .inl (qA de))), (ule, .inl (G.2.1, 24, .inl (qA le))), (uv, .inl (G.2.1, 8, .inl (qA v))), (ubf, .inl (G.2.1, 8, .inl (qA bf1))), (ubh, .inl (G.2.1, 8, .inl (qA (qU (m_up bh1 bh i) i ((v i) + (δ i)))))), (ukp, .inl (G.2.1, 8, .inl (qA δ)))]) rfl ?_
                        refine qv_iinc C 0 d_D_passes_261 rfl (by decide) (lv' := [(5, .int (qI (i + 1))), (3, .int (qI low)), (1, .long (qL tk)), (0, .ref u)]) rfl ?_
                        refine qv_goto C d_D_passes_264 (by decide) (tgt := 232) ?_
                        refine qv_eq (ws' := [(u, .inr (5, [.int (qI cd), .int (qI sz), .ref utx, .int (qI cu), .int (qI fa), .int (qI rdn), .ref uro, .ref urc, .ref urn, .ref urp, .ref ula, .int (qI n), .ref uop, .ref urg, .ref utg, .ref ude, .ref ule, .ref udn, .ref uv, .ref ub, .int (qI pl), .long (qL st), .int (qI on), .long (qL cn), .int (qI hd), .long (qL ps), .long (qL ss), .ref ubf, .ref ubh, .long (qL tk1), .ref ukp, .ref uwa])), (uop, .inl (G.2.1, 24, .inl (qA k))), (urg, .inl (G.2.1, 24, .inl (qA r))), (ude, .inl (G.2.1, 24, .inl (qA de))), (ule, .inl (G.2.1, 24, .inl (qA le))), (uv, .inl (G.2.1, 8, .inl (qA v))), (ubf, .inl (G.2.1, 8, .inl (qA bf1))), (ubh, .inl (G.2.1, 8, .inl (qA (m_up bh1 bh (i + 1))))), (ukp, .inl (G.2.1, 8, .inl (qA δ)))]) (lv' := [(5, .int (qI (i + 1))), (3, .int (qI low)), (1, .long (qL tk)), (0, .ref u)]) (by rw [show v i + δ i = bh i by rw [hδc i]; omega, m_up_s (g := bh) hi.1]) (rfl) rfl ?_
                        exact ih232 (i + 1) (by omega) (by first | assumption | omega)
                  refine qv_lv (lv' := [(5, .int (qI 0)), (3, .int (qI low)), (1, .long (qL tk)), (0, .ref u)]) [0, 1, 3, 4] rfl ?_
                  refine qv_eq (ws' := [(u, .inr (5, [.int (qI cd), .int (qI sz), .ref utx, .int (qI cu), .int (qI fa), .int (qI rdn), .ref uro, .ref urc, .ref urn, .ref urp, .ref ula, .int (qI n), .ref uop, .ref urg, .ref utg, .ref ude, .ref ule, .ref udn, .ref uv, .ref ub, .int (qI pl), .long (qL st), .int (qI on), .long (qL cn), .int (qI hd), .long (qL ps), .long (qL ss), .ref ubf, .ref ubh, .long (qL tk1), .ref ukp, .ref uwa])), (uop, .inl (G.2.1, 24, .inl (qA k))), (urg, .inl (G.2.1, 24, .inl (qA r))), (ude, .inl (G.2.1, 24, .inl (qA de))), (ule, .inl (G.2.1, 24, .inl (qA le))), (uv, .inl (G.2.1, 8, .inl (qA v))), (ubf, .inl (G.2.1, 8, .inl (qA bf1))), (ubh, .inl (G.2.1, 8, .inl (qA (m_up bh1 bh 0)))), (ukp, .inl (G.2.1, 8, .inl (qA δ)))]) (lv' := [(5, .int (qI 0)), (3, .int (qI low)), (1, .long (qL tk)), (0, .ref u)]) (by rw [m_up_0]) (rfl) rfl ?_
                  exact L232 _ 0 (Nat.lt_succ_self _) (by first | assumption | omega)
                · refine qv_iload_n C 0 d_D_passes_79 rfl rfl ?_
                  refine qv_iload C 1 d_D_passes_80 rfl ?_
                  refine qv_iadd C d_D_passes_82 ?_
                  refine qv_iconst C d_D_passes_83 ?_
                  refine qv_idiv C (by omega) (by omega) d_D_passes_84 ?_
                  refine qv_istore C d_D_passes_85 (by decide) (lv' := [(5, .int (qI ((low + high) / 2))), (3, .int (qI low)), (4, .int (qI high)), (1, .long (qL tk)), (0, .ref u)]) rfl ?_
                  refine qv_iconst C d_D_passes_87 ?_
                  refine qv_istore C d_D_passes_88 (by decide) (lv' := [(6, .int (qI 1)), (5, .int (qI ((low + high) / 2))), (3, .int (qI low)), (4, .int (qI high)), (1, .long (qL tk)), (0, .ref u)]) rfl ?_
                  refine qv_iconst C d_D_passes_90 ?_
                  refine qv_istore C d_D_passes_91 (by decide) (lv' := [(7, .int (qI 0)), (6, .int (qI 1)), (5, .int (qI ((low + high) / 2))), (3, .int (qI low)), (4, .int (qI high)), (1, .long (qL tk)), (0, .ref u)]) rfl ?_
                  have L93 : ∀ (N93 : Nat) (y : Int) (i : Int) (bf2 : Int → Int), (8 - i).toNat < N93 → (0 ≤ i ∧ i ≤ 8) → ((y = 1 ∧ m_eb bf2 (fun c => v c + (low + high) / 2 * δ c) i ∧ (∀ c, 0 ≤ c → c < i → 0 ≤ v c + (low + high) / 2 * δ c ∧ v c + (low + high) / 2 * δ c ≤ 1000000)) ∨ (y = 0 ∧ m_og v δ ((low + high) / 2))) → (m_sw bf2 bh1 δ tk1) → qV xp l xe ({ frames := 2, cells := 0, slots := 0, locals := 50 }) xs xm [.ref u].toArray xb xme xc G A xs.heap 10 (MQ xb (qQ G A (fun v' ws' => ∃ (x : Int) (bf' kp' : Int → Int), v' = some (.long (qL x)) ∧ ws' = [(u, .inr (5, [.int (qI cd), .int (qI sz), .ref utx, .int (qI cu), .int (qI fa), .int (qI rdn), .ref uro, .ref urc, .ref urn, .ref urp, .ref ula, .int (qI n), .ref uop, .ref urg, .ref utg, .ref ude, .ref ule, .ref udn, .ref uv, .ref ub, .int (qI pl), .long (qL st), .int (qI on), .long (qL cn), .int (qI hd), .long (qL ps), .long (qL ss), .ref ubf, .ref ubh, .long (qL tk), .ref ukp, .ref uwa])), (uop, .inl (G.2.1, 24, .inl (qA k))), (urg, .inl (G.2.1, 24, .inl (qA r))), (ude, .inl (G.2.1, 24, .inl (qA de))), (ule, .inl (G.2.1, 24, .inl (qA le))), (uv, .inl (G.2.1, 8, .inl (qA v))), (ubf, .inl (G.2.1, 8, .inl (qA bf'))), (ubh, .inl (G.2.1, 8, .inl (qA bh))), (ukp, .inl (G.2.1, 8, .inl (qA kp')))] ∧ m_sw bf' bh kp' tk ∧ (0 ≤ x ∧ x ≤ 1000000000000000) ∧ ((x = 0 ∧ m_eb v bh 8) ∨ (m_df v bh 8 ∧ x = m_pq n k r t de pl v (1000000000000000 - st))))) [.ref u].toArray xs 0 0 A) 0 0 [(u, .inr (5, [.int (qI cd), .int (qI sz), .ref utx, .int (qI cu), .int (qI fa), .int (qI rdn), .ref uro, .ref urc, .ref urn, .ref urp, .ref ula, .int (qI n), .ref uop, .ref urg, .ref utg, .ref ude, .ref ule, .ref udn, .ref uv, .ref ub, .int (qI pl), .long (qL st), .int (qI on), .long (qL cn), .int (qI hd), .long (qL ps), .long (qL ss), .ref ubf, .ref ubh, .long (qL tk1), .ref ukp, .ref uwa])), (uop, .inl (G.2.1, 24, .inl (qA k))), (urg, .inl (G.2.1, 24, .inl (qA r))), (ude, .inl (G.2.1, 24, .inl (qA de))), (ule, .inl (G.2.1, 24, .inl (qA le))), (uv, .inl (G.2.1, 8, .inl (qA v))), (ubf, .inl (G.2.1, 8, .inl (qA bf2))), (ubh, .inl (G.2.1, 8, .inl (qA bh1))), (ukp, .inl (G.2.1, 8, .inl (qA δ)))] [(6, .int (qI y)), (7, .int (qI i)), (5, .int (qI ((low + high) / 2))), (3, .int (qI low)), (4, .int (qI high)), (1, .long (qL tk)), (0, .ref u)] 93 [] := by
                    intro N93
                    induction N93 with
                    | zero => intro y i bf2 hmu; exact absurd hmu (Nat.not_lt_zero _)
                    | succ N93 ih93 =>
                      intro y i bf2 hmu93 hi hy hsw2
                      refine qv_iload C 1 d_D_passes_93 rfl ?_
                      refine qv_bipush C d_D_passes_95 (by decide) ?_
                      refine qv_icmp_ge C d_D_passes_97 (tgt := 176) (by decide) (by omega) (by omega) (fun ht97 => ?_) (fun hf97 => ?_)
                      · refine qv_iload C 0 d_D_passes_176 rfl ?_
                        refine qv_if_eq C d_D_passes_178 (tgt := 197) (by decide) (by rcases hy with h | h <;> omega) (fun ht178 => ?_) (fun hf178 => ?_)
                        · have hmid0 : ¬ m_ok δ ((low + high) / 2) (bh, lo, hx_) := m_og_n hpa (by rcases hy with h | h; (· exact absurd h.1 (by omega)); (· exact h.2))
                          refine qv_iconst C d_D_passes_197 ?_
                          refine qv_istore C d_D_passes_198 (by decide) (lv' := [(7, .int (qI 0)), (6, .int (qI y)), (5, .int (qI ((low + high) / 2))), (3, .int (qI low)), (4, .int (qI high)), (1, .long (qL tk)), (0, .ref u)]) rfl ?_
                          refine qv_iload C 0 d_D_passes_200 rfl ?_
                          refine qv_if_eq C d_D_passes_202 (tgt := 210) (by decide) (by omega) (fun ht202 => ?_) (fun hf202 => ?_)
                          · refine qv_iload_n C 3 d_D_passes_210 rfl rfl ?_
                            refine qv_istore_n C d_D_passes_211 rfl (by decide) (lv' := [(3, .int (qI low)), (7, .int (qI 0)), (6, .int (qI y)), (5, .int (qI ((low + high) / 2))), (4, .int (qI high)), (1, .long (qL tk)), (0, .ref u)]) rfl ?_
                            refine qv_iload C 1 d_D_passes_212 rfl ?_
                            refine qv_if_eq C d_D_passes_214 (tgt := 222) (by decide) (by omega) (fun ht214 => ?_) (fun hf214 => ?_)
                            · refine qv_iload C 3 d_D_passes_222 rfl ?_
                              refine qv_istore C d_D_passes_224 (by decide) (lv' := [(4, .int (qI ((low + high) / 2))), (3, .int (qI low)), (7, .int (qI 0)), (6, .int (qI y)), (5, .int (qI ((low + high) / 2))), (1, .long (qL tk)), (0, .ref u)]) rfl ?_
                              refine qv_goto C d_D_passes_226 (by decide) (tgt := 71) ?_
                              refine qv_lv (lv' := [(3, .int (qI low)), (4, .int (qI ((low + high) / 2))), (1, .long (qL tk)), (0, .ref u)]) [1, 0, 5, 6] rfl ?_
                              exact ih71 low ((low + high) / 2) tk1 bf2 bh1 (by omega) (by omega) (hL) (hmid0) (hsw2)
                            · exfalso; omega
                          · exfalso; omega
                        · have hy1 := hy.resolve_right (fun h => hf178 h.1)
                          have hi8 : i = 8 := by omega
                          have hbfe : bf2 = fun c => v c + (low + high) / 2 * δ c := m_eb_all (by rw [← hi8]; exact hy1.2.1) (fun c h => by rw [(hsw2.2.2.1 c h).1, hvw.2 c h, hδz c h]; omega)
                          have hbfr : ∀ c, 0 ≤ bf2 c ∧ bf2 c ≤ 1000000 := fun c => by
                            rw [hbfe]
                            dsimp only
                            by_cases h8 : 0 ≤ c ∧ c < 8
                            · exact hy1.2.2 c h8.1 (by omega)
                            · rw [hvw.2 c h8, hδz c h8]; omega
                          refine qv_aload_n C 6 d_D_passes_181 rfl rfl ?_
                          refine qv_aload_n C 6 d_D_passes_182 rfl rfl ?_
                          refine qv_get C in_D 0 rfl rfl 20 (by decide) wf_D_126 rfl rfl d_D_passes_183 ?_
                          refine qv_lconst C (z := 0) d_D_passes_186 (by decide) ?_
                          refine qv_cV (As := [.int (qI pl), .long (qL 0)]) (rest := []) (wc := [(u, .inr (5, [.int (qI cd), .int (qI sz), .ref utx, .int (qI cu), .int (qI fa), .int (qI rdn), .ref uro, .ref urc, .ref urn, .ref urp, .ref ula, .int (qI n), .ref uop, .ref urg, .ref utg, .ref ude, .ref ule, .ref udn, .ref uv, .ref ub, .int (qI pl), .long (qL st), .int (qI on), .long (qL cn), .int (qI hd), .long (qL ps), .long (qL ss), .ref ubf, .ref ubh, .long (qL tk1), .ref ukp, .ref uwa])), (uop, .inl (G.2.1, 24, .inl (qA k))), (urg, .inl (G.2.1, 24, .inl (qA r))), (ude, .inl (G.2.1, 24, .inl (qA de))), (ule, .inl (G.2.1, 24, .inl (qA le))), (ubf, .inl (G.2.1, 8, .inl (qA bf2))), (ubh, .inl (G.2.1, 8, .inl (qA bh1)))]) (wr := [(uv, .inl (G.2.1, 8, .inl (qA v))), (ukp, .inl (G.2.1, 8, .inl (qA δ)))]) C k_D_pass (c_D_pass l G (t := t) (dn := dn) (bf := bf2) (bh := bh1) hpd (h := pl) (s0 := 0) ⟨by omega, by omega, by omega⟩ (by omega) hbfr (fun j h => by rw [(hsw2.2.2.1 j h).2.1, (hsw2.2.2.1 j h).1])) wm_D_150 wi_D_pass ws_D_pass 0 rfl rfl (by decide) d_D_passes_187 rfl rfl (Nat.le_of_ble_eq_true rfl) (by decide) [0, 1, 2, 3, 4, 6, 7] [5, 8] rfl (by decide) rfl (by decide) (by decide) (fun v ws' hpost => ?_)
                          obtain ⟨xf, tk2, w2, rfl, rfl, hfin, hw1, hout, htk⟩ := hpost
                          refine qv_eq (ws' := [(uv, .inl (G.2.1, 8, .inl (qA v))), (ukp, .inl (G.2.1, 8, .inl (qA δ))), (u, .inr (5, [.int (qI cd), .int (qI sz), .ref utx, .int (qI cu), .int (qI fa), .int (qI rdn), .ref uro, .ref urc, .ref urn, .ref urp, .ref ula, .int (qI n), .ref uop, .ref urg, .ref utg, .ref ude, .ref ule, .ref udn, .ref uv, .ref ub, .int (qI pl), .long (qL st), .int (qI on), .long (qL cn), .int (qI hd), .long (qL ps), .long (qL ss), .ref ubf, .ref ubh, .long (qL tk2), .ref ukp, .ref uwa])), (uop, .inl (G.2.1, 24, .inl (qA k))), (urg, .inl (G.2.1, 24, .inl (qA r))), (ude, .inl (G.2.1, 24, .inl (qA de))), (ule, .inl (G.2.1, 24, .inl (qA le))), (ubf, .inl (G.2.1, 8, .inl (qA bf2))), (ubh, .inl (G.2.1, 8, .inl (qA w2)))]) (st' := [.int (qI xf)]) rfl rfl rfl ?_
                          have hxf01 : 0 ≤ xf ∧ xf ≤ 1 := by rcases hfin with h | h <;> omega
                          have hsw3 := hsw2
                          have hsw2 : m_sw bf2 w2 δ tk2 := ⟨hsw3.1, hw1, fun c h => ⟨(hsw3.2.2.1 c h).1, (hout c h).trans (hsw3.2.2.1 c h).1, (hsw3.2.2.1 c h).2.2⟩, htk⟩
                          have hmid : (xf = 1 → m_ok δ ((low + high) / 2) (bh, lo, hx_)) ∧ (xf = 0 → ¬ m_ok δ ((low + high) / 2) (bh, lo, hx_)) := m_mid hpa hδd hbfe (fun c => by have q := hbfr c; rw [hbfe] at q; exact q) hle9 hln9 hfin
                          clear hfin
                          refine qv_if_eq C d_D_passes_190 (tgt := 197) (by decide) (by omega) (fun ht190 => ?_) (fun hf190 => ?_)
                          · refine qv_iconst C d_D_passes_197 ?_
                            refine qv_istore C d_D_passes_198 (by decide) (lv' := [(7, .int (qI 0)), (6, .int (qI y)), (5, .int (qI ((low + high) / 2))), (3, .int (qI low)), (4, .int (qI high)), (1, .long (qL tk)), (0, .ref u)]) rfl ?_
                            refine qv_iload C 0 d_D_passes_200 rfl ?_
                            refine qv_if_eq C d_D_passes_202 (tgt := 210) (by decide) (by omega) (fun ht202 => ?_) (fun hf202 => ?_)
                            · refine qv_iload_n C 3 d_D_passes_210 rfl rfl ?_
                              refine qv_istore_n C d_D_passes_211 rfl (by decide) (lv' := [(3, .int (qI low)), (7, .int (qI 0)), (6, .int (qI y)), (5, .int (qI ((low + high) / 2))), (4, .int (qI high)), (1, .long (qL tk)), (0, .ref u)]) rfl ?_
                              refine qv_iload C 1 d_D_passes_212 rfl ?_
                              refine qv_if_eq C d_D_passes_214 (tgt := 222) (by decide) (by omega) (fun ht214 => ?_) (fun hf214 => ?_)
                              · refine qv_iload C 3 d_D_passes_222 rfl ?_
                                refine qv_istore C d_D_passes_224 (by decide) (lv' := [(4, .int (qI ((low + high) / 2))), (3, .int (qI low)), (7, .int (qI 0)), (6, .int (qI y)), (5, .int (qI ((low + high) / 2))), (1, .long (qL tk)), (0, .ref u)]) rfl ?_
                                refine qv_goto C d_D_passes_226 (by decide) (tgt := 71) ?_
                                refine qv_lv (lv' := [(3, .int (qI low)), (4, .int (qI ((low + high) / 2))), (1, .long (qL tk)), (0, .ref u)]) [1, 0, 5, 6] rfl ?_
                                refine qv_ws (ws' := [(u, .inr (5, [.int (qI cd), .int (qI sz), .ref utx, .int (qI cu), .int (qI fa), .int (qI rdn), .ref uro, .ref urc, .ref urn, .ref urp, .ref ula, .int (qI n), .ref uop, .ref urg, .ref utg, .ref ude, .ref ule, .ref udn, .ref uv, .ref ub, .int (qI pl), .long (qL st), .int (qI on), .long (qL cn), .int (qI hd), .long (qL ps), .long (qL ss), .ref ubf, .ref ubh, .long (qL tk2), .ref ukp, .ref uwa])), (uop, .inl (G.2.1, 24, .inl (qA k))), (urg, .inl (G.2.1, 24, .inl (qA r))), (ude, .inl (G.2.1, 24, .inl (qA de))), (ule, .inl (G.2.1, 24, .inl (qA le))), (uv, .inl (G.2.1, 8, .inl (qA v))), (ubf, .inl (G.2.1, 8, .inl (qA bf2))), (ubh, .inl (G.2.1, 8, .inl (qA w2))), (ukp, .inl (G.2.1, 8, .inl (qA δ)))]) [2, 3, 4, 5, 6, 0, 7, 8, 1] (by decide) rfl ?_
                                exact ih71 low ((low + high) / 2) tk2 bf2 w2 (by omega) (by omega) (hL) (hmid.2 (by omega)) (hsw2)
                              · exfalso; omega
                            · exfalso; omega
                          · refine qv_iconst C d_D_passes_193 ?_
                            refine qv_goto C d_D_passes_194 (by decide) (tgt := 198) ?_
                            refine qv_istore C d_D_passes_198 (by decide) (lv' := [(7, .int (qI 1)), (6, .int (qI y)), (5, .int (qI ((low + high) / 2))), (3, .int (qI low)), (4, .int (qI high)), (1, .long (qL tk)), (0, .ref u)]) rfl ?_
                            refine qv_iload C 0 d_D_passes_200 rfl ?_
                            refine qv_if_eq C d_D_passes_202 (tgt := 210) (by decide) (by omega) (fun ht202 => ?_) (fun hf202 => ?_)
                            · exfalso; omega
                            · refine qv_iload C 2 d_D_passes_205 rfl ?_
                              refine qv_goto C d_D_passes_207 (by decide) (tgt := 211) ?_
                              refine qv_istore_n C d_D_passes_211 rfl (by decide) (lv' := [(3, .int (qI ((low + high) / 2))), (7, .int (qI 1)), (6, .int (qI y)), (5, .int (qI ((low + high) / 2))), (4, .int (qI high)), (1, .long (qL tk)), (0, .ref u)]) rfl ?_
                              refine qv_iload C 1 d_D_passes_212 rfl ?_
                              refine qv_if_eq C d_D_passes_214 (tgt := 222) (by decide) (by omega) (fun ht214 => ?_) (fun hf214 => ?_)
                              · exfalso; omega
                              · refine qv_iload C 4 d_D_passes_217 rfl ?_
                                refine qv_goto C d_D_passes_219 (by decide) (tgt := 224) ?_
                                refine qv_istore C d_D_passes_224 (by decide) (lv' := [(4, .int (qI high)), (3, .int (qI ((low + high) / 2))), (7, .int (qI 1)), (6, .int (qI y)), (5, .int (qI ((low + high) / 2))), (1, .long (qL tk)), (0, .ref u)]) rfl ?_
                                refine qv_goto C d_D_passes_226 (by decide) (tgt := 71) ?_
                                refine qv_lv (lv' := [(3, .int (qI ((low + high) / 2))), (4, .int (qI high)), (1, .long (qL tk)), (0, .ref u)]) [1, 0, 5, 6] rfl ?_
                                refine qv_ws (ws' := [(u, .inr (5, [.int (qI cd), .int (qI sz), .ref utx, .int (qI cu), .int (qI fa), .int (qI rdn), .ref uro, .ref urc, .ref urn, .ref urp, .ref ula, .int (qI n), .ref uop, .ref urg, .ref utg, .ref ude, .ref ule, .ref udn, .ref uv, .ref ub, .int (qI pl), .long (qL st), .int (qI on), .long (qL cn), .int (qI hd), .long (qL ps), .long (qL ss), .ref ubf, .ref ubh, .long (qL tk2), .ref ukp, .ref uwa])), (uop, .inl (G.2.1, 24, .inl (qA k))), (urg, .inl (G.2.1, 24, .inl (qA r))), (ude, .inl (G.2.1, 24, .inl (qA de))), (ule, .inl (G.2.1, 24, .inl (qA le))), (uv, .inl (G.2.1, 8, .inl (qA v))), (ubf, .inl (G.2.1, 8, .inl (qA bf2))), (ubh, .inl (G.2.1, 8, .inl (qA w2))), (ukp, .inl (G.2.1, 8, .inl (qA δ)))]) [2, 3, 4, 5, 6, 0, 7, 8, 1] (by decide) rfl ?_
                                exact ih71 ((low + high) / 2) high tk2 bf2 w2 (by omega) (by omega) (hmid.1 (by omega)) (hH) (hsw2)
                      · refine qv_aload_n C 6 d_D_passes_100 rfl rfl ?_
                        refine qv_get C in_D 0 rfl rfl 18 (by decide) wf_D_46 rfl rfl d_D_passes_101 ?_
                        refine qv_iload C 1 d_D_passes_104 rfl ?_
                        refine qv_iald C 5 rfl (by omega) d_D_passes_106 ?_
                        have hq2 := hvw.1 i
                        refine qv_i2l C (by omega) d_D_passes_107 ?_
                        refine qv_iload C 2 d_D_passes_108 rfl ?_
                        refine qv_i2l C (by omega) d_D_passes_110 ?_
                        refine qv_aload_n C 6 d_D_passes_111 rfl rfl ?_
                        refine qv_get C in_D 0 rfl rfl 30 (by decide) wf_D_62 rfl rfl d_D_passes_112 ?_
                        refine qv_iload C 1 d_D_passes_115 rfl ?_
                        refine qv_iald C 8 rfl (by omega) d_D_passes_117 ?_
                        have hq3 := hδr i
                        refine qv_i2l C (by omega) d_D_passes_118 ?_
                        refine qv_lmul C d_D_passes_119 ?_
                        refine qv_ladd C d_D_passes_120 ?_
                        have hmb := m_mb (a := (low + high) / 2) (b := δ i) (by omega) (hδr i)
                        refine qv_lstore C d_D_passes_121 (by decide) (lv' := [(8, .long (qL ((v i) + (((low + high) / 2) * (δ i))))), (6, .int (qI y)), (7, .int (qI i)), (5, .int (qI ((low + high) / 2))), (3, .int (qI low)), (4, .int (qI high)), (1, .long (qL tk)), (0, .ref u)]) rfl ?_
                        refine qv_iload C 1 d_D_passes_123 rfl ?_
                        refine qv_if_eq C d_D_passes_125 (tgt := 148) (by decide) (by rcases hy with h | h <;> omega) (fun ht125 => ?_) (fun hf125 => ?_)
                        · refine qv_iconst C d_D_passes_148 ?_
                          refine qv_istore C d_D_passes_149 (by decide) (lv' := [(6, .int (qI 0)), (8, .long (qL ((v i) + (((low + high) / 2) * (δ i))))), (7, .int (qI i)), (5, .int (qI ((low + high) / 2))), (3, .int (qI low)), (4, .int (qI high)), (1, .long (qL tk)), (0, .ref u)]) rfl ?_
                          refine qv_aload_n C 7 d_D_passes_151 rfl rfl ?_
                          refine qv_get C in_D 0 rfl rfl 27 (by decide) wf_D_56 rfl rfl d_D_passes_152 ?_
                          refine qv_iload C 2 d_D_passes_155 rfl ?_
                          refine qv_iload C 0 d_D_passes_157 rfl ?_
                          refine qv_if_eq C d_D_passes_159 (tgt := 168) (by decide) (by omega) (fun ht159 => ?_) (fun hf159 => ?_)
                          · refine qv_iconst C d_D_passes_168 ?_
                            refine qv_iast C 6 rfl (by omega) d_D_passes_169 (ws' := [(u, .inr (5, [.int (qI cd), .int (qI sz), .ref utx, .int (qI cu), .int (qI fa), .int (qI rdn), .ref uro, .ref urc, .ref urn, .ref urp, .ref ula, .int (qI n), .ref uop, .ref urg, .ref utg, .ref ude, .ref ule, .ref udn, .ref uv, .ref ub, .int (qI pl), .long (qL st), .int (qI on), .long (qL cn), .int (qI hd), .long (qL ps), .long (qL ss), .ref ubf, .ref ubh, .long (qL tk1), .ref ukp, .ref uwa])), (uop, .inl (G.2.1, 24, .inl (qA k))), (urg, .inl (G.2.1, 24, .inl (qA r))), (ude, .inl (G.2.1, 24, .inl (qA de))), (ule, .inl (G.2.1, 24, .inl (qA le))), (uv, .inl (G.2.1, 8, .inl (qA v))), (ubf, .inl (G.2.1, 8, .inl (qA (qU bf2 i 0)))), (ubh, .inl (G.2.1, 8, .inl (qA bh1))), (ukp, .inl (G.2.1, 8, .inl (qA δ)))]) rfl ?_
                            refine qv_iinc C 2 d_D_passes_170 rfl (by decide) (lv' := [(7, .int (qI (i + 1))), (6, .int (qI 0)), (8, .long (qL ((v i) + (((low + high) / 2) * (δ i))))), (5, .int (qI ((low + high) / 2))), (3, .int (qI low)), (4, .int (qI high)), (1, .long (qL tk)), (0, .ref u)]) rfl ?_
                            refine qv_goto C d_D_passes_173 (by decide) (tgt := 93) ?_
                            refine qv_lv (lv' := [(6, .int (qI 0)), (7, .int (qI (i + 1))), (5, .int (qI ((low + high) / 2))), (3, .int (qI low)), (4, .int (qI high)), (1, .long (qL tk)), (0, .ref u)]) [1, 0, 3, 4, 5, 6, 7] rfl ?_
                            exact ih93 0 (i + 1) (qU bf2 i 0) (by omega) (by omega) (Or.inr ⟨rfl, by rcases hy with h | h; (· first | exact m_og_i hi (by omega) | (exfalso; omega)); (· exact h.2)⟩) (m_sw_bf hsw2 hi (by omega))
                          · exfalso; omega
                        · have hy1 := hy.resolve_right (fun h => hf125 h.1)
                          refine qv_lload C 0 d_D_passes_128 rfl ?_
                          refine qv_lconst C (z := 0) d_D_passes_130 (by decide) ?_
                          refine qv_lcmp_lt C d_D_passes_131 d_D_passes_132 (tgt := 148) (by decide) (by omega) (by omega) (fun ht131 => ?_) (fun hf131 => ?_)
                          · refine qv_iconst C d_D_passes_148 ?_
                            refine qv_istore C d_D_passes_149 (by decide) (lv' := [(6, .int (qI 0)), (8, .long (qL ((v i) + (((low + high) / 2) * (δ i))))), (7, .int (qI i)), (5, .int (qI ((low + high) / 2))), (3, .int (qI low)), (4, .int (qI high)), (1, .long (qL tk)), (0, .ref u)]) rfl ?_
                            refine qv_aload_n C 7 d_D_passes_151 rfl rfl ?_
                            refine qv_get C in_D 0 rfl rfl 27 (by decide) wf_D_56 rfl rfl d_D_passes_152 ?_
                            refine qv_iload C 2 d_D_passes_155 rfl ?_
                            refine qv_iload C 0 d_D_passes_157 rfl ?_
                            refine qv_if_eq C d_D_passes_159 (tgt := 168) (by decide) (by omega) (fun ht159 => ?_) (fun hf159 => ?_)
                            · refine qv_iconst C d_D_passes_168 ?_
                              refine qv_iast C 6 rfl (by omega) d_D_passes_169 (ws' := [(u, .inr (5, [.int (qI cd), .int (qI sz), .ref utx, .int (qI cu), .int (qI fa), .int (qI rdn), .ref uro, .ref urc, .ref urn, .ref urp, .ref ula, .int (qI n), .ref uop, .ref urg, .ref utg, .ref ude, .ref ule, .ref udn, .ref uv, .ref ub, .int (qI pl), .long (qL st), .int (qI on), .long (qL cn), .int (qI hd), .long (qL ps), .long (qL ss), .ref ubf, .ref ubh, .long (qL tk1), .ref ukp, .ref uwa])), (uop, .inl (G.2.1, 24, .inl (qA k))), (urg, .inl (G.2.1, 24, .inl (qA r))), (ude, .inl (G.2.1, 24, .inl (qA de))), (ule, .inl (G.2.1, 24, .inl (qA le))), (uv, .inl (G.2.1, 8, .inl (qA v))), (ubf, .inl (G.2.1, 8, .inl (qA (qU bf2 i 0)))), (ubh, .inl (G.2.1, 8, .inl (qA bh1))), (ukp, .inl (G.2.1, 8, .inl (qA δ)))]) rfl ?_
                              refine qv_iinc C 2 d_D_passes_170 rfl (by decide) (lv' := [(7, .int (qI (i + 1))), (6, .int (qI 0)), (8, .long (qL ((v i) + (((low + high) / 2) * (δ i))))), (5, .int (qI ((low + high) / 2))), (3, .int (qI low)), (4, .int (qI high)), (1, .long (qL tk)), (0, .ref u)]) rfl ?_
                              refine qv_goto C d_D_passes_173 (by decide) (tgt := 93) ?_
                              refine qv_lv (lv' := [(6, .int (qI 0)), (7, .int (qI (i + 1))), (5, .int (qI ((low + high) / 2))), (3, .int (qI low)), (4, .int (qI high)), (1, .long (qL tk)), (0, .ref u)]) [1, 0, 3, 4, 5, 6, 7] rfl ?_
                              exact ih93 0 (i + 1) (qU bf2 i 0) (by omega) (by omega) (Or.inr ⟨rfl, by rcases hy with h | h; (· first | exact m_og_i hi (by omega) | (exfalso; omega)); (· exact h.2)⟩) (m_sw_bf hsw2 hi (by omega))
                            · exfalso; omega
                          · refine qv_lload C 0 d_D_passes_135 rfl ?_
                            refine qv_ldc2 C (n := 1000000) wk_D_148 (by decide) d_D_passes_137 ?_
                            refine qv_lcmp_gt C d_D_passes_140 d_D_passes_141 (tgt := 148) (by decide) (by omega) (by omega) (fun ht140 => ?_) (fun hf140 => ?_)
                            · refine qv_iconst C d_D_passes_148 ?_
                              refine qv_istore C d_D_passes_149 (by decide) (lv' := [(6, .int (qI 0)), (8, .long (qL ((v i) + (((low + high) / 2) * (δ i))))), (7, .int (qI i)), (5, .int (qI ((low + high) / 2))), (3, .int (qI low)), (4, .int (qI high)), (1, .long (qL tk)), (0, .ref u)]) rfl ?_
                              refine qv_aload_n C 7 d_D_passes_151 rfl rfl ?_
                              refine qv_get C in_D 0 rfl rfl 27 (by decide) wf_D_56 rfl rfl d_D_passes_152 ?_
                              refine qv_iload C 2 d_D_passes_155 rfl ?_
                              refine qv_iload C 0 d_D_passes_157 rfl ?_
                              refine qv_if_eq C d_D_passes_159 (tgt := 168) (by decide) (by omega) (fun ht159 => ?_) (fun hf159 => ?_)
                              · refine qv_iconst C d_D_passes_168 ?_
                                refine qv_iast C 6 rfl (by omega) d_D_passes_169 (ws' := [(u, .inr (5, [.int (qI cd), .int (qI sz), .ref utx, .int (qI cu), .int (qI fa), .int (qI rdn), .ref uro, .ref urc, .ref urn, .ref urp, .ref ula, .int (qI n), .ref uop, .ref urg, .ref utg, .ref ude, .ref ule, .ref udn, .ref uv, .ref ub, .int (qI pl), .long (qL st), .int (qI on), .long (qL cn), .int (qI hd), .long (qL ps), .long (qL ss), .ref ubf, .ref ubh, .long (qL tk1), .ref ukp, .ref uwa])), (uop, .inl (G.2.1, 24, .inl (qA k))), (urg, .inl (G.2.1, 24, .inl (qA r))), (ude, .inl (G.2.1, 24, .inl (qA de))), (ule, .inl (G.2.1, 24, .inl (qA le))), (uv, .inl (G.2.1, 8, .inl (qA v))), (ubf, .inl (G.2.1, 8, .inl (qA (qU bf2 i 0)))), (ubh, .inl (G.2.1, 8, .inl (qA bh1))), (ukp, .inl (G.2.1, 8, .inl (qA δ)))]) rfl ?_
                                refine qv_iinc C 2 d_D_passes_170 rfl (by decide) (lv' := [(7, .int (qI (i + 1))), (6, .int (qI 0)), (8, .long (qL ((v i) + (((low + high) / 2) * (δ i))))), (5, .int (qI ((low + high) / 2))), (3, .int (qI low)), (4, .int (qI high)), (1, .long (qL tk)), (0, .ref u)]) rfl ?_
                                refine qv_goto C d_D_passes_173 (by decide) (tgt := 93) ?_
                                refine qv_lv (lv' := [(6, .int (qI 0)), (7, .int (qI (i + 1))), (5, .int (qI ((low + high) / 2))), (3, .int (qI low)), (4, .int (qI high)), (1, .long (qL tk)), (0, .ref u)]) [1, 0, 3, 4, 5, 6, 7] rfl ?_
                                exact ih93 0 (i + 1) (qU bf2 i 0) (by omega) (by omega) (Or.inr ⟨rfl, by rcases hy with h | h; (· first | exact m_og_i hi (by omega) | (exfalso; omega)); (· exact h.2)⟩) (m_sw_bf hsw2 hi (by omega))
                              · exfalso; omega
                            · refine qv_iconst C d_D_passes_144 ?_
                              refine qv_goto C d_D_passes_145 (by decide) (tgt := 149) ?_
                              refine qv_istore C d_D_passes_149 (by decide) (lv' := [(6, .int (qI 1)), (8, .long (qL ((v i) + (((low + high) / 2) * (δ i))))), (7, .int (qI i)), (5, .int (qI ((low + high) / 2))), (3, .int (qI low)), (4, .int (qI high)), (1, .long (qL tk)), (0, .ref u)]) rfl ?_
                              refine qv_aload_n C 7 d_D_passes_151 rfl rfl ?_
                              refine qv_get C in_D 0 rfl rfl 27 (by decide) wf_D_56 rfl rfl d_D_passes_152 ?_
                              refine qv_iload C 2 d_D_passes_155 rfl ?_
                              refine qv_iload C 0 d_D_passes_157 rfl ?_
                              refine qv_if_eq C d_D_passes_159 (tgt := 168) (by decide) (by omega) (fun ht159 => ?_) (fun hf159 => ?_)
                              · exfalso; omega
                              · refine qv_lload C 1 d_D_passes_162 rfl ?_
                                refine qv_l2i C d_D_passes_164 ?_
                                refine qv_goto C d_D_passes_165 (by decide) (tgt := 169) ?_
                                refine qv_iast C 6 rfl (by omega) d_D_passes_169 (ws' := [(u, .inr (5, [.int (qI cd), .int (qI sz), .ref utx, .int (qI cu), .int (qI fa), .int (qI rdn), .ref uro, .ref urc, .ref urn, .ref urp, .ref ula, .int (qI n), .ref uop, .ref urg, .ref utg, .ref ude, .ref ule, .ref udn, .ref uv, .ref ub, .int (qI pl), .long (qL st), .int (qI on), .long (qL cn), .int (qI hd), .long (qL ps), .long (qL ss), .ref ubf, .ref ubh, .long (qL tk1), .ref ukp, .ref uwa])), (uop, .inl (G.2.1, 24, .inl (qA k))), (urg, .inl (G.2.1, 24, .inl (qA r))), (ude, .inl (G.2.1, 24, .inl (qA de))), (ule, .inl (G.2.1, 24, .inl (qA le))), (uv, .inl (G.2.1, 8, .inl (qA v))), (ubf, .inl (G.2.1, 8, .inl (qA (qU bf2 i ((v i) + (((low + high) / 2) * (δ i))))))), (ubh, .inl (G.2.1, 8, .inl (qA bh1))), (ukp, .inl (G.2.1, 8, .inl (qA δ)))]) rfl ?_
                                refine qv_iinc C 2 d_D_passes_170 rfl (by decide) (lv' := [(7, .int (qI (i + 1))), (6, .int (qI 1)), (8, .long (qL ((v i) + (((low + high) / 2) * (δ i))))), (5, .int (qI ((low + high) / 2))), (3, .int (qI low)), (4, .int (qI high)), (1, .long (qL tk)), (0, .ref u)]) rfl ?_
                                refine qv_goto C d_D_passes_173 (by decide) (tgt := 93) ?_
                                refine qv_lv (lv' := [(6, .int (qI 1)), (7, .int (qI (i + 1))), (5, .int (qI ((low + high) / 2))), (3, .int (qI low)), (4, .int (qI high)), (1, .long (qL tk)), (0, .ref u)]) [1, 0, 3, 4, 5, 6, 7] rfl ?_
                                exact ih93 1 (i + 1) (qU bf2 i ((v i) + (((low + high) / 2) * (δ i)))) (by omega) (by omega) (Or.inl ⟨rfl, m_eb_q hy1.2.1 rfl, fun c a b => by by_cases hc : c = i; (· subst hc; omega); (· exact hy1.2.2 c a (by omega))⟩) (m_sw_bf hsw2 hi (by omega))
                  refine qv_lv (lv' := [(6, .int (qI 1)), (7, .int (qI 0)), (5, .int (qI ((low + high) / 2))), (3, .int (qI low)), (4, .int (qI high)), (1, .long (qL tk)), (0, .ref u)]) [1, 0, 2, 3, 4, 5, 6] rfl ?_
                  exact L93 _ 1 0 bf1 (Nat.lt_succ_self _) (by omega) (Or.inl ⟨rfl, m_eb_0 _ _, fun c a b => by omega⟩) (hsw1)
            refine qv_lv (lv' := [(3, .int (qI 0)), (4, .int (qI 1000001)), (1, .long (qL tk)), (0, .ref u)]) [2, 1, 3, 4] rfl ?_
            refine qv_eq (ws' := [(u, .inr (5, [.int (qI cd), .int (qI sz), .ref utx, .int (qI cu), .int (qI fa), .int (qI rdn), .ref uro, .ref urc, .ref urn, .ref urp, .ref ula, .int (qI n), .ref uop, .ref urg, .ref utg, .ref ude, .ref ule, .ref udn, .ref uv, .ref ub, .int (qI pl), .long (qL st), .int (qI on), .long (qL cn), .int (qI hd), .long (qL ps), .long (qL ss), .ref ubf, .ref ubh, .long (qL tk), .ref ukp, .ref uwa])), (uop, .inl (G.2.1, 24, .inl (qA k))), (urg, .inl (G.2.1, 24, .inl (qA r))), (ude, .inl (G.2.1, 24, .inl (qA de))), (ule, .inl (G.2.1, 24, .inl (qA le))), (uv, .inl (G.2.1, 8, .inl (qA v))), (ubf, .inl (G.2.1, 8, .inl (qA bf))), (ubh, .inl (G.2.1, 8, .inl (qA bh))), (ukp, .inl (G.2.1, 8, .inl (qA δ)))]) (lv' := [(3, .int (qI 0)), (4, .int (qI 1000001)), (1, .long (qL tk)), (0, .ref u)]) (by rw [show i = 8 by omega, m_up_all (f := kp) (g := δ) (fun j h => by rw [(hsw.2.2.1 j h).2.2, hδz j h])]) (rfl) rfl ?_
            exact L71 _ 0 1000001 tk bf bh (Nat.lt_succ_self _) (by omega) (hok0) (m_ok_hi hdf hδ hvw.1 hmo) (⟨hsw.1, hsw.2.1, fun c h => ⟨(hsw.2.2.1 c h).1, (hsw.2.2.1 c h).2.1, hδz c h⟩, hsw.2.2.2⟩)
          · refine qv_aload_n C 4 d_D_passes_43 rfl rfl ?_
            refine qv_get C in_D 0 rfl rfl 30 (by decide) wf_D_62 rfl rfl d_D_passes_44 ?_
            refine qv_iload C 0 d_D_passes_47 rfl ?_
            refine qv_aload_n C 4 d_D_passes_49 rfl rfl ?_
            refine qv_get C in_D 0 rfl rfl 28 (by decide) wf_D_59 rfl rfl d_D_passes_50 ?_
            refine qv_iload C 0 d_D_passes_53 rfl ?_
            refine qv_iald C 7 rfl (by omega) d_D_passes_55 ?_
            have hq4 := hbr i
            refine qv_aload_n C 4 d_D_passes_56 rfl rfl ?_
            refine qv_get C in_D 0 rfl rfl 18 (by decide) wf_D_46 rfl rfl d_D_passes_57 ?_
            refine qv_iload C 0 d_D_passes_60 rfl ?_
            refine qv_iald C 5 rfl (by omega) d_D_passes_62 ?_
            have hq5 := hvw.1 i
            refine qv_isub C d_D_passes_63 ?_
            refine qv_iast C 8 rfl (by omega) d_D_passes_64 (ws' := [(u, .inr (5, [.int (qI cd), .int (qI sz), .ref utx, .int (qI cu), .int (qI fa), .int (qI rdn), .ref uro, .ref urc, .ref urn, .ref urp, .ref ula, .int (qI n), .ref uop, .ref urg, .ref utg, .ref ude, .ref ule, .ref udn, .ref uv, .ref ub, .int (qI pl), .long (qL st), .int (qI on), .long (qL cn), .int (qI hd), .long (qL ps), .long (qL ss), .ref ubf, .ref ubh, .long (qL tk), .ref ukp, .ref uwa])), (uop, .inl (G.2.1, 24, .inl (qA k))), (urg, .inl (G.2.1, 24, .inl (qA r))), (ude, .inl (G.2.1, 24, .inl (qA de))), (ule, .inl (G.2.1, 24, .inl (qA le))), (uv, .inl (G.2.1, 8, .inl (qA v))), (ubf, .inl (G.2.1, 8, .inl (qA bf))), (ubh, .inl (G.2.1, 8, .inl (qA bh))), (ukp, .inl (G.2.1, 8, .inl (qA (qU (m_up kp δ i) i ((bh i) - (v i))))))]) rfl ?_
            refine qv_iinc C 0 d_D_passes_65 rfl (by decide) (lv' := [(5, .int (qI (i + 1))), (4, .int (qI 1000001)), (3, .int (qI 0)), (1, .long (qL tk)), (0, .ref u)]) rfl ?_
            refine qv_goto C d_D_passes_68 (by decide) (tgt := 36) ?_
            refine qv_eq (ws' := [(u, .inr (5, [.int (qI cd), .int (qI sz), .ref utx, .int (qI cu), .int (qI fa), .int (qI rdn), .ref uro, .ref urc, .ref urn, .ref urp, .ref ula, .int (qI n), .ref uop, .ref urg, .ref utg, .ref ude, .ref ule, .ref udn, .ref uv, .ref ub, .int (qI pl), .long (qL st), .int (qI on), .long (qL cn), .int (qI hd), .long (qL ps), .long (qL ss), .ref ubf, .ref ubh, .long (qL tk), .ref ukp, .ref uwa])), (uop, .inl (G.2.1, 24, .inl (qA k))), (urg, .inl (G.2.1, 24, .inl (qA r))), (ude, .inl (G.2.1, 24, .inl (qA de))), (ule, .inl (G.2.1, 24, .inl (qA le))), (uv, .inl (G.2.1, 8, .inl (qA v))), (ubf, .inl (G.2.1, 8, .inl (qA bf))), (ubh, .inl (G.2.1, 8, .inl (qA bh))), (ukp, .inl (G.2.1, 8, .inl (qA (m_up kp δ (i + 1)))))]) (lv' := [(5, .int (qI (i + 1))), (4, .int (qI 1000001)), (3, .int (qI 0)), (1, .long (qL tk)), (0, .ref u)]) (by rw [← hδc i, m_up_s (g := δ) hi.1]) (rfl) rfl ?_
            exact ih36 (i + 1) (by omega) (by first | assumption | omega)
      refine qv_ws (ws' := [(u, .inr (5, [.int (qI cd), .int (qI sz), .ref utx, .int (qI cu), .int (qI fa), .int (qI rdn), .ref uro, .ref urc, .ref urn, .ref urp, .ref ula, .int (qI n), .ref uop, .ref urg, .ref utg, .ref ude, .ref ule, .ref udn, .ref uv, .ref ub, .int (qI pl), .long (qL st), .int (qI on), .long (qL cn), .int (qI hd), .long (qL ps), .long (qL ss), .ref ubf, .ref ubh, .long (qL tk), .ref ukp, .ref uwa])), (uop, .inl (G.2.1, 24, .inl (qA k))), (urg, .inl (G.2.1, 24, .inl (qA r))), (ude, .inl (G.2.1, 24, .inl (qA de))), (ule, .inl (G.2.1, 24, .inl (qA le))), (uv, .inl (G.2.1, 8, .inl (qA v))), (ubf, .inl (G.2.1, 8, .inl (qA bf))), (ubh, .inl (G.2.1, 8, .inl (qA bh))), (ukp, .inl (G.2.1, 8, .inl (qA kp)))]) [3, 0, 4, 5, 6, 1, 7, 8, 2] (by decide) rfl ?_
      refine qv_eq (ws' := [(u, .inr (5, [.int (qI cd), .int (qI sz), .ref utx, .int (qI cu), .int (qI fa), .int (qI rdn), .ref uro, .ref urc, .ref urn, .ref urp, .ref ula, .int (qI n), .ref uop, .ref urg, .ref utg, .ref ude, .ref ule, .ref udn, .ref uv, .ref ub, .int (qI pl), .long (qL st), .int (qI on), .long (qL cn), .int (qI hd), .long (qL ps), .long (qL ss), .ref ubf, .ref ubh, .long (qL tk), .ref ukp, .ref uwa])), (uop, .inl (G.2.1, 24, .inl (qA k))), (urg, .inl (G.2.1, 24, .inl (qA r))), (ude, .inl (G.2.1, 24, .inl (qA de))), (ule, .inl (G.2.1, 24, .inl (qA le))), (uv, .inl (G.2.1, 8, .inl (qA v))), (ubf, .inl (G.2.1, 8, .inl (qA bf))), (ubh, .inl (G.2.1, 8, .inl (qA bh))), (ukp, .inl (G.2.1, 8, .inl (qA (m_up kp δ 0))))]) (lv' := [(5, .int (qI 0)), (4, .int (qI 1000001)), (3, .int (qI 0)), (1, .long (qL tk)), (0, .ref u)]) (by rw [m_up_0]) (rfl) rfl ?_
      exact L36 _ 0 (Nat.lt_succ_self _) (by first | assumption | omega)
    · refine qv_lconst C (z := 1) d_D_passes_20 (by decide) ?_
      refine qv_ws (ws' := [(u, .inr (5, [.int (qI cd), .int (qI sz), .ref utx, .int (qI cu), .int (qI fa), .int (qI rdn), .ref uro, .ref urc, .ref urn, .ref urp, .ref ula, .int (qI n), .ref uop, .ref urg, .ref utg, .ref ude, .ref ule, .ref udn, .ref uv, .ref ub, .int (qI pl), .long (qL st), .int (qI on), .long (qL cn), .int (qI hd), .long (qL ps), .long (qL ss), .ref ubf, .ref ubh, .long (qL tk), .ref ukp, .ref uwa])), (uop, .inl (G.2.1, 24, .inl (qA k))), (urg, .inl (G.2.1, 24, .inl (qA r))), (ude, .inl (G.2.1, 24, .inl (qA de))), (ule, .inl (G.2.1, 24, .inl (qA le))), (uv, .inl (G.2.1, 8, .inl (qA v))), (ubf, .inl (G.2.1, 8, .inl (qA bf))), (ubh, .inl (G.2.1, 8, .inl (qA bh))), (ukp, .inl (G.2.1, 8, .inl (qA kp)))]) [3, 0, 4, 5, 6, 1, 7, 8, 2] (by decide) rfl ?_
      refine qv_lret C hrt hlk d_D_passes_21 ?_
      refine ⟨1, bf, kp, rfl, rfl, hsw, by omega, Or.inr ⟨hdf, ?_⟩⟩
      refine (m_pq_dc hx9 (by omega) ((m_dc_of hpd hx9).1 ?_)).symm
      rcases hxd with h | h
      · rw [hbv, hlq9] at h; exact h.2
      · exact absurd h.1 (by omega)
  · refine qv_lconst C (z := 0) d_D_passes_7 (by decide) ?_
    refine qv_ws (ws' := [(u, .inr (5, [.int (qI cd), .int (qI sz), .ref utx, .int (qI cu), .int (qI fa), .int (qI rdn), .ref uro, .ref urc, .ref urn, .ref urp, .ref ula, .int (qI n), .ref uop, .ref urg, .ref utg, .ref ude, .ref ule, .ref udn, .ref uv, .ref ub, .int (qI pl), .long (qL st), .int (qI on), .long (qL cn), .int (qI hd), .long (qL ps), .long (qL ss), .ref ubf, .ref ubh, .long (qL tk), .ref ukp, .ref uwa])), (uop, .inl (G.2.1, 24, .inl (qA k))), (urg, .inl (G.2.1, 24, .inl (qA r))), (ude, .inl (G.2.1, 24, .inl (qA de))), (ule, .inl (G.2.1, 24, .inl (qA le))), (uv, .inl (G.2.1, 8, .inl (qA v))), (ubf, .inl (G.2.1, 8, .inl (qA bf))), (ubh, .inl (G.2.1, 8, .inl (qA bh))), (ukp, .inl (G.2.1, 8, .inl (qA kp)))]) [6, 0, 1, 2, 3, 4, 7, 8, 5] (by decide) rfl ?_
    refine qv_lret C hrt hlk d_D_passes_8 ?_
    refine ⟨0, bf, kp, rfl, rfl, hsw, by omega, Or.inl ⟨rfl, ?_⟩⟩
    rcases hxc with h | h
    · exact absurd h.1 (by omega)
    · rw [← hbv]; exact h.2

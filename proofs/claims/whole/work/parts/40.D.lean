set_option maxHeartbeats 4000000 in
set_option maxRecDepth 100000 in
theorem c_D_thrown (l : Launch) (G : qG) {u utx uro urc urn urp ula uop urg utg ude ule udn uv ub ubf ubh ukp uwa : Nat} {cd sz cu fa rdn n pl st on cn hd ps ss tk : Int}  : qM l G y_D_thrown b_D_thrown 1 (some .int) ({ frames := 0, cells := 0, slots := 0, locals := 0 }) [.ref u] [(u, .inr (5, [.int (qI cd), .int (qI sz), .ref utx, .int (qI cu), .int (qI fa), .int (qI rdn), .ref uro, .ref urc, .ref urn, .ref urp, .ref ula, .int (qI n), .ref uop, .ref urg, .ref utg, .ref ude, .ref ule, .ref udn, .ref uv, .ref ub, .int (qI pl), .long (qL st), .int (qI on), .long (qL cn), .int (qI hd), .long (qL ps), .long (qL ss), .ref ubf, .ref ubh, .long (qL tk), .ref ukp, .ref uwa]))] (fun v' ws' => v' = some (.int (qI cd)) ∧ ws' = [(u, .inr (5, [.int (qI cd), .int (qI sz), .ref utx, .int (qI cu), .int (qI fa), .int (qI rdn), .ref uro, .ref urc, .ref urn, .ref urp, .ref ula, .int (qI n), .ref uop, .ref urg, .ref utg, .ref ude, .ref ule, .ref udn, .ref uv, .ref ub, .int (qI pl), .long (qL st), .int (qI on), .long (qL cn), .int (qI hd), .long (qL ps), .long (qL ss), .ref ubf, .ref ubh, .long (qL tk), .ref ukp, .ref uwa]))]) := by
  refine qM.of (by decide) (Nat.le_of_ble_eq_true rfl) (fun xp xe xs xm xb xme xc A C hrt hlk hnm => ?_)
  refine qv_eq (lv' := [(0, .ref u)]) rfl rfl rfl ?_
  refine qv_aload_n C 0 d_D_thrown_0 rfl rfl ?_
  refine qv_get C in_D 0 rfl rfl 0 (by decide) wf_D_68 rfl rfl d_D_thrown_1 ?_
  refine qv_iret C hrt hlk d_D_thrown_4 ?_
  exact ⟨rfl, rfl⟩
set_option maxHeartbeats 4000000 in
set_option maxRecDepth 100000 in
theorem c_D_wipe (l : Launch) (G : qG) {u utx uro urc urn urp ula uop urg utg ude ule udn uv ub ubf ubh ukp uwa : Nat} {cd sz cu fa rdn n pl st on cn hd ps ss tk : Int}  : qM l G y_D_wipe b_D_wipe 2 (some .int) ({ frames := 0, cells := 0, slots := 0, locals := 0 }) [.ref u] [(u, .inr (5, [.int (qI cd), .int (qI sz), .ref utx, .int (qI cu), .int (qI fa), .int (qI rdn), .ref uro, .ref urc, .ref urn, .ref urp, .ref ula, .int (qI n), .ref uop, .ref urg, .ref utg, .ref ude, .ref ule, .ref udn, .ref uv, .ref ub, .int (qI pl), .long (qL st), .int (qI on), .long (qL cn), .int (qI hd), .long (qL ps), .long (qL ss), .ref ubf, .ref ubh, .long (qL tk), .ref ukp, .ref uwa]))] (fun v' ws' => v' = some (.int (qI sz)) ∧ ws' = [(u, .inr (5, [.int (qI 0), .int (qI 0), .ref utx, .int (qI cu), .int (qI fa), .int (qI rdn), .ref uro, .ref urc, .ref urn, .ref urp, .ref ula, .int (qI n), .ref uop, .ref urg, .ref utg, .ref ude, .ref ule, .ref udn, .ref uv, .ref ub, .int (qI pl), .long (qL st), .int (qI on), .long (qL cn), .int (qI hd), .long (qL ps), .long (qL ss), .ref ubf, .ref ubh, .long (qL tk), .ref ukp, .ref uwa]))]) := by
  refine qM.of (by decide) (Nat.le_of_ble_eq_true rfl) (fun xp xe xs xm xb xme xc A C hrt hlk hnm => ?_)
  refine qv_eq (lv' := [(0, .ref u)]) rfl rfl rfl ?_
  refine qv_aload_n C 0 d_D_wipe_0 rfl rfl ?_
  refine qv_iconst C d_D_wipe_1 ?_
  refine qv_put C in_D 0 rfl rfl 0 (by decide) t_D t_D_ok n_D wf_D_68 rfl rfl (t_D_ok 0 (by decide)) (rfl) (rfl) (Nat.le_of_ble_eq_true rfl) d_D_wipe_2 (ws' := [(u, .inr (5, [.int (qI 0), .int (qI sz), .ref utx, .int (qI cu), .int (qI fa), .int (qI rdn), .ref uro, .ref urc, .ref urn, .ref urp, .ref ula, .int (qI n), .ref uop, .ref urg, .ref utg, .ref ude, .ref ule, .ref udn, .ref uv, .ref ub, .int (qI pl), .long (qL st), .int (qI on), .long (qL cn), .int (qI hd), .long (qL ps), .long (qL ss), .ref ubf, .ref ubh, .long (qL tk), .ref ukp, .ref uwa]))]) rfl ?_
  refine qv_aload_n C 0 d_D_wipe_5 rfl rfl ?_
  refine qv_get C in_D 0 rfl rfl 1 (by decide) wf_D_74 rfl rfl d_D_wipe_6 ?_
  refine qv_istore_n C d_D_wipe_9 rfl (by decide) (lv' := [(1, .int (qI sz)), (0, .ref u)]) rfl ?_
  refine qv_aload_n C 1 d_D_wipe_10 rfl rfl ?_
  refine qv_iconst C d_D_wipe_11 ?_
  refine qv_put C in_D 0 rfl rfl 1 (by decide) t_D t_D_ok n_D wf_D_74 rfl rfl (t_D_ok 1 (by decide)) (rfl) (rfl) (Nat.le_of_ble_eq_true rfl) d_D_wipe_12 (ws' := [(u, .inr (5, [.int (qI 0), .int (qI 0), .ref utx, .int (qI cu), .int (qI fa), .int (qI rdn), .ref uro, .ref urc, .ref urn, .ref urp, .ref ula, .int (qI n), .ref uop, .ref urg, .ref utg, .ref ude, .ref ule, .ref udn, .ref uv, .ref ub, .int (qI pl), .long (qL st), .int (qI on), .long (qL cn), .int (qI hd), .long (qL ps), .long (qL ss), .ref ubf, .ref ubh, .long (qL tk), .ref ukp, .ref uwa]))]) rfl ?_
  refine qv_iload_n C 0 d_D_wipe_15 rfl rfl ?_
  refine qv_iret C hrt hlk d_D_wipe_16 ?_
  exact ⟨rfl, rfl⟩
set_option maxHeartbeats 4000000 in
set_option maxRecDepth 100000 in
theorem c_D_size (l : Launch) (G : qG) {u utx uro urc urn urp ula uop urg utg ude ule udn uv ub ubf ubh ukp uwa : Nat} {cd sz cu fa rdn n pl st on cn hd ps ss tk : Int}  : qM l G y_D_size b_D_size 1 (some .int) ({ frames := 0, cells := 0, slots := 0, locals := 0 }) [.ref u] [(u, .inr (5, [.int (qI cd), .int (qI sz), .ref utx, .int (qI cu), .int (qI fa), .int (qI rdn), .ref uro, .ref urc, .ref urn, .ref urp, .ref ula, .int (qI n), .ref uop, .ref urg, .ref utg, .ref ude, .ref ule, .ref udn, .ref uv, .ref ub, .int (qI pl), .long (qL st), .int (qI on), .long (qL cn), .int (qI hd), .long (qL ps), .long (qL ss), .ref ubf, .ref ubh, .long (qL tk), .ref ukp, .ref uwa]))] (fun v' ws' => v' = some (.int (qI n)) ∧ ws' = [(u, .inr (5, [.int (qI 0), .int (qI sz), .ref utx, .int (qI cu), .int (qI fa), .int (qI rdn), .ref uro, .ref urc, .ref urn, .ref urp, .ref ula, .int (qI n), .ref uop, .ref urg, .ref utg, .ref ude, .ref ule, .ref udn, .ref uv, .ref ub, .int (qI pl), .long (qL st), .int (qI on), .long (qL cn), .int (qI hd), .long (qL ps), .long (qL ss), .ref ubf, .ref ubh, .long (qL tk), .ref ukp, .ref uwa]))]) := by
  refine qM.of (by decide) (Nat.le_of_ble_eq_true rfl) (fun xp xe xs xm xb xme xc A C hrt hlk hnm => ?_)
  refine qv_eq (lv' := [(0, .ref u)]) rfl rfl rfl ?_
  refine qv_aload_n C 0 d_D_size_0 rfl rfl ?_
  refine qv_iconst C d_D_size_1 ?_
  refine qv_put C in_D 0 rfl rfl 0 (by decide) t_D t_D_ok n_D wf_D_68 rfl rfl (t_D_ok 0 (by decide)) (rfl) (rfl) (Nat.le_of_ble_eq_true rfl) d_D_size_2 (ws' := [(u, .inr (5, [.int (qI 0), .int (qI sz), .ref utx, .int (qI cu), .int (qI fa), .int (qI rdn), .ref uro, .ref urc, .ref urn, .ref urp, .ref ula, .int (qI n), .ref uop, .ref urg, .ref utg, .ref ude, .ref ule, .ref udn, .ref uv, .ref ub, .int (qI pl), .long (qL st), .int (qI on), .long (qL cn), .int (qI hd), .long (qL ps), .long (qL ss), .ref ubf, .ref ubh, .long (qL tk), .ref ukp, .ref uwa]))]) rfl ?_
  refine qv_aload_n C 0 d_D_size_5 rfl rfl ?_
  refine qv_get C in_D 0 rfl rfl 11 (by decide) wf_D_109 rfl rfl d_D_size_6 ?_
  refine qv_iret C hrt hlk d_D_size_9 ?_
  exact ⟨rfl, rfl⟩
set_option maxHeartbeats 4000000 in
set_option maxRecDepth 100000 in
theorem c_D_at (l : Launch) (G : qG) {u utx uro urc urn urp ula uop urg utg ude ule udn uv ub ubf ubh ukp uwa : Nat} {cd sz cu fa rdn n pl st on cn hd ps ss tk : Int}  : qM l G y_D_at b_D_at 1 (some .int) ({ frames := 0, cells := 0, slots := 0, locals := 0 }) [.ref u] [(u, .inr (5, [.int (qI cd), .int (qI sz), .ref utx, .int (qI cu), .int (qI fa), .int (qI rdn), .ref uro, .ref urc, .ref urn, .ref urp, .ref ula, .int (qI n), .ref uop, .ref urg, .ref utg, .ref ude, .ref ule, .ref udn, .ref uv, .ref ub, .int (qI pl), .long (qL st), .int (qI on), .long (qL cn), .int (qI hd), .long (qL ps), .long (qL ss), .ref ubf, .ref ubh, .long (qL tk), .ref ukp, .ref uwa]))] (fun v' ws' => v' = some (.int (qI pl)) ∧ ws' = [(u, .inr (5, [.int (qI 0), .int (qI sz), .ref utx, .int (qI cu), .int (qI fa), .int (qI rdn), .ref uro, .ref urc, .ref urn, .ref urp, .ref ula, .int (qI n), .ref uop, .ref urg, .ref utg, .ref ude, .ref ule, .ref udn, .ref uv, .ref ub, .int (qI pl), .long (qL st), .int (qI on), .long (qL cn), .int (qI hd), .long (qL ps), .long (qL ss), .ref ubf, .ref ubh, .long (qL tk), .ref ukp, .ref uwa]))]) := by
  refine qM.of (by decide) (Nat.le_of_ble_eq_true rfl) (fun xp xe xs xm xb xme xc A C hrt hlk hnm => ?_)
  refine qv_eq (lv' := [(0, .ref u)]) rfl rfl rfl ?_
  refine qv_aload_n C 0 d_D_at_0 rfl rfl ?_
  refine qv_iconst C d_D_at_1 ?_
  refine qv_put C in_D 0 rfl rfl 0 (by decide) t_D t_D_ok n_D wf_D_68 rfl rfl (t_D_ok 0 (by decide)) (rfl) (rfl) (Nat.le_of_ble_eq_true rfl) d_D_at_2 (ws' := [(u, .inr (5, [.int (qI 0), .int (qI sz), .ref utx, .int (qI cu), .int (qI fa), .int (qI rdn), .ref uro, .ref urc, .ref urn, .ref urp, .ref ula, .int (qI n), .ref uop, .ref urg, .ref utg, .ref ude, .ref ule, .ref udn, .ref uv, .ref ub, .int (qI pl), .long (qL st), .int (qI on), .long (qL cn), .int (qI hd), .long (qL ps), .long (qL ss), .ref ubf, .ref ubh, .long (qL tk), .ref ukp, .ref uwa]))]) rfl ?_
  refine qv_aload_n C 0 d_D_at_5 rfl rfl ?_
  refine qv_get C in_D 0 rfl rfl 20 (by decide) wf_D_126 rfl rfl d_D_at_6 ?_
  refine qv_iret C hrt hlk d_D_at_9 ?_
  exact ⟨rfl, rfl⟩
set_option maxHeartbeats 4000000 in
set_option maxRecDepth 100000 in
theorem c_D_steps (l : Launch) (G : qG) {u utx uro urc urn urp ula uop urg utg ude ule udn uv ub ubf ubh ukp uwa : Nat} {cd sz cu fa rdn n pl st on cn hd ps ss tk : Int}  : qM l G y_D_steps b_D_steps 1 (some .long) ({ frames := 0, cells := 0, slots := 0, locals := 0 }) [.ref u] [(u, .inr (5, [.int (qI cd), .int (qI sz), .ref utx, .int (qI cu), .int (qI fa), .int (qI rdn), .ref uro, .ref urc, .ref urn, .ref urp, .ref ula, .int (qI n), .ref uop, .ref urg, .ref utg, .ref ude, .ref ule, .ref udn, .ref uv, .ref ub, .int (qI pl), .long (qL st), .int (qI on), .long (qL cn), .int (qI hd), .long (qL ps), .long (qL ss), .ref ubf, .ref ubh, .long (qL tk), .ref ukp, .ref uwa]))] (fun v' ws' => v' = some (.long (qL st)) ∧ ws' = [(u, .inr (5, [.int (qI 0), .int (qI sz), .ref utx, .int (qI cu), .int (qI fa), .int (qI rdn), .ref uro, .ref urc, .ref urn, .ref urp, .ref ula, .int (qI n), .ref uop, .ref urg, .ref utg, .ref ude, .ref ule, .ref udn, .ref uv, .ref ub, .int (qI pl), .long (qL st), .int (qI on), .long (qL cn), .int (qI hd), .long (qL ps), .long (qL ss), .ref ubf, .ref ubh, .long (qL tk), .ref ukp, .ref uwa]))]) := by
  refine qM.of (by decide) (Nat.le_of_ble_eq_true rfl) (fun xp xe xs xm xb xme xc A C hrt hlk hnm => ?_)
  refine qv_eq (lv' := [(0, .ref u)]) rfl rfl rfl ?_
  refine qv_aload_n C 0 d_D_steps_0 rfl rfl ?_
  refine qv_iconst C d_D_steps_1 ?_
  refine qv_put C in_D 0 rfl rfl 0 (by decide) t_D t_D_ok n_D wf_D_68 rfl rfl (t_D_ok 0 (by decide)) (rfl) (rfl) (Nat.le_of_ble_eq_true rfl) d_D_steps_2 (ws' := [(u, .inr (5, [.int (qI 0), .int (qI sz), .ref utx, .int (qI cu), .int (qI fa), .int (qI rdn), .ref uro, .ref urc, .ref urn, .ref urp, .ref ula, .int (qI n), .ref uop, .ref urg, .ref utg, .ref ude, .ref ule, .ref udn, .ref uv, .ref ub, .int (qI pl), .long (qL st), .int (qI on), .long (qL cn), .int (qI hd), .long (qL ps), .long (qL ss), .ref ubf, .ref ubh, .long (qL tk), .ref ukp, .ref uwa]))]) rfl ?_
  refine qv_aload_n C 0 d_D_steps_5 rfl rfl ?_
  refine qv_get C in_D 0 rfl rfl 21 (by decide) wf_D_129 rfl rfl d_D_steps_6 ?_
  refine qv_lret C hrt hlk d_D_steps_9 ?_
  exact ⟨rfl, rfl⟩
set_option maxHeartbeats 4000000 in
set_option maxRecDepth 100000 in
theorem c_D_leaps (l : Launch) (G : qG) {u utx uro urc urn urp ula uop urg utg ude ule udn uv ub ubf ubh ukp uwa : Nat} {cd sz cu fa rdn n pl st on cn hd ps ss tk : Int} {b : Int} (hb : 0 ≤ b ∧ b ≤ 1) : qM l G y_D_leaps b_D_leaps 2 none ({ frames := 0, cells := 0, slots := 0, locals := 0 }) [.ref u, .int (qI b)] [(u, .inr (5, [.int (qI cd), .int (qI sz), .ref utx, .int (qI cu), .int (qI fa), .int (qI rdn), .ref uro, .ref urc, .ref urn, .ref urp, .ref ula, .int (qI n), .ref uop, .ref urg, .ref utg, .ref ude, .ref ule, .ref udn, .ref uv, .ref ub, .int (qI pl), .long (qL st), .int (qI on), .long (qL cn), .int (qI hd), .long (qL ps), .long (qL ss), .ref ubf, .ref ubh, .long (qL tk), .ref ukp, .ref uwa]))] (fun v' ws' => v' = none ∧ ws' = [(u, .inr (5, [.int (qI 0), .int (qI sz), .ref utx, .int (qI cu), .int (qI fa), .int (qI rdn), .ref uro, .ref urc, .ref urn, .ref urp, .ref ula, .int (qI n), .ref uop, .ref urg, .ref utg, .ref ude, .ref ule, .ref udn, .ref uv, .ref ub, .int (qI pl), .long (qL st), .int (qI b), .long (qL cn), .int (qI hd), .long (qL ps), .long (qL ss), .ref ubf, .ref ubh, .long (qL tk), .ref ukp, .ref uwa]))]) := by
  refine qM.of (by decide) (Nat.le_of_ble_eq_true rfl) (fun xp xe xs xm xb xme xc A C hrt hlk hnm => ?_)
  refine qv_eq (lv' := [(0, .ref u), (1, .int (qI b))]) rfl rfl rfl ?_
  refine qv_aload_n C 0 d_D_leaps_0 rfl rfl ?_
  refine qv_iconst C d_D_leaps_1 ?_
  refine qv_put C in_D 0 rfl rfl 0 (by decide) t_D t_D_ok n_D wf_D_68 rfl rfl (t_D_ok 0 (by decide)) (rfl) (rfl) (Nat.le_of_ble_eq_true rfl) d_D_leaps_2 (ws' := [(u, .inr (5, [.int (qI 0), .int (qI sz), .ref utx, .int (qI cu), .int (qI fa), .int (qI rdn), .ref uro, .ref urc, .ref urn, .ref urp, .ref ula, .int (qI n), .ref uop, .ref urg, .ref utg, .ref ude, .ref ule, .ref udn, .ref uv, .ref ub, .int (qI pl), .long (qL st), .int (qI on), .long (qL cn), .int (qI hd), .long (qL ps), .long (qL ss), .ref ubf, .ref ubh, .long (qL tk), .ref ukp, .ref uwa]))]) rfl ?_
  refine qv_aload_n C 0 d_D_leaps_5 rfl rfl ?_
  refine qv_iload_n C 1 d_D_leaps_6 rfl rfl ?_
  refine qv_put C in_D 0 rfl rfl 22 (by decide) t_D t_D_ok n_D wf_D_52 rfl rfl (t_D_ok 22 (by decide)) (qI_nb hb) (qI_fb hb) (Nat.le_of_ble_eq_true rfl) d_D_leaps_7 (ws' := [(u, .inr (5, [.int (qI 0), .int (qI sz), .ref utx, .int (qI cu), .int (qI fa), .int (qI rdn), .ref uro, .ref urc, .ref urn, .ref urp, .ref ula, .int (qI n), .ref uop, .ref urg, .ref utg, .ref ude, .ref ule, .ref udn, .ref uv, .ref ub, .int (qI pl), .long (qL st), .int (qI b), .long (qL cn), .int (qI hd), .long (qL ps), .long (qL ss), .ref ubf, .ref ubh, .long (qL tk), .ref ukp, .ref uwa]))]) rfl ?_
  refine qv_vret C hrt hlk d_D_leaps_10 ?_
  exact ⟨rfl, rfl⟩
set_option maxHeartbeats 4000000 in
set_option maxRecDepth 100000 in
theorem c_D_counter (l : Launch) (G : qG) {u utx uro urc urn urp ula uop urg utg ude ule udn uv ub ubf ubh ukp uwa : Nat} {cd sz cu fa rdn n pl st on cn hd ps ss tk : Int} {c : Int} {v : Int → Int} (hc : -2147483648 ≤ c ∧ c ≤ 2147483647) : qM l G y_D_counter b_D_counter 2 (some .int) ({ frames := 0, cells := 0, slots := 0, locals := 0 }) [.ref u, .int (qI c)] [(u, .inr (5, [.int (qI cd), .int (qI sz), .ref utx, .int (qI cu), .int (qI fa), .int (qI rdn), .ref uro, .ref urc, .ref urn, .ref urp, .ref ula, .int (qI n), .ref uop, .ref urg, .ref utg, .ref ude, .ref ule, .ref udn, .ref uv, .ref ub, .int (qI pl), .long (qL st), .int (qI on), .long (qL cn), .int (qI hd), .long (qL ps), .long (qL ss), .ref ubf, .ref ubh, .long (qL tk), .ref ukp, .ref uwa])), (uv, .inl (G.2.1, 8, .inl (qA v)))] (fun v' ws' => v' = some (.int (qI (if 0 ≤ c ∧ c < 8 then v c else -1))) ∧ ws' = [(u, .inr (5, [.int (qI 0), .int (qI sz), .ref utx, .int (qI cu), .int (qI fa), .int (qI rdn), .ref uro, .ref urc, .ref urn, .ref urp, .ref ula, .int (qI n), .ref uop, .ref urg, .ref utg, .ref ude, .ref ule, .ref udn, .ref uv, .ref ub, .int (qI pl), .long (qL st), .int (qI on), .long (qL cn), .int (qI hd), .long (qL ps), .long (qL ss), .ref ubf, .ref ubh, .long (qL tk), .ref ukp, .ref uwa])), (uv, .inl (G.2.1, 8, .inl (qA v)))]) := by
  refine qM.of (by decide) (Nat.le_of_ble_eq_true rfl) (fun xp xe xs xm xb xme xc A C hrt hlk hnm => ?_)
  refine qv_eq (lv' := [(0, .ref u), (1, .int (qI c))]) rfl rfl rfl ?_
  refine qv_aload_n C 0 d_D_counter_0 rfl rfl ?_
  refine qv_iconst C d_D_counter_1 ?_
  refine qv_put C in_D 0 rfl rfl 0 (by decide) t_D t_D_ok n_D wf_D_68 rfl rfl (t_D_ok 0 (by decide)) (rfl) (rfl) (Nat.le_of_ble_eq_true rfl) d_D_counter_2 (ws' := [(u, .inr (5, [.int (qI 0), .int (qI sz), .ref utx, .int (qI cu), .int (qI fa), .int (qI rdn), .ref uro, .ref urc, .ref urn, .ref urp, .ref ula, .int (qI n), .ref uop, .ref urg, .ref utg, .ref ude, .ref ule, .ref udn, .ref uv, .ref ub, .int (qI pl), .long (qL st), .int (qI on), .long (qL cn), .int (qI hd), .long (qL ps), .long (qL ss), .ref ubf, .ref ubh, .long (qL tk), .ref ukp, .ref uwa])), (uv, .inl (G.2.1, 8, .inl (qA v)))]) rfl ?_
  refine qv_iload_n C 1 d_D_counter_5 rfl rfl ?_
  refine qv_if_lt C d_D_counter_6 (tgt := 15) (by decide) (by omega) (fun ht6 => ?_) (fun hf6 => ?_)
  · refine qv_iconst C d_D_counter_15 ?_
    refine qv_goto C d_D_counter_16 (by decide) (tgt := 25) ?_
    refine qv_iret C hrt hlk d_D_counter_25 ?_
    refine ⟨?_, rfl⟩
    rw [if_neg (by omega)]
  · refine qv_iload_n C 1 d_D_counter_9 rfl rfl ?_
    refine qv_bipush C d_D_counter_10 (by decide) ?_
    refine qv_icmp_le C d_D_counter_12 (tgt := 19) (by decide) (by omega) (by omega) (fun ht12 => ?_) (fun hf12 => ?_)
    · refine qv_aload_n C 0 d_D_counter_19 rfl rfl ?_
      refine qv_get C in_D 0 rfl rfl 18 (by decide) wf_D_46 rfl rfl d_D_counter_20 ?_
      refine qv_iload_n C 1 d_D_counter_23 rfl rfl ?_
      refine qv_iald C 1 rfl (by omega) d_D_counter_24 ?_
      refine qv_iret C hrt hlk d_D_counter_25 ?_
      refine ⟨?_, rfl⟩
      rw [if_pos (by omega)]
    · refine qv_iconst C d_D_counter_15 ?_
      refine qv_goto C d_D_counter_16 (by decide) (tgt := 25) ?_
      refine qv_iret C hrt hlk d_D_counter_25 ?_
      refine ⟨?_, rfl⟩
      rw [if_neg (by omega)]
set_option maxHeartbeats 4000000 in
set_option maxRecDepth 100000 in
theorem c_D_instruction (l : Launch) (G : qG) {u utx uro urc urn urp ula uop urg utg ude ule udn uv ub ubf ubh ukp uwa : Nat} {cd sz cu fa rdn n pl st on cn hd ps ss tk : Int} {i w : Int} {k r t : Int → Int} (hn : 0 ≤ n ∧ n ≤ 24) (hi : -2147483648 ≤ i ∧ i ≤ 2147483647) (hw : -2147483648 ≤ w ∧ w ≤ 2147483647) : qM l G y_D_instruction b_D_instruction 3 (some .int) ({ frames := 0, cells := 0, slots := 0, locals := 0 }) [.ref u, .int (qI i), .int (qI w)] [(u, .inr (5, [.int (qI cd), .int (qI sz), .ref utx, .int (qI cu), .int (qI fa), .int (qI rdn), .ref uro, .ref urc, .ref urn, .ref urp, .ref ula, .int (qI n), .ref uop, .ref urg, .ref utg, .ref ude, .ref ule, .ref udn, .ref uv, .ref ub, .int (qI pl), .long (qL st), .int (qI on), .long (qL cn), .int (qI hd), .long (qL ps), .long (qL ss), .ref ubf, .ref ubh, .long (qL tk), .ref ukp, .ref uwa])), (uop, .inl (G.2.1, 24, .inl (qA k))), (urg, .inl (G.2.1, 24, .inl (qA r))), (utg, .inl (G.2.1, 24, .inl (qA t)))] (fun v' ws' => v' = some (.int (qI (if 0 ≤ i ∧ i < n ∧ w = 0 then k i else if 0 ≤ i ∧ i < n ∧ w = 1 then r i else if 0 ≤ i ∧ i < n ∧ w = 2 then t i else -1))) ∧ ws' = [(u, .inr (5, [.int (qI 0), .int (qI sz), .ref utx, .int (qI cu), .int (qI fa), .int (qI rdn), .ref uro, .ref urc, .ref urn, .ref urp, .ref ula, .int (qI n), .ref uop, .ref urg, .ref utg, .ref ude, .ref ule, .ref udn, .ref uv, .ref ub, .int (qI pl), .long (qL st), .int (qI on), .long (qL cn), .int (qI hd), .long (qL ps), .long (qL ss), .ref ubf, .ref ubh, .long (qL tk), .ref ukp, .ref uwa])), (uop, .inl (G.2.1, 24, .inl (qA k))), (urg, .inl (G.2.1, 24, .inl (qA r))), (utg, .inl (G.2.1, 24, .inl (qA t)))]) := by
  refine qM.of (by decide) (Nat.le_of_ble_eq_true rfl) (fun xp xe xs xm xb xme xc A C hrt hlk hnm => ?_)
  refine qv_eq (lv' := [(0, .ref u), (1, .int (qI i)), (2, .int (qI w))]) rfl rfl rfl ?_
  refine qv_aload_n C 0 d_D_instruction_0 rfl rfl ?_
  refine qv_iconst C d_D_instruction_1 ?_
  refine qv_put C in_D 0 rfl rfl 0 (by decide) t_D t_D_ok n_D wf_D_68 rfl rfl (t_D_ok 0 (by decide)) (rfl) (rfl) (Nat.le_of_ble_eq_true rfl) d_D_instruction_2 (ws' := [(u, .inr (5, [.int (qI 0), .int (qI sz), .ref utx, .int (qI cu), .int (qI fa), .int (qI rdn), .ref uro, .ref urc, .ref urn, .ref urp, .ref ula, .int (qI n), .ref uop, .ref urg, .ref utg, .ref ude, .ref ule, .ref udn, .ref uv, .ref ub, .int (qI pl), .long (qL st), .int (qI on), .long (qL cn), .int (qI hd), .long (qL ps), .long (qL ss), .ref ubf, .ref ubh, .long (qL tk), .ref ukp, .ref uwa])), (uop, .inl (G.2.1, 24, .inl (qA k))), (urg, .inl (G.2.1, 24, .inl (qA r))), (utg, .inl (G.2.1, 24, .inl (qA t)))]) rfl ?_
  refine qv_iload_n C 1 d_D_instruction_5 rfl rfl ?_
  refine qv_if_lt C d_D_instruction_6 (tgt := 17) (by decide) (by omega) (fun ht6 => ?_) (fun hf6 => ?_)
  · refine qv_iconst C d_D_instruction_17 ?_
    refine qv_iret C hrt hlk d_D_instruction_18 ?_
    refine ⟨?_, rfl⟩
    rw [if_neg (by omega), if_neg (by omega), if_neg (by omega)]
  · refine qv_iload_n C 1 d_D_instruction_9 rfl rfl ?_
    refine qv_aload_n C 0 d_D_instruction_10 rfl rfl ?_
    refine qv_get C in_D 0 rfl rfl 11 (by decide) wf_D_109 rfl rfl d_D_instruction_11 ?_
    refine qv_icmp_lt C d_D_instruction_14 (tgt := 19) (by decide) (by omega) (by omega) (fun ht14 => ?_) (fun hf14 => ?_)
    · refine qv_iload_n C 2 d_D_instruction_19 rfl rfl ?_
      refine qv_if_ne C d_D_instruction_20 (tgt := 32) (by decide) (by omega) (fun ht20 => ?_) (fun hf20 => ?_)
      · refine qv_iload_n C 2 d_D_instruction_32 rfl rfl ?_
        refine qv_iconst C d_D_instruction_33 ?_
        refine qv_icmp_ne C d_D_instruction_34 (tgt := 46) (by decide) (by omega) (by omega) (fun ht34 => ?_) (fun hf34 => ?_)
        · refine qv_iload_n C 2 d_D_instruction_46 rfl rfl ?_
          refine qv_iconst C d_D_instruction_47 ?_
          refine qv_icmp_ne C d_D_instruction_48 (tgt := 60) (by decide) (by omega) (by omega) (fun ht48 => ?_) (fun hf48 => ?_)
          · refine qv_iconst C d_D_instruction_60 ?_
            refine qv_iret C hrt hlk d_D_instruction_61 ?_
            refine ⟨?_, rfl⟩
            rw [if_neg (by omega), if_neg (by omega), if_neg (by omega)]
          · refine qv_aload_n C 0 d_D_instruction_51 rfl rfl ?_
            refine qv_get C in_D 0 rfl rfl 14 (by decide) wf_D_34 rfl rfl d_D_instruction_52 ?_
            refine qv_iload_n C 1 d_D_instruction_55 rfl rfl ?_
            refine qv_iald C 3 rfl (by omega) d_D_instruction_56 ?_
            refine qv_goto C d_D_instruction_57 (by decide) (tgt := 61) ?_
            refine qv_iret C hrt hlk d_D_instruction_61 ?_
            refine ⟨?_, rfl⟩
            rw [if_neg (by omega), if_neg (by omega), if_pos (by omega)]
        · refine qv_aload_n C 0 d_D_instruction_37 rfl rfl ?_
          refine qv_get C in_D 0 rfl rfl 13 (by decide) wf_D_31 rfl rfl d_D_instruction_38 ?_
          refine qv_iload_n C 1 d_D_instruction_41 rfl rfl ?_
          refine qv_iald C 2 rfl (by omega) d_D_instruction_42 ?_
          refine qv_goto C d_D_instruction_43 (by decide) (tgt := 61) ?_
          refine qv_iret C hrt hlk d_D_instruction_61 ?_
          refine ⟨?_, rfl⟩
          rw [if_neg (by omega), if_pos (by omega)]
      · refine qv_aload_n C 0 d_D_instruction_23 rfl rfl ?_
        refine qv_get C in_D 0 rfl rfl 12 (by decide) wf_D_28 rfl rfl d_D_instruction_24 ?_
        refine qv_iload_n C 1 d_D_instruction_27 rfl rfl ?_
        refine qv_iald C 1 rfl (by omega) d_D_instruction_28 ?_
        refine qv_goto C d_D_instruction_29 (by decide) (tgt := 61) ?_
        refine qv_iret C hrt hlk d_D_instruction_61 ?_
        refine ⟨?_, rfl⟩
        rw [if_pos (by omega)]
    · refine qv_iconst C d_D_instruction_17 ?_
      refine qv_iret C hrt hlk d_D_instruction_18 ?_
      refine ⟨?_, rfl⟩
      rw [if_neg (by omega), if_neg (by omega), if_neg (by omega)]
set_option maxHeartbeats 4000000 in
set_option maxRecDepth 100000 in
theorem c_D_leap (l : Launch) (G : qG) {u utx uro urc urn urp ula uop urg utg ude ule udn uv ub ubf ubh ukp uwa : Nat} {cd sz cu fa rdn n pl st on cn hd ps ss tk : Int} {w : Int} (hw : -2147483648 ≤ w ∧ w ≤ 2147483647) (hcn : 0 ≤ cn ∧ cn ≤ 1000000) (hhd : -2147483648 ≤ hd ∧ hd ≤ 2147483647) : qM l G y_D_leap b_D_leap 2 (some .long) ({ frames := 0, cells := 0, slots := 0, locals := 0 }) [.ref u, .int (qI w)] [(u, .inr (5, [.int (qI cd), .int (qI sz), .ref utx, .int (qI cu), .int (qI fa), .int (qI rdn), .ref uro, .ref urc, .ref urn, .ref urp, .ref ula, .int (qI n), .ref uop, .ref urg, .ref utg, .ref ude, .ref ule, .ref udn, .ref uv, .ref ub, .int (qI pl), .long (qL st), .int (qI on), .long (qL cn), .int (qI hd), .long (qL ps), .long (qL ss), .ref ubf, .ref ubh, .long (qL tk), .ref ukp, .ref uwa]))] (fun v' ws' => v' = some (.long (qL (if w = 0 then cn else if cn = 0 then -1 else if w = 1 then hd else if w = 2 then ps else if w = 3 then ss else -1))) ∧ ws' = [(u, .inr (5, [.int (qI 0), .int (qI sz), .ref utx, .int (qI cu), .int (qI fa), .int (qI rdn), .ref uro, .ref urc, .ref urn, .ref urp, .ref ula, .int (qI n), .ref uop, .ref urg, .ref utg, .ref ude, .ref ule, .ref udn, .ref uv, .ref ub, .int (qI pl), .long (qL st), .int (qI on), .long (qL cn), .int (qI hd), .long (qL ps), .long (qL ss), .ref ubf, .ref ubh, .long (qL tk), .ref ukp, .ref uwa]))]) := by
  refine qM.of (by decide) (Nat.le_of_ble_eq_true rfl) (fun xp xe xs xm xb xme xc A C hrt hlk hnm => ?_)
  refine qv_eq (lv' := [(0, .ref u), (1, .int (qI w))]) rfl rfl rfl ?_
  refine qv_aload_n C 0 d_D_leap_0 rfl rfl ?_
  refine qv_iconst C d_D_leap_1 ?_
  refine qv_put C in_D 0 rfl rfl 0 (by decide) t_D t_D_ok n_D wf_D_68 rfl rfl (t_D_ok 0 (by decide)) (rfl) (rfl) (Nat.le_of_ble_eq_true rfl) d_D_leap_2 (ws' := [(u, .inr (5, [.int (qI 0), .int (qI sz), .ref utx, .int (qI cu), .int (qI fa), .int (qI rdn), .ref uro, .ref urc, .ref urn, .ref urp, .ref ula, .int (qI n), .ref uop, .ref urg, .ref utg, .ref ude, .ref ule, .ref udn, .ref uv, .ref ub, .int (qI pl), .long (qL st), .int (qI on), .long (qL cn), .int (qI hd), .long (qL ps), .long (qL ss), .ref ubf, .ref ubh, .long (qL tk), .ref ukp, .ref uwa]))]) rfl ?_
  refine qv_iload_n C 1 d_D_leap_5 rfl rfl ?_
  refine qv_if_ne C d_D_leap_6 (tgt := 14) (by decide) (by omega) (fun ht6 => ?_) (fun hf6 => ?_)
  · refine qv_aload_n C 0 d_D_leap_14 rfl rfl ?_
    refine qv_get C in_D 0 rfl rfl 23 (by decide) wf_D_133 rfl rfl d_D_leap_15 ?_
    refine qv_lconst C (z := 0) d_D_leap_18 (by decide) ?_
    refine qv_lcmp_ne C d_D_leap_19 d_D_leap_20 (tgt := 27) (by decide) (by omega) (by omega) (fun ht19 => ?_) (fun hf19 => ?_)
    · refine qv_iload_n C 1 d_D_leap_27 rfl rfl ?_
      refine qv_iconst C d_D_leap_28 ?_
      refine qv_icmp_ne C d_D_leap_29 (tgt := 40) (by decide) (by omega) (by omega) (fun ht29 => ?_) (fun hf29 => ?_)
      · refine qv_iload_n C 1 d_D_leap_40 rfl rfl ?_
        refine qv_iconst C d_D_leap_41 ?_
        refine qv_icmp_ne C d_D_leap_42 (tgt := 52) (by decide) (by omega) (by omega) (fun ht42 => ?_) (fun hf42 => ?_)
        · refine qv_iload_n C 1 d_D_leap_52 rfl rfl ?_
          refine qv_iconst C d_D_leap_53 ?_
          refine qv_icmp_ne C d_D_leap_54 (tgt := 64) (by decide) (by omega) (by omega) (fun ht54 => ?_) (fun hf54 => ?_)
          · refine qv_ldc2 C (n := -1) wk_D_192 (by decide) d_D_leap_64 ?_
            refine qv_lret C hrt hlk d_D_leap_67 ?_
            refine ⟨?_, rfl⟩
            first | rw [if_pos (by omega)] | rw [if_neg (by omega), if_pos (by omega)] | rw [if_neg (by omega), if_neg (by omega), if_pos (by omega)] | rw [if_neg (by omega), if_neg (by omega), if_neg (by omega), if_pos (by omega)] | rw [if_neg (by omega), if_neg (by omega), if_neg (by omega), if_neg (by omega), if_pos (by omega)] | rw [if_neg (by omega), if_neg (by omega), if_neg (by omega), if_neg (by omega), if_neg (by omega)]
          · refine qv_aload_n C 0 d_D_leap_57 rfl rfl ?_
            refine qv_get C in_D 0 rfl rfl 26 (by decide) wf_D_186 rfl rfl d_D_leap_58 ?_
            refine qv_goto C d_D_leap_61 (by decide) (tgt := 67) ?_
            refine qv_lret C hrt hlk d_D_leap_67 ?_
            refine ⟨?_, rfl⟩
            first | rw [if_pos (by omega)] | rw [if_neg (by omega), if_pos (by omega)] | rw [if_neg (by omega), if_neg (by omega), if_pos (by omega)] | rw [if_neg (by omega), if_neg (by omega), if_neg (by omega), if_pos (by omega)] | rw [if_neg (by omega), if_neg (by omega), if_neg (by omega), if_neg (by omega), if_pos (by omega)] | rw [if_neg (by omega), if_neg (by omega), if_neg (by omega), if_neg (by omega), if_neg (by omega)]
        · refine qv_aload_n C 0 d_D_leap_45 rfl rfl ?_
          refine qv_get C in_D 0 rfl rfl 25 (by decide) wf_D_183 rfl rfl d_D_leap_46 ?_
          refine qv_goto C d_D_leap_49 (by decide) (tgt := 67) ?_
          refine qv_lret C hrt hlk d_D_leap_67 ?_
          refine ⟨?_, rfl⟩
          first | rw [if_pos (by omega)] | rw [if_neg (by omega), if_pos (by omega)] | rw [if_neg (by omega), if_neg (by omega), if_pos (by omega)] | rw [if_neg (by omega), if_neg (by omega), if_neg (by omega), if_pos (by omega)] | rw [if_neg (by omega), if_neg (by omega), if_neg (by omega), if_neg (by omega), if_pos (by omega)] | rw [if_neg (by omega), if_neg (by omega), if_neg (by omega), if_neg (by omega), if_neg (by omega)]
      · refine qv_aload_n C 0 d_D_leap_32 rfl rfl ?_
        refine qv_get C in_D 0 rfl rfl 24 (by decide) wf_D_180 rfl rfl d_D_leap_33 ?_
        refine qv_i2l C (by omega) d_D_leap_36 ?_
        refine qv_goto C d_D_leap_37 (by decide) (tgt := 67) ?_
        refine qv_lret C hrt hlk d_D_leap_67 ?_
        refine ⟨?_, rfl⟩
        first | rw [if_pos (by omega)] | rw [if_neg (by omega), if_pos (by omega)] | rw [if_neg (by omega), if_neg (by omega), if_pos (by omega)] | rw [if_neg (by omega), if_neg (by omega), if_neg (by omega), if_pos (by omega)] | rw [if_neg (by omega), if_neg (by omega), if_neg (by omega), if_neg (by omega), if_pos (by omega)] | rw [if_neg (by omega), if_neg (by omega), if_neg (by omega), if_neg (by omega), if_neg (by omega)]
    · refine qv_ldc2 C (n := -1) wk_D_192 (by decide) d_D_leap_23 ?_
      refine qv_lret C hrt hlk d_D_leap_26 ?_
      refine ⟨?_, rfl⟩
      first | rw [if_pos (by omega)] | rw [if_neg (by omega), if_pos (by omega)] | rw [if_neg (by omega), if_neg (by omega), if_pos (by omega)] | rw [if_neg (by omega), if_neg (by omega), if_neg (by omega), if_pos (by omega)] | rw [if_neg (by omega), if_neg (by omega), if_neg (by omega), if_neg (by omega), if_pos (by omega)] | rw [if_neg (by omega), if_neg (by omega), if_neg (by omega), if_neg (by omega), if_neg (by omega)]
  · refine qv_aload_n C 0 d_D_leap_9 rfl rfl ?_
    refine qv_get C in_D 0 rfl rfl 23 (by decide) wf_D_133 rfl rfl d_D_leap_10 ?_
    refine qv_lret C hrt hlk d_D_leap_13 ?_
    refine ⟨?_, rfl⟩
    first | rw [if_pos (by omega)] | rw [if_neg (by omega), if_pos (by omega)] | rw [if_neg (by omega), if_neg (by omega), if_pos (by omega)] | rw [if_neg (by omega), if_neg (by omega), if_neg (by omega), if_pos (by omega)] | rw [if_neg (by omega), if_neg (by omega), if_neg (by omega), if_neg (by omega), if_pos (by omega)] | rw [if_neg (by omega), if_neg (by omega), if_neg (by omega), if_neg (by omega), if_neg (by omega)]
set_option maxHeartbeats 4000000 in
set_option maxRecDepth 100000 in
theorem c_D_set (l : Launch) (G : qG) {u utx uro urc urn urp ula uop urg utg ude ule udn uv ub ubf ubh ukp uwa : Nat} {cd sz cu fa rdn n pl st on cn hd ps ss tk : Int} {c w : Int} {v : Int → Int} (hc : -2147483648 ≤ c ∧ c ≤ 2147483647) (hw : -2147483648 ≤ w ∧ w ≤ 2147483647) : qM l G y_D_set b_D_set 3 none ({ frames := 0, cells := 0, slots := 0, locals := 0 }) [.ref u, .int (qI c), .int (qI w)] [(u, .inr (5, [.int (qI cd), .int (qI sz), .ref utx, .int (qI cu), .int (qI fa), .int (qI rdn), .ref uro, .ref urc, .ref urn, .ref urp, .ref ula, .int (qI n), .ref uop, .ref urg, .ref utg, .ref ude, .ref ule, .ref udn, .ref uv, .ref ub, .int (qI pl), .long (qL st), .int (qI on), .long (qL cn), .int (qI hd), .long (qL ps), .long (qL ss), .ref ubf, .ref ubh, .long (qL tk), .ref ukp, .ref uwa])), (uv, .inl (G.2.1, 8, .inl (qA v)))] (fun v' ws' => v' = none ∧ (((0 ≤ c ∧ c < 8 ∧ 0 ≤ w ∧ w ≤ 1000000) ∧ ws' = [(u, .inr (5, [.int (qI 0), .int (qI sz), .ref utx, .int (qI cu), .int (qI fa), .int (qI rdn), .ref uro, .ref urc, .ref urn, .ref urp, .ref ula, .int (qI n), .ref uop, .ref urg, .ref utg, .ref ude, .ref ule, .ref udn, .ref uv, .ref ub, .int (qI pl), .long (qL st), .int (qI on), .long (qL cn), .int (qI hd), .long (qL ps), .long (qL ss), .ref ubf, .ref ubh, .long (qL tk), .ref ukp, .ref uwa])), (uv, .inl (G.2.1, 8, .inl (qA (qU v c w))))]) ∨ (¬ (0 ≤ c ∧ c < 8 ∧ 0 ≤ w ∧ w ≤ 1000000) ∧ ws' = [(u, .inr (5, [.int (qI 1), .int (qI sz), .ref utx, .int (qI cu), .int (qI fa), .int (qI rdn), .ref uro, .ref urc, .ref urn, .ref urp, .ref ula, .int (qI n), .ref uop, .ref urg, .ref utg, .ref ude, .ref ule, .ref udn, .ref uv, .ref ub, .int (qI pl), .long (qL st), .int (qI on), .long (qL cn), .int (qI hd), .long (qL ps), .long (qL ss), .ref ubf, .ref ubh, .long (qL tk), .ref ukp, .ref uwa])), (uv, .inl (G.2.1, 8, .inl (qA v)))]))) := by
  refine qM.of (by decide) (Nat.le_of_ble_eq_true rfl) (fun xp xe xs xm xb xme xc A C hrt hlk hnm => ?_)
  refine qv_eq (lv' := [(0, .ref u), (1, .int (qI c)), (2, .int (qI w))]) rfl rfl rfl ?_
  refine qv_aload_n C 0 d_D_set_0 rfl rfl ?_
  refine qv_iload_n C 1 d_D_set_1 rfl rfl ?_
  refine qv_if_lt C d_D_set_2 (tgt := 21) (by decide) (by omega) (fun ht2 => ?_) (fun hf2 => ?_)
  · refine qv_iconst C d_D_set_21 ?_
    refine qv_goto C d_D_set_22 (by decide) (tgt := 26) ?_
    refine qv_put C in_D 0 rfl rfl 0 (by decide) t_D t_D_ok n_D wf_D_68 rfl rfl (t_D_ok 0 (by decide)) (rfl) (rfl) (Nat.le_of_ble_eq_true rfl) d_D_set_26 (ws' := [(u, .inr (5, [.int (qI 1), .int (qI sz), .ref utx, .int (qI cu), .int (qI fa), .int (qI rdn), .ref uro, .ref urc, .ref urn, .ref urp, .ref ula, .int (qI n), .ref uop, .ref urg, .ref utg, .ref ude, .ref ule, .ref udn, .ref uv, .ref ub, .int (qI pl), .long (qL st), .int (qI on), .long (qL cn), .int (qI hd), .long (qL ps), .long (qL ss), .ref ubf, .ref ubh, .long (qL tk), .ref ukp, .ref uwa])), (uv, .inl (G.2.1, 8, .inl (qA v)))]) rfl ?_
    refine qv_aload_n C 0 d_D_set_29 rfl rfl ?_
    refine qv_get C in_D 0 rfl rfl 0 (by decide) wf_D_68 rfl rfl d_D_set_30 ?_
    refine qv_if_ne C d_D_set_33 (tgt := 43) (by decide) (by omega) (fun ht33 => ?_) (fun hf33 => ?_)
    · refine qv_vret C hrt hlk d_D_set_43 ?_
      exact ⟨rfl, Or.inr ⟨by omega, rfl⟩⟩
    · exfalso; omega
  · refine qv_iload_n C 1 d_D_set_5 rfl rfl ?_
    refine qv_bipush C d_D_set_6 (by decide) ?_
    refine qv_icmp_gt C d_D_set_8 (tgt := 21) (by decide) (by omega) (by omega) (fun ht8 => ?_) (fun hf8 => ?_)
    · refine qv_iconst C d_D_set_21 ?_
      refine qv_goto C d_D_set_22 (by decide) (tgt := 26) ?_
      refine qv_put C in_D 0 rfl rfl 0 (by decide) t_D t_D_ok n_D wf_D_68 rfl rfl (t_D_ok 0 (by decide)) (rfl) (rfl) (Nat.le_of_ble_eq_true rfl) d_D_set_26 (ws' := [(u, .inr (5, [.int (qI 1), .int (qI sz), .ref utx, .int (qI cu), .int (qI fa), .int (qI rdn), .ref uro, .ref urc, .ref urn, .ref urp, .ref ula, .int (qI n), .ref uop, .ref urg, .ref utg, .ref ude, .ref ule, .ref udn, .ref uv, .ref ub, .int (qI pl), .long (qL st), .int (qI on), .long (qL cn), .int (qI hd), .long (qL ps), .long (qL ss), .ref ubf, .ref ubh, .long (qL tk), .ref ukp, .ref uwa])), (uv, .inl (G.2.1, 8, .inl (qA v)))]) rfl ?_
      refine qv_aload_n C 0 d_D_set_29 rfl rfl ?_
      refine qv_get C in_D 0 rfl rfl 0 (by decide) wf_D_68 rfl rfl d_D_set_30 ?_
      refine qv_if_ne C d_D_set_33 (tgt := 43) (by decide) (by omega) (fun ht33 => ?_) (fun hf33 => ?_)
      · refine qv_vret C hrt hlk d_D_set_43 ?_
        exact ⟨rfl, Or.inr ⟨by omega, rfl⟩⟩
      · exfalso; omega
    · refine qv_iload_n C 2 d_D_set_11 rfl rfl ?_
      refine qv_if_lt C d_D_set_12 (tgt := 21) (by decide) (by omega) (fun ht12 => ?_) (fun hf12 => ?_)
      · refine qv_iconst C d_D_set_21 ?_
        refine qv_goto C d_D_set_22 (by decide) (tgt := 26) ?_
        refine qv_put C in_D 0 rfl rfl 0 (by decide) t_D t_D_ok n_D wf_D_68 rfl rfl (t_D_ok 0 (by decide)) (rfl) (rfl) (Nat.le_of_ble_eq_true rfl) d_D_set_26 (ws' := [(u, .inr (5, [.int (qI 1), .int (qI sz), .ref utx, .int (qI cu), .int (qI fa), .int (qI rdn), .ref uro, .ref urc, .ref urn, .ref urp, .ref ula, .int (qI n), .ref uop, .ref urg, .ref utg, .ref ude, .ref ule, .ref udn, .ref uv, .ref ub, .int (qI pl), .long (qL st), .int (qI on), .long (qL cn), .int (qI hd), .long (qL ps), .long (qL ss), .ref ubf, .ref ubh, .long (qL tk), .ref ukp, .ref uwa])), (uv, .inl (G.2.1, 8, .inl (qA v)))]) rfl ?_
        refine qv_aload_n C 0 d_D_set_29 rfl rfl ?_
        refine qv_get C in_D 0 rfl rfl 0 (by decide) wf_D_68 rfl rfl d_D_set_30 ?_
        refine qv_if_ne C d_D_set_33 (tgt := 43) (by decide) (by omega) (fun ht33 => ?_) (fun hf33 => ?_)
        · refine qv_vret C hrt hlk d_D_set_43 ?_
          exact ⟨rfl, Or.inr ⟨by omega, rfl⟩⟩
        · exfalso; omega
      · refine qv_iload_n C 2 d_D_set_15 rfl rfl ?_
        refine qv_ldc C (n := 1000000) wk_D_125 (by decide) d_D_set_16 ?_
        refine qv_icmp_le C d_D_set_18 (tgt := 25) (by decide) (by omega) (by omega) (fun ht18 => ?_) (fun hf18 => ?_)
        · refine qv_iconst C d_D_set_25 ?_
          refine qv_put C in_D 0 rfl rfl 0 (by decide) t_D t_D_ok n_D wf_D_68 rfl rfl (t_D_ok 0 (by decide)) (rfl) (rfl) (Nat.le_of_ble_eq_true rfl) d_D_set_26 (ws' := [(u, .inr (5, [.int (qI 0), .int (qI sz), .ref utx, .int (qI cu), .int (qI fa), .int (qI rdn), .ref uro, .ref urc, .ref urn, .ref urp, .ref ula, .int (qI n), .ref uop, .ref urg, .ref utg, .ref ude, .ref ule, .ref udn, .ref uv, .ref ub, .int (qI pl), .long (qL st), .int (qI on), .long (qL cn), .int (qI hd), .long (qL ps), .long (qL ss), .ref ubf, .ref ubh, .long (qL tk), .ref ukp, .ref uwa])), (uv, .inl (G.2.1, 8, .inl (qA v)))]) rfl ?_
          refine qv_aload_n C 0 d_D_set_29 rfl rfl ?_
          refine qv_get C in_D 0 rfl rfl 0 (by decide) wf_D_68 rfl rfl d_D_set_30 ?_
          refine qv_if_ne C d_D_set_33 (tgt := 43) (by decide) (by omega) (fun ht33 => ?_) (fun hf33 => ?_)
          · exfalso; omega
          · refine qv_aload_n C 0 d_D_set_36 rfl rfl ?_
            refine qv_get C in_D 0 rfl rfl 18 (by decide) wf_D_46 rfl rfl d_D_set_37 ?_
            refine qv_iload_n C 1 d_D_set_40 rfl rfl ?_
            refine qv_iload_n C 2 d_D_set_41 rfl rfl ?_
            refine qv_iast C 1 rfl (by omega) d_D_set_42 (ws' := [(u, .inr (5, [.int (qI 0), .int (qI sz), .ref utx, .int (qI cu), .int (qI fa), .int (qI rdn), .ref uro, .ref urc, .ref urn, .ref urp, .ref ula, .int (qI n), .ref uop, .ref urg, .ref utg, .ref ude, .ref ule, .ref udn, .ref uv, .ref ub, .int (qI pl), .long (qL st), .int (qI on), .long (qL cn), .int (qI hd), .long (qL ps), .long (qL ss), .ref ubf, .ref ubh, .long (qL tk), .ref ukp, .ref uwa])), (uv, .inl (G.2.1, 8, .inl (qA (qU v c w))))]) rfl ?_
            refine qv_vret C hrt hlk d_D_set_43 ?_
            exact ⟨rfl, Or.inl ⟨by omega, rfl⟩⟩
        · refine qv_iconst C d_D_set_21 ?_
          refine qv_goto C d_D_set_22 (by decide) (tgt := 26) ?_
          refine qv_put C in_D 0 rfl rfl 0 (by decide) t_D t_D_ok n_D wf_D_68 rfl rfl (t_D_ok 0 (by decide)) (rfl) (rfl) (Nat.le_of_ble_eq_true rfl) d_D_set_26 (ws' := [(u, .inr (5, [.int (qI 1), .int (qI sz), .ref utx, .int (qI cu), .int (qI fa), .int (qI rdn), .ref uro, .ref urc, .ref urn, .ref urp, .ref ula, .int (qI n), .ref uop, .ref urg, .ref utg, .ref ude, .ref ule, .ref udn, .ref uv, .ref ub, .int (qI pl), .long (qL st), .int (qI on), .long (qL cn), .int (qI hd), .long (qL ps), .long (qL ss), .ref ubf, .ref ubh, .long (qL tk), .ref ukp, .ref uwa])), (uv, .inl (G.2.1, 8, .inl (qA v)))]) rfl ?_
          refine qv_aload_n C 0 d_D_set_29 rfl rfl ?_
          refine qv_get C in_D 0 rfl rfl 0 (by decide) wf_D_68 rfl rfl d_D_set_30 ?_
          refine qv_if_ne C d_D_set_33 (tgt := 43) (by decide) (by omega) (fun ht33 => ?_) (fun hf33 => ?_)
          · refine qv_vret C hrt hlk d_D_set_43 ?_
            exact ⟨rfl, Or.inr ⟨by omega, rfl⟩⟩
          · exfalso; omega
set_option maxHeartbeats 4000000 in
set_option maxRecDepth 100000 in
theorem c_D_restart (l : Launch) (G : qG) {u utx uro urc urn urp ula uop urg utg ude ule udn uv ub ubf ubh ukp uwa : Nat} {cd sz cu fa rdn n pl st on cn hd ps ss tk : Int} {v vb : Int → Int} (ho : ∀ j : Int, ¬ (0 ≤ j ∧ j < 8) → vb j = v j) : qM l G y_D_restart b_D_restart 2 none ({ frames := 0, cells := 0, slots := 0, locals := 0 }) [.ref u] [(u, .inr (5, [.int (qI cd), .int (qI sz), .ref utx, .int (qI cu), .int (qI fa), .int (qI rdn), .ref uro, .ref urc, .ref urn, .ref urp, .ref ula, .int (qI n), .ref uop, .ref urg, .ref utg, .ref ude, .ref ule, .ref udn, .ref uv, .ref ub, .int (qI pl), .long (qL st), .int (qI on), .long (qL cn), .int (qI hd), .long (qL ps), .long (qL ss), .ref ubf, .ref ubh, .long (qL tk), .ref ukp, .ref uwa])), (uv, .inl (G.2.1, 8, .inl (qA v))), (ub, .inl (G.2.1, 8, .inl (qA vb)))] (fun v' ws' => v' = none ∧ ws' = [(u, .inr (5, [.int (qI cd), .int (qI sz), .ref utx, .int (qI cu), .int (qI fa), .int (qI rdn), .ref uro, .ref urc, .ref urn, .ref urp, .ref ula, .int (qI n), .ref uop, .ref urg, .ref utg, .ref ude, .ref ule, .ref udn, .ref uv, .ref ub, .int (qI 0), .long (qL 0), .int (qI on), .long (qL 0), .int (qI hd), .long (qL ps), .long (qL ss), .ref ubf, .ref ubh, .long (qL tk), .ref ukp, .ref uwa])), (uv, .inl (G.2.1, 8, .inl (qA v))), (ub, .inl (G.2.1, 8, .inl (qA v)))]) := by
  refine qM.of (by decide) (Nat.le_of_ble_eq_true rfl) (fun xp xe xs xm xb xme xc A C hrt hlk hnm => ?_)
  refine qv_eq (lv' := [(0, .ref u)]) rfl rfl rfl ?_
  refine qv_aload_n C 0 d_D_restart_0 rfl rfl ?_
  refine qv_iconst C d_D_restart_1 ?_
  refine qv_put C in_D 0 rfl rfl 20 (by decide) t_D t_D_ok n_D wf_D_126 rfl rfl (t_D_ok 20 (by decide)) (rfl) (rfl) (Nat.le_of_ble_eq_true rfl) d_D_restart_2 (ws' := [(u, .inr (5, [.int (qI cd), .int (qI sz), .ref utx, .int (qI cu), .int (qI fa), .int (qI rdn), .ref uro, .ref urc, .ref urn, .ref urp, .ref ula, .int (qI n), .ref uop, .ref urg, .ref utg, .ref ude, .ref ule, .ref udn, .ref uv, .ref ub, .int (qI 0), .long (qL st), .int (qI on), .long (qL cn), .int (qI hd), .long (qL ps), .long (qL ss), .ref ubf, .ref ubh, .long (qL tk), .ref ukp, .ref uwa])), (uv, .inl (G.2.1, 8, .inl (qA v))), (ub, .inl (G.2.1, 8, .inl (qA vb)))]) rfl ?_
  refine qv_aload_n C 0 d_D_restart_5 rfl rfl ?_
  refine qv_lconst C (z := 0) d_D_restart_6 (by decide) ?_
  refine qv_put C in_D 0 rfl rfl 21 (by decide) t_D t_D_ok n_D wf_D_129 rfl rfl (t_D_ok 21 (by decide)) (rfl) (rfl) (Nat.le_of_ble_eq_true rfl) d_D_restart_7 (ws' := [(u, .inr (5, [.int (qI cd), .int (qI sz), .ref utx, .int (qI cu), .int (qI fa), .int (qI rdn), .ref uro, .ref urc, .ref urn, .ref urp, .ref ula, .int (qI n), .ref uop, .ref urg, .ref utg, .ref ude, .ref ule, .ref udn, .ref uv, .ref ub, .int (qI 0), .long (qL 0), .int (qI on), .long (qL cn), .int (qI hd), .long (qL ps), .long (qL ss), .ref ubf, .ref ubh, .long (qL tk), .ref ukp, .ref uwa])), (uv, .inl (G.2.1, 8, .inl (qA v))), (ub, .inl (G.2.1, 8, .inl (qA vb)))]) rfl ?_
  refine qv_aload_n C 0 d_D_restart_10 rfl rfl ?_
  refine qv_lconst C (z := 0) d_D_restart_11 (by decide) ?_
  refine qv_put C in_D 0 rfl rfl 23 (by decide) t_D t_D_ok n_D wf_D_133 rfl rfl (t_D_ok 23 (by decide)) (rfl) (rfl) (Nat.le_of_ble_eq_true rfl) d_D_restart_12 (ws' := [(u, .inr (5, [.int (qI cd), .int (qI sz), .ref utx, .int (qI cu), .int (qI fa), .int (qI rdn), .ref uro, .ref urc, .ref urn, .ref urp, .ref ula, .int (qI n), .ref uop, .ref urg, .ref utg, .ref ude, .ref ule, .ref udn, .ref uv, .ref ub, .int (qI 0), .long (qL 0), .int (qI on), .long (qL 0), .int (qI hd), .long (qL ps), .long (qL ss), .ref ubf, .ref ubh, .long (qL tk), .ref ukp, .ref uwa])), (uv, .inl (G.2.1, 8, .inl (qA v))), (ub, .inl (G.2.1, 8, .inl (qA vb)))]) rfl ?_
  refine qv_iconst C d_D_restart_15 ?_
  refine qv_istore_n C d_D_restart_16 rfl (by decide) (lv' := [(1, .int (qI 0)), (0, .ref u)]) rfl ?_
  have L17 : ∀ (N17 : Nat) (i : Int), (8 - i).toNat < N17 → (0 ≤ i ∧ i ≤ 8) → qV xp l xe ({ frames := 0, cells := 0, slots := 0, locals := 0 }) xs xm [.ref u].toArray xb xme xc G A xs.heap 2 (MQ xb (qQ G A (fun v' ws' => v' = none ∧ ws' = [(u, .inr (5, [.int (qI cd), .int (qI sz), .ref utx, .int (qI cu), .int (qI fa), .int (qI rdn), .ref uro, .ref urc, .ref urn, .ref urp, .ref ula, .int (qI n), .ref uop, .ref urg, .ref utg, .ref ude, .ref ule, .ref udn, .ref uv, .ref ub, .int (qI 0), .long (qL 0), .int (qI on), .long (qL 0), .int (qI hd), .long (qL ps), .long (qL ss), .ref ubf, .ref ubh, .long (qL tk), .ref ukp, .ref uwa])), (uv, .inl (G.2.1, 8, .inl (qA v))), (ub, .inl (G.2.1, 8, .inl (qA v)))])) [.ref u].toArray xs 0 0 A) 0 0 [(u, .inr (5, [.int (qI cd), .int (qI sz), .ref utx, .int (qI cu), .int (qI fa), .int (qI rdn), .ref uro, .ref urc, .ref urn, .ref urp, .ref ula, .int (qI n), .ref uop, .ref urg, .ref utg, .ref ude, .ref ule, .ref udn, .ref uv, .ref ub, .int (qI 0), .long (qL 0), .int (qI on), .long (qL 0), .int (qI hd), .long (qL ps), .long (qL ss), .ref ubf, .ref ubh, .long (qL tk), .ref ukp, .ref uwa])), (uv, .inl (G.2.1, 8, .inl (qA v))), (ub, .inl (G.2.1, 8, .inl (qA (m_up vb v i))))] [(1, .int (qI i)), (0, .ref u)] 17 [] := by
    intro N17
    induction N17 with
    | zero => intro i hmu; exact absurd hmu (Nat.not_lt_zero _)
    | succ N17 ih17 =>
      intro i hmu17 hi
      refine qv_iload_n C 0 d_D_restart_17 rfl rfl ?_
      refine qv_bipush C d_D_restart_18 (by decide) ?_
      refine qv_icmp_ge C d_D_restart_20 (tgt := 41) (by decide) (by omega) (by omega) (fun ht20 => ?_) (fun hf20 => ?_)
      · refine qv_vret C hrt hlk d_D_restart_41 ?_
        obtain rfl : i = 8 := by omega
        rw [m_up_all (f := vb) (g := v) ho]
        exact ⟨rfl, rfl⟩
      · refine qv_aload_n C 1 d_D_restart_23 rfl rfl ?_
        refine qv_get C in_D 0 rfl rfl 19 (by decide) wf_D_49 rfl rfl d_D_restart_24 ?_
        refine qv_iload_n C 0 d_D_restart_27 rfl rfl ?_
        refine qv_aload_n C 1 d_D_restart_28 rfl rfl ?_
        refine qv_get C in_D 0 rfl rfl 18 (by decide) wf_D_46 rfl rfl d_D_restart_29 ?_
        refine qv_iload_n C 0 d_D_restart_32 rfl rfl ?_
        refine qv_iald C 1 rfl (by omega) d_D_restart_33 ?_
        refine qv_iast C 2 rfl (by omega) d_D_restart_34 (ws' := [(u, .inr (5, [.int (qI cd), .int (qI sz), .ref utx, .int (qI cu), .int (qI fa), .int (qI rdn), .ref uro, .ref urc, .ref urn, .ref urp, .ref ula, .int (qI n), .ref uop, .ref urg, .ref utg, .ref ude, .ref ule, .ref udn, .ref uv, .ref ub, .int (qI 0), .long (qL 0), .int (qI on), .long (qL 0), .int (qI hd), .long (qL ps), .long (qL ss), .ref ubf, .ref ubh, .long (qL tk), .ref ukp, .ref uwa])), (uv, .inl (G.2.1, 8, .inl (qA v))), (ub, .inl (G.2.1, 8, .inl (qA (qU (m_up vb v i) i (v i)))))]) rfl ?_
        refine qv_iinc C 0 d_D_restart_35 rfl (by decide) (lv' := [(1, .int (qI (i + 1))), (0, .ref u)]) rfl ?_
        refine qv_goto C d_D_restart_38 (by decide) (tgt := 17) ?_
        refine qv_eq (ws' := [(u, .inr (5, [.int (qI cd), .int (qI sz), .ref utx, .int (qI cu), .int (qI fa), .int (qI rdn), .ref uro, .ref urc, .ref urn, .ref urp, .ref ula, .int (qI n), .ref uop, .ref urg, .ref utg, .ref ude, .ref ule, .ref udn, .ref uv, .ref ub, .int (qI 0), .long (qL 0), .int (qI on), .long (qL 0), .int (qI hd), .long (qL ps), .long (qL ss), .ref ubf, .ref ubh, .long (qL tk), .ref ukp, .ref uwa])), (uv, .inl (G.2.1, 8, .inl (qA v))), (ub, .inl (G.2.1, 8, .inl (qA (m_up vb v (i + 1)))))]) (lv' := [(1, .int (qI (i + 1))), (0, .ref u)]) (by rw [m_up_s hi.1]) (rfl) rfl ?_
        exact ih17 (i + 1) (by omega) (by first | assumption | omega)
  refine qv_eq (ws' := [(u, .inr (5, [.int (qI cd), .int (qI sz), .ref utx, .int (qI cu), .int (qI fa), .int (qI rdn), .ref uro, .ref urc, .ref urn, .ref urp, .ref ula, .int (qI n), .ref uop, .ref urg, .ref utg, .ref ude, .ref ule, .ref udn, .ref uv, .ref ub, .int (qI 0), .long (qL 0), .int (qI on), .long (qL 0), .int (qI hd), .long (qL ps), .long (qL ss), .ref ubf, .ref ubh, .long (qL tk), .ref ukp, .ref uwa])), (uv, .inl (G.2.1, 8, .inl (qA v))), (ub, .inl (G.2.1, 8, .inl (qA (m_up vb v 0))))]) (lv' := [(1, .int (qI 0)), (0, .ref u)]) (by rw [m_up_0]) (rfl) rfl ?_
  exact L17 _ 0 (Nat.lt_succ_self _) (by first | assumption | omega)
set_option maxHeartbeats 4000000 in
set_option maxRecDepth 100000 in
theorem c_D_start (l : Launch) (G : qG) {u utx uro urc urn urp ula uop urg utg ude ule udn uv ub ubf ubh ukp uwa : Nat} {cd sz cu fa rdn n pl st on cn hd ps ss tk : Int} {v vb : Int → Int} (hn : 0 ≤ n ∧ n ≤ 24) (ho : ∀ j : Int, ¬ (0 ≤ j ∧ j < 8) → vb j = v j) : qM l G y_D_start b_D_start 1 none ({ frames := 1, cells := 0, slots := 0, locals := 21 }) [.ref u] [(u, .inr (5, [.int (qI cd), .int (qI sz), .ref utx, .int (qI cu), .int (qI fa), .int (qI rdn), .ref uro, .ref urc, .ref urn, .ref urp, .ref ula, .int (qI n), .ref uop, .ref urg, .ref utg, .ref ude, .ref ule, .ref udn, .ref uv, .ref ub, .int (qI pl), .long (qL st), .int (qI on), .long (qL cn), .int (qI hd), .long (qL ps), .long (qL ss), .ref ubf, .ref ubh, .long (qL tk), .ref ukp, .ref uwa])), (uv, .inl (G.2.1, 8, .inl (qA v))), (ub, .inl (G.2.1, 8, .inl (qA vb)))] (fun v' ws' => v' = none ∧ ((n = 0 ∧ ws' = [(u, .inr (5, [.int (qI 1), .int (qI sz), .ref utx, .int (qI cu), .int (qI fa), .int (qI rdn), .ref uro, .ref urc, .ref urn, .ref urp, .ref ula, .int (qI n), .ref uop, .ref urg, .ref utg, .ref ude, .ref ule, .ref udn, .ref uv, .ref ub, .int (qI pl), .long (qL st), .int (qI on), .long (qL cn), .int (qI hd), .long (qL ps), .long (qL ss), .ref ubf, .ref ubh, .long (qL tk), .ref ukp, .ref uwa])), (uv, .inl (G.2.1, 8, .inl (qA v))), (ub, .inl (G.2.1, 8, .inl (qA vb)))]) ∨ (0 < n ∧ ws' = [(u, .inr (5, [.int (qI 0), .int (qI sz), .ref utx, .int (qI cu), .int (qI fa), .int (qI rdn), .ref uro, .ref urc, .ref urn, .ref urp, .ref ula, .int (qI n), .ref uop, .ref urg, .ref utg, .ref ude, .ref ule, .ref udn, .ref uv, .ref ub, .int (qI 0), .long (qL 0), .int (qI on), .long (qL 0), .int (qI hd), .long (qL ps), .long (qL ss), .ref ubf, .ref ubh, .long (qL tk), .ref ukp, .ref uwa])), (uv, .inl (G.2.1, 8, .inl (qA v))), (ub, .inl (G.2.1, 8, .inl (qA v)))]))) := by
  refine qM.of (by decide) (Nat.le_of_ble_eq_true rfl) (fun xp xe xs xm xb xme xc A C hrt hlk hnm => ?_)
  refine qv_eq (lv' := [(0, .ref u)]) rfl rfl rfl ?_
  refine qv_aload_n C 0 d_D_start_0 rfl rfl ?_
  refine qv_aload_n C 0 d_D_start_1 rfl rfl ?_
  refine qv_get C in_D 0 rfl rfl 11 (by decide) wf_D_109 rfl rfl d_D_start_2 ?_
  refine qv_if_ne C d_D_start_5 (tgt := 12) (by decide) (by omega) (fun ht5 => ?_) (fun hf5 => ?_)
  · refine qv_iconst C d_D_start_12 ?_
    refine qv_put C in_D 0 rfl rfl 0 (by decide) t_D t_D_ok n_D wf_D_68 rfl rfl (t_D_ok 0 (by decide)) (rfl) (rfl) (Nat.le_of_ble_eq_true rfl) d_D_start_13 (ws' := [(u, .inr (5, [.int (qI 0), .int (qI sz), .ref utx, .int (qI cu), .int (qI fa), .int (qI rdn), .ref uro, .ref urc, .ref urn, .ref urp, .ref ula, .int (qI n), .ref uop, .ref urg, .ref utg, .ref ude, .ref ule, .ref udn, .ref uv, .ref ub, .int (qI pl), .long (qL st), .int (qI on), .long (qL cn), .int (qI hd), .long (qL ps), .long (qL ss), .ref ubf, .ref ubh, .long (qL tk), .ref ukp, .ref uwa])), (uv, .inl (G.2.1, 8, .inl (qA v))), (ub, .inl (G.2.1, 8, .inl (qA vb)))]) rfl ?_
    refine qv_aload_n C 0 d_D_start_16 rfl rfl ?_
    refine qv_get C in_D 0 rfl rfl 0 (by decide) wf_D_68 rfl rfl d_D_start_17 ?_
    refine qv_if_ne C d_D_start_20 (tgt := 27) (by decide) (by omega) (fun ht20 => ?_) (fun hf20 => ?_)
    · exfalso; omega
    · refine qv_aload_n C 0 d_D_start_23 rfl rfl ?_
      refine qv_cV (As := []) (rest := []) (wc := [(u, .inr (5, [.int (qI 0), .int (qI sz), .ref utx, .int (qI cu), .int (qI fa), .int (qI rdn), .ref uro, .ref urc, .ref urn, .ref urp, .ref ula, .int (qI n), .ref uop, .ref urg, .ref utg, .ref ude, .ref ule, .ref udn, .ref uv, .ref ub, .int (qI pl), .long (qL st), .int (qI on), .long (qL cn), .int (qI hd), .long (qL ps), .long (qL ss), .ref ubf, .ref ubh, .long (qL tk), .ref ukp, .ref uwa])), (uv, .inl (G.2.1, 8, .inl (qA v))), (ub, .inl (G.2.1, 8, .inl (qA vb)))]) (wr := []) C k_D_restart (c_D_restart l G ho) wm_D_119 wi_D_restart ws_D_restart 0 rfl rfl (by decide) d_D_start_24 rfl rfl (Nat.le_of_ble_eq_true rfl) (by decide) [0, 1, 2] [] rfl (by decide) rfl (by decide) (by decide) (fun v ws' hpost => ?_)
      obtain ⟨rfl, rfl⟩ := hpost
      refine qv_eq (ws' := [(u, .inr (5, [.int (qI 0), .int (qI sz), .ref utx, .int (qI cu), .int (qI fa), .int (qI rdn), .ref uro, .ref urc, .ref urn, .ref urp, .ref ula, .int (qI n), .ref uop, .ref urg, .ref utg, .ref ude, .ref ule, .ref udn, .ref uv, .ref ub, .int (qI 0), .long (qL 0), .int (qI on), .long (qL 0), .int (qI hd), .long (qL ps), .long (qL ss), .ref ubf, .ref ubh, .long (qL tk), .ref ukp, .ref uwa])), (uv, .inl (G.2.1, 8, .inl (qA v))), (ub, .inl (G.2.1, 8, .inl (qA v)))]) (st' := []) rfl rfl rfl ?_
      refine qv_vret C hrt hlk d_D_start_27 ?_
      exact ⟨rfl, Or.inr ⟨by omega, rfl⟩⟩
  · refine qv_iconst C d_D_start_8 ?_
    refine qv_goto C d_D_start_9 (by decide) (tgt := 13) ?_
    refine qv_put C in_D 0 rfl rfl 0 (by decide) t_D t_D_ok n_D wf_D_68 rfl rfl (t_D_ok 0 (by decide)) (rfl) (rfl) (Nat.le_of_ble_eq_true rfl) d_D_start_13 (ws' := [(u, .inr (5, [.int (qI 1), .int (qI sz), .ref utx, .int (qI cu), .int (qI fa), .int (qI rdn), .ref uro, .ref urc, .ref urn, .ref urp, .ref ula, .int (qI n), .ref uop, .ref urg, .ref utg, .ref ude, .ref ule, .ref udn, .ref uv, .ref ub, .int (qI pl), .long (qL st), .int (qI on), .long (qL cn), .int (qI hd), .long (qL ps), .long (qL ss), .ref ubf, .ref ubh, .long (qL tk), .ref ukp, .ref uwa])), (uv, .inl (G.2.1, 8, .inl (qA v))), (ub, .inl (G.2.1, 8, .inl (qA vb)))]) rfl ?_
    refine qv_aload_n C 0 d_D_start_16 rfl rfl ?_
    refine qv_get C in_D 0 rfl rfl 0 (by decide) wf_D_68 rfl rfl d_D_start_17 ?_
    refine qv_if_ne C d_D_start_20 (tgt := 27) (by decide) (by omega) (fun ht20 => ?_) (fun hf20 => ?_)
    · refine qv_vret C hrt hlk d_D_start_27 ?_
      exact ⟨rfl, Or.inl ⟨by omega, rfl⟩⟩
    · exfalso; omega
set_option maxHeartbeats 4000000 in
set_option maxRecDepth 100000 in
theorem c_D_loops (l : Launch) (G : qG) {u utx uro urc urn urp ula uop urg utg ude ule udn uv ub ubf ubh ukp uwa : Nat} {cd sz cu fa rdn n pl st on cn hd ps ss tk : Int} {le : Int → Int} (hn : 0 ≤ n ∧ n ≤ 24) (hl : ∀ i, -1 ≤ le i ∧ le i ≤ 24) : qM l G y_D_loops b_D_loops 3 (some .int) ({ frames := 0, cells := 0, slots := 0, locals := 0 }) [.ref u] [(u, .inr (5, [.int (qI cd), .int (qI sz), .ref utx, .int (qI cu), .int (qI fa), .int (qI rdn), .ref uro, .ref urc, .ref urn, .ref urp, .ref ula, .int (qI n), .ref uop, .ref urg, .ref utg, .ref ude, .ref ule, .ref udn, .ref uv, .ref ub, .int (qI pl), .long (qL st), .int (qI on), .long (qL cn), .int (qI hd), .long (qL ps), .long (qL ss), .ref ubf, .ref ubh, .long (qL tk), .ref ukp, .ref uwa])), (ule, .inl (G.2.1, 24, .inl (qA le)))] (fun v' ws' => v' = some (.int (qI (m_cn le (Int.toNat n)))) ∧ ws' = [(u, .inr (5, [.int (qI 0), .int (qI sz), .ref utx, .int (qI cu), .int (qI fa), .int (qI rdn), .ref uro, .ref urc, .ref urn, .ref urp, .ref ula, .int (qI n), .ref uop, .ref urg, .ref utg, .ref ude, .ref ule, .ref udn, .ref uv, .ref ub, .int (qI pl), .long (qL st), .int (qI on), .long (qL cn), .int (qI hd), .long (qL ps), .long (qL ss), .ref ubf, .ref ubh, .long (qL tk), .ref ukp, .ref uwa])), (ule, .inl (G.2.1, 24, .inl (qA le)))]) := by
  refine qM.of (by decide) (Nat.le_of_ble_eq_true rfl) (fun xp xe xs xm xb xme xc A C hrt hlk hnm => ?_)
  refine qv_eq (lv' := [(0, .ref u)]) rfl rfl rfl ?_
  refine qv_aload_n C 0 d_D_loops_0 rfl rfl ?_
  refine qv_iconst C d_D_loops_1 ?_
  refine qv_put C in_D 0 rfl rfl 0 (by decide) t_D t_D_ok n_D wf_D_68 rfl rfl (t_D_ok 0 (by decide)) (rfl) (rfl) (Nat.le_of_ble_eq_true rfl) d_D_loops_2 (ws' := [(u, .inr (5, [.int (qI 0), .int (qI sz), .ref utx, .int (qI cu), .int (qI fa), .int (qI rdn), .ref uro, .ref urc, .ref urn, .ref urp, .ref ula, .int (qI n), .ref uop, .ref urg, .ref utg, .ref ude, .ref ule, .ref udn, .ref uv, .ref ub, .int (qI pl), .long (qL st), .int (qI on), .long (qL cn), .int (qI hd), .long (qL ps), .long (qL ss), .ref ubf, .ref ubh, .long (qL tk), .ref ukp, .ref uwa])), (ule, .inl (G.2.1, 24, .inl (qA le)))]) rfl ?_
  refine qv_iconst C d_D_loops_5 ?_
  refine qv_istore_n C d_D_loops_6 rfl (by decide) (lv' := [(1, .int (qI 0)), (0, .ref u)]) rfl ?_
  refine qv_iconst C d_D_loops_7 ?_
  refine qv_istore_n C d_D_loops_8 rfl (by decide) (lv' := [(2, .int (qI 0)), (1, .int (qI 0)), (0, .ref u)]) rfl ?_
  have L9 : ∀ (N9 : Nat) (i : Int), (n - i).toNat < N9 → (0 ≤ i ∧ i ≤ n) → qV xp l xe ({ frames := 0, cells := 0, slots := 0, locals := 0 }) xs xm [.ref u].toArray xb xme xc G A xs.heap 3 (MQ xb (qQ G A (fun v' ws' => v' = some (.int (qI (m_cn le (Int.toNat n)))) ∧ ws' = [(u, .inr (5, [.int (qI 0), .int (qI sz), .ref utx, .int (qI cu), .int (qI fa), .int (qI rdn), .ref uro, .ref urc, .ref urn, .ref urp, .ref ula, .int (qI n), .ref uop, .ref urg, .ref utg, .ref ude, .ref ule, .ref udn, .ref uv, .ref ub, .int (qI pl), .long (qL st), .int (qI on), .long (qL cn), .int (qI hd), .long (qL ps), .long (qL ss), .ref ubf, .ref ubh, .long (qL tk), .ref ukp, .ref uwa])), (ule, .inl (G.2.1, 24, .inl (qA le)))])) [.ref u].toArray xs 0 0 A) 0 0 [(u, .inr (5, [.int (qI 0), .int (qI sz), .ref utx, .int (qI cu), .int (qI fa), .int (qI rdn), .ref uro, .ref urc, .ref urn, .ref urp, .ref ula, .int (qI n), .ref uop, .ref urg, .ref utg, .ref ude, .ref ule, .ref udn, .ref uv, .ref ub, .int (qI pl), .long (qL st), .int (qI on), .long (qL cn), .int (qI hd), .long (qL ps), .long (qL ss), .ref ubf, .ref ubh, .long (qL tk), .ref ukp, .ref uwa])), (ule, .inl (G.2.1, 24, .inl (qA le)))] [(2, .int (qI i)), (1, .int (qI (m_cn le (Int.toNat i)))), (0, .ref u)] 9 [] := by
    intro N9
    induction N9 with
    | zero => intro i hmu; exact absurd hmu (Nat.not_lt_zero _)
    | succ N9 ih9 =>
      intro i hmu9 hi
      refine qv_iload_n C 0 d_D_loops_9 rfl rfl ?_
      refine qv_aload_n C 2 d_D_loops_10 rfl rfl ?_
      refine qv_get C in_D 0 rfl rfl 11 (by decide) wf_D_109 rfl rfl d_D_loops_11 ?_
      refine qv_icmp_ge C d_D_loops_14 (tgt := 40) (by decide) (by omega) (by omega) (fun ht14 => ?_) (fun hf14 => ?_)
      · refine qv_iload_n C 1 d_D_loops_40 rfl rfl ?_
        refine qv_iret C hrt hlk d_D_loops_41 ?_
        obtain rfl : i = n := by omega
        exact ⟨rfl, rfl⟩
      · refine qv_aload_n C 2 d_D_loops_17 rfl rfl ?_
        refine qv_get C in_D 0 rfl rfl 16 (by decide) wf_D_40 rfl rfl d_D_loops_18 ?_
        refine qv_iload_n C 0 d_D_loops_21 rfl rfl ?_
        refine qv_iald C 1 rfl (by omega) d_D_loops_22 ?_
        have hq0 := hl i
        refine qv_if_lt C d_D_loops_23 (tgt := 32) (by decide) (by omega) (fun ht23 => ?_) (fun hf23 => ?_)
        · refine qv_iload_n C 1 d_D_loops_32 rfl rfl ?_
          refine qv_istore_n C d_D_loops_33 rfl (by decide) (lv' := [(1, .int (qI (m_cn le (Int.toNat i)))), (2, .int (qI i)), (0, .ref u)]) rfl ?_
          refine qv_iinc C 1 d_D_loops_34 rfl (by decide) (lv' := [(2, .int (qI (i + 1))), (1, .int (qI (m_cn le (Int.toNat i)))), (0, .ref u)]) rfl ?_
          refine qv_goto C d_D_loops_37 (by decide) (tgt := 9) ?_
          refine qv_eq (ws' := [(u, .inr (5, [.int (qI 0), .int (qI sz), .ref utx, .int (qI cu), .int (qI fa), .int (qI rdn), .ref uro, .ref urc, .ref urn, .ref urp, .ref ula, .int (qI n), .ref uop, .ref urg, .ref utg, .ref ude, .ref ule, .ref udn, .ref uv, .ref ub, .int (qI pl), .long (qL st), .int (qI on), .long (qL cn), .int (qI hd), .long (qL ps), .long (qL ss), .ref ubf, .ref ubh, .long (qL tk), .ref ukp, .ref uwa])), (ule, .inl (G.2.1, 24, .inl (qA le)))]) (lv' := [(2, .int (qI (i + 1))), (1, .int (qI (m_cn le (Int.toNat (i + 1))))), (0, .ref u)]) (rfl) (by rw [m_cn_up le hi.1]; first | rw [if_pos (by omega)] | (rw [if_neg (by omega)]; simp)) rfl ?_
          exact ih9 (i + 1) (by omega) (by first | assumption | omega)
        · refine qv_iload_n C 1 d_D_loops_26 rfl rfl ?_
          refine qv_iconst C d_D_loops_27 ?_
          refine qv_iadd C d_D_loops_28 ?_
          refine qv_goto C d_D_loops_29 (by decide) (tgt := 33) ?_
          refine qv_istore_n C d_D_loops_33 rfl (by decide) (lv' := [(1, .int (qI ((m_cn le (Int.toNat i)) + 1))), (2, .int (qI i)), (0, .ref u)]) rfl ?_
          refine qv_iinc C 1 d_D_loops_34 rfl (by decide) (lv' := [(2, .int (qI (i + 1))), (1, .int (qI ((m_cn le (Int.toNat i)) + 1))), (0, .ref u)]) rfl ?_
          refine qv_goto C d_D_loops_37 (by decide) (tgt := 9) ?_
          refine qv_eq (ws' := [(u, .inr (5, [.int (qI 0), .int (qI sz), .ref utx, .int (qI cu), .int (qI fa), .int (qI rdn), .ref uro, .ref urc, .ref urn, .ref urp, .ref ula, .int (qI n), .ref uop, .ref urg, .ref utg, .ref ude, .ref ule, .ref udn, .ref uv, .ref ub, .int (qI pl), .long (qL st), .int (qI on), .long (qL cn), .int (qI hd), .long (qL ps), .long (qL ss), .ref ubf, .ref ubh, .long (qL tk), .ref ukp, .ref uwa])), (ule, .inl (G.2.1, 24, .inl (qA le)))]) (lv' := [(2, .int (qI (i + 1))), (1, .int (qI (m_cn le (Int.toNat (i + 1))))), (0, .ref u)]) (rfl) (by rw [m_cn_up le hi.1]; first | rw [if_pos (by omega)] | (rw [if_neg (by omega)]; simp)) rfl ?_
          exact ih9 (i + 1) (by omega) (by first | assumption | omega)
  refine qv_eq (ws' := [(u, .inr (5, [.int (qI 0), .int (qI sz), .ref utx, .int (qI cu), .int (qI fa), .int (qI rdn), .ref uro, .ref urc, .ref urn, .ref urp, .ref ula, .int (qI n), .ref uop, .ref urg, .ref utg, .ref ude, .ref ule, .ref udn, .ref uv, .ref ub, .int (qI pl), .long (qL st), .int (qI on), .long (qL cn), .int (qI hd), .long (qL ps), .long (qL ss), .ref ubf, .ref ubh, .long (qL tk), .ref ukp, .ref uwa])), (ule, .inl (G.2.1, 24, .inl (qA le)))]) (lv' := [(2, .int (qI 0)), (1, .int (qI (m_cn le (Int.toNat 0)))), (0, .ref u)]) (rfl) (rfl) rfl ?_
  exact L9 _ 0 (Nat.lt_succ_self _) (by first | assumption | omega)
set_option maxHeartbeats 4000000 in
set_option maxRecDepth 100000 in
theorem c_D_headOf (l : Launch) (G : qG) {u utx uro urc urn urp ula uop urg utg ude ule udn uv ub ubf ubh ukp uwa : Nat} {cd sz cu fa rdn n pl st on cn hd ps ss tk : Int} {kk : Int} {le : Int → Int} (hn : 0 ≤ n ∧ n ≤ 24) (hl : ∀ i, -1 ≤ le i ∧ le i ≤ 24) (hkk : -2147483648 ≤ kk ∧ kk ≤ 2147483647) : qM l G y_D_headOf b_D_headOf 4 (some .int) ({ frames := 0, cells := 0, slots := 0, locals := 0 }) [.ref u, .int (qI kk)] [(u, .inr (5, [.int (qI cd), .int (qI sz), .ref utx, .int (qI cu), .int (qI fa), .int (qI rdn), .ref uro, .ref urc, .ref urn, .ref urp, .ref ula, .int (qI n), .ref uop, .ref urg, .ref utg, .ref ude, .ref ule, .ref udn, .ref uv, .ref ub, .int (qI pl), .long (qL st), .int (qI on), .long (qL cn), .int (qI hd), .long (qL ps), .long (qL ss), .ref ubf, .ref ubh, .long (qL tk), .ref ukp, .ref uwa])), (ule, .inl (G.2.1, 24, .inl (qA le)))] (fun v' ws' => ws' = [(u, .inr (5, [.int (qI cd), .int (qI sz), .ref utx, .int (qI cu), .int (qI fa), .int (qI rdn), .ref uro, .ref urc, .ref urn, .ref urp, .ref ula, .int (qI n), .ref uop, .ref urg, .ref utg, .ref ude, .ref ule, .ref udn, .ref uv, .ref ub, .int (qI pl), .long (qL st), .int (qI on), .long (qL cn), .int (qI hd), .long (qL ps), .long (qL ss), .ref ubf, .ref ubh, .long (qL tk), .ref ukp, .ref uwa])), (ule, .inl (G.2.1, 24, .inl (qA le)))] ∧ ∃ x : Int, v' = some (.int (qI x)) ∧ ((x = -1 ∧ ¬ (0 ≤ kk ∧ kk < m_cn le (Int.toNat n))) ∨ (0 ≤ x ∧ x < n ∧ 0 ≤ le x ∧ m_cn le (Int.toNat x) = kk))) := by
  refine qM.of (by decide) (Nat.le_of_ble_eq_true rfl) (fun xp xe xs xm xb xme xc A C hrt hlk hnm => ?_)
  refine qv_eq (lv' := [(0, .ref u), (1, .int (qI kk))]) rfl rfl rfl ?_
  refine qv_iload_n C 1 d_D_headOf_0 rfl rfl ?_
  refine qv_istore_n C d_D_headOf_1 rfl (by decide) (lv' := [(2, .int (qI kk)), (0, .ref u), (1, .int (qI kk))]) rfl ?_
  refine qv_iconst C d_D_headOf_2 ?_
  refine qv_istore_n C d_D_headOf_3 rfl (by decide) (lv' := [(3, .int (qI 0)), (2, .int (qI kk)), (0, .ref u), (1, .int (qI kk))]) rfl ?_
  have L4 : ∀ (N4 : Nat) (i : Int) (lf : Int), (n - i).toNat < N4 → (0 ≤ i ∧ i ≤ n) → (lf = kk - m_cn le (Int.toNat i)) → (∀ j, 0 ≤ j → j < i → 0 ≤ le j → ¬ m_cn le j.toNat = kk) → qV xp l xe ({ frames := 0, cells := 0, slots := 0, locals := 0 }) xs xm [.ref u, .int (qI kk)].toArray xb xme xc G A xs.heap 4 (MQ xb (qQ G A (fun v' ws' => ws' = [(u, .inr (5, [.int (qI cd), .int (qI sz), .ref utx, .int (qI cu), .int (qI fa), .int (qI rdn), .ref uro, .ref urc, .ref urn, .ref urp, .ref ula, .int (qI n), .ref uop, .ref urg, .ref utg, .ref ude, .ref ule, .ref udn, .ref uv, .ref ub, .int (qI pl), .long (qL st), .int (qI on), .long (qL cn), .int (qI hd), .long (qL ps), .long (qL ss), .ref ubf, .ref ubh, .long (qL tk), .ref ukp, .ref uwa])), (ule, .inl (G.2.1, 24, .inl (qA le)))] ∧ ∃ x : Int, v' = some (.int (qI x)) ∧ ((x = -1 ∧ ¬ (0 ≤ kk ∧ kk < m_cn le (Int.toNat n))) ∨ (0 ≤ x ∧ x < n ∧ 0 ≤ le x ∧ m_cn le (Int.toNat x) = kk)))) [.ref u, .int (qI kk)].toArray xs 0 0 A) 0 0 [(u, .inr (5, [.int (qI cd), .int (qI sz), .ref utx, .int (qI cu), .int (qI fa), .int (qI rdn), .ref uro, .ref urc, .ref urn, .ref urp, .ref ula, .int (qI n), .ref uop, .ref urg, .ref utg, .ref ude, .ref ule, .ref udn, .ref uv, .ref ub, .int (qI pl), .long (qL st), .int (qI on), .long (qL cn), .int (qI hd), .long (qL ps), .long (qL ss), .ref ubf, .ref ubh, .long (qL tk), .ref ukp, .ref uwa])), (ule, .inl (G.2.1, 24, .inl (qA le)))] [(3, .int (qI i)), (2, .int (qI lf)), (0, .ref u), (1, .int (qI kk))] 4 [] := by
    intro N4
    induction N4 with
    | zero => intro i lf hmu; exact absurd hmu (Nat.not_lt_zero _)
    | succ N4 ih4 =>
      intro i lf hmu4 hi hlf hno
      refine qv_iload_n C 0 d_D_headOf_4 rfl rfl ?_
      refine qv_aload_n C 2 d_D_headOf_5 rfl rfl ?_
      refine qv_get C in_D 0 rfl rfl 11 (by decide) wf_D_109 rfl rfl d_D_headOf_6 ?_
      refine qv_icmp_ge C d_D_headOf_9 (tgt := 39) (by decide) (by omega) (by omega) (fun ht9 => ?_) (fun hf9 => ?_)
      · refine qv_iconst C d_D_headOf_39 ?_
        refine qv_iret C hrt hlk d_D_headOf_40 ?_
        refine ⟨rfl, -1, rfl, Or.inl ⟨rfl, ?_⟩⟩
        rintro ⟨a, b⟩
        obtain ⟨j, c1, c2, c3, c4⟩ := m_cn_ex le kk _ a b
        exact hno j c1 (by omega) c3 c4
      · refine qv_aload_n C 2 d_D_headOf_12 rfl rfl ?_
        refine qv_get C in_D 0 rfl rfl 16 (by decide) wf_D_40 rfl rfl d_D_headOf_13 ?_
        refine qv_iload_n C 0 d_D_headOf_16 rfl rfl ?_
        refine qv_iald C 1 rfl (by omega) d_D_headOf_17 ?_
        have hq0 := hl i
        refine qv_if_ge C d_D_headOf_18 (tgt := 24) (by decide) (by omega) (fun ht18 => ?_) (fun hf18 => ?_)
        · have hc9 := m_cn_le le i.toNat
          refine qv_iload_n C 1 d_D_headOf_24 rfl rfl ?_
          refine qv_ifw_ne C d_D_headOf_25 (tgt := 30) (by decide) (by omega) (fun ht25 => ?_) (fun hf25 => ?_)
          · refine qv_iinc C 1 d_D_headOf_30 rfl (by decide) (lv' := [(2, .int (qI (lf + (-1)))), (3, .int (qI i)), (0, .ref u), (1, .int (qI kk))]) rfl ?_
            refine qv_iinc C 1 d_D_headOf_33 rfl (by decide) (lv' := [(3, .int (qI (i + 1))), (2, .int (qI (lf + (-1)))), (0, .ref u), (1, .int (qI kk))]) rfl ?_
            refine qv_goto C d_D_headOf_36 (by decide) (tgt := 4) ?_
            exact ih4 (i + 1) (lf + (-1)) (by omega) (by omega) (by rw [m_cn_up le hi.1]; first | (rw [if_pos (by omega)]; omega) | (rw [if_neg (by omega)]; omega)) (fun j a b c => by by_cases hj : j = i; (· subst hj; omega); (· exact hno j a (by omega) c))
          · refine qv_iload_n C 0 d_D_headOf_28 rfl rfl ?_
            refine qv_iret C hrt hlk d_D_headOf_29 ?_
            exact ⟨rfl, i, rfl, Or.inr ⟨by omega, by omega, by omega, by omega⟩⟩
        · refine qv_goto C d_D_headOf_21 (by decide) (tgt := 33) ?_
          refine qv_iinc C 0 d_D_headOf_33 rfl (by decide) (lv' := [(3, .int (qI (i + 1))), (2, .int (qI lf)), (0, .ref u), (1, .int (qI kk))]) rfl ?_
          refine qv_goto C d_D_headOf_36 (by decide) (tgt := 4) ?_
          exact ih4 (i + 1) lf (by omega) (by omega) (by rw [m_cn_up le hi.1]; first | (rw [if_pos (by omega)]; omega) | (rw [if_neg (by omega)]; omega)) (fun j a b c => by by_cases hj : j = i; (· subst hj; omega); (· exact hno j a (by omega) c))
  exact L4 _ 0 kk (Nat.lt_succ_self _) (by omega) (by show kk = kk - 0; omega) (fun j a b => by omega)
set_option maxHeartbeats 4000000 in
set_option maxRecDepth 100000 in
theorem c_D_loop (l : Launch) (G : qG) {u utx uro urc urn urp ula uop urg utg ude ule udn uv ub ubf ubh ukp uwa : Nat} {cd sz cu fa rdn n pl st on cn hd ps ss tk : Int} {kk w : Int} {le dn : Int → Int} (hn : 0 ≤ n ∧ n ≤ 24) (hl : ∀ i, -1 ≤ le i ∧ le i ≤ 24) (hkk : -2147483648 ≤ kk ∧ kk ≤ 2147483647) (hw : -2147483648 ≤ w ∧ w ≤ 2147483647) : qM l G y_D_loop b_D_loop 4 (some .int) ({ frames := 1, cells := 0, slots := 0, locals := 23 }) [.ref u, .int (qI kk), .int (qI w)] [(u, .inr (5, [.int (qI cd), .int (qI sz), .ref utx, .int (qI cu), .int (qI fa), .int (qI rdn), .ref uro, .ref urc, .ref urn, .ref urp, .ref ula, .int (qI n), .ref uop, .ref urg, .ref utg, .ref ude, .ref ule, .ref udn, .ref uv, .ref ub, .int (qI pl), .long (qL st), .int (qI on), .long (qL cn), .int (qI hd), .long (qL ps), .long (qL ss), .ref ubf, .ref ubh, .long (qL tk), .ref ukp, .ref uwa])), (ule, .inl (G.2.1, 24, .inl (qA le))), (udn, .inl (G.2.1, 24, .inl (qA dn)))] (fun v' ws' => ws' = [(u, .inr (5, [.int (qI 0), .int (qI sz), .ref utx, .int (qI cu), .int (qI fa), .int (qI rdn), .ref uro, .ref urc, .ref urn, .ref urp, .ref ula, .int (qI n), .ref uop, .ref urg, .ref utg, .ref ude, .ref ule, .ref udn, .ref uv, .ref ub, .int (qI pl), .long (qL st), .int (qI on), .long (qL cn), .int (qI hd), .long (qL ps), .long (qL ss), .ref ubf, .ref ubh, .long (qL tk), .ref ukp, .ref uwa])), (ule, .inl (G.2.1, 24, .inl (qA le))), (udn, .inl (G.2.1, 24, .inl (qA dn)))] ∧ ∃ x h : Int, v' = some (.int (qI x)) ∧ ((h = -1 ∧ ¬ (0 ≤ kk ∧ kk < m_cn le (Int.toNat n)) ∧ x = -1) ∨ (0 ≤ h ∧ h < n ∧ 0 ≤ le h ∧ m_cn le (Int.toNat h) = kk ∧ ((w = 0 ∧ x = h) ∨ (w = 1 ∧ x = le h) ∨ (w = 2 ∧ x = dn h) ∨ (¬ w = 0 ∧ ¬ w = 1 ∧ ¬ w = 2 ∧ x = -1))))) := by
  refine qM.of (by decide) (Nat.le_of_ble_eq_true rfl) (fun xp xe xs xm xb xme xc A C hrt hlk hnm => ?_)
  refine qv_eq (lv' := [(0, .ref u), (1, .int (qI kk)), (2, .int (qI w))]) rfl rfl rfl ?_
  refine qv_aload_n C 0 d_D_loop_0 rfl rfl ?_
  refine qv_iconst C d_D_loop_1 ?_
  refine qv_put C in_D 0 rfl rfl 0 (by decide) t_D t_D_ok n_D wf_D_68 rfl rfl (t_D_ok 0 (by decide)) (rfl) (rfl) (Nat.le_of_ble_eq_true rfl) d_D_loop_2 (ws' := [(u, .inr (5, [.int (qI 0), .int (qI sz), .ref utx, .int (qI cu), .int (qI fa), .int (qI rdn), .ref uro, .ref urc, .ref urn, .ref urp, .ref ula, .int (qI n), .ref uop, .ref urg, .ref utg, .ref ude, .ref ule, .ref udn, .ref uv, .ref ub, .int (qI pl), .long (qL st), .int (qI on), .long (qL cn), .int (qI hd), .long (qL ps), .long (qL ss), .ref ubf, .ref ubh, .long (qL tk), .ref ukp, .ref uwa])), (ule, .inl (G.2.1, 24, .inl (qA le))), (udn, .inl (G.2.1, 24, .inl (qA dn)))]) rfl ?_
  refine qv_aload_n C 0 d_D_loop_5 rfl rfl ?_
  refine qv_iload_n C 1 d_D_loop_6 rfl rfl ?_
  refine qv_cV (As := [.int (qI kk)]) (rest := []) (wc := [(u, .inr (5, [.int (qI 0), .int (qI sz), .ref utx, .int (qI cu), .int (qI fa), .int (qI rdn), .ref uro, .ref urc, .ref urn, .ref urp, .ref ula, .int (qI n), .ref uop, .ref urg, .ref utg, .ref ude, .ref ule, .ref udn, .ref uv, .ref ub, .int (qI pl), .long (qL st), .int (qI on), .long (qL cn), .int (qI hd), .long (qL ps), .long (qL ss), .ref ubf, .ref ubh, .long (qL tk), .ref ukp, .ref uwa])), (ule, .inl (G.2.1, 24, .inl (qA le)))]) (wr := [(udn, .inl (G.2.1, 24, .inl (qA dn)))]) C k_D_headOf (c_D_headOf l G hn hl hkk) wm_D_122 wi_D_headOf ws_D_headOf 0 rfl rfl (by decide) d_D_loop_7 rfl rfl (Nat.le_of_ble_eq_true rfl) (by decide) [0, 1] [2] rfl (by decide) rfl (by decide) (by decide) (fun v ws' hpost => ?_)
  obtain ⟨rfl, h, rfl, hh⟩ := hpost
  refine qv_eq (ws' := [(udn, .inl (G.2.1, 24, .inl (qA dn))), (u, .inr (5, [.int (qI 0), .int (qI sz), .ref utx, .int (qI cu), .int (qI fa), .int (qI rdn), .ref uro, .ref urc, .ref urn, .ref urp, .ref ula, .int (qI n), .ref uop, .ref urg, .ref utg, .ref ude, .ref ule, .ref udn, .ref uv, .ref ub, .int (qI pl), .long (qL st), .int (qI on), .long (qL cn), .int (qI hd), .long (qL ps), .long (qL ss), .ref ubf, .ref ubh, .long (qL tk), .ref ukp, .ref uwa])), (ule, .inl (G.2.1, 24, .inl (qA le)))]) (st' := [.int (qI h)]) rfl rfl rfl ?_
  refine qv_istore_n C d_D_loop_10 rfl (by decide) (lv' := [(3, .int (qI h)), (0, .ref u), (1, .int (qI kk)), (2, .int (qI w))]) rfl ?_
  refine qv_iload_n C 0 d_D_loop_11 rfl rfl ?_
  refine qv_if_ge C d_D_loop_12 (tgt := 19) (by decide) (by omega) (fun ht12 => ?_) (fun hf12 => ?_)
  · refine qv_iload_n C 3 d_D_loop_19 rfl rfl ?_
    refine qv_if_ne C d_D_loop_20 (tgt := 27) (by decide) (by omega) (fun ht20 => ?_) (fun hf20 => ?_)
    · refine qv_iload_n C 3 d_D_loop_27 rfl rfl ?_
      refine qv_iconst C d_D_loop_28 ?_
      refine qv_icmp_ne C d_D_loop_29 (tgt := 41) (by decide) (by omega) (by omega) (fun ht29 => ?_) (fun hf29 => ?_)
      · refine qv_iload_n C 3 d_D_loop_41 rfl rfl ?_
        refine qv_iconst C d_D_loop_42 ?_
        refine qv_icmp_ne C d_D_loop_43 (tgt := 55) (by decide) (by omega) (by omega) (fun ht43 => ?_) (fun hf43 => ?_)
        · refine qv_iconst C d_D_loop_55 ?_
          refine qv_ws (ws' := [(u, .inr (5, [.int (qI 0), .int (qI sz), .ref utx, .int (qI cu), .int (qI fa), .int (qI rdn), .ref uro, .ref urc, .ref urn, .ref urp, .ref ula, .int (qI n), .ref uop, .ref urg, .ref utg, .ref ude, .ref ule, .ref udn, .ref uv, .ref ub, .int (qI pl), .long (qL st), .int (qI on), .long (qL cn), .int (qI hd), .long (qL ps), .long (qL ss), .ref ubf, .ref ubh, .long (qL tk), .ref ukp, .ref uwa])), (ule, .inl (G.2.1, 24, .inl (qA le))), (udn, .inl (G.2.1, 24, .inl (qA dn)))]) [1, 2, 0] (by decide) rfl ?_
          refine qv_iret C hrt hlk d_D_loop_56 ?_
          refine ⟨rfl, (-1), h, rfl, ?_⟩
          rcases hh with hh | hh
          · first | (exact Or.inl ⟨hh.1, hh.2, rfl⟩) | (exfalso; omega)
          · first | (exfalso; omega) | exact Or.inr ⟨hh.1, hh.2.1, hh.2.2.1, hh.2.2.2, by omega⟩
        · refine qv_aload_n C 1 d_D_loop_46 rfl rfl ?_
          refine qv_get C in_D 1 rfl rfl 17 (by decide) wf_D_43 rfl rfl d_D_loop_47 ?_
          refine qv_iload_n C 0 d_D_loop_50 rfl rfl ?_
          refine qv_iald C 0 rfl (by omega) d_D_loop_51 ?_
          refine qv_goto C d_D_loop_52 (by decide) (tgt := 56) ?_
          refine qv_ws (ws' := [(u, .inr (5, [.int (qI 0), .int (qI sz), .ref utx, .int (qI cu), .int (qI fa), .int (qI rdn), .ref uro, .ref urc, .ref urn, .ref urp, .ref ula, .int (qI n), .ref uop, .ref urg, .ref utg, .ref ude, .ref ule, .ref udn, .ref uv, .ref ub, .int (qI pl), .long (qL st), .int (qI on), .long (qL cn), .int (qI hd), .long (qL ps), .long (qL ss), .ref ubf, .ref ubh, .long (qL tk), .ref ukp, .ref uwa])), (ule, .inl (G.2.1, 24, .inl (qA le))), (udn, .inl (G.2.1, 24, .inl (qA dn)))]) [1, 2, 0] (by decide) rfl ?_
          refine qv_iret C hrt hlk d_D_loop_56 ?_
          refine ⟨rfl, dn h, h, rfl, ?_⟩
          rcases hh with hh | hh
          · first | (exact Or.inl ⟨hh.1, hh.2, rfl⟩) | (exfalso; omega)
          · first | (exfalso; omega) | exact Or.inr ⟨hh.1, hh.2.1, hh.2.2.1, hh.2.2.2, by omega⟩
      · refine qv_aload_n C 1 d_D_loop_32 rfl rfl ?_
        refine qv_get C in_D 1 rfl rfl 16 (by decide) wf_D_40 rfl rfl d_D_loop_33 ?_
        refine qv_iload_n C 0 d_D_loop_36 rfl rfl ?_
        refine qv_iald C 2 rfl (by omega) d_D_loop_37 ?_
        refine qv_goto C d_D_loop_38 (by decide) (tgt := 56) ?_
        refine qv_ws (ws' := [(u, .inr (5, [.int (qI 0), .int (qI sz), .ref utx, .int (qI cu), .int (qI fa), .int (qI rdn), .ref uro, .ref urc, .ref urn, .ref urp, .ref ula, .int (qI n), .ref uop, .ref urg, .ref utg, .ref ude, .ref ule, .ref udn, .ref uv, .ref ub, .int (qI pl), .long (qL st), .int (qI on), .long (qL cn), .int (qI hd), .long (qL ps), .long (qL ss), .ref ubf, .ref ubh, .long (qL tk), .ref ukp, .ref uwa])), (ule, .inl (G.2.1, 24, .inl (qA le))), (udn, .inl (G.2.1, 24, .inl (qA dn)))]) [1, 2, 0] (by decide) rfl ?_
        refine qv_iret C hrt hlk d_D_loop_56 ?_
        refine ⟨rfl, le h, h, rfl, ?_⟩
        rcases hh with hh | hh
        · first | (exact Or.inl ⟨hh.1, hh.2, rfl⟩) | (exfalso; omega)
        · first | (exfalso; omega) | exact Or.inr ⟨hh.1, hh.2.1, hh.2.2.1, hh.2.2.2, by omega⟩
    · refine qv_iload_n C 0 d_D_loop_23 rfl rfl ?_
      refine qv_goto C d_D_loop_24 (by decide) (tgt := 56) ?_
      refine qv_ws (ws' := [(u, .inr (5, [.int (qI 0), .int (qI sz), .ref utx, .int (qI cu), .int (qI fa), .int (qI rdn), .ref uro, .ref urc, .ref urn, .ref urp, .ref ula, .int (qI n), .ref uop, .ref urg, .ref utg, .ref ude, .ref ule, .ref udn, .ref uv, .ref ub, .int (qI pl), .long (qL st), .int (qI on), .long (qL cn), .int (qI hd), .long (qL ps), .long (qL ss), .ref ubf, .ref ubh, .long (qL tk), .ref ukp, .ref uwa])), (ule, .inl (G.2.1, 24, .inl (qA le))), (udn, .inl (G.2.1, 24, .inl (qA dn)))]) [1, 2, 0] (by decide) rfl ?_
      refine qv_iret C hrt hlk d_D_loop_56 ?_
      refine ⟨rfl, h, h, rfl, ?_⟩
      rcases hh with hh | hh
      · first | (exact Or.inl ⟨hh.1, hh.2, rfl⟩) | (exfalso; omega)
      · first | (exfalso; omega) | exact Or.inr ⟨hh.1, hh.2.1, hh.2.2.1, hh.2.2.2, by omega⟩
  · refine qv_iconst C d_D_loop_15 ?_
    refine qv_goto C d_D_loop_16 (by decide) (tgt := 56) ?_
    refine qv_ws (ws' := [(u, .inr (5, [.int (qI 0), .int (qI sz), .ref utx, .int (qI cu), .int (qI fa), .int (qI rdn), .ref uro, .ref urc, .ref urn, .ref urp, .ref ula, .int (qI n), .ref uop, .ref urg, .ref utg, .ref ude, .ref ule, .ref udn, .ref uv, .ref ub, .int (qI pl), .long (qL st), .int (qI on), .long (qL cn), .int (qI hd), .long (qL ps), .long (qL ss), .ref ubf, .ref ubh, .long (qL tk), .ref ukp, .ref uwa])), (ule, .inl (G.2.1, 24, .inl (qA le))), (udn, .inl (G.2.1, 24, .inl (qA dn)))]) [1, 2, 0] (by decide) rfl ?_
    refine qv_iret C hrt hlk d_D_loop_56 ?_
    refine ⟨rfl, (-1), h, rfl, ?_⟩
    rcases hh with hh | hh
    · first | (exact Or.inl ⟨hh.1, hh.2, rfl⟩) | (exfalso; omega)
    · first | (exfalso; omega) | exact Or.inr ⟨hh.1, hh.2.1, hh.2.2.1, hh.2.2.2, by omega⟩
set_option maxHeartbeats 4000000 in
set_option maxRecDepth 100000 in
theorem c_D_isHalted (l : Launch) (G : qG) {u utx uro urc urn urp ula uop urg utg ude ule udn uv ub ubf ubh ukp uwa : Nat} {cd sz cu fa rdn n pl st on cn hd ps ss tk : Int} {k : Int → Int} (hn : 0 ≤ n ∧ n ≤ 24) (hp : 0 ≤ pl ∧ pl ≤ n) (hk : ∀ i, 0 ≤ k i ∧ k i ≤ 3) : qM l G y_D_isHalted b_D_isHalted 1 (some .boolean) ({ frames := 0, cells := 0, slots := 0, locals := 0 }) [.ref u] [(u, .inr (5, [.int (qI cd), .int (qI sz), .ref utx, .int (qI cu), .int (qI fa), .int (qI rdn), .ref uro, .ref urc, .ref urn, .ref urp, .ref ula, .int (qI n), .ref uop, .ref urg, .ref utg, .ref ude, .ref ule, .ref udn, .ref uv, .ref ub, .int (qI pl), .long (qL st), .int (qI on), .long (qL cn), .int (qI hd), .long (qL ps), .long (qL ss), .ref ubf, .ref ubh, .long (qL tk), .ref ukp, .ref uwa])), (uop, .inl (G.2.1, 24, .inl (qA k)))] (fun v' ws' => ws' = [(u, .inr (5, [.int (qI cd), .int (qI sz), .ref utx, .int (qI cu), .int (qI fa), .int (qI rdn), .ref uro, .ref urc, .ref urn, .ref urp, .ref ula, .int (qI n), .ref uop, .ref urg, .ref utg, .ref ude, .ref ule, .ref udn, .ref uv, .ref ub, .int (qI pl), .long (qL st), .int (qI on), .long (qL cn), .int (qI hd), .long (qL ps), .long (qL ss), .ref ubf, .ref ubh, .long (qL tk), .ref ukp, .ref uwa])), (uop, .inl (G.2.1, 24, .inl (qA k)))] ∧ ∃ x : Int, v' = some (.int (qI x)) ∧ ((x = 1 ∧ (n ≤ pl ∨ k pl = 3)) ∨ (x = 0 ∧ (pl < n ∧ ¬ k pl = 3)))) := by
  refine qM.of (by decide) (Nat.le_of_ble_eq_true rfl) (fun xp xe xs xm xb xme xc A C hrt hlk hnm => ?_)
  refine qv_eq (lv' := [(0, .ref u)]) rfl rfl rfl ?_
  refine qv_aload_n C 0 d_D_isHalted_0 rfl rfl ?_
  refine qv_get C in_D 0 rfl rfl 20 (by decide) wf_D_126 rfl rfl d_D_isHalted_1 ?_
  refine qv_aload_n C 0 d_D_isHalted_4 rfl rfl ?_
  refine qv_get C in_D 0 rfl rfl 11 (by decide) wf_D_109 rfl rfl d_D_isHalted_5 ?_
  refine qv_icmp_eq C d_D_isHalted_8 (tgt := 24) (by decide) (by omega) (by omega) (fun ht8 => ?_) (fun hf8 => ?_)
  · refine qv_iconst C d_D_isHalted_24 ?_
    refine qv_goto C d_D_isHalted_25 (by decide) (tgt := 29) ?_
    refine qv_zret C (by omega) hrt hlk d_D_isHalted_29 ?_
    exact ⟨rfl, 1, rfl, by omega⟩
  · refine qv_aload_n C 0 d_D_isHalted_11 rfl rfl ?_
    refine qv_get C in_D 0 rfl rfl 12 (by decide) wf_D_28 rfl rfl d_D_isHalted_12 ?_
    refine qv_aload_n C 0 d_D_isHalted_15 rfl rfl ?_
    refine qv_get C in_D 0 rfl rfl 20 (by decide) wf_D_126 rfl rfl d_D_isHalted_16 ?_
    refine qv_iald C 1 rfl (by omega) d_D_isHalted_19 ?_
    have hq0 := hk pl
    refine qv_iconst C d_D_isHalted_20 ?_
    refine qv_icmp_ne C d_D_isHalted_21 (tgt := 28) (by decide) (by omega) (by omega) (fun ht21 => ?_) (fun hf21 => ?_)
    · refine qv_iconst C d_D_isHalted_28 ?_
      refine qv_zret C (by omega) hrt hlk d_D_isHalted_29 ?_
      exact ⟨rfl, 0, rfl, by omega⟩
    · refine qv_iconst C d_D_isHalted_24 ?_
      refine qv_goto C d_D_isHalted_25 (by decide) (tgt := 29) ?_
      refine qv_zret C (by omega) hrt hlk d_D_isHalted_29 ?_
      exact ⟨rfl, 1, rfl, by omega⟩
set_option maxHeartbeats 4000000 in
set_option maxRecDepth 100000 in
theorem c_D_isStuck (l : Launch) (G : qG) {u utx uro urc urn urp ula uop urg utg ude ule udn uv ub ubf ubh ukp uwa : Nat} {cd sz cu fa rdn n pl st on cn hd ps ss tk : Int} {k r v : Int → Int} (hn : 0 ≤ n ∧ n ≤ 24) (hp : 0 ≤ pl ∧ pl ≤ n) (hk : ∀ i, 0 ≤ k i ∧ k i ≤ 3) (hr7 : ∀ i, 0 ≤ i → i < n → k i = 0 ∨ k i = 1 → 0 ≤ r i ∧ r i ≤ 7) (hs : 0 ≤ st ∧ st ≤ 1000000000000000) (hv : ∀ c, 0 ≤ v c ∧ v c ≤ 1000000) : qM l G y_D_isStuck b_D_isStuck 1 (some .boolean) ({ frames := 1, cells := 0, slots := 0, locals := 20 }) [.ref u] [(u, .inr (5, [.int (qI cd), .int (qI sz), .ref utx, .int (qI cu), .int (qI fa), .int (qI rdn), .ref uro, .ref urc, .ref urn, .ref urp, .ref ula, .int (qI n), .ref uop, .ref urg, .ref utg, .ref ude, .ref ule, .ref udn, .ref uv, .ref ub, .int (qI pl), .long (qL st), .int (qI on), .long (qL cn), .int (qI hd), .long (qL ps), .long (qL ss), .ref ubf, .ref ubh, .long (qL tk), .ref ukp, .ref uwa])), (uop, .inl (G.2.1, 24, .inl (qA k))), (urg, .inl (G.2.1, 24, .inl (qA r))), (uv, .inl (G.2.1, 8, .inl (qA v)))] (fun v' ws' => ws' = [(u, .inr (5, [.int (qI cd), .int (qI sz), .ref utx, .int (qI cu), .int (qI fa), .int (qI rdn), .ref uro, .ref urc, .ref urn, .ref urp, .ref ula, .int (qI n), .ref uop, .ref urg, .ref utg, .ref ude, .ref ule, .ref udn, .ref uv, .ref ub, .int (qI pl), .long (qL st), .int (qI on), .long (qL cn), .int (qI hd), .long (qL ps), .long (qL ss), .ref ubf, .ref ubh, .long (qL tk), .ref ukp, .ref uwa])), (uop, .inl (G.2.1, 24, .inl (qA k))), (urg, .inl (G.2.1, 24, .inl (qA r))), (uv, .inl (G.2.1, 8, .inl (qA v)))] ∧ ∃ x : Int, v' = some (.int (qI x)) ∧ ((x = 1 ∧ (pl < n ∧ ¬ k pl = 3) ∧ ((k pl = 0 ∧ 1000000 ≤ v (r pl)) ∨ 1000000000000000 ≤ st)) ∨ (x = 0 ∧ ((n ≤ pl ∨ k pl = 3) ∨ ((pl < n ∧ ¬ k pl = 3) ∧ ¬ ((k pl = 0 ∧ 1000000 ≤ v (r pl)) ∨ 1000000000000000 ≤ st)))))) := by
  refine qM.of (by decide) (Nat.le_of_ble_eq_true rfl) (fun xp xe xs xm xb xme xc A C hrt hlk hnm => ?_)
  refine qv_eq (lv' := [(0, .ref u)]) rfl rfl rfl ?_
  refine qv_aload_n C 0 d_D_isStuck_0 rfl rfl ?_
  refine qv_cV (As := []) (rest := []) (wc := [(u, .inr (5, [.int (qI cd), .int (qI sz), .ref utx, .int (qI cu), .int (qI fa), .int (qI rdn), .ref uro, .ref urc, .ref urn, .ref urp, .ref ula, .int (qI n), .ref uop, .ref urg, .ref utg, .ref ude, .ref ule, .ref udn, .ref uv, .ref ub, .int (qI pl), .long (qL st), .int (qI on), .long (qL cn), .int (qI hd), .long (qL ps), .long (qL ss), .ref ubf, .ref ubh, .long (qL tk), .ref ukp, .ref uwa])), (uop, .inl (G.2.1, 24, .inl (qA k)))]) (wr := [(urg, .inl (G.2.1, 24, .inl (qA r))), (uv, .inl (G.2.1, 8, .inl (qA v)))]) C k_D_isHalted (c_D_isHalted l G hn hp hk) wm_D_136 wi_D_isHalted ws_D_isHalted 0 rfl rfl (by decide) d_D_isStuck_1 rfl rfl (Nat.le_of_ble_eq_true rfl) (by decide) [0, 1] [2, 3] rfl (by decide) rfl (by decide) (by decide) (fun v ws' hpost => ?_)
  obtain ⟨rfl, xh, rfl, hxh⟩ := hpost
  refine qv_eq (ws' := [(urg, .inl (G.2.1, 24, .inl (qA r))), (uv, .inl (G.2.1, 8, .inl (qA v))), (u, .inr (5, [.int (qI cd), .int (qI sz), .ref utx, .int (qI cu), .int (qI fa), .int (qI rdn), .ref uro, .ref urc, .ref urn, .ref urp, .ref ula, .int (qI n), .ref uop, .ref urg, .ref utg, .ref ude, .ref ule, .ref udn, .ref uv, .ref ub, .int (qI pl), .long (qL st), .int (qI on), .long (qL cn), .int (qI hd), .long (qL ps), .long (qL ss), .ref ubf, .ref ubh, .long (qL tk), .ref ukp, .ref uwa])), (uop, .inl (G.2.1, 24, .inl (qA k)))]) (st' := [.int (qI xh)]) rfl rfl rfl ?_
  refine qv_if_ne C d_D_isStuck_4 (tgt := 53) (by decide) (by omega) (fun ht4 => ?_) (fun hf4 => ?_)
  · refine qv_iconst C d_D_isStuck_53 ?_
    refine qv_ws (ws' := [(u, .inr (5, [.int (qI cd), .int (qI sz), .ref utx, .int (qI cu), .int (qI fa), .int (qI rdn), .ref uro, .ref urc, .ref urn, .ref urp, .ref ula, .int (qI n), .ref uop, .ref urg, .ref utg, .ref ude, .ref ule, .ref udn, .ref uv, .ref ub, .int (qI pl), .long (qL st), .int (qI on), .long (qL cn), .int (qI hd), .long (qL ps), .long (qL ss), .ref ubf, .ref ubh, .long (qL tk), .ref ukp, .ref uwa])), (uop, .inl (G.2.1, 24, .inl (qA k))), (urg, .inl (G.2.1, 24, .inl (qA r))), (uv, .inl (G.2.1, 8, .inl (qA v)))]) [2, 3, 0, 1] (by decide) rfl ?_
    refine qv_zret C (by omega) hrt hlk d_D_isStuck_54 ?_
    exact ⟨rfl, 0, rfl, by omega⟩
  · refine qv_aload_n C 0 d_D_isStuck_7 rfl rfl ?_
    refine qv_get C in_D 2 rfl rfl 21 (by decide) wf_D_129 rfl rfl d_D_isStuck_8 ?_
    refine qv_ldc2 C (n := 1000000000000000) wk_D_140 (by decide) d_D_isStuck_11 ?_
    refine qv_lcmp_eq C d_D_isStuck_14 d_D_isStuck_15 (tgt := 49) (by decide) (by omega) (by omega) (fun ht14 => ?_) (fun hf14 => ?_)
    · refine qv_iconst C d_D_isStuck_49 ?_
      refine qv_goto C d_D_isStuck_50 (by decide) (tgt := 54) ?_
      refine qv_ws (ws' := [(u, .inr (5, [.int (qI cd), .int (qI sz), .ref utx, .int (qI cu), .int (qI fa), .int (qI rdn), .ref uro, .ref urc, .ref urn, .ref urp, .ref ula, .int (qI n), .ref uop, .ref urg, .ref utg, .ref ude, .ref ule, .ref udn, .ref uv, .ref ub, .int (qI pl), .long (qL st), .int (qI on), .long (qL cn), .int (qI hd), .long (qL ps), .long (qL ss), .ref ubf, .ref ubh, .long (qL tk), .ref ukp, .ref uwa])), (uop, .inl (G.2.1, 24, .inl (qA k))), (urg, .inl (G.2.1, 24, .inl (qA r))), (uv, .inl (G.2.1, 8, .inl (qA v)))]) [2, 3, 0, 1] (by decide) rfl ?_
      refine qv_zret C (by omega) hrt hlk d_D_isStuck_54 ?_
      exact ⟨rfl, 1, rfl, by omega⟩
    · refine qv_aload_n C 0 d_D_isStuck_18 rfl rfl ?_
      refine qv_get C in_D 2 rfl rfl 12 (by decide) wf_D_28 rfl rfl d_D_isStuck_19 ?_
      refine qv_aload_n C 0 d_D_isStuck_22 rfl rfl ?_
      refine qv_get C in_D 2 rfl rfl 20 (by decide) wf_D_126 rfl rfl d_D_isStuck_23 ?_
      refine qv_iald C 3 rfl (by omega) d_D_isStuck_26 ?_
      have hq0 := hk pl
      refine qv_if_ne C d_D_isStuck_27 (tgt := 53) (by decide) (by omega) (fun ht27 => ?_) (fun hf27 => ?_)
      · refine qv_iconst C d_D_isStuck_53 ?_
        refine qv_ws (ws' := [(u, .inr (5, [.int (qI cd), .int (qI sz), .ref utx, .int (qI cu), .int (qI fa), .int (qI rdn), .ref uro, .ref urc, .ref urn, .ref urp, .ref ula, .int (qI n), .ref uop, .ref urg, .ref utg, .ref ude, .ref ule, .ref udn, .ref uv, .ref ub, .int (qI pl), .long (qL st), .int (qI on), .long (qL cn), .int (qI hd), .long (qL ps), .long (qL ss), .ref ubf, .ref ubh, .long (qL tk), .ref ukp, .ref uwa])), (uop, .inl (G.2.1, 24, .inl (qA k))), (urg, .inl (G.2.1, 24, .inl (qA r))), (uv, .inl (G.2.1, 8, .inl (qA v)))]) [2, 3, 0, 1] (by decide) rfl ?_
        refine qv_zret C (by omega) hrt hlk d_D_isStuck_54 ?_
        exact ⟨rfl, 0, rfl, by omega⟩
      · refine qv_aload_n C 0 d_D_isStuck_30 rfl rfl ?_
        refine qv_get C in_D 2 rfl rfl 18 (by decide) wf_D_46 rfl rfl d_D_isStuck_31 ?_
        refine qv_aload_n C 0 d_D_isStuck_34 rfl rfl ?_
        refine qv_get C in_D 2 rfl rfl 13 (by decide) wf_D_31 rfl rfl d_D_isStuck_35 ?_
        refine qv_aload_n C 0 d_D_isStuck_38 rfl rfl ?_
        refine qv_get C in_D 2 rfl rfl 20 (by decide) wf_D_126 rfl rfl d_D_isStuck_39 ?_
        refine qv_iald C 0 rfl (by omega) d_D_isStuck_42 ?_
        have hq1 := hr7 pl (by omega) (by omega) (by omega)
        refine qv_iald C 1 rfl (by omega) d_D_isStuck_43 ?_
        have hq2 := hv (r pl)
        refine qv_ldc C (n := 1000000) wk_D_125 (by decide) d_D_isStuck_44 ?_
        refine qv_icmp_ne C d_D_isStuck_46 (tgt := 53) (by decide) (by omega) (by omega) (fun ht46 => ?_) (fun hf46 => ?_)
        · refine qv_iconst C d_D_isStuck_53 ?_
          refine qv_ws (ws' := [(u, .inr (5, [.int (qI cd), .int (qI sz), .ref utx, .int (qI cu), .int (qI fa), .int (qI rdn), .ref uro, .ref urc, .ref urn, .ref urp, .ref ula, .int (qI n), .ref uop, .ref urg, .ref utg, .ref ude, .ref ule, .ref udn, .ref uv, .ref ub, .int (qI pl), .long (qL st), .int (qI on), .long (qL cn), .int (qI hd), .long (qL ps), .long (qL ss), .ref ubf, .ref ubh, .long (qL tk), .ref ukp, .ref uwa])), (uop, .inl (G.2.1, 24, .inl (qA k))), (urg, .inl (G.2.1, 24, .inl (qA r))), (uv, .inl (G.2.1, 8, .inl (qA v)))]) [2, 3, 0, 1] (by decide) rfl ?_
          refine qv_zret C (by omega) hrt hlk d_D_isStuck_54 ?_
          exact ⟨rfl, 0, rfl, by omega⟩
        · refine qv_iconst C d_D_isStuck_49 ?_
          refine qv_goto C d_D_isStuck_50 (by decide) (tgt := 54) ?_
          refine qv_ws (ws' := [(u, .inr (5, [.int (qI cd), .int (qI sz), .ref utx, .int (qI cu), .int (qI fa), .int (qI rdn), .ref uro, .ref urc, .ref urn, .ref urp, .ref ula, .int (qI n), .ref uop, .ref urg, .ref utg, .ref ude, .ref ule, .ref udn, .ref uv, .ref ub, .int (qI pl), .long (qL st), .int (qI on), .long (qL cn), .int (qI hd), .long (qL ps), .long (qL ss), .ref ubf, .ref ubh, .long (qL tk), .ref ukp, .ref uwa])), (uop, .inl (G.2.1, 24, .inl (qA k))), (urg, .inl (G.2.1, 24, .inl (qA r))), (uv, .inl (G.2.1, 8, .inl (qA v)))]) [2, 3, 0, 1] (by decide) rfl ?_
          refine qv_zret C (by omega) hrt hlk d_D_isStuck_54 ?_
          exact ⟨rfl, 1, rfl, by omega⟩

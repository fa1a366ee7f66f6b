def qok (w : Cond) : Bool := match w with
  | .fieldLinkNest .. => true
  | .methodLinkNest .. => true
  | w => w.onTables && w.keeps
theorem qok_on {w : Cond} (h : qok w = true) : w.onTables = true := by
  cases w <;> first | rfl | (simp only [qok, Bool.and_eq_true] at h; exact h.1)
def qTbl : List Cond := lw_tbl.filter qok
theorem qTbl_ok : ∀ w ∈ qTbl, qok w = true := fun w h => (List.mem_filter.mp h).2
theorem qTbl_in : ∀ w ∈ qTbl, w ∈ lw_tbl := fun w h => (List.mem_filter.mp h).1
theorem q_s1 {w : Cond} (h : w ∈ k2_sels lw_privs_1) (hq : qok w = true) : w ∈ qTbl := List.mem_filter.mpr ⟨by
  show w ∈ k2_sels (lw_privs_1 ++ (lw_privs_2 ++ (lw_privs_3 ++ lw_privs_4))) ++ tables_1
  unfold k2_sels
  rw [List.map_append]
  exact List.mem_append_left _ (List.mem_append_left _ h), hq⟩
theorem q_s2 {w : Cond} (h : w ∈ k2_sels lw_privs_2) (hq : qok w = true) : w ∈ qTbl := List.mem_filter.mpr ⟨by
  show w ∈ k2_sels (lw_privs_1 ++ (lw_privs_2 ++ (lw_privs_3 ++ lw_privs_4))) ++ tables_1
  unfold k2_sels
  rw [List.map_append, List.map_append]
  exact List.mem_append_left _ (List.mem_append_right _ (List.mem_append_left _ h)), hq⟩
theorem q_s3 {w : Cond} (h : w ∈ k2_sels lw_privs_3) (hq : qok w = true) : w ∈ qTbl := List.mem_filter.mpr ⟨by
  show w ∈ k2_sels (lw_privs_1 ++ (lw_privs_2 ++ (lw_privs_3 ++ lw_privs_4))) ++ tables_1
  unfold k2_sels
  rw [List.map_append, List.map_append, List.map_append]
  exact List.mem_append_left _ (List.mem_append_right _ (List.mem_append_right _ (List.mem_append_left _ h))), hq⟩
theorem q_s4 {w : Cond} (h : w ∈ k2_sels lw_privs_4) (hq : qok w = true) : w ∈ qTbl := List.mem_filter.mpr ⟨by
  show w ∈ k2_sels (lw_privs_1 ++ (lw_privs_2 ++ (lw_privs_3 ++ lw_privs_4))) ++ tables_1
  unfold k2_sels
  rw [List.map_append, List.map_append, List.map_append]
  exact List.mem_append_left _ (List.mem_append_right _ (List.mem_append_right _ (List.mem_append_right _ h))), hq⟩
theorem q_t1 {w : Cond} (h : w ∈ tables_1_1) (hq : qok w = true) : w ∈ qTbl := List.mem_filter.mpr ⟨List.mem_append_right (k2_sels lw_privs) (show w ∈ tables_1_1 ++ (tables_1_2 ++ (tables_1_3 ++ tables_1_4)) from List.mem_append_left _ h), hq⟩
theorem q_t2 {w : Cond} (h : w ∈ tables_1_2) (hq : qok w = true) : w ∈ qTbl := List.mem_filter.mpr ⟨List.mem_append_right (k2_sels lw_privs) (show w ∈ tables_1_1 ++ (tables_1_2 ++ (tables_1_3 ++ tables_1_4)) from List.mem_append_right _ (List.mem_append_left _ h)), hq⟩
theorem q_t3 {w : Cond} (h : w ∈ tables_1_3) (hq : qok w = true) : w ∈ qTbl := List.mem_filter.mpr ⟨List.mem_append_right (k2_sels lw_privs) (show w ∈ tables_1_1 ++ (tables_1_2 ++ (tables_1_3 ++ tables_1_4)) from List.mem_append_right _ (List.mem_append_right _ (List.mem_append_left _ h))), hq⟩
theorem q_t4 {w : Cond} (h : w ∈ tables_1_4) (hq : qok w = true) : w ∈ qTbl := List.mem_filter.mpr ⟨List.mem_append_right (k2_sels lw_privs) (show w ∈ tables_1_1 ++ (tables_1_2 ++ (tables_1_3 ++ tables_1_4)) from List.mem_append_right _ (List.mem_append_right _ (List.mem_append_right _ h))), hq⟩
theorem wn_M : Cond.initialized "CounterLeaper$Machine" ∈ qTbl := q_t1 (List.mem_of_getElem? (i := 4) rfl) rfl
theorem wn_S : Cond.initialized "CounterLeaper$Pass" ∈ qTbl := q_t1 (List.mem_of_getElem? (i := 5) rfl) rfl
theorem wn_P : Cond.initialized "CounterLeaper$Program" ∈ qTbl := q_t1 (List.mem_of_getElem? (i := 3) rfl) rfl
theorem wn_R : Cond.initialized "CounterLeaper$Reader" ∈ qTbl := q_t1 (List.mem_of_getElem? (i := 2) rfl) rfl
theorem wn_C : Cond.initialized "CounterLeaper" ∈ qTbl := q_t1 (List.mem_of_getElem? (i := 1) rfl) rfl
theorem wn_D : Cond.initialized "CounterLeaperModel" ∈ qTbl := q_t1 (List.mem_of_getElem? (i := 6) rfl) rfl
theorem wn_L : Cond.initialized "CounterLeaperLaw" ∈ qTbl := q_t1 (List.mem_of_getElem? (i := 0) rfl) rfl
theorem wn_Math : Cond.initialized "java/lang/Math" ∈ qTbl := q_t1 (List.mem_of_getElem? (i := 12) rfl) rfl
theorem wn_System : Cond.initialized "java/lang/System" ∈ qTbl := q_t1 (List.mem_of_getElem? (i := 13) rfl) rfl
theorem wc_M_init : Cond.code y_M_init b_M_init 1 none ∈ qTbl := q_t1 (List.mem_of_getElem? (i := 120) rfl) rfl
theorem wi_M_init : Cond.instanceMethod y_M_init ∈ qTbl := q_t1 (List.mem_of_getElem? (i := 119) rfl) rfl
theorem wc_M_copyFrom : Cond.code y_M_copyFrom b_M_copyFrom 2 none ∈ qTbl := q_t2 (List.mem_of_getElem? (i := 68) rfl) rfl
theorem wi_M_copyFrom : Cond.instanceMethod y_M_copyFrom ∈ qTbl := q_t2 (List.mem_of_getElem? (i := 67) rfl) rfl
theorem ws_M_copyFrom : Cond.selects y_M_copyFrom.cls y_M_copyFrom y_M_copyFrom ∈ qTbl := q_s2 (List.mem_of_getElem? (i := 4) rfl) rfl
theorem wc_M_isHalted : Cond.code y_M_isHalted b_M_isHalted 2 (some .boolean) ∈ qTbl := q_t2 (List.mem_of_getElem? (i := 150) rfl) rfl
theorem wi_M_isHalted : Cond.instanceMethod y_M_isHalted ∈ qTbl := q_t2 (List.mem_of_getElem? (i := 149) rfl) rfl
theorem ws_M_isHalted : Cond.selects y_M_isHalted.cls y_M_isHalted y_M_isHalted ∈ qTbl := q_s2 (List.mem_of_getElem? (i := 15) rfl) rfl
theorem wc_M_isStuck : Cond.code y_M_isStuck b_M_isStuck 3 (some .boolean) ∈ qTbl := q_t2 (List.mem_of_getElem? (i := 154) rfl) rfl
theorem wi_M_isStuck : Cond.instanceMethod y_M_isStuck ∈ qTbl := q_t2 (List.mem_of_getElem? (i := 153) rfl) rfl
theorem ws_M_isStuck : Cond.selects y_M_isStuck.cls y_M_isStuck y_M_isStuck ∈ qTbl := q_s3 (List.mem_of_getElem? (i := 0) rfl) rfl
theorem wc_M_rests : Cond.code y_M_rests b_M_rests 2 (some .boolean) ∈ qTbl := q_t3 (List.mem_of_getElem? (i := 93) rfl) rfl
theorem wi_M_rests : Cond.instanceMethod y_M_rests ∈ qTbl := q_t3 (List.mem_of_getElem? (i := 92) rfl) rfl
theorem ws_M_rests : Cond.selects y_M_rests.cls y_M_rests y_M_rests ∈ qTbl := q_s3 (List.mem_of_getElem? (i := 6) rfl) rfl
theorem wc_M_step : Cond.code y_M_step b_M_step 4 none ∈ qTbl := q_t3 (List.mem_of_getElem? (i := 89) rfl) rfl
theorem wi_M_step : Cond.instanceMethod y_M_step ∈ qTbl := q_t3 (List.mem_of_getElem? (i := 88) rfl) rfl
theorem ws_M_step : Cond.selects y_M_step.cls y_M_step y_M_step ∈ qTbl := q_s3 (List.mem_of_getElem? (i := 5) rfl) rfl
theorem wc_M_leapBy : Cond.code y_M_leapBy b_M_leapBy 5 none ∈ qTbl := q_t3 (List.mem_of_getElem? (i := 85) rfl) rfl
theorem wi_M_leapBy : Cond.instanceMethod y_M_leapBy ∈ qTbl := q_t3 (List.mem_of_getElem? (i := 84) rfl) rfl
theorem ws_M_leapBy : Cond.selects y_M_leapBy.cls y_M_leapBy y_M_leapBy ∈ qTbl := q_s3 (List.mem_of_getElem? (i := 4) rfl) rfl
theorem wc_S_init : Cond.code y_S_init b_S_init 1 none ∈ qTbl := q_t1 (List.mem_of_getElem? (i := 139) rfl) rfl
theorem wi_S_init : Cond.instanceMethod y_S_init ∈ qTbl := q_t1 (List.mem_of_getElem? (i := 138) rfl) rfl
theorem wc_S_follow : Cond.code y_S_follow b_S_follow 8 none ∈ qTbl := q_t2 (List.mem_of_getElem? (i := 108) rfl) rfl
theorem wi_S_follow : Cond.instanceMethod y_S_follow ∈ qTbl := q_t2 (List.mem_of_getElem? (i := 107) rfl) rfl
theorem ws_S_follow : Cond.selects y_S_follow.cls y_S_follow y_S_follow ∈ qTbl := q_s2 (List.mem_of_getElem? (i := 7) rfl) rfl
theorem wc_S_clear : Cond.code y_S_clear b_S_clear 3 none ∈ qTbl := q_t2 (List.mem_of_getElem? (i := 112) rfl) rfl
theorem wi_S_clear : Cond.instanceMethod y_S_clear ∈ qTbl := q_t2 (List.mem_of_getElem? (i := 111) rfl) rfl
theorem ws_S_clear : Cond.selects y_S_clear.cls y_S_clear y_S_clear ∈ qTbl := q_s2 (List.mem_of_getElem? (i := 8) rfl) rfl
theorem wc_S_count : Cond.code y_S_count b_S_count 4 none ∈ qTbl := q_t2 (List.mem_of_getElem? (i := 117) rfl) rfl
theorem wi_S_count : Cond.instanceMethod y_S_count ∈ qTbl := q_t2 (List.mem_of_getElem? (i := 116) rfl) rfl
theorem ws_S_count : Cond.selects y_S_count.cls y_S_count y_S_count ∈ qTbl := q_s2 (List.mem_of_getElem? (i := 9) rfl) rfl
theorem wc_S_drain : Cond.code y_S_drain b_S_drain 7 none ∈ qTbl := q_t2 (List.mem_of_getElem? (i := 126) rfl) rfl
theorem wi_S_drain : Cond.instanceMethod y_S_drain ∈ qTbl := q_t2 (List.mem_of_getElem? (i := 125) rfl) rfl
theorem ws_S_drain : Cond.selects y_S_drain.cls y_S_drain y_S_drain ∈ qTbl := q_s2 (List.mem_of_getElem? (i := 10) rfl) rfl
theorem wc_S_changesNothing : Cond.code y_S_changesNothing b_S_changesNothing 2 (some .boolean) ∈ qTbl := q_t2 (List.mem_of_getElem? (i := 161) rfl) rfl
theorem wi_S_changesNothing : Cond.instanceMethod y_S_changesNothing ∈ qTbl := q_t2 (List.mem_of_getElem? (i := 160) rfl) rfl
theorem ws_S_changesNothing : Cond.selects y_S_changesNothing.cls y_S_changesNothing y_S_changesNothing ∈ qTbl := q_s3 (List.mem_of_getElem? (i := 1) rfl) rfl
theorem wc_S_changesDrained : Cond.code y_S_changesDrained b_S_changesDrained 2 (some .boolean) ∈ qTbl := q_t2 (List.mem_of_getElem? (i := 134) rfl) rfl
theorem wi_S_changesDrained : Cond.instanceMethod y_S_changesDrained ∈ qTbl := q_t2 (List.mem_of_getElem? (i := 133) rfl) rfl
theorem ws_S_changesDrained : Cond.selects y_S_changesDrained.cls y_S_changesDrained y_S_changesDrained ∈ qTbl := q_s2 (List.mem_of_getElem? (i := 12) rfl) rfl
theorem wc_S_passesIn : Cond.code y_S_passesIn b_S_passesIn 6 (some .long) ∈ qTbl := q_t2 (List.mem_of_getElem? (i := 130) rfl) rfl
theorem wi_S_passesIn : Cond.instanceMethod y_S_passesIn ∈ qTbl := q_t2 (List.mem_of_getElem? (i := 129) rfl) rfl
theorem ws_S_passesIn : Cond.selects y_S_passesIn.cls y_S_passesIn y_S_passesIn ∈ qTbl := q_s2 (List.mem_of_getElem? (i := 11) rfl) rfl
theorem wc_S_passesOf : Cond.code y_S_passesOf b_S_passesOf 2 (some .long) ∈ qTbl := q_t2 (List.mem_of_getElem? (i := 138) rfl) rfl
theorem wi_S_passesOf : Cond.instanceMethod y_S_passesOf ∈ qTbl := q_t2 (List.mem_of_getElem? (i := 137) rfl) rfl
theorem ws_S_passesOf : Cond.selects y_S_passesOf.cls y_S_passesOf y_S_passesOf ∈ qTbl := q_s2 (List.mem_of_getElem? (i := 13) rfl) rfl
theorem wc_P_init : Cond.code y_P_init b_P_init 1 none ∈ qTbl := q_t1 (List.mem_of_getElem? (i := 64) rfl) rfl
theorem wi_P_init : Cond.instanceMethod y_P_init ∈ qTbl := q_t1 (List.mem_of_getElem? (i := 63) rfl) rfl
theorem wc_P_add : Cond.code y_P_add b_P_add 3 none ∈ qTbl := q_t2 (List.mem_of_getElem? (i := 13) rfl) rfl
theorem wi_P_add : Cond.instanceMethod y_P_add ∈ qTbl := q_t2 (List.mem_of_getElem? (i := 12) rfl) rfl
theorem ws_P_add : Cond.selects y_P_add.cls y_P_add y_P_add ∈ qTbl := q_s1 (List.mem_of_getElem? (i := 7) rfl) rfl
theorem wc_P_isFull : Cond.code y_P_isFull b_P_isFull 1 (some .boolean) ∈ qTbl := q_t1 (List.mem_of_getElem? (i := 238) rfl) rfl
theorem wi_P_isFull : Cond.instanceMethod y_P_isFull ∈ qTbl := q_t1 (List.mem_of_getElem? (i := 237) rfl) rfl
theorem ws_P_isFull : Cond.selects y_P_isFull.cls y_P_isFull y_P_isFull ∈ qTbl := q_s1 (List.mem_of_getElem? (i := 4) rfl) rfl
theorem wc_P_findDrains : Cond.code y_P_findDrains b_P_findDrains 2 none ∈ qTbl := q_t2 (List.mem_of_getElem? (i := 41) rfl) rfl
theorem wi_P_findDrains : Cond.instanceMethod y_P_findDrains ∈ qTbl := q_t2 (List.mem_of_getElem? (i := 40) rfl) rfl
theorem ws_P_findDrains : Cond.selects y_P_findDrains.cls y_P_findDrains y_P_findDrains ∈ qTbl := q_s1 (List.mem_of_getElem? (i := 14) rfl) rfl
theorem wc_P_drainEndFrom : Cond.code y_P_drainEndFrom b_P_drainEndFrom 4 (some .int) ∈ qTbl := q_t2 (List.mem_of_getElem? (i := 45) rfl) rfl
theorem wi_P_drainEndFrom : Cond.instanceMethod y_P_drainEndFrom ∈ qTbl := q_t2 (List.mem_of_getElem? (i := 44) rfl) rfl
theorem ws_P_drainEndFrom : Cond.selects y_P_drainEndFrom.cls y_P_drainEndFrom y_P_drainEndFrom ∈ qTbl := q_s1 (List.mem_of_getElem? (i := 15) rfl) rfl
theorem wc_P_findLoops : Cond.code y_P_findLoops b_P_findLoops 2 none ∈ qTbl := q_t2 (List.mem_of_getElem? (i := 49) rfl) rfl
theorem wi_P_findLoops : Cond.instanceMethod y_P_findLoops ∈ qTbl := q_t2 (List.mem_of_getElem? (i := 48) rfl) rfl
theorem ws_P_findLoops : Cond.selects y_P_findLoops.cls y_P_findLoops y_P_findLoops ∈ qTbl := q_s2 (List.mem_of_getElem? (i := 0) rfl) rfl
theorem wc_P_addLoopFrom : Cond.code y_P_addLoopFrom b_P_addLoopFrom 5 none ∈ qTbl := q_t2 (List.mem_of_getElem? (i := 53) rfl) rfl
theorem wi_P_addLoopFrom : Cond.instanceMethod y_P_addLoopFrom ∈ qTbl := q_t2 (List.mem_of_getElem? (i := 52) rfl) rfl
theorem ws_P_addLoopFrom : Cond.selects y_P_addLoopFrom.cls y_P_addLoopFrom y_P_addLoopFrom ∈ qTbl := q_s2 (List.mem_of_getElem? (i := 1) rfl) rfl
theorem wc_P_drainInLoop : Cond.code y_P_drainInLoop b_P_drainInLoop 3 (some .int) ∈ qTbl := q_t2 (List.mem_of_getElem? (i := 57) rfl) rfl
theorem wi_P_drainInLoop : Cond.instanceMethod y_P_drainInLoop ∈ qTbl := q_t2 (List.mem_of_getElem? (i := 56) rfl) rfl
theorem ws_P_drainInLoop : Cond.selects y_P_drainInLoop.cls y_P_drainInLoop y_P_drainInLoop ∈ qTbl := q_s2 (List.mem_of_getElem? (i := 2) rfl) rfl
theorem wc_P_loopFrom : Cond.code y_P_loopFrom b_P_loopFrom 2 (some .int) ∈ qTbl := q_t2 (List.mem_of_getElem? (i := 104) rfl) rfl
theorem wi_P_loopFrom : Cond.instanceMethod y_P_loopFrom ∈ qTbl := q_t2 (List.mem_of_getElem? (i := 103) rfl) rfl
theorem ws_P_loopFrom : Cond.selects y_P_loopFrom.cls y_P_loopFrom y_P_loopFrom ∈ qTbl := q_s2 (List.mem_of_getElem? (i := 6) rfl) rfl
theorem wc_R_init : Cond.code y_R_init b_R_init 1 none ∈ qTbl := q_t1 (List.mem_of_getElem? (i := 28) rfl) rfl
theorem wi_R_init : Cond.instanceMethod y_R_init ∈ qTbl := q_t1 (List.mem_of_getElem? (i := 27) rfl) rfl
theorem wc_R_faultOf : Cond.code y_R_faultOf b_R_faultOf 5 (some .int) ∈ qTbl := q_t1 (List.mem_of_getElem? (i := 222) rfl) rfl
theorem wi_R_faultOf : Cond.instanceMethod y_R_faultOf ∈ qTbl := q_t1 (List.mem_of_getElem? (i := 221) rfl) rfl
theorem ws_R_faultOf : Cond.selects y_R_faultOf.cls y_R_faultOf y_R_faultOf ∈ qTbl := q_s1 (List.mem_of_getElem? (i := 0) rfl) rfl
theorem wc_R_clear : Cond.code y_R_clear b_R_clear 3 none ∈ qTbl := q_t1 (List.mem_of_getElem? (i := 226) rfl) rfl
theorem wi_R_clear : Cond.instanceMethod y_R_clear ∈ qTbl := q_t1 (List.mem_of_getElem? (i := 225) rfl) rfl
theorem ws_R_clear : Cond.selects y_R_clear.cls y_R_clear y_R_clear ∈ qTbl := q_s1 (List.mem_of_getElem? (i := 1) rfl) rfl
theorem wc_R_accepts : Cond.code y_R_accepts b_R_accepts 3 (some .boolean) ∈ qTbl := q_t1 (List.mem_of_getElem? (i := 230) rfl) rfl
theorem wi_R_accepts : Cond.instanceMethod y_R_accepts ∈ qTbl := q_t1 (List.mem_of_getElem? (i := 229) rfl) rfl
theorem ws_R_accepts : Cond.selects y_R_accepts.cls y_R_accepts y_R_accepts ∈ qTbl := q_s1 (List.mem_of_getElem? (i := 2) rfl) rfl
theorem wc_R_acceptsFirst : Cond.code y_R_acceptsFirst b_R_acceptsFirst 2 (some .boolean) ∈ qTbl := q_t1 (List.mem_of_getElem? (i := 234) rfl) rfl
theorem wi_R_acceptsFirst : Cond.instanceMethod y_R_acceptsFirst ∈ qTbl := q_t1 (List.mem_of_getElem? (i := 233) rfl) rfl
theorem ws_R_acceptsFirst : Cond.selects y_R_acceptsFirst.cls y_R_acceptsFirst y_R_acceptsFirst ∈ qTbl := q_s1 (List.mem_of_getElem? (i := 3) rfl) rfl
theorem wc_R_expect : Cond.code y_R_expect b_R_expect 3 none ∈ qTbl := q_t2 (List.mem_of_getElem? (i := 5) rfl) rfl
theorem wi_R_expect : Cond.instanceMethod y_R_expect ∈ qTbl := q_t2 (List.mem_of_getElem? (i := 4) rfl) rfl
theorem ws_R_expect : Cond.selects y_R_expect.cls y_R_expect y_R_expect ∈ qTbl := q_s1 (List.mem_of_getElem? (i := 5) rfl) rfl
theorem wc_R_acceptsColon : Cond.code y_R_acceptsColon b_R_acceptsColon 2 (some .boolean) ∈ qTbl := q_t2 (List.mem_of_getElem? (i := 17) rfl) rfl
theorem wi_R_acceptsColon : Cond.instanceMethod y_R_acceptsColon ∈ qTbl := q_t2 (List.mem_of_getElem? (i := 16) rfl) rfl
theorem ws_R_acceptsColon : Cond.selects y_R_acceptsColon.cls y_R_acceptsColon y_R_acceptsColon ∈ qTbl := q_s1 (List.mem_of_getElem? (i := 8) rfl) rfl
theorem wc_R_acceptsCounter : Cond.code y_R_acceptsCounter b_R_acceptsCounter 2 (some .boolean) ∈ qTbl := q_t2 (List.mem_of_getElem? (i := 21) rfl) rfl
theorem wi_R_acceptsCounter : Cond.instanceMethod y_R_acceptsCounter ∈ qTbl := q_t2 (List.mem_of_getElem? (i := 20) rfl) rfl
theorem ws_R_acceptsCounter : Cond.selects y_R_acceptsCounter.cls y_R_acceptsCounter y_R_acceptsCounter ∈ qTbl := q_s1 (List.mem_of_getElem? (i := 9) rfl) rfl
theorem wc_R_acceptsNamed : Cond.code y_R_acceptsNamed b_R_acceptsNamed 3 (some .boolean) ∈ qTbl := q_t2 (List.mem_of_getElem? (i := 25) rfl) rfl
theorem wi_R_acceptsNamed : Cond.instanceMethod y_R_acceptsNamed ∈ qTbl := q_t2 (List.mem_of_getElem? (i := 24) rfl) rfl
theorem ws_R_acceptsNamed : Cond.selects y_R_acceptsNamed.cls y_R_acceptsNamed y_R_acceptsNamed ∈ qTbl := q_s1 (List.mem_of_getElem? (i := 10) rfl) rfl
theorem wc_R_acceptsSemicolon : Cond.code y_R_acceptsSemicolon b_R_acceptsSemicolon 2 (some .boolean) ∈ qTbl := q_t2 (List.mem_of_getElem? (i := 29) rfl) rfl
theorem wi_R_acceptsSemicolon : Cond.instanceMethod y_R_acceptsSemicolon ∈ qTbl := q_t2 (List.mem_of_getElem? (i := 28) rfl) rfl
theorem ws_R_acceptsSemicolon : Cond.selects y_R_acceptsSemicolon.cls y_R_acceptsSemicolon y_R_acceptsSemicolon ∈ qTbl := q_s1 (List.mem_of_getElem? (i := 11) rfl) rfl
theorem wc_R_finish : Cond.code y_R_finish b_R_finish 1 none ∈ qTbl := q_t2 (List.mem_of_getElem? (i := 9) rfl) rfl
theorem wi_R_finish : Cond.instanceMethod y_R_finish ∈ qTbl := q_t2 (List.mem_of_getElem? (i := 8) rfl) rfl
theorem ws_R_finish : Cond.selects y_R_finish.cls y_R_finish y_R_finish ∈ qTbl := q_s1 (List.mem_of_getElem? (i := 6) rfl) rfl
theorem wc_R_mayEnd : Cond.code y_R_mayEnd b_R_mayEnd 3 (some .boolean) ∈ qTbl := q_t2 (List.mem_of_getElem? (i := 33) rfl) rfl
theorem wi_R_mayEnd : Cond.instanceMethod y_R_mayEnd ∈ qTbl := q_t2 (List.mem_of_getElem? (i := 32) rfl) rfl
theorem ws_R_mayEnd : Cond.selects y_R_mayEnd.cls y_R_mayEnd y_R_mayEnd ∈ qTbl := q_s1 (List.mem_of_getElem? (i := 12) rfl) rfl
theorem wc_R_faultOfLabels : Cond.code y_R_faultOfLabels b_R_faultOfLabels 2 (some .int) ∈ qTbl := q_t2 (List.mem_of_getElem? (i := 37) rfl) rfl
theorem wi_R_faultOfLabels : Cond.instanceMethod y_R_faultOfLabels ∈ qTbl := q_t2 (List.mem_of_getElem? (i := 36) rfl) rfl
theorem ws_R_faultOfLabels : Cond.selects y_R_faultOfLabels.cls y_R_faultOfLabels y_R_faultOfLabels ∈ qTbl := q_s1 (List.mem_of_getElem? (i := 13) rfl) rfl
theorem wc_R_isLabel : Cond.code y_R_isLabel b_R_isLabel 1 (some .boolean) ∈ qTbl := q_t2 (List.mem_of_getElem? (i := 1) rfl) rfl
theorem wt_R_isLabel : Cond.static y_R_isLabel ∈ qTbl := q_t2 (List.mem_of_getElem? (i := 0) rfl) rfl
theorem wc_C_init : Cond.code y_C_init b_C_init 1 none ∈ qTbl := q_t1 (List.mem_of_getElem? (i := 20) rfl) rfl
theorem wi_C_init : Cond.instanceMethod y_C_init ∈ qTbl := q_t1 (List.mem_of_getElem? (i := 19) rfl) rfl
theorem wc_C_type : Cond.code y_C_type b_C_type 6 (some .int) ∈ qTbl := q_t2 (List.mem_of_getElem? (i := 187) rfl) rfl
theorem wi_C_type : Cond.instanceMethod y_C_type ∈ qTbl := q_t2 (List.mem_of_getElem? (i := 185) rfl) rfl
theorem ws_C_type : Cond.selects y_C_type.cls y_C_type y_C_type ∈ qTbl := q_t2 (List.mem_of_getElem? (i := 186) rfl) rfl
theorem wc_C_wipe : Cond.code y_C_wipe b_C_wipe 2 (some .int) ∈ qTbl := q_t1 (List.mem_of_getElem? (i := 214) rfl) rfl
theorem wi_C_wipe : Cond.instanceMethod y_C_wipe ∈ qTbl := q_t1 (List.mem_of_getElem? (i := 212) rfl) rfl
theorem ws_C_wipe : Cond.selects y_C_wipe.cls y_C_wipe y_C_wipe ∈ qTbl := q_t1 (List.mem_of_getElem? (i := 213) rfl) rfl
theorem wc_C_compile : Cond.code y_C_compile b_C_compile 3 (some .int) ∈ qTbl := q_t1 (List.mem_of_getElem? (i := 218) rfl) rfl
theorem wi_C_compile : Cond.instanceMethod y_C_compile ∈ qTbl := q_t1 (List.mem_of_getElem? (i := 216) rfl) rfl
theorem ws_C_compile : Cond.selects y_C_compile.cls y_C_compile y_C_compile ∈ qTbl := q_t1 (List.mem_of_getElem? (i := 217) rfl) rfl
theorem wc_C_size : Cond.code y_C_size b_C_size 1 (some .int) ∈ qTbl := q_t2 (List.mem_of_getElem? (i := 75) rfl) rfl
theorem wi_C_size : Cond.instanceMethod y_C_size ∈ qTbl := q_t2 (List.mem_of_getElem? (i := 73) rfl) rfl
theorem ws_C_size : Cond.selects y_C_size.cls y_C_size y_C_size ∈ qTbl := q_t2 (List.mem_of_getElem? (i := 74) rfl) rfl
theorem wc_C_instruction : Cond.code y_C_instruction b_C_instruction 3 (some .int) ∈ qTbl := q_t2 (List.mem_of_getElem? (i := 79) rfl) rfl
theorem wi_C_instruction : Cond.instanceMethod y_C_instruction ∈ qTbl := q_t2 (List.mem_of_getElem? (i := 77) rfl) rfl
theorem ws_C_instruction : Cond.selects y_C_instruction.cls y_C_instruction y_C_instruction ∈ qTbl := q_t2 (List.mem_of_getElem? (i := 78) rfl) rfl
theorem wc_C_loops : Cond.code y_C_loops b_C_loops 1 (some .int) ∈ qTbl := q_t2 (List.mem_of_getElem? (i := 83) rfl) rfl
theorem wi_C_loops : Cond.instanceMethod y_C_loops ∈ qTbl := q_t2 (List.mem_of_getElem? (i := 81) rfl) rfl
theorem ws_C_loops : Cond.selects y_C_loops.cls y_C_loops y_C_loops ∈ qTbl := q_t2 (List.mem_of_getElem? (i := 82) rfl) rfl
theorem wc_C_loop : Cond.code y_C_loop b_C_loop 3 (some .int) ∈ qTbl := q_t2 (List.mem_of_getElem? (i := 87) rfl) rfl
theorem wi_C_loop : Cond.instanceMethod y_C_loop ∈ qTbl := q_t2 (List.mem_of_getElem? (i := 85) rfl) rfl
theorem ws_C_loop : Cond.selects y_C_loop.cls y_C_loop y_C_loop ∈ qTbl := q_t2 (List.mem_of_getElem? (i := 86) rfl) rfl
theorem wc_C_set : Cond.code y_C_set b_C_set 3 none ∈ qTbl := q_t3 (List.mem_of_getElem? (i := 43) rfl) rfl
theorem wi_C_set : Cond.instanceMethod y_C_set ∈ qTbl := q_t3 (List.mem_of_getElem? (i := 41) rfl) rfl
theorem ws_C_set : Cond.selects y_C_set.cls y_C_set y_C_set ∈ qTbl := q_t3 (List.mem_of_getElem? (i := 42) rfl) rfl
theorem wc_C_start : Cond.code y_C_start b_C_start 1 none ∈ qTbl := q_t3 (List.mem_of_getElem? (i := 53) rfl) rfl
theorem wi_C_start : Cond.instanceMethod y_C_start ∈ qTbl := q_t3 (List.mem_of_getElem? (i := 51) rfl) rfl
theorem ws_C_start : Cond.selects y_C_start.cls y_C_start y_C_start ∈ qTbl := q_t3 (List.mem_of_getElem? (i := 52) rfl) rfl
theorem wc_C_leaps : Cond.code y_C_leaps b_C_leaps 2 none ∈ qTbl := q_t2 (List.mem_of_getElem? (i := 91) rfl) rfl
theorem wi_C_leaps : Cond.instanceMethod y_C_leaps ∈ qTbl := q_t2 (List.mem_of_getElem? (i := 89) rfl) rfl
theorem ws_C_leaps : Cond.selects y_C_leaps.cls y_C_leaps y_C_leaps ∈ qTbl := q_t2 (List.mem_of_getElem? (i := 90) rfl) rfl
theorem wc_C_run : Cond.code y_C_run b_C_run 5 (some .int) ∈ qTbl := q_t3 (List.mem_of_getElem? (i := 76) rfl) rfl
theorem wi_C_run : Cond.instanceMethod y_C_run ∈ qTbl := q_t3 (List.mem_of_getElem? (i := 74) rfl) rfl
theorem ws_C_run : Cond.selects y_C_run.cls y_C_run y_C_run ∈ qTbl := q_t3 (List.mem_of_getElem? (i := 75) rfl) rfl
theorem wc_C_plain : Cond.code y_C_plain b_C_plain 3 (some .int) ∈ qTbl := q_t3 (List.mem_of_getElem? (i := 101) rfl) rfl
theorem wi_C_plain : Cond.instanceMethod y_C_plain ∈ qTbl := q_t3 (List.mem_of_getElem? (i := 99) rfl) rfl
theorem ws_C_plain : Cond.selects y_C_plain.cls y_C_plain y_C_plain ∈ qTbl := q_t3 (List.mem_of_getElem? (i := 100) rfl) rfl
theorem wc_C_seek : Cond.code y_C_seek b_C_seek 4 (some .int) ∈ qTbl := q_t3 (List.mem_of_getElem? (i := 110) rfl) rfl
theorem wi_C_seek : Cond.instanceMethod y_C_seek ∈ qTbl := q_t3 (List.mem_of_getElem? (i := 108) rfl) rfl
theorem ws_C_seek : Cond.selects y_C_seek.cls y_C_seek y_C_seek ∈ qTbl := q_t3 (List.mem_of_getElem? (i := 109) rfl) rfl
theorem wc_C_state : Cond.code y_C_state b_C_state 1 (some .int) ∈ qTbl := q_t2 (List.mem_of_getElem? (i := 95) rfl) rfl
theorem wi_C_state : Cond.instanceMethod y_C_state ∈ qTbl := q_t2 (List.mem_of_getElem? (i := 93) rfl) rfl
theorem ws_C_state : Cond.selects y_C_state.cls y_C_state y_C_state ∈ qTbl := q_t2 (List.mem_of_getElem? (i := 94) rfl) rfl
theorem wc_C_at : Cond.code y_C_at b_C_at 1 (some .int) ∈ qTbl := q_t2 (List.mem_of_getElem? (i := 165) rfl) rfl
theorem wi_C_at : Cond.instanceMethod y_C_at ∈ qTbl := q_t2 (List.mem_of_getElem? (i := 163) rfl) rfl
theorem ws_C_at : Cond.selects y_C_at.cls y_C_at y_C_at ∈ qTbl := q_t2 (List.mem_of_getElem? (i := 164) rfl) rfl
theorem wc_C_steps : Cond.code y_C_steps b_C_steps 1 (some .long) ∈ qTbl := q_t2 (List.mem_of_getElem? (i := 169) rfl) rfl
theorem wi_C_steps : Cond.instanceMethod y_C_steps ∈ qTbl := q_t2 (List.mem_of_getElem? (i := 167) rfl) rfl
theorem ws_C_steps : Cond.selects y_C_steps.cls y_C_steps y_C_steps ∈ qTbl := q_t2 (List.mem_of_getElem? (i := 168) rfl) rfl
theorem wc_C_counter : Cond.code y_C_counter b_C_counter 2 (some .int) ∈ qTbl := q_t2 (List.mem_of_getElem? (i := 173) rfl) rfl
theorem wi_C_counter : Cond.instanceMethod y_C_counter ∈ qTbl := q_t2 (List.mem_of_getElem? (i := 171) rfl) rfl
theorem ws_C_counter : Cond.selects y_C_counter.cls y_C_counter y_C_counter ∈ qTbl := q_t2 (List.mem_of_getElem? (i := 172) rfl) rfl
theorem wc_C_change : Cond.code y_C_change b_C_change 3 (some .int) ∈ qTbl := q_t3 (List.mem_of_getElem? (i := 128) rfl) rfl
theorem wi_C_change : Cond.instanceMethod y_C_change ∈ qTbl := q_t3 (List.mem_of_getElem? (i := 126) rfl) rfl
theorem ws_C_change : Cond.selects y_C_change.cls y_C_change y_C_change ∈ qTbl := q_t3 (List.mem_of_getElem? (i := 127) rfl) rfl
theorem wc_C_leap : Cond.code y_C_leap b_C_leap 2 (some .long) ∈ qTbl := q_t2 (List.mem_of_getElem? (i := 177) rfl) rfl
theorem wi_C_leap : Cond.instanceMethod y_C_leap ∈ qTbl := q_t2 (List.mem_of_getElem? (i := 175) rfl) rfl
theorem ws_C_leap : Cond.selects y_C_leap.cls y_C_leap y_C_leap ∈ qTbl := q_t2 (List.mem_of_getElem? (i := 176) rfl) rfl
theorem wc_C_byteOf : Cond.code y_C_byteOf b_C_byteOf 3 (some .int) ∈ qTbl := q_t3 (List.mem_of_getElem? (i := 19) rfl) rfl
theorem wt_C_byteOf : Cond.static y_C_byteOf ∈ qTbl := q_t3 (List.mem_of_getElem? (i := 18) rfl) rfl
theorem wc_C_begin : Cond.code y_C_begin b_C_begin 1 none ∈ qTbl := q_t2 (List.mem_of_getElem? (i := 64) rfl) rfl
theorem wi_C_begin : Cond.instanceMethod y_C_begin ∈ qTbl := q_t2 (List.mem_of_getElem? (i := 63) rfl) rfl
theorem ws_C_begin : Cond.selects y_C_begin.cls y_C_begin y_C_begin ∈ qTbl := q_s2 (List.mem_of_getElem? (i := 3) rfl) rfl
theorem wc_C_passesUntil : Cond.code y_C_passesUntil b_C_passesUntil 4 (some .long) ∈ qTbl := q_t2 (List.mem_of_getElem? (i := 100) rfl) rfl
theorem wi_C_passesUntil : Cond.instanceMethod y_C_passesUntil ∈ qTbl := q_t2 (List.mem_of_getElem? (i := 99) rfl) rfl
theorem ws_C_passesUntil : Cond.selects y_C_passesUntil.cls y_C_passesUntil y_C_passesUntil ∈ qTbl := q_s2 (List.mem_of_getElem? (i := 5) rfl) rfl
theorem wc_C_stateWith : Cond.code y_C_stateWith b_C_stateWith 3 (some .int) ∈ qTbl := q_t2 (List.mem_of_getElem? (i := 146) rfl) rfl
theorem wi_C_stateWith : Cond.instanceMethod y_C_stateWith ∈ qTbl := q_t2 (List.mem_of_getElem? (i := 145) rfl) rfl
theorem ws_C_stateWith : Cond.selects y_C_stateWith.cls y_C_stateWith y_C_stateWith ∈ qTbl := q_s2 (List.mem_of_getElem? (i := 14) rfl) rfl
theorem wc_C_move : Cond.code y_C_move b_C_move 3 none ∈ qTbl := q_t3 (List.mem_of_getElem? (i := 81) rfl) rfl
theorem wi_C_move : Cond.instanceMethod y_C_move ∈ qTbl := q_t3 (List.mem_of_getElem? (i := 80) rfl) rfl
theorem ws_C_move : Cond.selects y_C_move.cls y_C_move y_C_move ∈ qTbl := q_s3 (List.mem_of_getElem? (i := 3) rfl) rfl
theorem wc_C_advance : Cond.code y_C_advance b_C_advance 3 none ∈ qTbl := q_t3 (List.mem_of_getElem? (i := 119) rfl) rfl
theorem wi_C_advance : Cond.instanceMethod y_C_advance ∈ qTbl := q_t3 (List.mem_of_getElem? (i := 118) rfl) rfl
theorem ws_C_advance : Cond.selects y_C_advance.cls y_C_advance y_C_advance ∈ qTbl := q_s3 (List.mem_of_getElem? (i := 8) rfl) rfl
theorem wc_C_goesOnUntil : Cond.code y_C_goesOnUntil b_C_goesOnUntil 3 (some .boolean) ∈ qTbl := q_t3 (List.mem_of_getElem? (i := 115) rfl) rfl
theorem wi_C_goesOnUntil : Cond.instanceMethod y_C_goesOnUntil ∈ qTbl := q_t3 (List.mem_of_getElem? (i := 114) rfl) rfl
theorem ws_C_goesOnUntil : Cond.selects y_C_goesOnUntil.cls y_C_goesOnUntil y_C_goesOnUntil ∈ qTbl := q_s3 (List.mem_of_getElem? (i := 7) rfl) rfl
theorem wc_D_init : Cond.code y_D_init b_D_init 1 none ∈ qTbl := q_t3 (List.mem_of_getElem? (i := 150) rfl) rfl
theorem wi_D_init : Cond.instanceMethod y_D_init ∈ qTbl := q_t3 (List.mem_of_getElem? (i := 149) rfl) rfl
theorem wc_D_thrown : Cond.code y_D_thrown b_D_thrown 1 (some .int) ∈ qTbl := q_t4 (List.mem_of_getElem? (i := 12) rfl) rfl
theorem wi_D_thrown : Cond.instanceMethod y_D_thrown ∈ qTbl := q_t4 (List.mem_of_getElem? (i := 10) rfl) rfl
theorem ws_D_thrown : Cond.selects y_D_thrown.cls y_D_thrown y_D_thrown ∈ qTbl := q_t4 (List.mem_of_getElem? (i := 11) rfl) rfl
theorem wc_D_type : Cond.code y_D_type b_D_type 7 (some .int) ∈ qTbl := q_t4 (List.mem_of_getElem? (i := 16) rfl) rfl
theorem wi_D_type : Cond.instanceMethod y_D_type ∈ qTbl := q_t4 (List.mem_of_getElem? (i := 14) rfl) rfl
theorem ws_D_type : Cond.selects y_D_type.cls y_D_type y_D_type ∈ qTbl := q_t4 (List.mem_of_getElem? (i := 15) rfl) rfl
theorem wc_D_wipe : Cond.code y_D_wipe b_D_wipe 2 (some .int) ∈ qTbl := q_t4 (List.mem_of_getElem? (i := 21) rfl) rfl
theorem wi_D_wipe : Cond.instanceMethod y_D_wipe ∈ qTbl := q_t4 (List.mem_of_getElem? (i := 19) rfl) rfl
theorem ws_D_wipe : Cond.selects y_D_wipe.cls y_D_wipe y_D_wipe ∈ qTbl := q_t4 (List.mem_of_getElem? (i := 20) rfl) rfl
theorem wc_D_go : Cond.code y_D_go b_D_go 2 none ∈ qTbl := q_t4 (List.mem_of_getElem? (i := 33) rfl) rfl
theorem wi_D_go : Cond.instanceMethod y_D_go ∈ qTbl := q_t4 (List.mem_of_getElem? (i := 32) rfl) rfl
theorem ws_D_go : Cond.selects y_D_go.cls y_D_go y_D_go ∈ qTbl := q_s3 (List.mem_of_getElem? (i := 10) rfl) rfl
theorem wc_D_isBetween : Cond.code y_D_isBetween b_D_isBetween 3 (some .boolean) ∈ qTbl := q_t4 (List.mem_of_getElem? (i := 41) rfl) rfl
theorem wi_D_isBetween : Cond.instanceMethod y_D_isBetween ∈ qTbl := q_t4 (List.mem_of_getElem? (i := 40) rfl) rfl
theorem ws_D_isBetween : Cond.selects y_D_isBetween.cls y_D_isBetween y_D_isBetween ∈ qTbl := q_s3 (List.mem_of_getElem? (i := 12) rfl) rfl
theorem wc_D_take : Cond.code y_D_take b_D_take 4 (some .int) ∈ qTbl := q_t4 (List.mem_of_getElem? (i := 45) rfl) rfl
theorem wi_D_take : Cond.instanceMethod y_D_take ∈ qTbl := q_t4 (List.mem_of_getElem? (i := 44) rfl) rfl
theorem ws_D_take : Cond.selects y_D_take.cls y_D_take y_D_take ∈ qTbl := q_s3 (List.mem_of_getElem? (i := 13) rfl) rfl
theorem wc_D_readLabels : Cond.code y_D_readLabels b_D_readLabels 2 none ∈ qTbl := q_t4 (List.mem_of_getElem? (i := 37) rfl) rfl
theorem wi_D_readLabels : Cond.instanceMethod y_D_readLabels ∈ qTbl := q_t4 (List.mem_of_getElem? (i := 36) rfl) rfl
theorem ws_D_readLabels : Cond.selects y_D_readLabels.cls y_D_readLabels y_D_readLabels ∈ qTbl := q_s3 (List.mem_of_getElem? (i := 11) rfl) rfl
theorem wc_D_readName : Cond.code y_D_readName b_D_readName 3 none ∈ qTbl := q_t4 (List.mem_of_getElem? (i := 53) rfl) rfl
theorem wi_D_readName : Cond.instanceMethod y_D_readName ∈ qTbl := q_t4 (List.mem_of_getElem? (i := 52) rfl) rfl
theorem ws_D_readName : Cond.selects y_D_readName.cls y_D_readName y_D_readName ∈ qTbl := q_s3 (List.mem_of_getElem? (i := 15) rfl) rfl
theorem wc_D_readInstruction : Cond.code y_D_readInstruction b_D_readInstruction 2 none ∈ qTbl := q_t4 (List.mem_of_getElem? (i := 49) rfl) rfl
theorem wi_D_readInstruction : Cond.instanceMethod y_D_readInstruction ∈ qTbl := q_t4 (List.mem_of_getElem? (i := 48) rfl) rfl
theorem ws_D_readInstruction : Cond.selects y_D_readInstruction.cls y_D_readInstruction y_D_readInstruction ∈ qTbl := q_s3 (List.mem_of_getElem? (i := 14) rfl) rfl
theorem wc_D_readAll : Cond.code y_D_readAll b_D_readAll 2 none ∈ qTbl := q_t4 (List.mem_of_getElem? (i := 29) rfl) rfl
theorem wi_D_readAll : Cond.instanceMethod y_D_readAll ∈ qTbl := q_t4 (List.mem_of_getElem? (i := 28) rfl) rfl
theorem ws_D_readAll : Cond.selects y_D_readAll.cls y_D_readAll y_D_readAll ∈ qTbl := q_s3 (List.mem_of_getElem? (i := 9) rfl) rfl
theorem wc_D_compile : Cond.code y_D_compile b_D_compile 2 (some .int) ∈ qTbl := q_t4 (List.mem_of_getElem? (i := 25) rfl) rfl
theorem wi_D_compile : Cond.instanceMethod y_D_compile ∈ qTbl := q_t4 (List.mem_of_getElem? (i := 23) rfl) rfl
theorem ws_D_compile : Cond.selects y_D_compile.cls y_D_compile y_D_compile ∈ qTbl := q_t4 (List.mem_of_getElem? (i := 24) rfl) rfl
theorem wc_D_findDrain : Cond.code y_D_findDrain b_D_findDrain 4 (some .int) ∈ qTbl := q_t4 (List.mem_of_getElem? (i := 57) rfl) rfl
theorem wi_D_findDrain : Cond.instanceMethod y_D_findDrain ∈ qTbl := q_t4 (List.mem_of_getElem? (i := 56) rfl) rfl
theorem ws_D_findDrain : Cond.selects y_D_findDrain.cls y_D_findDrain y_D_findDrain ∈ qTbl := q_s4 (List.mem_of_getElem? (i := 0) rfl) rfl
theorem wc_D_findLoop : Cond.code y_D_findLoop b_D_findLoop 5 none ∈ qTbl := q_t4 (List.mem_of_getElem? (i := 61) rfl) rfl
theorem wi_D_findLoop : Cond.instanceMethod y_D_findLoop ∈ qTbl := q_t4 (List.mem_of_getElem? (i := 60) rfl) rfl
theorem ws_D_findLoop : Cond.selects y_D_findLoop.cls y_D_findLoop y_D_findLoop ∈ qTbl := q_s4 (List.mem_of_getElem? (i := 1) rfl) rfl
theorem wc_D_size : Cond.code y_D_size b_D_size 1 (some .int) ∈ qTbl := q_t4 (List.mem_of_getElem? (i := 69) rfl) rfl
theorem wi_D_size : Cond.instanceMethod y_D_size ∈ qTbl := q_t4 (List.mem_of_getElem? (i := 67) rfl) rfl
theorem ws_D_size : Cond.selects y_D_size.cls y_D_size y_D_size ∈ qTbl := q_t4 (List.mem_of_getElem? (i := 68) rfl) rfl
theorem wc_D_instruction : Cond.code y_D_instruction b_D_instruction 3 (some .int) ∈ qTbl := q_t4 (List.mem_of_getElem? (i := 73) rfl) rfl
theorem wi_D_instruction : Cond.instanceMethod y_D_instruction ∈ qTbl := q_t4 (List.mem_of_getElem? (i := 71) rfl) rfl
theorem ws_D_instruction : Cond.selects y_D_instruction.cls y_D_instruction y_D_instruction ∈ qTbl := q_t4 (List.mem_of_getElem? (i := 72) rfl) rfl
theorem wc_D_loops : Cond.code y_D_loops b_D_loops 3 (some .int) ∈ qTbl := q_t4 (List.mem_of_getElem? (i := 77) rfl) rfl
theorem wi_D_loops : Cond.instanceMethod y_D_loops ∈ qTbl := q_t4 (List.mem_of_getElem? (i := 75) rfl) rfl
theorem ws_D_loops : Cond.selects y_D_loops.cls y_D_loops y_D_loops ∈ qTbl := q_t4 (List.mem_of_getElem? (i := 76) rfl) rfl
theorem wc_D_headOf : Cond.code y_D_headOf b_D_headOf 4 (some .int) ∈ qTbl := q_t4 (List.mem_of_getElem? (i := 85) rfl) rfl
theorem wi_D_headOf : Cond.instanceMethod y_D_headOf ∈ qTbl := q_t4 (List.mem_of_getElem? (i := 84) rfl) rfl
theorem ws_D_headOf : Cond.selects y_D_headOf.cls y_D_headOf y_D_headOf ∈ qTbl := q_s4 (List.mem_of_getElem? (i := 3) rfl) rfl
theorem wc_D_loop : Cond.code y_D_loop b_D_loop 4 (some .int) ∈ qTbl := q_t4 (List.mem_of_getElem? (i := 81) rfl) rfl
theorem wi_D_loop : Cond.instanceMethod y_D_loop ∈ qTbl := q_t4 (List.mem_of_getElem? (i := 79) rfl) rfl
theorem ws_D_loop : Cond.selects y_D_loop.cls y_D_loop y_D_loop ∈ qTbl := q_t4 (List.mem_of_getElem? (i := 80) rfl) rfl
theorem wc_D_set : Cond.code y_D_set b_D_set 3 none ∈ qTbl := q_t4 (List.mem_of_getElem? (i := 89) rfl) rfl
theorem wi_D_set : Cond.instanceMethod y_D_set ∈ qTbl := q_t4 (List.mem_of_getElem? (i := 87) rfl) rfl
theorem ws_D_set : Cond.selects y_D_set.cls y_D_set y_D_set ∈ qTbl := q_t4 (List.mem_of_getElem? (i := 88) rfl) rfl
theorem wc_D_restart : Cond.code y_D_restart b_D_restart 2 none ∈ qTbl := q_t4 (List.mem_of_getElem? (i := 65) rfl) rfl
theorem wi_D_restart : Cond.instanceMethod y_D_restart ∈ qTbl := q_t4 (List.mem_of_getElem? (i := 64) rfl) rfl
theorem ws_D_restart : Cond.selects y_D_restart.cls y_D_restart y_D_restart ∈ qTbl := q_s4 (List.mem_of_getElem? (i := 2) rfl) rfl
theorem wc_D_start : Cond.code y_D_start b_D_start 1 none ∈ qTbl := q_t4 (List.mem_of_getElem? (i := 94) rfl) rfl
theorem wi_D_start : Cond.instanceMethod y_D_start ∈ qTbl := q_t4 (List.mem_of_getElem? (i := 92) rfl) rfl
theorem ws_D_start : Cond.selects y_D_start.cls y_D_start y_D_start ∈ qTbl := q_t4 (List.mem_of_getElem? (i := 93) rfl) rfl
theorem wc_D_leaps : Cond.code y_D_leaps b_D_leaps 2 none ∈ qTbl := q_t4 (List.mem_of_getElem? (i := 98) rfl) rfl
theorem wi_D_leaps : Cond.instanceMethod y_D_leaps ∈ qTbl := q_t4 (List.mem_of_getElem? (i := 96) rfl) rfl
theorem ws_D_leaps : Cond.selects y_D_leaps.cls y_D_leaps y_D_leaps ∈ qTbl := q_t4 (List.mem_of_getElem? (i := 97) rfl) rfl
theorem wc_D_isHalted : Cond.code y_D_isHalted b_D_isHalted 1 (some .boolean) ∈ qTbl := q_t4 (List.mem_of_getElem? (i := 110) rfl) rfl
theorem wi_D_isHalted : Cond.instanceMethod y_D_isHalted ∈ qTbl := q_t4 (List.mem_of_getElem? (i := 109) rfl) rfl
theorem ws_D_isHalted : Cond.selects y_D_isHalted.cls y_D_isHalted y_D_isHalted ∈ qTbl := q_s4 (List.mem_of_getElem? (i := 5) rfl) rfl
theorem wc_D_isStuck : Cond.code y_D_isStuck b_D_isStuck 1 (some .boolean) ∈ qTbl := q_t4 (List.mem_of_getElem? (i := 114) rfl) rfl
theorem wi_D_isStuck : Cond.instanceMethod y_D_isStuck ∈ qTbl := q_t4 (List.mem_of_getElem? (i := 113) rfl) rfl
theorem ws_D_isStuck : Cond.selects y_D_isStuck.cls y_D_isStuck y_D_isStuck ∈ qTbl := q_s4 (List.mem_of_getElem? (i := 6) rfl) rfl
theorem wc_D_pass : Cond.code y_D_pass b_D_pass 7 (some .boolean) ∈ qTbl := q_t4 (List.mem_of_getElem? (i := 123) rfl) rfl
theorem wi_D_pass : Cond.instanceMethod y_D_pass ∈ qTbl := q_t4 (List.mem_of_getElem? (i := 122) rfl) rfl
theorem ws_D_pass : Cond.selects y_D_pass.cls y_D_pass y_D_pass ∈ qTbl := q_s4 (List.mem_of_getElem? (i := 8) rfl) rfl
theorem wc_D_drained : Cond.code y_D_drained b_D_drained 5 (some .boolean) ∈ qTbl := q_t4 (List.mem_of_getElem? (i := 127) rfl) rfl
theorem wi_D_drained : Cond.instanceMethod y_D_drained ∈ qTbl := q_t4 (List.mem_of_getElem? (i := 126) rfl) rfl
theorem ws_D_drained : Cond.selects y_D_drained.cls y_D_drained y_D_drained ∈ qTbl := q_s4 (List.mem_of_getElem? (i := 9) rfl) rfl
theorem wc_D_isFull : Cond.code y_D_isFull b_D_isFull 2 (some .boolean) ∈ qTbl := q_t4 (List.mem_of_getElem? (i := 119) rfl) rfl
theorem wi_D_isFull : Cond.instanceMethod y_D_isFull ∈ qTbl := q_t4 (List.mem_of_getElem? (i := 118) rfl) rfl
theorem ws_D_isFull : Cond.selects y_D_isFull.cls y_D_isFull y_D_isFull ∈ qTbl := q_s4 (List.mem_of_getElem? (i := 7) rfl) rfl
theorem wc_D_isChanged : Cond.code y_D_isChanged b_D_isChanged 3 (some .boolean) ∈ qTbl := q_t4 (List.mem_of_getElem? (i := 132) rfl) rfl
theorem wi_D_isChanged : Cond.instanceMethod y_D_isChanged ∈ qTbl := q_t4 (List.mem_of_getElem? (i := 131) rfl) rfl
theorem ws_D_isChanged : Cond.selects y_D_isChanged.cls y_D_isChanged y_D_isChanged ∈ qTbl := q_s4 (List.mem_of_getElem? (i := 10) rfl) rfl
theorem wc_D_isDrainChanged : Cond.code y_D_isDrainChanged b_D_isDrainChanged 4 (some .boolean) ∈ qTbl := q_t4 (List.mem_of_getElem? (i := 140) rfl) rfl
theorem wi_D_isDrainChanged : Cond.instanceMethod y_D_isDrainChanged ∈ qTbl := q_t4 (List.mem_of_getElem? (i := 139) rfl) rfl
theorem ws_D_isDrainChanged : Cond.selects y_D_isDrainChanged.cls y_D_isDrainChanged y_D_isDrainChanged ∈ qTbl := q_s4 (List.mem_of_getElem? (i := 12) rfl) rfl
theorem wc_D_stateOf : Cond.code y_D_stateOf b_D_stateOf 1 (some .int) ∈ qTbl := q_t4 (List.mem_of_getElem? (i := 106) rfl) rfl
theorem wi_D_stateOf : Cond.instanceMethod y_D_stateOf ∈ qTbl := q_t4 (List.mem_of_getElem? (i := 105) rfl) rfl
theorem ws_D_stateOf : Cond.selects y_D_stateOf.cls y_D_stateOf y_D_stateOf ∈ qTbl := q_s4 (List.mem_of_getElem? (i := 4) rfl) rfl
theorem wc_D_passes : Cond.code y_D_passes b_D_passes 10 (some .long) ∈ qTbl := q_t4 (List.mem_of_getElem? (i := 136) rfl) rfl
theorem wi_D_passes : Cond.instanceMethod y_D_passes ∈ qTbl := q_t4 (List.mem_of_getElem? (i := 135) rfl) rfl
theorem ws_D_passes : Cond.selects y_D_passes.cls y_D_passes y_D_passes ∈ qTbl := q_s4 (List.mem_of_getElem? (i := 11) rfl) rfl
theorem wc_D_leapBy : Cond.code y_D_leapBy b_D_leapBy 4 none ∈ qTbl := q_t4 (List.mem_of_getElem? (i := 145) rfl) rfl
theorem wi_D_leapBy : Cond.instanceMethod y_D_leapBy ∈ qTbl := q_t4 (List.mem_of_getElem? (i := 144) rfl) rfl
theorem ws_D_leapBy : Cond.selects y_D_leapBy.cls y_D_leapBy y_D_leapBy ∈ qTbl := q_s4 (List.mem_of_getElem? (i := 13) rfl) rfl
theorem wc_D_step : Cond.code y_D_step b_D_step 4 none ∈ qTbl := q_t4 (List.mem_of_getElem? (i := 149) rfl) rfl
theorem wi_D_step : Cond.instanceMethod y_D_step ∈ qTbl := q_t4 (List.mem_of_getElem? (i := 148) rfl) rfl
theorem ws_D_step : Cond.selects y_D_step.cls y_D_step y_D_step ∈ qTbl := q_s4 (List.mem_of_getElem? (i := 14) rfl) rfl
theorem wc_D_run : Cond.code y_D_run b_D_run 5 (some .int) ∈ qTbl := q_t4 (List.mem_of_getElem? (i := 102) rfl) rfl
theorem wi_D_run : Cond.instanceMethod y_D_run ∈ qTbl := q_t4 (List.mem_of_getElem? (i := 100) rfl) rfl
theorem ws_D_run : Cond.selects y_D_run.cls y_D_run y_D_run ∈ qTbl := q_t4 (List.mem_of_getElem? (i := 101) rfl) rfl
theorem wc_D_plain : Cond.code y_D_plain b_D_plain 3 (some .int) ∈ qTbl := q_t4 (List.mem_of_getElem? (i := 153) rfl) rfl
theorem wi_D_plain : Cond.instanceMethod y_D_plain ∈ qTbl := q_t4 (List.mem_of_getElem? (i := 151) rfl) rfl
theorem ws_D_plain : Cond.selects y_D_plain.cls y_D_plain y_D_plain ∈ qTbl := q_t4 (List.mem_of_getElem? (i := 152) rfl) rfl
theorem wc_D_seek : Cond.code y_D_seek b_D_seek 11 (some .int) ∈ qTbl := q_t4 (List.mem_of_getElem? (i := 157) rfl) rfl
theorem wi_D_seek : Cond.instanceMethod y_D_seek ∈ qTbl := q_t4 (List.mem_of_getElem? (i := 155) rfl) rfl
theorem ws_D_seek : Cond.selects y_D_seek.cls y_D_seek y_D_seek ∈ qTbl := q_t4 (List.mem_of_getElem? (i := 156) rfl) rfl
theorem wc_D_state : Cond.code y_D_state b_D_state 1 (some .int) ∈ qTbl := q_t4 (List.mem_of_getElem? (i := 161) rfl) rfl
theorem wi_D_state : Cond.instanceMethod y_D_state ∈ qTbl := q_t4 (List.mem_of_getElem? (i := 159) rfl) rfl
theorem ws_D_state : Cond.selects y_D_state.cls y_D_state y_D_state ∈ qTbl := q_t4 (List.mem_of_getElem? (i := 160) rfl) rfl
theorem wc_D_at : Cond.code y_D_at b_D_at 1 (some .int) ∈ qTbl := q_t4 (List.mem_of_getElem? (i := 165) rfl) rfl
theorem wi_D_at : Cond.instanceMethod y_D_at ∈ qTbl := q_t4 (List.mem_of_getElem? (i := 163) rfl) rfl
theorem ws_D_at : Cond.selects y_D_at.cls y_D_at y_D_at ∈ qTbl := q_t4 (List.mem_of_getElem? (i := 164) rfl) rfl
theorem wc_D_steps : Cond.code y_D_steps b_D_steps 1 (some .long) ∈ qTbl := q_t4 (List.mem_of_getElem? (i := 169) rfl) rfl
theorem wi_D_steps : Cond.instanceMethod y_D_steps ∈ qTbl := q_t4 (List.mem_of_getElem? (i := 167) rfl) rfl
theorem ws_D_steps : Cond.selects y_D_steps.cls y_D_steps y_D_steps ∈ qTbl := q_t4 (List.mem_of_getElem? (i := 168) rfl) rfl
theorem wc_D_counter : Cond.code y_D_counter b_D_counter 2 (some .int) ∈ qTbl := q_t4 (List.mem_of_getElem? (i := 173) rfl) rfl
theorem wi_D_counter : Cond.instanceMethod y_D_counter ∈ qTbl := q_t4 (List.mem_of_getElem? (i := 171) rfl) rfl
theorem ws_D_counter : Cond.selects y_D_counter.cls y_D_counter y_D_counter ∈ qTbl := q_t4 (List.mem_of_getElem? (i := 172) rfl) rfl
theorem wc_D_change : Cond.code y_D_change b_D_change 5 (some .int) ∈ qTbl := q_t4 (List.mem_of_getElem? (i := 177) rfl) rfl
theorem wi_D_change : Cond.instanceMethod y_D_change ∈ qTbl := q_t4 (List.mem_of_getElem? (i := 175) rfl) rfl
theorem ws_D_change : Cond.selects y_D_change.cls y_D_change y_D_change ∈ qTbl := q_t4 (List.mem_of_getElem? (i := 176) rfl) rfl
theorem wc_D_leap : Cond.code y_D_leap b_D_leap 2 (some .long) ∈ qTbl := q_t4 (List.mem_of_getElem? (i := 181) rfl) rfl
theorem wi_D_leap : Cond.instanceMethod y_D_leap ∈ qTbl := q_t4 (List.mem_of_getElem? (i := 179) rfl) rfl
theorem ws_D_leap : Cond.selects y_D_leap.cls y_D_leap y_D_leap ∈ qTbl := q_t4 (List.mem_of_getElem? (i := 180) rfl) rfl
theorem wt_L_type : Cond.static y_L_type ∈ qTbl := q_t2 (List.mem_of_getElem? (i := 180) rfl) rfl
theorem wt_L_set : Cond.static y_L_set ∈ qTbl := q_t3 (List.mem_of_getElem? (i := 38) rfl) rfl
theorem wt_L_start : Cond.static y_L_start ∈ qTbl := q_t3 (List.mem_of_getElem? (i := 47) rfl) rfl
theorem wt_L_run : Cond.static y_L_run ∈ qTbl := q_t3 (List.mem_of_getElem? (i := 71) rfl) rfl
theorem wt_L_plain : Cond.static y_L_plain ∈ qTbl := q_t3 (List.mem_of_getElem? (i := 96) rfl) rfl
theorem wt_L_seek : Cond.static y_L_seek ∈ qTbl := q_t3 (List.mem_of_getElem? (i := 105) rfl) rfl
theorem wt_L_change : Cond.static y_L_change ∈ qTbl := q_t3 (List.mem_of_getElem? (i := 122) rfl) rfl
theorem wl_M_0 : u_lay R_M F_M 0 ∈ qTbl := q_t1 (List.mem_of_getElem? (i := 128) rfl) rfl
theorem wl_M_1 : u_lay R_M F_M 1 ∈ qTbl := q_t1 (List.mem_of_getElem? (i := 130) rfl) rfl
theorem wl_M_2 : u_lay R_M F_M 2 ∈ qTbl := q_t1 (List.mem_of_getElem? (i := 132) rfl) rfl
theorem in_M : ∀ w ∈ u_ws R_M F_M 3, w ∈ qTbl := by
  show ∀ w ∈ [u_lay R_M F_M 0, u_lay R_M F_M 1, u_lay R_M F_M 2], w ∈ qTbl
  exact List.forall_mem_cons.mpr ⟨wl_M_0, List.forall_mem_cons.mpr ⟨wl_M_1, List.forall_mem_cons.mpr ⟨wl_M_2, fun _ h => absurd h List.not_mem_nil⟩⟩⟩
theorem wl_S_0 : u_lay R_S F_S 0 ∈ qTbl := q_t1 (List.mem_of_getElem? (i := 152) rfl) rfl
theorem wl_S_1 : u_lay R_S F_S 1 ∈ qTbl := q_t1 (List.mem_of_getElem? (i := 154) rfl) rfl
theorem wl_S_2 : u_lay R_S F_S 2 ∈ qTbl := q_t1 (List.mem_of_getElem? (i := 156) rfl) rfl
theorem wl_S_3 : u_lay R_S F_S 3 ∈ qTbl := q_t1 (List.mem_of_getElem? (i := 158) rfl) rfl
theorem wl_S_4 : u_lay R_S F_S 4 ∈ qTbl := q_t1 (List.mem_of_getElem? (i := 160) rfl) rfl
theorem wl_S_5 : u_lay R_S F_S 5 ∈ qTbl := q_t1 (List.mem_of_getElem? (i := 162) rfl) rfl
theorem wl_S_6 : u_lay R_S F_S 6 ∈ qTbl := q_t1 (List.mem_of_getElem? (i := 164) rfl) rfl
theorem in_S : ∀ w ∈ u_ws R_S F_S 7, w ∈ qTbl := by
  show ∀ w ∈ [u_lay R_S F_S 0, u_lay R_S F_S 1, u_lay R_S F_S 2, u_lay R_S F_S 3, u_lay R_S F_S 4, u_lay R_S F_S 5, u_lay R_S F_S 6], w ∈ qTbl
  exact List.forall_mem_cons.mpr ⟨wl_S_0, List.forall_mem_cons.mpr ⟨wl_S_1, List.forall_mem_cons.mpr ⟨wl_S_2, List.forall_mem_cons.mpr ⟨wl_S_3, List.forall_mem_cons.mpr ⟨wl_S_4, List.forall_mem_cons.mpr ⟨wl_S_5, List.forall_mem_cons.mpr ⟨wl_S_6, fun _ h => absurd h List.not_mem_nil⟩⟩⟩⟩⟩⟩⟩
theorem wl_P_0 : u_lay R_P F_P 0 ∈ qTbl := q_t1 (List.mem_of_getElem? (i := 95) rfl) rfl
theorem wl_P_1 : u_lay R_P F_P 1 ∈ qTbl := q_t1 (List.mem_of_getElem? (i := 97) rfl) rfl
theorem wl_P_2 : u_lay R_P F_P 2 ∈ qTbl := q_t1 (List.mem_of_getElem? (i := 99) rfl) rfl
theorem wl_P_3 : u_lay R_P F_P 3 ∈ qTbl := q_t1 (List.mem_of_getElem? (i := 101) rfl) rfl
theorem wl_P_4 : u_lay R_P F_P 4 ∈ qTbl := q_t1 (List.mem_of_getElem? (i := 103) rfl) rfl
theorem wl_P_5 : u_lay R_P F_P 5 ∈ qTbl := q_t1 (List.mem_of_getElem? (i := 105) rfl) rfl
theorem wl_P_6 : u_lay R_P F_P 6 ∈ qTbl := q_t1 (List.mem_of_getElem? (i := 107) rfl) rfl
theorem wl_P_7 : u_lay R_P F_P 7 ∈ qTbl := q_t1 (List.mem_of_getElem? (i := 109) rfl) rfl
theorem wl_P_8 : u_lay R_P F_P 8 ∈ qTbl := q_t1 (List.mem_of_getElem? (i := 111) rfl) rfl
theorem wl_P_9 : u_lay R_P F_P 9 ∈ qTbl := q_t1 (List.mem_of_getElem? (i := 113) rfl) rfl
theorem in_P : ∀ w ∈ u_ws R_P F_P 10, w ∈ qTbl := by
  show ∀ w ∈ [u_lay R_P F_P 0, u_lay R_P F_P 1, u_lay R_P F_P 2, u_lay R_P F_P 3, u_lay R_P F_P 4, u_lay R_P F_P 5, u_lay R_P F_P 6, u_lay R_P F_P 7, u_lay R_P F_P 8, u_lay R_P F_P 9], w ∈ qTbl
  exact List.forall_mem_cons.mpr ⟨wl_P_0, List.forall_mem_cons.mpr ⟨wl_P_1, List.forall_mem_cons.mpr ⟨wl_P_2, List.forall_mem_cons.mpr ⟨wl_P_3, List.forall_mem_cons.mpr ⟨wl_P_4, List.forall_mem_cons.mpr ⟨wl_P_5, List.forall_mem_cons.mpr ⟨wl_P_6, List.forall_mem_cons.mpr ⟨wl_P_7, List.forall_mem_cons.mpr ⟨wl_P_8, List.forall_mem_cons.mpr ⟨wl_P_9, fun _ h => absurd h List.not_mem_nil⟩⟩⟩⟩⟩⟩⟩⟩⟩⟩
theorem wl_R_0 : u_lay R_R F_R 0 ∈ qTbl := q_t1 (List.mem_of_getElem? (i := 39) rfl) rfl
theorem wl_R_1 : u_lay R_R F_R 1 ∈ qTbl := q_t1 (List.mem_of_getElem? (i := 41) rfl) rfl
theorem wl_R_2 : u_lay R_R F_R 2 ∈ qTbl := q_t1 (List.mem_of_getElem? (i := 43) rfl) rfl
theorem wl_R_3 : u_lay R_R F_R 3 ∈ qTbl := q_t1 (List.mem_of_getElem? (i := 45) rfl) rfl
theorem wl_R_4 : u_lay R_R F_R 4 ∈ qTbl := q_t1 (List.mem_of_getElem? (i := 47) rfl) rfl
theorem wl_R_5 : u_lay R_R F_R 5 ∈ qTbl := q_t1 (List.mem_of_getElem? (i := 49) rfl) rfl
theorem wl_R_6 : u_lay R_R F_R 6 ∈ qTbl := q_t1 (List.mem_of_getElem? (i := 51) rfl) rfl
theorem wl_R_7 : u_lay R_R F_R 7 ∈ qTbl := q_t1 (List.mem_of_getElem? (i := 53) rfl) rfl
theorem wl_R_8 : u_lay R_R F_R 8 ∈ qTbl := q_t1 (List.mem_of_getElem? (i := 55) rfl) rfl
theorem in_R : ∀ w ∈ u_ws R_R F_R 9, w ∈ qTbl := by
  show ∀ w ∈ [u_lay R_R F_R 0, u_lay R_R F_R 1, u_lay R_R F_R 2, u_lay R_R F_R 3, u_lay R_R F_R 4, u_lay R_R F_R 5, u_lay R_R F_R 6, u_lay R_R F_R 7, u_lay R_R F_R 8], w ∈ qTbl
  exact List.forall_mem_cons.mpr ⟨wl_R_0, List.forall_mem_cons.mpr ⟨wl_R_1, List.forall_mem_cons.mpr ⟨wl_R_2, List.forall_mem_cons.mpr ⟨wl_R_3, List.forall_mem_cons.mpr ⟨wl_R_4, List.forall_mem_cons.mpr ⟨wl_R_5, List.forall_mem_cons.mpr ⟨wl_R_6, List.forall_mem_cons.mpr ⟨wl_R_7, List.forall_mem_cons.mpr ⟨wl_R_8, fun _ h => absurd h List.not_mem_nil⟩⟩⟩⟩⟩⟩⟩⟩⟩
theorem wl_C_0 : u_lay R_C F_C 0 ∈ qTbl := q_t1 (List.mem_of_getElem? (i := 182) rfl) rfl
theorem wl_C_1 : u_lay R_C F_C 1 ∈ qTbl := q_t1 (List.mem_of_getElem? (i := 184) rfl) rfl
theorem wl_C_2 : u_lay R_C F_C 2 ∈ qTbl := q_t1 (List.mem_of_getElem? (i := 186) rfl) rfl
theorem wl_C_3 : u_lay R_C F_C 3 ∈ qTbl := q_t1 (List.mem_of_getElem? (i := 188) rfl) rfl
theorem wl_C_4 : u_lay R_C F_C 4 ∈ qTbl := q_t1 (List.mem_of_getElem? (i := 190) rfl) rfl
theorem wl_C_5 : u_lay R_C F_C 5 ∈ qTbl := q_t1 (List.mem_of_getElem? (i := 192) rfl) rfl
theorem wl_C_6 : u_lay R_C F_C 6 ∈ qTbl := q_t1 (List.mem_of_getElem? (i := 194) rfl) rfl
theorem wl_C_7 : u_lay R_C F_C 7 ∈ qTbl := q_t1 (List.mem_of_getElem? (i := 196) rfl) rfl
theorem wl_C_8 : u_lay R_C F_C 8 ∈ qTbl := q_t1 (List.mem_of_getElem? (i := 198) rfl) rfl
theorem wl_C_9 : u_lay R_C F_C 9 ∈ qTbl := q_t1 (List.mem_of_getElem? (i := 200) rfl) rfl
theorem wl_C_10 : u_lay R_C F_C 10 ∈ qTbl := q_t1 (List.mem_of_getElem? (i := 202) rfl) rfl
theorem wl_C_11 : u_lay R_C F_C 11 ∈ qTbl := q_t1 (List.mem_of_getElem? (i := 204) rfl) rfl
theorem wl_C_12 : u_lay R_C F_C 12 ∈ qTbl := q_t1 (List.mem_of_getElem? (i := 206) rfl) rfl
theorem wl_C_13 : u_lay R_C F_C 13 ∈ qTbl := q_t1 (List.mem_of_getElem? (i := 208) rfl) rfl
theorem in_C : ∀ w ∈ u_ws R_C F_C 14, w ∈ qTbl := by
  show ∀ w ∈ [u_lay R_C F_C 0, u_lay R_C F_C 1, u_lay R_C F_C 2, u_lay R_C F_C 3, u_lay R_C F_C 4, u_lay R_C F_C 5, u_lay R_C F_C 6, u_lay R_C F_C 7, u_lay R_C F_C 8, u_lay R_C F_C 9, u_lay R_C F_C 10, u_lay R_C F_C 11, u_lay R_C F_C 12, u_lay R_C F_C 13], w ∈ qTbl
  exact List.forall_mem_cons.mpr ⟨wl_C_0, List.forall_mem_cons.mpr ⟨wl_C_1, List.forall_mem_cons.mpr ⟨wl_C_2, List.forall_mem_cons.mpr ⟨wl_C_3, List.forall_mem_cons.mpr ⟨wl_C_4, List.forall_mem_cons.mpr ⟨wl_C_5, List.forall_mem_cons.mpr ⟨wl_C_6, List.forall_mem_cons.mpr ⟨wl_C_7, List.forall_mem_cons.mpr ⟨wl_C_8, List.forall_mem_cons.mpr ⟨wl_C_9, List.forall_mem_cons.mpr ⟨wl_C_10, List.forall_mem_cons.mpr ⟨wl_C_11, List.forall_mem_cons.mpr ⟨wl_C_12, List.forall_mem_cons.mpr ⟨wl_C_13, fun _ h => absurd h List.not_mem_nil⟩⟩⟩⟩⟩⟩⟩⟩⟩⟩⟩⟩⟩⟩
theorem wl_D_0 : u_lay R_D F_D 0 ∈ qTbl := q_t3 (List.mem_of_getElem? (i := 184) rfl) rfl
theorem wl_D_1 : u_lay R_D F_D 1 ∈ qTbl := q_t3 (List.mem_of_getElem? (i := 186) rfl) rfl
theorem wl_D_2 : u_lay R_D F_D 2 ∈ qTbl := q_t3 (List.mem_of_getElem? (i := 188) rfl) rfl
theorem wl_D_3 : u_lay R_D F_D 3 ∈ qTbl := q_t3 (List.mem_of_getElem? (i := 190) rfl) rfl
theorem wl_D_4 : u_lay R_D F_D 4 ∈ qTbl := q_t3 (List.mem_of_getElem? (i := 192) rfl) rfl
theorem wl_D_5 : u_lay R_D F_D 5 ∈ qTbl := q_t3 (List.mem_of_getElem? (i := 194) rfl) rfl
theorem wl_D_6 : u_lay R_D F_D 6 ∈ qTbl := q_t3 (List.mem_of_getElem? (i := 196) rfl) rfl
theorem wl_D_7 : u_lay R_D F_D 7 ∈ qTbl := q_t3 (List.mem_of_getElem? (i := 198) rfl) rfl
theorem wl_D_8 : u_lay R_D F_D 8 ∈ qTbl := q_t3 (List.mem_of_getElem? (i := 200) rfl) rfl
theorem wl_D_9 : u_lay R_D F_D 9 ∈ qTbl := q_t3 (List.mem_of_getElem? (i := 202) rfl) rfl
theorem wl_D_10 : u_lay R_D F_D 10 ∈ qTbl := q_t3 (List.mem_of_getElem? (i := 204) rfl) rfl
theorem wl_D_11 : u_lay R_D F_D 11 ∈ qTbl := q_t3 (List.mem_of_getElem? (i := 206) rfl) rfl
theorem wl_D_12 : u_lay R_D F_D 12 ∈ qTbl := q_t3 (List.mem_of_getElem? (i := 208) rfl) rfl
theorem wl_D_13 : u_lay R_D F_D 13 ∈ qTbl := q_t3 (List.mem_of_getElem? (i := 210) rfl) rfl
theorem wl_D_14 : u_lay R_D F_D 14 ∈ qTbl := q_t3 (List.mem_of_getElem? (i := 212) rfl) rfl
theorem wl_D_15 : u_lay R_D F_D 15 ∈ qTbl := q_t3 (List.mem_of_getElem? (i := 214) rfl) rfl
theorem wl_D_16 : u_lay R_D F_D 16 ∈ qTbl := q_t3 (List.mem_of_getElem? (i := 216) rfl) rfl
theorem wl_D_17 : u_lay R_D F_D 17 ∈ qTbl := q_t3 (List.mem_of_getElem? (i := 218) rfl) rfl
theorem wl_D_18 : u_lay R_D F_D 18 ∈ qTbl := q_t3 (List.mem_of_getElem? (i := 220) rfl) rfl
theorem wl_D_19 : u_lay R_D F_D 19 ∈ qTbl := q_t3 (List.mem_of_getElem? (i := 222) rfl) rfl
theorem wl_D_20 : u_lay R_D F_D 20 ∈ qTbl := q_t3 (List.mem_of_getElem? (i := 224) rfl) rfl
theorem wl_D_21 : u_lay R_D F_D 21 ∈ qTbl := q_t3 (List.mem_of_getElem? (i := 226) rfl) rfl
theorem wl_D_22 : u_lay R_D F_D 22 ∈ qTbl := q_t3 (List.mem_of_getElem? (i := 228) rfl) rfl
theorem wl_D_23 : u_lay R_D F_D 23 ∈ qTbl := q_t3 (List.mem_of_getElem? (i := 230) rfl) rfl
theorem wl_D_24 : u_lay R_D F_D 24 ∈ qTbl := q_t3 (List.mem_of_getElem? (i := 232) rfl) rfl
theorem wl_D_25 : u_lay R_D F_D 25 ∈ qTbl := q_t3 (List.mem_of_getElem? (i := 234) rfl) rfl
theorem wl_D_26 : u_lay R_D F_D 26 ∈ qTbl := q_t3 (List.mem_of_getElem? (i := 236) rfl) rfl
theorem wl_D_27 : u_lay R_D F_D 27 ∈ qTbl := q_t3 (List.mem_of_getElem? (i := 238) rfl) rfl
theorem wl_D_28 : u_lay R_D F_D 28 ∈ qTbl := q_t4 (List.mem_of_getElem? (i := 0) rfl) rfl
theorem wl_D_29 : u_lay R_D F_D 29 ∈ qTbl := q_t4 (List.mem_of_getElem? (i := 2) rfl) rfl
theorem wl_D_30 : u_lay R_D F_D 30 ∈ qTbl := q_t4 (List.mem_of_getElem? (i := 4) rfl) rfl
theorem wl_D_31 : u_lay R_D F_D 31 ∈ qTbl := q_t4 (List.mem_of_getElem? (i := 6) rfl) rfl
theorem in_D : ∀ w ∈ u_ws R_D F_D 32, w ∈ qTbl := by
  show ∀ w ∈ [u_lay R_D F_D 0, u_lay R_D F_D 1, u_lay R_D F_D 2, u_lay R_D F_D 3, u_lay R_D F_D 4, u_lay R_D F_D 5, u_lay R_D F_D 6, u_lay R_D F_D 7, u_lay R_D F_D 8, u_lay R_D F_D 9, u_lay R_D F_D 10, u_lay R_D F_D 11, u_lay R_D F_D 12, u_lay R_D F_D 13, u_lay R_D F_D 14, u_lay R_D F_D 15, u_lay R_D F_D 16, u_lay R_D F_D 17, u_lay R_D F_D 18, u_lay R_D F_D 19, u_lay R_D F_D 20, u_lay R_D F_D 21, u_lay R_D F_D 22, u_lay R_D F_D 23, u_lay R_D F_D 24, u_lay R_D F_D 25, u_lay R_D F_D 26, u_lay R_D F_D 27, u_lay R_D F_D 28, u_lay R_D F_D 29, u_lay R_D F_D 30, u_lay R_D F_D 31], w ∈ qTbl
  exact List.forall_mem_cons.mpr ⟨wl_D_0, List.forall_mem_cons.mpr ⟨wl_D_1, List.forall_mem_cons.mpr ⟨wl_D_2, List.forall_mem_cons.mpr ⟨wl_D_3, List.forall_mem_cons.mpr ⟨wl_D_4, List.forall_mem_cons.mpr ⟨wl_D_5, List.forall_mem_cons.mpr ⟨wl_D_6, List.forall_mem_cons.mpr ⟨wl_D_7, List.forall_mem_cons.mpr ⟨wl_D_8, List.forall_mem_cons.mpr ⟨wl_D_9, List.forall_mem_cons.mpr ⟨wl_D_10, List.forall_mem_cons.mpr ⟨wl_D_11, List.forall_mem_cons.mpr ⟨wl_D_12, List.forall_mem_cons.mpr ⟨wl_D_13, List.forall_mem_cons.mpr ⟨wl_D_14, List.forall_mem_cons.mpr ⟨wl_D_15, List.forall_mem_cons.mpr ⟨wl_D_16, List.forall_mem_cons.mpr ⟨wl_D_17, List.forall_mem_cons.mpr ⟨wl_D_18, List.forall_mem_cons.mpr ⟨wl_D_19, List.forall_mem_cons.mpr ⟨wl_D_20, List.forall_mem_cons.mpr ⟨wl_D_21, List.forall_mem_cons.mpr ⟨wl_D_22, List.forall_mem_cons.mpr ⟨wl_D_23, List.forall_mem_cons.mpr ⟨wl_D_24, List.forall_mem_cons.mpr ⟨wl_D_25, List.forall_mem_cons.mpr ⟨wl_D_26, List.forall_mem_cons.mpr ⟨wl_D_27, List.forall_mem_cons.mpr ⟨wl_D_28, List.forall_mem_cons.mpr ⟨wl_D_29, List.forall_mem_cons.mpr ⟨wl_D_30, List.forall_mem_cons.mpr ⟨wl_D_31, fun _ h => absurd h List.not_mem_nil⟩⟩⟩⟩⟩⟩⟩⟩⟩⟩⟩⟩⟩⟩⟩⟩⟩⟩⟩⟩⟩⟩⟩⟩⟩⟩⟩⟩⟩⟩⟩⟩
theorem wx_L_8 : Cond.classLink "CounterLeaperLaw" 8 "CounterLeaper" ∈ qTbl := q_t1 (List.mem_of_getElem? (i := 16) rfl) rfl
theorem wz_C : Cond.instantiable "CounterLeaper" 14 ∈ qTbl := q_t1 (List.mem_of_getElem? (i := 17) rfl) rfl
theorem wm_L_43 : Cond.methodLink "CounterLeaperLaw" 43 ({ cls := "CounterLeaper", name := "<init>", desc := "()V" } : MethodName) ∈ qTbl := q_t1 (List.mem_of_getElem? (i := 18) rfl) rfl
theorem wm_C_1 : Cond.methodLink "CounterLeaper" 1 ({ cls := "java/lang/Object", name := "<init>", desc := "()V" } : MethodName) ∈ qTbl := q_t1 (List.mem_of_getElem? (i := 21) rfl) rfl
theorem wx_C_13 : Cond.classLink "CounterLeaper" 13 "CounterLeaper$Reader" ∈ qTbl := q_t1 (List.mem_of_getElem? (i := 24) rfl) rfl
theorem wz_R : Cond.instantiable "CounterLeaper$Reader" 9 ∈ qTbl := q_t1 (List.mem_of_getElem? (i := 25) rfl) rfl
theorem wm_C_15 : Cond.methodLinkNest "CounterLeaper" 15 ({ cls := "CounterLeaper$Reader", name := "<init>", desc := "()V" } : MethodName) "CounterLeaper" ∈ qTbl := q_t1 (List.mem_of_getElem? (i := 26) rfl) rfl
theorem wm_R_3 : Cond.methodLink "CounterLeaper$Reader" 3 ({ cls := "java/lang/Object", name := "<init>", desc := "()V" } : MethodName) ∈ qTbl := q_t1 (List.mem_of_getElem? (i := 29) rfl) rfl
theorem wf_R_11 : Cond.fieldLink "CounterLeaper$Reader" 11 "CounterLeaper$Reader" "placesOfLabels" "[I" ∈ qTbl := q_t1 (List.mem_of_getElem? (i := 30) rfl) rfl
theorem wf_R_15 : Cond.fieldLink "CounterLeaper$Reader" 15 "CounterLeaper$Reader" "namedLabels" "[I" ∈ qTbl := q_t1 (List.mem_of_getElem? (i := 31) rfl) rfl
theorem wf_R_18 : Cond.fieldLink "CounterLeaper$Reader" 18 "CounterLeaper$Reader" "namedAt" "[I" ∈ qTbl := q_t1 (List.mem_of_getElem? (i := 32) rfl) rfl
theorem wf_R_37 : Cond.fieldLink "CounterLeaper$Reader" 37 "CounterLeaper$Reader" "into" "LCounterLeaper$Program;" ∈ qTbl := q_t1 (List.mem_of_getElem? (i := 33) rfl) rfl
theorem wf_R_47 : Cond.fieldLink "CounterLeaper$Reader" 47 "CounterLeaper$Reader" "next" "I" ∈ qTbl := q_t1 (List.mem_of_getElem? (i := 34) rfl) rfl
theorem wf_R_76 : Cond.fieldLink "CounterLeaper$Reader" 76 "CounterLeaper$Reader" "letter" "I" ∈ qTbl := q_t1 (List.mem_of_getElem? (i := 35) rfl) rfl
theorem wf_R_86 : Cond.fieldLink "CounterLeaper$Reader" 86 "CounterLeaper$Reader" "kind" "I" ∈ qTbl := q_t1 (List.mem_of_getElem? (i := 36) rfl) rfl
theorem wf_R_79 : Cond.fieldLink "CounterLeaper$Reader" 79 "CounterLeaper$Reader" "counter" "I" ∈ qTbl := q_t1 (List.mem_of_getElem? (i := 37) rfl) rfl
theorem wf_R_50 : Cond.fieldLink "CounterLeaper$Reader" 50 "CounterLeaper$Reader" "labelled" "Z" ∈ qTbl := q_t1 (List.mem_of_getElem? (i := 38) rfl) rfl
theorem wx_C_20 : Cond.classLink "CounterLeaper" 20 "CounterLeaper$Program" ∈ qTbl := q_t1 (List.mem_of_getElem? (i := 60) rfl) rfl
theorem wz_P : Cond.instantiable "CounterLeaper$Program" 10 ∈ qTbl := q_t1 (List.mem_of_getElem? (i := 61) rfl) rfl
theorem wm_C_22 : Cond.methodLinkNest "CounterLeaper" 22 ({ cls := "CounterLeaper$Program", name := "<init>", desc := "()V" } : MethodName) "CounterLeaper" ∈ qTbl := q_t1 (List.mem_of_getElem? (i := 62) rfl) rfl
theorem wm_P_3 : Cond.methodLink "CounterLeaper$Program" 3 ({ cls := "java/lang/Object", name := "<init>", desc := "()V" } : MethodName) ∈ qTbl := q_t1 (List.mem_of_getElem? (i := 65) rfl) rfl
theorem wf_P_9 : Cond.fieldLink "CounterLeaper$Program" 9 "CounterLeaper$Program" "kinds" "[I" ∈ qTbl := q_t1 (List.mem_of_getElem? (i := 66) rfl) rfl
theorem wf_S_51 : Cond.fieldLinkNest "CounterLeaper$Pass" 51 "CounterLeaper$Program" "kinds" "[I" "CounterLeaper" ∈ qTbl := q_t1 (List.mem_of_getElem? (i := 67) rfl) rfl
theorem wf_M_34 : Cond.fieldLinkNest "CounterLeaper$Machine" 34 "CounterLeaper$Program" "kinds" "[I" "CounterLeaper" ∈ qTbl := q_t1 (List.mem_of_getElem? (i := 68) rfl) rfl
theorem wf_C_92 : Cond.fieldLinkNest "CounterLeaper" 92 "CounterLeaper$Program" "kinds" "[I" "CounterLeaper" ∈ qTbl := q_t1 (List.mem_of_getElem? (i := 69) rfl) rfl
theorem wf_R_95 : Cond.fieldLinkNest "CounterLeaper$Reader" 95 "CounterLeaper$Program" "kinds" "[I" "CounterLeaper" ∈ qTbl := q_t1 (List.mem_of_getElem? (i := 70) rfl) rfl
theorem wf_P_15 : Cond.fieldLink "CounterLeaper$Program" 15 "CounterLeaper$Program" "counters" "[I" ∈ qTbl := q_t1 (List.mem_of_getElem? (i := 71) rfl) rfl
theorem wf_S_48 : Cond.fieldLinkNest "CounterLeaper$Pass" 48 "CounterLeaper$Program" "counters" "[I" "CounterLeaper" ∈ qTbl := q_t1 (List.mem_of_getElem? (i := 72) rfl) rfl
theorem wf_M_41 : Cond.fieldLinkNest "CounterLeaper$Machine" 41 "CounterLeaper$Program" "counters" "[I" "CounterLeaper" ∈ qTbl := q_t1 (List.mem_of_getElem? (i := 73) rfl) rfl
theorem wf_C_96 : Cond.fieldLinkNest "CounterLeaper" 96 "CounterLeaper$Program" "counters" "[I" "CounterLeaper" ∈ qTbl := q_t1 (List.mem_of_getElem? (i := 74) rfl) rfl
theorem wf_P_18 : Cond.fieldLink "CounterLeaper$Program" 18 "CounterLeaper$Program" "targets" "[I" ∈ qTbl := q_t1 (List.mem_of_getElem? (i := 75) rfl) rfl
theorem wf_C_99 : Cond.fieldLinkNest "CounterLeaper" 99 "CounterLeaper$Program" "targets" "[I" "CounterLeaper" ∈ qTbl := q_t1 (List.mem_of_getElem? (i := 76) rfl) rfl
theorem wf_M_53 : Cond.fieldLinkNest "CounterLeaper$Machine" 53 "CounterLeaper$Program" "targets" "[I" "CounterLeaper" ∈ qTbl := q_t1 (List.mem_of_getElem? (i := 77) rfl) rfl
theorem wf_R_98 : Cond.fieldLinkNest "CounterLeaper$Reader" 98 "CounterLeaper$Program" "targets" "[I" "CounterLeaper" ∈ qTbl := q_t1 (List.mem_of_getElem? (i := 78) rfl) rfl
theorem wf_P_36 : Cond.fieldLink "CounterLeaper$Program" 36 "CounterLeaper$Program" "count" "I" ∈ qTbl := q_t1 (List.mem_of_getElem? (i := 79) rfl) rfl
theorem wf_M_29 : Cond.fieldLinkNest "CounterLeaper$Machine" 29 "CounterLeaper$Program" "count" "I" "CounterLeaper" ∈ qTbl := q_t1 (List.mem_of_getElem? (i := 80) rfl) rfl
theorem wf_R_41 : Cond.fieldLinkNest "CounterLeaper$Reader" 41 "CounterLeaper$Program" "count" "I" "CounterLeaper" ∈ qTbl := q_t1 (List.mem_of_getElem? (i := 81) rfl) rfl
theorem wf_C_89 : Cond.fieldLinkNest "CounterLeaper" 89 "CounterLeaper$Program" "count" "I" "CounterLeaper" ∈ qTbl := q_t1 (List.mem_of_getElem? (i := 82) rfl) rfl
theorem wf_P_21 : Cond.fieldLink "CounterLeaper$Program" 21 "CounterLeaper$Program" "drainEnds" "[I" ∈ qTbl := q_t1 (List.mem_of_getElem? (i := 83) rfl) rfl
theorem wf_P_24 : Cond.fieldLink "CounterLeaper$Program" 24 "CounterLeaper$Program" "loopsByHead" "[I" ∈ qTbl := q_t1 (List.mem_of_getElem? (i := 84) rfl) rfl
theorem wf_P_27 : Cond.fieldLink "CounterLeaper$Program" 27 "CounterLeaper$Program" "loopHeads" "[I" ∈ qTbl := q_t1 (List.mem_of_getElem? (i := 85) rfl) rfl
theorem wf_S_32 : Cond.fieldLinkNest "CounterLeaper$Pass" 32 "CounterLeaper$Program" "loopHeads" "[I" "CounterLeaper" ∈ qTbl := q_t1 (List.mem_of_getElem? (i := 86) rfl) rfl
theorem wf_C_105 : Cond.fieldLinkNest "CounterLeaper" 105 "CounterLeaper$Program" "loopHeads" "[I" "CounterLeaper" ∈ qTbl := q_t1 (List.mem_of_getElem? (i := 87) rfl) rfl
theorem wf_P_30 : Cond.fieldLink "CounterLeaper$Program" 30 "CounterLeaper$Program" "loopEnds" "[I" ∈ qTbl := q_t1 (List.mem_of_getElem? (i := 88) rfl) rfl
theorem wf_S_37 : Cond.fieldLinkNest "CounterLeaper$Pass" 37 "CounterLeaper$Program" "loopEnds" "[I" "CounterLeaper" ∈ qTbl := q_t1 (List.mem_of_getElem? (i := 89) rfl) rfl
theorem wf_C_108 : Cond.fieldLinkNest "CounterLeaper" 108 "CounterLeaper$Program" "loopEnds" "[I" "CounterLeaper" ∈ qTbl := q_t1 (List.mem_of_getElem? (i := 90) rfl) rfl
theorem wf_P_33 : Cond.fieldLink "CounterLeaper$Program" 33 "CounterLeaper$Program" "loopDrains" "[I" ∈ qTbl := q_t1 (List.mem_of_getElem? (i := 91) rfl) rfl
theorem wf_C_111 : Cond.fieldLinkNest "CounterLeaper" 111 "CounterLeaper$Program" "loopDrains" "[I" "CounterLeaper" ∈ qTbl := q_t1 (List.mem_of_getElem? (i := 92) rfl) rfl
theorem wf_P_44 : Cond.fieldLink "CounterLeaper$Program" 44 "CounterLeaper$Program" "loopCount" "I" ∈ qTbl := q_t1 (List.mem_of_getElem? (i := 93) rfl) rfl
theorem wf_C_102 : Cond.fieldLinkNest "CounterLeaper" 102 "CounterLeaper$Program" "loopCount" "I" "CounterLeaper" ∈ qTbl := q_t1 (List.mem_of_getElem? (i := 94) rfl) rfl
theorem wx_C_30 : Cond.classLink "CounterLeaper" 30 "CounterLeaper$Machine" ∈ qTbl := q_t1 (List.mem_of_getElem? (i := 116) rfl) rfl
theorem wz_M : Cond.instantiable "CounterLeaper$Machine" 3 ∈ qTbl := q_t1 (List.mem_of_getElem? (i := 117) rfl) rfl
theorem wm_C_32 : Cond.methodLinkNest "CounterLeaper" 32 ({ cls := "CounterLeaper$Machine", name := "<init>", desc := "()V" } : MethodName) "CounterLeaper" ∈ qTbl := q_t1 (List.mem_of_getElem? (i := 118) rfl) rfl
theorem wm_M_3 : Cond.methodLink "CounterLeaper$Machine" 3 ({ cls := "java/lang/Object", name := "<init>", desc := "()V" } : MethodName) ∈ qTbl := q_t1 (List.mem_of_getElem? (i := 121) rfl) rfl
theorem wf_M_9 : Cond.fieldLink "CounterLeaper$Machine" 9 "CounterLeaper$Machine" "values" "[I" ∈ qTbl := q_t1 (List.mem_of_getElem? (i := 122) rfl) rfl
theorem wf_C_117 : Cond.fieldLinkNest "CounterLeaper" 117 "CounterLeaper$Machine" "values" "[I" "CounterLeaper" ∈ qTbl := q_t1 (List.mem_of_getElem? (i := 123) rfl) rfl
theorem wf_M_21 : Cond.fieldLink "CounterLeaper$Machine" 21 "CounterLeaper$Machine" "place" "I" ∈ qTbl := q_t1 (List.mem_of_getElem? (i := 124) rfl) rfl
theorem wf_C_173 : Cond.fieldLinkNest "CounterLeaper" 173 "CounterLeaper$Machine" "place" "I" "CounterLeaper" ∈ qTbl := q_t1 (List.mem_of_getElem? (i := 125) rfl) rfl
theorem wf_M_25 : Cond.fieldLink "CounterLeaper$Machine" 25 "CounterLeaper$Machine" "steps" "J" ∈ qTbl := q_t1 (List.mem_of_getElem? (i := 126) rfl) rfl
theorem wf_C_166 : Cond.fieldLinkNest "CounterLeaper" 166 "CounterLeaper$Machine" "steps" "J" "CounterLeaper" ∈ qTbl := q_t1 (List.mem_of_getElem? (i := 127) rfl) rfl
theorem wx_C_43 : Cond.classLink "CounterLeaper" 43 "CounterLeaper$Pass" ∈ qTbl := q_t1 (List.mem_of_getElem? (i := 135) rfl) rfl
theorem wz_S : Cond.instantiable "CounterLeaper$Pass" 7 ∈ qTbl := q_t1 (List.mem_of_getElem? (i := 136) rfl) rfl
theorem wm_C_45 : Cond.methodLinkNest "CounterLeaper" 45 ({ cls := "CounterLeaper$Pass", name := "<init>", desc := "()V" } : MethodName) "CounterLeaper" ∈ qTbl := q_t1 (List.mem_of_getElem? (i := 137) rfl) rfl
theorem wm_S_3 : Cond.methodLink "CounterLeaper$Pass" 3 ({ cls := "java/lang/Object", name := "<init>", desc := "()V" } : MethodName) ∈ qTbl := q_t1 (List.mem_of_getElem? (i := 140) rfl) rfl
theorem wf_S_9 : Cond.fieldLink "CounterLeaper$Pass" 9 "CounterLeaper$Pass" "values" "[I" ∈ qTbl := q_t1 (List.mem_of_getElem? (i := 141) rfl) rfl
theorem wf_S_15 : Cond.fieldLink "CounterLeaper$Pass" 15 "CounterLeaper$Pass" "lows" "[I" ∈ qTbl := q_t1 (List.mem_of_getElem? (i := 142) rfl) rfl
theorem wf_S_18 : Cond.fieldLink "CounterLeaper$Pass" 18 "CounterLeaper$Pass" "highs" "[I" ∈ qTbl := q_t1 (List.mem_of_getElem? (i := 143) rfl) rfl
theorem wf_S_21 : Cond.fieldLink "CounterLeaper$Pass" 21 "CounterLeaper$Pass" "changes" "[I" ∈ qTbl := q_t1 (List.mem_of_getElem? (i := 144) rfl) rfl
theorem wf_M_56 : Cond.fieldLinkNest "CounterLeaper$Machine" 56 "CounterLeaper$Pass" "changes" "[I" "CounterLeaper" ∈ qTbl := q_t1 (List.mem_of_getElem? (i := 145) rfl) rfl
theorem wf_C_190 : Cond.fieldLinkNest "CounterLeaper" 190 "CounterLeaper$Pass" "changes" "[I" "CounterLeaper" ∈ qTbl := q_t1 (List.mem_of_getElem? (i := 146) rfl) rfl
theorem wf_S_24 : Cond.fieldLink "CounterLeaper$Pass" 24 "CounterLeaper$Pass" "drained" "[Z" ∈ qTbl := q_t1 (List.mem_of_getElem? (i := 147) rfl) rfl
theorem wf_S_40 : Cond.fieldLink "CounterLeaper$Pass" 40 "CounterLeaper$Pass" "full" "Z" ∈ qTbl := q_t1 (List.mem_of_getElem? (i := 148) rfl) rfl
theorem wf_S_58 : Cond.fieldLink "CounterLeaper$Pass" 58 "CounterLeaper$Pass" "length" "J" ∈ qTbl := q_t1 (List.mem_of_getElem? (i := 149) rfl) rfl
theorem wf_M_61 : Cond.fieldLinkNest "CounterLeaper$Machine" 61 "CounterLeaper$Pass" "length" "J" "CounterLeaper" ∈ qTbl := q_t1 (List.mem_of_getElem? (i := 150) rfl) rfl
theorem wf_C_218 : Cond.fieldLinkNest "CounterLeaper" 218 "CounterLeaper$Pass" "length" "J" "CounterLeaper" ∈ qTbl := q_t1 (List.mem_of_getElem? (i := 151) rfl) rfl
theorem wf_C_9 : Cond.fieldLink "CounterLeaper" 9 "CounterLeaper" "text" "[C" ∈ qTbl := q_t1 (List.mem_of_getElem? (i := 168) rfl) rfl
theorem wf_C_67 : Cond.fieldLink "CounterLeaper" 67 "CounterLeaper" "textLength" "I" ∈ qTbl := q_t1 (List.mem_of_getElem? (i := 169) rfl) rfl
theorem wf_C_16 : Cond.fieldLink "CounterLeaper" 16 "CounterLeaper" "reader" "LCounterLeaper$Reader;" ∈ qTbl := q_t1 (List.mem_of_getElem? (i := 170) rfl) rfl
theorem wf_C_23 : Cond.fieldLink "CounterLeaper" 23 "CounterLeaper" "program" "LCounterLeaper$Program;" ∈ qTbl := q_t1 (List.mem_of_getElem? (i := 171) rfl) rfl
theorem wf_C_27 : Cond.fieldLink "CounterLeaper" 27 "CounterLeaper" "draft" "LCounterLeaper$Program;" ∈ qTbl := q_t1 (List.mem_of_getElem? (i := 172) rfl) rfl
theorem wf_C_33 : Cond.fieldLink "CounterLeaper" 33 "CounterLeaper" "machine" "LCounterLeaper$Machine;" ∈ qTbl := q_t1 (List.mem_of_getElem? (i := 173) rfl) rfl
theorem wf_C_37 : Cond.fieldLink "CounterLeaper" 37 "CounterLeaper" "begun" "LCounterLeaper$Machine;" ∈ qTbl := q_t1 (List.mem_of_getElem? (i := 174) rfl) rfl
theorem wf_C_40 : Cond.fieldLink "CounterLeaper" 40 "CounterLeaper" "kept" "LCounterLeaper$Machine;" ∈ qTbl := q_t1 (List.mem_of_getElem? (i := 175) rfl) rfl
theorem wf_C_46 : Cond.fieldLink "CounterLeaper" 46 "CounterLeaper" "pass" "LCounterLeaper$Pass;" ∈ qTbl := q_t1 (List.mem_of_getElem? (i := 176) rfl) rfl
theorem wf_C_50 : Cond.fieldLink "CounterLeaper" 50 "CounterLeaper" "leapsOn" "Z" ∈ qTbl := q_t1 (List.mem_of_getElem? (i := 177) rfl) rfl
theorem wf_C_193 : Cond.fieldLink "CounterLeaper" 193 "CounterLeaper" "leapCount" "I" ∈ qTbl := q_t1 (List.mem_of_getElem? (i := 178) rfl) rfl
theorem wf_C_198 : Cond.fieldLink "CounterLeaper" 198 "CounterLeaper" "leapHead" "I" ∈ qTbl := q_t1 (List.mem_of_getElem? (i := 179) rfl) rfl
theorem wf_C_201 : Cond.fieldLink "CounterLeaper" 201 "CounterLeaper" "leapPasses" "J" ∈ qTbl := q_t1 (List.mem_of_getElem? (i := 180) rfl) rfl
theorem wf_C_204 : Cond.fieldLink "CounterLeaper" 204 "CounterLeaper" "leapSteps" "J" ∈ qTbl := q_t1 (List.mem_of_getElem? (i := 181) rfl) rfl
theorem wm_L_59 : Cond.methodLink "CounterLeaperLaw" 59 ({ cls := "CounterLeaper", name := "wipe", desc := "()I" } : MethodName) ∈ qTbl := q_t1 (List.mem_of_getElem? (i := 211) rfl) rfl
theorem wm_L_63 : Cond.methodLink "CounterLeaperLaw" 63 ({ cls := "CounterLeaper", name := "compile", desc := "()I" } : MethodName) ∈ qTbl := q_t1 (List.mem_of_getElem? (i := 215) rfl) rfl
theorem wm_C_76 : Cond.methodLinkNest "CounterLeaper" 76 ({ cls := "CounterLeaper$Reader", name := "faultOf", desc := "([CILCounterLeaper$Program;)I" } : MethodName) "CounterLeaper" ∈ qTbl := q_t1 (List.mem_of_getElem? (i := 219) rfl) rfl
theorem wm_R_21 : Cond.methodLink "CounterLeaper$Reader" 21 ({ cls := "CounterLeaper$Reader", name := "clear", desc := "(LCounterLeaper$Program;)V" } : MethodName) ∈ qTbl := q_t1 (List.mem_of_getElem? (i := 223) rfl) rfl
theorem wm_R_25 : Cond.methodLink "CounterLeaper$Reader" 25 ({ cls := "CounterLeaper$Reader", name := "accepts", desc := "(CI)Z" } : MethodName) ∈ qTbl := q_t1 (List.mem_of_getElem? (i := 227) rfl) rfl
theorem wm_R_54 : Cond.methodLink "CounterLeaper$Reader" 54 ({ cls := "CounterLeaper$Reader", name := "acceptsFirst", desc := "(C)Z" } : MethodName) ∈ qTbl := q_t1 (List.mem_of_getElem? (i := 231) rfl) rfl
theorem wm_R_70 : Cond.methodLinkNest "CounterLeaper$Reader" 70 ({ cls := "CounterLeaper$Program", name := "isFull", desc := "()Z" } : MethodName) "CounterLeaper" ∈ qTbl := q_t1 (List.mem_of_getElem? (i := 235) rfl) rfl
theorem wm_R_73 : Cond.methodLink "CounterLeaper$Reader" 73 ({ cls := "CounterLeaper$Reader", name := "isLabel", desc := "(C)Z" } : MethodName) ∈ qTbl := q_t1 (List.mem_of_getElem? (i := 239) rfl) rfl
theorem wm_R_82 : Cond.methodLink "CounterLeaper$Reader" 82 ({ cls := "CounterLeaper$Reader", name := "expect", desc := "(II)V" } : MethodName) ∈ qTbl := q_t2 (List.mem_of_getElem? (i := 2) rfl) rfl
theorem wm_R_89 : Cond.methodLink "CounterLeaper$Reader" 89 ({ cls := "CounterLeaper$Reader", name := "finish", desc := "()V" } : MethodName) ∈ qTbl := q_t2 (List.mem_of_getElem? (i := 6) rfl) rfl
theorem wm_R_92 : Cond.methodLinkNest "CounterLeaper$Reader" 92 ({ cls := "CounterLeaper$Program", name := "add", desc := "(II)V" } : MethodName) "CounterLeaper" ∈ qTbl := q_t2 (List.mem_of_getElem? (i := 10) rfl) rfl
theorem wm_R_58 : Cond.methodLink "CounterLeaper$Reader" 58 ({ cls := "CounterLeaper$Reader", name := "acceptsColon", desc := "(C)Z" } : MethodName) ∈ qTbl := q_t2 (List.mem_of_getElem? (i := 14) rfl) rfl
theorem wm_R_61 : Cond.methodLink "CounterLeaper$Reader" 61 ({ cls := "CounterLeaper$Reader", name := "acceptsCounter", desc := "(C)Z" } : MethodName) ∈ qTbl := q_t2 (List.mem_of_getElem? (i := 18) rfl) rfl
theorem wm_R_64 : Cond.methodLink "CounterLeaper$Reader" 64 ({ cls := "CounterLeaper$Reader", name := "acceptsNamed", desc := "(CI)Z" } : MethodName) ∈ qTbl := q_t2 (List.mem_of_getElem? (i := 22) rfl) rfl
theorem wm_R_67 : Cond.methodLink "CounterLeaper$Reader" 67 ({ cls := "CounterLeaper$Reader", name := "acceptsSemicolon", desc := "(C)Z" } : MethodName) ∈ qTbl := q_t2 (List.mem_of_getElem? (i := 26) rfl) rfl
theorem wm_R_29 : Cond.methodLink "CounterLeaper$Reader" 29 ({ cls := "CounterLeaper$Reader", name := "mayEnd", desc := "()Z" } : MethodName) ∈ qTbl := q_t2 (List.mem_of_getElem? (i := 30) rfl) rfl
theorem wm_R_33 : Cond.methodLink "CounterLeaper$Reader" 33 ({ cls := "CounterLeaper$Reader", name := "faultOfLabels", desc := "()I" } : MethodName) ∈ qTbl := q_t2 (List.mem_of_getElem? (i := 34) rfl) rfl
theorem wm_C_80 : Cond.methodLinkNest "CounterLeaper" 80 ({ cls := "CounterLeaper$Program", name := "findDrains", desc := "()V" } : MethodName) "CounterLeaper" ∈ qTbl := q_t2 (List.mem_of_getElem? (i := 38) rfl) rfl
theorem wm_P_40 : Cond.methodLink "CounterLeaper$Program" 40 ({ cls := "CounterLeaper$Program", name := "drainEndFrom", desc := "(I)I" } : MethodName) ∈ qTbl := q_t2 (List.mem_of_getElem? (i := 42) rfl) rfl
theorem wm_C_83 : Cond.methodLinkNest "CounterLeaper" 83 ({ cls := "CounterLeaper$Program", name := "findLoops", desc := "()V" } : MethodName) "CounterLeaper" ∈ qTbl := q_t2 (List.mem_of_getElem? (i := 46) rfl) rfl
theorem wm_P_47 : Cond.methodLink "CounterLeaper$Program" 47 ({ cls := "CounterLeaper$Program", name := "addLoopFrom", desc := "(I)V" } : MethodName) ∈ qTbl := q_t2 (List.mem_of_getElem? (i := 50) rfl) rfl
theorem wm_P_51 : Cond.methodLink "CounterLeaper$Program" 51 ({ cls := "CounterLeaper$Program", name := "drainInLoop", desc := "(II)I" } : MethodName) ∈ qTbl := q_t2 (List.mem_of_getElem? (i := 54) rfl) rfl
theorem wm_P_55 : Cond.methodLink "CounterLeaper$Program" 55 ({ cls := "java/lang/Math", name := "max", desc := "(II)I" } : MethodName) ∈ qTbl := q_t2 (List.mem_of_getElem? (i := 58) rfl) rfl
theorem wm_C_86 : Cond.methodLink "CounterLeaper" 86 ({ cls := "CounterLeaper", name := "begin", desc := "()V" } : MethodName) ∈ qTbl := q_t2 (List.mem_of_getElem? (i := 61) rfl) rfl
theorem wm_C_153 : Cond.methodLinkNest "CounterLeaper" 153 ({ cls := "CounterLeaper$Machine", name := "copyFrom", desc := "(LCounterLeaper$Machine;)V" } : MethodName) "CounterLeaper" ∈ qTbl := q_t2 (List.mem_of_getElem? (i := 65) rfl) rfl
theorem wm_M_15 : Cond.methodLink "CounterLeaper$Machine" 15 ({ cls := "java/lang/System", name := "arraycopy", desc := "(Ljava/lang/Object;ILjava/lang/Object;II)V" } : MethodName) ∈ qTbl := q_t2 (List.mem_of_getElem? (i := 69) rfl) rfl
theorem wm_L_67 : Cond.methodLink "CounterLeaperLaw" 67 ({ cls := "CounterLeaper", name := "size", desc := "()I" } : MethodName) ∈ qTbl := q_t2 (List.mem_of_getElem? (i := 72) rfl) rfl
theorem wm_L_71 : Cond.methodLink "CounterLeaperLaw" 71 ({ cls := "CounterLeaper", name := "instruction", desc := "(II)I" } : MethodName) ∈ qTbl := q_t2 (List.mem_of_getElem? (i := 76) rfl) rfl
theorem wm_L_75 : Cond.methodLink "CounterLeaperLaw" 75 ({ cls := "CounterLeaper", name := "loops", desc := "()I" } : MethodName) ∈ qTbl := q_t2 (List.mem_of_getElem? (i := 80) rfl) rfl
theorem wm_L_79 : Cond.methodLink "CounterLeaperLaw" 79 ({ cls := "CounterLeaper", name := "loop", desc := "(II)I" } : MethodName) ∈ qTbl := q_t2 (List.mem_of_getElem? (i := 84) rfl) rfl
theorem wm_L_91 : Cond.methodLink "CounterLeaperLaw" 91 ({ cls := "CounterLeaper", name := "leaps", desc := "(Z)V" } : MethodName) ∈ qTbl := q_t2 (List.mem_of_getElem? (i := 88) rfl) rfl
theorem wm_L_107 : Cond.methodLink "CounterLeaperLaw" 107 ({ cls := "CounterLeaper", name := "state", desc := "()I" } : MethodName) ∈ qTbl := q_t2 (List.mem_of_getElem? (i := 92) rfl) rfl
theorem wk_C_127 : Cond.constantLong "CounterLeaper" 127 (1000000000000000 : Int64) ∈ qTbl := q_t2 (List.mem_of_getElem? (i := 96) rfl) rfl
theorem wm_C_129 : Cond.methodLink "CounterLeaper" 129 ({ cls := "CounterLeaper", name := "passesUntil", desc := "(J)J" } : MethodName) ∈ qTbl := q_t2 (List.mem_of_getElem? (i := 97) rfl) rfl
theorem wm_C_207 : Cond.methodLinkNest "CounterLeaper" 207 ({ cls := "CounterLeaper$Program", name := "loopFrom", desc := "(I)I" } : MethodName) "CounterLeaper" ∈ qTbl := q_t2 (List.mem_of_getElem? (i := 101) rfl) rfl
theorem wm_C_181 : Cond.methodLinkNest "CounterLeaper" 181 ({ cls := "CounterLeaper$Pass", name := "follow", desc := "(LCounterLeaper$Program;I[I)V" } : MethodName) "CounterLeaper" ∈ qTbl := q_t2 (List.mem_of_getElem? (i := 105) rfl) rfl
theorem wm_S_28 : Cond.methodLink "CounterLeaper$Pass" 28 ({ cls := "CounterLeaper$Pass", name := "clear", desc := "([I)V" } : MethodName) ∈ qTbl := q_t2 (List.mem_of_getElem? (i := 109) rfl) rfl
theorem wm_S_44 : Cond.methodLinkNest "CounterLeaper$Pass" 44 ({ cls := "CounterLeaper$Program", name := "drainInLoop", desc := "(II)I" } : MethodName) "CounterLeaper" ∈ qTbl := q_t2 (List.mem_of_getElem? (i := 113) rfl) rfl
theorem wm_S_54 : Cond.methodLink "CounterLeaper$Pass" 54 ({ cls := "CounterLeaper$Pass", name := "count", desc := "(II)V" } : MethodName) ∈ qTbl := q_t2 (List.mem_of_getElem? (i := 114) rfl) rfl
theorem wk_S_71 : Cond.constant "CounterLeaper$Pass" 71 (1000000 : Int32) ∈ qTbl := q_t2 (List.mem_of_getElem? (i := 118) rfl) rfl
theorem wm_S_72 : Cond.methodLink "CounterLeaper$Pass" 72 ({ cls := "java/lang/Math", name := "min", desc := "(II)I" } : MethodName) ∈ qTbl := q_t2 (List.mem_of_getElem? (i := 119) rfl) rfl
theorem wm_S_66 : Cond.methodLink "CounterLeaper$Pass" 66 ({ cls := "java/lang/Math", name := "max", desc := "(II)I" } : MethodName) ∈ qTbl := q_t2 (List.mem_of_getElem? (i := 122) rfl) rfl
theorem wm_S_62 : Cond.methodLink "CounterLeaper$Pass" 62 ({ cls := "CounterLeaper$Pass", name := "drain", desc := "(LCounterLeaper$Program;II)V" } : MethodName) ∈ qTbl := q_t2 (List.mem_of_getElem? (i := 123) rfl) rfl
theorem wm_C_185 : Cond.methodLinkNest "CounterLeaper" 185 ({ cls := "CounterLeaper$Pass", name := "passesIn", desc := "(J)J" } : MethodName) "CounterLeaper" ∈ qTbl := q_t2 (List.mem_of_getElem? (i := 127) rfl) rfl
theorem wm_S_75 : Cond.methodLink "CounterLeaper$Pass" 75 ({ cls := "CounterLeaper$Pass", name := "changesDrained", desc := "()Z" } : MethodName) ∈ qTbl := q_t2 (List.mem_of_getElem? (i := 131) rfl) rfl
theorem wm_S_79 : Cond.methodLink "CounterLeaper$Pass" 79 ({ cls := "CounterLeaper$Pass", name := "passesOf", desc := "(I)J" } : MethodName) ∈ qTbl := q_t2 (List.mem_of_getElem? (i := 135) rfl) rfl
theorem wk_S_86 : Cond.constantLong "CounterLeaper$Pass" 86 (1000000000000000 : Int64) ∈ qTbl := q_t2 (List.mem_of_getElem? (i := 139) rfl) rfl
theorem wm_S_83 : Cond.methodLink "CounterLeaper$Pass" 83 ({ cls := "java/lang/Math", name := "min", desc := "(JJ)J" } : MethodName) ∈ qTbl := q_t2 (List.mem_of_getElem? (i := 140) rfl) rfl
theorem wm_C_133 : Cond.methodLink "CounterLeaper" 133 ({ cls := "CounterLeaper", name := "stateWith", desc := "(J)I" } : MethodName) ∈ qTbl := q_t2 (List.mem_of_getElem? (i := 143) rfl) rfl
theorem wm_C_170 : Cond.methodLinkNest "CounterLeaper" 170 ({ cls := "CounterLeaper$Machine", name := "isHalted", desc := "(LCounterLeaper$Program;)Z" } : MethodName) "CounterLeaper" ∈ qTbl := q_t2 (List.mem_of_getElem? (i := 147) rfl) rfl
theorem wm_C_211 : Cond.methodLinkNest "CounterLeaper" 211 ({ cls := "CounterLeaper$Machine", name := "isStuck", desc := "(LCounterLeaper$Program;)Z" } : MethodName) "CounterLeaper" ∈ qTbl := q_t2 (List.mem_of_getElem? (i := 151) rfl) rfl
theorem wm_M_37 : Cond.methodLink "CounterLeaper$Machine" 37 ({ cls := "CounterLeaper$Machine", name := "isHalted", desc := "(LCounterLeaper$Program;)Z" } : MethodName) ∈ qTbl := q_t2 (List.mem_of_getElem? (i := 155) rfl) rfl
theorem wk_M_44 : Cond.constant "CounterLeaper$Machine" 44 (1000000 : Int32) ∈ qTbl := q_t2 (List.mem_of_getElem? (i := 156) rfl) rfl
theorem wk_M_45 : Cond.constantLong "CounterLeaper$Machine" 45 (1000000000000000 : Int64) ∈ qTbl := q_t2 (List.mem_of_getElem? (i := 157) rfl) rfl
theorem wm_C_214 : Cond.methodLinkNest "CounterLeaper" 214 ({ cls := "CounterLeaper$Pass", name := "changesNothing", desc := "()Z" } : MethodName) "CounterLeaper" ∈ qTbl := q_t2 (List.mem_of_getElem? (i := 158) rfl) rfl
theorem wm_L_111 : Cond.methodLink "CounterLeaperLaw" 111 ({ cls := "CounterLeaper", name := "at", desc := "()I" } : MethodName) ∈ qTbl := q_t2 (List.mem_of_getElem? (i := 162) rfl) rfl
theorem wm_L_115 : Cond.methodLink "CounterLeaperLaw" 115 ({ cls := "CounterLeaper", name := "steps", desc := "()J" } : MethodName) ∈ qTbl := q_t2 (List.mem_of_getElem? (i := 166) rfl) rfl
theorem wm_L_120 : Cond.methodLink "CounterLeaperLaw" 120 ({ cls := "CounterLeaper", name := "counter", desc := "(I)I" } : MethodName) ∈ qTbl := q_t2 (List.mem_of_getElem? (i := 170) rfl) rfl
theorem wm_L_128 : Cond.methodLink "CounterLeaperLaw" 128 ({ cls := "CounterLeaper", name := "leap", desc := "(I)J" } : MethodName) ∈ qTbl := q_t2 (List.mem_of_getElem? (i := 174) rfl) rfl
theorem wk_C_196 : Cond.constantLong "CounterLeaper" 196 (-1 : Int64) ∈ qTbl := q_t2 (List.mem_of_getElem? (i := 178) rfl) rfl
theorem wm_L_49 : Cond.methodLink "CounterLeaperLaw" 49 ({ cls := "CounterLeaperLaw", name := "type", desc := "(LCounterLeaper;JI[J)I" } : MethodName) ∈ qTbl := q_t2 (List.mem_of_getElem? (i := 179) rfl) rfl
theorem wx_L_13 : Cond.classLink "CounterLeaperLaw" 13 "java/lang/IllegalArgumentException" ∈ qTbl := q_t2 (List.mem_of_getElem? (i := 182) rfl) rfl
theorem wx_L_15 : Cond.classLink "CounterLeaperLaw" 15 "java/lang/UnsupportedOperationException" ∈ qTbl := q_t2 (List.mem_of_getElem? (i := 183) rfl) rfl
theorem wm_L_7 : Cond.methodLink "CounterLeaperLaw" 7 ({ cls := "CounterLeaper", name := "type", desc := "(JI)I" } : MethodName) ∈ qTbl := q_t2 (List.mem_of_getElem? (i := 184) rfl) rfl
theorem wx_C_54 : Cond.classLink "CounterLeaper" 54 "java/lang/IllegalArgumentException" ∈ qTbl := q_t2 (List.mem_of_getElem? (i := 188) rfl) rfl
theorem wm_C_58 : Cond.methodLink "CounterLeaper" 58 ({ cls := "java/lang/IllegalArgumentException", name := "<init>", desc := "(Ljava/lang/String;)V" } : MethodName) ∈ qTbl := q_t2 (List.mem_of_getElem? (i := 231) rfl) rfl
theorem wm_C_61 : Cond.methodLink "CounterLeaper" 61 ({ cls := "CounterLeaper", name := "byteOf", desc := "(JI)I" } : MethodName) ∈ qTbl := q_t3 (List.mem_of_getElem? (i := 17) rfl) rfl
theorem wx_C_71 : Cond.classLink "CounterLeaper" 71 "java/lang/UnsupportedOperationException" ∈ qTbl := q_t3 (List.mem_of_getElem? (i := 21) rfl) rfl
theorem wm_C_75 : Cond.methodLink "CounterLeaper" 75 ({ cls := "java/lang/UnsupportedOperationException", name := "<init>", desc := "(Ljava/lang/String;)V" } : MethodName) ∈ qTbl := q_t3 (List.mem_of_getElem? (i := 31) rfl) rfl
theorem wm_L_83 : Cond.methodLink "CounterLeaperLaw" 83 ({ cls := "CounterLeaperLaw", name := "set", desc := "(LCounterLeaper;II)I" } : MethodName) ∈ qTbl := q_t3 (List.mem_of_getElem? (i := 37) rfl) rfl
theorem wm_L_17 : Cond.methodLink "CounterLeaperLaw" 17 ({ cls := "CounterLeaper", name := "set", desc := "(II)V" } : MethodName) ∈ qTbl := q_t3 (List.mem_of_getElem? (i := 40) rfl) rfl
theorem wk_C_114 : Cond.constant "CounterLeaper" 114 (1000000 : Int32) ∈ qTbl := q_t3 (List.mem_of_getElem? (i := 44) rfl) rfl
theorem wm_L_87 : Cond.methodLink "CounterLeaperLaw" 87 ({ cls := "CounterLeaperLaw", name := "start", desc := "(LCounterLeaper;)I" } : MethodName) ∈ qTbl := q_t3 (List.mem_of_getElem? (i := 46) rfl) rfl
theorem wx_L_24 : Cond.classLink "CounterLeaperLaw" 24 "java/lang/IllegalStateException" ∈ qTbl := q_t3 (List.mem_of_getElem? (i := 49) rfl) rfl
theorem wm_L_21 : Cond.methodLink "CounterLeaperLaw" 21 ({ cls := "CounterLeaper", name := "start", desc := "()V" } : MethodName) ∈ qTbl := q_t3 (List.mem_of_getElem? (i := 50) rfl) rfl
theorem wx_C_120 : Cond.classLink "CounterLeaper" 120 "java/lang/IllegalStateException" ∈ qTbl := q_t3 (List.mem_of_getElem? (i := 54) rfl) rfl
theorem wm_C_124 : Cond.methodLink "CounterLeaper" 124 ({ cls := "java/lang/IllegalStateException", name := "<init>", desc := "(Ljava/lang/String;)V" } : MethodName) ∈ qTbl := q_t3 (List.mem_of_getElem? (i := 64) rfl) rfl
theorem wm_L_96 : Cond.methodLink "CounterLeaperLaw" 96 ({ cls := "CounterLeaperLaw", name := "run", desc := "(LCounterLeaper;I[J)I" } : MethodName) ∈ qTbl := q_t3 (List.mem_of_getElem? (i := 70) rfl) rfl
theorem wm_L_26 : Cond.methodLink "CounterLeaperLaw" 26 ({ cls := "CounterLeaper", name := "run", desc := "(I)I" } : MethodName) ∈ qTbl := q_t3 (List.mem_of_getElem? (i := 73) rfl) rfl
theorem wm_C_137 : Cond.methodLink "CounterLeaper" 137 ({ cls := "CounterLeaper", name := "move", desc := "(J)V" } : MethodName) ∈ qTbl := q_t3 (List.mem_of_getElem? (i := 78) rfl) rfl
theorem wm_C_221 : Cond.methodLinkNest "CounterLeaper" 221 ({ cls := "CounterLeaper$Machine", name := "leapBy", desc := "(LCounterLeaper$Pass;J)V" } : MethodName) "CounterLeaper" ∈ qTbl := q_t3 (List.mem_of_getElem? (i := 82) rfl) rfl
theorem wm_C_147 : Cond.methodLinkNest "CounterLeaper" 147 ({ cls := "CounterLeaper$Machine", name := "step", desc := "(LCounterLeaper$Program;)V" } : MethodName) "CounterLeaper" ∈ qTbl := q_t3 (List.mem_of_getElem? (i := 86) rfl) rfl
theorem wm_M_50 : Cond.methodLink "CounterLeaper$Machine" 50 ({ cls := "CounterLeaper$Machine", name := "rests", desc := "(LCounterLeaper$Program;)Z" } : MethodName) ∈ qTbl := q_t3 (List.mem_of_getElem? (i := 90) rfl) rfl
theorem wm_M_47 : Cond.methodLink "CounterLeaper$Machine" 47 ({ cls := "CounterLeaper$Machine", name := "isStuck", desc := "(LCounterLeaper$Program;)Z" } : MethodName) ∈ qTbl := q_t3 (List.mem_of_getElem? (i := 94) rfl) rfl
theorem wm_L_100 : Cond.methodLink "CounterLeaperLaw" 100 ({ cls := "CounterLeaperLaw", name := "plain", desc := "(LCounterLeaper;I[J)I" } : MethodName) ∈ qTbl := q_t3 (List.mem_of_getElem? (i := 95) rfl) rfl
theorem wm_L_30 : Cond.methodLink "CounterLeaperLaw" 30 ({ cls := "CounterLeaper", name := "plain", desc := "(I)I" } : MethodName) ∈ qTbl := q_t3 (List.mem_of_getElem? (i := 98) rfl) rfl
theorem wm_C_143 : Cond.methodLinkNest "CounterLeaper" 143 ({ cls := "CounterLeaper$Machine", name := "rests", desc := "(LCounterLeaper$Program;)Z" } : MethodName) "CounterLeaper" ∈ qTbl := q_t3 (List.mem_of_getElem? (i := 103) rfl) rfl
theorem wm_L_103 : Cond.methodLink "CounterLeaperLaw" 103 ({ cls := "CounterLeaperLaw", name := "seek", desc := "(LCounterLeaper;J[J)I" } : MethodName) ∈ qTbl := q_t3 (List.mem_of_getElem? (i := 104) rfl) rfl
theorem wm_L_33 : Cond.methodLink "CounterLeaperLaw" 33 ({ cls := "CounterLeaper", name := "seek", desc := "(J)I" } : MethodName) ∈ qTbl := q_t3 (List.mem_of_getElem? (i := 107) rfl) rfl
theorem wm_C_157 : Cond.methodLink "CounterLeaper" 157 ({ cls := "CounterLeaper", name := "goesOnUntil", desc := "(J)Z" } : MethodName) ∈ qTbl := q_t3 (List.mem_of_getElem? (i := 112) rfl) rfl
theorem wm_C_161 : Cond.methodLink "CounterLeaper" 161 ({ cls := "CounterLeaper", name := "advance", desc := "(J)V" } : MethodName) ∈ qTbl := q_t3 (List.mem_of_getElem? (i := 116) rfl) rfl
theorem wm_L_124 : Cond.methodLink "CounterLeaperLaw" 124 ({ cls := "CounterLeaperLaw", name := "change", desc := "(LCounterLeaper;II[J)I" } : MethodName) ∈ qTbl := q_t3 (List.mem_of_getElem? (i := 121) rfl) rfl
theorem wx_L_41 : Cond.classLink "CounterLeaperLaw" 41 "java/lang/IndexOutOfBoundsException" ∈ qTbl := q_t3 (List.mem_of_getElem? (i := 124) rfl) rfl
theorem wm_L_37 : Cond.methodLink "CounterLeaperLaw" 37 ({ cls := "CounterLeaper", name := "change", desc := "(II)I" } : MethodName) ∈ qTbl := q_t3 (List.mem_of_getElem? (i := 125) rfl) rfl
theorem wx_C_176 : Cond.classLink "CounterLeaper" 176 "java/lang/IndexOutOfBoundsException" ∈ qTbl := q_t3 (List.mem_of_getElem? (i := 129) rfl) rfl
theorem wm_C_180 : Cond.methodLink "CounterLeaper" 180 ({ cls := "java/lang/IndexOutOfBoundsException", name := "<init>", desc := "(Ljava/lang/String;)V" } : MethodName) ∈ qTbl := q_t3 (List.mem_of_getElem? (i := 139) rfl) rfl
theorem wx_L_44 : Cond.classLink "CounterLeaperLaw" 44 "CounterLeaperModel" ∈ qTbl := q_t3 (List.mem_of_getElem? (i := 146) rfl) rfl
theorem wz_D : Cond.instantiable "CounterLeaperModel" 32 ∈ qTbl := q_t3 (List.mem_of_getElem? (i := 147) rfl) rfl
theorem wm_L_46 : Cond.methodLink "CounterLeaperLaw" 46 ({ cls := "CounterLeaperModel", name := "<init>", desc := "()V" } : MethodName) ∈ qTbl := q_t3 (List.mem_of_getElem? (i := 148) rfl) rfl
theorem wm_D_1 : Cond.methodLink "CounterLeaperModel" 1 ({ cls := "java/lang/Object", name := "<init>", desc := "()V" } : MethodName) ∈ qTbl := q_t3 (List.mem_of_getElem? (i := 151) rfl) rfl
theorem wf_D_68 : Cond.fieldLink "CounterLeaperModel" 68 "CounterLeaperModel" "code" "I" ∈ qTbl := q_t3 (List.mem_of_getElem? (i := 152) rfl) rfl
theorem wf_D_74 : Cond.fieldLink "CounterLeaperModel" 74 "CounterLeaperModel" "size" "I" ∈ qTbl := q_t3 (List.mem_of_getElem? (i := 153) rfl) rfl
theorem wf_D_7 : Cond.fieldLink "CounterLeaperModel" 7 "CounterLeaperModel" "text" "[I" ∈ qTbl := q_t3 (List.mem_of_getElem? (i := 154) rfl) rfl
theorem wf_D_77 : Cond.fieldLink "CounterLeaperModel" 77 "CounterLeaperModel" "cursor" "I" ∈ qTbl := q_t3 (List.mem_of_getElem? (i := 155) rfl) rfl
theorem wf_D_80 : Cond.fieldLink "CounterLeaperModel" 80 "CounterLeaperModel" "fault" "I" ∈ qTbl := q_t3 (List.mem_of_getElem? (i := 156) rfl) rfl
theorem wf_D_95 : Cond.fieldLink "CounterLeaperModel" 95 "CounterLeaperModel" "read" "I" ∈ qTbl := q_t3 (List.mem_of_getElem? (i := 157) rfl) rfl
theorem wf_D_13 : Cond.fieldLink "CounterLeaperModel" 13 "CounterLeaperModel" "readOp" "[I" ∈ qTbl := q_t3 (List.mem_of_getElem? (i := 158) rfl) rfl
theorem wf_D_16 : Cond.fieldLink "CounterLeaperModel" 16 "CounterLeaperModel" "readCounter" "[I" ∈ qTbl := q_t3 (List.mem_of_getElem? (i := 159) rfl) rfl
theorem wf_D_19 : Cond.fieldLink "CounterLeaperModel" 19 "CounterLeaperModel" "readName" "[I" ∈ qTbl := q_t3 (List.mem_of_getElem? (i := 160) rfl) rfl
theorem wf_D_22 : Cond.fieldLink "CounterLeaperModel" 22 "CounterLeaperModel" "readPlace" "[I" ∈ qTbl := q_t3 (List.mem_of_getElem? (i := 161) rfl) rfl
theorem wf_D_25 : Cond.fieldLink "CounterLeaperModel" 25 "CounterLeaperModel" "labelAt" "[I" ∈ qTbl := q_t3 (List.mem_of_getElem? (i := 162) rfl) rfl
theorem wf_D_109 : Cond.fieldLink "CounterLeaperModel" 109 "CounterLeaperModel" "count" "I" ∈ qTbl := q_t3 (List.mem_of_getElem? (i := 163) rfl) rfl
theorem wf_D_28 : Cond.fieldLink "CounterLeaperModel" 28 "CounterLeaperModel" "op" "[I" ∈ qTbl := q_t3 (List.mem_of_getElem? (i := 164) rfl) rfl
theorem wf_D_31 : Cond.fieldLink "CounterLeaperModel" 31 "CounterLeaperModel" "register" "[I" ∈ qTbl := q_t3 (List.mem_of_getElem? (i := 165) rfl) rfl
theorem wf_D_34 : Cond.fieldLink "CounterLeaperModel" 34 "CounterLeaperModel" "target" "[I" ∈ qTbl := q_t3 (List.mem_of_getElem? (i := 166) rfl) rfl
theorem wf_D_37 : Cond.fieldLink "CounterLeaperModel" 37 "CounterLeaperModel" "drainEnd" "[I" ∈ qTbl := q_t3 (List.mem_of_getElem? (i := 167) rfl) rfl
theorem wf_D_40 : Cond.fieldLink "CounterLeaperModel" 40 "CounterLeaperModel" "loopEnd" "[I" ∈ qTbl := q_t3 (List.mem_of_getElem? (i := 168) rfl) rfl
theorem wf_D_43 : Cond.fieldLink "CounterLeaperModel" 43 "CounterLeaperModel" "drains" "[I" ∈ qTbl := q_t3 (List.mem_of_getElem? (i := 169) rfl) rfl
theorem wf_D_46 : Cond.fieldLink "CounterLeaperModel" 46 "CounterLeaperModel" "value" "[I" ∈ qTbl := q_t3 (List.mem_of_getElem? (i := 170) rfl) rfl
theorem wf_D_49 : Cond.fieldLink "CounterLeaperModel" 49 "CounterLeaperModel" "begin" "[I" ∈ qTbl := q_t3 (List.mem_of_getElem? (i := 171) rfl) rfl
theorem wf_D_126 : Cond.fieldLink "CounterLeaperModel" 126 "CounterLeaperModel" "place" "I" ∈ qTbl := q_t3 (List.mem_of_getElem? (i := 172) rfl) rfl
theorem wf_D_129 : Cond.fieldLink "CounterLeaperModel" 129 "CounterLeaperModel" "made" "J" ∈ qTbl := q_t3 (List.mem_of_getElem? (i := 173) rfl) rfl
theorem wf_D_52 : Cond.fieldLink "CounterLeaperModel" 52 "CounterLeaperModel" "leaping" "Z" ∈ qTbl := q_t3 (List.mem_of_getElem? (i := 174) rfl) rfl
theorem wf_D_133 : Cond.fieldLink "CounterLeaperModel" 133 "CounterLeaperModel" "leapCount" "J" ∈ qTbl := q_t3 (List.mem_of_getElem? (i := 175) rfl) rfl
theorem wf_D_180 : Cond.fieldLink "CounterLeaperModel" 180 "CounterLeaperModel" "leapHead" "I" ∈ qTbl := q_t3 (List.mem_of_getElem? (i := 176) rfl) rfl
theorem wf_D_183 : Cond.fieldLink "CounterLeaperModel" 183 "CounterLeaperModel" "leapPasses" "J" ∈ qTbl := q_t3 (List.mem_of_getElem? (i := 177) rfl) rfl
theorem wf_D_186 : Cond.fieldLink "CounterLeaperModel" 186 "CounterLeaperModel" "leapSteps" "J" ∈ qTbl := q_t3 (List.mem_of_getElem? (i := 178) rfl) rfl
theorem wf_D_56 : Cond.fieldLink "CounterLeaperModel" 56 "CounterLeaperModel" "before" "[I" ∈ qTbl := q_t3 (List.mem_of_getElem? (i := 179) rfl) rfl
theorem wf_D_59 : Cond.fieldLink "CounterLeaperModel" 59 "CounterLeaperModel" "behind" "[I" ∈ qTbl := q_t3 (List.mem_of_getElem? (i := 180) rfl) rfl
theorem wf_D_142 : Cond.fieldLink "CounterLeaperModel" 142 "CounterLeaperModel" "took" "J" ∈ qTbl := q_t3 (List.mem_of_getElem? (i := 181) rfl) rfl
theorem wf_D_62 : Cond.fieldLink "CounterLeaperModel" 62 "CounterLeaperModel" "kept" "[I" ∈ qTbl := q_t3 (List.mem_of_getElem? (i := 182) rfl) rfl
theorem wf_D_65 : Cond.fieldLink "CounterLeaperModel" 65 "CounterLeaperModel" "was" "[I" ∈ qTbl := q_t3 (List.mem_of_getElem? (i := 183) rfl) rfl
theorem wm_L_55 : Cond.methodLink "CounterLeaperLaw" 55 ({ cls := "CounterLeaperModel", name := "thrown", desc := "()I" } : MethodName) ∈ qTbl := q_t4 (List.mem_of_getElem? (i := 9) rfl) rfl
theorem wm_L_54 : Cond.methodLink "CounterLeaperLaw" 54 ({ cls := "CounterLeaperModel", name := "type", desc := "(JI)I" } : MethodName) ∈ qTbl := q_t4 (List.mem_of_getElem? (i := 13) rfl) rfl
theorem wk_D_72 : Cond.constantLong "CounterLeaperModel" 72 (255 : Int64) ∈ qTbl := q_t4 (List.mem_of_getElem? (i := 17) rfl) rfl
theorem wm_L_62 : Cond.methodLink "CounterLeaperLaw" 62 ({ cls := "CounterLeaperModel", name := "wipe", desc := "()I" } : MethodName) ∈ qTbl := q_t4 (List.mem_of_getElem? (i := 18) rfl) rfl
theorem wm_L_66 : Cond.methodLink "CounterLeaperLaw" 66 ({ cls := "CounterLeaperModel", name := "compile", desc := "()I" } : MethodName) ∈ qTbl := q_t4 (List.mem_of_getElem? (i := 22) rfl) rfl
theorem wm_D_106 : Cond.methodLink "CounterLeaperModel" 106 ({ cls := "CounterLeaperModel", name := "readAll", desc := "()V" } : MethodName) ∈ qTbl := q_t4 (List.mem_of_getElem? (i := 26) rfl) rfl
theorem wm_D_87 : Cond.methodLink "CounterLeaperModel" 87 ({ cls := "CounterLeaperModel", name := "go", desc := "(I)V" } : MethodName) ∈ qTbl := q_t4 (List.mem_of_getElem? (i := 30) rfl) rfl
theorem wm_D_100 : Cond.methodLink "CounterLeaperModel" 100 ({ cls := "CounterLeaperModel", name := "readLabels", desc := "()V" } : MethodName) ∈ qTbl := q_t4 (List.mem_of_getElem? (i := 34) rfl) rfl
theorem wm_D_83 : Cond.methodLink "CounterLeaperModel" 83 ({ cls := "CounterLeaperModel", name := "isBetween", desc := "(II)Z" } : MethodName) ∈ qTbl := q_t4 (List.mem_of_getElem? (i := 38) rfl) rfl
theorem wm_D_91 : Cond.methodLink "CounterLeaperModel" 91 ({ cls := "CounterLeaperModel", name := "take", desc := "(II)I" } : MethodName) ∈ qTbl := q_t4 (List.mem_of_getElem? (i := 42) rfl) rfl
theorem wm_D_103 : Cond.methodLink "CounterLeaperModel" 103 ({ cls := "CounterLeaperModel", name := "readInstruction", desc := "()V" } : MethodName) ∈ qTbl := q_t4 (List.mem_of_getElem? (i := 46) rfl) rfl
theorem wm_D_98 : Cond.methodLink "CounterLeaperModel" 98 ({ cls := "CounterLeaperModel", name := "readName", desc := "()V" } : MethodName) ∈ qTbl := q_t4 (List.mem_of_getElem? (i := 50) rfl) rfl
theorem wm_D_112 : Cond.methodLink "CounterLeaperModel" 112 ({ cls := "CounterLeaperModel", name := "findDrain", desc := "(I)I" } : MethodName) ∈ qTbl := q_t4 (List.mem_of_getElem? (i := 54) rfl) rfl
theorem wm_D_116 : Cond.methodLink "CounterLeaperModel" 116 ({ cls := "CounterLeaperModel", name := "findLoop", desc := "(I)V" } : MethodName) ∈ qTbl := q_t4 (List.mem_of_getElem? (i := 58) rfl) rfl
theorem wm_D_119 : Cond.methodLink "CounterLeaperModel" 119 ({ cls := "CounterLeaperModel", name := "restart", desc := "()V" } : MethodName) ∈ qTbl := q_t4 (List.mem_of_getElem? (i := 62) rfl) rfl
theorem wm_L_70 : Cond.methodLink "CounterLeaperLaw" 70 ({ cls := "CounterLeaperModel", name := "size", desc := "()I" } : MethodName) ∈ qTbl := q_t4 (List.mem_of_getElem? (i := 66) rfl) rfl
theorem wm_L_74 : Cond.methodLink "CounterLeaperLaw" 74 ({ cls := "CounterLeaperModel", name := "instruction", desc := "(II)I" } : MethodName) ∈ qTbl := q_t4 (List.mem_of_getElem? (i := 70) rfl) rfl
theorem wm_L_78 : Cond.methodLink "CounterLeaperLaw" 78 ({ cls := "CounterLeaperModel", name := "loops", desc := "()I" } : MethodName) ∈ qTbl := q_t4 (List.mem_of_getElem? (i := 74) rfl) rfl
theorem wm_L_82 : Cond.methodLink "CounterLeaperLaw" 82 ({ cls := "CounterLeaperModel", name := "loop", desc := "(II)I" } : MethodName) ∈ qTbl := q_t4 (List.mem_of_getElem? (i := 78) rfl) rfl
theorem wm_D_122 : Cond.methodLink "CounterLeaperModel" 122 ({ cls := "CounterLeaperModel", name := "headOf", desc := "(I)I" } : MethodName) ∈ qTbl := q_t4 (List.mem_of_getElem? (i := 82) rfl) rfl
theorem wm_L_86 : Cond.methodLink "CounterLeaperLaw" 86 ({ cls := "CounterLeaperModel", name := "set", desc := "(II)V" } : MethodName) ∈ qTbl := q_t4 (List.mem_of_getElem? (i := 86) rfl) rfl
theorem wk_D_125 : Cond.constant "CounterLeaperModel" 125 (1000000 : Int32) ∈ qTbl := q_t4 (List.mem_of_getElem? (i := 90) rfl) rfl
theorem wm_L_90 : Cond.methodLink "CounterLeaperLaw" 90 ({ cls := "CounterLeaperModel", name := "start", desc := "()V" } : MethodName) ∈ qTbl := q_t4 (List.mem_of_getElem? (i := 91) rfl) rfl
theorem wm_L_95 : Cond.methodLink "CounterLeaperLaw" 95 ({ cls := "CounterLeaperModel", name := "leaps", desc := "(Z)V" } : MethodName) ∈ qTbl := q_t4 (List.mem_of_getElem? (i := 95) rfl) rfl
theorem wm_L_99 : Cond.methodLink "CounterLeaperLaw" 99 ({ cls := "CounterLeaperModel", name := "run", desc := "(I)I" } : MethodName) ∈ qTbl := q_t4 (List.mem_of_getElem? (i := 99) rfl) rfl
theorem wm_D_168 : Cond.methodLink "CounterLeaperModel" 168 ({ cls := "CounterLeaperModel", name := "stateOf", desc := "()I" } : MethodName) ∈ qTbl := q_t4 (List.mem_of_getElem? (i := 103) rfl) rfl
theorem wm_D_136 : Cond.methodLink "CounterLeaperModel" 136 ({ cls := "CounterLeaperModel", name := "isHalted", desc := "()Z" } : MethodName) ∈ qTbl := q_t4 (List.mem_of_getElem? (i := 107) rfl) rfl
theorem wm_D_154 : Cond.methodLink "CounterLeaperModel" 154 ({ cls := "CounterLeaperModel", name := "isStuck", desc := "()Z" } : MethodName) ∈ qTbl := q_t4 (List.mem_of_getElem? (i := 111) rfl) rfl
theorem wk_D_140 : Cond.constantLong "CounterLeaperModel" 140 (1000000000000000 : Int64) ∈ qTbl := q_t4 (List.mem_of_getElem? (i := 115) rfl) rfl
theorem wm_D_157 : Cond.methodLink "CounterLeaperModel" 157 ({ cls := "CounterLeaperModel", name := "isFull", desc := "()Z" } : MethodName) ∈ qTbl := q_t4 (List.mem_of_getElem? (i := 116) rfl) rfl
theorem wm_D_150 : Cond.methodLink "CounterLeaperModel" 150 ({ cls := "CounterLeaperModel", name := "pass", desc := "(IJ)Z" } : MethodName) ∈ qTbl := q_t4 (List.mem_of_getElem? (i := 120) rfl) rfl
theorem wm_D_145 : Cond.methodLink "CounterLeaperModel" 145 ({ cls := "CounterLeaperModel", name := "drained", desc := "(II)Z" } : MethodName) ∈ qTbl := q_t4 (List.mem_of_getElem? (i := 124) rfl) rfl
theorem wk_D_148 : Cond.constantLong "CounterLeaperModel" 148 (1000000 : Int64) ∈ qTbl := q_t4 (List.mem_of_getElem? (i := 128) rfl) rfl
theorem wm_D_160 : Cond.methodLink "CounterLeaperModel" 160 ({ cls := "CounterLeaperModel", name := "isChanged", desc := "()Z" } : MethodName) ∈ qTbl := q_t4 (List.mem_of_getElem? (i := 129) rfl) rfl
theorem wm_D_172 : Cond.methodLink "CounterLeaperModel" 172 ({ cls := "CounterLeaperModel", name := "passes", desc := "()J" } : MethodName) ∈ qTbl := q_t4 (List.mem_of_getElem? (i := 133) rfl) rfl
theorem wm_D_163 : Cond.methodLink "CounterLeaperModel" 163 ({ cls := "CounterLeaperModel", name := "isDrainChanged", desc := "(I)Z" } : MethodName) ∈ qTbl := q_t4 (List.mem_of_getElem? (i := 137) rfl) rfl
theorem wk_D_167 : Cond.constant "CounterLeaperModel" 167 (1000001 : Int32) ∈ qTbl := q_t4 (List.mem_of_getElem? (i := 141) rfl) rfl
theorem wm_D_176 : Cond.methodLink "CounterLeaperModel" 176 ({ cls := "CounterLeaperModel", name := "leapBy", desc := "(J)V" } : MethodName) ∈ qTbl := q_t4 (List.mem_of_getElem? (i := 142) rfl) rfl
theorem wm_D_189 : Cond.methodLink "CounterLeaperModel" 189 ({ cls := "CounterLeaperModel", name := "step", desc := "()V" } : MethodName) ∈ qTbl := q_t4 (List.mem_of_getElem? (i := 146) rfl) rfl
theorem wm_L_102 : Cond.methodLink "CounterLeaperLaw" 102 ({ cls := "CounterLeaperModel", name := "plain", desc := "(I)I" } : MethodName) ∈ qTbl := q_t4 (List.mem_of_getElem? (i := 150) rfl) rfl
theorem wm_L_106 : Cond.methodLink "CounterLeaperLaw" 106 ({ cls := "CounterLeaperModel", name := "seek", desc := "(J)I" } : MethodName) ∈ qTbl := q_t4 (List.mem_of_getElem? (i := 154) rfl) rfl
theorem wm_L_110 : Cond.methodLink "CounterLeaperLaw" 110 ({ cls := "CounterLeaperModel", name := "state", desc := "()I" } : MethodName) ∈ qTbl := q_t4 (List.mem_of_getElem? (i := 158) rfl) rfl
theorem wm_L_114 : Cond.methodLink "CounterLeaperLaw" 114 ({ cls := "CounterLeaperModel", name := "at", desc := "()I" } : MethodName) ∈ qTbl := q_t4 (List.mem_of_getElem? (i := 162) rfl) rfl
theorem wm_L_119 : Cond.methodLink "CounterLeaperLaw" 119 ({ cls := "CounterLeaperModel", name := "steps", desc := "()J" } : MethodName) ∈ qTbl := q_t4 (List.mem_of_getElem? (i := 166) rfl) rfl
theorem wm_L_123 : Cond.methodLink "CounterLeaperLaw" 123 ({ cls := "CounterLeaperModel", name := "counter", desc := "(I)I" } : MethodName) ∈ qTbl := q_t4 (List.mem_of_getElem? (i := 170) rfl) rfl
theorem wm_L_127 : Cond.methodLink "CounterLeaperLaw" 127 ({ cls := "CounterLeaperModel", name := "change", desc := "(II)I" } : MethodName) ∈ qTbl := q_t4 (List.mem_of_getElem? (i := 174) rfl) rfl
theorem wm_L_132 : Cond.methodLink "CounterLeaperLaw" 132 ({ cls := "CounterLeaperModel", name := "leap", desc := "(I)J" } : MethodName) ∈ qTbl := q_t4 (List.mem_of_getElem? (i := 178) rfl) rfl
theorem wk_D_192 : Cond.constantLong "CounterLeaperModel" 192 (-1 : Int64) ∈ qTbl := q_t4 (List.mem_of_getElem? (i := 182) rfl) rfl
theorem wk_L_47 : Cond.constantLong "CounterLeaperLaw" 47 (4294967295 : Int64) ∈ qTbl := q_t4 (List.mem_of_getElem? (i := 183) rfl) rfl

/-! WORDS: each link that an instruction needs, found in the tables by program; the cells of a PlayPool, by their places. -/
theorem jw_m_RX6_3 : Cond.methodLink RX6 3 objectInit ∈ jj_gW := List.mem_filter.mpr ⟨by decide +kernel, rfl⟩
theorem jw_oi : Cond.instanceMethod objectInit ∈ jj_gW := List.mem_filter.mpr ⟨by decide +kernel, rfl⟩
theorem jw_oc : Cond.code objectInit ⟨#[0xb1]⟩ 1 none ∈ jj_gW := List.mem_filter.mpr ⟨by decide +kernel, rfl⟩
theorem jw_w_RX6_9 : Cond.classLink RX6 9 RX2 ∈ jj_gW := List.mem_filter.mpr ⟨by decide +kernel, rfl⟩
theorem jw_v_RX2 : Cond.instantiable RX2 8 ∈ jj_gW := List.mem_filter.mpr ⟨by decide +kernel, rfl⟩
theorem jw_ii_RX2 : Cond.initialized RX2 ∈ jj_gW := List.mem_filter.mpr ⟨by decide +kernel, rfl⟩
theorem jw_c_X2_init : Cond.code yX2_init cX2_init 1 none ∈ jj_gW := List.mem_filter.mpr ⟨by decide +kernel, rfl⟩
theorem jw_i_RX2 : Cond.initialized yX2_init.cls ∈ jj_gW := List.mem_filter.mpr ⟨by decide +kernel, rfl⟩
theorem jw_h_RX6_11 : Cond.methodLinkNest RX6 11 yX2_init "PlayPool" ∈ jj_nW := List.mem_filter.mpr ⟨by decide +kernel, rfl⟩
theorem jw_s_X2_init : Cond.instanceMethod yX2_init ∈ jj_gW := List.mem_filter.mpr ⟨by decide +kernel, rfl⟩
theorem jw_y_X2_init : jj_yn yX2_init 0 := ⟨by decide +kernel, by decide +kernel, by decide +kernel⟩
theorem jw_f_RX6_12 : jj_lkF RX6 12 TX6 0 := List.mem_filter.mpr ⟨(by decide +kernel : Cond.fieldLink RX6 12 (TX6 0).1 (TX6 0).2.1 (TX6 0).2.2.1 ∈ lw_tbl), rfl⟩
theorem jw_w_RX6_16 : Cond.classLink RX6 16 RX5 ∈ jj_gW := List.mem_filter.mpr ⟨by decide +kernel, rfl⟩
theorem jw_v_RX5 : Cond.instantiable RX5 1 ∈ jj_gW := List.mem_filter.mpr ⟨by decide +kernel, rfl⟩
theorem jw_ii_RX5 : Cond.initialized RX5 ∈ jj_gW := List.mem_filter.mpr ⟨by decide +kernel, rfl⟩
theorem jw_c_X5_init : Cond.code yX5_init cX5_init 1 none ∈ jj_gW := List.mem_filter.mpr ⟨by decide +kernel, rfl⟩
theorem jw_i_RX5 : Cond.initialized yX5_init.cls ∈ jj_gW := List.mem_filter.mpr ⟨by decide +kernel, rfl⟩
theorem jw_h_RX6_18 : Cond.methodLinkNest RX6 18 yX5_init "PlayPool" ∈ jj_nW := List.mem_filter.mpr ⟨by decide +kernel, rfl⟩
theorem jw_s_X5_init : Cond.instanceMethod yX5_init ∈ jj_gW := List.mem_filter.mpr ⟨by decide +kernel, rfl⟩
theorem jw_y_X5_init : jj_yn yX5_init 0 := ⟨by decide +kernel, by decide +kernel, by decide +kernel⟩
theorem jw_f_RX6_19 : jj_lkF RX6 19 TX6 1 := List.mem_filter.mpr ⟨(by decide +kernel : Cond.fieldLink RX6 19 (TX6 1).1 (TX6 1).2.1 (TX6 1).2.2.1 ∈ lw_tbl), rfl⟩
theorem jw_w_RX6_23 : Cond.classLink RX6 23 RX0 ∈ jj_gW := List.mem_filter.mpr ⟨by decide +kernel, rfl⟩
theorem jw_v_RX0 : Cond.instantiable RX0 7 ∈ jj_gW := List.mem_filter.mpr ⟨by decide +kernel, rfl⟩
theorem jw_ii_RX0 : Cond.initialized RX0 ∈ jj_gW := List.mem_filter.mpr ⟨by decide +kernel, rfl⟩
theorem jw_c_X0_init : Cond.code yX0_init cX0_init 1 none ∈ jj_gW := List.mem_filter.mpr ⟨by decide +kernel, rfl⟩
theorem jw_i_RX0 : Cond.initialized yX0_init.cls ∈ jj_gW := List.mem_filter.mpr ⟨by decide +kernel, rfl⟩
theorem jw_h_RX6_25 : Cond.methodLinkNest RX6 25 yX0_init "PlayPool" ∈ jj_nW := List.mem_filter.mpr ⟨by decide +kernel, rfl⟩
theorem jw_s_X0_init : Cond.instanceMethod yX0_init ∈ jj_gW := List.mem_filter.mpr ⟨by decide +kernel, rfl⟩
theorem jw_y_X0_init : jj_yn yX0_init 0 := ⟨by decide +kernel, by decide +kernel, by decide +kernel⟩
theorem jw_f_RX6_26 : jj_lkF RX6 26 TX6 2 := List.mem_filter.mpr ⟨(by decide +kernel : Cond.fieldLink RX6 26 (TX6 2).1 (TX6 2).2.1 (TX6 2).2.2.1 ∈ lw_tbl), rfl⟩
theorem jw_w_RX6_30 : Cond.classLink RX6 30 RX4 ∈ jj_gW := List.mem_filter.mpr ⟨by decide +kernel, rfl⟩
theorem jw_v_RX4 : Cond.instantiable RX4 7 ∈ jj_gW := List.mem_filter.mpr ⟨by decide +kernel, rfl⟩
theorem jw_ii_RX4 : Cond.initialized RX4 ∈ jj_gW := List.mem_filter.mpr ⟨by decide +kernel, rfl⟩
theorem jw_c_X4_init : Cond.code yX4_init cX4_init 1 none ∈ jj_gW := List.mem_filter.mpr ⟨by decide +kernel, rfl⟩
theorem jw_i_RX4 : Cond.initialized yX4_init.cls ∈ jj_gW := List.mem_filter.mpr ⟨by decide +kernel, rfl⟩
theorem jw_h_RX6_32 : Cond.methodLinkNest RX6 32 yX4_init "PlayPool" ∈ jj_nW := List.mem_filter.mpr ⟨by decide +kernel, rfl⟩
theorem jw_s_X4_init : Cond.instanceMethod yX4_init ∈ jj_gW := List.mem_filter.mpr ⟨by decide +kernel, rfl⟩
theorem jw_y_X4_init : jj_yn yX4_init 0 := ⟨by decide +kernel, by decide +kernel, by decide +kernel⟩
theorem jw_f_RX6_33 : jj_lkF RX6 33 TX6 3 := List.mem_filter.mpr ⟨(by decide +kernel : Cond.fieldLink RX6 33 (TX6 3).1 (TX6 3).2.1 (TX6 3).2.2.1 ∈ lw_tbl), rfl⟩
theorem jw_w_RX6_37 : Cond.classLink RX6 37 RX3 ∈ jj_gW := List.mem_filter.mpr ⟨by decide +kernel, rfl⟩
theorem jw_v_RX3 : Cond.instantiable RX3 3 ∈ jj_gW := List.mem_filter.mpr ⟨by decide +kernel, rfl⟩
theorem jw_ii_RX3 : Cond.initialized RX3 ∈ jj_gW := List.mem_filter.mpr ⟨by decide +kernel, rfl⟩
theorem jw_c_X3_init : Cond.code yX3_init cX3_init 1 none ∈ jj_gW := List.mem_filter.mpr ⟨by decide +kernel, rfl⟩
theorem jw_i_RX3 : Cond.initialized yX3_init.cls ∈ jj_gW := List.mem_filter.mpr ⟨by decide +kernel, rfl⟩
theorem jw_h_RX6_39 : Cond.methodLinkNest RX6 39 yX3_init "PlayPool" ∈ jj_nW := List.mem_filter.mpr ⟨by decide +kernel, rfl⟩
theorem jw_s_X3_init : Cond.instanceMethod yX3_init ∈ jj_gW := List.mem_filter.mpr ⟨by decide +kernel, rfl⟩
theorem jw_y_X3_init : jj_yn yX3_init 0 := ⟨by decide +kernel, by decide +kernel, by decide +kernel⟩
theorem jw_f_RX6_40 : jj_lkF RX6 40 TX6 4 := List.mem_filter.mpr ⟨(by decide +kernel : Cond.fieldLink RX6 40 (TX6 4).1 (TX6 4).2.1 (TX6 4).2.2.1 ∈ lw_tbl), rfl⟩
theorem jw_w_RX6_44 : Cond.classLink RX6 44 RX1 ∈ jj_gW := List.mem_filter.mpr ⟨by decide +kernel, rfl⟩
theorem jw_v_RX1 : Cond.instantiable RX1 12 ∈ jj_gW := List.mem_filter.mpr ⟨by decide +kernel, rfl⟩
theorem jw_ii_RX1 : Cond.initialized RX1 ∈ jj_gW := List.mem_filter.mpr ⟨by decide +kernel, rfl⟩
theorem jw_c_X1_init : Cond.code yX1_init cX1_init 1 none ∈ jj_gW := List.mem_filter.mpr ⟨by decide +kernel, rfl⟩
theorem jw_i_RX1 : Cond.initialized yX1_init.cls ∈ jj_gW := List.mem_filter.mpr ⟨by decide +kernel, rfl⟩
theorem jw_h_RX6_46 : Cond.methodLinkNest RX6 46 yX1_init "PlayPool" ∈ jj_nW := List.mem_filter.mpr ⟨by decide +kernel, rfl⟩
theorem jw_s_X1_init : Cond.instanceMethod yX1_init ∈ jj_gW := List.mem_filter.mpr ⟨by decide +kernel, rfl⟩
theorem jw_y_X1_init : jj_yn yX1_init 0 := ⟨by decide +kernel, by decide +kernel, by decide +kernel⟩
theorem jw_f_RX6_47 : jj_lkF RX6 47 TX6 5 := List.mem_filter.mpr ⟨(by decide +kernel : Cond.fieldLink RX6 47 (TX6 5).1 (TX6 5).2.1 (TX6 5).2.2.1 ∈ lw_tbl), rfl⟩
theorem jw_f_RX6_51 : jj_lkF RX6 51 TX6 6 := List.mem_filter.mpr ⟨(by decide +kernel : Cond.fieldLink RX6 51 (TX6 6).1 (TX6 6).2.1 (TX6 6).2.2.1 ∈ lw_tbl), rfl⟩
theorem jw_f_RX6_54 : jj_lkF RX6 54 TX6 7 := List.mem_filter.mpr ⟨(by decide +kernel : Cond.fieldLink RX6 54 (TX6 7).1 (TX6 7).2.1 (TX6 7).2.2.1 ∈ lw_tbl), rfl⟩
theorem jw_f_RX6_57 : jj_lkF RX6 57 TX6 8 := List.mem_filter.mpr ⟨(by decide +kernel : Cond.fieldLink RX6 57 (TX6 8).1 (TX6 8).2.1 (TX6 8).2.2.1 ∈ lw_tbl), rfl⟩
theorem jw_f_RX6_61 : jj_lkF RX6 61 TX6 9 := List.mem_filter.mpr ⟨(by decide +kernel : Cond.fieldLink RX6 61 (TX6 9).1 (TX6 9).2.1 (TX6 9).2.2.1 ∈ lw_tbl), rfl⟩
theorem jw_f_RX6_65 : jj_lkF RX6 65 TX6 10 := List.mem_filter.mpr ⟨(by decide +kernel : Cond.fieldLink RX6 65 (TX6 10).1 (TX6 10).2.1 (TX6 10).2.2.1 ∈ lw_tbl), rfl⟩
theorem jw_c_X6_needRecording : Cond.code yX6_needRecording cX6_needRecording 1 none ∈ jj_gW := List.mem_filter.mpr ⟨by decide +kernel, rfl⟩
theorem jw_i_RX6 : Cond.initialized yX6_needRecording.cls ∈ jj_gW := List.mem_filter.mpr ⟨by decide +kernel, rfl⟩
theorem jw_m_RX6_68 : Cond.methodLink RX6 68 yX6_needRecording ∈ jj_gW := List.mem_filter.mpr ⟨by decide +kernel, rfl⟩
theorem jw_s_X6_needRecording : Cond.static yX6_needRecording ∈ jj_gW := List.mem_filter.mpr ⟨by decide +kernel, rfl⟩
theorem jw_y_X6_needRecording : jj_yn yX6_needRecording 1 := ⟨by decide +kernel, by decide +kernel, by decide +kernel⟩
theorem jw_n_RX6_72 : jj_lkN RX6 72 TX2 0 "PlayPool" := List.mem_filter.mpr ⟨(by decide +kernel : Cond.fieldLinkNest RX6 72 (TX2 0).1 (TX2 0).2.1 (TX2 0).2.2.1 "PlayPool" ∈ lw_tbl), rfl⟩
theorem jw_c_X2_addTrack : Cond.code yX2_addTrack cX2_addTrack 3 (some .int) ∈ jj_gW := List.mem_filter.mpr ⟨by decide +kernel, rfl⟩
theorem jw_h_RX6_82 : Cond.methodLinkNest RX6 82 yX2_addTrack "PlayPool" ∈ jj_nW := List.mem_filter.mpr ⟨by decide +kernel, rfl⟩
theorem jw_s_X2_addTrack : Cond.instanceMethod yX2_addTrack ∈ jj_gW := List.mem_filter.mpr ⟨by decide +kernel, rfl⟩
theorem jw_e_X2_addTrack : Cond.selects yX2_addTrack.cls yX2_addTrack yX2_addTrack ∈ jj_gW := List.mem_filter.mpr ⟨by decide +kernel, rfl⟩
theorem jw_y_X2_addTrack : jj_yn yX2_addTrack 1 := ⟨by decide +kernel, by decide +kernel, by decide +kernel⟩
theorem jw_c_X6_needTrack : Cond.code yX6_needTrack cX6_needTrack 2 none ∈ jj_gW := List.mem_filter.mpr ⟨by decide +kernel, rfl⟩
theorem jw_m_RX6_86 : Cond.methodLink RX6 86 yX6_needTrack ∈ jj_gW := List.mem_filter.mpr ⟨by decide +kernel, rfl⟩
theorem jw_s_X6_needTrack : Cond.instanceMethod yX6_needTrack ∈ jj_gW := List.mem_filter.mpr ⟨by decide +kernel, rfl⟩
theorem jw_e_X6_needTrack : Cond.selects yX6_needTrack.cls yX6_needTrack yX6_needTrack ∈ jj_gW := List.mem_filter.mpr ⟨by decide +kernel, rfl⟩
theorem jw_y_X6_needTrack : jj_yn yX6_needTrack 1 := ⟨by decide +kernel, by decide +kernel, by decide +kernel⟩
theorem jw_c_X6_needLand : Cond.code yX6_needLand cX6_needLand 1 none ∈ jj_gW := List.mem_filter.mpr ⟨by decide +kernel, rfl⟩
theorem jw_m_RX6_89 : Cond.methodLink RX6 89 yX6_needLand ∈ jj_gW := List.mem_filter.mpr ⟨by decide +kernel, rfl⟩
theorem jw_s_X6_needLand : Cond.static yX6_needLand ∈ jj_gW := List.mem_filter.mpr ⟨by decide +kernel, rfl⟩
theorem jw_y_X6_needLand : jj_yn yX6_needLand 1 := ⟨by decide +kernel, by decide +kernel, by decide +kernel⟩
theorem jw_k_RX6_92 : Cond.constant RX6 92 99999 ∈ jj_gW := List.mem_filter.mpr ⟨by decide +kernel, rfl⟩
theorem jw_n_RX6_100 : jj_lkN RX6 100 TX2 3 "PlayPool" := List.mem_filter.mpr ⟨(by decide +kernel : Cond.fieldLinkNest RX6 100 (TX2 3).1 (TX2 3).2.1 (TX2 3).2.2.1 "PlayPool" ∈ lw_tbl), rfl⟩
theorem jw_c_X2_addWindow : Cond.code yX2_addWindow cX2_addWindow 5 none ∈ jj_gW := List.mem_filter.mpr ⟨by decide +kernel, rfl⟩
theorem jw_h_RX6_105 : Cond.methodLinkNest RX6 105 yX2_addWindow "PlayPool" ∈ jj_nW := List.mem_filter.mpr ⟨by decide +kernel, rfl⟩
theorem jw_s_X2_addWindow : Cond.instanceMethod yX2_addWindow ∈ jj_gW := List.mem_filter.mpr ⟨by decide +kernel, rfl⟩
theorem jw_e_X2_addWindow : Cond.selects yX2_addWindow.cls yX2_addWindow yX2_addWindow ∈ jj_gW := List.mem_filter.mpr ⟨by decide +kernel, rfl⟩
theorem jw_y_X2_addWindow : jj_yn yX2_addWindow 4 := ⟨by decide +kernel, by decide +kernel, by decide +kernel⟩
theorem jw_c_X6_judgePlays : Cond.code yX6_judgePlays cX6_judgePlays 6 none ∈ jj_gW := List.mem_filter.mpr ⟨by decide +kernel, rfl⟩
theorem jw_m_RX6_109 : Cond.methodLink RX6 109 yX6_judgePlays ∈ jj_gW := List.mem_filter.mpr ⟨by decide +kernel, rfl⟩
theorem jw_s_X6_judgePlays : Cond.instanceMethod yX6_judgePlays ∈ jj_gW := List.mem_filter.mpr ⟨by decide +kernel, rfl⟩
theorem jw_e_X6_judgePlays : Cond.selects yX6_judgePlays.cls yX6_judgePlays yX6_judgePlays ∈ jj_gW := List.mem_filter.mpr ⟨by decide +kernel, rfl⟩
theorem jw_y_X6_judgePlays : jj_yn yX6_judgePlays 0 := ⟨by decide +kernel, by decide +kernel, by decide +kernel⟩
theorem jw_c_X6_needParty : Cond.code yX6_needParty cX6_needParty 1 none ∈ jj_gW := List.mem_filter.mpr ⟨by decide +kernel, rfl⟩
theorem jw_m_RX6_121 : Cond.methodLink RX6 121 yX6_needParty ∈ jj_gW := List.mem_filter.mpr ⟨by decide +kernel, rfl⟩
theorem jw_s_X6_needParty : Cond.static yX6_needParty ∈ jj_gW := List.mem_filter.mpr ⟨by decide +kernel, rfl⟩
theorem jw_y_X6_needParty : jj_yn yX6_needParty 1 := ⟨by decide +kernel, by decide +kernel, by decide +kernel⟩
theorem jw_n_RX6_126 : jj_lkN RX6 126 TX5 0 "PlayPool" := List.mem_filter.mpr ⟨(by decide +kernel : Cond.fieldLinkNest RX6 126 (TX5 0).1 (TX5 0).2.1 (TX5 0).2.2.1 "PlayPool" ∈ lw_tbl), rfl⟩
theorem jw_c_X5_claimsOf : Cond.code yX5_claimsOf cX5_claimsOf 2 (some .int) ∈ jj_gW := List.mem_filter.mpr ⟨by decide +kernel, rfl⟩
theorem jw_h_RX6_130 : Cond.methodLinkNest RX6 130 yX5_claimsOf "PlayPool" ∈ jj_nW := List.mem_filter.mpr ⟨by decide +kernel, rfl⟩
theorem jw_s_X5_claimsOf : Cond.instanceMethod yX5_claimsOf ∈ jj_gW := List.mem_filter.mpr ⟨by decide +kernel, rfl⟩
theorem jw_e_X5_claimsOf : Cond.selects yX5_claimsOf.cls yX5_claimsOf yX5_claimsOf ∈ jj_gW := List.mem_filter.mpr ⟨by decide +kernel, rfl⟩
theorem jw_y_X5_claimsOf : jj_yn yX5_claimsOf 1 := ⟨by decide +kernel, by decide +kernel, by decide +kernel⟩
theorem jw_c_X6_needPlan : Cond.code yX6_needPlan cX6_needPlan 1 none ∈ jj_gW := List.mem_filter.mpr ⟨by decide +kernel, rfl⟩
theorem jw_m_RX6_141 : Cond.methodLink RX6 141 yX6_needPlan ∈ jj_gW := List.mem_filter.mpr ⟨by decide +kernel, rfl⟩
theorem jw_s_X6_needPlan : Cond.static yX6_needPlan ∈ jj_gW := List.mem_filter.mpr ⟨by decide +kernel, rfl⟩
theorem jw_y_X6_needPlan : jj_yn yX6_needPlan 1 := ⟨by decide +kernel, by decide +kernel, by decide +kernel⟩
theorem jw_n_RX6_144 : jj_lkN RX6 144 TX0 0 "PlayPool" := List.mem_filter.mpr ⟨(by decide +kernel : Cond.fieldLinkNest RX6 144 (TX0 0).1 (TX0 0).2.1 (TX0 0).2.2.1 "PlayPool" ∈ lw_tbl), rfl⟩
theorem jw_c_X0_add : Cond.code yX0_add cX0_add 4 (some .int) ∈ jj_gW := List.mem_filter.mpr ⟨by decide +kernel, rfl⟩
theorem jw_h_RX6_149 : Cond.methodLinkNest RX6 149 yX0_add "PlayPool" ∈ jj_nW := List.mem_filter.mpr ⟨by decide +kernel, rfl⟩
theorem jw_s_X0_add : Cond.instanceMethod yX0_add ∈ jj_gW := List.mem_filter.mpr ⟨by decide +kernel, rfl⟩
theorem jw_e_X0_add : Cond.selects yX0_add.cls yX0_add yX0_add ∈ jj_gW := List.mem_filter.mpr ⟨by decide +kernel, rfl⟩
theorem jw_y_X0_add : jj_yn yX0_add 2 := ⟨by decide +kernel, by decide +kernel, by decide +kernel⟩
theorem jw_c_X6_needListener : Cond.code yX6_needListener cX6_needListener 2 none ∈ jj_gW := List.mem_filter.mpr ⟨by decide +kernel, rfl⟩
theorem jw_m_RX6_153 : Cond.methodLink RX6 153 yX6_needListener ∈ jj_gW := List.mem_filter.mpr ⟨by decide +kernel, rfl⟩
theorem jw_s_X6_needListener : Cond.instanceMethod yX6_needListener ∈ jj_gW := List.mem_filter.mpr ⟨by decide +kernel, rfl⟩
theorem jw_e_X6_needListener : Cond.selects yX6_needListener.cls yX6_needListener yX6_needListener ∈ jj_gW := List.mem_filter.mpr ⟨by decide +kernel, rfl⟩
theorem jw_y_X6_needListener : jj_yn yX6_needListener 1 := ⟨by decide +kernel, by decide +kernel, by decide +kernel⟩
theorem jw_n_RX6_159 : jj_lkN RX6 159 TX0 3 "PlayPool" := List.mem_filter.mpr ⟨(by decide +kernel : Cond.fieldLinkNest RX6 159 (TX0 3).1 (TX0 3).2.1 (TX0 3).2.2.1 "PlayPool" ∈ lw_tbl), rfl⟩
theorem jw_c_X6_isClosed : Cond.code yX6_isClosed cX6_isClosed 2 (some .boolean) ∈ jj_gW := List.mem_filter.mpr ⟨by decide +kernel, rfl⟩
theorem jw_m_RX6_187 : Cond.methodLink RX6 187 yX6_isClosed ∈ jj_gW := List.mem_filter.mpr ⟨by decide +kernel, rfl⟩
theorem jw_s_X6_isClosed : Cond.instanceMethod yX6_isClosed ∈ jj_gW := List.mem_filter.mpr ⟨by decide +kernel, rfl⟩
theorem jw_e_X6_isClosed : Cond.selects yX6_isClosed.cls yX6_isClosed yX6_isClosed ∈ jj_gW := List.mem_filter.mpr ⟨by decide +kernel, rfl⟩
theorem jw_y_X6_isClosed : jj_yn yX6_isClosed 1 := ⟨by decide +kernel, by decide +kernel, by decide +kernel⟩
theorem jw_c_X0_hasKept : Cond.code yX0_hasKept cX0_hasKept 4 (some .boolean) ∈ jj_gW := List.mem_filter.mpr ⟨by decide +kernel, rfl⟩
theorem jw_h_RX6_163 : Cond.methodLinkNest RX6 163 yX0_hasKept "PlayPool" ∈ jj_nW := List.mem_filter.mpr ⟨by decide +kernel, rfl⟩
theorem jw_s_X0_hasKept : Cond.instanceMethod yX0_hasKept ∈ jj_gW := List.mem_filter.mpr ⟨by decide +kernel, rfl⟩
theorem jw_e_X0_hasKept : Cond.selects yX0_hasKept.cls yX0_hasKept yX0_hasKept ∈ jj_gW := List.mem_filter.mpr ⟨by decide +kernel, rfl⟩
theorem jw_y_X0_hasKept : jj_yn yX0_hasKept 2 := ⟨by decide +kernel, by decide +kernel, by decide +kernel⟩
theorem jw_n_RX6_194 : jj_lkN RX6 194 TX4 0 "PlayPool" := List.mem_filter.mpr ⟨(by decide +kernel : Cond.fieldLinkNest RX6 194 (TX4 0).1 (TX4 0).2.1 (TX4 0).2.2.1 "PlayPool" ∈ lw_tbl), rfl⟩
theorem jw_c_X4_add : Cond.code yX4_add cX4_add 6 (some .int) ∈ jj_gW := List.mem_filter.mpr ⟨by decide +kernel, rfl⟩
theorem jw_h_RX6_197 : Cond.methodLinkNest RX6 197 yX4_add "PlayPool" ∈ jj_nW := List.mem_filter.mpr ⟨by decide +kernel, rfl⟩
theorem jw_s_X4_add : Cond.instanceMethod yX4_add ∈ jj_gW := List.mem_filter.mpr ⟨by decide +kernel, rfl⟩
theorem jw_e_X4_add : Cond.selects yX4_add.cls yX4_add yX4_add ∈ jj_gW := List.mem_filter.mpr ⟨by decide +kernel, rfl⟩
theorem jw_y_X4_add : jj_yn yX4_add 4 := ⟨by decide +kernel, by decide +kernel, by decide +kernel⟩
theorem jw_n_RX6_200 : jj_lkN RX6 200 TX4 5 "PlayPool" := List.mem_filter.mpr ⟨(by decide +kernel : Cond.fieldLinkNest RX6 200 (TX4 5).1 (TX4 5).2.1 (TX4 5).2.2.1 "PlayPool" ∈ lw_tbl), rfl⟩
theorem jw_c_X6_monthOf : Cond.code yX6_monthOf cX6_monthOf 1 (some .int) ∈ jj_gW := List.mem_filter.mpr ⟨by decide +kernel, rfl⟩
theorem jw_m_RX6_207 : Cond.methodLink RX6 207 yX6_monthOf ∈ jj_gW := List.mem_filter.mpr ⟨by decide +kernel, rfl⟩
theorem jw_s_X6_monthOf : Cond.static yX6_monthOf ∈ jj_gW := List.mem_filter.mpr ⟨by decide +kernel, rfl⟩
theorem jw_y_X6_monthOf : jj_yn yX6_monthOf 1 := ⟨by decide +kernel, by decide +kernel, by decide +kernel⟩
theorem jw_c_X6_closeMonth : Cond.code yX6_closeMonth cX6_closeMonth 2 (some .int) ∈ jj_gW := List.mem_filter.mpr ⟨by decide +kernel, rfl⟩
theorem jw_m_RX6_210 : Cond.methodLink RX6 210 yX6_closeMonth ∈ jj_gW := List.mem_filter.mpr ⟨by decide +kernel, rfl⟩
theorem jw_s_X6_closeMonth : Cond.instanceMethod yX6_closeMonth ∈ jj_gW := List.mem_filter.mpr ⟨by decide +kernel, rfl⟩
theorem jw_e_X6_closeMonth : Cond.selects yX6_closeMonth.cls yX6_closeMonth yX6_closeMonth ∈ jj_gW := List.mem_filter.mpr ⟨by decide +kernel, rfl⟩
theorem jw_y_X6_closeMonth : jj_yn yX6_closeMonth 0 := ⟨by decide +kernel, by decide +kernel, by decide +kernel⟩
theorem jw_n_RX6_214 : jj_lkN RX6 214 TX2 1 "PlayPool" := List.mem_filter.mpr ⟨(by decide +kernel : Cond.fieldLinkNest RX6 214 (TX2 1).1 (TX2 1).2.1 (TX2 1).2.2.1 "PlayPool" ∈ lw_tbl), rfl⟩
theorem jw_n_RX6_118 : jj_lkN RX6 118 TX2 2 "PlayPool" := List.mem_filter.mpr ⟨(by decide +kernel : Cond.fieldLinkNest RX6 118 (TX2 2).1 (TX2 2).2.1 (TX2 2).2.2.1 "PlayPool" ∈ lw_tbl), rfl⟩
theorem jw_c_X2_landsAllowing : Cond.code yX2_landsAllowing cX2_landsAllowing 5 (some .int) ∈ jj_gW := List.mem_filter.mpr ⟨by decide +kernel, rfl⟩
theorem jw_h_RX6_217 : Cond.methodLinkNest RX6 217 yX2_landsAllowing "PlayPool" ∈ jj_nW := List.mem_filter.mpr ⟨by decide +kernel, rfl⟩
theorem jw_s_X2_landsAllowing : Cond.instanceMethod yX2_landsAllowing ∈ jj_gW := List.mem_filter.mpr ⟨by decide +kernel, rfl⟩
theorem jw_e_X2_landsAllowing : Cond.selects yX2_landsAllowing.cls yX2_landsAllowing yX2_landsAllowing ∈ jj_gW := List.mem_filter.mpr ⟨by decide +kernel, rfl⟩
theorem jw_y_X2_landsAllowing : jj_yn yX2_landsAllowing 2 := ⟨by decide +kernel, by decide +kernel, by decide +kernel⟩
theorem jw_c_X4_countedOfTrack : Cond.code yX4_countedOfTrack cX4_countedOfTrack 4 (some .int) ∈ jj_gW := List.mem_filter.mpr ⟨by decide +kernel, rfl⟩
theorem jw_h_RX6_220 : Cond.methodLinkNest RX6 220 yX4_countedOfTrack "PlayPool" ∈ jj_nW := List.mem_filter.mpr ⟨by decide +kernel, rfl⟩
theorem jw_s_X4_countedOfTrack : Cond.instanceMethod yX4_countedOfTrack ∈ jj_gW := List.mem_filter.mpr ⟨by decide +kernel, rfl⟩
theorem jw_e_X4_countedOfTrack : Cond.selects yX4_countedOfTrack.cls yX4_countedOfTrack yX4_countedOfTrack ∈ jj_gW := List.mem_filter.mpr ⟨by decide +kernel, rfl⟩
theorem jw_y_X4_countedOfTrack : jj_yn yX4_countedOfTrack 1 := ⟨by decide +kernel, by decide +kernel, by decide +kernel⟩
theorem jw_n_RX6_169 : jj_lkN RX6 169 TX0 1 "PlayPool" := List.mem_filter.mpr ⟨(by decide +kernel : Cond.fieldLinkNest RX6 169 (TX0 1).1 (TX0 1).2.1 (TX0 1).2.2.1 "PlayPool" ∈ lw_tbl), rfl⟩
theorem jw_n_RX6_156 : jj_lkN RX6 156 TX0 2 "PlayPool" := List.mem_filter.mpr ⟨(by decide +kernel : Cond.fieldLinkNest RX6 156 (TX0 2).1 (TX0 2).2.1 (TX0 2).2.2.1 "PlayPool" ∈ lw_tbl), rfl⟩
theorem jw_n_RX6_225 : jj_lkN RX6 225 TX0 5 "PlayPool" := List.mem_filter.mpr ⟨(by decide +kernel : Cond.fieldLinkNest RX6 225 (TX0 5).1 (TX0 5).2.1 (TX0 5).2.2.1 "PlayPool" ∈ lw_tbl), rfl⟩
theorem jw_c_X4_playsOfListener : Cond.code yX4_playsOfListener cX4_playsOfListener 4 (some .int) ∈ jj_gW := List.mem_filter.mpr ⟨by decide +kernel, rfl⟩
theorem jw_h_RX6_228 : Cond.methodLinkNest RX6 228 yX4_playsOfListener "PlayPool" ∈ jj_nW := List.mem_filter.mpr ⟨by decide +kernel, rfl⟩
theorem jw_s_X4_playsOfListener : Cond.instanceMethod yX4_playsOfListener ∈ jj_gW := List.mem_filter.mpr ⟨by decide +kernel, rfl⟩
theorem jw_e_X4_playsOfListener : Cond.selects yX4_playsOfListener.cls yX4_playsOfListener yX4_playsOfListener ∈ jj_gW := List.mem_filter.mpr ⟨by decide +kernel, rfl⟩
theorem jw_y_X4_playsOfListener : jj_yn yX4_playsOfListener 1 := ⟨by decide +kernel, by decide +kernel, by decide +kernel⟩
theorem jw_n_RX6_231 : jj_lkN RX6 231 TX3 0 "PlayPool" := List.mem_filter.mpr ⟨(by decide +kernel : Cond.fieldLinkNest RX6 231 (TX3 0).1 (TX3 0).2.1 (TX3 0).2.2.1 "PlayPool" ∈ lw_tbl), rfl⟩
theorem jw_c_X6_sumOf : Cond.code yX6_sumOf cX6_sumOf 6 (some .int) ∈ jj_gW := List.mem_filter.mpr ⟨by decide +kernel, rfl⟩
theorem jw_m_RX6_234 : Cond.methodLink RX6 234 yX6_sumOf ∈ jj_gW := List.mem_filter.mpr ⟨by decide +kernel, rfl⟩
theorem jw_s_X6_sumOf : Cond.static yX6_sumOf ∈ jj_gW := List.mem_filter.mpr ⟨by decide +kernel, rfl⟩
theorem jw_y_X6_sumOf : jj_yn yX6_sumOf 1 := ⟨by decide +kernel, by decide +kernel, by decide +kernel⟩
theorem jw_n_RX6_238 : jj_lkN RX6 238 TX3 1 "PlayPool" := List.mem_filter.mpr ⟨(by decide +kernel : Cond.fieldLinkNest RX6 238 (TX3 1).1 (TX3 1).2.1 (TX3 1).2.2.1 "PlayPool" ∈ lw_tbl), rfl⟩
theorem jw_n_RX6_241 : jj_lkN RX6 241 TX0 4 "PlayPool" := List.mem_filter.mpr ⟨(by decide +kernel : Cond.fieldLinkNest RX6 241 (TX0 4).1 (TX0 4).2.1 (TX0 4).2.2.1 "PlayPool" ∈ lw_tbl), rfl⟩
theorem jw_n_RX6_249 : jj_lkN RX6 249 TX4 1 "PlayPool" := List.mem_filter.mpr ⟨(by decide +kernel : Cond.fieldLinkNest RX6 249 (TX4 1).1 (TX4 1).2.1 (TX4 1).2.2.1 "PlayPool" ∈ lw_tbl), rfl⟩
theorem jw_n_RX6_252 : jj_lkN RX6 252 TX4 2 "PlayPool" := List.mem_filter.mpr ⟨(by decide +kernel : Cond.fieldLinkNest RX6 252 (TX4 2).1 (TX4 2).2.1 (TX4 2).2.2.1 "PlayPool" ∈ lw_tbl), rfl⟩
theorem jw_n_RX6_255 : jj_lkN RX6 255 TX4 3 "PlayPool" := List.mem_filter.mpr ⟨(by decide +kernel : Cond.fieldLinkNest RX6 255 (TX4 3).1 (TX4 3).2.1 (TX4 3).2.2.1 "PlayPool" ∈ lw_tbl), rfl⟩
theorem jw_n_RX6_258 : jj_lkN RX6 258 TX4 4 "PlayPool" := List.mem_filter.mpr ⟨(by decide +kernel : Cond.fieldLinkNest RX6 258 (TX4 4).1 (TX4 4).2.1 (TX4 4).2.2.1 "PlayPool" ∈ lw_tbl), rfl⟩
theorem jw_n_RX6_261 : jj_lkN RX6 261 TX1 5 "PlayPool" := List.mem_filter.mpr ⟨(by decide +kernel : Cond.fieldLinkNest RX6 261 (TX1 5).1 (TX1 5).2.1 (TX1 5).2.2.1 "PlayPool" ∈ lw_tbl), rfl⟩
theorem jw_n_RX6_264 : jj_lkN RX6 264 TX1 6 "PlayPool" := List.mem_filter.mpr ⟨(by decide +kernel : Cond.fieldLinkNest RX6 264 (TX1 6).1 (TX1 6).2.1 (TX1 6).2.2.1 "PlayPool" ∈ lw_tbl), rfl⟩
theorem jw_n_RX6_135 : jj_lkN RX6 135 TX1 7 "PlayPool" := List.mem_filter.mpr ⟨(by decide +kernel : Cond.fieldLinkNest RX6 135 (TX1 7).1 (TX1 7).2.1 (TX1 7).2.2.1 "PlayPool" ∈ lw_tbl), rfl⟩
theorem jw_n_RX6_267 : jj_lkN RX6 267 TX1 8 "PlayPool" := List.mem_filter.mpr ⟨(by decide +kernel : Cond.fieldLinkNest RX6 267 (TX1 8).1 (TX1 8).2.1 (TX1 8).2.2.1 "PlayPool" ∈ lw_tbl), rfl⟩
theorem jw_c_X5_isInConflict : Cond.code yX5_isInConflict cX5_isInConflict 2 (some .boolean) ∈ jj_gW := List.mem_filter.mpr ⟨by decide +kernel, rfl⟩
theorem jw_h_RX6_270 : Cond.methodLinkNest RX6 270 yX5_isInConflict "PlayPool" ∈ jj_nW := List.mem_filter.mpr ⟨by decide +kernel, rfl⟩
theorem jw_s_X5_isInConflict : Cond.instanceMethod yX5_isInConflict ∈ jj_gW := List.mem_filter.mpr ⟨by decide +kernel, rfl⟩
theorem jw_e_X5_isInConflict : Cond.selects yX5_isInConflict.cls yX5_isInConflict yX5_isInConflict ∈ jj_gW := List.mem_filter.mpr ⟨by decide +kernel, rfl⟩
theorem jw_y_X5_isInConflict : jj_yn yX5_isInConflict 1 := ⟨by decide +kernel, by decide +kernel, by decide +kernel⟩
theorem jw_n_RX6_273 : jj_lkN RX6 273 TX1 4 "PlayPool" := List.mem_filter.mpr ⟨(by decide +kernel : Cond.fieldLinkNest RX6 273 (TX1 4).1 (TX1 4).2.1 (TX1 4).2.2.1 "PlayPool" ∈ lw_tbl), rfl⟩
theorem jw_n_RX6_276 : jj_lkN RX6 276 TX1 3 "PlayPool" := List.mem_filter.mpr ⟨(by decide +kernel : Cond.fieldLinkNest RX6 276 (TX1 3).1 (TX1 3).2.1 (TX1 3).2.2.1 "PlayPool" ∈ lw_tbl), rfl⟩
theorem jw_c_X2_tracksOf : Cond.code yX2_tracksOf cX2_tracksOf 4 (some .int) ∈ jj_gW := List.mem_filter.mpr ⟨by decide +kernel, rfl⟩
theorem jw_h_RX6_279 : Cond.methodLinkNest RX6 279 yX2_tracksOf "PlayPool" ∈ jj_nW := List.mem_filter.mpr ⟨by decide +kernel, rfl⟩
theorem jw_s_X2_tracksOf : Cond.instanceMethod yX2_tracksOf ∈ jj_gW := List.mem_filter.mpr ⟨by decide +kernel, rfl⟩
theorem jw_e_X2_tracksOf : Cond.selects yX2_tracksOf.cls yX2_tracksOf yX2_tracksOf ∈ jj_gW := List.mem_filter.mpr ⟨by decide +kernel, rfl⟩
theorem jw_y_X2_tracksOf : jj_yn yX2_tracksOf 1 := ⟨by decide +kernel, by decide +kernel, by decide +kernel⟩
theorem jw_c_X6_columnSum : Cond.code yX6_columnSum cX6_columnSum 4 (some .int) ∈ jj_gW := List.mem_filter.mpr ⟨by decide +kernel, rfl⟩
theorem jw_m_RX6_282 : Cond.methodLink RX6 282 yX6_columnSum ∈ jj_gW := List.mem_filter.mpr ⟨by decide +kernel, rfl⟩
theorem jw_s_X6_columnSum : Cond.static yX6_columnSum ∈ jj_gW := List.mem_filter.mpr ⟨by decide +kernel, rfl⟩
theorem jw_y_X6_columnSum : jj_yn yX6_columnSum 2 := ⟨by decide +kernel, by decide +kernel, by decide +kernel⟩
theorem jw_n_RX6_286 : jj_lkN RX6 286 TX1 2 "PlayPool" := List.mem_filter.mpr ⟨(by decide +kernel : Cond.fieldLinkNest RX6 286 (TX1 2).1 (TX1 2).2.1 (TX1 2).2.2.1 "PlayPool" ∈ lw_tbl), rfl⟩
theorem jw_c_X4_countWithReason : Cond.code yX4_countWithReason cX4_countWithReason 4 (some .int) ∈ jj_gW := List.mem_filter.mpr ⟨by decide +kernel, rfl⟩
theorem jw_h_RX6_289 : Cond.methodLinkNest RX6 289 yX4_countWithReason "PlayPool" ∈ jj_nW := List.mem_filter.mpr ⟨by decide +kernel, rfl⟩
theorem jw_s_X4_countWithReason : Cond.instanceMethod yX4_countWithReason ∈ jj_gW := List.mem_filter.mpr ⟨by decide +kernel, rfl⟩
theorem jw_e_X4_countWithReason : Cond.selects yX4_countWithReason.cls yX4_countWithReason yX4_countWithReason ∈ jj_gW := List.mem_filter.mpr ⟨by decide +kernel, rfl⟩
theorem jw_y_X4_countWithReason : jj_yn yX4_countWithReason 1 := ⟨by decide +kernel, by decide +kernel, by decide +kernel⟩
theorem jw_n_RX6_292 : jj_lkN RX6 292 TX1 0 "PlayPool" := List.mem_filter.mpr ⟨(by decide +kernel : Cond.fieldLinkNest RX6 292 (TX1 0).1 (TX1 0).2.1 (TX1 0).2.2.1 "PlayPool" ∈ lw_tbl), rfl⟩
theorem jw_n_RX6_295 : jj_lkN RX6 295 TX1 1 "PlayPool" := List.mem_filter.mpr ⟨(by decide +kernel : Cond.fieldLinkNest RX6 295 (TX1 1).1 (TX1 1).2.1 (TX1 1).2.2.1 "PlayPool" ∈ lw_tbl), rfl⟩
theorem jw_c_X6_needRule : Cond.code yX6_needRule cX6_needRule 1 none ∈ jj_gW := List.mem_filter.mpr ⟨by decide +kernel, rfl⟩
theorem jw_m_RX6_138 : Cond.methodLink RX6 138 yX6_needRule ∈ jj_gW := List.mem_filter.mpr ⟨by decide +kernel, rfl⟩
theorem jw_s_X6_needRule : Cond.static yX6_needRule ∈ jj_gW := List.mem_filter.mpr ⟨by decide +kernel, rfl⟩
theorem jw_y_X6_needRule : jj_yn yX6_needRule 1 := ⟨by decide +kernel, by decide +kernel, by decide +kernel⟩
theorem jw_c_X6_tryClosing : Cond.code yX6_tryClosing cX6_tryClosing 3 none ∈ jj_gW := List.mem_filter.mpr ⟨by decide +kernel, rfl⟩
theorem jw_m_RX6_316 : Cond.methodLink RX6 316 yX6_tryClosing ∈ jj_gW := List.mem_filter.mpr ⟨by decide +kernel, rfl⟩
theorem jw_s_X6_tryClosing : Cond.instanceMethod yX6_tryClosing ∈ jj_gW := List.mem_filter.mpr ⟨by decide +kernel, rfl⟩
theorem jw_e_X6_tryClosing : Cond.selects yX6_tryClosing.cls yX6_tryClosing yX6_tryClosing ∈ jj_gW := List.mem_filter.mpr ⟨by decide +kernel, rfl⟩
theorem jw_y_X6_tryClosing : jj_yn yX6_tryClosing 1 := ⟨by decide +kernel, by decide +kernel, by decide +kernel⟩
theorem jw_c_X6_gotInTrial : Cond.code yX6_gotInTrial cX6_gotInTrial 3 (some .int) ∈ jj_gW := List.mem_filter.mpr ⟨by decide +kernel, rfl⟩
theorem jw_m_RX6_319 : Cond.methodLink RX6 319 yX6_gotInTrial ∈ jj_gW := List.mem_filter.mpr ⟨by decide +kernel, rfl⟩
theorem jw_s_X6_gotInTrial : Cond.instanceMethod yX6_gotInTrial ∈ jj_gW := List.mem_filter.mpr ⟨by decide +kernel, rfl⟩
theorem jw_e_X6_gotInTrial : Cond.selects yX6_gotInTrial.cls yX6_gotInTrial yX6_gotInTrial ∈ jj_gW := List.mem_filter.mpr ⟨by decide +kernel, rfl⟩
theorem jw_y_X6_gotInTrial : jj_yn yX6_gotInTrial 2 := ⟨by decide +kernel, by decide +kernel, by decide +kernel⟩
theorem jw_c_X6_paidInTrial : Cond.code yX6_paidInTrial cX6_paidInTrial 3 (some .int) ∈ jj_gW := List.mem_filter.mpr ⟨by decide +kernel, rfl⟩
theorem jw_m_RX6_322 : Cond.methodLink RX6 322 yX6_paidInTrial ∈ jj_gW := List.mem_filter.mpr ⟨by decide +kernel, rfl⟩
theorem jw_s_X6_paidInTrial : Cond.instanceMethod yX6_paidInTrial ∈ jj_gW := List.mem_filter.mpr ⟨by decide +kernel, rfl⟩
theorem jw_e_X6_paidInTrial : Cond.selects yX6_paidInTrial.cls yX6_paidInTrial yX6_paidInTrial ∈ jj_gW := List.mem_filter.mpr ⟨by decide +kernel, rfl⟩
theorem jw_y_X6_paidInTrial : jj_yn yX6_paidInTrial 2 := ⟨by decide +kernel, by decide +kernel, by decide +kernel⟩
theorem jw_l_RX6_325 : Cond.constantLong RX6 325 9106 ∈ jj_gW := List.mem_filter.mpr ⟨by decide +kernel, rfl⟩
theorem jw_c_X6_digestOfTotals : Cond.code yX6_digestOfTotals cX6_digestOfTotals 6 (some .long) ∈ jj_gW := List.mem_filter.mpr ⟨by decide +kernel, rfl⟩
theorem jw_m_RX6_327 : Cond.methodLink RX6 327 yX6_digestOfTotals ∈ jj_gW := List.mem_filter.mpr ⟨by decide +kernel, rfl⟩
theorem jw_s_X6_digestOfTotals : Cond.instanceMethod yX6_digestOfTotals ∈ jj_gW := List.mem_filter.mpr ⟨by decide +kernel, rfl⟩
theorem jw_e_X6_digestOfTotals : Cond.selects yX6_digestOfTotals.cls yX6_digestOfTotals yX6_digestOfTotals ∈ jj_gW := List.mem_filter.mpr ⟨by decide +kernel, rfl⟩
theorem jw_y_X6_digestOfTotals : jj_yn yX6_digestOfTotals 1 := ⟨by decide +kernel, by decide +kernel, by decide +kernel⟩
theorem jw_c_X6_digestOfTracks : Cond.code yX6_digestOfTracks cX6_digestOfTracks 7 (some .long) ∈ jj_gW := List.mem_filter.mpr ⟨by decide +kernel, rfl⟩
theorem jw_m_RX6_331 : Cond.methodLink RX6 331 yX6_digestOfTracks ∈ jj_gW := List.mem_filter.mpr ⟨by decide +kernel, rfl⟩
theorem jw_s_X6_digestOfTracks : Cond.instanceMethod yX6_digestOfTracks ∈ jj_gW := List.mem_filter.mpr ⟨by decide +kernel, rfl⟩
theorem jw_e_X6_digestOfTracks : Cond.selects yX6_digestOfTracks.cls yX6_digestOfTracks yX6_digestOfTracks ∈ jj_gW := List.mem_filter.mpr ⟨by decide +kernel, rfl⟩
theorem jw_y_X6_digestOfTracks : jj_yn yX6_digestOfTracks 1 := ⟨by decide +kernel, by decide +kernel, by decide +kernel⟩
theorem jw_c_X6_digestOfListeners : Cond.code yX6_digestOfListeners cX6_digestOfListeners 7 (some .long) ∈ jj_gW := List.mem_filter.mpr ⟨by decide +kernel, rfl⟩
theorem jw_m_RX6_334 : Cond.methodLink RX6 334 yX6_digestOfListeners ∈ jj_gW := List.mem_filter.mpr ⟨by decide +kernel, rfl⟩
theorem jw_s_X6_digestOfListeners : Cond.instanceMethod yX6_digestOfListeners ∈ jj_gW := List.mem_filter.mpr ⟨by decide +kernel, rfl⟩
theorem jw_e_X6_digestOfListeners : Cond.selects yX6_digestOfListeners.cls yX6_digestOfListeners yX6_digestOfListeners ∈ jj_gW := List.mem_filter.mpr ⟨by decide +kernel, rfl⟩
theorem jw_y_X6_digestOfListeners : jj_yn yX6_digestOfListeners 1 := ⟨by decide +kernel, by decide +kernel, by decide +kernel⟩
theorem jw_c_X6_digestOfParties : Cond.code yX6_digestOfParties cX6_digestOfParties 7 (some .long) ∈ jj_gW := List.mem_filter.mpr ⟨by decide +kernel, rfl⟩
theorem jw_m_RX6_337 : Cond.methodLink RX6 337 yX6_digestOfParties ∈ jj_gW := List.mem_filter.mpr ⟨by decide +kernel, rfl⟩
theorem jw_s_X6_digestOfParties : Cond.instanceMethod yX6_digestOfParties ∈ jj_gW := List.mem_filter.mpr ⟨by decide +kernel, rfl⟩
theorem jw_e_X6_digestOfParties : Cond.selects yX6_digestOfParties.cls yX6_digestOfParties yX6_digestOfParties ∈ jj_gW := List.mem_filter.mpr ⟨by decide +kernel, rfl⟩
theorem jw_y_X6_digestOfParties : jj_yn yX6_digestOfParties 1 := ⟨by decide +kernel, by decide +kernel, by decide +kernel⟩
theorem jw_c_X6_digestOfRecordings : Cond.code yX6_digestOfRecordings cX6_digestOfRecordings 7 (some .long) ∈ jj_gW := List.mem_filter.mpr ⟨by decide +kernel, rfl⟩
theorem jw_m_RX6_340 : Cond.methodLink RX6 340 yX6_digestOfRecordings ∈ jj_gW := List.mem_filter.mpr ⟨by decide +kernel, rfl⟩
theorem jw_s_X6_digestOfRecordings : Cond.instanceMethod yX6_digestOfRecordings ∈ jj_gW := List.mem_filter.mpr ⟨by decide +kernel, rfl⟩
theorem jw_e_X6_digestOfRecordings : Cond.selects yX6_digestOfRecordings.cls yX6_digestOfRecordings yX6_digestOfRecordings ∈ jj_gW := List.mem_filter.mpr ⟨by decide +kernel, rfl⟩
theorem jw_y_X6_digestOfRecordings : jj_yn yX6_digestOfRecordings 1 := ⟨by decide +kernel, by decide +kernel, by decide +kernel⟩
theorem jw_c_X6_digestOfCharts : Cond.code yX6_digestOfCharts cX6_digestOfCharts 7 (some .long) ∈ jj_gW := List.mem_filter.mpr ⟨by decide +kernel, rfl⟩
theorem jw_m_RX6_343 : Cond.methodLink RX6 343 yX6_digestOfCharts ∈ jj_gW := List.mem_filter.mpr ⟨by decide +kernel, rfl⟩
theorem jw_s_X6_digestOfCharts : Cond.instanceMethod yX6_digestOfCharts ∈ jj_gW := List.mem_filter.mpr ⟨by decide +kernel, rfl⟩
theorem jw_e_X6_digestOfCharts : Cond.selects yX6_digestOfCharts.cls yX6_digestOfCharts yX6_digestOfCharts ∈ jj_gW := List.mem_filter.mpr ⟨by decide +kernel, rfl⟩
theorem jw_y_X6_digestOfCharts : jj_yn yX6_digestOfCharts 1 := ⟨by decide +kernel, by decide +kernel, by decide +kernel⟩
theorem jw_c_X3_hearersOfBoth : Cond.code yX3_hearersOfBoth cX3_hearersOfBoth 5 (some .int) ∈ jj_gW := List.mem_filter.mpr ⟨by decide +kernel, rfl⟩
theorem jw_h_RX6_310 : Cond.methodLinkNest RX6 310 yX3_hearersOfBoth "PlayPool" ∈ jj_nW := List.mem_filter.mpr ⟨by decide +kernel, rfl⟩
theorem jw_s_X3_hearersOfBoth : Cond.instanceMethod yX3_hearersOfBoth ∈ jj_gW := List.mem_filter.mpr ⟨by decide +kernel, rfl⟩
theorem jw_e_X3_hearersOfBoth : Cond.selects yX3_hearersOfBoth.cls yX3_hearersOfBoth yX3_hearersOfBoth ∈ jj_gW := List.mem_filter.mpr ⟨by decide +kernel, rfl⟩
theorem jw_y_X3_hearersOfBoth : jj_yn yX3_hearersOfBoth 2 := ⟨by decide +kernel, by decide +kernel, by decide +kernel⟩
theorem jw_c_X6_digestStep : Cond.code yX6_digestStep cX6_digestStep 4 (some .long) ∈ jj_gW := List.mem_filter.mpr ⟨by decide +kernel, rfl⟩
theorem jw_m_RX6_346 : Cond.methodLink RX6 346 yX6_digestStep ∈ jj_gW := List.mem_filter.mpr ⟨by decide +kernel, rfl⟩
theorem jw_s_X6_digestStep : Cond.static yX6_digestStep ∈ jj_gW := List.mem_filter.mpr ⟨by decide +kernel, rfl⟩
theorem jw_y_X6_digestStep : jj_yn yX6_digestStep 2 := ⟨by decide +kernel, by decide +kernel, by decide +kernel⟩
theorem jw_c_X6_digestOfPlays : Cond.code yX6_digestOfPlays cX6_digestOfPlays 6 (some .long) ∈ jj_gW := List.mem_filter.mpr ⟨by decide +kernel, rfl⟩
theorem jw_m_RX6_350 : Cond.methodLink RX6 350 yX6_digestOfPlays ∈ jj_gW := List.mem_filter.mpr ⟨by decide +kernel, rfl⟩
theorem jw_s_X6_digestOfPlays : Cond.instanceMethod yX6_digestOfPlays ∈ jj_gW := List.mem_filter.mpr ⟨by decide +kernel, rfl⟩
theorem jw_e_X6_digestOfPlays : Cond.selects yX6_digestOfPlays.cls yX6_digestOfPlays yX6_digestOfPlays ∈ jj_gW := List.mem_filter.mpr ⟨by decide +kernel, rfl⟩
theorem jw_y_X6_digestOfPlays : jj_yn yX6_digestOfPlays 1 := ⟨by decide +kernel, by decide +kernel, by decide +kernel⟩
theorem jw_c_X3_clear : Cond.code yX3_clear cX3_clear 1 none ∈ jj_gW := List.mem_filter.mpr ⟨by decide +kernel, rfl⟩
theorem jw_h_RX6_367 : Cond.methodLinkNest RX6 367 yX3_clear "PlayPool" ∈ jj_nW := List.mem_filter.mpr ⟨by decide +kernel, rfl⟩
theorem jw_s_X3_clear : Cond.instanceMethod yX3_clear ∈ jj_gW := List.mem_filter.mpr ⟨by decide +kernel, rfl⟩
theorem jw_e_X3_clear : Cond.selects yX3_clear.cls yX3_clear yX3_clear ∈ jj_gW := List.mem_filter.mpr ⟨by decide +kernel, rfl⟩
theorem jw_y_X3_clear : jj_yn yX3_clear 0 := ⟨by decide +kernel, by decide +kernel, by decide +kernel⟩
theorem jw_n_RX6_370 : jj_lkN RX6 370 TX4 6 "PlayPool" := List.mem_filter.mpr ⟨(by decide +kernel : Cond.fieldLinkNest RX6 370 (TX4 6).1 (TX4 6).2.1 (TX4 6).2.2.1 "PlayPool" ∈ lw_tbl), rfl⟩
theorem jw_c_X6_dayOf : Cond.code yX6_dayOf cX6_dayOf 1 (some .int) ∈ jj_gW := List.mem_filter.mpr ⟨by decide +kernel, rfl⟩
theorem jw_m_RX6_373 : Cond.methodLink RX6 373 yX6_dayOf ∈ jj_gW := List.mem_filter.mpr ⟨by decide +kernel, rfl⟩
theorem jw_s_X6_dayOf : Cond.static yX6_dayOf ∈ jj_gW := List.mem_filter.mpr ⟨by decide +kernel, rfl⟩
theorem jw_y_X6_dayOf : jj_yn yX6_dayOf 1 := ⟨by decide +kernel, by decide +kernel, by decide +kernel⟩
theorem jw_c_X3_startDay : Cond.code yX3_startDay cX3_startDay 1 none ∈ jj_gW := List.mem_filter.mpr ⟨by decide +kernel, rfl⟩
theorem jw_h_RX6_376 : Cond.methodLinkNest RX6 376 yX3_startDay "PlayPool" ∈ jj_nW := List.mem_filter.mpr ⟨by decide +kernel, rfl⟩
theorem jw_s_X3_startDay : Cond.instanceMethod yX3_startDay ∈ jj_gW := List.mem_filter.mpr ⟨by decide +kernel, rfl⟩
theorem jw_e_X3_startDay : Cond.selects yX3_startDay.cls yX3_startDay yX3_startDay ∈ jj_gW := List.mem_filter.mpr ⟨by decide +kernel, rfl⟩
theorem jw_y_X3_startDay : jj_yn yX3_startDay 0 := ⟨by decide +kernel, by decide +kernel, by decide +kernel⟩
theorem jw_c_X6_judged : Cond.code yX6_judged cX6_judged 6 (some .int) ∈ jj_gW := List.mem_filter.mpr ⟨by decide +kernel, rfl⟩
theorem jw_m_RX6_379 : Cond.methodLink RX6 379 yX6_judged ∈ jj_gW := List.mem_filter.mpr ⟨by decide +kernel, rfl⟩
theorem jw_s_X6_judged : Cond.instanceMethod yX6_judged ∈ jj_gW := List.mem_filter.mpr ⟨by decide +kernel, rfl⟩
theorem jw_e_X6_judged : Cond.selects yX6_judged.cls yX6_judged yX6_judged ∈ jj_gW := List.mem_filter.mpr ⟨by decide +kernel, rfl⟩
theorem jw_y_X6_judged : jj_yn yX6_judged 1 := ⟨by decide +kernel, by decide +kernel, by decide +kernel⟩
theorem jw_c_X3_add : Cond.code yX3_add cX3_add 4 none ∈ jj_gW := List.mem_filter.mpr ⟨by decide +kernel, rfl⟩
theorem jw_h_RX6_382 : Cond.methodLinkNest RX6 382 yX3_add "PlayPool" ∈ jj_nW := List.mem_filter.mpr ⟨by decide +kernel, rfl⟩
theorem jw_s_X3_add : Cond.instanceMethod yX3_add ∈ jj_gW := List.mem_filter.mpr ⟨by decide +kernel, rfl⟩
theorem jw_e_X3_add : Cond.selects yX3_add.cls yX3_add yX3_add ∈ jj_gW := List.mem_filter.mpr ⟨by decide +kernel, rfl⟩
theorem jw_y_X3_add : jj_yn yX3_add 3 := ⟨by decide +kernel, by decide +kernel, by decide +kernel⟩
theorem jw_c_X2_isAllowed : Cond.code yX2_isAllowed cX2_isAllowed 5 (some .boolean) ∈ jj_gW := List.mem_filter.mpr ⟨by decide +kernel, rfl⟩
theorem jw_h_RX6_172 : Cond.methodLinkNest RX6 172 yX2_isAllowed "PlayPool" ∈ jj_nW := List.mem_filter.mpr ⟨by decide +kernel, rfl⟩
theorem jw_s_X2_isAllowed : Cond.instanceMethod yX2_isAllowed ∈ jj_gW := List.mem_filter.mpr ⟨by decide +kernel, rfl⟩
theorem jw_e_X2_isAllowed : Cond.selects yX2_isAllowed.cls yX2_isAllowed yX2_isAllowed ∈ jj_gW := List.mem_filter.mpr ⟨by decide +kernel, rfl⟩
theorem jw_y_X2_isAllowed : jj_yn yX2_isAllowed 3 := ⟨by decide +kernel, by decide +kernel, by decide +kernel⟩
theorem jw_c_X2_isDownIn : Cond.code yX2_isDownIn cX2_isDownIn 3 (some .boolean) ∈ jj_gW := List.mem_filter.mpr ⟨by decide +kernel, rfl⟩
theorem jw_h_RX6_385 : Cond.methodLinkNest RX6 385 yX2_isDownIn "PlayPool" ∈ jj_nW := List.mem_filter.mpr ⟨by decide +kernel, rfl⟩
theorem jw_s_X2_isDownIn : Cond.instanceMethod yX2_isDownIn ∈ jj_gW := List.mem_filter.mpr ⟨by decide +kernel, rfl⟩
theorem jw_e_X2_isDownIn : Cond.selects yX2_isDownIn.cls yX2_isDownIn yX2_isDownIn ∈ jj_gW := List.mem_filter.mpr ⟨by decide +kernel, rfl⟩
theorem jw_y_X2_isDownIn : jj_yn yX2_isDownIn 2 := ⟨by decide +kernel, by decide +kernel, by decide +kernel⟩
theorem jw_n_RX6_388 : jj_lkN RX6 388 TX3 2 "PlayPool" := List.mem_filter.mpr ⟨(by decide +kernel : Cond.fieldLinkNest RX6 388 (TX3 2).1 (TX3 2).2.1 (TX3 2).2.2.1 "PlayPool" ∈ lw_tbl), rfl⟩
theorem jw_c_X1_close : Cond.code yX1_close cX1_close 6 none ∈ jj_gW := List.mem_filter.mpr ⟨by decide +kernel, rfl⟩
theorem jw_h_RX6_391 : Cond.methodLinkNest RX6 391 yX1_close "PlayPool" ∈ jj_nW := List.mem_filter.mpr ⟨by decide +kernel, rfl⟩
theorem jw_s_X1_close : Cond.instanceMethod yX1_close ∈ jj_gW := List.mem_filter.mpr ⟨by decide +kernel, rfl⟩
theorem jw_e_X1_close : Cond.selects yX1_close.cls yX1_close yX1_close ∈ jj_gW := List.mem_filter.mpr ⟨by decide +kernel, rfl⟩
theorem jw_y_X1_close : jj_yn yX1_close 4 := ⟨by decide +kernel, by decide +kernel, by decide +kernel⟩
theorem jw_c_X0_takeFees : Cond.code yX0_takeFees cX0_takeFees 2 none ∈ jj_gW := List.mem_filter.mpr ⟨by decide +kernel, rfl⟩
theorem jw_h_RX6_395 : Cond.methodLinkNest RX6 395 yX0_takeFees "PlayPool" ∈ jj_nW := List.mem_filter.mpr ⟨by decide +kernel, rfl⟩
theorem jw_s_X0_takeFees : Cond.instanceMethod yX0_takeFees ∈ jj_gW := List.mem_filter.mpr ⟨by decide +kernel, rfl⟩
theorem jw_e_X0_takeFees : Cond.selects yX0_takeFees.cls yX0_takeFees yX0_takeFees ∈ jj_gW := List.mem_filter.mpr ⟨by decide +kernel, rfl⟩
theorem jw_y_X0_takeFees : jj_yn yX0_takeFees 0 := ⟨by decide +kernel, by decide +kernel, by decide +kernel⟩
theorem jw_c_X6_trialBy : Cond.code yX6_trialBy cX6_trialBy 2 (some (.object "PlayPool$Books")) ∈ jj_gW := List.mem_filter.mpr ⟨by decide +kernel, rfl⟩
theorem jw_m_RX6_398 : Cond.methodLink RX6 398 yX6_trialBy ∈ jj_gW := List.mem_filter.mpr ⟨by decide +kernel, rfl⟩
theorem jw_s_X6_trialBy : Cond.instanceMethod yX6_trialBy ∈ jj_gW := List.mem_filter.mpr ⟨by decide +kernel, rfl⟩
theorem jw_e_X6_trialBy : Cond.selects yX6_trialBy.cls yX6_trialBy yX6_trialBy ∈ jj_gW := List.mem_filter.mpr ⟨by decide +kernel, rfl⟩
theorem jw_y_X6_trialBy : jj_yn yX6_trialBy 1 := ⟨by decide +kernel, by decide +kernel, by decide +kernel⟩
theorem jw_c_X1_takeOver : Cond.code yX1_takeOver cX1_takeOver 2 none ∈ jj_gW := List.mem_filter.mpr ⟨by decide +kernel, rfl⟩
theorem jw_h_RX6_402 : Cond.methodLinkNest RX6 402 yX1_takeOver "PlayPool" ∈ jj_nW := List.mem_filter.mpr ⟨by decide +kernel, rfl⟩
theorem jw_s_X1_takeOver : Cond.instanceMethod yX1_takeOver ∈ jj_gW := List.mem_filter.mpr ⟨by decide +kernel, rfl⟩
theorem jw_e_X1_takeOver : Cond.selects yX1_takeOver.cls yX1_takeOver yX1_takeOver ∈ jj_gW := List.mem_filter.mpr ⟨by decide +kernel, rfl⟩
theorem jw_y_X1_takeOver : jj_yn yX1_takeOver 1 := ⟨by decide +kernel, by decide +kernel, by decide +kernel⟩
theorem jw_c_X6_countPoints : Cond.code yX6_countPoints cX6_countPoints 4 none ∈ jj_gW := List.mem_filter.mpr ⟨by decide +kernel, rfl⟩
theorem jw_m_RX6_406 : Cond.methodLink RX6 406 yX6_countPoints ∈ jj_gW := List.mem_filter.mpr ⟨by decide +kernel, rfl⟩
theorem jw_s_X6_countPoints : Cond.instanceMethod yX6_countPoints ∈ jj_gW := List.mem_filter.mpr ⟨by decide +kernel, rfl⟩
theorem jw_e_X6_countPoints : Cond.selects yX6_countPoints.cls yX6_countPoints yX6_countPoints ∈ jj_gW := List.mem_filter.mpr ⟨by decide +kernel, rfl⟩
theorem jw_y_X6_countPoints : jj_yn yX6_countPoints 1 := ⟨by decide +kernel, by decide +kernel, by decide +kernel⟩
theorem jw_c_X6_placeOf : Cond.code yX6_placeOf cX6_placeOf 4 (some .int) ∈ jj_gW := List.mem_filter.mpr ⟨by decide +kernel, rfl⟩
theorem jw_m_RX6_409 : Cond.methodLink RX6 409 yX6_placeOf ∈ jj_gW := List.mem_filter.mpr ⟨by decide +kernel, rfl⟩
theorem jw_s_X6_placeOf : Cond.static yX6_placeOf ∈ jj_gW := List.mem_filter.mpr ⟨by decide +kernel, rfl⟩
theorem jw_y_X6_placeOf : jj_yn yX6_placeOf 2 := ⟨by decide +kernel, by decide +kernel, by decide +kernel⟩
theorem jw_c_J7_fill_53178 : Cond.code yJ7_fill_53178 cJ7_fill_53178 4 none ∈ jj_gW := List.mem_filter.mpr ⟨by decide +kernel, rfl⟩
theorem jw_i_RJ7 : Cond.initialized yJ7_fill_53178.cls ∈ jj_gW := List.mem_filter.mpr ⟨by decide +kernel, rfl⟩
theorem jw_m_RX6_413 : Cond.methodLink RX6 413 yJ7_fill_53178 ∈ jj_gW := List.mem_filter.mpr ⟨by decide +kernel, rfl⟩
theorem jw_s_J7_fill_53178 : Cond.static yJ7_fill_53178 ∈ jj_gW := List.mem_filter.mpr ⟨by decide +kernel, rfl⟩
theorem jw_y_J7_fill_53178 : jj_yn yJ7_fill_53178 2 := ⟨by decide +kernel, by decide +kernel, by decide +kernel⟩
theorem jw_c_X6_addTimes : Cond.code yX6_addTimes cX6_addTimes 4 none ∈ jj_gW := List.mem_filter.mpr ⟨by decide +kernel, rfl⟩
theorem jw_m_RX6_419 : Cond.methodLink RX6 419 yX6_addTimes ∈ jj_gW := List.mem_filter.mpr ⟨by decide +kernel, rfl⟩
theorem jw_s_X6_addTimes : Cond.static yX6_addTimes ∈ jj_gW := List.mem_filter.mpr ⟨by decide +kernel, rfl⟩
theorem jw_y_X6_addTimes : jj_yn yX6_addTimes 3 := ⟨by decide +kernel, by decide +kernel, by decide +kernel⟩
theorem jw_c_X6_isNewAndHearable : Cond.code yX6_isNewAndHearable cX6_isNewAndHearable 3 (some .boolean) ∈ jj_gW := List.mem_filter.mpr ⟨by decide +kernel, rfl⟩
theorem jw_m_RX6_423 : Cond.methodLink RX6 423 yX6_isNewAndHearable ∈ jj_gW := List.mem_filter.mpr ⟨by decide +kernel, rfl⟩
theorem jw_s_X6_isNewAndHearable : Cond.instanceMethod yX6_isNewAndHearable ∈ jj_gW := List.mem_filter.mpr ⟨by decide +kernel, rfl⟩
theorem jw_e_X6_isNewAndHearable : Cond.selects yX6_isNewAndHearable.cls yX6_isNewAndHearable yX6_isNewAndHearable ∈ jj_gW := List.mem_filter.mpr ⟨by decide +kernel, rfl⟩
theorem jw_y_X6_isNewAndHearable : jj_yn yX6_isNewAndHearable 2 := ⟨by decide +kernel, by decide +kernel, by decide +kernel⟩
theorem jw_c_X6_alikeToHeard : Cond.code yX6_alikeToHeard cX6_alikeToHeard 5 (some .int) ∈ jj_gW := List.mem_filter.mpr ⟨by decide +kernel, rfl⟩
theorem jw_m_RX6_426 : Cond.methodLink RX6 426 yX6_alikeToHeard ∈ jj_gW := List.mem_filter.mpr ⟨by decide +kernel, rfl⟩
theorem jw_s_X6_alikeToHeard : Cond.instanceMethod yX6_alikeToHeard ∈ jj_gW := List.mem_filter.mpr ⟨by decide +kernel, rfl⟩
theorem jw_e_X6_alikeToHeard : Cond.selects yX6_alikeToHeard.cls yX6_alikeToHeard yX6_alikeToHeard ∈ jj_gW := List.mem_filter.mpr ⟨by decide +kernel, rfl⟩
theorem jw_y_X6_alikeToHeard : jj_yn yX6_alikeToHeard 2 := ⟨by decide +kernel, by decide +kernel, by decide +kernel⟩
theorem jw_c_X2_isHearable : Cond.code yX2_isHearable cX2_isHearable 5 (some .boolean) ∈ jj_gW := List.mem_filter.mpr ⟨by decide +kernel, rfl⟩
theorem jw_h_RX6_429 : Cond.methodLinkNest RX6 429 yX2_isHearable "PlayPool" ∈ jj_nW := List.mem_filter.mpr ⟨by decide +kernel, rfl⟩
theorem jw_s_X2_isHearable : Cond.instanceMethod yX2_isHearable ∈ jj_gW := List.mem_filter.mpr ⟨by decide +kernel, rfl⟩
theorem jw_e_X2_isHearable : Cond.selects yX2_isHearable.cls yX2_isHearable yX2_isHearable ∈ jj_gW := List.mem_filter.mpr ⟨by decide +kernel, rfl⟩
theorem jw_y_X2_isHearable : jj_yn yX2_isHearable 3 := ⟨by decide +kernel, by decide +kernel, by decide +kernel⟩
theorem jw_l_RX6_432 : Cond.constantLong RX6 432 31 ∈ jj_gW := List.mem_filter.mpr ⟨by decide +kernel, rfl⟩
theorem jw_c_X6_many : Cond.code yX6_many cX6_many 2 (some .int) ∈ jj_gW := List.mem_filter.mpr ⟨by decide +kernel, rfl⟩
theorem jw_m_RX6_434 : Cond.methodLink RX6 434 yX6_many ∈ jj_gW := List.mem_filter.mpr ⟨by decide +kernel, rfl⟩
theorem jw_s_X6_many : Cond.instanceMethod yX6_many ∈ jj_gW := List.mem_filter.mpr ⟨by decide +kernel, rfl⟩
theorem jw_e_X6_many : Cond.selects yX6_many.cls yX6_many yX6_many ∈ jj_gW := List.mem_filter.mpr ⟨by decide +kernel, rfl⟩
theorem jw_y_X6_many : jj_yn yX6_many 1 := ⟨by decide +kernel, by decide +kernel, by decide +kernel⟩
theorem jw_c_X6_ofTrack : Cond.code yX6_ofTrack cX6_ofTrack 3 (some .int) ∈ jj_gW := List.mem_filter.mpr ⟨by decide +kernel, rfl⟩
theorem jw_m_RX6_437 : Cond.methodLink RX6 437 yX6_ofTrack ∈ jj_gW := List.mem_filter.mpr ⟨by decide +kernel, rfl⟩
theorem jw_s_X6_ofTrack : Cond.instanceMethod yX6_ofTrack ∈ jj_gW := List.mem_filter.mpr ⟨by decide +kernel, rfl⟩
theorem jw_e_X6_ofTrack : Cond.selects yX6_ofTrack.cls yX6_ofTrack yX6_ofTrack ∈ jj_gW := List.mem_filter.mpr ⟨by decide +kernel, rfl⟩
theorem jw_y_X6_ofTrack : jj_yn yX6_ofTrack 2 := ⟨by decide +kernel, by decide +kernel, by decide +kernel⟩
theorem jw_c_X6_ofListener : Cond.code yX6_ofListener cX6_ofListener 3 (some .int) ∈ jj_gW := List.mem_filter.mpr ⟨by decide +kernel, rfl⟩
theorem jw_m_RX6_440 : Cond.methodLink RX6 440 yX6_ofListener ∈ jj_gW := List.mem_filter.mpr ⟨by decide +kernel, rfl⟩
theorem jw_s_X6_ofListener : Cond.instanceMethod yX6_ofListener ∈ jj_gW := List.mem_filter.mpr ⟨by decide +kernel, rfl⟩
theorem jw_e_X6_ofListener : Cond.selects yX6_ofListener.cls yX6_ofListener yX6_ofListener ∈ jj_gW := List.mem_filter.mpr ⟨by decide +kernel, rfl⟩
theorem jw_y_X6_ofListener : jj_yn yX6_ofListener 2 := ⟨by decide +kernel, by decide +kernel, by decide +kernel⟩
theorem jw_c_X6_suggestion : Cond.code yX6_suggestion cX6_suggestion 8 (some .int) ∈ jj_gW := List.mem_filter.mpr ⟨by decide +kernel, rfl⟩
theorem jw_m_RX6_313 : Cond.methodLink RX6 313 yX6_suggestion ∈ jj_gW := List.mem_filter.mpr ⟨by decide +kernel, rfl⟩
theorem jw_s_X6_suggestion : Cond.instanceMethod yX6_suggestion ∈ jj_gW := List.mem_filter.mpr ⟨by decide +kernel, rfl⟩
theorem jw_e_X6_suggestion : Cond.selects yX6_suggestion.cls yX6_suggestion yX6_suggestion ∈ jj_gW := List.mem_filter.mpr ⟨by decide +kernel, rfl⟩
theorem jw_y_X6_suggestion : jj_yn yX6_suggestion 1 := ⟨by decide +kernel, by decide +kernel, by decide +kernel⟩
theorem jw_c_X6_ofParty : Cond.code yX6_ofParty cX6_ofParty 3 (some .int) ∈ jj_gW := List.mem_filter.mpr ⟨by decide +kernel, rfl⟩
theorem jw_m_RX6_443 : Cond.methodLink RX6 443 yX6_ofParty ∈ jj_gW := List.mem_filter.mpr ⟨by decide +kernel, rfl⟩
theorem jw_s_X6_ofParty : Cond.instanceMethod yX6_ofParty ∈ jj_gW := List.mem_filter.mpr ⟨by decide +kernel, rfl⟩
theorem jw_e_X6_ofParty : Cond.selects yX6_ofParty.cls yX6_ofParty yX6_ofParty ∈ jj_gW := List.mem_filter.mpr ⟨by decide +kernel, rfl⟩
theorem jw_y_X6_ofParty : jj_yn yX6_ofParty 2 := ⟨by decide +kernel, by decide +kernel, by decide +kernel⟩
theorem jw_c_X6_ofRecording : Cond.code yX6_ofRecording cX6_ofRecording 3 (some .int) ∈ jj_gW := List.mem_filter.mpr ⟨by decide +kernel, rfl⟩
theorem jw_m_RX6_446 : Cond.methodLink RX6 446 yX6_ofRecording ∈ jj_gW := List.mem_filter.mpr ⟨by decide +kernel, rfl⟩
theorem jw_s_X6_ofRecording : Cond.instanceMethod yX6_ofRecording ∈ jj_gW := List.mem_filter.mpr ⟨by decide +kernel, rfl⟩
theorem jw_e_X6_ofRecording : Cond.selects yX6_ofRecording.cls yX6_ofRecording yX6_ofRecording ∈ jj_gW := List.mem_filter.mpr ⟨by decide +kernel, rfl⟩
theorem jw_y_X6_ofRecording : jj_yn yX6_ofRecording 2 := ⟨by decide +kernel, by decide +kernel, by decide +kernel⟩
theorem jw_c_X6_charted : Cond.code yX6_charted cX6_charted 4 (some .int) ∈ jj_gW := List.mem_filter.mpr ⟨by decide +kernel, rfl⟩
theorem jw_m_RX6_305 : Cond.methodLink RX6 305 yX6_charted ∈ jj_gW := List.mem_filter.mpr ⟨by decide +kernel, rfl⟩
theorem jw_s_X6_charted : Cond.instanceMethod yX6_charted ∈ jj_gW := List.mem_filter.mpr ⟨by decide +kernel, rfl⟩
theorem jw_e_X6_charted : Cond.selects yX6_charted.cls yX6_charted yX6_charted ∈ jj_gW := List.mem_filter.mpr ⟨by decide +kernel, rfl⟩
theorem jw_y_X6_charted : jj_yn yX6_charted 2 := ⟨by decide +kernel, by decide +kernel, by decide +kernel⟩
theorem jw_c_J9_min_7cf53 : Cond.code yJ9_min_7cf53 cJ9_min_7cf53 2 (some .int) ∈ jj_gW := List.mem_filter.mpr ⟨by decide +kernel, rfl⟩
theorem jw_i_RJ9 : Cond.initialized yJ9_min_7cf53.cls ∈ jj_gW := List.mem_filter.mpr ⟨by decide +kernel, rfl⟩
theorem jw_m_RX6_449 : Cond.methodLink RX6 449 yJ9_min_7cf53 ∈ jj_gW := List.mem_filter.mpr ⟨by decide +kernel, rfl⟩
theorem jw_s_J9_min_7cf53 : Cond.static yJ9_min_7cf53 ∈ jj_gW := List.mem_filter.mpr ⟨by decide +kernel, rfl⟩
theorem jw_y_J9_min_7cf53 : jj_yn yJ9_min_7cf53 2 := ⟨by decide +kernel, by decide +kernel, by decide +kernel⟩
theorem jw_m_RX6_454 : Cond.methodLink RX6 454 arraycopyName ∈ jj_gW := List.mem_filter.mpr ⟨by decide +kernel, rfl⟩
theorem jw_an : Cond.native arraycopyName ∈ jj_gW := List.mem_filter.mpr ⟨by decide +kernel, rfl⟩
theorem jw_as : Cond.static arraycopyName ∈ jj_gW := List.mem_filter.mpr ⟨by decide +kernel, rfl⟩
theorem jw_ai : Cond.initialized "java/lang/System" ∈ jj_gW := List.mem_filter.mpr ⟨by decide +kernel, rfl⟩
theorem jw_m_RX0_3 : Cond.methodLink RX0 3 objectInit ∈ jj_gW := List.mem_filter.mpr ⟨by decide +kernel, rfl⟩
theorem jw_f_RX0_9 : jj_lkF RX0 9 TX0 0 := List.mem_filter.mpr ⟨(by decide +kernel : Cond.fieldLink RX0 9 (TX0 0).1 (TX0 0).2.1 (TX0 0).2.2.1 ∈ lw_tbl), rfl⟩
theorem jw_f_RX0_15 : jj_lkF RX0 15 TX0 1 := List.mem_filter.mpr ⟨(by decide +kernel : Cond.fieldLink RX0 15 (TX0 1).1 (TX0 1).2.1 (TX0 1).2.2.1 ∈ lw_tbl), rfl⟩
theorem jw_f_RX0_19 : jj_lkF RX0 19 TX0 2 := List.mem_filter.mpr ⟨(by decide +kernel : Cond.fieldLink RX0 19 (TX0 2).1 (TX0 2).2.1 (TX0 2).2.2.1 ∈ lw_tbl), rfl⟩
theorem jw_f_RX0_22 : jj_lkF RX0 22 TX0 3 := List.mem_filter.mpr ⟨(by decide +kernel : Cond.fieldLink RX0 22 (TX0 3).1 (TX0 3).2.1 (TX0 3).2.2.1 ∈ lw_tbl), rfl⟩
theorem jw_f_RX0_26 : jj_lkF RX0 26 TX0 4 := List.mem_filter.mpr ⟨(by decide +kernel : Cond.fieldLink RX0 26 (TX0 4).1 (TX0 4).2.1 (TX0 4).2.2.1 ∈ lw_tbl), rfl⟩
theorem jw_f_RX0_29 : jj_lkF RX0 29 TX0 5 := List.mem_filter.mpr ⟨(by decide +kernel : Cond.fieldLink RX0 29 (TX0 5).1 (TX0 5).2.1 (TX0 5).2.2.1 ∈ lw_tbl), rfl⟩
theorem jw_w_RX0_32 : Cond.classLink RX0 32 "[[I" ∈ jj_gW := List.mem_filter.mpr ⟨by decide +kernel, rfl⟩
theorem jw_f_RX0_34 : jj_lkF RX0 34 TX0 6 := List.mem_filter.mpr ⟨(by decide +kernel : Cond.fieldLink RX0 34 (TX0 6).1 (TX0 6).2.1 (TX0 6).2.2.1 ∈ lw_tbl), rfl⟩
theorem jw_c_X0_feeOf : Cond.code yX0_feeOf cX0_feeOf 2 (some .int) ∈ jj_gW := List.mem_filter.mpr ⟨by decide +kernel, rfl⟩
theorem jw_m_RX0_43 : Cond.methodLink RX0 43 yX0_feeOf ∈ jj_gW := List.mem_filter.mpr ⟨by decide +kernel, rfl⟩
theorem jw_s_X0_feeOf : Cond.instanceMethod yX0_feeOf ∈ jj_gW := List.mem_filter.mpr ⟨by decide +kernel, rfl⟩
theorem jw_e_X0_feeOf : Cond.selects yX0_feeOf.cls yX0_feeOf yX0_feeOf ∈ jj_gW := List.mem_filter.mpr ⟨by decide +kernel, rfl⟩
theorem jw_y_X0_feeOf : jj_yn yX0_feeOf 1 := ⟨by decide +kernel, by decide +kernel, by decide +kernel⟩
theorem jw_m_RX1_3 : Cond.methodLink RX1 3 objectInit ∈ jj_gW := List.mem_filter.mpr ⟨by decide +kernel, rfl⟩
theorem jw_f_RX1_9 : jj_lkF RX1 9 TX1 0 := List.mem_filter.mpr ⟨(by decide +kernel : Cond.fieldLink RX1 9 (TX1 0).1 (TX1 0).2.1 (TX1 0).2.2.1 ∈ lw_tbl), rfl⟩
theorem jw_f_RX1_15 : jj_lkF RX1 15 TX1 1 := List.mem_filter.mpr ⟨(by decide +kernel : Cond.fieldLink RX1 15 (TX1 1).1 (TX1 1).2.1 (TX1 1).2.2.1 ∈ lw_tbl), rfl⟩
theorem jw_f_RX1_18 : jj_lkF RX1 18 TX1 2 := List.mem_filter.mpr ⟨(by decide +kernel : Cond.fieldLink RX1 18 (TX1 2).1 (TX1 2).2.1 (TX1 2).2.2.1 ∈ lw_tbl), rfl⟩
theorem jw_f_RX1_22 : jj_lkF RX1 22 TX1 3 := List.mem_filter.mpr ⟨(by decide +kernel : Cond.fieldLink RX1 22 (TX1 3).1 (TX1 3).2.1 (TX1 3).2.2.1 ∈ lw_tbl), rfl⟩
theorem jw_f_RX1_25 : jj_lkF RX1 25 TX1 4 := List.mem_filter.mpr ⟨(by decide +kernel : Cond.fieldLink RX1 25 (TX1 4).1 (TX1 4).2.1 (TX1 4).2.2.1 ∈ lw_tbl), rfl⟩
theorem jw_f_RX1_28 : jj_lkF RX1 28 TX1 5 := List.mem_filter.mpr ⟨(by decide +kernel : Cond.fieldLink RX1 28 (TX1 5).1 (TX1 5).2.1 (TX1 5).2.2.1 ∈ lw_tbl), rfl⟩
theorem jw_f_RX1_31 : jj_lkF RX1 31 TX1 6 := List.mem_filter.mpr ⟨(by decide +kernel : Cond.fieldLink RX1 31 (TX1 6).1 (TX1 6).2.1 (TX1 6).2.2.1 ∈ lw_tbl), rfl⟩
theorem jw_f_RX1_34 : jj_lkF RX1 34 TX1 7 := List.mem_filter.mpr ⟨(by decide +kernel : Cond.fieldLink RX1 34 (TX1 7).1 (TX1 7).2.1 (TX1 7).2.2.1 ∈ lw_tbl), rfl⟩
theorem jw_f_RX1_37 : jj_lkF RX1 37 TX1 8 := List.mem_filter.mpr ⟨(by decide +kernel : Cond.fieldLink RX1 37 (TX1 8).1 (TX1 8).2.1 (TX1 8).2.2.1 ∈ lw_tbl), rfl⟩
theorem jw_f_RX1_40 : jj_lkF RX1 40 TX1 9 := List.mem_filter.mpr ⟨(by decide +kernel : Cond.fieldLink RX1 40 (TX1 9).1 (TX1 9).2.1 (TX1 9).2.2.1 ∈ lw_tbl), rfl⟩
theorem jw_f_RX1_43 : jj_lkF RX1 43 TX1 10 := List.mem_filter.mpr ⟨(by decide +kernel : Cond.fieldLink RX1 43 (TX1 10).1 (TX1 10).2.1 (TX1 10).2.2.1 ∈ lw_tbl), rfl⟩
theorem jw_f_RX1_46 : jj_lkF RX1 46 TX1 11 := List.mem_filter.mpr ⟨(by decide +kernel : Cond.fieldLink RX1 46 (TX1 11).1 (TX1 11).2.1 (TX1 11).2.2.1 ∈ lw_tbl), rfl⟩
theorem jw_c_X6_copyAll : Cond.code yX6_copyAll cX6_copyAll 2 none ∈ jj_gW := List.mem_filter.mpr ⟨by decide +kernel, rfl⟩
theorem jw_h_RX1_49 : Cond.methodLinkNest RX1 49 yX6_copyAll "PlayPool" ∈ jj_nW := List.mem_filter.mpr ⟨by decide +kernel, rfl⟩
theorem jw_s_X6_copyAll : Cond.static yX6_copyAll ∈ jj_gW := List.mem_filter.mpr ⟨by decide +kernel, rfl⟩
theorem jw_y_X6_copyAll : jj_yn yX6_copyAll 2 := ⟨by decide +kernel, by decide +kernel, by decide +kernel⟩
theorem jw_m_RX1_53 : Cond.methodLink RX1 53 yJ7_fill_53178 ∈ jj_gW := List.mem_filter.mpr ⟨by decide +kernel, rfl⟩
theorem jw_c_X1_takeHouseParts : Cond.code yX1_takeHouseParts cX1_takeHouseParts 3 none ∈ jj_gW := List.mem_filter.mpr ⟨by decide +kernel, rfl⟩
theorem jw_m_RX1_59 : Cond.methodLink RX1 59 yX1_takeHouseParts ∈ jj_gW := List.mem_filter.mpr ⟨by decide +kernel, rfl⟩
theorem jw_s_X1_takeHouseParts : Cond.instanceMethod yX1_takeHouseParts ∈ jj_gW := List.mem_filter.mpr ⟨by decide +kernel, rfl⟩
theorem jw_e_X1_takeHouseParts : Cond.selects yX1_takeHouseParts.cls yX1_takeHouseParts yX1_takeHouseParts ∈ jj_gW := List.mem_filter.mpr ⟨by decide +kernel, rfl⟩
theorem jw_y_X1_takeHouseParts : jj_yn yX1_takeHouseParts 1 := ⟨by decide +kernel, by decide +kernel, by decide +kernel⟩
theorem jw_c_X1_weighLand : Cond.code yX1_weighLand cX1_weighLand 5 none ∈ jj_gW := List.mem_filter.mpr ⟨by decide +kernel, rfl⟩
theorem jw_m_RX1_63 : Cond.methodLink RX1 63 yX1_weighLand ∈ jj_gW := List.mem_filter.mpr ⟨by decide +kernel, rfl⟩
theorem jw_s_X1_weighLand : Cond.instanceMethod yX1_weighLand ∈ jj_gW := List.mem_filter.mpr ⟨by decide +kernel, rfl⟩
theorem jw_e_X1_weighLand : Cond.selects yX1_weighLand.cls yX1_weighLand yX1_weighLand ∈ jj_gW := List.mem_filter.mpr ⟨by decide +kernel, rfl⟩
theorem jw_y_X1_weighLand : jj_yn yX1_weighLand 3 := ⟨by decide +kernel, by decide +kernel, by decide +kernel⟩
theorem jw_c_X1_poolOf : Cond.code yX1_poolOf cX1_poolOf 5 (some .int) ∈ jj_gW := List.mem_filter.mpr ⟨by decide +kernel, rfl⟩
theorem jw_m_RX1_67 : Cond.methodLink RX1 67 yX1_poolOf ∈ jj_gW := List.mem_filter.mpr ⟨by decide +kernel, rfl⟩
theorem jw_s_X1_poolOf : Cond.instanceMethod yX1_poolOf ∈ jj_gW := List.mem_filter.mpr ⟨by decide +kernel, rfl⟩
theorem jw_e_X1_poolOf : Cond.selects yX1_poolOf.cls yX1_poolOf yX1_poolOf ∈ jj_gW := List.mem_filter.mpr ⟨by decide +kernel, rfl⟩
theorem jw_y_X1_poolOf : jj_yn yX1_poolOf 2 := ⟨by decide +kernel, by decide +kernel, by decide +kernel⟩
theorem jw_c_X1_split : Cond.code yX1_split cX1_split 7 (some .int) ∈ jj_gW := List.mem_filter.mpr ⟨by decide +kernel, rfl⟩
theorem jw_m_RX1_71 : Cond.methodLink RX1 71 yX1_split ∈ jj_gW := List.mem_filter.mpr ⟨by decide +kernel, rfl⟩
theorem jw_s_X1_split : Cond.instanceMethod yX1_split ∈ jj_gW := List.mem_filter.mpr ⟨by decide +kernel, rfl⟩
theorem jw_e_X1_split : Cond.selects yX1_split.cls yX1_split yX1_split ∈ jj_gW := List.mem_filter.mpr ⟨by decide +kernel, rfl⟩
theorem jw_y_X1_split : jj_yn yX1_split 2 := ⟨by decide +kernel, by decide +kernel, by decide +kernel⟩
theorem jw_c_X1_splitByListener : Cond.code yX1_splitByListener cX1_splitByListener 5 none ∈ jj_gW := List.mem_filter.mpr ⟨by decide +kernel, rfl⟩
theorem jw_m_RX1_75 : Cond.methodLink RX1 75 yX1_splitByListener ∈ jj_gW := List.mem_filter.mpr ⟨by decide +kernel, rfl⟩
theorem jw_s_X1_splitByListener : Cond.instanceMethod yX1_splitByListener ∈ jj_gW := List.mem_filter.mpr ⟨by decide +kernel, rfl⟩
theorem jw_e_X1_splitByListener : Cond.selects yX1_splitByListener.cls yX1_splitByListener yX1_splitByListener ∈ jj_gW := List.mem_filter.mpr ⟨by decide +kernel, rfl⟩
theorem jw_y_X1_splitByListener : jj_yn yX1_splitByListener 3 := ⟨by decide +kernel, by decide +kernel, by decide +kernel⟩
theorem jw_c_X1_share : Cond.code yX1_share cX1_share 7 none ∈ jj_gW := List.mem_filter.mpr ⟨by decide +kernel, rfl⟩
theorem jw_m_RX1_78 : Cond.methodLink RX1 78 yX1_share ∈ jj_gW := List.mem_filter.mpr ⟨by decide +kernel, rfl⟩
theorem jw_s_X1_share : Cond.instanceMethod yX1_share ∈ jj_gW := List.mem_filter.mpr ⟨by decide +kernel, rfl⟩
theorem jw_e_X1_share : Cond.selects yX1_share.cls yX1_share yX1_share ∈ jj_gW := List.mem_filter.mpr ⟨by decide +kernel, rfl⟩
theorem jw_y_X1_share : jj_yn yX1_share 2 := ⟨by decide +kernel, by decide +kernel, by decide +kernel⟩
theorem jw_c_X1_recoup : Cond.code yX1_recoup cX1_recoup 3 none ∈ jj_gW := List.mem_filter.mpr ⟨by decide +kernel, rfl⟩
theorem jw_m_RX1_82 : Cond.methodLink RX1 82 yX1_recoup ∈ jj_gW := List.mem_filter.mpr ⟨by decide +kernel, rfl⟩
theorem jw_s_X1_recoup : Cond.instanceMethod yX1_recoup ∈ jj_gW := List.mem_filter.mpr ⟨by decide +kernel, rfl⟩
theorem jw_e_X1_recoup : Cond.selects yX1_recoup.cls yX1_recoup yX1_recoup ∈ jj_gW := List.mem_filter.mpr ⟨by decide +kernel, rfl⟩
theorem jw_y_X1_recoup : jj_yn yX1_recoup 1 := ⟨by decide +kernel, by decide +kernel, by decide +kernel⟩
theorem jw_c_X1_payOut : Cond.code yX1_payOut cX1_payOut 2 none ∈ jj_gW := List.mem_filter.mpr ⟨by decide +kernel, rfl⟩
theorem jw_m_RX1_86 : Cond.methodLink RX1 86 yX1_payOut ∈ jj_gW := List.mem_filter.mpr ⟨by decide +kernel, rfl⟩
theorem jw_s_X1_payOut : Cond.instanceMethod yX1_payOut ∈ jj_gW := List.mem_filter.mpr ⟨by decide +kernel, rfl⟩
theorem jw_e_X1_payOut : Cond.selects yX1_payOut.cls yX1_payOut yX1_payOut ∈ jj_gW := List.mem_filter.mpr ⟨by decide +kernel, rfl⟩
theorem jw_y_X1_payOut : jj_yn yX1_payOut 1 := ⟨by decide +kernel, by decide +kernel, by decide +kernel⟩
theorem jw_n_RX1_89 : jj_lkN RX1 89 TX0 0 "PlayPool" := List.mem_filter.mpr ⟨(by decide +kernel : Cond.fieldLinkNest RX1 89 (TX0 0).1 (TX0 0).2.1 (TX0 0).2.2.1 "PlayPool" ∈ lw_tbl), rfl⟩
theorem jw_h_RX1_94 : Cond.methodLinkNest RX1 94 yX0_feeOf "PlayPool" ∈ jj_nW := List.mem_filter.mpr ⟨by decide +kernel, rfl⟩
theorem jw_c_X0_poolPartOf : Cond.code yX0_poolPartOf cX0_poolPartOf 2 (some .int) ∈ jj_gW := List.mem_filter.mpr ⟨by decide +kernel, rfl⟩
theorem jw_h_RX1_98 : Cond.methodLinkNest RX1 98 yX0_poolPartOf "PlayPool" ∈ jj_nW := List.mem_filter.mpr ⟨by decide +kernel, rfl⟩
theorem jw_s_X0_poolPartOf : Cond.instanceMethod yX0_poolPartOf ∈ jj_gW := List.mem_filter.mpr ⟨by decide +kernel, rfl⟩
theorem jw_e_X0_poolPartOf : Cond.selects yX0_poolPartOf.cls yX0_poolPartOf yX0_poolPartOf ∈ jj_gW := List.mem_filter.mpr ⟨by decide +kernel, rfl⟩
theorem jw_y_X0_poolPartOf : jj_yn yX0_poolPartOf 1 := ⟨by decide +kernel, by decide +kernel, by decide +kernel⟩
theorem jw_n_RX1_101 : jj_lkN RX1 101 TX0 1 "PlayPool" := List.mem_filter.mpr ⟨(by decide +kernel : Cond.fieldLinkNest RX1 101 (TX0 1).1 (TX0 1).2.1 (TX0 1).2.2.1 "PlayPool" ∈ lw_tbl), rfl⟩
theorem jw_n_RX1_104 : jj_lkN RX1 104 TX3 1 "PlayPool" := List.mem_filter.mpr ⟨(by decide +kernel : Cond.fieldLinkNest RX1 104 (TX3 1).1 (TX3 1).2.1 (TX3 1).2.2.1 "PlayPool" ∈ lw_tbl), rfl⟩
theorem jw_h_RX1_110 : Cond.methodLinkNest RX1 110 yX6_addTimes "PlayPool" ∈ jj_nW := List.mem_filter.mpr ⟨by decide +kernel, rfl⟩
theorem jw_h_RX1_114 : Cond.methodLinkNest RX1 114 yX6_sumOf "PlayPool" ∈ jj_nW := List.mem_filter.mpr ⟨by decide +kernel, rfl⟩
theorem jw_h_RX1_118 : Cond.methodLinkNest RX1 118 yX6_placeOf "PlayPool" ∈ jj_nW := List.mem_filter.mpr ⟨by decide +kernel, rfl⟩
theorem jw_h_RX1_122 : Cond.methodLinkNest RX1 122 yX5_isInConflict "PlayPool" ∈ jj_nW := List.mem_filter.mpr ⟨by decide +kernel, rfl⟩
theorem jw_n_RX1_128 : jj_lkN RX1 128 TX5 0 "PlayPool" := List.mem_filter.mpr ⟨(by decide +kernel : Cond.fieldLinkNest RX1 128 (TX5 0).1 (TX5 0).2.1 (TX5 0).2.2.1 "PlayPool" ∈ lw_tbl), rfl⟩
theorem jw_m_RX1_131 : Cond.methodLink RX1 131 yJ9_min_7cf53 ∈ jj_gW := List.mem_filter.mpr ⟨by decide +kernel, rfl⟩
theorem jw_m_RX2_3 : Cond.methodLink RX2 3 objectInit ∈ jj_gW := List.mem_filter.mpr ⟨by decide +kernel, rfl⟩
theorem jw_f_RX2_9 : jj_lkF RX2 9 TX2 0 := List.mem_filter.mpr ⟨(by decide +kernel : Cond.fieldLink RX2 9 (TX2 0).1 (TX2 0).2.1 (TX2 0).2.2.1 ∈ lw_tbl), rfl⟩
theorem jw_f_RX2_15 : jj_lkF RX2 15 TX2 1 := List.mem_filter.mpr ⟨(by decide +kernel : Cond.fieldLink RX2 15 (TX2 1).1 (TX2 1).2.1 (TX2 1).2.2.1 ∈ lw_tbl), rfl⟩
theorem jw_f_RX2_19 : jj_lkF RX2 19 TX2 2 := List.mem_filter.mpr ⟨(by decide +kernel : Cond.fieldLink RX2 19 (TX2 2).1 (TX2 2).2.1 (TX2 2).2.2.1 ∈ lw_tbl), rfl⟩
theorem jw_f_RX2_22 : jj_lkF RX2 22 TX2 3 := List.mem_filter.mpr ⟨(by decide +kernel : Cond.fieldLink RX2 22 (TX2 3).1 (TX2 3).2.1 (TX2 3).2.2.1 ∈ lw_tbl), rfl⟩
theorem jw_f_RX2_25 : jj_lkF RX2 25 TX2 4 := List.mem_filter.mpr ⟨(by decide +kernel : Cond.fieldLink RX2 25 (TX2 4).1 (TX2 4).2.1 (TX2 4).2.2.1 ∈ lw_tbl), rfl⟩
theorem jw_f_RX2_28 : jj_lkF RX2 28 TX2 5 := List.mem_filter.mpr ⟨(by decide +kernel : Cond.fieldLink RX2 28 (TX2 5).1 (TX2 5).2.1 (TX2 5).2.2.1 ∈ lw_tbl), rfl⟩
theorem jw_f_RX2_31 : jj_lkF RX2 31 TX2 6 := List.mem_filter.mpr ⟨(by decide +kernel : Cond.fieldLink RX2 31 (TX2 6).1 (TX2 6).2.1 (TX2 6).2.2.1 ∈ lw_tbl), rfl⟩
theorem jw_f_RX2_34 : jj_lkF RX2 34 TX2 7 := List.mem_filter.mpr ⟨(by decide +kernel : Cond.fieldLink RX2 34 (TX2 7).1 (TX2 7).2.1 (TX2 7).2.2.1 ∈ lw_tbl), rfl⟩
theorem jw_c_X2_isDown : Cond.code yX2_isDown cX2_isDown 2 (some .boolean) ∈ jj_gW := List.mem_filter.mpr ⟨by decide +kernel, rfl⟩
theorem jw_m_RX2_37 : Cond.methodLink RX2 37 yX2_isDown ∈ jj_gW := List.mem_filter.mpr ⟨by decide +kernel, rfl⟩
theorem jw_s_X2_isDown : Cond.instanceMethod yX2_isDown ∈ jj_gW := List.mem_filter.mpr ⟨by decide +kernel, rfl⟩
theorem jw_e_X2_isDown : Cond.selects yX2_isDown.cls yX2_isDown yX2_isDown ∈ jj_gW := List.mem_filter.mpr ⟨by decide +kernel, rfl⟩
theorem jw_y_X2_isDown : jj_yn yX2_isDown 1 := ⟨by decide +kernel, by decide +kernel, by decide +kernel⟩
theorem jw_m_RX2_41 : Cond.methodLink RX2 41 yX2_isAllowed ∈ jj_gW := List.mem_filter.mpr ⟨by decide +kernel, rfl⟩
theorem jw_m_RX3_3 : Cond.methodLink RX3 3 objectInit ∈ jj_gW := List.mem_filter.mpr ⟨by decide +kernel, rfl⟩
theorem jw_w_RX3_9 : Cond.classLink RX3 9 "[[I" ∈ jj_gW := List.mem_filter.mpr ⟨by decide +kernel, rfl⟩
theorem jw_f_RX3_11 : jj_lkF RX3 11 TX3 0 := List.mem_filter.mpr ⟨(by decide +kernel : Cond.fieldLink RX3 11 (TX3 0).1 (TX3 0).2.1 (TX3 0).2.2.1 ∈ lw_tbl), rfl⟩
theorem jw_f_RX3_16 : jj_lkF RX3 16 TX3 1 := List.mem_filter.mpr ⟨(by decide +kernel : Cond.fieldLink RX3 16 (TX3 1).1 (TX3 1).2.1 (TX3 1).2.2.1 ∈ lw_tbl), rfl⟩
theorem jw_f_RX3_19 : jj_lkF RX3 19 TX3 2 := List.mem_filter.mpr ⟨(by decide +kernel : Cond.fieldLink RX3 19 (TX3 2).1 (TX3 2).2.1 (TX3 2).2.2.1 ∈ lw_tbl), rfl⟩
theorem jw_c_X6_clearRows : Cond.code yX6_clearRows cX6_clearRows 2 none ∈ jj_gW := List.mem_filter.mpr ⟨by decide +kernel, rfl⟩
theorem jw_h_RX3_22 : Cond.methodLinkNest RX3 22 yX6_clearRows "PlayPool" ∈ jj_nW := List.mem_filter.mpr ⟨by decide +kernel, rfl⟩
theorem jw_s_X6_clearRows : Cond.static yX6_clearRows ∈ jj_gW := List.mem_filter.mpr ⟨by decide +kernel, rfl⟩
theorem jw_y_X6_clearRows : jj_yn yX6_clearRows 1 := ⟨by decide +kernel, by decide +kernel, by decide +kernel⟩
theorem jw_m_RX4_3 : Cond.methodLink RX4 3 objectInit ∈ jj_gW := List.mem_filter.mpr ⟨by decide +kernel, rfl⟩
theorem jw_f_RX4_9 : jj_lkF RX4 9 TX4 0 := List.mem_filter.mpr ⟨(by decide +kernel : Cond.fieldLink RX4 9 (TX4 0).1 (TX4 0).2.1 (TX4 0).2.2.1 ∈ lw_tbl), rfl⟩
theorem jw_f_RX4_15 : jj_lkF RX4 15 TX4 1 := List.mem_filter.mpr ⟨(by decide +kernel : Cond.fieldLink RX4 15 (TX4 1).1 (TX4 1).2.1 (TX4 1).2.2.1 ∈ lw_tbl), rfl⟩
theorem jw_f_RX4_19 : jj_lkF RX4 19 TX4 2 := List.mem_filter.mpr ⟨(by decide +kernel : Cond.fieldLink RX4 19 (TX4 2).1 (TX4 2).2.1 (TX4 2).2.2.1 ∈ lw_tbl), rfl⟩
theorem jw_f_RX4_22 : jj_lkF RX4 22 TX4 3 := List.mem_filter.mpr ⟨(by decide +kernel : Cond.fieldLink RX4 22 (TX4 3).1 (TX4 3).2.1 (TX4 3).2.2.1 ∈ lw_tbl), rfl⟩
theorem jw_f_RX4_25 : jj_lkF RX4 25 TX4 4 := List.mem_filter.mpr ⟨(by decide +kernel : Cond.fieldLink RX4 25 (TX4 4).1 (TX4 4).2.1 (TX4 4).2.2.1 ∈ lw_tbl), rfl⟩
theorem jw_f_RX4_28 : jj_lkF RX4 28 TX4 5 := List.mem_filter.mpr ⟨(by decide +kernel : Cond.fieldLink RX4 28 (TX4 5).1 (TX4 5).2.1 (TX4 5).2.2.1 ∈ lw_tbl), rfl⟩
theorem jw_f_RX4_31 : jj_lkF RX4 31 TX4 6 := List.mem_filter.mpr ⟨(by decide +kernel : Cond.fieldLink RX4 31 (TX4 6).1 (TX4 6).2.1 (TX4 6).2.2.1 ∈ lw_tbl), rfl⟩
theorem jw_c_X4_putInOrder : Cond.code yX4_putInOrder cX4_putInOrder 3 none ∈ jj_gW := List.mem_filter.mpr ⟨by decide +kernel, rfl⟩
theorem jw_m_RX4_34 : Cond.methodLink RX4 34 yX4_putInOrder ∈ jj_gW := List.mem_filter.mpr ⟨by decide +kernel, rfl⟩
theorem jw_s_X4_putInOrder : Cond.instanceMethod yX4_putInOrder ∈ jj_gW := List.mem_filter.mpr ⟨by decide +kernel, rfl⟩
theorem jw_e_X4_putInOrder : Cond.selects yX4_putInOrder.cls yX4_putInOrder yX4_putInOrder ∈ jj_gW := List.mem_filter.mpr ⟨by decide +kernel, rfl⟩
theorem jw_y_X4_putInOrder : jj_yn yX4_putInOrder 1 := ⟨by decide +kernel, by decide +kernel, by decide +kernel⟩
theorem jw_m_RX5_3 : Cond.methodLink RX5 3 objectInit ∈ jj_gW := List.mem_filter.mpr ⟨by decide +kernel, rfl⟩
theorem jw_w_RX5_9 : Cond.classLink RX5 9 "[[I" ∈ jj_gW := List.mem_filter.mpr ⟨by decide +kernel, rfl⟩
theorem jw_f_RX5_11 : jj_lkF RX5 11 TX5 0 := List.mem_filter.mpr ⟨(by decide +kernel : Cond.fieldLink RX5 11 (TX5 0).1 (TX5 0).2.1 (TX5 0).2.2.1 ∈ lw_tbl), rfl⟩
theorem jw_h_RX5_16 : Cond.methodLinkNest RX5 16 yX6_sumOf "PlayPool" ∈ jj_nW := List.mem_filter.mpr ⟨by decide +kernel, rfl⟩
theorem jw_m_RX5_20 : Cond.methodLink RX5 20 yX5_claimsOf ∈ jj_gW := List.mem_filter.mpr ⟨by decide +kernel, rfl⟩
theorem jw_k_RL_7 : Cond.constant RL 7 2147483647 ∈ jj_gW := List.mem_filter.mpr ⟨by decide +kernel, rfl⟩
theorem jw_k_RL_8 : Cond.constant RL 8 790386105 ∈ jj_gW := List.mem_filter.mpr ⟨by decide +kernel, rfl⟩
theorem jw_c_L_cell : Cond.code yL_cell cL_cell 2 (some .int) ∈ jj_gW := List.mem_filter.mpr ⟨by decide +kernel, rfl⟩
theorem jw_i_RL : Cond.initialized yL_cell.cls ∈ jj_gW := List.mem_filter.mpr ⟨by decide +kernel, rfl⟩
theorem jw_m_RL_9 : Cond.methodLink RL 9 yL_cell ∈ jj_gW := List.mem_filter.mpr ⟨by decide +kernel, rfl⟩
theorem jw_s_L_cell : Cond.static yL_cell ∈ jj_gW := List.mem_filter.mpr ⟨by decide +kernel, rfl⟩
theorem jw_y_L_cell : jj_yn yL_cell 2 := ⟨by decide +kernel, by decide +kernel, by decide +kernel⟩
theorem jw_c_L_below : Cond.code yL_below cL_below 2 (some .int) ∈ jj_gW := List.mem_filter.mpr ⟨by decide +kernel, rfl⟩
theorem jw_m_RL_15 : Cond.methodLink RL 15 yL_below ∈ jj_gW := List.mem_filter.mpr ⟨by decide +kernel, rfl⟩
theorem jw_s_L_below : Cond.static yL_below ∈ jj_gW := List.mem_filter.mpr ⟨by decide +kernel, rfl⟩
theorem jw_y_L_below : jj_yn yL_below 2 := ⟨by decide +kernel, by decide +kernel, by decide +kernel⟩
theorem jw_c_X6_track : Cond.code yX6_track cX6_track 2 (some .int) ∈ jj_gW := List.mem_filter.mpr ⟨by decide +kernel, rfl⟩
theorem jw_m_RL_19 : Cond.methodLink RL 19 yX6_track ∈ jj_gW := List.mem_filter.mpr ⟨by decide +kernel, rfl⟩
theorem jw_s_X6_track : Cond.instanceMethod yX6_track ∈ jj_gW := List.mem_filter.mpr ⟨by decide +kernel, rfl⟩
theorem jw_e_X6_track : Cond.selects yX6_track.cls yX6_track yX6_track ∈ jj_gW := List.mem_filter.mpr ⟨by decide +kernel, rfl⟩
theorem jw_y_X6_track : jj_yn yX6_track 1 := ⟨by decide +kernel, by decide +kernel, by decide +kernel⟩
theorem jw_k_RL_25 : Cond.constant RL 25 40000 ∈ jj_gW := List.mem_filter.mpr ⟨by decide +kernel, rfl⟩
theorem jw_c_X6_window : Cond.code yX6_window cX6_window 5 (some .int) ∈ jj_gW := List.mem_filter.mpr ⟨by decide +kernel, rfl⟩
theorem jw_m_RL_26 : Cond.methodLink RL 26 yX6_window ∈ jj_gW := List.mem_filter.mpr ⟨by decide +kernel, rfl⟩
theorem jw_s_X6_window : Cond.instanceMethod yX6_window ∈ jj_gW := List.mem_filter.mpr ⟨by decide +kernel, rfl⟩
theorem jw_e_X6_window : Cond.selects yX6_window.cls yX6_window yX6_window ∈ jj_gW := List.mem_filter.mpr ⟨by decide +kernel, rfl⟩
theorem jw_y_X6_window : jj_yn yX6_window 4 := ⟨by decide +kernel, by decide +kernel, by decide +kernel⟩
theorem jw_c_X6_claim : Cond.code yX6_claim cX6_claim 4 (some .int) ∈ jj_gW := List.mem_filter.mpr ⟨by decide +kernel, rfl⟩
theorem jw_m_RL_30 : Cond.methodLink RL 30 yX6_claim ∈ jj_gW := List.mem_filter.mpr ⟨by decide +kernel, rfl⟩
theorem jw_s_X6_claim : Cond.instanceMethod yX6_claim ∈ jj_gW := List.mem_filter.mpr ⟨by decide +kernel, rfl⟩
theorem jw_e_X6_claim : Cond.selects yX6_claim.cls yX6_claim yX6_claim ∈ jj_gW := List.mem_filter.mpr ⟨by decide +kernel, rfl⟩
theorem jw_y_X6_claim : jj_yn yX6_claim 3 := ⟨by decide +kernel, by decide +kernel, by decide +kernel⟩
theorem jw_c_X6_listener : Cond.code yX6_listener cX6_listener 3 (some .int) ∈ jj_gW := List.mem_filter.mpr ⟨by decide +kernel, rfl⟩
theorem jw_m_RL_34 : Cond.methodLink RL 34 yX6_listener ∈ jj_gW := List.mem_filter.mpr ⟨by decide +kernel, rfl⟩
theorem jw_s_X6_listener : Cond.instanceMethod yX6_listener ∈ jj_gW := List.mem_filter.mpr ⟨by decide +kernel, rfl⟩
theorem jw_e_X6_listener : Cond.selects yX6_listener.cls yX6_listener yX6_listener ∈ jj_gW := List.mem_filter.mpr ⟨by decide +kernel, rfl⟩
theorem jw_y_X6_listener : jj_yn yX6_listener 2 := ⟨by decide +kernel, by decide +kernel, by decide +kernel⟩
theorem jw_c_X6_play : Cond.code yX6_play cX6_play 6 (some .int) ∈ jj_gW := List.mem_filter.mpr ⟨by decide +kernel, rfl⟩
theorem jw_m_RL_37 : Cond.methodLink RL 37 yX6_play ∈ jj_gW := List.mem_filter.mpr ⟨by decide +kernel, rfl⟩
theorem jw_s_X6_play : Cond.instanceMethod yX6_play ∈ jj_gW := List.mem_filter.mpr ⟨by decide +kernel, rfl⟩
theorem jw_e_X6_play : Cond.selects yX6_play.cls yX6_play yX6_play ∈ jj_gW := List.mem_filter.mpr ⟨by decide +kernel, rfl⟩
theorem jw_y_X6_play : jj_yn yX6_play 4 := ⟨by decide +kernel, by decide +kernel, by decide +kernel⟩
theorem jw_w_RL_20 : Cond.classLink RL 20 RX6 ∈ jj_gW := List.mem_filter.mpr ⟨by decide +kernel, rfl⟩
theorem jw_v_RX6 : Cond.instantiable RX6 11 ∈ jj_gW := List.mem_filter.mpr ⟨by decide +kernel, rfl⟩
theorem jw_ii_RX6 : Cond.initialized RX6 ∈ jj_gW := List.mem_filter.mpr ⟨by decide +kernel, rfl⟩
theorem jw_c_X6_init : Cond.code yX6_init cX6_init 1 none ∈ jj_gW := List.mem_filter.mpr ⟨by decide +kernel, rfl⟩
theorem jw_m_RL_42 : Cond.methodLink RL 42 yX6_init ∈ jj_gW := List.mem_filter.mpr ⟨by decide +kernel, rfl⟩
theorem jw_s_X6_init : Cond.instanceMethod yX6_init ∈ jj_gW := List.mem_filter.mpr ⟨by decide +kernel, rfl⟩
theorem jw_y_X6_init : jj_yn yX6_init 0 := ⟨by decide +kernel, by decide +kernel, by decide +kernel⟩
theorem jw_c_L_write : Cond.code yL_write cL_write 6 none ∈ jj_gW := List.mem_filter.mpr ⟨by decide +kernel, rfl⟩
theorem jw_m_RL_43 : Cond.methodLink RL 43 yL_write ∈ jj_gW := List.mem_filter.mpr ⟨by decide +kernel, rfl⟩
theorem jw_s_L_write : Cond.static yL_write ∈ jj_gW := List.mem_filter.mpr ⟨by decide +kernel, rfl⟩
theorem jw_y_L_write : jj_yn yL_write 3 := ⟨by decide +kernel, by decide +kernel, by decide +kernel⟩
theorem jw_m_RL_47 : Cond.methodLink RL 47 yX6_many ∈ jj_gW := List.mem_filter.mpr ⟨by decide +kernel, rfl⟩
theorem jw_k_RL_50 : Cond.constant RL 50 95000 ∈ jj_gW := List.mem_filter.mpr ⟨by decide +kernel, rfl⟩
theorem jw_c_X6_pass : Cond.code yX6_pass cX6_pass 5 (some .int) ∈ jj_gW := List.mem_filter.mpr ⟨by decide +kernel, rfl⟩
theorem jw_m_RL_51 : Cond.methodLink RL 51 yX6_pass ∈ jj_gW := List.mem_filter.mpr ⟨by decide +kernel, rfl⟩
theorem jw_s_X6_pass : Cond.instanceMethod yX6_pass ∈ jj_gW := List.mem_filter.mpr ⟨by decide +kernel, rfl⟩
theorem jw_e_X6_pass : Cond.selects yX6_pass.cls yX6_pass yX6_pass ∈ jj_gW := List.mem_filter.mpr ⟨by decide +kernel, rfl⟩
theorem jw_y_X6_pass : jj_yn yX6_pass 1 := ⟨by decide +kernel, by decide +kernel, by decide +kernel⟩
theorem jw_c_X6_flag : Cond.code yX6_flag cX6_flag 4 (some .boolean) ∈ jj_gW := List.mem_filter.mpr ⟨by decide +kernel, rfl⟩
theorem jw_m_RL_54 : Cond.methodLink RL 54 yX6_flag ∈ jj_gW := List.mem_filter.mpr ⟨by decide +kernel, rfl⟩
theorem jw_s_X6_flag : Cond.instanceMethod yX6_flag ∈ jj_gW := List.mem_filter.mpr ⟨by decide +kernel, rfl⟩
theorem jw_e_X6_flag : Cond.selects yX6_flag.cls yX6_flag yX6_flag ∈ jj_gW := List.mem_filter.mpr ⟨by decide +kernel, rfl⟩
theorem jw_y_X6_flag : jj_yn yX6_flag 2 := ⟨by decide +kernel, by decide +kernel, by decide +kernel⟩
theorem jw_c_L_hear : Cond.codeWith yL_hear cL_hear 6 (some .int) [(0, 9, 10, 40)] ∈ jj_gW := List.mem_filter.mpr ⟨by decide +kernel, rfl⟩
theorem jw_m_RL_58 : Cond.methodLink RL 58 yL_hear ∈ jj_gW := List.mem_filter.mpr ⟨by decide +kernel, rfl⟩
theorem jw_s_L_hear : Cond.static yL_hear ∈ jj_gW := List.mem_filter.mpr ⟨by decide +kernel, rfl⟩
theorem jw_y_L_hear : jj_yn yL_hear 5 := ⟨by decide +kernel, by decide +kernel, by decide +kernel⟩
theorem jw_m_RL_62 : Cond.methodLink RL 62 yX6_ofListener ∈ jj_gW := List.mem_filter.mpr ⟨by decide +kernel, rfl⟩
theorem jw_c_L_isSound : Cond.code yL_isSound cL_isSound 6 (some .boolean) ∈ jj_gW := List.mem_filter.mpr ⟨by decide +kernel, rfl⟩
theorem jw_m_RL_65 : Cond.methodLink RL 65 yL_isSound ∈ jj_gW := List.mem_filter.mpr ⟨by decide +kernel, rfl⟩
theorem jw_s_L_isSound : Cond.static yL_isSound ∈ jj_gW := List.mem_filter.mpr ⟨by decide +kernel, rfl⟩
theorem jw_y_L_isSound : jj_yn yL_isSound 2 := ⟨by decide +kernel, by decide +kernel, by decide +kernel⟩
theorem jw_c_X6_digest : Cond.code yX6_digest cX6_digest 3 (some .long) ∈ jj_gW := List.mem_filter.mpr ⟨by decide +kernel, rfl⟩
theorem jw_m_RL_69 : Cond.methodLink RL 69 yX6_digest ∈ jj_gW := List.mem_filter.mpr ⟨by decide +kernel, rfl⟩
theorem jw_s_X6_digest : Cond.instanceMethod yX6_digest ∈ jj_gW := List.mem_filter.mpr ⟨by decide +kernel, rfl⟩
theorem jw_e_X6_digest : Cond.selects yX6_digest.cls yX6_digest yX6_digest ∈ jj_gW := List.mem_filter.mpr ⟨by decide +kernel, rfl⟩
theorem jw_y_X6_digest : jj_yn yX6_digest 0 := ⟨by decide +kernel, by decide +kernel, by decide +kernel⟩
theorem jw_c_X6_wouldPay : Cond.code yX6_wouldPay cX6_wouldPay 3 (some .int) ∈ jj_gW := List.mem_filter.mpr ⟨by decide +kernel, rfl⟩
theorem jw_m_RL_73 : Cond.methodLink RL 73 yX6_wouldPay ∈ jj_gW := List.mem_filter.mpr ⟨by decide +kernel, rfl⟩
theorem jw_s_X6_wouldPay : Cond.instanceMethod yX6_wouldPay ∈ jj_gW := List.mem_filter.mpr ⟨by decide +kernel, rfl⟩
theorem jw_e_X6_wouldPay : Cond.selects yX6_wouldPay.cls yX6_wouldPay yX6_wouldPay ∈ jj_gW := List.mem_filter.mpr ⟨by decide +kernel, rfl⟩
theorem jw_y_X6_wouldPay : jj_yn yX6_wouldPay 2 := ⟨by decide +kernel, by decide +kernel, by decide +kernel⟩
theorem jw_c_X6_wouldGet : Cond.code yX6_wouldGet cX6_wouldGet 3 (some .int) ∈ jj_gW := List.mem_filter.mpr ⟨by decide +kernel, rfl⟩
theorem jw_m_RL_76 : Cond.methodLink RL 76 yX6_wouldGet ∈ jj_gW := List.mem_filter.mpr ⟨by decide +kernel, rfl⟩
theorem jw_s_X6_wouldGet : Cond.instanceMethod yX6_wouldGet ∈ jj_gW := List.mem_filter.mpr ⟨by decide +kernel, rfl⟩
theorem jw_e_X6_wouldGet : Cond.selects yX6_wouldGet.cls yX6_wouldGet yX6_wouldGet ∈ jj_gW := List.mem_filter.mpr ⟨by decide +kernel, rfl⟩
theorem jw_y_X6_wouldGet : jj_yn yX6_wouldGet 2 := ⟨by decide +kernel, by decide +kernel, by decide +kernel⟩
theorem jw_w_RL_79 : Cond.classLink RL 79 "[[I" ∈ jj_gW := List.mem_filter.mpr ⟨by decide +kernel, rfl⟩
theorem jw_c_X6_ofPlay : Cond.code yX6_ofPlay cX6_ofPlay 3 (some .int) ∈ jj_gW := List.mem_filter.mpr ⟨by decide +kernel, rfl⟩
theorem jw_m_RL_81 : Cond.methodLink RL 81 yX6_ofPlay ∈ jj_gW := List.mem_filter.mpr ⟨by decide +kernel, rfl⟩
theorem jw_s_X6_ofPlay : Cond.instanceMethod yX6_ofPlay ∈ jj_gW := List.mem_filter.mpr ⟨by decide +kernel, rfl⟩
theorem jw_e_X6_ofPlay : Cond.selects yX6_ofPlay.cls yX6_ofPlay yX6_ofPlay ∈ jj_gW := List.mem_filter.mpr ⟨by decide +kernel, rfl⟩
theorem jw_y_X6_ofPlay : jj_yn yX6_ofPlay 2 := ⟨by decide +kernel, by decide +kernel, by decide +kernel⟩
theorem jw_m_RL_84 : Cond.methodLink RL 84 yX6_ofTrack ∈ jj_gW := List.mem_filter.mpr ⟨by decide +kernel, rfl⟩
theorem jw_aI : Cond.arrayClass .int ∈ jj_gW := List.mem_filter.mpr ⟨by decide +kernel, rfl⟩
theorem jw_aZ : Cond.arrayClass .boolean ∈ jj_gW := List.mem_filter.mpr ⟨by decide +kernel, rfl⟩
theorem jw_ao : Cond.arrayOver (.array .int) ∈ jj_nW := List.mem_filter.mpr ⟨by decide +kernel, rfl⟩
def jj_lay0 : jj_Lay := [(6, 11, [some (some 1), some (some 8), some (some 20), some (some 35), some (some 42), some (some 70), some (some 81), some (some 92), some (some 103), none, none]), (2, 8, [none, some (some 2), some (some 3), none, some (some 4), some (some 5), some (some 6), some (some 7)]), (20, 14, []), (20, 14, []), (20, 30, []), (20, 30, []), (20, 30, []), (20, 30, []), (5, 1, [some (some 9)]), (22, 10, [some (some 10), some (some 11), some (some 12), some (some 13), some (some 14), some (some 15), some (some 16), some (some 17), some (some 18), some (some 19)]), (20, 5, []), (20, 5, []), (20, 5, []), (20, 5, []), (20, 5, []), (20, 5, []), (20, 5, []), (20, 5, []), (20, 5, []), (20, 5, []), (0, 7, [none, some (some 21), some (some 22), some (some 23), some (some 24), some (some 25), some (some 26)]), (20, 8, []), (20, 8, []), (21, 8, []), (20, 8, []), (20, 8, []), (22, 8, [some (some 27), some (some 28), some (some 29), some (some 30), some (some 31), some (some 32), some (some 33), some (some 34)]), (20, 3, []), (20, 3, []), (20, 3, []), (20, 3, []), (20, 3, []), (20, 3, []), (20, 3, []), (20, 3, []), (4, 7, [none, some (some 36), some (some 37), some (some 38), some (some 39), some (some 40), some (some 41)]), (20, 130, []), (20, 130, []), (20, 130, []), (20, 130, []), (20, 130, []), (20, 130, []), (3, 3, [some (some 43), some (some 52), some (some 61)]), (22, 8, [some (some 44), some (some 45), some (some 46), some (some 47), some (some 48), some (some 49), some (some 50), some (some 51)]), (20, 10, []), (20, 10, []), (20, 10, []), (20, 10, []), (20, 10, []), (20, 10, []), (20, 10, []), (20, 10, []), (22, 8, [some (some 53), some (some 54), some (some 55), some (some 56), some (some 57), some (some 58), some (some 59), some (some 60)]), (20, 10, []), (20, 10, []), (20, 10, []), (20, 10, []), (20, 10, []), (20, 10, []), (20, 10, []), (20, 10, []), (22, 8, [some (some 62), some (some 63), some (some 64), some (some 65), some (some 66), some (some 67), some (some 68), some (some 69)]), (20, 10, []), (20, 10, []), (20, 10, []), (20, 10, []), (20, 10, []), (20, 10, []), (20, 10, []), (20, 10, []), (1, 12, [none, none, some (some 71), some (some 72), some (some 73), some (some 74), some (some 75), some (some 76), some (some 77), some (some 78), some (some 79), some (some 80)]), (20, 4, []), (20, 10, []), (20, 10, []), (20, 5, []), (20, 5, []), (20, 5, []), (20, 5, []), (20, 10, []), (20, 10, []), (20, 10, []), (1, 12, [none, none, some (some 82), some (some 83), some (some 84), some (some 85), some (some 86), some (some 87), some (some 88), some (some 89), some (some 90), some (some 91)]), (20, 4, []), (20, 10, []), (20, 10, []), (20, 5, []), (20, 5, []), (20, 5, []), (20, 5, []), (20, 10, []), (20, 10, []), (20, 10, []), (1, 12, [none, none, some (some 93), some (some 94), some (some 95), some (some 96), some (some 97), some (some 98), some (some 99), some (some 100), some (some 101), some (some 102)]), (20, 4, []), (20, 10, []), (20, 10, []), (20, 5, []), (20, 5, []), (20, 5, []), (20, 5, []), (20, 10, []), (20, 10, []), (20, 10, []), (20, 10, [])]
/-- the first 104 cells are a PlayPool's -/
def jj_pp (lay : jj_Lay) : Prop := ∀ k, k < 104 → lay[k]? = jj_lay0[k]?
theorem jl_0 {lay : jj_Lay} (h : jj_pp lay) : lay[0]? = some (6, 11, [some (some 1), some (some 8), some (some 20), some (some 35), some (some 42), some (some 70), some (some 81), some (some 92), some (some 103), none, none]) := (h 0 (Nat.le_of_ble_eq_true rfl)).trans rfl
theorem jl_1 {lay : jj_Lay} (h : jj_pp lay) : lay[1]? = some (2, 8, [none, some (some 2), some (some 3), none, some (some 4), some (some 5), some (some 6), some (some 7)]) := (h 1 (Nat.le_of_ble_eq_true rfl)).trans rfl
theorem jl_2 {lay : jj_Lay} (h : jj_pp lay) : lay[2]? = some (20, 14, []) := (h 2 (Nat.le_of_ble_eq_true rfl)).trans rfl
theorem jl_3 {lay : jj_Lay} (h : jj_pp lay) : lay[3]? = some (20, 14, []) := (h 3 (Nat.le_of_ble_eq_true rfl)).trans rfl
theorem jl_4 {lay : jj_Lay} (h : jj_pp lay) : lay[4]? = some (20, 30, []) := (h 4 (Nat.le_of_ble_eq_true rfl)).trans rfl
theorem jl_5 {lay : jj_Lay} (h : jj_pp lay) : lay[5]? = some (20, 30, []) := (h 5 (Nat.le_of_ble_eq_true rfl)).trans rfl
theorem jl_6 {lay : jj_Lay} (h : jj_pp lay) : lay[6]? = some (20, 30, []) := (h 6 (Nat.le_of_ble_eq_true rfl)).trans rfl
theorem jl_7 {lay : jj_Lay} (h : jj_pp lay) : lay[7]? = some (20, 30, []) := (h 7 (Nat.le_of_ble_eq_true rfl)).trans rfl
theorem jl_8 {lay : jj_Lay} (h : jj_pp lay) : lay[8]? = some (5, 1, [some (some 9)]) := (h 8 (Nat.le_of_ble_eq_true rfl)).trans rfl
theorem jl_9 {lay : jj_Lay} (h : jj_pp lay) : lay[9]? = some (22, 10, [some (some 10), some (some 11), some (some 12), some (some 13), some (some 14), some (some 15), some (some 16), some (some 17), some (some 18), some (some 19)]) := (h 9 (Nat.le_of_ble_eq_true rfl)).trans rfl
theorem jl_10 {lay : jj_Lay} (h : jj_pp lay) : lay[10]? = some (20, 5, []) := (h 10 (Nat.le_of_ble_eq_true rfl)).trans rfl
theorem jl_11 {lay : jj_Lay} (h : jj_pp lay) : lay[11]? = some (20, 5, []) := (h 11 (Nat.le_of_ble_eq_true rfl)).trans rfl
theorem jl_12 {lay : jj_Lay} (h : jj_pp lay) : lay[12]? = some (20, 5, []) := (h 12 (Nat.le_of_ble_eq_true rfl)).trans rfl
theorem jl_13 {lay : jj_Lay} (h : jj_pp lay) : lay[13]? = some (20, 5, []) := (h 13 (Nat.le_of_ble_eq_true rfl)).trans rfl
theorem jl_14 {lay : jj_Lay} (h : jj_pp lay) : lay[14]? = some (20, 5, []) := (h 14 (Nat.le_of_ble_eq_true rfl)).trans rfl
theorem jl_15 {lay : jj_Lay} (h : jj_pp lay) : lay[15]? = some (20, 5, []) := (h 15 (Nat.le_of_ble_eq_true rfl)).trans rfl
theorem jl_16 {lay : jj_Lay} (h : jj_pp lay) : lay[16]? = some (20, 5, []) := (h 16 (Nat.le_of_ble_eq_true rfl)).trans rfl
theorem jl_17 {lay : jj_Lay} (h : jj_pp lay) : lay[17]? = some (20, 5, []) := (h 17 (Nat.le_of_ble_eq_true rfl)).trans rfl
theorem jl_18 {lay : jj_Lay} (h : jj_pp lay) : lay[18]? = some (20, 5, []) := (h 18 (Nat.le_of_ble_eq_true rfl)).trans rfl
theorem jl_19 {lay : jj_Lay} (h : jj_pp lay) : lay[19]? = some (20, 5, []) := (h 19 (Nat.le_of_ble_eq_true rfl)).trans rfl
theorem jl_20 {lay : jj_Lay} (h : jj_pp lay) : lay[20]? = some (0, 7, [none, some (some 21), some (some 22), some (some 23), some (some 24), some (some 25), some (some 26)]) := (h 20 (Nat.le_of_ble_eq_true rfl)).trans rfl
theorem jl_21 {lay : jj_Lay} (h : jj_pp lay) : lay[21]? = some (20, 8, []) := (h 21 (Nat.le_of_ble_eq_true rfl)).trans rfl
theorem jl_22 {lay : jj_Lay} (h : jj_pp lay) : lay[22]? = some (20, 8, []) := (h 22 (Nat.le_of_ble_eq_true rfl)).trans rfl
theorem jl_23 {lay : jj_Lay} (h : jj_pp lay) : lay[23]? = some (21, 8, []) := (h 23 (Nat.le_of_ble_eq_true rfl)).trans rfl
theorem jl_24 {lay : jj_Lay} (h : jj_pp lay) : lay[24]? = some (20, 8, []) := (h 24 (Nat.le_of_ble_eq_true rfl)).trans rfl
theorem jl_25 {lay : jj_Lay} (h : jj_pp lay) : lay[25]? = some (20, 8, []) := (h 25 (Nat.le_of_ble_eq_true rfl)).trans rfl
theorem jl_26 {lay : jj_Lay} (h : jj_pp lay) : lay[26]? = some (22, 8, [some (some 27), some (some 28), some (some 29), some (some 30), some (some 31), some (some 32), some (some 33), some (some 34)]) := (h 26 (Nat.le_of_ble_eq_true rfl)).trans rfl
theorem jl_27 {lay : jj_Lay} (h : jj_pp lay) : lay[27]? = some (20, 3, []) := (h 27 (Nat.le_of_ble_eq_true rfl)).trans rfl
theorem jl_28 {lay : jj_Lay} (h : jj_pp lay) : lay[28]? = some (20, 3, []) := (h 28 (Nat.le_of_ble_eq_true rfl)).trans rfl
theorem jl_29 {lay : jj_Lay} (h : jj_pp lay) : lay[29]? = some (20, 3, []) := (h 29 (Nat.le_of_ble_eq_true rfl)).trans rfl
theorem jl_30 {lay : jj_Lay} (h : jj_pp lay) : lay[30]? = some (20, 3, []) := (h 30 (Nat.le_of_ble_eq_true rfl)).trans rfl
theorem jl_31 {lay : jj_Lay} (h : jj_pp lay) : lay[31]? = some (20, 3, []) := (h 31 (Nat.le_of_ble_eq_true rfl)).trans rfl
theorem jl_32 {lay : jj_Lay} (h : jj_pp lay) : lay[32]? = some (20, 3, []) := (h 32 (Nat.le_of_ble_eq_true rfl)).trans rfl
theorem jl_33 {lay : jj_Lay} (h : jj_pp lay) : lay[33]? = some (20, 3, []) := (h 33 (Nat.le_of_ble_eq_true rfl)).trans rfl
theorem jl_34 {lay : jj_Lay} (h : jj_pp lay) : lay[34]? = some (20, 3, []) := (h 34 (Nat.le_of_ble_eq_true rfl)).trans rfl
theorem jl_35 {lay : jj_Lay} (h : jj_pp lay) : lay[35]? = some (4, 7, [none, some (some 36), some (some 37), some (some 38), some (some 39), some (some 40), some (some 41)]) := (h 35 (Nat.le_of_ble_eq_true rfl)).trans rfl
theorem jl_36 {lay : jj_Lay} (h : jj_pp lay) : lay[36]? = some (20, 130, []) := (h 36 (Nat.le_of_ble_eq_true rfl)).trans rfl
theorem jl_37 {lay : jj_Lay} (h : jj_pp lay) : lay[37]? = some (20, 130, []) := (h 37 (Nat.le_of_ble_eq_true rfl)).trans rfl
theorem jl_38 {lay : jj_Lay} (h : jj_pp lay) : lay[38]? = some (20, 130, []) := (h 38 (Nat.le_of_ble_eq_true rfl)).trans rfl
theorem jl_39 {lay : jj_Lay} (h : jj_pp lay) : lay[39]? = some (20, 130, []) := (h 39 (Nat.le_of_ble_eq_true rfl)).trans rfl
theorem jl_40 {lay : jj_Lay} (h : jj_pp lay) : lay[40]? = some (20, 130, []) := (h 40 (Nat.le_of_ble_eq_true rfl)).trans rfl
theorem jl_41 {lay : jj_Lay} (h : jj_pp lay) : lay[41]? = some (20, 130, []) := (h 41 (Nat.le_of_ble_eq_true rfl)).trans rfl
theorem jl_42 {lay : jj_Lay} (h : jj_pp lay) : lay[42]? = some (3, 3, [some (some 43), some (some 52), some (some 61)]) := (h 42 (Nat.le_of_ble_eq_true rfl)).trans rfl
theorem jl_43 {lay : jj_Lay} (h : jj_pp lay) : lay[43]? = some (22, 8, [some (some 44), some (some 45), some (some 46), some (some 47), some (some 48), some (some 49), some (some 50), some (some 51)]) := (h 43 (Nat.le_of_ble_eq_true rfl)).trans rfl
theorem jl_44 {lay : jj_Lay} (h : jj_pp lay) : lay[44]? = some (20, 10, []) := (h 44 (Nat.le_of_ble_eq_true rfl)).trans rfl
theorem jl_45 {lay : jj_Lay} (h : jj_pp lay) : lay[45]? = some (20, 10, []) := (h 45 (Nat.le_of_ble_eq_true rfl)).trans rfl
theorem jl_46 {lay : jj_Lay} (h : jj_pp lay) : lay[46]? = some (20, 10, []) := (h 46 (Nat.le_of_ble_eq_true rfl)).trans rfl
theorem jl_47 {lay : jj_Lay} (h : jj_pp lay) : lay[47]? = some (20, 10, []) := (h 47 (Nat.le_of_ble_eq_true rfl)).trans rfl
theorem jl_48 {lay : jj_Lay} (h : jj_pp lay) : lay[48]? = some (20, 10, []) := (h 48 (Nat.le_of_ble_eq_true rfl)).trans rfl
theorem jl_49 {lay : jj_Lay} (h : jj_pp lay) : lay[49]? = some (20, 10, []) := (h 49 (Nat.le_of_ble_eq_true rfl)).trans rfl
theorem jl_50 {lay : jj_Lay} (h : jj_pp lay) : lay[50]? = some (20, 10, []) := (h 50 (Nat.le_of_ble_eq_true rfl)).trans rfl
theorem jl_51 {lay : jj_Lay} (h : jj_pp lay) : lay[51]? = some (20, 10, []) := (h 51 (Nat.le_of_ble_eq_true rfl)).trans rfl
theorem jl_52 {lay : jj_Lay} (h : jj_pp lay) : lay[52]? = some (22, 8, [some (some 53), some (some 54), some (some 55), some (some 56), some (some 57), some (some 58), some (some 59), some (some 60)]) := (h 52 (Nat.le_of_ble_eq_true rfl)).trans rfl
theorem jl_53 {lay : jj_Lay} (h : jj_pp lay) : lay[53]? = some (20, 10, []) := (h 53 (Nat.le_of_ble_eq_true rfl)).trans rfl
theorem jl_54 {lay : jj_Lay} (h : jj_pp lay) : lay[54]? = some (20, 10, []) := (h 54 (Nat.le_of_ble_eq_true rfl)).trans rfl
theorem jl_55 {lay : jj_Lay} (h : jj_pp lay) : lay[55]? = some (20, 10, []) := (h 55 (Nat.le_of_ble_eq_true rfl)).trans rfl
theorem jl_56 {lay : jj_Lay} (h : jj_pp lay) : lay[56]? = some (20, 10, []) := (h 56 (Nat.le_of_ble_eq_true rfl)).trans rfl
theorem jl_57 {lay : jj_Lay} (h : jj_pp lay) : lay[57]? = some (20, 10, []) := (h 57 (Nat.le_of_ble_eq_true rfl)).trans rfl
theorem jl_58 {lay : jj_Lay} (h : jj_pp lay) : lay[58]? = some (20, 10, []) := (h 58 (Nat.le_of_ble_eq_true rfl)).trans rfl
theorem jl_59 {lay : jj_Lay} (h : jj_pp lay) : lay[59]? = some (20, 10, []) := (h 59 (Nat.le_of_ble_eq_true rfl)).trans rfl
theorem jl_60 {lay : jj_Lay} (h : jj_pp lay) : lay[60]? = some (20, 10, []) := (h 60 (Nat.le_of_ble_eq_true rfl)).trans rfl
theorem jl_61 {lay : jj_Lay} (h : jj_pp lay) : lay[61]? = some (22, 8, [some (some 62), some (some 63), some (some 64), some (some 65), some (some 66), some (some 67), some (some 68), some (some 69)]) := (h 61 (Nat.le_of_ble_eq_true rfl)).trans rfl
theorem jl_62 {lay : jj_Lay} (h : jj_pp lay) : lay[62]? = some (20, 10, []) := (h 62 (Nat.le_of_ble_eq_true rfl)).trans rfl
theorem jl_63 {lay : jj_Lay} (h : jj_pp lay) : lay[63]? = some (20, 10, []) := (h 63 (Nat.le_of_ble_eq_true rfl)).trans rfl
theorem jl_64 {lay : jj_Lay} (h : jj_pp lay) : lay[64]? = some (20, 10, []) := (h 64 (Nat.le_of_ble_eq_true rfl)).trans rfl
theorem jl_65 {lay : jj_Lay} (h : jj_pp lay) : lay[65]? = some (20, 10, []) := (h 65 (Nat.le_of_ble_eq_true rfl)).trans rfl
theorem jl_66 {lay : jj_Lay} (h : jj_pp lay) : lay[66]? = some (20, 10, []) := (h 66 (Nat.le_of_ble_eq_true rfl)).trans rfl
theorem jl_67 {lay : jj_Lay} (h : jj_pp lay) : lay[67]? = some (20, 10, []) := (h 67 (Nat.le_of_ble_eq_true rfl)).trans rfl
theorem jl_68 {lay : jj_Lay} (h : jj_pp lay) : lay[68]? = some (20, 10, []) := (h 68 (Nat.le_of_ble_eq_true rfl)).trans rfl
theorem jl_69 {lay : jj_Lay} (h : jj_pp lay) : lay[69]? = some (20, 10, []) := (h 69 (Nat.le_of_ble_eq_true rfl)).trans rfl
theorem jl_70 {lay : jj_Lay} (h : jj_pp lay) : lay[70]? = some (1, 12, [none, none, some (some 71), some (some 72), some (some 73), some (some 74), some (some 75), some (some 76), some (some 77), some (some 78), some (some 79), some (some 80)]) := (h 70 (Nat.le_of_ble_eq_true rfl)).trans rfl
theorem jl_71 {lay : jj_Lay} (h : jj_pp lay) : lay[71]? = some (20, 4, []) := (h 71 (Nat.le_of_ble_eq_true rfl)).trans rfl
theorem jl_72 {lay : jj_Lay} (h : jj_pp lay) : lay[72]? = some (20, 10, []) := (h 72 (Nat.le_of_ble_eq_true rfl)).trans rfl
theorem jl_73 {lay : jj_Lay} (h : jj_pp lay) : lay[73]? = some (20, 10, []) := (h 73 (Nat.le_of_ble_eq_true rfl)).trans rfl
theorem jl_74 {lay : jj_Lay} (h : jj_pp lay) : lay[74]? = some (20, 5, []) := (h 74 (Nat.le_of_ble_eq_true rfl)).trans rfl
theorem jl_75 {lay : jj_Lay} (h : jj_pp lay) : lay[75]? = some (20, 5, []) := (h 75 (Nat.le_of_ble_eq_true rfl)).trans rfl
theorem jl_76 {lay : jj_Lay} (h : jj_pp lay) : lay[76]? = some (20, 5, []) := (h 76 (Nat.le_of_ble_eq_true rfl)).trans rfl
theorem jl_77 {lay : jj_Lay} (h : jj_pp lay) : lay[77]? = some (20, 5, []) := (h 77 (Nat.le_of_ble_eq_true rfl)).trans rfl
theorem jl_78 {lay : jj_Lay} (h : jj_pp lay) : lay[78]? = some (20, 10, []) := (h 78 (Nat.le_of_ble_eq_true rfl)).trans rfl
theorem jl_79 {lay : jj_Lay} (h : jj_pp lay) : lay[79]? = some (20, 10, []) := (h 79 (Nat.le_of_ble_eq_true rfl)).trans rfl
theorem jl_80 {lay : jj_Lay} (h : jj_pp lay) : lay[80]? = some (20, 10, []) := (h 80 (Nat.le_of_ble_eq_true rfl)).trans rfl
theorem jl_81 {lay : jj_Lay} (h : jj_pp lay) : lay[81]? = some (1, 12, [none, none, some (some 82), some (some 83), some (some 84), some (some 85), some (some 86), some (some 87), some (some 88), some (some 89), some (some 90), some (some 91)]) := (h 81 (Nat.le_of_ble_eq_true rfl)).trans rfl
theorem jl_82 {lay : jj_Lay} (h : jj_pp lay) : lay[82]? = some (20, 4, []) := (h 82 (Nat.le_of_ble_eq_true rfl)).trans rfl
theorem jl_83 {lay : jj_Lay} (h : jj_pp lay) : lay[83]? = some (20, 10, []) := (h 83 (Nat.le_of_ble_eq_true rfl)).trans rfl
theorem jl_84 {lay : jj_Lay} (h : jj_pp lay) : lay[84]? = some (20, 10, []) := (h 84 (Nat.le_of_ble_eq_true rfl)).trans rfl
theorem jl_85 {lay : jj_Lay} (h : jj_pp lay) : lay[85]? = some (20, 5, []) := (h 85 (Nat.le_of_ble_eq_true rfl)).trans rfl
theorem jl_86 {lay : jj_Lay} (h : jj_pp lay) : lay[86]? = some (20, 5, []) := (h 86 (Nat.le_of_ble_eq_true rfl)).trans rfl
theorem jl_87 {lay : jj_Lay} (h : jj_pp lay) : lay[87]? = some (20, 5, []) := (h 87 (Nat.le_of_ble_eq_true rfl)).trans rfl
theorem jl_88 {lay : jj_Lay} (h : jj_pp lay) : lay[88]? = some (20, 5, []) := (h 88 (Nat.le_of_ble_eq_true rfl)).trans rfl
theorem jl_89 {lay : jj_Lay} (h : jj_pp lay) : lay[89]? = some (20, 10, []) := (h 89 (Nat.le_of_ble_eq_true rfl)).trans rfl
theorem jl_90 {lay : jj_Lay} (h : jj_pp lay) : lay[90]? = some (20, 10, []) := (h 90 (Nat.le_of_ble_eq_true rfl)).trans rfl
theorem jl_91 {lay : jj_Lay} (h : jj_pp lay) : lay[91]? = some (20, 10, []) := (h 91 (Nat.le_of_ble_eq_true rfl)).trans rfl
theorem jl_92 {lay : jj_Lay} (h : jj_pp lay) : lay[92]? = some (1, 12, [none, none, some (some 93), some (some 94), some (some 95), some (some 96), some (some 97), some (some 98), some (some 99), some (some 100), some (some 101), some (some 102)]) := (h 92 (Nat.le_of_ble_eq_true rfl)).trans rfl
theorem jl_93 {lay : jj_Lay} (h : jj_pp lay) : lay[93]? = some (20, 4, []) := (h 93 (Nat.le_of_ble_eq_true rfl)).trans rfl
theorem jl_94 {lay : jj_Lay} (h : jj_pp lay) : lay[94]? = some (20, 10, []) := (h 94 (Nat.le_of_ble_eq_true rfl)).trans rfl
theorem jl_95 {lay : jj_Lay} (h : jj_pp lay) : lay[95]? = some (20, 10, []) := (h 95 (Nat.le_of_ble_eq_true rfl)).trans rfl
theorem jl_96 {lay : jj_Lay} (h : jj_pp lay) : lay[96]? = some (20, 5, []) := (h 96 (Nat.le_of_ble_eq_true rfl)).trans rfl
theorem jl_97 {lay : jj_Lay} (h : jj_pp lay) : lay[97]? = some (20, 5, []) := (h 97 (Nat.le_of_ble_eq_true rfl)).trans rfl
theorem jl_98 {lay : jj_Lay} (h : jj_pp lay) : lay[98]? = some (20, 5, []) := (h 98 (Nat.le_of_ble_eq_true rfl)).trans rfl
theorem jl_99 {lay : jj_Lay} (h : jj_pp lay) : lay[99]? = some (20, 5, []) := (h 99 (Nat.le_of_ble_eq_true rfl)).trans rfl
theorem jl_100 {lay : jj_Lay} (h : jj_pp lay) : lay[100]? = some (20, 10, []) := (h 100 (Nat.le_of_ble_eq_true rfl)).trans rfl
theorem jl_101 {lay : jj_Lay} (h : jj_pp lay) : lay[101]? = some (20, 10, []) := (h 101 (Nat.le_of_ble_eq_true rfl)).trans rfl
theorem jl_102 {lay : jj_Lay} (h : jj_pp lay) : lay[102]? = some (20, 10, []) := (h 102 (Nat.le_of_ble_eq_true rfl)).trans rfl
theorem jl_103 {lay : jj_Lay} (h : jj_pp lay) : lay[103]? = some (20, 10, []) := (h 103 (Nat.le_of_ble_eq_true rfl)).trans rfl

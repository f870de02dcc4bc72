/-! JUDGING ALL PLAYS. -/
set_option maxRecDepth 100000 in
set_option maxHeartbeats 4000000 in
theorem jA_sc {lay : jj_Lay} {S : jj_Mem} (hB : jj_pp lay) {n e t : Nat} {li tr mi rs : Nat → Nat} {se : Nat → Int32} (hlg : jj_lg S n li tr mi rs se) (hnow : S 0 9 = some (nI t)) (ht : t < 2 ^ 31) (he : e < n) (hmi : mi e < 2 ^ 31) (hc : mi e / 14400 < t / 14400) : jj_R cX6_judgePlays 6 RX6 yX6_judgePlays.name none 3 68 lay.length (jj_sl lay) (11, [some (.ref 0), some (.int (nI (mi e / 1440))), some (.int (nI e)), none, none, none], [], lay, S) (81, [some (.ref 0), some (.int (nI (mi e / 1440))), some (.int (nI e)), some (.int (nI e)), some (.int (nI (mi e))), some (.int (nI 0))], [], lay, S) := by
  have h130 := hlg.1
  refine js_iload_n 2 rfl dX6_judgePlays_11 rfl ?_
  refine js_aload_n 0 rfl dX6_judgePlays_12 rfl ?_
  refine js_getr 3 jw_f_RX6_33 (jl_0 hB) rfl (Nat.le_of_ble_eq_true rfl) rfl dX6_judgePlays_13 ?_
  refine js_getNi 0 jw_n_RX6_194 (jl_35 hB) rfl (Nat.le_of_ble_eq_true rfl) rfl (hlg.2.1) dX6_judgePlays_16 ?_
  refine jn_icmp_ge 153 (by omega) (by omega) dX6_judgePlays_19 (by decide) (fun h9 => absurd h9 (by omega)) (fun _ => ?_)
  refine js_aload_n 0 rfl dX6_judgePlays_22 rfl ?_
  refine js_getr 3 jw_f_RX6_33 (jl_0 hB) rfl (Nat.le_of_ble_eq_true rfl) rfl dX6_judgePlays_23 ?_
  refine js_getNr 6 jw_n_RX6_370 (jl_35 hB) rfl (Nat.le_of_ble_eq_true rfl) rfl dX6_judgePlays_26 ?_
  refine js_iload_n 2 rfl dX6_judgePlays_29 rfl ?_
  refine js_iald e rfl (jl_41 hB) (by omega) (by decide) ((hlg.2.2 e (by omega)).2.2.2.2.2) dX6_judgePlays_30 ?_
  refine js_istore_n (L' := [some (.ref 0), some (.int (nI (mi e / 1440))), some (.int (nI e)), some (.int (nI e)), none, none]) 3 rfl dX6_judgePlays_31 rfl (Nat.le_of_ble_eq_true rfl) ?_
  refine js_aload_n 0 rfl dX6_judgePlays_32 rfl ?_
  refine js_getr 3 jw_f_RX6_33 (jl_0 hB) rfl (Nat.le_of_ble_eq_true rfl) rfl dX6_judgePlays_33 ?_
  refine js_getNr 3 jw_n_RX6_255 (jl_35 hB) rfl (Nat.le_of_ble_eq_true rfl) rfl dX6_judgePlays_36 ?_
  refine js_iload_n 3 rfl dX6_judgePlays_39 rfl ?_
  refine js_iald e rfl (jl_38 hB) (by omega) (by decide) ((hlg.2.2 e (by omega)).2.2.1) dX6_judgePlays_40 ?_
  refine js_istore (L' := [some (.ref 0), some (.int (nI (mi e / 1440))), some (.int (nI e)), some (.int (nI e)), some (.int (nI (mi e))), none]) dX6_judgePlays_41 rfl (Nat.le_of_ble_eq_true rfl) ?_
  refine js_aload_n 0 rfl dX6_judgePlays_43 rfl ?_
  refine js_iload dX6_judgePlays_44 rfl ?_
  refine js_callV (av := [.int (nI (mi e))]) (st := []) (b := 0) (ct_X6_isClosed hB hmi ht hnow) (Or.inl rfl) jw_c_X6_isClosed jw_i_RX6 jw_m_RX6_187 jw_s_X6_isClosed jw_e_X6_isClosed (jl_0 hB) rfl jw_y_X6_isClosed rfl ⟨(Nat.le_of_ble_eq_true rfl), (Nat.le_of_ble_eq_true rfl), (Nat.le_refl _), (Nat.le_refl _), (Nat.le_of_ble_eq_true rfl)⟩ dX6_judgePlays_46 ?_
  refine js_st (st' := [.int (nI (jj_b (decide (mi e / 14400 < t / 14400))))]) rfl ?_
  refine js_top (y := nI 1) (by simp [jj_b, hc]) ?_
  refine jn_if_ne 56 (by omega) dX6_judgePlays_49 (by decide) (fun _ => ?_) (fun h9 => absurd h9 (by omega))
  refine js_iconst (v := nI 0) dX6_judgePlays_56 (by decide) ?_
  refine js_istore (L' := [some (.ref 0), some (.int (nI (mi e / 1440))), some (.int (nI e)), some (.int (nI e)), some (.int (nI (mi e))), some (.int (nI 0))]) dX6_judgePlays_57 rfl (Nat.le_of_ble_eq_true rfl) ?_
  refine js_iload_n 1 rfl dX6_judgePlays_59 rfl ?_
  refine js_iload dX6_judgePlays_60 rfl ?_
  refine js_callS (av := [.int (nI (mi e))]) (st := [.int (nI (mi e / 1440))]) (ct_X6_dayOf hmi) (Or.inl rfl) jw_c_X6_dayOf jw_i_RX6 jw_m_RX6_373 jw_s_X6_dayOf jw_y_X6_dayOf rfl ⟨(Nat.le_of_ble_eq_true rfl), (Nat.le_of_ble_eq_true rfl), (Nat.le_refl _), (Nat.le_refl _), (Nat.le_of_ble_eq_true rfl)⟩ dX6_judgePlays_62 ?_
  refine js_st (st' := [.int (nI (mi e / 1440)), .int (nI (mi e / 1440))]) rfl ?_
  refine jn_icmp_eq 81 (by omega) (by omega) dX6_judgePlays_65 (by decide) (fun _ => ?_) (fun h9 => absurd h9 (by omega))
  exact jj_refl
set_option maxRecDepth 100000 in
set_option maxHeartbeats 4000000 in
theorem jA_so {lay : jj_Lay} {S : jj_Mem} (hB : jj_pp lay) {n e t : Nat} {li tr mi rs : Nat → Nat} {se : Nat → Int32} (hlg : jj_lg S n li tr mi rs se) (hnow : S 0 9 = some (nI t)) (ht : t < 2 ^ 31) (he : e < n) (hmi : mi e < 2 ^ 31) (hc : ¬ mi e / 14400 < t / 14400) : jj_R cX6_judgePlays 6 RX6 yX6_judgePlays.name none 3 68 lay.length (jj_sl lay) (11, [some (.ref 0), some (.int (nI (mi e / 1440))), some (.int (nI e)), none, none, none], [], lay, S) (81, [some (.ref 0), some (.int (nI (mi e / 1440))), some (.int (nI e)), some (.int (nI e)), some (.int (nI (mi e))), some (.int (nI 1))], [], lay, S) := by
  have h130 := hlg.1
  refine js_iload_n 2 rfl dX6_judgePlays_11 rfl ?_
  refine js_aload_n 0 rfl dX6_judgePlays_12 rfl ?_
  refine js_getr 3 jw_f_RX6_33 (jl_0 hB) rfl (Nat.le_of_ble_eq_true rfl) rfl dX6_judgePlays_13 ?_
  refine js_getNi 0 jw_n_RX6_194 (jl_35 hB) rfl (Nat.le_of_ble_eq_true rfl) rfl (hlg.2.1) dX6_judgePlays_16 ?_
  refine jn_icmp_ge 153 (by omega) (by omega) dX6_judgePlays_19 (by decide) (fun h9 => absurd h9 (by omega)) (fun _ => ?_)
  refine js_aload_n 0 rfl dX6_judgePlays_22 rfl ?_
  refine js_getr 3 jw_f_RX6_33 (jl_0 hB) rfl (Nat.le_of_ble_eq_true rfl) rfl dX6_judgePlays_23 ?_
  refine js_getNr 6 jw_n_RX6_370 (jl_35 hB) rfl (Nat.le_of_ble_eq_true rfl) rfl dX6_judgePlays_26 ?_
  refine js_iload_n 2 rfl dX6_judgePlays_29 rfl ?_
  refine js_iald e rfl (jl_41 hB) (by omega) (by decide) ((hlg.2.2 e (by omega)).2.2.2.2.2) dX6_judgePlays_30 ?_
  refine js_istore_n (L' := [some (.ref 0), some (.int (nI (mi e / 1440))), some (.int (nI e)), some (.int (nI e)), none, none]) 3 rfl dX6_judgePlays_31 rfl (Nat.le_of_ble_eq_true rfl) ?_
  refine js_aload_n 0 rfl dX6_judgePlays_32 rfl ?_
  refine js_getr 3 jw_f_RX6_33 (jl_0 hB) rfl (Nat.le_of_ble_eq_true rfl) rfl dX6_judgePlays_33 ?_
  refine js_getNr 3 jw_n_RX6_255 (jl_35 hB) rfl (Nat.le_of_ble_eq_true rfl) rfl dX6_judgePlays_36 ?_
  refine js_iload_n 3 rfl dX6_judgePlays_39 rfl ?_
  refine js_iald e rfl (jl_38 hB) (by omega) (by decide) ((hlg.2.2 e (by omega)).2.2.1) dX6_judgePlays_40 ?_
  refine js_istore (L' := [some (.ref 0), some (.int (nI (mi e / 1440))), some (.int (nI e)), some (.int (nI e)), some (.int (nI (mi e))), none]) dX6_judgePlays_41 rfl (Nat.le_of_ble_eq_true rfl) ?_
  refine js_aload_n 0 rfl dX6_judgePlays_43 rfl ?_
  refine js_iload dX6_judgePlays_44 rfl ?_
  refine js_callV (av := [.int (nI (mi e))]) (st := []) (b := 0) (ct_X6_isClosed hB hmi ht hnow) (Or.inl rfl) jw_c_X6_isClosed jw_i_RX6 jw_m_RX6_187 jw_s_X6_isClosed jw_e_X6_isClosed (jl_0 hB) rfl jw_y_X6_isClosed rfl ⟨(Nat.le_of_ble_eq_true rfl), (Nat.le_of_ble_eq_true rfl), (Nat.le_refl _), (Nat.le_refl _), (Nat.le_of_ble_eq_true rfl)⟩ dX6_judgePlays_46 ?_
  refine js_st (st' := [.int (nI (jj_b (decide (mi e / 14400 < t / 14400))))]) rfl ?_
  refine js_top (y := nI 0) (by simp [jj_b, hc]) ?_
  refine jn_if_ne 56 (by omega) dX6_judgePlays_49 (by decide) (fun h9 => absurd h9 (by omega)) (fun _ => ?_)
  refine js_iconst (v := nI 1) dX6_judgePlays_52 (by decide) ?_
  refine js_goto 57 dX6_judgePlays_53 (by decide) ?_
  refine js_istore (L' := [some (.ref 0), some (.int (nI (mi e / 1440))), some (.int (nI e)), some (.int (nI e)), some (.int (nI (mi e))), some (.int (nI 1))]) dX6_judgePlays_57 rfl (Nat.le_of_ble_eq_true rfl) ?_
  refine js_iload_n 1 rfl dX6_judgePlays_59 rfl ?_
  refine js_iload dX6_judgePlays_60 rfl ?_
  refine js_callS (av := [.int (nI (mi e))]) (st := [.int (nI (mi e / 1440))]) (ct_X6_dayOf hmi) (Or.inl rfl) jw_c_X6_dayOf jw_i_RX6 jw_m_RX6_373 jw_s_X6_dayOf jw_y_X6_dayOf rfl ⟨(Nat.le_of_ble_eq_true rfl), (Nat.le_of_ble_eq_true rfl), (Nat.le_refl _), (Nat.le_refl _), (Nat.le_of_ble_eq_true rfl)⟩ dX6_judgePlays_62 ?_
  refine js_st (st' := [.int (nI (mi e / 1440)), .int (nI (mi e / 1440))]) rfl ?_
  refine jn_icmp_eq 81 (by omega) (by omega) dX6_judgePlays_65 (by decide) (fun _ => ?_) (fun h9 => absurd h9 (by omega))
  exact jj_refl
set_option maxRecDepth 100000 in
set_option maxHeartbeats 4000000 in
theorem jA_nc {lay : jj_Lay} {S : jj_Mem} (hB : jj_pp lay) {n e t : Nat} {li tr mi rs : Nat → Nat} {se : Nat → Int32} (hlg : jj_lg S n li tr mi rs se) (hnow : S 0 9 = some (nI t)) (ht : t < 2 ^ 31) (he : e < n) (hmi : mi e < 2 ^ 31) {dv : Int32} (hd : ¬ dv = nI (mi e / 1440)) (hc : mi e / 14400 < t / 14400) : jj_R cX6_judgePlays 6 RX6 yX6_judgePlays.name none 3 68 lay.length (jj_sl lay) (11, [some (.ref 0), some (.int dv), some (.int (nI e)), none, none, none], [], lay, S) (81, [some (.ref 0), some (.int (nI (mi e / 1440))), some (.int (nI e)), some (.int (nI e)), some (.int (nI (mi e))), some (.int (nI 0))], [], lay, (jj_cl S 61 8)) := by
  have h130 := hlg.1
  refine js_iload_n 2 rfl dX6_judgePlays_11 rfl ?_
  refine js_aload_n 0 rfl dX6_judgePlays_12 rfl ?_
  refine js_getr 3 jw_f_RX6_33 (jl_0 hB) rfl (Nat.le_of_ble_eq_true rfl) rfl dX6_judgePlays_13 ?_
  refine js_getNi 0 jw_n_RX6_194 (jl_35 hB) rfl (Nat.le_of_ble_eq_true rfl) rfl (hlg.2.1) dX6_judgePlays_16 ?_
  refine jn_icmp_ge 153 (by omega) (by omega) dX6_judgePlays_19 (by decide) (fun h9 => absurd h9 (by omega)) (fun _ => ?_)
  refine js_aload_n 0 rfl dX6_judgePlays_22 rfl ?_
  refine js_getr 3 jw_f_RX6_33 (jl_0 hB) rfl (Nat.le_of_ble_eq_true rfl) rfl dX6_judgePlays_23 ?_
  refine js_getNr 6 jw_n_RX6_370 (jl_35 hB) rfl (Nat.le_of_ble_eq_true rfl) rfl dX6_judgePlays_26 ?_
  refine js_iload_n 2 rfl dX6_judgePlays_29 rfl ?_
  refine js_iald e rfl (jl_41 hB) (by omega) (by decide) ((hlg.2.2 e (by omega)).2.2.2.2.2) dX6_judgePlays_30 ?_
  refine js_istore_n (L' := [some (.ref 0), some (.int dv), some (.int (nI e)), some (.int (nI e)), none, none]) 3 rfl dX6_judgePlays_31 rfl (Nat.le_of_ble_eq_true rfl) ?_
  refine js_aload_n 0 rfl dX6_judgePlays_32 rfl ?_
  refine js_getr 3 jw_f_RX6_33 (jl_0 hB) rfl (Nat.le_of_ble_eq_true rfl) rfl dX6_judgePlays_33 ?_
  refine js_getNr 3 jw_n_RX6_255 (jl_35 hB) rfl (Nat.le_of_ble_eq_true rfl) rfl dX6_judgePlays_36 ?_
  refine js_iload_n 3 rfl dX6_judgePlays_39 rfl ?_
  refine js_iald e rfl (jl_38 hB) (by omega) (by decide) ((hlg.2.2 e (by omega)).2.2.1) dX6_judgePlays_40 ?_
  refine js_istore (L' := [some (.ref 0), some (.int dv), some (.int (nI e)), some (.int (nI e)), some (.int (nI (mi e))), none]) dX6_judgePlays_41 rfl (Nat.le_of_ble_eq_true rfl) ?_
  refine js_aload_n 0 rfl dX6_judgePlays_43 rfl ?_
  refine js_iload dX6_judgePlays_44 rfl ?_
  refine js_callV (av := [.int (nI (mi e))]) (st := []) (b := 0) (ct_X6_isClosed hB hmi ht hnow) (Or.inl rfl) jw_c_X6_isClosed jw_i_RX6 jw_m_RX6_187 jw_s_X6_isClosed jw_e_X6_isClosed (jl_0 hB) rfl jw_y_X6_isClosed rfl ⟨(Nat.le_of_ble_eq_true rfl), (Nat.le_of_ble_eq_true rfl), (Nat.le_refl _), (Nat.le_refl _), (Nat.le_of_ble_eq_true rfl)⟩ dX6_judgePlays_46 ?_
  refine js_st (st' := [.int (nI (jj_b (decide (mi e / 14400 < t / 14400))))]) rfl ?_
  refine js_top (y := nI 1) (by simp [jj_b, hc]) ?_
  refine jn_if_ne 56 (by omega) dX6_judgePlays_49 (by decide) (fun _ => ?_) (fun h9 => absurd h9 (by omega))
  refine js_iconst (v := nI 0) dX6_judgePlays_56 (by decide) ?_
  refine js_istore (L' := [some (.ref 0), some (.int dv), some (.int (nI e)), some (.int (nI e)), some (.int (nI (mi e))), some (.int (nI 0))]) dX6_judgePlays_57 rfl (Nat.le_of_ble_eq_true rfl) ?_
  refine js_iload_n 1 rfl dX6_judgePlays_59 rfl ?_
  refine js_iload dX6_judgePlays_60 rfl ?_
  refine js_callS (av := [.int (nI (mi e))]) (st := [.int dv]) (ct_X6_dayOf hmi) (Or.inl rfl) jw_c_X6_dayOf jw_i_RX6 jw_m_RX6_373 jw_s_X6_dayOf jw_y_X6_dayOf rfl ⟨(Nat.le_of_ble_eq_true rfl), (Nat.le_of_ble_eq_true rfl), (Nat.le_refl _), (Nat.le_refl _), (Nat.le_of_ble_eq_true rfl)⟩ dX6_judgePlays_62 ?_
  refine js_st (st' := [.int (nI (mi e / 1440)), .int dv]) rfl ?_
  refine js_icmp_eq 81 dX6_judgePlays_65 (by decide) (fun h9 => absurd h9 hd) (fun _ => ?_)
  refine js_iload dX6_judgePlays_68 rfl ?_
  refine js_callS (av := [.int (nI (mi e))]) (st := []) (ct_X6_dayOf hmi) (Or.inl rfl) jw_c_X6_dayOf jw_i_RX6 jw_m_RX6_373 jw_s_X6_dayOf jw_y_X6_dayOf rfl ⟨(Nat.le_of_ble_eq_true rfl), (Nat.le_of_ble_eq_true rfl), (Nat.le_refl _), (Nat.le_refl _), (Nat.le_of_ble_eq_true rfl)⟩ dX6_judgePlays_70 ?_
  refine js_st (st' := [.int (nI (mi e / 1440))]) rfl ?_
  refine js_istore_n (L' := [some (.ref 0), some (.int (nI (mi e / 1440))), some (.int (nI e)), some (.int (nI e)), some (.int (nI (mi e))), some (.int (nI 0))]) 1 rfl dX6_judgePlays_73 rfl (Nat.le_of_ble_eq_true rfl) ?_
  refine js_aload_n 0 rfl dX6_judgePlays_74 rfl ?_
  refine js_getr 4 jw_f_RX6_40 (jl_0 hB) rfl (Nat.le_of_ble_eq_true rfl) rfl dX6_judgePlays_75 ?_
  refine js_callVN (av := []) (st := []) (b := 42) (ct_X3_startDay hB) (Or.inl rfl) jw_c_X3_startDay jw_i_RX3 jw_h_RX6_376 jw_s_X3_startDay jw_e_X3_startDay (jl_42 hB) rfl jw_y_X3_startDay rfl ⟨(Nat.le_of_ble_eq_true rfl), (Nat.le_of_ble_eq_true rfl), (Nat.le_refl _), (Nat.le_refl _), (Nat.le_of_ble_eq_true rfl)⟩ dX6_judgePlays_78 ?_
  refine js_st (st' := []) rfl ?_
  exact jj_refl
set_option maxRecDepth 100000 in
set_option maxHeartbeats 4000000 in
theorem jA_no {lay : jj_Lay} {S : jj_Mem} (hB : jj_pp lay) {n e t : Nat} {li tr mi rs : Nat → Nat} {se : Nat → Int32} (hlg : jj_lg S n li tr mi rs se) (hnow : S 0 9 = some (nI t)) (ht : t < 2 ^ 31) (he : e < n) (hmi : mi e < 2 ^ 31) {dv : Int32} (hd : ¬ dv = nI (mi e / 1440)) (hc : ¬ mi e / 14400 < t / 14400) : jj_R cX6_judgePlays 6 RX6 yX6_judgePlays.name none 3 68 lay.length (jj_sl lay) (11, [some (.ref 0), some (.int dv), some (.int (nI e)), none, none, none], [], lay, S) (81, [some (.ref 0), some (.int (nI (mi e / 1440))), some (.int (nI e)), some (.int (nI e)), some (.int (nI (mi e))), some (.int (nI 1))], [], lay, (jj_cl S 61 8)) := by
  have h130 := hlg.1
  refine js_iload_n 2 rfl dX6_judgePlays_11 rfl ?_
  refine js_aload_n 0 rfl dX6_judgePlays_12 rfl ?_
  refine js_getr 3 jw_f_RX6_33 (jl_0 hB) rfl (Nat.le_of_ble_eq_true rfl) rfl dX6_judgePlays_13 ?_
  refine js_getNi 0 jw_n_RX6_194 (jl_35 hB) rfl (Nat.le_of_ble_eq_true rfl) rfl (hlg.2.1) dX6_judgePlays_16 ?_
  refine jn_icmp_ge 153 (by omega) (by omega) dX6_judgePlays_19 (by decide) (fun h9 => absurd h9 (by omega)) (fun _ => ?_)
  refine js_aload_n 0 rfl dX6_judgePlays_22 rfl ?_
  refine js_getr 3 jw_f_RX6_33 (jl_0 hB) rfl (Nat.le_of_ble_eq_true rfl) rfl dX6_judgePlays_23 ?_
  refine js_getNr 6 jw_n_RX6_370 (jl_35 hB) rfl (Nat.le_of_ble_eq_true rfl) rfl dX6_judgePlays_26 ?_
  refine js_iload_n 2 rfl dX6_judgePlays_29 rfl ?_
  refine js_iald e rfl (jl_41 hB) (by omega) (by decide) ((hlg.2.2 e (by omega)).2.2.2.2.2) dX6_judgePlays_30 ?_
  refine js_istore_n (L' := [some (.ref 0), some (.int dv), some (.int (nI e)), some (.int (nI e)), none, none]) 3 rfl dX6_judgePlays_31 rfl (Nat.le_of_ble_eq_true rfl) ?_
  refine js_aload_n 0 rfl dX6_judgePlays_32 rfl ?_
  refine js_getr 3 jw_f_RX6_33 (jl_0 hB) rfl (Nat.le_of_ble_eq_true rfl) rfl dX6_judgePlays_33 ?_
  refine js_getNr 3 jw_n_RX6_255 (jl_35 hB) rfl (Nat.le_of_ble_eq_true rfl) rfl dX6_judgePlays_36 ?_
  refine js_iload_n 3 rfl dX6_judgePlays_39 rfl ?_
  refine js_iald e rfl (jl_38 hB) (by omega) (by decide) ((hlg.2.2 e (by omega)).2.2.1) dX6_judgePlays_40 ?_
  refine js_istore (L' := [some (.ref 0), some (.int dv), some (.int (nI e)), some (.int (nI e)), some (.int (nI (mi e))), none]) dX6_judgePlays_41 rfl (Nat.le_of_ble_eq_true rfl) ?_
  refine js_aload_n 0 rfl dX6_judgePlays_43 rfl ?_
  refine js_iload dX6_judgePlays_44 rfl ?_
  refine js_callV (av := [.int (nI (mi e))]) (st := []) (b := 0) (ct_X6_isClosed hB hmi ht hnow) (Or.inl rfl) jw_c_X6_isClosed jw_i_RX6 jw_m_RX6_187 jw_s_X6_isClosed jw_e_X6_isClosed (jl_0 hB) rfl jw_y_X6_isClosed rfl ⟨(Nat.le_of_ble_eq_true rfl), (Nat.le_of_ble_eq_true rfl), (Nat.le_refl _), (Nat.le_refl _), (Nat.le_of_ble_eq_true rfl)⟩ dX6_judgePlays_46 ?_
  refine js_st (st' := [.int (nI (jj_b (decide (mi e / 14400 < t / 14400))))]) rfl ?_
  refine js_top (y := nI 0) (by simp [jj_b, hc]) ?_
  refine jn_if_ne 56 (by omega) dX6_judgePlays_49 (by decide) (fun h9 => absurd h9 (by omega)) (fun _ => ?_)
  refine js_iconst (v := nI 1) dX6_judgePlays_52 (by decide) ?_
  refine js_goto 57 dX6_judgePlays_53 (by decide) ?_
  refine js_istore (L' := [some (.ref 0), some (.int dv), some (.int (nI e)), some (.int (nI e)), some (.int (nI (mi e))), some (.int (nI 1))]) dX6_judgePlays_57 rfl (Nat.le_of_ble_eq_true rfl) ?_
  refine js_iload_n 1 rfl dX6_judgePlays_59 rfl ?_
  refine js_iload dX6_judgePlays_60 rfl ?_
  refine js_callS (av := [.int (nI (mi e))]) (st := [.int dv]) (ct_X6_dayOf hmi) (Or.inl rfl) jw_c_X6_dayOf jw_i_RX6 jw_m_RX6_373 jw_s_X6_dayOf jw_y_X6_dayOf rfl ⟨(Nat.le_of_ble_eq_true rfl), (Nat.le_of_ble_eq_true rfl), (Nat.le_refl _), (Nat.le_refl _), (Nat.le_of_ble_eq_true rfl)⟩ dX6_judgePlays_62 ?_
  refine js_st (st' := [.int (nI (mi e / 1440)), .int dv]) rfl ?_
  refine js_icmp_eq 81 dX6_judgePlays_65 (by decide) (fun h9 => absurd h9 hd) (fun _ => ?_)
  refine js_iload dX6_judgePlays_68 rfl ?_
  refine js_callS (av := [.int (nI (mi e))]) (st := []) (ct_X6_dayOf hmi) (Or.inl rfl) jw_c_X6_dayOf jw_i_RX6 jw_m_RX6_373 jw_s_X6_dayOf jw_y_X6_dayOf rfl ⟨(Nat.le_of_ble_eq_true rfl), (Nat.le_of_ble_eq_true rfl), (Nat.le_refl _), (Nat.le_refl _), (Nat.le_of_ble_eq_true rfl)⟩ dX6_judgePlays_70 ?_
  refine js_st (st' := [.int (nI (mi e / 1440))]) rfl ?_
  refine js_istore_n (L' := [some (.ref 0), some (.int (nI (mi e / 1440))), some (.int (nI e)), some (.int (nI e)), some (.int (nI (mi e))), some (.int (nI 1))]) 1 rfl dX6_judgePlays_73 rfl (Nat.le_of_ble_eq_true rfl) ?_
  refine js_aload_n 0 rfl dX6_judgePlays_74 rfl ?_
  refine js_getr 4 jw_f_RX6_40 (jl_0 hB) rfl (Nat.le_of_ble_eq_true rfl) rfl dX6_judgePlays_75 ?_
  refine js_callVN (av := []) (st := []) (b := 42) (ct_X3_startDay hB) (Or.inl rfl) jw_c_X3_startDay jw_i_RX3 jw_h_RX6_376 jw_s_X3_startDay jw_e_X3_startDay (jl_42 hB) rfl jw_y_X3_startDay rfl ⟨(Nat.le_of_ble_eq_true rfl), (Nat.le_of_ble_eq_true rfl), (Nat.le_refl _), (Nat.le_refl _), (Nat.le_of_ble_eq_true rfl)⟩ dX6_judgePlays_78 ?_
  refine js_st (st' := []) rfl ?_
  exact jj_refl
theorem jA {lay : jj_Lay} {S : jj_Mem} (hB : jj_pp lay) {n e t : Nat} {li tr mi rs : Nat → Nat} {se : Nat → Int32} (hlg : jj_lg S n li tr mi rs se) (hnow : S 0 9 = some (nI t)) (ht : t < 2 ^ 31) (he : e < n) (hmi : mi e < 2 ^ 31) {dv : Int32} {o : Nat} (ho : o = if mi e / 14400 < t / 14400 then 0 else 1) : jj_R cX6_judgePlays 6 RX6 yX6_judgePlays.name none 3 68 lay.length (jj_sl lay) (11, [some (.ref 0), some (.int dv), some (.int (nI e)), none, none, none], [], lay, S) (81, [some (.ref 0), some (.int (nI (mi e / 1440))), some (.int (nI e)), some (.int (nI e)), some (.int (nI (mi e))), some (.int (nI o))], [], lay, (if dv = nI (mi e / 1440) then S else jj_cl S 61 8)) := by
  by_cases hd : dv = nI (mi e / 1440)
  · rw [if_pos hd, hd]
    by_cases hc : mi e / 14400 < t / 14400
    · rw [if_pos hc] at ho; rw [ho]; exact jA_sc hB hlg hnow ht he hmi hc
    · rw [if_neg hc] at ho; rw [ho]; exact jA_so hB hlg hnow ht he hmi hc
  · rw [if_neg hd]
    by_cases hc : mi e / 14400 < t / 14400
    · rw [if_pos hc] at ho; rw [ho]; exact jA_nc hB hlg hnow ht he hmi hd hc
    · rw [if_neg hc] at ho; rw [ho]; exact jA_no hB hlg hnow ht he hmi hd hc
set_option maxRecDepth 100000 in
set_option maxHeartbeats 4000000 in
theorem jB_0 {lay : jj_Lay} {S : jj_Mem} {e : Nat} {mi : Nat → Nat} : jj_R cX6_judgePlays 6 RX6 yX6_judgePlays.name none 3 68 lay.length (jj_sl lay) (81, [some (.ref 0), some (.int (nI (mi e / 1440))), some (.int (nI e)), some (.int (nI e)), some (.int (nI (mi e))), some (.int (nI 0))], [], lay, S) (100, [some (.ref 0), some (.int (nI (mi e / 1440))), some (.int (nI e)), some (.int (nI e)), some (.int (nI (mi e))), some (.int (nI 0))], [], lay, S) := by
  refine js_iload dX6_judgePlays_81 rfl ?_
  refine jn_if_eq 100 (by omega) dX6_judgePlays_83 (by decide) (fun _ => ?_) (fun h9 => absurd h9 (by omega))
  exact jj_refl
set_option maxRecDepth 100000 in
set_option maxHeartbeats 4000000 in
theorem jB_1 {lay : jj_Lay} {S : jj_Mem} (hB : jj_pp lay) {n e ρ : Nat} {mi : Nat → Nat} (hn : n ≤ 130) (he : e < n) (hct : jj_CT yX6_judged (.code yX6_judged cX6_judged 6 (some .int)) none 2 43 [.ref 0, .int (nI e)] lay S (some (.int (nI ρ))) lay S) : jj_R cX6_judgePlays 6 RX6 yX6_judgePlays.name none 3 68 lay.length (jj_sl lay) (81, [some (.ref 0), some (.int (nI (mi e / 1440))), some (.int (nI e)), some (.int (nI e)), some (.int (nI (mi e))), some (.int (nI 1))], [], lay, S) (100, [some (.ref 0), some (.int (nI (mi e / 1440))), some (.int (nI e)), some (.int (nI e)), some (.int (nI (mi e))), some (.int (nI 1))], [], lay, (jj_w S 40 e (nI ρ))) := by
  refine js_iload dX6_judgePlays_81 rfl ?_
  refine jn_if_eq 100 (by omega) dX6_judgePlays_83 (by decide) (fun h9 => absurd h9 (by omega)) (fun _ => ?_)
  refine js_aload_n 0 rfl dX6_judgePlays_86 rfl ?_
  refine js_getr 3 jw_f_RX6_33 (jl_0 hB) rfl (Nat.le_of_ble_eq_true rfl) rfl dX6_judgePlays_87 ?_
  refine js_getNr 5 jw_n_RX6_200 (jl_35 hB) rfl (Nat.le_of_ble_eq_true rfl) rfl dX6_judgePlays_90 ?_
  refine js_iload_n 3 rfl dX6_judgePlays_93 rfl ?_
  refine js_aload_n 0 rfl dX6_judgePlays_94 rfl ?_
  refine js_iload_n 3 rfl dX6_judgePlays_95 rfl ?_
  refine js_callV (av := [.int (nI e)]) (st := [.int (nI e), .ref 40]) (b := 0) hct (Or.inl rfl) jw_c_X6_judged jw_i_RX6 jw_m_RX6_379 jw_s_X6_judged jw_e_X6_judged (jl_0 hB) rfl jw_y_X6_judged rfl ⟨(Nat.le_of_ble_eq_true rfl), (Nat.le_of_ble_eq_true rfl), (Nat.le_refl _), (Nat.le_refl _), (Nat.le_of_ble_eq_true rfl)⟩ dX6_judgePlays_96 ?_
  refine js_st (st' := [.int (nI ρ), .int (nI e), .ref 40]) rfl ?_
  refine js_iast e rfl (jl_40 hB) (by omega) (by decide) dX6_judgePlays_99 ?_
  exact jj_refl
set_option maxRecDepth 100000 in
set_option maxHeartbeats 4000000 in
theorem jC_n {lay : jj_Lay} {S : jj_Mem} (hB : jj_pp lay) {n e o : Nat} {li tr mi rs : Nat → Nat} {se : Nat → Int32} (hlg : jj_lg S n li tr mi rs se) (he : e < n) (hr : rs e < 2 ^ 31) (hz : ¬ rs e = 0) : jj_R cX6_judgePlays 6 RX6 yX6_judgePlays.name none 3 68 lay.length (jj_sl lay) (100, [some (.ref 0), some (.int (nI (mi e / 1440))), some (.int (nI e)), some (.int (nI e)), some (.int (nI (mi e))), some (.int (nI o))], [], lay, S) (11, [some (.ref 0), some (.int (nI (mi e / 1440))), some (.int (nI (e + 1))), none, none, none], [], lay, S) := by
  have h130 := hlg.1
  refine js_aload_n 0 rfl dX6_judgePlays_100 rfl ?_
  refine js_getr 3 jw_f_RX6_33 (jl_0 hB) rfl (Nat.le_of_ble_eq_true rfl) rfl dX6_judgePlays_101 ?_
  refine js_getNr 5 jw_n_RX6_200 (jl_35 hB) rfl (Nat.le_of_ble_eq_true rfl) rfl dX6_judgePlays_104 ?_
  refine js_iload_n 3 rfl dX6_judgePlays_107 rfl ?_
  refine js_iald e rfl (jl_40 hB) (by omega) (by decide) ((hlg.2.2 e (by omega)).2.2.2.2.1) dX6_judgePlays_108 ?_
  refine jn_if_ne 147 (by omega) dX6_judgePlays_109 (by decide) (fun _ => ?_) (fun h9 => absurd h9 (by omega))
  refine js_iinc (v := nI (e + 1)) (L' := [some (.ref 0), some (.int (nI (mi e / 1440))), some (.int (nI (e + 1))), some (.int (nI e)), some (.int (nI (mi e))), some (.int (nI o))]) dX6_judgePlays_147 rfl (jj_inc _) rfl ?_
  refine js_goto 11 dX6_judgePlays_150 (by decide) ?_
  refine js_fgL (L' := [some (.ref 0), some (.int (nI (mi e / 1440))), some (.int (nI (e + 1))), none, none, none]) (by simp [jj_le, jj_sm]) ?_
  exact jj_refl
set_option maxRecDepth 100000 in
set_option maxHeartbeats 4000000 in
theorem jC_y {lay : jj_Lay} {S S1 : jj_Mem} (hB : jj_pp lay) {n e o : Nat} {li tr mi rs : Nat → Nat} {se : Nat → Int32} (hlg : jj_lg S n li tr mi rs se) (he : e < n) (hr : rs e < 2 ^ 31) {nt : Nat} {rc : Nat → Nat} (htk : jj_tk S nt rc) (htr : tr e < nt) (hz : rs e = 0) (hct : jj_CT yX3_add (.code yX3_add cX3_add 4 none) none 0 0 [.ref 42, .int (nI (li e)), .int (nI (rc (tr e))), .int (nI o)] lay S none lay S1) : jj_R cX6_judgePlays 6 RX6 yX6_judgePlays.name none 3 68 lay.length (jj_sl lay) (100, [some (.ref 0), some (.int (nI (mi e / 1440))), some (.int (nI e)), some (.int (nI e)), some (.int (nI (mi e))), some (.int (nI o))], [], lay, S) (11, [some (.ref 0), some (.int (nI (mi e / 1440))), some (.int (nI (e + 1))), none, none, none], [], lay, S1) := by
  have h130 := hlg.1
  refine js_aload_n 0 rfl dX6_judgePlays_100 rfl ?_
  refine js_getr 3 jw_f_RX6_33 (jl_0 hB) rfl (Nat.le_of_ble_eq_true rfl) rfl dX6_judgePlays_101 ?_
  refine js_getNr 5 jw_n_RX6_200 (jl_35 hB) rfl (Nat.le_of_ble_eq_true rfl) rfl dX6_judgePlays_104 ?_
  refine js_iload_n 3 rfl dX6_judgePlays_107 rfl ?_
  refine js_iald e rfl (jl_40 hB) (by omega) (by decide) ((hlg.2.2 e (by omega)).2.2.2.2.1) dX6_judgePlays_108 ?_
  refine jn_if_ne 147 (by omega) dX6_judgePlays_109 (by decide) (fun h9 => absurd h9 (by omega)) (fun _ => ?_)
  refine js_aload_n 0 rfl dX6_judgePlays_112 rfl ?_
  refine js_getr 4 jw_f_RX6_40 (jl_0 hB) rfl (Nat.le_of_ble_eq_true rfl) rfl dX6_judgePlays_113 ?_
  refine js_aload_n 0 rfl dX6_judgePlays_116 rfl ?_
  refine js_getr 3 jw_f_RX6_33 (jl_0 hB) rfl (Nat.le_of_ble_eq_true rfl) rfl dX6_judgePlays_117 ?_
  refine js_getNr 1 jw_n_RX6_249 (jl_35 hB) rfl (Nat.le_of_ble_eq_true rfl) rfl dX6_judgePlays_120 ?_
  refine js_iload_n 3 rfl dX6_judgePlays_123 rfl ?_
  refine js_iald e rfl (jl_36 hB) (by omega) (by decide) ((hlg.2.2 e (by omega)).1) dX6_judgePlays_124 ?_
  refine js_aload_n 0 rfl dX6_judgePlays_125 rfl ?_
  refine js_getr 0 jw_f_RX6_12 (jl_0 hB) rfl (Nat.le_of_ble_eq_true rfl) rfl dX6_judgePlays_126 ?_
  refine js_getNr 1 jw_n_RX6_214 (jl_1 hB) rfl (Nat.le_of_ble_eq_true rfl) rfl dX6_judgePlays_129 ?_
  refine js_aload_n 0 rfl dX6_judgePlays_132 rfl ?_
  refine js_getr 3 jw_f_RX6_33 (jl_0 hB) rfl (Nat.le_of_ble_eq_true rfl) rfl dX6_judgePlays_133 ?_
  refine js_getNr 2 jw_n_RX6_252 (jl_35 hB) rfl (Nat.le_of_ble_eq_true rfl) rfl dX6_judgePlays_136 ?_
  refine js_iload_n 3 rfl dX6_judgePlays_139 rfl ?_
  refine js_iald e rfl (jl_37 hB) (by omega) (by decide) ((hlg.2.2 e (by omega)).2.1) dX6_judgePlays_140 ?_
  refine js_iald ((tr e)) rfl (jl_2 hB) (by have := htk.1; omega) (by decide) ((htk.2.2 _ htr).1) dX6_judgePlays_141 ?_
  refine js_iload dX6_judgePlays_142 rfl ?_
  refine js_callVN (av := [.int (nI (li e)), .int (nI (rc ((tr e)))), .int (nI o)]) (st := []) (b := 42) hct (Or.inl rfl) jw_c_X3_add jw_i_RX3 jw_h_RX6_382 jw_s_X3_add jw_e_X3_add (jl_42 hB) rfl jw_y_X3_add rfl ⟨(Nat.le_of_ble_eq_true rfl), (Nat.le_of_ble_eq_true rfl), (Nat.le_refl _), (Nat.le_refl _), (Nat.le_of_ble_eq_true rfl)⟩ dX6_judgePlays_144 ?_
  refine js_st (st' := []) rfl ?_
  refine js_iinc (v := nI (e + 1)) (L' := [some (.ref 0), some (.int (nI (mi e / 1440))), some (.int (nI (e + 1))), some (.int (nI e)), some (.int (nI (mi e))), some (.int (nI o))]) dX6_judgePlays_147 rfl (jj_inc _) rfl ?_
  refine js_goto 11 dX6_judgePlays_150 (by decide) ?_
  refine js_fgL (L' := [some (.ref 0), some (.int (nI (mi e / 1440))), some (.int (nI (e + 1))), none, none, none]) (by simp [jj_le, jj_sm]) ?_
  exact jj_refl
theorem jj_lg_rs {S : jj_Mem} {n e y : Nat} {li tr mi rs : Nat → Nat} {se : Nat → Int32} (h : jj_lg S n li tr mi rs se) : jj_lg (jj_w S 40 e (nI y)) n li tr mi (jj_up rs e y) se :=
  ⟨h.1, (jj_w_neP (by omega)).trans h.2.1, fun k hk => by
    obtain ⟨h1, h2, h3, h4, h5, h6⟩ := h.2.2 k hk
    refine ⟨(jj_w_neP (by omega)).trans h1, (jj_w_neP (by omega)).trans h2, (jj_w_neP (by omega)).trans h3, (jj_w_neP (by omega)).trans h4, ?_, (jj_w_neP (by omega)).trans h6⟩
    unfold jj_w jj_up
    by_cases c : k = e
    · rw [if_pos ⟨rfl, c⟩, if_pos c]
    · rw [if_neg (fun w => c w.2), if_neg c]; exact h5⟩
theorem jj_um_sm {f : Nat → Nat → Nat} {l u : Nat} (hl : l < 8) (hu : u < 10) : jj_sm (fun a => jj_sm (jj_um f l u (f l u + 1) a) 10) 8 = jj_sm (fun a => jj_sm (f a) 10) 8 + 1 := by
  have h1 : (fun a => jj_sm (jj_um f l u (f l u + 1) a) 10) = jj_up (fun a => jj_sm (f a) 10) l (jj_sm (f l) 10 + 1) := by
    funext a
    unfold jj_up
    by_cases c : a = l
    · rw [if_pos c, c]
      have h2 := jj_sm_up (f := f l) (i := u) (x := f l u + 1) (n := 10) hu
      have h3 : jj_um f l u (f l u + 1) l = jj_up (f l) u (f l u + 1) := by
        funext b
        unfold jj_um jj_up
        by_cases d : b = u
        · rw [if_pos ⟨rfl, d⟩, if_pos d]
        · rw [if_neg (fun w => d w.2), if_neg d]
      rw [h3]
      omega
    · rw [if_neg c]
      refine jj_sm_congr (fun b hb => ?_)
      unfold jj_um
      rw [if_neg (fun w => c w.1)]
  rw [h1]
  have h4 := jj_sm_up (f := fun a => jj_sm (f a) 10) (i := l) (x := jj_sm (f l) 10 + 1) (n := 8) hl
  omega
set_option maxRecDepth 100000 in
set_option maxHeartbeats 4000000 in
theorem lp_X6_judgePlays {lay : jj_Lay} (hB : jj_pp lay) {n t cnt nt wn : Nat} {li tr mi rs0 rc ld pl fl : Nat → Nat} {se w0 w1 w2 w3 : Nat → Int32} (ht : t < 100000) (hn9 : n ≤ 130) (hli : ∀ k, k < n → li k < cnt) (htr : ∀ k, k < n → tr k < nt) (hmt : ∀ k, k < n → mi k ≤ t) (hmo : ∀ a b, a ≤ b → b < n → mi a ≤ mi b) (hold : ∀ l u d, d / 10 < t / 14400 → jj_ct (jj_pd li tr mi rs0 rc l u d) n ≤ 5) : ∀ (k e : Nat), e + k = n → ∀ (S : jj_Mem) (rs : Nat → Nat) (ev im od : Nat → Nat → Nat) (dv : Int32), jj_lg S n li tr mi rs se → jj_tk S nt rc → jj_wi S wn w0 w1 w2 w3 → jj_au S cnt ld pl → (∀ j, j < cnt → S 23 j = some (nI (fl j)) ∧ fl j ≤ 1) → S 0 9 = some (nI t) → jj_rw8 S 44 ev → jj_rw8 S 53 im → jj_rw8 S 62 od → (∀ l, l < 8 → ∀ u, u < 10 → ev l u ≤ e) → jj_sm (fun l => jj_sm (im l) 10) 8 ≤ e → (e = 0 ∧ dv = -1 ∨ 0 < e ∧ dv = nI (mi (e - 1) / 1440) ∧ ∀ l, l < 8 → ∀ u, u < 10 → od l u = jj_ct (jj_pd li tr mi rs rc l u (mi (e - 1) / 1440)) e) → (∀ l u d, jj_ct (jj_pd li tr mi rs rc l u d) e ≤ 5) → (∀ j, j < n → mi j / 14400 < t / 14400 → rs j = rs0 j ∧ rs j ≤ 5) → (∀ j, j < e → rs j ≤ 5) →
    ∃ (rs' : Nat → Nat) (ev' im' od' : Nat → Nat → Nat) (S' : jj_Mem), jj_RR cX6_judgePlays 6 RX6 yX6_judgePlays.name none 3 68 lay.length (jj_sl lay) (11, [some (.ref 0), some (.int dv), some (.int (nI e)), none, none, none], [], lay, S) none .return_ lay S' ∧ jj_lg S' n li tr mi rs' se ∧ jj_rw8 S' 44 ev' ∧ jj_rw8 S' 53 im' ∧ jj_rw8 S' 62 od' ∧ (∀ l, l < 8 → ∀ u, u < 10 → ev' l u ≤ n) ∧ jj_sm (fun l => jj_sm (im' l) 10) 8 ≤ n ∧ (∀ l u d, jj_ct (jj_pd li tr mi rs' rc l u d) n ≤ 5) ∧ (∀ j, j < n → mi j / 14400 < t / 14400 → rs' j = rs0 j) ∧ (∀ j, j < n → rs' j ≤ 5) ∧ (∀ p, p ≠ 40 → p < 44 ∨ (51 < p ∧ p < 53) ∨ (60 < p ∧ p < 62) ∨ 69 < p → ∀ j, S' p j = S p j) ∧ (∀ j, n ≤ j → S' 40 j = S 40 j) := by
  intro k
  induction k with
  | zero =>
    intro e he S rs ev im od dv hlg htk hwi hau hfl hnow hev him hod i1 i2 i3 i4 i5 i6
    have he : e = n := by omega
    subst he
    refine ⟨rs, ev, im, od, S, ⟨153, [some (.ref 0), some (.int dv), some (.int (nI e)), none, none, none], dX6_judgePlays_153, ?_⟩, hlg, hev, him, hod, i1, i2, i4, fun j hj hc => (i5 j hj hc).1, i6, fun _ _ _ _ => rfl, fun _ _ => rfl⟩
    refine js_iload_n 2 rfl dX6_judgePlays_11 rfl ?_
    refine js_aload_n 0 rfl dX6_judgePlays_12 rfl ?_
    refine js_getr 3 jw_f_RX6_33 (jl_0 hB) rfl (Nat.le_of_ble_eq_true rfl) rfl dX6_judgePlays_13 ?_
    refine js_getNi 0 jw_n_RX6_194 (jl_35 hB) rfl (Nat.le_of_ble_eq_true rfl) rfl (hlg.2.1) dX6_judgePlays_16 ?_
    refine jn_icmp_ge 153 (by omega) (by omega) dX6_judgePlays_19 (by decide) (fun _ => ?_) (fun h9 => absurd h9 (by omega))
    exact jj_refl
  | succ k ih =>
    intro e he S rs ev im od dv hlg htk hwi hau hfl hnow hev him hod i1 i2 i3 i4 i5 i6
    have hen : e < n := by omega
    have hme := hmt e hen
    have hc8 := hau.1
    have hle := hli e hen
    have hte := htr e hen
    have hrc := (htk.2.2 _ hte).2.1
    obtain ⟨o, ho⟩ : ∃ o : Nat, o = if mi e / 14400 < t / 14400 then 0 else 1 := ⟨_, rfl⟩
    have hA := jA (lay := lay) (S := S) (dv := dv) hB hlg hnow (by omega) hen (by omega) ho
    obtain ⟨S1, hS1⟩ : ∃ S1, S1 = if dv = nI (mi e / 1440) then S else jj_cl S 61 8 := ⟨_, rfl⟩
    rw [← hS1] at hA
    have f1 : ∀ p, p < 62 ∨ 69 < p → ∀ j, S1 p j = S p j := fun p hp j => by
      rw [hS1]
      by_cases c : dv = nI (mi e / 1440)
      · rw [if_pos c]
      · rw [if_neg c]; exact jj_cl_out (by omega)
    have hod1 : ∃ od1, jj_rw8 S1 62 od1 ∧ ∀ l, l < 8 → ∀ u, u < 10 → od1 l u = jj_ct (jj_pd li tr mi rs rc l u (mi e / 1440)) e := by
      by_cases c : dv = nI (mi e / 1440)
      · refine ⟨od, by rw [hS1, if_pos c]; exact hod, ?_⟩
        rcases i3 with ⟨_, q⟩ | ⟨q0, q1, q2⟩
        · rw [q] at c
          exact absurd c (by
            intro w
            have h9 := nI_pos (n := mi e / 1440) (by omega)
            rw [← w] at h9
            exact h9 (by decide))
        · rw [q1] at c
          have h9 := (nI_eq (by have := hmt (e - 1) (by omega); omega) (by omega)).mp c
          rw [← h9]
          exact q2
      · refine ⟨fun _ _ => 0, by rw [hS1, if_neg c]; exact jj_cl_rw, fun l _ u _ => (jj_ct_none (fun j hj => ?_)).symm⟩
        rcases i3 with ⟨q, _⟩ | ⟨q0, q1, q2⟩
        · omega
        · have h9 : ¬ mi (e - 1) / 1440 = mi e / 1440 := fun w => c (by rw [q1, w])
          have h10 := hmo (e - 1) e (by omega) hen
          have h11 := hmo j (e - 1) (by omega) (by omega)
          unfold jj_pd
          exact decide_eq_false (fun w => by
            have h12 := w.2.2.2
            have h13 : mi j / 1440 ≤ mi (e - 1) / 1440 := Nat.div_le_div_right h11
            have h14 : mi (e - 1) / 1440 ≤ mi e / 1440 := Nat.div_le_div_right h10
            omega)
    obtain ⟨od1, hod1, hod2⟩ := hod1
    have hlg1 := jj_lg_mono hlg (fun p h1 h2 j => f1 p (by omega) j)
    have htk1 := jj_tk_mono htk (fun p h1 h2 j => f1 p (by omega) j)
    have hwi1 := jj_wi_mono hwi (fun p h1 h2 j => f1 p (by omega) j)
    have hau1 : jj_au S1 cnt ld pl := ⟨hau.1, (f1 20 (by omega) 0).trans hau.2.1, fun j hj => ⟨(f1 21 (by omega) j).trans (hau.2.2.1 j hj).1, (hau.2.2.1 j hj).2⟩, fun j hj => ⟨(f1 22 (by omega) j).trans (hau.2.2.2 j hj).1, (hau.2.2.2 j hj).2⟩⟩
    have hfl1 : ∀ j, j < cnt → S1 23 j = some (nI (fl j)) ∧ fl j ≤ 1 := fun j hj => ⟨(f1 23 (by omega) j).trans (hfl j hj).1, (hfl j hj).2⟩
    have hnow1 := (f1 0 (by omega) 9).trans hnow
    have hev1 := jj_rw8_mono hev (fun p h1 h2 j => f1 p (by omega) j)
    have him1 := jj_rw8_mono him (fun p h1 h2 j => f1 p (by omega) j)
    -- the reason
    have hBs : ∃ (ρ : Nat) (S2 : jj_Mem), jj_R cX6_judgePlays 6 RX6 yX6_judgePlays.name none 3 68 lay.length (jj_sl lay) (81, [some (.ref 0), some (.int (nI (mi e / 1440))), some (.int (nI e)), some (.int (nI e)), some (.int (nI (mi e))), some (.int (nI o))], [], lay, S1) (100, [some (.ref 0), some (.int (nI (mi e / 1440))), some (.int (nI e)), some (.int (nI e)), some (.int (nI (mi e))), some (.int (nI o))], [], lay, S2) ∧ jj_lg S2 n li tr mi (jj_up rs e ρ) se ∧ (∀ p, p ≠ 40 → ∀ j, S2 p j = S1 p j) ∧ ρ ≤ 5 ∧ (mi e / 14400 < t / 14400 → ρ = rs e) ∧ (¬ mi e / 14400 < t / 14400 → ρ = 0 → od1 (li e) (rc (tr e)) < 5) ∧ (∀ j, n ≤ j → S2 40 j = S1 40 j) := by
      by_cases hc : mi e / 14400 < t / 14400
      · rw [if_pos hc] at ho
        rw [ho]
        have h9 : jj_up rs e (rs e) = rs := funext fun j => by
          unfold jj_up
          by_cases c : j = e
          · rw [if_pos c, c]
          · rw [if_neg c]
        exact ⟨rs e, S1, jB_0, by rw [h9]; exact hlg1, fun _ _ _ => rfl, (i5 e hen hc).2, fun _ => rfl, fun h => absurd hc h, fun _ _ => rfl⟩
      · rw [if_neg hc] at ho
        rw [ho]
        obtain ⟨ρ, q1, q2, hct⟩ := ct_X6_judged (lay := lay) (S := S1) hB hlg1 htk1 hwi1 hau1 hfl1 hod1 hen hle hte (by rw [hod2 _ (by omega) _ hrc]; have := i4 (li e) (rc (tr e)) (mi e / 1440); omega)
        exact ⟨ρ, _, jB_1 hB hn9 hen hct, jj_lg_rs hlg1, fun p hp j => jj_w_neP hp, q1, fun h => absurd h hc, fun _ => q2, fun j hj => jj_w_neI (by omega)⟩
    obtain ⟨ρ, S2, hR2, hlg2, f2, hρ5, hρc, hρo, f40⟩ := hBs
    have hups : ∀ l u d, jj_ct (jj_pd li tr mi (jj_up rs e ρ) rc l u d) e = jj_ct (jj_pd li tr mi rs rc l u d) e := fun l u d => jj_ct_congr (fun j hj => by
      unfold jj_pd
      rw [jj_up_ne rs (by omega)])
    have hrse : jj_up rs e ρ e = ρ := jj_up_at rs e ρ
    have i5' : ∀ j, j < n → mi j / 14400 < t / 14400 → jj_up rs e ρ j = rs0 j ∧ jj_up rs e ρ j ≤ 5 := fun j hj hc => by
      by_cases c : j = e
      · rw [c, hrse]
        rw [c] at hc
        rw [hρc hc]
        exact i5 e hen hc
      · rw [jj_up_ne rs c]; exact i5 j hj hc
    have i6' : ∀ j, j < e + 1 → jj_up rs e ρ j ≤ 5 := fun j hj => by
      by_cases c : j = e
      · rw [c, hrse]; exact hρ5
      · rw [jj_up_ne rs c]; exact i6 j (by omega)
    have hday : mi e / 1440 / 10 = mi e / 14400 := by omega
    have i4' : ∀ l u d, jj_ct (jj_pd li tr mi (jj_up rs e ρ) rc l u d) (e + 1) ≤ 5 := fun l u d => by
      show jj_ct _ e + jj_b (jj_pd li tr mi (jj_up rs e ρ) rc l u d e) ≤ 5
      rw [hups]
      have h9 := i4 l u d
      by_cases hp : jj_pd li tr mi (jj_up rs e ρ) rc l u d e = true
      · have hp2 := hp
        unfold jj_pd at hp2
        simp only [decide_eq_true_eq] at hp2
        obtain ⟨p1, p2, p3, p4⟩ := hp2
        rw [hrse] at p1
        by_cases hc : mi e / 14400 < t / 14400
        · have h10 : jj_ct (jj_pd li tr mi (jj_up rs e ρ) rc l u d) (e + 1) ≤ jj_ct (jj_pd li tr mi rs0 rc l u d) n := by
            refine Nat.le_trans (Nat.le_of_eq (jj_ct_congr (fun j hj => ?_))) (jj_ct_mono (show e + 1 ≤ n by omega))
            by_cases hj2 : mi j / 1440 = d
            · have h12 := i5' j (by omega) (by omega)
              unfold jj_pd
              rw [h12.1]
            · unfold jj_pd
              rw [decide_eq_false (fun w => hj2 w.2.2.2), decide_eq_false (fun w => hj2 w.2.2.2)]
          have h11 := hold l u d (by omega)
          have h12 : jj_ct (jj_pd li tr mi (jj_up rs e ρ) rc l u d) (e + 1) = jj_ct (jj_pd li tr mi (jj_up rs e ρ) rc l u d) e + jj_b (jj_pd li tr mi (jj_up rs e ρ) rc l u d e) := rfl
          rw [hups] at h12
          omega
        · have h10 := hρo hc p1
          rw [hod2 _ (by omega) _ hrc] at h10
          rw [p2, p3, p4] at h10
          rw [hp]
          show _ + 1 ≤ 5
          omega
      · rw [Bool.not_eq_true] at hp
        rw [hp]
        exact h9
    have hnow2 := (f2 0 (by omega) 9).trans hnow1
    have htk2 := jj_tk_mono htk1 (fun p h1 h2 j => f2 p (by omega) j)
    have hwi2 := jj_wi_mono hwi1 (fun p h1 h2 j => f2 p (by omega) j)
    have hau2 : jj_au S2 cnt ld pl := ⟨hau.1, (f2 20 (by omega) 0).trans hau1.2.1, fun j hj => ⟨(f2 21 (by omega) j).trans (hau1.2.2.1 j hj).1, (hau.2.2.1 j hj).2⟩, fun j hj => ⟨(f2 22 (by omega) j).trans (hau1.2.2.2 j hj).1, (hau.2.2.2 j hj).2⟩⟩
    have hfl2 : ∀ j, j < cnt → S2 23 j = some (nI (fl j)) ∧ fl j ≤ 1 := fun j hj => ⟨(f2 23 (by omega) j).trans (hfl1 j hj).1, (hfl j hj).2⟩
    have hev2 := jj_rw8_mono hev1 (fun p h1 h2 j => f2 p (by omega) j)
    have him2 := jj_rw8_mono him1 (fun p h1 h2 j => f2 p (by omega) j)
    have hod3 := jj_rw8_mono hod1 (fun p h1 h2 j => f2 p (by omega) j)
    have f12 : ∀ p, p ≠ 40 → p < 44 ∨ (51 < p ∧ p < 53) ∨ (60 < p ∧ p < 62) ∨ 69 < p → ∀ j, S2 p j = S p j := fun p h40 hp j => (f2 p h40 j).trans (f1 p (by omega) j)
    have hce : ∀ l u, jj_ct (jj_pd li tr mi (jj_up rs e ρ) rc l u (mi e / 1440)) (e + 1) = jj_ct (jj_pd li tr mi rs rc l u (mi e / 1440)) e + jj_b (jj_pd li tr mi (jj_up rs e ρ) rc l u (mi e / 1440) e) := fun l u => by
      rw [← hups]; rfl
    by_cases hz : ρ = 0
    · have hor : o ≤ 1 := by rw [ho]; split <;> omega
      obtain ⟨S3, hct, g1, g2, g3, g4⟩ := ct_X3_add (lay := lay) (S := S2) hB (l := li e) (u := rc (tr e)) (o := o) (by omega) hrc hor hev2 him2 hod3
      have hR3 := jC_y (lay := lay) (S := S2) hB hlg2 hen (by rw [hrse]; omega) htk2 hte (by rw [hrse]; exact hz) hct
      have f13 : ∀ p, p ≠ 40 → p < 44 ∨ (51 < p ∧ p < 53) ∨ (60 < p ∧ p < 62) ∨ 69 < p → ∀ j, S3 p j = S p j := fun p h40 hp j => (g4 p hp j).trans (f12 p h40 hp j)
      have him3 : jj_sm (fun l => jj_sm ((if o = 1 then jj_um im (li e) (rc (tr e)) (im (li e) (rc (tr e)) + 1) else im) l) 10) 8 ≤ e + 1 := by
        by_cases c : o = 1
        · rw [if_pos c, jj_um_sm (by omega) hrc]; omega
        · rw [if_neg c]; omega
      have hau3 : jj_au S3 cnt ld pl := ⟨hau.1, (f13 20 (by omega) (by omega) 0).trans hau.2.1, fun j hj => ⟨(f13 21 (by omega) (by omega) j).trans (hau.2.2.1 j hj).1, (hau.2.2.1 j hj).2⟩, fun j hj => ⟨(f13 22 (by omega) (by omega) j).trans (hau.2.2.2 j hj).1, (hau.2.2.2 j hj).2⟩⟩
      obtain ⟨rs', ev', im', od', S', hR, p1, p2, p3, p4, p5, p6, p7, p8, p9, p10, p11⟩ := ih (e + 1) (by omega) S3 (jj_up rs e ρ) _ _ _ (nI (mi e / 1440)) (jj_lg_mono hlg2 (fun p h1 h2 j => g4 p (by omega) j)) (jj_tk_mono htk2 (fun p h1 h2 j => g4 p (by omega) j)) (jj_wi_mono hwi2 (fun p h1 h2 j => g4 p (by omega) j)) hau3 (fun j hj => ⟨(f13 23 (by omega) (by omega) j).trans (hfl j hj).1, (hfl j hj).2⟩) ((f13 0 (by omega) (by omega) 9).trans hnow) g1 g2 g3
        (fun l hl u hu => by
          unfold jj_um
          have h9 := i1 l hl u hu
          by_cases c : l = li e ∧ u = rc (tr e)
          · rw [if_pos c, ← c.1, ← c.2]; omega
          · rw [if_neg c]; omega) him3
        (Or.inr ⟨by omega, rfl, fun l hl u hu => by
          show _ = jj_ct (jj_pd li tr mi (jj_up rs e ρ) rc l u (mi e / 1440)) (e + 1)
          rw [hce]
          unfold jj_um
          by_cases c : l = li e ∧ u = rc (tr e)
          · rw [if_pos c, hod2 _ (by omega) _ hrc, ← c.1, ← c.2]
            have h9 : jj_pd li tr mi (jj_up rs e ρ) rc l u (mi e / 1440) e = true := by
              unfold jj_pd
              exact decide_eq_true ⟨by rw [hrse]; exact hz, c.1.symm, c.2.symm, rfl⟩
            rw [h9]; rfl
          · rw [if_neg c, hod2 _ hl _ hu]
            have h9 : jj_pd li tr mi (jj_up rs e ρ) rc l u (mi e / 1440) e = false := by
              unfold jj_pd
              exact decide_eq_false (fun w => c ⟨w.2.1.symm, w.2.2.1.symm⟩)
            rw [h9]; rfl⟩) i4' i5' i6'
      exact ⟨rs', ev', im', od', S', jj_RRs (jj_tr hA (jj_tr hR2 hR3)) hR, p1, p2, p3, p4, p5, p6, p7, p8, p9, fun p h40 hp j => (p10 p h40 hp j).trans (f13 p h40 hp j), fun j hj => (p11 j hj).trans ((g4 40 (by omega) j).trans ((f40 j hj).trans (f1 40 (by omega) j)))⟩
    · have hR3 := jC_n (lay := lay) (S := S2) (o := o) hB hlg2 hen (by rw [hrse]; omega) (by rw [hrse]; exact hz)
      obtain ⟨rs', ev', im', od', S', hR, p1, p2, p3, p4, p5, p6, p7, p8, p9, p10, p11⟩ := ih (e + 1) (by omega) S2 (jj_up rs e ρ) ev im od1 (nI (mi e / 1440)) hlg2 htk2 hwi2 hau2 hfl2 hnow2 hev2 him2 hod3
        (fun l hl u hu => by have := i1 l hl u hu; omega) (by omega)
        (Or.inr ⟨by omega, rfl, fun l hl u hu => by
          show _ = jj_ct (jj_pd li tr mi (jj_up rs e ρ) rc l u (mi e / 1440)) (e + 1)
          rw [hce, hod2 _ hl _ hu]
          have h9 : jj_pd li tr mi (jj_up rs e ρ) rc l u (mi e / 1440) e = false := by
            unfold jj_pd
            exact decide_eq_false (fun w => hz (by rw [← hrse]; exact w.1))
          rw [h9]; rfl⟩) i4' i5' i6'
      exact ⟨rs', ev', im', od', S', jj_RRs (jj_tr hA (jj_tr hR2 hR3)) hR, p1, p2, p3, p4, p5, p6, p7, p8, p9, fun p h40 hp j => (p10 p h40 hp j).trans (f12 p h40 hp j), fun j hj => (p11 j hj).trans ((f40 j hj).trans (f1 40 (by omega) j))⟩
set_option maxRecDepth 100000 in
set_option maxHeartbeats 4000000 in
theorem ct_X6_judgePlays {lay : jj_Lay} {S : jj_Mem} (hB : jj_pp lay) {n t cnt nt wn : Nat} {li tr mi rs0 rc ld pl fl : Nat → Nat} {se w0 w1 w2 w3 : Nat → Int32} (ht : t < 100000) (hn9 : n ≤ 130) (hli : ∀ k, k < n → li k < cnt) (htr : ∀ k, k < n → tr k < nt) (hmt : ∀ k, k < n → mi k ≤ t) (hmo : ∀ a b, a ≤ b → b < n → mi a ≤ mi b) (hold : ∀ l u d, d / 10 < t / 14400 → jj_ct (jj_pd li tr mi rs0 rc l u d) n ≤ 5) {od : Nat → Nat → Nat} (hlg : jj_lg S n li tr mi rs0 se) (htk : jj_tk S nt rc) (hwi : jj_wi S wn w0 w1 w2 w3) (hau : jj_au S cnt ld pl) (hfl : ∀ j, j < cnt → S 23 j = some (nI (fl j)) ∧ fl j ≤ 1) (hnow : S 0 9 = some (nI t)) (hod : jj_rw8 S 62 od) (h5 : ∀ j, j < n → mi j / 14400 < t / 14400 → rs0 j ≤ 5) :
    ∃ (rs' : Nat → Nat) (ev' im' od' : Nat → Nat → Nat) (S' : jj_Mem), jj_CT yX6_judgePlays (.code yX6_judgePlays cX6_judgePlays 6 none) none 3 68 [.ref 0] lay S none lay S' ∧ jj_lg S' n li tr mi rs' se ∧ jj_rw8 S' 44 ev' ∧ jj_rw8 S' 53 im' ∧ jj_rw8 S' 62 od' ∧ (∀ l, l < 8 → ∀ u, u < 10 → ev' l u ≤ n) ∧ jj_sm (fun l => jj_sm (im' l) 10) 8 ≤ n ∧ (∀ l u d, jj_ct (jj_pd li tr mi rs' rc l u d) n ≤ 5) ∧ (∀ j, j < n → mi j / 14400 < t / 14400 → rs' j = rs0 j) ∧ (∀ j, j < n → rs' j ≤ 5) ∧ (∀ p, p ≠ 40 → p < 44 ∨ (51 < p ∧ p < 53) ∨ (60 < p ∧ p < 62) ∨ 69 < p → ∀ j, S' p j = S p j) ∧ (∀ j, n ≤ j → S' 40 j = S 40 j) := by
  have f0 : ∀ p, p < 44 ∨ (51 < p ∧ p < 53) ∨ 60 < p → ∀ j, jj_cl (jj_cl S 43 8) 52 8 p j = S p j := fun p hp j => (jj_cl_out (by omega)).trans (jj_cl_out (by omega))
  have hev : jj_rw8 (jj_cl (jj_cl S 43 8) 52 8) 44 (fun _ _ => 0) := jj_rw8_mono (p := 44) jj_cl_rw (fun p h1 h2 j => jj_cl_out (by omega))
  have him : jj_rw8 (jj_cl (jj_cl S 43 8) 52 8) 53 (fun _ _ => 0) := jj_cl_rw
  obtain ⟨rs', ev', im', od', S', hR, p1, p2, p3, p4, p5, p6, p7, p8, p9, p10, p11⟩ := lp_X6_judgePlays (lay := lay) hB ht hn9 hli htr hmt hmo hold n 0 (by omega) (jj_cl (jj_cl S 43 8) 52 8) rs0 _ _ od (-1) (jj_lg_mono hlg (fun p h1 h2 j => f0 p (by omega) j)) (jj_tk_mono htk (fun p h1 h2 j => f0 p (by omega) j)) (jj_wi_mono hwi (fun p h1 h2 j => f0 p (by omega) j)) (show jj_au (jj_cl (jj_cl S 43 8) 52 8) cnt ld pl from ⟨hau.1, (f0 20 (by omega) 0).trans hau.2.1, fun j hj => ⟨(f0 21 (by omega) j).trans (hau.2.2.1 j hj).1, (hau.2.2.1 j hj).2⟩, fun j hj => ⟨(f0 22 (by omega) j).trans (hau.2.2.2 j hj).1, (hau.2.2.2 j hj).2⟩⟩) (fun j hj => ⟨(f0 23 (by omega) j).trans (hfl j hj).1, (hfl j hj).2⟩) ((f0 0 (by omega) 9).trans hnow) hev him (jj_rw8_mono hod (fun p h1 h2 j => f0 p (by omega) j))
    (fun _ _ _ _ => Nat.le_refl _) (by rw [jj_sm_zero, jj_sm_zero]; exact Nat.le_refl _) (Or.inl ⟨rfl, rfl⟩) (fun _ _ _ => Nat.zero_le _) (fun j hj hc => ⟨rfl, h5 j hj hc⟩) (fun j hj => absurd hj (by omega))
  refine ⟨rs', ev', im', od', S', ?_, p1, p2, p3, p4, p5, p6, p7, p8, p9, fun p h40 hp j => (p10 p h40 hp j).trans (f0 p (by omega) j), fun j hj => (p11 j hj).trans (f0 40 (by omega) j)⟩
  refine jj_mkV RX6 (by decide) rfl (L := [some (.ref 0), none, none, none, none, none]) rfl rfl ?_
  refine jj_RRs ?_ hR
  refine js_aload_n 0 rfl dX6_judgePlays_0 rfl ?_
  refine js_getr 4 jw_f_RX6_40 (jl_0 hB) rfl (Nat.le_of_ble_eq_true rfl) rfl dX6_judgePlays_1 ?_
  refine js_callVN (av := []) (st := []) (b := 42) (ct_X3_clear hB) (Or.inl rfl) jw_c_X3_clear jw_i_RX3 jw_h_RX6_367 jw_s_X3_clear jw_e_X3_clear (jl_42 hB) rfl jw_y_X3_clear rfl ⟨(Nat.le_of_ble_eq_true rfl), (Nat.le_of_ble_eq_true rfl), (Nat.le_refl _), (Nat.le_refl _), (Nat.le_of_ble_eq_true rfl)⟩ dX6_judgePlays_4 ?_
  refine js_st (st' := []) rfl ?_
  refine js_iconst (v := -1) dX6_judgePlays_7 (by decide) ?_
  refine js_istore_n (L' := [some (.ref 0), some (.int ((-1))), none, none, none, none]) 1 rfl dX6_judgePlays_8 rfl (Nat.le_of_ble_eq_true rfl) ?_
  refine js_iconst (v := nI 0) dX6_judgePlays_9 (by decide) ?_
  refine js_istore_n (L' := [some (.ref 0), some (.int ((-1))), some (.int (nI 0)), none, none, none]) 2 rfl dX6_judgePlays_10 rfl (Nat.le_of_ble_eq_true rfl) ?_
  exact jj_refl

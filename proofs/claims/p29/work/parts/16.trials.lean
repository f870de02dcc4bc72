/-! TRIALS, and the closing of the month. -/
set_option maxRecDepth 100000 in
set_option maxHeartbeats 4000000 in
theorem ct_X1_takeOver {lay : jj_Lay} {S : jj_Mem} (hB : jj_pp lay) {b : Nat} {h x : Nat} {ca ge he du pa ad re : Nat → Nat} (hK : jj_bk lay b) (hb81 : 81 ≤ b) (hbs : jj_bs S 70 h x ca ge he du pa ad re) :
    ∃ S', jj_CT yX1_takeOver (.code yX1_takeOver cX1_takeOver 2 none) none 2 61 [.ref b, .ref 70] lay S none lay S' ∧ jj_bs S' b h x ca ge he du pa ad re ∧ (∀ p, p < b ∨ b + 10 < p → ∀ j, S' p j = S p j) := by
  obtain ⟨h0, h1, hca, hge, hhe, hdu, hpa, had, hre⟩ := hbs
  refine ⟨(jj_row (jj_row (jj_row (jj_row (jj_row (jj_row (jj_row (jj_w (jj_w S b 0 (nI h)) b 1 (nI x)) (b + 1) 4 ca) (b + 2) 10 ge) (b + 3) 10 he) (b + 4) 5 du) (b + 5) 5 pa) (b + 6) 5 ad) (b + 7) 5 re), ?_, ⟨(jj_row_neP (by omega)).trans ((jj_row_neP (by omega)).trans ((jj_row_neP (by omega)).trans ((jj_row_neP (by omega)).trans ((jj_row_neP (by omega)).trans ((jj_row_neP (by omega)).trans ((jj_row_neP (by omega)).trans ((jj_w_neI (by omega)).trans (jj_w_at _ _ _ _)))))))), (jj_row_neP (by omega)).trans ((jj_row_neP (by omega)).trans ((jj_row_neP (by omega)).trans ((jj_row_neP (by omega)).trans ((jj_row_neP (by omega)).trans ((jj_row_neP (by omega)).trans ((jj_row_neP (by omega)).trans (jj_w_at _ _ _ _))))))), fun j hj => (jj_row_neP (by omega)).trans ((jj_row_neP (by omega)).trans ((jj_row_neP (by omega)).trans ((jj_row_neP (by omega)).trans ((jj_row_neP (by omega)).trans ((jj_row_neP (by omega)).trans (jj_row_at hj)))))), fun j hj => (jj_row_neP (by omega)).trans ((jj_row_neP (by omega)).trans ((jj_row_neP (by omega)).trans ((jj_row_neP (by omega)).trans ((jj_row_neP (by omega)).trans (jj_row_at hj))))), fun j hj => (jj_row_neP (by omega)).trans ((jj_row_neP (by omega)).trans ((jj_row_neP (by omega)).trans ((jj_row_neP (by omega)).trans (jj_row_at hj)))), fun j hj => (jj_row_neP (by omega)).trans ((jj_row_neP (by omega)).trans ((jj_row_neP (by omega)).trans (jj_row_at hj))), fun j hj => (jj_row_neP (by omega)).trans ((jj_row_neP (by omega)).trans (jj_row_at hj)), fun j hj => (jj_row_neP (by omega)).trans (jj_row_at hj), fun j hj => jj_row_at hj⟩, fun p hp j => (jj_row_neP (by omega)).trans ((jj_row_neP (by omega)).trans ((jj_row_neP (by omega)).trans ((jj_row_neP (by omega)).trans ((jj_row_neP (by omega)).trans ((jj_row_neP (by omega)).trans ((jj_row_neP (by omega)).trans ((jj_w_neP (by omega)).trans (jj_w_neP (by omega)))))))))⟩
  refine jj_mkV RX1 (by decide) rfl (L := [some (.ref b), some (.ref 70)]) rfl rfl ⟨93, [some (.ref b), some (.ref 70)], dX1_takeOver_93, ?_⟩
  refine js_aload_n 0 rfl dX1_takeOver_0 rfl ?_
  refine js_aload_n 1 rfl dX1_takeOver_1 rfl ?_
  refine js_geti 0 jw_f_RX1_9 (jl_70 hB) rfl (Nat.le_of_ble_eq_true rfl) rfl (h0) dX1_takeOver_2 ?_
  refine js_put 0 jw_f_RX1_9 (jk_0 hK) rfl (Nat.le_of_ble_eq_true rfl) rfl rfl (by decide +kernel) dX1_takeOver_5 ?_
  refine js_aload_n 0 rfl dX1_takeOver_8 rfl ?_
  refine js_aload_n 1 rfl dX1_takeOver_9 rfl ?_
  refine js_geti 1 jw_f_RX1_15 (jl_70 hB) rfl (Nat.le_of_ble_eq_true rfl) rfl ((jj_w_neP (by omega)).trans (h1)) dX1_takeOver_10 ?_
  refine js_put 1 jw_f_RX1_15 (jk_0 hK) rfl (Nat.le_of_ble_eq_true rfl) rfl rfl (by decide +kernel) dX1_takeOver_13 ?_
  refine js_aload_n 1 rfl dX1_takeOver_16 rfl ?_
  refine js_getr 2 jw_f_RX1_18 (jl_70 hB) rfl (Nat.le_of_ble_eq_true rfl) rfl dX1_takeOver_17 ?_
  refine js_aload_n 0 rfl dX1_takeOver_20 rfl ?_
  refine js_getr 2 jw_f_RX1_18 (jk_0 hK) rfl (Nat.le_of_ble_eq_true rfl) rfl dX1_takeOver_21 ?_
  refine js_callSN (av := [.ref 71, .ref (b + 1)]) (st := []) (ct_X6_copyAll (h := ca) (jl_71 hB) (jk_1 hK) (by omega) (fun j hj => (jj_w_neP (by omega)).trans ((jj_w_neP (by omega)).trans (hca j hj)))) (Or.inl rfl) jw_c_X6_copyAll jw_i_RX6 jw_h_RX1_49 jw_s_X6_copyAll jw_y_X6_copyAll rfl ⟨(Nat.le_of_ble_eq_true rfl), (Nat.le_of_ble_eq_true rfl), (Nat.le_refl _), (Nat.le_refl _), (Nat.le_of_ble_eq_true rfl)⟩ dX1_takeOver_24 ?_
  refine js_st (st' := []) rfl ?_
  refine js_aload_n 1 rfl dX1_takeOver_27 rfl ?_
  refine js_getr 3 jw_f_RX1_22 (jl_70 hB) rfl (Nat.le_of_ble_eq_true rfl) rfl dX1_takeOver_28 ?_
  refine js_aload_n 0 rfl dX1_takeOver_31 rfl ?_
  refine js_getr 3 jw_f_RX1_22 (jk_0 hK) rfl (Nat.le_of_ble_eq_true rfl) rfl dX1_takeOver_32 ?_
  refine js_callSN (av := [.ref 72, .ref (b + 2)]) (st := []) (ct_X6_copyAll (h := ge) (jl_72 hB) (jk_2 hK) (by omega) (fun j hj => (jj_row_neP (by omega)).trans ((jj_w_neP (by omega)).trans ((jj_w_neP (by omega)).trans (hge j hj))))) (Or.inl rfl) jw_c_X6_copyAll jw_i_RX6 jw_h_RX1_49 jw_s_X6_copyAll jw_y_X6_copyAll rfl ⟨(Nat.le_of_ble_eq_true rfl), (Nat.le_of_ble_eq_true rfl), (Nat.le_refl _), (Nat.le_refl _), (Nat.le_of_ble_eq_true rfl)⟩ dX1_takeOver_35 ?_
  refine js_st (st' := []) rfl ?_
  refine js_aload_n 1 rfl dX1_takeOver_38 rfl ?_
  refine js_getr 4 jw_f_RX1_25 (jl_70 hB) rfl (Nat.le_of_ble_eq_true rfl) rfl dX1_takeOver_39 ?_
  refine js_aload_n 0 rfl dX1_takeOver_42 rfl ?_
  refine js_getr 4 jw_f_RX1_25 (jk_0 hK) rfl (Nat.le_of_ble_eq_true rfl) rfl dX1_takeOver_43 ?_
  refine js_callSN (av := [.ref 73, .ref (b + 3)]) (st := []) (ct_X6_copyAll (h := he) (jl_73 hB) (jk_3 hK) (by omega) (fun j hj => (jj_row_neP (by omega)).trans ((jj_row_neP (by omega)).trans ((jj_w_neP (by omega)).trans ((jj_w_neP (by omega)).trans (hhe j hj)))))) (Or.inl rfl) jw_c_X6_copyAll jw_i_RX6 jw_h_RX1_49 jw_s_X6_copyAll jw_y_X6_copyAll rfl ⟨(Nat.le_of_ble_eq_true rfl), (Nat.le_of_ble_eq_true rfl), (Nat.le_refl _), (Nat.le_refl _), (Nat.le_of_ble_eq_true rfl)⟩ dX1_takeOver_46 ?_
  refine js_st (st' := []) rfl ?_
  refine js_aload_n 1 rfl dX1_takeOver_49 rfl ?_
  refine js_getr 5 jw_f_RX1_28 (jl_70 hB) rfl (Nat.le_of_ble_eq_true rfl) rfl dX1_takeOver_50 ?_
  refine js_aload_n 0 rfl dX1_takeOver_53 rfl ?_
  refine js_getr 5 jw_f_RX1_28 (jk_0 hK) rfl (Nat.le_of_ble_eq_true rfl) rfl dX1_takeOver_54 ?_
  refine js_callSN (av := [.ref 74, .ref (b + 4)]) (st := []) (ct_X6_copyAll (h := du) (jl_74 hB) (jk_4 hK) (by omega) (fun j hj => (jj_row_neP (by omega)).trans ((jj_row_neP (by omega)).trans ((jj_row_neP (by omega)).trans ((jj_w_neP (by omega)).trans ((jj_w_neP (by omega)).trans (hdu j hj))))))) (Or.inl rfl) jw_c_X6_copyAll jw_i_RX6 jw_h_RX1_49 jw_s_X6_copyAll jw_y_X6_copyAll rfl ⟨(Nat.le_of_ble_eq_true rfl), (Nat.le_of_ble_eq_true rfl), (Nat.le_refl _), (Nat.le_refl _), (Nat.le_of_ble_eq_true rfl)⟩ dX1_takeOver_57 ?_
  refine js_st (st' := []) rfl ?_
  refine js_aload_n 1 rfl dX1_takeOver_60 rfl ?_
  refine js_getr 6 jw_f_RX1_31 (jl_70 hB) rfl (Nat.le_of_ble_eq_true rfl) rfl dX1_takeOver_61 ?_
  refine js_aload_n 0 rfl dX1_takeOver_64 rfl ?_
  refine js_getr 6 jw_f_RX1_31 (jk_0 hK) rfl (Nat.le_of_ble_eq_true rfl) rfl dX1_takeOver_65 ?_
  refine js_callSN (av := [.ref 75, .ref (b + 5)]) (st := []) (ct_X6_copyAll (h := pa) (jl_75 hB) (jk_5 hK) (by omega) (fun j hj => (jj_row_neP (by omega)).trans ((jj_row_neP (by omega)).trans ((jj_row_neP (by omega)).trans ((jj_row_neP (by omega)).trans ((jj_w_neP (by omega)).trans ((jj_w_neP (by omega)).trans (hpa j hj)))))))) (Or.inl rfl) jw_c_X6_copyAll jw_i_RX6 jw_h_RX1_49 jw_s_X6_copyAll jw_y_X6_copyAll rfl ⟨(Nat.le_of_ble_eq_true rfl), (Nat.le_of_ble_eq_true rfl), (Nat.le_refl _), (Nat.le_refl _), (Nat.le_of_ble_eq_true rfl)⟩ dX1_takeOver_68 ?_
  refine js_st (st' := []) rfl ?_
  refine js_aload_n 1 rfl dX1_takeOver_71 rfl ?_
  refine js_getr 7 jw_f_RX1_34 (jl_70 hB) rfl (Nat.le_of_ble_eq_true rfl) rfl dX1_takeOver_72 ?_
  refine js_aload_n 0 rfl dX1_takeOver_75 rfl ?_
  refine js_getr 7 jw_f_RX1_34 (jk_0 hK) rfl (Nat.le_of_ble_eq_true rfl) rfl dX1_takeOver_76 ?_
  refine js_callSN (av := [.ref 76, .ref (b + 6)]) (st := []) (ct_X6_copyAll (h := ad) (jl_76 hB) (jk_6 hK) (by omega) (fun j hj => (jj_row_neP (by omega)).trans ((jj_row_neP (by omega)).trans ((jj_row_neP (by omega)).trans ((jj_row_neP (by omega)).trans ((jj_row_neP (by omega)).trans ((jj_w_neP (by omega)).trans ((jj_w_neP (by omega)).trans (had j hj))))))))) (Or.inl rfl) jw_c_X6_copyAll jw_i_RX6 jw_h_RX1_49 jw_s_X6_copyAll jw_y_X6_copyAll rfl ⟨(Nat.le_of_ble_eq_true rfl), (Nat.le_of_ble_eq_true rfl), (Nat.le_refl _), (Nat.le_refl _), (Nat.le_of_ble_eq_true rfl)⟩ dX1_takeOver_79 ?_
  refine js_st (st' := []) rfl ?_
  refine js_aload_n 1 rfl dX1_takeOver_82 rfl ?_
  refine js_getr 8 jw_f_RX1_37 (jl_70 hB) rfl (Nat.le_of_ble_eq_true rfl) rfl dX1_takeOver_83 ?_
  refine js_aload_n 0 rfl dX1_takeOver_86 rfl ?_
  refine js_getr 8 jw_f_RX1_37 (jk_0 hK) rfl (Nat.le_of_ble_eq_true rfl) rfl dX1_takeOver_87 ?_
  refine js_callSN (av := [.ref 77, .ref (b + 7)]) (st := []) (ct_X6_copyAll (h := re) (jl_77 hB) (jk_7 hK) (by omega) (fun j hj => (jj_row_neP (by omega)).trans ((jj_row_neP (by omega)).trans ((jj_row_neP (by omega)).trans ((jj_row_neP (by omega)).trans ((jj_row_neP (by omega)).trans ((jj_row_neP (by omega)).trans ((jj_w_neP (by omega)).trans ((jj_w_neP (by omega)).trans (hre j hj)))))))))) (Or.inl rfl) jw_c_X6_copyAll jw_i_RX6 jw_h_RX1_49 jw_s_X6_copyAll jw_y_X6_copyAll rfl ⟨(Nat.le_of_ble_eq_true rfl), (Nat.le_of_ble_eq_true rfl), (Nat.le_refl _), (Nat.le_refl _), (Nat.le_of_ble_eq_true rfl)⟩ dX1_takeOver_90 ?_
  refine js_st (st' := []) rfl ?_
  exact jj_refl
def jj_tb (rule : Nat) : Nat := if rule = 0 then 81 else 92
theorem jj_tb_bk {lay : jj_Lay} (h : jj_pp lay) (rule : Nat) : jj_bk lay (jj_tb rule) := by
  unfold jj_tb
  by_cases c : rule = 0
  · rw [if_pos c]; exact jj_bk_81 h
  · rw [if_neg c]; exact jj_bk_92 h
theorem jj_tb_or (rule : Nat) : jj_tb rule = 81 ∨ jj_tb rule = 92 := by
  unfold jj_tb
  by_cases c : rule = 0
  · rw [if_pos c]; exact Or.inl rfl
  · rw [if_neg c]; exact Or.inr rfl
theorem jj_pp_len {lay : jj_Lay} (h : jj_pp lay) : 103 < lay.length := (List.getElem?_eq_some_iff.mp (jl_103 h)).1
set_option maxRecDepth 100000 in
set_option maxHeartbeats 4000000 in
theorem ct_X6_trialBy {lay : jj_Lay} {S : jj_Mem} {rule : Nat} (hB : jj_pp lay) (hr : rule < 2) : jj_CT yX6_trialBy (.code yX6_trialBy cX6_trialBy 2 (some (.object "PlayPool$Books"))) none 0 0 [.ref 0, .int (nI rule)] lay S (some (.ref (jj_tb rule))) lay S := by
  by_cases hc : rule = 0
  · rw [show jj_tb rule = 81 from if_pos hc]
    refine jj_mk (pc' := 15) (L' := [some (.ref 0), some (.int (nI rule))]) RX6 (by decide) rfl (L := [some (.ref 0), some (.int (nI rule))]) rfl rfl ⟨⟨.object "PlayPool$Books", rfl, Or.inl ⟨_, rfl⟩⟩, rfl⟩ dX6_trialBy_15 (Nat.le_refl _) (Nat.le_refl _) id (fun _ _ w h => by cases h; show _ < lay.length; have := jj_pp_len hB; omega) ?_
    refine js_iload_n 1 rfl dX6_trialBy_0 rfl ?_
    refine jn_if_ne 11 (by omega) dX6_trialBy_1 (by decide) (fun h9 => absurd h9 (by omega)) (fun _ => ?_)
    refine js_aload_n 0 rfl dX6_trialBy_4 rfl ?_
    refine js_getr 6 jw_f_RX6_51 (jl_0 hB) rfl (Nat.le_of_ble_eq_true rfl) rfl dX6_trialBy_5 ?_
    refine js_goto 15 dX6_trialBy_8 (by decide) ?_
    exact jj_refl
  · rw [show jj_tb rule = 92 from if_neg hc]
    refine jj_mk (pc' := 15) (L' := [some (.ref 0), some (.int (nI rule))]) RX6 (by decide) rfl (L := [some (.ref 0), some (.int (nI rule))]) rfl rfl ⟨⟨.object "PlayPool$Books", rfl, Or.inl ⟨_, rfl⟩⟩, rfl⟩ dX6_trialBy_15 (Nat.le_refl _) (Nat.le_refl _) id (fun _ _ w h => by cases h; show _ < lay.length; have := jj_pp_len hB; omega) ?_
    refine js_iload_n 1 rfl dX6_trialBy_0 rfl ?_
    refine jn_if_ne 11 (by omega) dX6_trialBy_1 (by decide) (fun _ => ?_) (fun h9 => absurd h9 (by omega))
    refine js_aload_n 0 rfl dX6_trialBy_11 rfl ?_
    refine js_getr 7 jw_f_RX6_54 (jl_0 hB) rfl (Nat.le_of_ble_eq_true rfl) rfl dX6_trialBy_12 ?_
    exact jj_refl
set_option maxRecDepth 100000 in
set_option maxHeartbeats 4000000 in
theorem ct_X6_tryClosing {lay : jj_Lay} {S : jj_Mem} {rule : Nat} (hB : jj_pp lay) (hr : rule < 2) {cnt : Nat} {ld pl : Nat → Nat} {im cl : Nat → Nat → Nat} {h x : Nat} {ca ge he du pa ad re : Nat → Nat} (hau : jj_au S cnt ld pl) (him : jj_im S cnt im) (hcm : jj_cm S cl) (him2 : ∀ l, l < cnt → jj_sm (im l) 10 ≤ 1000) (him3 : jj_sm (fun l => jj_sm (im l) 10) cnt ≤ 1000) (hbs : jj_bs S 70 h x ca ge he du pa ad re) (had9 : ∀ j, j < 5 → ad j < 2 ^ 31) (hT : jj_tot h x ca he du pa re + jj_sm (fun l => jj_fee (pl l)) cnt ≤ 1000000) :
    ∃ (h' x' : Nat) (ca' ge' he' du' pa' ad' re' : Nat → Nat) (S' : jj_Mem), jj_CT yX6_tryClosing (.code yX6_tryClosing cX6_tryClosing 3 none) none 5 118 [.ref 0, .int (nI rule)] lay S none lay S' ∧ jj_bs S' (jj_tb rule) h' x' ca' ge' he' du' pa' ad' re' ∧ jj_tot h' x' ca' he' du' pa' re' = jj_tot h x ca he du pa re + jj_sm (fun l => jj_fee (pl l)) cnt ∧ (∀ j, j < 10 → ge j ≤ ge' j ∧ ge' j ≤ ge j + 1000000) ∧ (∀ j, pa j ≤ pa' j) ∧ (∀ p, p < jj_tb rule ∨ jj_tb rule + 10 < p → ∀ j, S' p j = S p j) := by
  have hbb := jj_tb_or rule
  obtain ⟨S1, hct1, hbs1, f1⟩ := ct_X1_takeOver (lay := lay) hB (jj_tb_bk hB rule) (by omega) hbs
  obtain ⟨h', x', ca', ge', he', du', pa', ad', re', S2, hct2, q1, q2, q3, q4, q5, q6⟩ := ct_X1_close (lay := lay) (S := S1) (b := jj_tb rule) (rule := rule) hB (jj_tb_bk hB rule) hr (jj_au_mono hau (fun p hp j => f1 p (by omega) j)) (jj_im_mono hau.1 him (fun p hp j => f1 p (by omega) j)) (jj_cm_mono hcm (fun p hp j => f1 p (by omega) j)) him2 him3 hbs1 had9 hT
  refine ⟨h', x', ca', ge', he', du', pa', ad', re', S2, ?_, q1, q2, q3, q4, fun p hp j => (q6 p hp j).trans (f1 p hp j)⟩
  refine jj_mkV RX6 (by decide) rfl (L := [some (.ref 0), some (.int (nI rule)), none]) rfl rfl ⟨31, [some (.ref 0), some (.int (nI rule)), some (.ref (jj_tb rule))], dX6_tryClosing_31, ?_⟩
  refine js_aload_n 0 rfl dX6_tryClosing_0 rfl ?_
  refine js_iload_n 1 rfl dX6_tryClosing_1 rfl ?_
  refine js_callV (av := [.int (nI rule)]) (st := []) (b := 0) (ct_X6_trialBy hB hr) (Or.inl rfl) jw_c_X6_trialBy jw_i_RX6 jw_m_RX6_398 jw_s_X6_trialBy jw_e_X6_trialBy (jl_0 hB) rfl jw_y_X6_trialBy rfl ⟨(Nat.le_of_ble_eq_true rfl), (Nat.le_of_ble_eq_true rfl), (Nat.le_refl _), (Nat.le_refl _), (Nat.le_of_ble_eq_true rfl)⟩ dX6_tryClosing_2 ?_
  refine js_st (st' := [.ref ((jj_tb rule))]) rfl ?_
  refine js_astore_n (L' := [some (.ref 0), some (.int (nI rule)), some (.ref (jj_tb rule))]) 2 rfl dX6_tryClosing_5 rfl (Nat.le_of_ble_eq_true rfl) ?_
  refine js_aload_n 2 rfl dX6_tryClosing_6 rfl ?_
  refine js_aload_n 0 rfl dX6_tryClosing_7 rfl ?_
  refine js_getr 5 jw_f_RX6_47 (jl_0 hB) rfl (Nat.le_of_ble_eq_true rfl) rfl dX6_tryClosing_8 ?_
  refine js_callVN (av := [.ref 70]) (st := []) (b := (jj_tb rule)) hct1 (Or.inl rfl) jw_c_X1_takeOver jw_i_RX1 jw_h_RX6_402 jw_s_X1_takeOver jw_e_X1_takeOver (jk_0 (jj_tb_bk hB rule)) rfl jw_y_X1_takeOver rfl ⟨(Nat.le_of_ble_eq_true rfl), (Nat.le_of_ble_eq_true rfl), (Nat.le_refl _), (Nat.le_refl _), (Nat.le_of_ble_eq_true rfl)⟩ dX6_tryClosing_11 ?_
  refine js_st (st' := []) rfl ?_
  refine js_aload_n 2 rfl dX6_tryClosing_14 rfl ?_
  refine js_iload_n 1 rfl dX6_tryClosing_15 rfl ?_
  refine js_aload_n 0 rfl dX6_tryClosing_16 rfl ?_
  refine js_getr 2 jw_f_RX6_26 (jl_0 hB) rfl (Nat.le_of_ble_eq_true rfl) rfl dX6_tryClosing_17 ?_
  refine js_aload_n 0 rfl dX6_tryClosing_20 rfl ?_
  refine js_getr 4 jw_f_RX6_40 (jl_0 hB) rfl (Nat.le_of_ble_eq_true rfl) rfl dX6_tryClosing_21 ?_
  refine js_aload_n 0 rfl dX6_tryClosing_24 rfl ?_
  refine js_getr 1 jw_f_RX6_19 (jl_0 hB) rfl (Nat.le_of_ble_eq_true rfl) rfl dX6_tryClosing_25 ?_
  refine js_callVN (av := [.int (nI rule), .ref 20, .ref 42, .ref 8]) (st := []) (b := (jj_tb rule)) hct2 (Or.inl rfl) jw_c_X1_close jw_i_RX1 jw_h_RX6_391 jw_s_X1_close jw_e_X1_close (jk_0 (jj_tb_bk hB rule)) rfl jw_y_X1_close rfl ⟨(Nat.le_of_ble_eq_true rfl), (Nat.le_of_ble_eq_true rfl), (Nat.le_refl _), (Nat.le_refl _), (Nat.le_of_ble_eq_true rfl)⟩ dX6_tryClosing_28 ?_
  refine js_st (st' := []) rfl ?_
  exact jj_refl
set_option maxRecDepth 100000 in
set_option maxHeartbeats 4000000 in
theorem ct_X6_gotInTrial {lay : jj_Lay} {S : jj_Mem} {u rule : Nat} {ge ge' : Nat → Nat} (hB : jj_pp lay) (hr : rule < 2) (hu : u < 10) (h1 : S 72 u = some (nI (ge u))) (h2 : S (jj_tb rule + 2) u = some (nI (ge' u))) (hle : ge u ≤ ge' u) : jj_CT yX6_gotInTrial (.code yX6_gotInTrial cX6_gotInTrial 3 (some .int)) none 1 21 [.ref 0, .int (nI u), .int (nI rule)] lay S (some (.int (nI (ge' u - ge u)))) lay S := by
  refine jj_mkI RX6 .int (by decide) rfl (L := [some (.ref 0), some (.int (nI u)), some (.int (nI rule))]) rfl rfl rfl ⟨20, [some (.ref 0), some (.int (nI u)), some (.int (nI rule))], dX6_gotInTrial_20, ?_⟩
  refine js_aload_n 0 rfl dX6_gotInTrial_0 rfl ?_
  refine js_iload_n 2 rfl dX6_gotInTrial_1 rfl ?_
  refine js_callV (av := [.int (nI rule)]) (st := []) (b := 0) (ct_X6_trialBy hB hr) (Or.inl rfl) jw_c_X6_trialBy jw_i_RX6 jw_m_RX6_398 jw_s_X6_trialBy jw_e_X6_trialBy (jl_0 hB) rfl jw_y_X6_trialBy rfl ⟨(Nat.le_of_ble_eq_true rfl), (Nat.le_of_ble_eq_true rfl), (Nat.le_refl _), (Nat.le_refl _), (Nat.le_of_ble_eq_true rfl)⟩ dX6_gotInTrial_2 ?_
  refine js_st (st' := [.ref (jj_tb rule)]) rfl ?_
  refine js_getNr 3 jw_n_RX6_276 (jk_0 (jj_tb_bk hB rule)) rfl (Nat.le_of_ble_eq_true rfl) rfl dX6_gotInTrial_5 ?_
  refine js_iload_n 1 rfl dX6_gotInTrial_8 rfl ?_
  refine js_iald u rfl (jk_2 (jj_tb_bk hB rule)) (by omega) (by decide) (h2) dX6_gotInTrial_9 ?_
  refine js_aload_n 0 rfl dX6_gotInTrial_10 rfl ?_
  refine js_getr 5 jw_f_RX6_47 (jl_0 hB) rfl (Nat.le_of_ble_eq_true rfl) rfl dX6_gotInTrial_11 ?_
  refine js_getNr 3 jw_n_RX6_276 (jl_70 hB) rfl (Nat.le_of_ble_eq_true rfl) rfl dX6_gotInTrial_14 ?_
  refine js_iload_n 1 rfl dX6_gotInTrial_17 rfl ?_
  refine js_iald u rfl (jl_72 hB) (by omega) (by decide) (h1) dX6_gotInTrial_18 ?_
  refine jn_isub hle dX6_gotInTrial_19 ?_
  exact jj_refl
set_option maxRecDepth 100000 in
set_option maxHeartbeats 4000000 in
theorem ct_X6_paidInTrial {lay : jj_Lay} {S : jj_Mem} {u rule : Nat} {pa pa' : Nat → Nat} (hB : jj_pp lay) (hr : rule < 2) (hu : u < 5) (h1 : S 75 u = some (nI (pa u))) (h2 : S (jj_tb rule + 5) u = some (nI (pa' u))) (hle : pa u ≤ pa' u) : jj_CT yX6_paidInTrial (.code yX6_paidInTrial cX6_paidInTrial 3 (some .int)) none 1 21 [.ref 0, .int (nI u), .int (nI rule)] lay S (some (.int (nI (pa' u - pa u)))) lay S := by
  refine jj_mkI RX6 .int (by decide) rfl (L := [some (.ref 0), some (.int (nI u)), some (.int (nI rule))]) rfl rfl rfl ⟨20, [some (.ref 0), some (.int (nI u)), some (.int (nI rule))], dX6_paidInTrial_20, ?_⟩
  refine js_aload_n 0 rfl dX6_paidInTrial_0 rfl ?_
  refine js_iload_n 2 rfl dX6_paidInTrial_1 rfl ?_
  refine js_callV (av := [.int (nI rule)]) (st := []) (b := 0) (ct_X6_trialBy hB hr) (Or.inl rfl) jw_c_X6_trialBy jw_i_RX6 jw_m_RX6_398 jw_s_X6_trialBy jw_e_X6_trialBy (jl_0 hB) rfl jw_y_X6_trialBy rfl ⟨(Nat.le_of_ble_eq_true rfl), (Nat.le_of_ble_eq_true rfl), (Nat.le_refl _), (Nat.le_refl _), (Nat.le_of_ble_eq_true rfl)⟩ dX6_paidInTrial_2 ?_
  refine js_st (st' := [.ref (jj_tb rule)]) rfl ?_
  refine js_getNr 6 jw_n_RX6_264 (jk_0 (jj_tb_bk hB rule)) rfl (Nat.le_of_ble_eq_true rfl) rfl dX6_paidInTrial_5 ?_
  refine js_iload_n 1 rfl dX6_paidInTrial_8 rfl ?_
  refine js_iald u rfl (jk_5 (jj_tb_bk hB rule)) (by omega) (by decide) (h2) dX6_paidInTrial_9 ?_
  refine js_aload_n 0 rfl dX6_paidInTrial_10 rfl ?_
  refine js_getr 5 jw_f_RX6_47 (jl_0 hB) rfl (Nat.le_of_ble_eq_true rfl) rfl dX6_paidInTrial_11 ?_
  refine js_getNr 6 jw_n_RX6_264 (jl_70 hB) rfl (Nat.le_of_ble_eq_true rfl) rfl dX6_paidInTrial_14 ?_
  refine js_iload_n 1 rfl dX6_paidInTrial_17 rfl ?_
  refine js_iald u rfl (jl_75 hB) (by omega) (by decide) (h1) dX6_paidInTrial_18 ?_
  refine jn_isub hle dX6_paidInTrial_19 ?_
  exact jj_refl
set_option maxRecDepth 100000 in
set_option maxHeartbeats 4000000 in
theorem ct_X6_wouldGet {lay : jj_Lay} {S : jj_Mem} {u rule : Nat} (hB : jj_pp lay) (hu : u < 10) (hr : rule < 2) {cnt : Nat} {ld pl : Nat → Nat} {im cl : Nat → Nat → Nat} {h x : Nat} {ca ge he du pa ad re : Nat → Nat} (hau : jj_au S cnt ld pl) (him : jj_im S cnt im) (hcm : jj_cm S cl) (him2 : ∀ l, l < cnt → jj_sm (im l) 10 ≤ 1000) (him3 : jj_sm (fun l => jj_sm (im l) 10) cnt ≤ 1000) (hbs : jj_bs S 70 h x ca ge he du pa ad re) (had9 : ∀ j, j < 5 → ad j < 2 ^ 31) (hT : jj_tot h x ca he du pa re + jj_sm (fun l => jj_fee (pl l)) cnt ≤ 1000000) :
    ∃ (v : Nat) (S' : jj_Mem), jj_CT yX6_wouldGet (.code yX6_wouldGet cX6_wouldGet 3 (some .int)) none 6 140 [.ref 0, .int (nI u), .int (nI rule)] lay S (some (.int (nI v))) lay S' ∧ v ≤ 1000000 ∧ (∀ p, p < 81 ∨ 102 < p → ∀ j, S' p j = S p j) := by
  have hbb := jj_tb_or rule
  obtain ⟨h', x', ca', ge', he', du', pa', ad', re', S1, hct, q1, q2, q3, q4, q6⟩ := ct_X6_tryClosing (lay := lay) hB hr hau him hcm him2 him3 hbs had9 hT
  have h1 := (q6 72 (by omega) u).trans (hbs.2.2.2.1 u hu)
  have h2 := q1.2.2.2.1 u hu
  have hle := (q3 u hu).1
  refine ⟨ge' u - ge u, S1, ?_, by have := (q3 u hu).2; omega, fun p hp j => q6 p (by omega) j⟩
  refine jj_mkI RX6 .int (by decide) rfl (L := [some (.ref 0), some (.int (nI u)), some (.int (nI rule))]) rfl rfl rfl ⟨19, [some (.ref 0), some (.int (nI u)), some (.int (nI rule))], dX6_wouldGet_19, ?_⟩
  refine js_iload_n 1 rfl dX6_wouldGet_0 rfl ?_
  refine js_callS (av := [.int (nI u)]) (st := []) (ct_X6_needRecording hu) (Or.inl rfl) jw_c_X6_needRecording jw_i_RX6 jw_m_RX6_68 jw_s_X6_needRecording jw_y_X6_needRecording rfl ⟨(Nat.le_of_ble_eq_true rfl), (Nat.le_of_ble_eq_true rfl), (Nat.le_refl _), (Nat.le_refl _), (Nat.le_of_ble_eq_true rfl)⟩ dX6_wouldGet_1 ?_
  refine js_st (st' := []) rfl ?_
  refine js_iload_n 2 rfl dX6_wouldGet_4 rfl ?_
  refine js_callS (av := [.int (nI rule)]) (st := []) (ct_X6_needRule hr) (Or.inl rfl) jw_c_X6_needRule jw_i_RX6 jw_m_RX6_138 jw_s_X6_needRule jw_y_X6_needRule rfl ⟨(Nat.le_of_ble_eq_true rfl), (Nat.le_of_ble_eq_true rfl), (Nat.le_refl _), (Nat.le_refl _), (Nat.le_of_ble_eq_true rfl)⟩ dX6_wouldGet_5 ?_
  refine js_st (st' := []) rfl ?_
  refine js_aload_n 0 rfl dX6_wouldGet_8 rfl ?_
  refine js_iload_n 2 rfl dX6_wouldGet_9 rfl ?_
  refine js_callV (av := [.int (nI rule)]) (st := []) (b := 0) hct (Or.inl rfl) jw_c_X6_tryClosing jw_i_RX6 jw_m_RX6_316 jw_s_X6_tryClosing jw_e_X6_tryClosing (jl_0 hB) rfl jw_y_X6_tryClosing rfl ⟨(Nat.le_of_ble_eq_true rfl), (Nat.le_of_ble_eq_true rfl), (Nat.le_refl _), (Nat.le_refl _), (Nat.le_of_ble_eq_true rfl)⟩ dX6_wouldGet_10 ?_
  refine js_st (st' := []) rfl ?_
  refine js_aload_n 0 rfl dX6_wouldGet_13 rfl ?_
  refine js_iload_n 1 rfl dX6_wouldGet_14 rfl ?_
  refine js_iload_n 2 rfl dX6_wouldGet_15 rfl ?_
  refine js_callV (av := [.int (nI u), .int (nI rule)]) (st := []) (b := 0) (ct_X6_gotInTrial (ge := ge) (ge' := ge') hB hr hu h1 h2 hle) (Or.inl rfl) jw_c_X6_gotInTrial jw_i_RX6 jw_m_RX6_319 jw_s_X6_gotInTrial jw_e_X6_gotInTrial (jl_0 hB) rfl jw_y_X6_gotInTrial rfl ⟨(Nat.le_of_ble_eq_true rfl), (Nat.le_of_ble_eq_true rfl), (Nat.le_refl _), (Nat.le_refl _), (Nat.le_of_ble_eq_true rfl)⟩ dX6_wouldGet_16 ?_
  refine js_st (st' := [.int (nI (ge' u - ge u))]) rfl ?_
  exact jj_refl
set_option maxRecDepth 100000 in
set_option maxHeartbeats 4000000 in
theorem ct_X6_wouldPay {lay : jj_Lay} {S : jj_Mem} {u rule : Nat} (hB : jj_pp lay) (hu : u < 5) (hr : rule < 2) {cnt : Nat} {ld pl : Nat → Nat} {im cl : Nat → Nat → Nat} {h x : Nat} {ca ge he du pa ad re : Nat → Nat} (hau : jj_au S cnt ld pl) (him : jj_im S cnt im) (hcm : jj_cm S cl) (him2 : ∀ l, l < cnt → jj_sm (im l) 10 ≤ 1000) (him3 : jj_sm (fun l => jj_sm (im l) 10) cnt ≤ 1000) (hbs : jj_bs S 70 h x ca ge he du pa ad re) (had9 : ∀ j, j < 5 → ad j < 2 ^ 31) (hT : jj_tot h x ca he du pa re + jj_sm (fun l => jj_fee (pl l)) cnt ≤ 1000000) :
    ∃ (v : Nat) (S' : jj_Mem), jj_CT yX6_wouldPay (.code yX6_wouldPay cX6_wouldPay 3 (some .int)) none 6 140 [.ref 0, .int (nI u), .int (nI rule)] lay S (some (.int (nI v))) lay S' ∧ v ≤ 1000000 ∧ (∀ p, p < 81 ∨ 102 < p → ∀ j, S' p j = S p j) := by
  have hbb := jj_tb_or rule
  obtain ⟨h', x', ca', ge', he', du', pa', ad', re', S1, hct, q1, q2, q3, q4, q6⟩ := ct_X6_tryClosing (lay := lay) hB hr hau him hcm him2 him3 hbs had9 hT
  have h1 := (q6 75 (by omega) u).trans (hbs.2.2.2.2.2.2.1 u hu)
  have h2 := q1.2.2.2.2.2.2.1 u hu
  have hle := q4 u
  refine ⟨pa' u - pa u, S1, ?_, by have h7 := jj_sm_at (f := pa') (n := 5) hu; unfold jj_tot at q2 hT; omega, fun p hp j => q6 p (by omega) j⟩
  refine jj_mkI RX6 .int (by decide) rfl (L := [some (.ref 0), some (.int (nI u)), some (.int (nI rule))]) rfl rfl rfl ⟨19, [some (.ref 0), some (.int (nI u)), some (.int (nI rule))], dX6_wouldPay_19, ?_⟩
  refine js_iload_n 1 rfl dX6_wouldPay_0 rfl ?_
  refine js_callS (av := [.int (nI u)]) (st := []) (ct_X6_needParty hu) (Or.inl rfl) jw_c_X6_needParty jw_i_RX6 jw_m_RX6_121 jw_s_X6_needParty jw_y_X6_needParty rfl ⟨(Nat.le_of_ble_eq_true rfl), (Nat.le_of_ble_eq_true rfl), (Nat.le_refl _), (Nat.le_refl _), (Nat.le_of_ble_eq_true rfl)⟩ dX6_wouldPay_1 ?_
  refine js_st (st' := []) rfl ?_
  refine js_iload_n 2 rfl dX6_wouldPay_4 rfl ?_
  refine js_callS (av := [.int (nI rule)]) (st := []) (ct_X6_needRule hr) (Or.inl rfl) jw_c_X6_needRule jw_i_RX6 jw_m_RX6_138 jw_s_X6_needRule jw_y_X6_needRule rfl ⟨(Nat.le_of_ble_eq_true rfl), (Nat.le_of_ble_eq_true rfl), (Nat.le_refl _), (Nat.le_refl _), (Nat.le_of_ble_eq_true rfl)⟩ dX6_wouldPay_5 ?_
  refine js_st (st' := []) rfl ?_
  refine js_aload_n 0 rfl dX6_wouldPay_8 rfl ?_
  refine js_iload_n 2 rfl dX6_wouldPay_9 rfl ?_
  refine js_callV (av := [.int (nI rule)]) (st := []) (b := 0) hct (Or.inl rfl) jw_c_X6_tryClosing jw_i_RX6 jw_m_RX6_316 jw_s_X6_tryClosing jw_e_X6_tryClosing (jl_0 hB) rfl jw_y_X6_tryClosing rfl ⟨(Nat.le_of_ble_eq_true rfl), (Nat.le_of_ble_eq_true rfl), (Nat.le_refl _), (Nat.le_refl _), (Nat.le_of_ble_eq_true rfl)⟩ dX6_wouldPay_10 ?_
  refine js_st (st' := []) rfl ?_
  refine js_aload_n 0 rfl dX6_wouldPay_13 rfl ?_
  refine js_iload_n 1 rfl dX6_wouldPay_14 rfl ?_
  refine js_iload_n 2 rfl dX6_wouldPay_15 rfl ?_
  refine js_callV (av := [.int (nI u), .int (nI rule)]) (st := []) (b := 0) (ct_X6_paidInTrial (pa := pa) (pa' := pa') hB hr hu h1 h2 hle) (Or.inl rfl) jw_c_X6_paidInTrial jw_i_RX6 jw_m_RX6_322 jw_s_X6_paidInTrial jw_e_X6_paidInTrial (jl_0 hB) rfl jw_y_X6_paidInTrial rfl ⟨(Nat.le_of_ble_eq_true rfl), (Nat.le_of_ble_eq_true rfl), (Nat.le_refl _), (Nat.le_refl _), (Nat.le_of_ble_eq_true rfl)⟩ dX6_wouldPay_16 ?_
  refine js_st (st' := [.int (nI (pa' u - pa u))]) rfl ?_
  exact jj_refl
set_option maxRecDepth 100000 in
set_option maxHeartbeats 4000000 in
theorem ct_X6_closeMonth {lay : jj_Lay} {S : jj_Mem} {rule : Nat} (hB : jj_pp lay) (hr : rule < 2) (hrn : S 0 10 = some (nI rule)) {cnt : Nat} {ld pl : Nat → Nat} {im cl : Nat → Nat → Nat} {h x : Nat} {ca ge he du pa ad re : Nat → Nat} (hau : jj_au S cnt ld pl) (him : jj_im S cnt im) (hcm : jj_cm S cl) (him2 : ∀ l, l < cnt → jj_sm (im l) 10 ≤ 1000) (him3 : jj_sm (fun l => jj_sm (im l) 10) cnt ≤ 1000) (hbs : jj_bs S 70 h x ca ge he du pa ad re) (had9 : ∀ j, j < 5 → ad j < 2 ^ 31) (hT : jj_tot h x ca he du pa re + jj_sm (fun l => jj_fee (pl l)) cnt ≤ 1000000) {pe : Nat → Nat} (hpe : ∀ j, j < cnt → S 24 j = some (nI (pe j))) :
    ∃ (h' x' : Nat) (ca' ge' he' du' pa' ad' re' : Nat → Nat) (v : Nat) (S' : jj_Mem), jj_CT yX6_closeMonth (.code yX6_closeMonth cX6_closeMonth 2 (some .int)) none 5 118 [.ref 0] lay S (some (.int (nI v))) lay S' ∧ jj_bs S' 70 h' x' ca' ge' he' du' pa' ad' re' ∧ jj_tot h' x' ca' he' du' pa' re' = jj_tot h x ca he du pa re + jj_sm (fun l => jj_fee (pl l)) cnt ∧ (∀ j, ad' j ≤ ad j) ∧ (∀ j, j < cnt → S' 24 j = some (nI (pe j + jj_fee (pl j)))) ∧ (∀ p, p ≠ 24 → p < 70 ∨ 80 < p → ∀ j, S' p j = S p j) ∧ (∀ j, cnt ≤ j → S' 24 j = S 24 j) := by
  obtain ⟨h', x', ca', ge', he', du', pa', ad', re', S1, hct1, q1, q2, q3, q4, q5, q6⟩ := ct_X1_close (lay := lay) (S := S) (b := 70) (rule := rule) hB (jj_bk_70 hB) hr hau him hcm him2 him3 hbs had9 hT
  have hct2 := ct_X0_takeFees (lay := lay) (S := S1) hB (jj_au_mono hau (fun p hp j => q6 p (by omega) j)) (pe := pe) (fun j hj => (q6 24 (by omega) j).trans (hpe j hj))
  have hle : jj_sm pa 5 ≤ jj_sm pa' 5 := jj_sm_le (fun j _ => q4 j)
  have c : ∀ p, p ≠ 24 → ∀ j, jj_row S1 24 cnt (fun j => pe j + jj_fee (pl j)) p j = S1 p j := fun p hp j => jj_row_neP hp
  obtain ⟨b0, b1, b2, b3, b4, b5, b6, b7, b8⟩ := id q1
  refine ⟨h', x', ca', ge', he', du', pa', ad', re', jj_sm pa' 5 - jj_sm pa 5, jj_row S1 24 cnt (fun j => pe j + jj_fee (pl j)), ?_, ⟨(c _ (by omega) _).trans b0, (c _ (by omega) _).trans b1, fun j hj => (c _ (by omega) _).trans (b2 j hj), fun j hj => (c _ (by omega) _).trans (b3 j hj), fun j hj => (c _ (by omega) _).trans (b4 j hj), fun j hj => (c _ (by omega) _).trans (b5 j hj), fun j hj => (c _ (by omega) _).trans (b6 j hj), fun j hj => (c _ (by omega) _).trans (b7 j hj), fun j hj => (c _ (by omega) _).trans (b8 j hj)⟩, q2, q5, fun j hj => jj_row_at hj, fun p hp h7 j => (jj_row_neP hp).trans (q6 p (by omega) j), fun j hj => (jj_row_hi hj).trans (q6 24 (by omega) j)⟩
  refine jj_mkI RX6 .int (by decide) rfl (L := [some (.ref 0), none]) rfl rfl rfl ⟨53, [some (.ref 0), some (.int (nI (jj_sm pa 5)))], dX6_closeMonth_53, ?_⟩
  refine js_aload_n 0 rfl dX6_closeMonth_0 rfl ?_
  refine js_getr 5 jw_f_RX6_47 (jl_0 hB) rfl (Nat.le_of_ble_eq_true rfl) rfl dX6_closeMonth_1 ?_
  refine js_getNr 6 jw_n_RX6_264 (jl_70 hB) rfl (Nat.le_of_ble_eq_true rfl) rfl dX6_closeMonth_4 ?_
  refine js_callS (av := [.ref 75]) (st := []) (ct_X6_sumOf (f := pa) (jl_75 hB) (by omega) hbs.2.2.2.2.2.2.1) (Or.inl rfl) jw_c_X6_sumOf jw_i_RX6 jw_m_RX6_234 jw_s_X6_sumOf jw_y_X6_sumOf rfl ⟨(Nat.le_of_ble_eq_true rfl), (Nat.le_of_ble_eq_true rfl), (Nat.le_refl _), (Nat.le_refl _), (Nat.le_of_ble_eq_true rfl)⟩ dX6_closeMonth_7 ?_
  refine js_st (st' := [.int (nI (jj_sm pa 5))]) rfl ?_
  refine js_istore_n (L' := [some (.ref 0), some (.int (nI (jj_sm pa 5)))]) 1 rfl dX6_closeMonth_10 rfl (Nat.le_of_ble_eq_true rfl) ?_
  refine js_aload_n 0 rfl dX6_closeMonth_11 rfl ?_
  refine js_getr 5 jw_f_RX6_47 (jl_0 hB) rfl (Nat.le_of_ble_eq_true rfl) rfl dX6_closeMonth_12 ?_
  refine js_aload_n 0 rfl dX6_closeMonth_15 rfl ?_
  refine js_geti 10 jw_f_RX6_65 (jl_0 hB) rfl (Nat.le_of_ble_eq_true rfl) rfl (hrn) dX6_closeMonth_16 ?_
  refine js_aload_n 0 rfl dX6_closeMonth_19 rfl ?_
  refine js_getr 2 jw_f_RX6_26 (jl_0 hB) rfl (Nat.le_of_ble_eq_true rfl) rfl dX6_closeMonth_20 ?_
  refine js_aload_n 0 rfl dX6_closeMonth_23 rfl ?_
  refine js_getr 4 jw_f_RX6_40 (jl_0 hB) rfl (Nat.le_of_ble_eq_true rfl) rfl dX6_closeMonth_24 ?_
  refine js_aload_n 0 rfl dX6_closeMonth_27 rfl ?_
  refine js_getr 1 jw_f_RX6_19 (jl_0 hB) rfl (Nat.le_of_ble_eq_true rfl) rfl dX6_closeMonth_28 ?_
  refine js_callVN (av := [.int (nI rule), .ref 20, .ref 42, .ref 8]) (st := []) (b := 70) hct1 (Or.inl rfl) jw_c_X1_close jw_i_RX1 jw_h_RX6_391 jw_s_X1_close jw_e_X1_close (jl_70 hB) rfl jw_y_X1_close rfl ⟨(Nat.le_of_ble_eq_true rfl), (Nat.le_of_ble_eq_true rfl), (Nat.le_refl _), (Nat.le_refl _), (Nat.le_of_ble_eq_true rfl)⟩ dX6_closeMonth_31 ?_
  refine js_st (st' := []) rfl ?_
  refine js_aload_n 0 rfl dX6_closeMonth_34 rfl ?_
  refine js_getr 2 jw_f_RX6_26 (jl_0 hB) rfl (Nat.le_of_ble_eq_true rfl) rfl dX6_closeMonth_35 ?_
  refine js_callVN (av := []) (st := []) (b := 20) hct2 (Or.inl rfl) jw_c_X0_takeFees jw_i_RX0 jw_h_RX6_395 jw_s_X0_takeFees jw_e_X0_takeFees (jl_20 hB) rfl jw_y_X0_takeFees rfl ⟨(Nat.le_of_ble_eq_true rfl), (Nat.le_of_ble_eq_true rfl), (Nat.le_refl _), (Nat.le_refl _), (Nat.le_of_ble_eq_true rfl)⟩ dX6_closeMonth_38 ?_
  refine js_st (st' := []) rfl ?_
  refine js_aload_n 0 rfl dX6_closeMonth_41 rfl ?_
  refine js_getr 5 jw_f_RX6_47 (jl_0 hB) rfl (Nat.le_of_ble_eq_true rfl) rfl dX6_closeMonth_42 ?_
  refine js_getNr 6 jw_n_RX6_264 (jl_70 hB) rfl (Nat.le_of_ble_eq_true rfl) rfl dX6_closeMonth_45 ?_
  refine js_callS (av := [.ref 75]) (st := []) (ct_X6_sumOf (f := pa') (jl_75 hB) (by omega) (fun j hj => (jj_row_neP (by omega)).trans (q1.2.2.2.2.2.2.1 j hj))) (Or.inl rfl) jw_c_X6_sumOf jw_i_RX6 jw_m_RX6_234 jw_s_X6_sumOf jw_y_X6_sumOf rfl ⟨(Nat.le_of_ble_eq_true rfl), (Nat.le_of_ble_eq_true rfl), (Nat.le_refl _), (Nat.le_refl _), (Nat.le_of_ble_eq_true rfl)⟩ dX6_closeMonth_48 ?_
  refine js_st (st' := [.int (nI (jj_sm pa' 5))]) rfl ?_
  refine js_iload_n 1 rfl dX6_closeMonth_51 rfl ?_
  refine jn_isub hle dX6_closeMonth_52 ?_
  exact jj_refl

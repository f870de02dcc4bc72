/-! THE CONSTRUCTOR OF PlayPool. -/
theorem jj_B1_eq : jj_B1 = [(6, 11, [some none, some none, some none, some none, some none, some none, some none, some none, some none, none, none])] := rfl
theorem jj_rs2 : ∀ j, j < 8 → defaultValue (jj_ty 2 j) = (match ([none, some none, some none, none, some none, some none, some none, some none] : List (Option (Option Nat)))[j]? with | some (some none) => Value.null | _ => Value.int 0) := by
  intro j hj
  have h9 : j = 0 ∨ j = 1 ∨ j = 2 ∨ j = 3 ∨ j = 4 ∨ j = 5 ∨ j = 6 ∨ j = 7 := by omega
  rcases h9 with rfl | rfl | rfl | rfl | rfl | rfl | rfl | rfl <;> rfl
theorem jj_rs5 : ∀ j, j < 1 → defaultValue (jj_ty 5 j) = (match ([some none] : List (Option (Option Nat)))[j]? with | some (some none) => Value.null | _ => Value.int 0) := by
  intro j hj
  have h9 : j = 0 := by omega
  subst h9
  rfl
theorem jj_rs0 : ∀ j, j < 7 → defaultValue (jj_ty 0 j) = (match ([none, some none, some none, some none, some none, some none, some none] : List (Option (Option Nat)))[j]? with | some (some none) => Value.null | _ => Value.int 0) := by
  intro j hj
  have h9 : j = 0 ∨ j = 1 ∨ j = 2 ∨ j = 3 ∨ j = 4 ∨ j = 5 ∨ j = 6 := by omega
  rcases h9 with rfl | rfl | rfl | rfl | rfl | rfl | rfl <;> rfl
theorem jj_rs4 : ∀ j, j < 7 → defaultValue (jj_ty 4 j) = (match ([none, some none, some none, some none, some none, some none, some none] : List (Option (Option Nat)))[j]? with | some (some none) => Value.null | _ => Value.int 0) := by
  intro j hj
  have h9 : j = 0 ∨ j = 1 ∨ j = 2 ∨ j = 3 ∨ j = 4 ∨ j = 5 ∨ j = 6 := by omega
  rcases h9 with rfl | rfl | rfl | rfl | rfl | rfl | rfl <;> rfl
theorem jj_rs3 : ∀ j, j < 3 → defaultValue (jj_ty 3 j) = (match ([some none, some none, some none] : List (Option (Option Nat)))[j]? with | some (some none) => Value.null | _ => Value.int 0) := by
  intro j hj
  have h9 : j = 0 ∨ j = 1 ∨ j = 2 := by omega
  rcases h9 with rfl | rfl | rfl <;> rfl
theorem jj_rs1 : ∀ j, j < 12 → defaultValue (jj_ty 1 j) = (match ([none, none, some none, some none, some none, some none, some none, some none, some none, some none, some none, some none] : List (Option (Option Nat)))[j]? with | some (some none) => Value.null | _ => Value.int 0) := by
  intro j hj
  have h9 : j = 0 ∨ j = 1 ∨ j = 2 ∨ j = 3 ∨ j = 4 ∨ j = 5 ∨ j = 6 ∨ j = 7 ∨ j = 8 ∨ j = 9 ∨ j = 10 ∨ j = 11 := by omega
  rcases h9 with rfl | rfl | rfl | rfl | rfl | rfl | rfl | rfl | rfl | rfl | rfl | rfl <;> rfl
theorem jj_pp0 : jj_pp jj_lay0 := fun _ _ => rfl
set_option maxRecDepth 100000 in
set_option maxHeartbeats 4000000 in
theorem ci_0 : jj_CT yX6_init (.code yX6_init cX6_init 1 none) none 2 40 [.ref 0] [(6, 11, [some none, some none, some none, some none, some none, some none, some none, some none, some none, none, none])] (jj_zz 1) none jj_lay0 (jj_zz 104) := by
  refine jj_mk (L := [some (.ref 0)]) (L' := [some (.ref 0)]) (pc' := 110) RX6 (by decide) rfl rfl rfl ⟨rfl, rfl⟩ dX6_init_110 (Nat.le_of_ble_eq_true rfl) (Nat.le_of_ble_eq_true rfl) (fun hy => ?_) (fun _ _ w h => by cases h) ?_
  · exact jj_wyB (B := []) (c := (6, 11, [some none, some none, some none, some none, some none, some none, some none, some none, some none, none, none])) (cs := jj_lay0) (b := 0) rfl hy (by decide +kernel) (Nat.le_of_ble_eq_true rfl)
  rw [← jj_B1_eq]
  refine js_aload_n 0 rfl dX6_init_0 rfl ?_
  refine js_objInit jw_m_RX6_3 jw_oi jw_oc (Nat.le_of_ble_eq_true rfl) (Nat.le_of_ble_eq_true rfl) dX6_init_1 ?_
  refine js_aload_n 0 rfl dX6_init_4 rfl ?_
  refine js_newq (lay := jj_B1) (lay' := (jj_B1 ++ [(2, 8, [none, some none, some none, none, some none, some none, some none, some none])])) [none, some none, some none, none, some none, some none, some none, some none] (q := 1) rfl rfl (jj_zz_z (fun q h1 h2 => by omega)) rfl jw_w_RX6_9 jw_v_RX2 jw_ii_RX2 jj_rs2 (fun q h => by simp at h) (Nat.le_of_ble_eq_true rfl) (Nat.le_of_ble_eq_true rfl) dX6_init_5 ?_
  refine js_dup rfl dX6_init_8 ?_
  refine js_callIN (av := []) (st := [.ref 1, .ref 0]) (b := 1) ci_1 (Or.inl rfl) jw_c_X2_init jw_i_RX2 jw_h_RX6_11 jw_s_X2_init rfl jw_y_X2_init rfl ⟨(Nat.le_of_ble_eq_true rfl), (Nat.le_of_ble_eq_true rfl), (Nat.le_of_ble_eq_true rfl), (Nat.le_of_ble_eq_true rfl), (Nat.le_of_ble_eq_true rfl)⟩ dX6_init_9 ?_
  refine js_st (st' := [.ref 1, .ref 0]) rfl ?_
  refine js_putF (lay := (jj_B1 ++ [(2, 8, [none, some (some 2), some (some 3), none, some (some 4), some (some 5), some (some 6), some (some 7)]), (20, 14, []), (20, 14, []), (20, 30, []), (20, 30, []), (20, 30, []), (20, 30, [])])) (lay' := jj_B8) 0 jw_f_RX6_12 (rs := [some none, some none, some none, some none, some none, some none, some none, some none, some none, none, none]) rfl rfl (Nat.le_of_ble_eq_true rfl) (Nat.le_of_ble_eq_true rfl) rfl rfl rfl (ty := .object "PlayPool$Catalogue") (by decide +kernel) (fun _ => rfl) (fun _ => rfl) rfl dX6_init_12 ?_
  refine js_aload_n 0 rfl dX6_init_15 rfl ?_
  refine js_newq (lay := jj_B8) (lay' := (jj_B8 ++ [(5, 1, [some none])])) [some none] (q := 8) rfl rfl (jj_zz_z (fun q h1 h2 => by omega)) rfl jw_w_RX6_16 jw_v_RX5 jw_ii_RX5 jj_rs5 (fun q h => by simp at h) (Nat.le_of_ble_eq_true rfl) (Nat.le_of_ble_eq_true rfl) dX6_init_16 ?_
  refine js_dup rfl dX6_init_19 ?_
  refine js_callIN (av := []) (st := [.ref 8, .ref 0]) (b := 8) ci_8 (Or.inl rfl) jw_c_X5_init jw_i_RX5 jw_h_RX6_18 jw_s_X5_init rfl jw_y_X5_init rfl ⟨(Nat.le_of_ble_eq_true rfl), (Nat.le_of_ble_eq_true rfl), (Nat.le_of_ble_eq_true rfl), (Nat.le_of_ble_eq_true rfl), (Nat.le_of_ble_eq_true rfl)⟩ dX6_init_20 ?_
  refine js_st (st' := [.ref 8, .ref 0]) rfl ?_
  refine js_putF (lay := (jj_B8 ++ [(5, 1, [some (some 9)]), (22, 10, [some (some 10), some (some 11), some (some 12), some (some 13), some (some 14), some (some 15), some (some 16), some (some 17), some (some 18), some (some 19)]), (20, 5, []), (20, 5, []), (20, 5, []), (20, 5, []), (20, 5, []), (20, 5, []), (20, 5, []), (20, 5, []), (20, 5, []), (20, 5, [])])) (lay' := jj_B20) 1 jw_f_RX6_19 (rs := [some (some 1), some none, some none, some none, some none, some none, some none, some none, some none, none, none]) rfl rfl (Nat.le_of_ble_eq_true rfl) (Nat.le_of_ble_eq_true rfl) rfl rfl rfl (ty := .object "PlayPool$Rights") (by decide +kernel) (fun _ => rfl) (fun _ => rfl) rfl dX6_init_23 ?_
  refine js_aload_n 0 rfl dX6_init_26 rfl ?_
  refine js_newq (lay := jj_B20) (lay' := (jj_B20 ++ [(0, 7, [none, some none, some none, some none, some none, some none, some none])])) [none, some none, some none, some none, some none, some none, some none] (q := 20) rfl rfl (jj_zz_z (fun q h1 h2 => by omega)) rfl jw_w_RX6_23 jw_v_RX0 jw_ii_RX0 jj_rs0 (fun q h => by simp at h) (Nat.le_of_ble_eq_true rfl) (Nat.le_of_ble_eq_true rfl) dX6_init_27 ?_
  refine js_dup rfl dX6_init_30 ?_
  refine js_callIN (av := []) (st := [.ref 20, .ref 0]) (b := 20) ci_20 (Or.inl rfl) jw_c_X0_init jw_i_RX0 jw_h_RX6_25 jw_s_X0_init rfl jw_y_X0_init rfl ⟨(Nat.le_of_ble_eq_true rfl), (Nat.le_of_ble_eq_true rfl), (Nat.le_of_ble_eq_true rfl), (Nat.le_of_ble_eq_true rfl), (Nat.le_of_ble_eq_true rfl)⟩ dX6_init_31 ?_
  refine js_st (st' := [.ref 20, .ref 0]) rfl ?_
  refine js_putF (lay := (jj_B20 ++ [(0, 7, [none, some (some 21), some (some 22), some (some 23), some (some 24), some (some 25), some (some 26)]), (20, 8, []), (20, 8, []), (21, 8, []), (20, 8, []), (20, 8, []), (22, 8, [some (some 27), some (some 28), some (some 29), some (some 30), some (some 31), some (some 32), some (some 33), some (some 34)]), (20, 3, []), (20, 3, []), (20, 3, []), (20, 3, []), (20, 3, []), (20, 3, []), (20, 3, []), (20, 3, [])])) (lay' := jj_B35) 2 jw_f_RX6_26 (rs := [some (some 1), some (some 8), some none, some none, some none, some none, some none, some none, some none, none, none]) rfl rfl (Nat.le_of_ble_eq_true rfl) (Nat.le_of_ble_eq_true rfl) rfl rfl rfl (ty := .object "PlayPool$Audience") (by decide +kernel) (fun _ => rfl) (fun _ => rfl) rfl dX6_init_34 ?_
  refine js_aload_n 0 rfl dX6_init_37 rfl ?_
  refine js_newq (lay := jj_B35) (lay' := (jj_B35 ++ [(4, 7, [none, some none, some none, some none, some none, some none, some none])])) [none, some none, some none, some none, some none, some none, some none] (q := 35) rfl rfl (jj_zz_z (fun q h1 h2 => by omega)) rfl jw_w_RX6_30 jw_v_RX4 jw_ii_RX4 jj_rs4 (fun q h => by simp at h) (Nat.le_of_ble_eq_true rfl) (Nat.le_of_ble_eq_true rfl) dX6_init_38 ?_
  refine js_dup rfl dX6_init_41 ?_
  refine js_callIN (av := []) (st := [.ref 35, .ref 0]) (b := 35) ci_35 (Or.inl rfl) jw_c_X4_init jw_i_RX4 jw_h_RX6_32 jw_s_X4_init rfl jw_y_X4_init rfl ⟨(Nat.le_of_ble_eq_true rfl), (Nat.le_of_ble_eq_true rfl), (Nat.le_of_ble_eq_true rfl), (Nat.le_of_ble_eq_true rfl), (Nat.le_of_ble_eq_true rfl)⟩ dX6_init_42 ?_
  refine js_st (st' := [.ref 35, .ref 0]) rfl ?_
  refine js_putF (lay := (jj_B35 ++ [(4, 7, [none, some (some 36), some (some 37), some (some 38), some (some 39), some (some 40), some (some 41)]), (20, 130, []), (20, 130, []), (20, 130, []), (20, 130, []), (20, 130, []), (20, 130, [])])) (lay' := jj_B42) 3 jw_f_RX6_33 (rs := [some (some 1), some (some 8), some (some 20), some none, some none, some none, some none, some none, some none, none, none]) rfl rfl (Nat.le_of_ble_eq_true rfl) (Nat.le_of_ble_eq_true rfl) rfl rfl rfl (ty := .object "PlayPool$PlayLog") (by decide +kernel) (fun _ => rfl) (fun _ => rfl) rfl dX6_init_45 ?_
  refine js_aload_n 0 rfl dX6_init_48 rfl ?_
  refine js_newq (lay := jj_B42) (lay' := (jj_B42 ++ [(3, 3, [some none, some none, some none])])) [some none, some none, some none] (q := 42) rfl rfl (jj_zz_z (fun q h1 h2 => by omega)) rfl jw_w_RX6_37 jw_v_RX3 jw_ii_RX3 jj_rs3 (fun q h => by simp at h) (Nat.le_of_ble_eq_true rfl) (Nat.le_of_ble_eq_true rfl) dX6_init_49 ?_
  refine js_dup rfl dX6_init_52 ?_
  refine js_callIN (av := []) (st := [.ref 42, .ref 0]) (b := 42) ci_42 (Or.inl rfl) jw_c_X3_init jw_i_RX3 jw_h_RX6_39 jw_s_X3_init rfl jw_y_X3_init rfl ⟨(Nat.le_of_ble_eq_true rfl), (Nat.le_of_ble_eq_true rfl), (Nat.le_of_ble_eq_true rfl), (Nat.le_of_ble_eq_true rfl), (Nat.le_of_ble_eq_true rfl)⟩ dX6_init_53 ?_
  refine js_st (st' := [.ref 42, .ref 0]) rfl ?_
  refine js_putF (lay := (jj_B42 ++ [(3, 3, [some (some 43), some (some 52), some (some 61)]), (22, 8, [some (some 44), some (some 45), some (some 46), some (some 47), some (some 48), some (some 49), some (some 50), some (some 51)]), (20, 10, []), (20, 10, []), (20, 10, []), (20, 10, []), (20, 10, []), (20, 10, []), (20, 10, []), (20, 10, []), (22, 8, [some (some 53), some (some 54), some (some 55), some (some 56), some (some 57), some (some 58), some (some 59), some (some 60)]), (20, 10, []), (20, 10, []), (20, 10, []), (20, 10, []), (20, 10, []), (20, 10, []), (20, 10, []), (20, 10, []), (22, 8, [some (some 62), some (some 63), some (some 64), some (some 65), some (some 66), some (some 67), some (some 68), some (some 69)]), (20, 10, []), (20, 10, []), (20, 10, []), (20, 10, []), (20, 10, []), (20, 10, []), (20, 10, []), (20, 10, [])])) (lay' := jj_B70) 4 jw_f_RX6_40 (rs := [some (some 1), some (some 8), some (some 20), some (some 35), some none, some none, some none, some none, some none, none, none]) rfl rfl (Nat.le_of_ble_eq_true rfl) (Nat.le_of_ble_eq_true rfl) rfl rfl rfl (ty := .object "PlayPool$Counts") (by decide +kernel) (fun _ => rfl) (fun _ => rfl) rfl dX6_init_56 ?_
  refine js_aload_n 0 rfl dX6_init_59 rfl ?_
  refine js_newq (lay := jj_B70) (lay' := (jj_B70 ++ [(1, 12, [none, none, some none, some none, some none, some none, some none, some none, some none, some none, some none, some none])])) [none, none, some none, some none, some none, some none, some none, some none, some none, some none, some none, some none] (q := 70) rfl rfl (jj_zz_z (fun q h1 h2 => by omega)) rfl jw_w_RX6_44 jw_v_RX1 jw_ii_RX1 jj_rs1 (fun q h => by simp at h) (Nat.le_of_ble_eq_true rfl) (Nat.le_of_ble_eq_true rfl) dX6_init_60 ?_
  refine js_dup rfl dX6_init_63 ?_
  refine js_callIN (av := []) (st := [.ref 70, .ref 0]) (b := 70) ci_70 (Or.inl rfl) jw_c_X1_init jw_i_RX1 jw_h_RX6_46 jw_s_X1_init rfl jw_y_X1_init rfl ⟨(Nat.le_of_ble_eq_true rfl), (Nat.le_of_ble_eq_true rfl), (Nat.le_of_ble_eq_true rfl), (Nat.le_of_ble_eq_true rfl), (Nat.le_of_ble_eq_true rfl)⟩ dX6_init_64 ?_
  refine js_st (st' := [.ref 70, .ref 0]) rfl ?_
  refine js_putF (lay := (jj_B70 ++ [(1, 12, [none, none, some (some 71), some (some 72), some (some 73), some (some 74), some (some 75), some (some 76), some (some 77), some (some 78), some (some 79), some (some 80)]), (20, 4, []), (20, 10, []), (20, 10, []), (20, 5, []), (20, 5, []), (20, 5, []), (20, 5, []), (20, 10, []), (20, 10, []), (20, 10, [])])) (lay' := jj_B81) 5 jw_f_RX6_47 (rs := [some (some 1), some (some 8), some (some 20), some (some 35), some (some 42), some none, some none, some none, some none, none, none]) rfl rfl (Nat.le_of_ble_eq_true rfl) (Nat.le_of_ble_eq_true rfl) rfl rfl rfl (ty := .object "PlayPool$Books") (by decide +kernel) (fun _ => rfl) (fun _ => rfl) rfl dX6_init_67 ?_
  refine js_aload_n 0 rfl dX6_init_70 rfl ?_
  refine js_newq (lay := jj_B81) (lay' := (jj_B81 ++ [(1, 12, [none, none, some none, some none, some none, some none, some none, some none, some none, some none, some none, some none])])) [none, none, some none, some none, some none, some none, some none, some none, some none, some none, some none, some none] (q := 81) rfl rfl (jj_zz_z (fun q h1 h2 => by omega)) rfl jw_w_RX6_44 jw_v_RX1 jw_ii_RX1 jj_rs1 (fun q h => by simp at h) (Nat.le_of_ble_eq_true rfl) (Nat.le_of_ble_eq_true rfl) dX6_init_71 ?_
  refine js_dup rfl dX6_init_74 ?_
  refine js_callIN (av := []) (st := [.ref 81, .ref 0]) (b := 81) ci_81 (Or.inl rfl) jw_c_X1_init jw_i_RX1 jw_h_RX6_46 jw_s_X1_init rfl jw_y_X1_init rfl ⟨(Nat.le_of_ble_eq_true rfl), (Nat.le_of_ble_eq_true rfl), (Nat.le_of_ble_eq_true rfl), (Nat.le_of_ble_eq_true rfl), (Nat.le_of_ble_eq_true rfl)⟩ dX6_init_75 ?_
  refine js_st (st' := [.ref 81, .ref 0]) rfl ?_
  refine js_putF (lay := (jj_B81 ++ [(1, 12, [none, none, some (some 82), some (some 83), some (some 84), some (some 85), some (some 86), some (some 87), some (some 88), some (some 89), some (some 90), some (some 91)]), (20, 4, []), (20, 10, []), (20, 10, []), (20, 5, []), (20, 5, []), (20, 5, []), (20, 5, []), (20, 10, []), (20, 10, []), (20, 10, [])])) (lay' := jj_B92) 6 jw_f_RX6_51 (rs := [some (some 1), some (some 8), some (some 20), some (some 35), some (some 42), some (some 70), some none, some none, some none, none, none]) rfl rfl (Nat.le_of_ble_eq_true rfl) (Nat.le_of_ble_eq_true rfl) rfl rfl rfl (ty := .object "PlayPool$Books") (by decide +kernel) (fun _ => rfl) (fun _ => rfl) rfl dX6_init_78 ?_
  refine js_aload_n 0 rfl dX6_init_81 rfl ?_
  refine js_newq (lay := jj_B92) (lay' := (jj_B92 ++ [(1, 12, [none, none, some none, some none, some none, some none, some none, some none, some none, some none, some none, some none])])) [none, none, some none, some none, some none, some none, some none, some none, some none, some none, some none, some none] (q := 92) rfl rfl (jj_zz_z (fun q h1 h2 => by omega)) rfl jw_w_RX6_44 jw_v_RX1 jw_ii_RX1 jj_rs1 (fun q h => by simp at h) (Nat.le_of_ble_eq_true rfl) (Nat.le_of_ble_eq_true rfl) dX6_init_82 ?_
  refine js_dup rfl dX6_init_85 ?_
  refine js_callIN (av := []) (st := [.ref 92, .ref 0]) (b := 92) ci_92 (Or.inl rfl) jw_c_X1_init jw_i_RX1 jw_h_RX6_46 jw_s_X1_init rfl jw_y_X1_init rfl ⟨(Nat.le_of_ble_eq_true rfl), (Nat.le_of_ble_eq_true rfl), (Nat.le_of_ble_eq_true rfl), (Nat.le_of_ble_eq_true rfl), (Nat.le_of_ble_eq_true rfl)⟩ dX6_init_86 ?_
  refine js_st (st' := [.ref 92, .ref 0]) rfl ?_
  refine js_putF (lay := (jj_B92 ++ [(1, 12, [none, none, some (some 93), some (some 94), some (some 95), some (some 96), some (some 97), some (some 98), some (some 99), some (some 100), some (some 101), some (some 102)]), (20, 4, []), (20, 10, []), (20, 10, []), (20, 5, []), (20, 5, []), (20, 5, []), (20, 5, []), (20, 10, []), (20, 10, []), (20, 10, [])])) (lay' := jj_B103) 7 jw_f_RX6_54 (rs := [some (some 1), some (some 8), some (some 20), some (some 35), some (some 42), some (some 70), some (some 81), some none, some none, none, none]) rfl rfl (Nat.le_of_ble_eq_true rfl) (Nat.le_of_ble_eq_true rfl) rfl rfl rfl (ty := .object "PlayPool$Books") (by decide +kernel) (fun _ => rfl) (fun _ => rfl) rfl dX6_init_89 ?_
  refine js_aload_n 0 rfl dX6_init_92 rfl ?_
  refine js_bipush (v := nI 10) dX6_init_93 (by decide) ?_
  refine js_newIq (lay := jj_B103) (lay' := (jj_B103 ++ [(20, 10, [])])) 10 (q := 103) rfl rfl (jj_zz_z (fun q h1 h2 => by omega)) rfl (Nat.le_of_ble_eq_true rfl) (Nat.le_of_ble_eq_true rfl) (Nat.le_of_ble_eq_true rfl) dX6_init_95 ?_
  refine js_putF (lay := (jj_B103 ++ [(20, 10, [])])) (lay' := jj_lay0) 8 jw_f_RX6_57 (rs := [some (some 1), some (some 8), some (some 20), some (some 35), some (some 42), some (some 70), some (some 81), some (some 92), some none, none, none]) rfl rfl (Nat.le_of_ble_eq_true rfl) (Nat.le_of_ble_eq_true rfl) rfl rfl rfl (ty := .array .int) (by decide +kernel) (fun _ => rfl) (fun _ => rfl) rfl dX6_init_97 ?_
  refine js_aload_n 0 rfl dX6_init_100 rfl ?_
  refine js_iconst (v := nI 0) dX6_init_101 (by decide) ?_
  refine js_put 9 jw_f_RX6_61 (jl_0 jj_pp0) rfl (Nat.le_of_ble_eq_true rfl) rfl rfl (by decide +kernel) dX6_init_102 ?_
  rw [jj_zz_w (by omega)]
  refine js_aload_n 0 rfl dX6_init_105 rfl ?_
  refine js_iconst (v := nI 0) dX6_init_106 (by decide) ?_
  refine js_put 10 jw_f_RX6_65 (jl_0 jj_pp0) rfl (Nat.le_of_ble_eq_true rfl) rfl rfl (by decide +kernel) dX6_init_107 ?_
  rw [jj_zz_w (by omega)]
  exact jj_refl

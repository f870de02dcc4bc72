/-! SPLIT, SHARE, RECOUP, PAY. -/
theorem jj_w_row_comm {S : jj_Mem} {p p' n i : Nat} {h' : Nat → Nat} {x : Int32} (hp : p ≠ p') : jj_w (jj_row S p' n h') p i x = jj_row (jj_w S p i x) p' n h' := by
  funext q j
  unfold jj_w jj_row
  by_cases c : q = p' ∧ j < n
  · rw [if_neg (fun w => hp (w.1.symm.trans c.1)), if_pos c, if_pos c]
  · rw [if_neg c, if_neg c]
theorem jj_row2_s {S : jj_Mem} {p p' e : Nat} {h h' : Nat → Nat} (hp : p ≠ p') {x y : Int32} (hx : x = nI (h e)) (hy : y = nI (h' e)) : jj_w (jj_w (jj_row (jj_row S p e h) p' e h') p e x) p' e y = jj_row (jj_row S p (e + 1) h) p' (e + 1) h' := by
  rw [jj_w_row_comm hp, jj_row_s S p e h hx, jj_row_s _ p' e h' hy]
theorem jj_row_comm {S : jj_Mem} {p p' n n' : Nat} {h h' : Nat → Nat} (hp : p ≠ p') : jj_row (jj_row S p n h) p' n' h' = jj_row (jj_row S p' n' h') p n h := by
  funext q j
  unfold jj_row
  by_cases c : q = p' ∧ j < n'
  · rw [if_pos c, if_neg (fun w => hp (w.1.symm.trans c.1)), if_pos c]
  · rw [if_neg c, if_neg c]
theorem jj_w_row {S : jj_Mem} {p n i y : Nat} {h : Nat → Nat} (hi : i < n) {x : Int32} (hx : x = nI y) : jj_w (jj_row S p n h) p i x = jj_row S p n (jj_up h i y) := by
  funext q j
  unfold jj_w jj_row jj_up
  by_cases c : q = p ∧ j = i
  · rw [if_pos c, if_pos ⟨c.1, by omega⟩, if_pos c.2, hx]
  · rw [if_neg c]
    by_cases d : q = p ∧ j < n
    · rw [if_pos d, if_pos d, if_neg (fun w => c ⟨d.1, w⟩)]
    · rw [if_neg d, if_neg d]
theorem jj_ife {A B : Nat → Nat} {e : Nat} (h : A e = B e) (j : Nat) : (if j < e then A j else B j) = (if j < e + 1 then A j else B j) := by
  by_cases c : j = e
  · rw [c, if_neg (by omega), if_pos (by omega), h]
  · by_cases d : j < e
    · rw [if_pos d, if_pos (by omega)]
    · rw [if_neg d, if_neg (by omega)]
theorem jj_ifu {A B : Nat → Nat} {e y : Nat} (h : A e = y) (j : Nat) : jj_up (fun j => if j < e then A j else B j) e y j = (if j < e + 1 then A j else B j) := by
  unfold jj_up
  by_cases c : j = e
  · rw [if_pos c, c, if_pos (by omega), h]
  · rw [if_neg c]
    show (if j < e then A j else B j) = _
    by_cases d : j < e
    · rw [if_pos d, if_pos (by omega)]
    · rw [if_neg d, if_neg (by omega)]
set_option maxRecDepth 100000 in
set_option maxHeartbeats 4000000 in
theorem ct_X5_claimsOf {lay : jj_Lay} {S : jj_Mem} {u : Nat} {cl : Nat → Nat → Nat} (hB : jj_pp lay) (hu : u < 10) (hcm : jj_cm S cl) : jj_CT yX5_claimsOf (.code yX5_claimsOf cX5_claimsOf 2 (some .int)) none 1 25 [.ref 8, .int (nI u)] lay S (some (.int (nI (jj_sm (fun q => cl u q) 5)))) lay S := by
  refine jj_mkI RX5 .int (by decide) rfl (L := [some (.ref 8), some (.int (nI u))]) rfl rfl rfl ⟨9, [some (.ref 8), some (.int (nI u))], dX5_claimsOf_9, ?_⟩
  refine js_aload_n 0 rfl dX5_claimsOf_0 rfl ?_
  refine js_getr 0 jw_f_RX5_11 (jl_8 hB) rfl (Nat.le_of_ble_eq_true rfl) rfl dX5_claimsOf_1 ?_
  refine js_iload_n 1 rfl dX5_claimsOf_4 rfl ?_
  refine js_aald u rfl (jl_9 hB) (by omega) (by decide) (jr_cl u hu) dX5_claimsOf_5 ?_
  refine js_callSN (av := [.ref (10 + u)]) (st := []) (ct_X6_sumOf (f := fun q => cl u q) (jl_cl hB u hu) (by omega) (fun j hj => (hcm u hu j hj).1)) (Or.inl rfl) jw_c_X6_sumOf jw_i_RX6 jw_h_RX5_16 jw_s_X6_sumOf jw_y_X6_sumOf rfl ⟨(Nat.le_of_ble_eq_true rfl), (Nat.le_of_ble_eq_true rfl), (Nat.le_refl _), (Nat.le_refl _), (Nat.le_of_ble_eq_true rfl)⟩ dX5_claimsOf_6 ?_
  refine js_st (st' := [.int (nI (jj_sm (fun q => cl u q) 5))]) rfl ?_
  exact jj_refl
theorem jj_cm_sm {S : jj_Mem} {cl : Nat → Nat → Nat} (h : jj_cm S cl) {u : Nat} (hu : u < 10) : jj_sm (fun q => cl u q) 5 ≤ 500 := by
  have h1 := jj_sm_le (f := fun q => cl u q) (g := fun _ => 100) (n := 5) (fun j hj => (h u hu j hj).2)
  rw [jj_sm_const] at h1
  omega
set_option maxRecDepth 100000 in
set_option maxHeartbeats 4000000 in
theorem ct_X5_isInConflict {lay : jj_Lay} {S : jj_Mem} {u : Nat} {cl : Nat → Nat → Nat} (hB : jj_pp lay) (hu : u < 10) (hcm : jj_cm S cl) : jj_CT yX5_isInConflict (.code yX5_isInConflict cX5_isInConflict 2 (some .boolean)) none 2 46 [.ref 8, .int (nI u)] lay S (some (.int (nI (jj_b (decide (100 < jj_sm (fun q => cl u q) 5)))))) lay S := by
  have h5 := jj_cm_sm hcm hu
  by_cases h : 100 < jj_sm (fun q => cl u q) 5
  · rw [show jj_b (decide (100 < jj_sm (fun q => cl u q) 5)) = 1 by simp [jj_b, h]]
    refine jj_mkI RX5 .boolean (by decide) rfl (L := [some (.ref 8), some (.int (nI u))]) rfl rfl rfl ⟨15, [some (.ref 8), some (.int (nI u))], dX5_isInConflict_15, ?_⟩
    refine js_aload_n 0 rfl dX5_isInConflict_0 rfl ?_
    refine js_iload_n 1 rfl dX5_isInConflict_1 rfl ?_
    refine js_callV (av := [.int (nI u)]) (st := []) (b := 8) (ct_X5_claimsOf hB hu hcm) (Or.inl rfl) jw_c_X5_claimsOf jw_i_RX5 jw_m_RX5_20 jw_s_X5_claimsOf jw_e_X5_claimsOf (jl_8 hB) rfl jw_y_X5_claimsOf rfl ⟨(Nat.le_of_ble_eq_true rfl), (Nat.le_of_ble_eq_true rfl), (Nat.le_refl _), (Nat.le_refl _), (Nat.le_of_ble_eq_true rfl)⟩ dX5_isInConflict_2 ?_
    refine js_st (st' := [.int (nI (jj_sm (fun q => cl u q) 5))]) rfl ?_
    refine js_bipush (v := nI 100) dX5_isInConflict_5 (by decide) ?_
    refine jn_icmp_le 14 (by omega) (by omega) dX5_isInConflict_7 (by decide) (fun h9 => absurd h9 (by omega)) (fun _ => ?_)
    refine js_iconst (v := nI 1) dX5_isInConflict_10 (by decide) ?_
    refine js_goto 15 dX5_isInConflict_11 (by decide) ?_
    exact jj_refl
  · rw [show jj_b (decide (100 < jj_sm (fun q => cl u q) 5)) = 0 by simp [jj_b, h]]
    refine jj_mkI RX5 .boolean (by decide) rfl (L := [some (.ref 8), some (.int (nI u))]) rfl rfl rfl ⟨15, [some (.ref 8), some (.int (nI u))], dX5_isInConflict_15, ?_⟩
    refine js_aload_n 0 rfl dX5_isInConflict_0 rfl ?_
    refine js_iload_n 1 rfl dX5_isInConflict_1 rfl ?_
    refine js_callV (av := [.int (nI u)]) (st := []) (b := 8) (ct_X5_claimsOf hB hu hcm) (Or.inl rfl) jw_c_X5_claimsOf jw_i_RX5 jw_m_RX5_20 jw_s_X5_claimsOf jw_e_X5_claimsOf (jl_8 hB) rfl jw_y_X5_claimsOf rfl ⟨(Nat.le_of_ble_eq_true rfl), (Nat.le_of_ble_eq_true rfl), (Nat.le_refl _), (Nat.le_refl _), (Nat.le_of_ble_eq_true rfl)⟩ dX5_isInConflict_2 ?_
    refine js_st (st' := [.int (nI (jj_sm (fun q => cl u q) 5))]) rfl ?_
    refine js_bipush (v := nI 100) dX5_isInConflict_5 (by decide) ?_
    refine jn_icmp_le 14 (by omega) (by omega) dX5_isInConflict_7 (by decide) (fun _ => ?_) (fun h9 => absurd h9 (by omega))
    refine js_iconst (v := nI 0) dX5_isInConflict_14 (by decide) ?_
    exact jj_refl
set_option maxRecDepth 100000 in
set_option maxHeartbeats 4000000 in
theorem lp_X1_split {lay : jj_Lay} {S : jj_Mem} {b q a W : Nat} {g w : Nat → Nat} (hK : jj_bk lay b) (hq : lay[q]? = some (20, 10, [])) (hq8 : q ≠ b + 8) (hq10 : q ≠ b + 10) (hg : ∀ j, j < 10 → S (b + 8) j = some (nI (g j))) (hw : ∀ j, j < 10 → S q j = some (nI (w j))) (hs : jj_sm w 10 = W) (hW : 0 < W) (hW2 : W < 1000000) (ha : a < 2 ^ 31) (ham : ∀ j, j < 10 → a * w j < 2 ^ 31) : ∀ (k e : Nat), e + k = 10 → jj_R cX1_split 7 RX1 yX1_split.name none 1 25 lay.length (jj_sl lay) (17, [some (.ref b), some (.int (nI a)), some (.ref q), some (.int (nI W)), some (.int (nI (a - jj_sm (fun j => a * w j / W) e))), some (.int (nI e)), none], [], lay, (jj_row (jj_row S (b + 8) e (fun j => g j + a * w j / W)) (b + 10) e (fun j => a * w j % W))) (75, [some (.ref b), some (.int (nI a)), some (.ref q), some (.int (nI W)), some (.int (nI (a - jj_sm (fun j => a * w j / W) 10))), some (.int (nI 0)), none], [], lay, (jj_row (jj_row S (b + 8) 10 (fun j => g j + a * w j / W)) (b + 10) 10 (fun j => a * w j % W))) := by
  intro k
  induction k with
  | zero =>
    intro e he
    have he : e = 10 := by omega
    subst he
    refine js_iload dX1_split_17 rfl ?_
    refine js_bipush (v := nI 10) dX1_split_19 (by decide) ?_
    refine jn_icmp_ge 72 (by omega) (by omega) dX1_split_21 (by decide) (fun _ => ?_) (fun h9 => absurd h9 (by omega))
    refine js_iconst (v := nI 0) dX1_split_72 (by decide) ?_
    refine js_istore (L' := [some (.ref b), some (.int (nI a)), some (.ref q), some (.int (nI W)), some (.int (nI (a - jj_sm (fun j => a * w j / W) 10))), some (.int (nI 0)), none]) dX1_split_73 rfl (Nat.le_of_ble_eq_true rfl) ?_
    exact jj_refl
  | succ k ih =>
    intro e he
    refine jj_tr ?_ (ih (e + 1) (by omega))
    refine js_iload dX1_split_17 rfl ?_
    refine js_bipush (v := nI 10) dX1_split_19 (by decide) ?_
    refine jn_icmp_ge 72 (by omega) (by omega) dX1_split_21 (by decide) (fun h9 => absurd h9 (by omega)) (fun _ => ?_)
    have hm := ham e (by omega)
    have hl := Nat.le_trans (jj_sm_mono (f := (fun j => a * w j / W)) (show e + 1 ≤ 10 by omega)) (jj_left (a := a) hW hs).1
    have hl2 : jj_sm (fun j => a * w j / W) (e + 1) = jj_sm (fun j => a * w j / W) e + a * w e / W := rfl
    refine js_iload_n 1 rfl dX1_split_24 rfl ?_
    refine js_aload_n 2 rfl dX1_split_25 rfl ?_
    refine js_iload dX1_split_26 rfl ?_
    refine js_iald e rfl hq (by omega) (by decide) ((jj_row_neP hq10).trans ((jj_row_neP hq8).trans (hw e (by omega)))) dX1_split_28 ?_
    refine jn_imul dX1_split_29 ?_
    refine js_istore (L' := [some (.ref b), some (.int (nI a)), some (.ref q), some (.int (nI W)), some (.int (nI (a - jj_sm (fun j => a * w j / W) e))), some (.int (nI e)), some (.int (nI (a * ((w e)))))]) dX1_split_30 rfl (Nat.le_of_ble_eq_true rfl) ?_
    refine js_aload_n 0 rfl dX1_split_32 rfl ?_
    refine js_getr 9 jw_f_RX1_40 (jk_0 hK) rfl (Nat.le_of_ble_eq_true rfl) rfl dX1_split_33 ?_
    refine js_iload dX1_split_36 rfl ?_
    refine js_dup2 rfl rfl dX1_split_38 ?_
    refine js_iald e rfl (jk_8 hK) (by omega) (by decide) ((jj_row_neP (by omega)).trans ((jj_row_hi (Nat.le_refl _)).trans (hg e (by omega)))) dX1_split_39 ?_
    refine js_iload dX1_split_40 rfl ?_
    refine js_iload_n 3 rfl dX1_split_42 rfl ?_
    refine jn_idiv (by omega) (by omega) (by omega) dX1_split_43 ?_
    refine jn_iadd dX1_split_44 ?_
    refine js_iast e rfl (jk_8 hK) (by omega) (by decide) dX1_split_45 ?_
    refine js_aload_n 0 rfl dX1_split_46 rfl ?_
    refine js_getr 11 jw_f_RX1_46 (jk_0 hK) rfl (Nat.le_of_ble_eq_true rfl) rfl dX1_split_47 ?_
    refine js_iload dX1_split_50 rfl ?_
    refine js_iload dX1_split_52 rfl ?_
    refine js_iload_n 3 rfl dX1_split_54 rfl ?_
    refine jn_irem (by omega) (by omega) (by omega) dX1_split_55 ?_
    refine js_iast e rfl (jk_10 hK) (by omega) (by decide) dX1_split_56 ?_
    rw [jj_row2_s (h := (fun j => g j + a * w j / W)) (h' := (fun j => a * w j % W)) (show b + 8 ≠ b + 10 by omega) rfl rfl]
    refine js_iload dX1_split_57 rfl ?_
    refine js_iload dX1_split_59 rfl ?_
    refine js_iload_n 3 rfl dX1_split_61 rfl ?_
    refine jn_idiv (by omega) (by omega) (by omega) dX1_split_62 ?_
    refine jn_isub (by omega) dX1_split_63 ?_
    rw [Nat.sub_sub]
    refine js_istore (L' := [some (.ref b), some (.int (nI a)), some (.ref q), some (.int (nI W)), some (.int (nI (a - (jj_sm (fun j => a * w j / W) e + a * w e / W)))), some (.int (nI e)), some (.int (nI (a * ((w e)))))]) dX1_split_64 rfl (Nat.le_of_ble_eq_true rfl) ?_
    refine js_iinc (v := nI (e + 1)) (L' := [some (.ref b), some (.int (nI a)), some (.ref q), some (.int (nI W)), some (.int (nI (a - (jj_sm (fun j => a * w j / W) e + a * w e / W)))), some (.int (nI (e + 1))), some (.int (nI (a * ((w e)))))]) dX1_split_66 rfl (jj_inc _) rfl ?_
    refine js_goto 17 dX1_split_69 (by decide) ?_
    refine js_fgL (L' := [some (.ref b), some (.int (nI a)), some (.ref q), some (.int (nI W)), some (.int (nI (a - jj_sm (fun j => a * w j / W) (e + 1)))), some (.int (nI (e + 1))), none]) (by simp [jj_le, jj_sm]) ?_
    exact jj_refl
set_option maxRecDepth 100000 in
set_option maxHeartbeats 4000000 in
theorem lq_X1_split {lay : jj_Lay} {S : jj_Mem} {b q a W : Nat} {g w : Nat → Nat} (hK : jj_bk lay b) (hq : lay[q]? = some (20, 10, [])) (hq8 : q ≠ b + 8) (hq10 : q ≠ b + 10) (hg : ∀ j, j < 10 → S (b + 8) j = some (nI (g j))) (hw : ∀ j, j < 10 → S q j = some (nI (w j))) (hs : jj_sm w 10 = W) (hW : 0 < W) (hW2 : W < 1000000) (ha : a < 2 ^ 31) (ham : ∀ j, j < 10 → a * w j < 2 ^ 31) : ∀ (k e : Nat), e + k = 10 → jj_RR cX1_split 7 RX1 yX1_split.name none 1 25 lay.length (jj_sl lay) (75, [some (.ref b), some (.int (nI a)), some (.ref q), some (.int (nI W)), some (.int (nI (a - jj_sm (fun j => a * w j / W) 10))), some (.int (nI e)), none], [], lay, (jj_row (jj_row S (b + 10) 10 (fun j => a * w j % W)) (b + 8) 10 (fun j => if j < e then jj_g2 g w a W j else g j + a * w j / W))) (some (.int (nI 0))) .ireturn lay (jj_row (jj_row S (b + 10) 10 (fun j => a * w j % W)) (b + 8) 10 (jj_g2 g w a W)) := by
  intro k
  induction k with
  | zero =>
    intro e he
    have he : e = 10 := by omega
    subst he
    rw [show (jj_row (jj_row S (b + 10) 10 (fun j => a * w j % W)) (b + 8) 10 (fun j => if j < 10 then jj_g2 g w a W j else g j + a * w j / W)) = (jj_row (jj_row S (b + 10) 10 (fun j => a * w j % W)) (b + 8) 10 (jj_g2 g w a W)) from jj_row_congr (fun j hj => if_pos hj)]
    refine ⟨114, [some (.ref b), some (.int (nI a)), some (.ref q), some (.int (nI W)), some (.int (nI (a - jj_sm (fun j => a * w j / W) 10))), some (.int (nI 10)), none], dX1_split_114, ?_⟩
    refine js_iload dX1_split_75 rfl ?_
    refine js_bipush (v := nI 10) dX1_split_77 (by decide) ?_
    refine jn_icmp_ge 113 (by omega) (by omega) dX1_split_79 (by decide) (fun _ => ?_) (fun h9 => absurd h9 (by omega))
    refine js_iconst (v := nI 0) dX1_split_113 (by decide) ?_
    exact jj_refl
  | succ k ih =>
    intro e he
    refine jj_RRs ?_ (ih (e + 1) (by omega))
    refine js_iload dX1_split_75 rfl ?_
    refine js_bipush (v := nI 10) dX1_split_77 (by decide) ?_
    refine jn_icmp_ge 113 (by omega) (by omega) dX1_split_79 (by decide) (fun h9 => absurd h9 (by omega)) (fun _ => ?_)
    refine js_aload_n 0 rfl dX1_split_82 rfl ?_
    refine js_getr 11 jw_f_RX1_46 (jk_0 hK) rfl (Nat.le_of_ble_eq_true rfl) rfl dX1_split_83 ?_
    refine js_iload dX1_split_86 rfl ?_
    refine js_callSN (av := [.ref (b + 10), .int (nI e)]) (st := []) (ct_X6_placeOf (f := (fun j => a * w j % W)) (jk_10 hK) (by omega) (by omega) (fun j hj => (jj_row_neP (by omega)).trans (jj_row_at hj)) (fun j hj => Nat.lt_of_le_of_lt (Nat.mod_le _ _) (ham j hj))) (Or.inl rfl) jw_c_X6_placeOf jw_i_RX6 jw_h_RX1_118 jw_s_X6_placeOf jw_y_X6_placeOf rfl ⟨(Nat.le_of_ble_eq_true rfl), (Nat.le_of_ble_eq_true rfl), (Nat.le_refl _), (Nat.le_refl _), (Nat.le_of_ble_eq_true rfl)⟩ dX1_split_88 ?_
    refine js_st (st' := [.int (nI (jj_pl (fun j => a * w j % W) e 10))]) rfl ?_
    have hp1 := jj_pl_lt (f := (fun j => a * w j % W)) (n := 10) (w := e) (by omega)
    refine js_iload dX1_split_91 rfl ?_
    refine jn_icmp_ge 107 (by omega) (by omega) dX1_split_93 (by decide) (fun h5 => ?_) (fun h5 => ?_)
    · have hg2 : jj_g2 g w a W e = g e + a * w e / W + 0 := by unfold jj_g2; rw [show jj_b (decide (jj_pl (fun j => a * w j % W) e 10 < a - jj_sm (fun j => a * w j / W) 10)) = 0 by simp [jj_b]; omega]
      rw [show (jj_row (jj_row S (b + 10) 10 (fun j => a * w j % W)) (b + 8) 10 (fun j => if j < e then jj_g2 g w a W j else g j + a * w j / W)) = (jj_row (jj_row S (b + 10) 10 (fun j => a * w j % W)) (b + 8) 10 (fun j => if j < (e + 1) then jj_g2 g w a W j else g j + a * w j / W)) from jj_row_congr (fun j hj => jj_ife (A := jj_g2 g w a W) (B := (fun j => g j + a * w j / W)) hg2 j)]
      refine js_iinc (v := nI (e + 1)) (L' := [some (.ref b), some (.int (nI a)), some (.ref q), some (.int (nI W)), some (.int (nI (a - jj_sm (fun j => a * w j / W) 10))), some (.int (nI (e + 1))), none]) dX1_split_107 rfl (jj_inc _) rfl ?_
      refine js_goto 75 dX1_split_110 (by decide) ?_
      exact jj_refl
    · have hg2 : jj_g2 g w a W e = g e + a * w e / W + 1 := by unfold jj_g2; rw [show jj_b (decide (jj_pl (fun j => a * w j % W) e 10 < a - jj_sm (fun j => a * w j / W) 10)) = 1 by simp [jj_b]; omega]
      refine js_aload_n 0 rfl dX1_split_96 rfl ?_
      refine js_getr 9 jw_f_RX1_40 (jk_0 hK) rfl (Nat.le_of_ble_eq_true rfl) rfl dX1_split_97 ?_
      refine js_iload dX1_split_100 rfl ?_
      refine js_dup2 rfl rfl dX1_split_102 ?_
      refine js_iald e rfl (jk_8 hK) (by omega) (by decide) ((jj_row_at (by omega)).trans (by rw [if_neg (by omega)])) dX1_split_103 ?_
      refine js_iconst (v := nI 1) dX1_split_104 (by decide) ?_
      refine jn_iadd dX1_split_105 ?_
      refine js_iast e rfl (jk_8 hK) (by omega) (by decide) dX1_split_106 ?_
      rw [jj_w_row (y := g e + a * w e / W + 1) (by omega) rfl]
      rw [show jj_row (jj_row S (b + 10) 10 (fun j => a * w j % W)) (b + 8) 10 (jj_up (fun j => if j < e then jj_g2 g w a W j else g j + a * w j / W) e (g e + a * w e / W + 1)) = (jj_row (jj_row S (b + 10) 10 (fun j => a * w j % W)) (b + 8) 10 (fun j => if j < (e + 1) then jj_g2 g w a W j else g j + a * w j / W)) from jj_row_congr (fun j hj => jj_ifu hg2 j)]
      refine js_iinc (v := nI (e + 1)) (L' := [some (.ref b), some (.int (nI a)), some (.ref q), some (.int (nI W)), some (.int (nI (a - jj_sm (fun j => a * w j / W) 10))), some (.int (nI (e + 1))), none]) dX1_split_107 rfl (jj_inc _) rfl ?_
      refine js_goto 75 dX1_split_110 (by decide) ?_
      exact jj_refl
set_option maxRecDepth 100000 in
set_option maxHeartbeats 4000000 in
theorem ct_X1_split {lay : jj_Lay} {S : jj_Mem} {b q a W : Nat} {g w : Nat → Nat} (hK : jj_bk lay b) (hq : lay[q]? = some (20, 10, [])) (hq8 : q ≠ b + 8) (hq10 : q ≠ b + 10) (hg : ∀ j, j < 10 → S (b + 8) j = some (nI (g j))) (hw : ∀ j, j < 10 → S q j = some (nI (w j))) (hs : jj_sm w 10 = W) (hW : 0 < W) (hW2 : W < 1000000) (ha : a < 2 ^ 31) (ham : ∀ j, j < 10 → a * w j < 2 ^ 31) : jj_CT yX1_split (.code yX1_split cX1_split 7 (some .int)) none 1 25 [.ref b, .int (nI a), .ref q] lay S (some (.int (nI 0))) lay (jj_row (jj_row S (b + 10) 10 (fun j => a * w j % W)) (b + 8) 10 (jj_g2 g w a W)) := by
  refine jj_mkI RX1 .int (by decide) rfl (L := [some (.ref b), some (.int (nI a)), some (.ref q), none, none, none, none]) rfl rfl rfl ?_
  have h1 := lp_X1_split (S := S) hK hq hq8 hq10 hg hw hs hW hW2 ha ham 10 0 (by omega)
  have h2 := lq_X1_split (S := S) hK hq hq8 hq10 hg hw hs hW hW2 ha ham 10 0 (by omega)
  rw [jj_row_0, jj_row_0] at h1
  have h0 : (jj_row (jj_row S (b + 10) 10 (fun j => a * w j % W)) (b + 8) 10 (fun j => if j < 0 then jj_g2 g w a W j else g j + a * w j / W)) = (jj_row (jj_row S (b + 8) 10 (fun j => g j + a * w j / W)) (b + 10) 10 (fun j => a * w j % W)) := by
    rw [jj_row_comm (show b + 8 ≠ b + 10 by omega)]
    exact jj_row_congr (fun j hj => if_neg (by omega))
  rw [h0] at h2
  refine jj_RRs (jj_tr ?_ h1) h2
  refine js_aload_n 2 rfl dX1_split_0 rfl ?_
  refine js_callSN (av := [.ref q]) (st := []) (ct_X6_sumOf (f := w) hq (by omega) hw) (Or.inl rfl) jw_c_X6_sumOf jw_i_RX6 jw_h_RX1_114 jw_s_X6_sumOf jw_y_X6_sumOf rfl ⟨(Nat.le_of_ble_eq_true rfl), (Nat.le_of_ble_eq_true rfl), (Nat.le_refl _), (Nat.le_refl _), (Nat.le_of_ble_eq_true rfl)⟩ dX1_split_1 ?_
  refine js_st (st' := [.int (nI (jj_sm w 10))]) rfl ?_
  refine js_top (y := nI W) (by rw [hs]) ?_
  refine js_istore_n (L' := [some (.ref b), some (.int (nI a)), some (.ref q), some (.int (nI W)), none, none, none]) 3 rfl dX1_split_4 rfl (Nat.le_of_ble_eq_true rfl) ?_
  refine js_iload_n 3 rfl dX1_split_5 rfl ?_
  refine jn_if_gt 11 (by omega) dX1_split_6 (by decide) (fun _ => ?_) (fun h9 => absurd h9 (by omega))
  refine js_iload_n 1 rfl dX1_split_11 rfl ?_
  refine js_istore (L' := [some (.ref b), some (.int (nI a)), some (.ref q), some (.int (nI W)), some (.int (nI a)), none, none]) dX1_split_12 rfl (Nat.le_of_ble_eq_true rfl) ?_
  refine js_iconst (v := nI 0) dX1_split_14 (by decide) ?_
  refine js_istore (L' := [some (.ref b), some (.int (nI a)), some (.ref q), some (.int (nI W)), some (.int (nI a)), some (.int (nI 0)), none]) dX1_split_15 rfl (Nat.le_of_ble_eq_true rfl) ?_
  exact jj_refl
set_option maxRecDepth 100000 in
set_option maxHeartbeats 4000000 in
theorem ct_X1_split_0 {lay : jj_Lay} {S : jj_Mem} {b q a : Nat} {w : Nat → Nat} (hq : lay[q]? = some (20, 10, [])) (hw : ∀ j, j < 10 → S q j = some (nI (w j))) (hs : jj_sm w 10 = 0) : jj_CT yX1_split (.code yX1_split cX1_split 7 (some .int)) none 1 25 [.ref b, .int (nI a), .ref q] lay S (some (.int (nI a))) lay S := by
  refine jj_mkI RX1 .int (by decide) rfl (L := [some (.ref b), some (.int (nI a)), some (.ref q), none, none, none, none]) rfl rfl rfl ⟨10, [some (.ref b), some (.int (nI a)), some (.ref q), some (.int (nI 0)), none, none, none], dX1_split_10, ?_⟩
  refine js_aload_n 2 rfl dX1_split_0 rfl ?_
  refine js_callSN (av := [.ref q]) (st := []) (ct_X6_sumOf (f := w) hq (by omega) hw) (Or.inl rfl) jw_c_X6_sumOf jw_i_RX6 jw_h_RX1_114 jw_s_X6_sumOf jw_y_X6_sumOf rfl ⟨(Nat.le_of_ble_eq_true rfl), (Nat.le_of_ble_eq_true rfl), (Nat.le_refl _), (Nat.le_refl _), (Nat.le_of_ble_eq_true rfl)⟩ dX1_split_1 ?_
  refine js_st (st' := [.int (nI (jj_sm w 10))]) rfl ?_
  refine js_top (y := nI 0) (by rw [hs]) ?_
  refine js_istore_n (L' := [some (.ref b), some (.int (nI a)), some (.ref q), some (.int (nI 0)), none, none, none]) 3 rfl dX1_split_4 rfl (Nat.le_of_ble_eq_true rfl) ?_
  refine js_iload_n 3 rfl dX1_split_5 rfl ?_
  refine jn_if_gt 11 (by omega) dX1_split_6 (by decide) (fun h9 => absurd h9 (by omega)) (fun _ => ?_)
  refine js_iload_n 1 rfl dX1_split_9 rfl ?_
  exact jj_refl
/-- a split, both ways -/
theorem ct_X1_split_x {lay : jj_Lay} {S : jj_Mem} {b q a : Nat} {g w : Nat → Nat} (hK : jj_bk lay b) (hq : lay[q]? = some (20, 10, [])) (hq8 : q ≠ b + 8) (hq10 : q ≠ b + 10) (hg : ∀ j, j < 10 → S (b + 8) j = some (nI (g j))) (hw : ∀ j, j < 10 → S q j = some (nI (w j))) (hw2 : jj_sm w 10 ≤ 1000) (ha : a ≤ 1000000) :
    ∃ (rv : Nat) (g' : Nat → Nat) (S' : jj_Mem), jj_CT yX1_split (.code yX1_split cX1_split 7 (some .int)) none 1 25 [.ref b, .int (nI a), .ref q] lay S (some (.int (nI rv))) lay S' ∧ (∀ j, j < 10 → S' (b + 8) j = some (nI (g' j))) ∧ rv + jj_sm g' 10 = a + jj_sm g 10 ∧ (∀ j, g j ≤ g' j) ∧ (∀ p, p ≠ b + 8 → p ≠ b + 10 → ∀ j, S' p j = S p j) := by
  by_cases h0 : jj_sm w 10 = 0
  · exact ⟨a, g, S, ct_X1_split_0 hq hw h0, hg, rfl, fun _ => Nat.le_refl _, fun _ _ _ _ => rfl⟩
  · refine ⟨0, jj_g2 g w a (jj_sm w 10), _, ct_X1_split (W := jj_sm w 10) hK hq hq8 hq10 hg hw rfl (by omega) (by omega) (by omega) (fun j hj => ?_), fun j hj => jj_row_at hj, ?_, fun j => ?_, fun p h8 h10 j => (jj_row_neP h8).trans (jj_row_neP h10)⟩
    · have h1 := jj_sm_at (f := w) hj
      have h2 : a * w j ≤ 1000000 * 1000 := Nat.mul_le_mul ha (by omega)
      omega
    · rw [jj_g2_sum (by omega) rfl]; omega
    · exact Nat.le_trans (Nat.le_add_right _ _) (Nat.le_add_right _ _)

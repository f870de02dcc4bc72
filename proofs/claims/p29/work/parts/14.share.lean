/-! SPLIT BY LISTENER; SHARE; RECOUP; PAY OUT. -/
theorem jj_row_upd {S : jj_Mem} {p i n : Nat} {f : Nat → Nat} {y : Nat} (h : ∀ j, j < n → S p j = some (nI (f j))) : ∀ j, j < n → jj_w S p i (nI y) p j = some (nI (jj_up f i y j)) := fun j hj => by
  unfold jj_w jj_up
  by_cases c : j = i
  · rw [if_pos ⟨rfl, c⟩, if_pos c]
  · rw [if_neg (fun w => c w.2), if_neg c, h j hj]
set_option maxRecDepth 100000 in
set_option maxHeartbeats 4000000 in
theorem lp_X1_splitByListener {lay : jj_Lay} (hB : jj_pp lay) {cnt : Nat} {ld pl : Nat → Nat} {b land : Nat} {im : Nat → Nat → Nat} (hK : jj_bk lay b) (hla : land < 4) (him2 : ∀ l, l < cnt → jj_sm (im l) 10 ≤ 1000) : ∀ (k e : Nat), e + k = cnt → ∀ (S : jj_Mem) (ca g : Nat → Nat), jj_au S cnt ld pl → jj_im S cnt im → (∀ j, j < 4 → S (b + 1) j = some (nI (ca j))) → (∀ j, j < 10 → S (b + 8) j = some (nI (g j))) → ∃ (ca' g' : Nat → Nat) (S' : jj_Mem), jj_RR cX1_splitByListener 5 RX1 yX1_splitByListener.name none 2 51 lay.length (jj_sl lay) (3, [some (.ref b), some (.int (nI land)), some (.ref 20), some (.ref 42), some (.int (nI e))], [], lay, S) none .return_ lay S' ∧ (∀ j, j < 4 → S' (b + 1) j = some (nI (ca' j))) ∧ (∀ j, j < 10 → S' (b + 8) j = some (nI (g' j))) ∧ (∀ j, j ≠ land → ca' j = ca j) ∧ ca' land + jj_sm g' 10 + jj_po ld pl land e = ca land + jj_sm g 10 + jj_po ld pl land cnt ∧ (∀ j, g j ≤ g' j) ∧ (∀ p, p ≠ b + 1 → p ≠ b + 8 → p ≠ b + 10 → ∀ j, S' p j = S p j) := by
  intro k
  induction k with
  | zero =>
    intro e he S ca g hau him hca hg
    have he : e = cnt := by omega
    subst he
    refine ⟨ca, g, S, ⟨55, [some (.ref b), some (.int (nI land)), some (.ref 20), some (.ref 42), some (.int (nI e))], dX1_splitByListener_55, ?_⟩, hca, hg, fun _ _ => rfl, rfl, fun _ => Nat.le_refl _, fun _ _ _ _ _ => rfl⟩
    have hc8 := hau.1
    have hb := jk_b hK
    refine js_iload dX1_splitByListener_3 rfl ?_
    refine js_aload_n 2 rfl dX1_splitByListener_5 rfl ?_
    refine js_getNi 0 jw_n_RX1_89 (jl_20 hB) rfl (Nat.le_of_ble_eq_true rfl) rfl (hau.2.1) dX1_splitByListener_6 ?_
    refine jn_icmp_ge 55 (by omega) (by omega) dX1_splitByListener_9 (by decide) (fun _ => ?_) (fun h9 => absurd h9 (by omega))
    exact jj_refl
  | succ k ih =>
    intro e he S ca g hau him hca hg
    have hc8 := hau.1
    have hb := jk_b hK
    have hl1 := (hau.2.2.1 e (by omega)).2
    have hpl := jj_pool_le2 (pl e)
    by_cases h5 : ld e = land
    · have h7 : jj_po ld pl land (e + 1) = jj_po ld pl land e + jj_pool (pl e) := by show jj_sm _ e + (if ld e = land then jj_pool (pl e) else 0) = _; rw [if_pos (by omega)]; rfl
      obtain ⟨rv, g1, S1, hct, q1, q2, q3, q4⟩ := ct_X1_split_x (lay := lay) (S := S) (b := b) (q := 53 + e) (a := jj_pool (pl e)) (g := g) (w := im e) hK (jl_im hB e (by omega)) (by omega) (by omega) hg (him e (by omega)) (him2 e (by omega)) (by omega)
      obtain ⟨ca', g', S', hR, p1, p2, p3, p4, p5, p6⟩ := ih (e + 1) (by omega) (jj_w S1 (b + 1) land (nI (ca land + rv))) (jj_up ca land (ca land + rv)) g1
        (jj_au_mono hau (fun p hp j => (jj_w_neP (by omega)).trans (q4 p (by omega) (by omega) j))) (jj_im_mono hc8 him (fun p hp j => (jj_w_neP (by omega)).trans (q4 p (by omega) (by omega) j)))
        (jj_row_upd (fun j hj => (q4 (b + 1) (by omega) (by omega) j).trans (hca j hj))) (fun j hj => (jj_w_neP (by omega)).trans (q1 j hj))
      refine ⟨ca', g', S', jj_RRs ?_ hR, p1, p2, fun j hj => (p3 j hj).trans (jj_up_ne ca hj), ?_, fun j => Nat.le_trans (q3 j) (p5 j), fun p h1 h8 h10 j => (p6 p h1 h8 h10 j).trans ((jj_w_neP h1).trans (q4 p h8 h10 j))⟩
      · refine js_iload dX1_splitByListener_3 rfl ?_
        refine js_aload_n 2 rfl dX1_splitByListener_5 rfl ?_
        refine js_getNi 0 jw_n_RX1_89 (jl_20 hB) rfl (Nat.le_of_ble_eq_true rfl) rfl (hau.2.1) dX1_splitByListener_6 ?_
        refine jn_icmp_ge 55 (by omega) (by omega) dX1_splitByListener_9 (by decide) (fun h9 => absurd h9 (by omega)) (fun _ => ?_)
        refine js_aload_n 2 rfl dX1_splitByListener_12 rfl ?_
        refine js_getNr 1 jw_n_RX1_101 (jl_20 hB) rfl (Nat.le_of_ble_eq_true rfl) rfl dX1_splitByListener_13 ?_
        refine js_iload dX1_splitByListener_16 rfl ?_
        refine js_iald e rfl (jl_21 hB) (by omega) (by decide) ((hau.2.2.1 e (by omega)).1) dX1_splitByListener_18 ?_
        refine js_iload_n 1 rfl dX1_splitByListener_19 rfl ?_
        refine jn_icmp_ne 49 (by omega) (by omega) dX1_splitByListener_20 (by decide) (fun h9 => absurd h9 (by omega)) (fun _ => ?_)
        refine js_aload_n 0 rfl dX1_splitByListener_23 rfl ?_
        refine js_getr 2 jw_f_RX1_18 (jk_0 hK) rfl (Nat.le_of_ble_eq_true rfl) rfl dX1_splitByListener_24 ?_
        refine js_iload_n 1 rfl dX1_splitByListener_27 rfl ?_
        refine js_dup2 rfl rfl dX1_splitByListener_28 ?_
        refine js_iald land rfl (jk_1 hK) (by omega) (by decide) (hca land (by omega)) dX1_splitByListener_29 ?_
        refine js_aload_n 0 rfl dX1_splitByListener_30 rfl ?_
        refine js_aload_n 2 rfl dX1_splitByListener_31 rfl ?_
        refine js_iload dX1_splitByListener_32 rfl ?_
        refine js_callVN (av := [.int (nI e)]) (st := [.ref b, .int (nI (ca land)), .int (nI land), .ref (b + 1)]) (b := 20) (ct_X0_poolPartOf hB (by omega) (hau.2.2.2 e (by omega)).2 (hau.2.2.2 e (by omega)).1) (Or.inl rfl) jw_c_X0_poolPartOf jw_i_RX0 jw_h_RX1_98 jw_s_X0_poolPartOf jw_e_X0_poolPartOf (jl_20 hB) rfl jw_y_X0_poolPartOf rfl ⟨(Nat.le_of_ble_eq_true rfl), (Nat.le_of_ble_eq_true rfl), (Nat.le_refl _), (Nat.le_refl _), (Nat.le_of_ble_eq_true rfl)⟩ dX1_splitByListener_34 ?_
        refine js_st (st' := [.int (nI (jj_pool (pl e))), .ref b, .int (nI (ca land)), .int (nI land), .ref (b + 1)]) rfl ?_
        refine js_aload_n 3 rfl dX1_splitByListener_37 rfl ?_
        refine js_getNr 1 jw_n_RX1_104 (jl_42 hB) rfl (Nat.le_of_ble_eq_true rfl) rfl dX1_splitByListener_38 ?_
        refine js_iload dX1_splitByListener_41 rfl ?_
        refine js_aald e rfl (jl_52 hB) (by omega) (by decide) (jr_im e (by omega)) dX1_splitByListener_43 ?_
        refine js_callV (av := [.int (nI (jj_pool (pl e))), .ref (53 + e)]) (st := [.int (nI (ca land)), .int (nI land), .ref (b + 1)]) (b := b) hct (Or.inl rfl) jw_c_X1_split jw_i_RX1 jw_m_RX1_71 jw_s_X1_split jw_e_X1_split (jk_0 hK) rfl jw_y_X1_split rfl ⟨(Nat.le_of_ble_eq_true rfl), (Nat.le_of_ble_eq_true rfl), (Nat.le_refl _), (Nat.le_refl _), (Nat.le_of_ble_eq_true rfl)⟩ dX1_splitByListener_44 ?_
        refine js_st (st' := [.int (nI rv), .int (nI (ca land)), .int (nI land), .ref (b + 1)]) rfl ?_
        refine jn_iadd dX1_splitByListener_47 ?_
        refine js_iast land rfl (jk_1 hK) (by omega) (by decide) dX1_splitByListener_48 ?_
        refine js_iinc (v := nI (e + 1)) (L' := [some (.ref b), some (.int (nI land)), some (.ref 20), some (.ref 42), some (.int (nI (e + 1)))]) dX1_splitByListener_49 rfl (jj_inc _) rfl ?_
        refine js_goto 3 dX1_splitByListener_52 (by decide) ?_
        exact jj_refl
      · rw [h7, jj_up_at] at p4
        omega
    · have h7 : jj_po ld pl land (e + 1) = jj_po ld pl land e := by unfold jj_po; show jj_sm _ e + (if ld e = land then jj_pool (pl e) else 0) = _; rw [if_neg (by omega), Nat.add_zero]
      obtain ⟨ca', g', S', hR, p1, p2, p3, p4, p5, p6⟩ := ih (e + 1) (by omega) S ca g hau him hca hg
      rw [h7] at p4
      refine ⟨ca', g', S', jj_RRs ?_ hR, p1, p2, p3, p4, p5, p6⟩
      refine js_iload dX1_splitByListener_3 rfl ?_
      refine js_aload_n 2 rfl dX1_splitByListener_5 rfl ?_
      refine js_getNi 0 jw_n_RX1_89 (jl_20 hB) rfl (Nat.le_of_ble_eq_true rfl) rfl (hau.2.1) dX1_splitByListener_6 ?_
      refine jn_icmp_ge 55 (by omega) (by omega) dX1_splitByListener_9 (by decide) (fun h9 => absurd h9 (by omega)) (fun _ => ?_)
      refine js_aload_n 2 rfl dX1_splitByListener_12 rfl ?_
      refine js_getNr 1 jw_n_RX1_101 (jl_20 hB) rfl (Nat.le_of_ble_eq_true rfl) rfl dX1_splitByListener_13 ?_
      refine js_iload dX1_splitByListener_16 rfl ?_
      refine js_iald e rfl (jl_21 hB) (by omega) (by decide) ((hau.2.2.1 e (by omega)).1) dX1_splitByListener_18 ?_
      refine js_iload_n 1 rfl dX1_splitByListener_19 rfl ?_
      refine jn_icmp_ne 49 (by omega) (by omega) dX1_splitByListener_20 (by decide) (fun _ => ?_) (fun h9 => absurd h9 (by omega))
      refine js_iinc (v := nI (e + 1)) (L' := [some (.ref b), some (.int (nI land)), some (.ref 20), some (.ref 42), some (.int (nI (e + 1)))]) dX1_splitByListener_49 rfl (jj_inc _) rfl ?_
      refine js_goto 3 dX1_splitByListener_52 (by decide) ?_
      exact jj_refl
set_option maxRecDepth 100000 in
set_option maxHeartbeats 4000000 in
theorem ct_X1_splitByListener {lay : jj_Lay} (hB : jj_pp lay) {cnt : Nat} {ld pl : Nat → Nat} {b land : Nat} {im : Nat → Nat → Nat} (hK : jj_bk lay b) (hla : land < 4) (him2 : ∀ l, l < cnt → jj_sm (im l) 10 ≤ 1000) {S : jj_Mem} {ca g : Nat → Nat} (hau : jj_au S cnt ld pl) (him : jj_im S cnt im) (hca : ∀ j, j < 4 → S (b + 1) j = some (nI (ca j))) (hg : ∀ j, j < 10 → S (b + 8) j = some (nI (g j))) :
    ∃ (ca' g' : Nat → Nat) (S' : jj_Mem), jj_CT yX1_splitByListener (.code yX1_splitByListener cX1_splitByListener 5 none) none 2 51 [.ref b, .int (nI land), .ref 20, .ref 42] lay S none lay S' ∧ (∀ j, j < 4 → S' (b + 1) j = some (nI (ca' j))) ∧ (∀ j, j < 10 → S' (b + 8) j = some (nI (g' j))) ∧ (∀ j, j ≠ land → ca' j = ca j) ∧ ca' land + jj_sm g' 10 + jj_po ld pl land 0 = ca land + jj_sm g 10 + jj_po ld pl land cnt ∧ (∀ j, g j ≤ g' j) ∧ (∀ p, p ≠ b + 1 → p ≠ b + 8 → p ≠ b + 10 → ∀ j, S' p j = S p j) := by
  obtain ⟨ca', g', S', hR, h⟩ := lp_X1_splitByListener hB hK hla him2 cnt 0 (by omega) S ca g hau him hca hg
  refine ⟨ca', g', S', ?_, h⟩
  refine jj_mkV RX1 (by decide) rfl (L := [some (.ref b), some (.int (nI land)), some (.ref 20), some (.ref 42), none]) rfl rfl ?_
  refine jj_RRs ?_ hR
  refine js_iconst (v := nI 0) dX1_splitByListener_0 (by decide) ?_
  refine js_istore (L' := [some (.ref b), some (.int (nI land)), some (.ref 20), some (.ref 42), some (.int (nI 0))]) dX1_splitByListener_1 rfl (Nat.le_of_ble_eq_true rfl) ?_
  exact jj_refl
set_option maxRecDepth 100000 in
set_option maxHeartbeats 4000000 in
theorem ct_X1_share_c {lay : jj_Lay} {S : jj_Mem} (hB : jj_pp lay) {b u : Nat} {cl : Nat → Nat → Nat} {g he du : Nat → Nat} {x : Nat} (hK : jj_bk lay b) (hu : u < 10) (hcm : jj_cm S cl) (hg : ∀ j, j < 10 → S (b + 8) j = some (nI (g j))) (hhe : ∀ j, j < 10 → S (b + 3) j = some (nI (he j))) (hdu : ∀ j, j < 5 → S (b + 4) j = some (nI (du j))) (hx : S b 1 = some (nI x)) (ha : g u + he u ≤ 1000000) (hc : 100 < jj_sm (fun q => cl u q) 5) : jj_CT yX1_share (.code yX1_share cX1_share 7 none) none 3 67 [.ref b, .int (nI u), .ref 8] lay S none lay (jj_w S (b + 3) u (nI (g u + he u))) := by
  have hb := jk_b hK
  refine jj_mkV RX1 (by decide) rfl (L := [some (.ref b), some (.int (nI u)), some (.ref 8), none, none, none, none]) rfl rfl ⟨29, [some (.ref b), some (.int (nI u)), some (.ref 8), some (.int (nI (((g u)) + ((he u))))), none, none, none], dX1_share_29, ?_⟩
  refine js_aload_n 0 rfl dX1_share_0 rfl ?_
  refine js_getr 9 jw_f_RX1_40 (jk_0 hK) rfl (Nat.le_of_ble_eq_true rfl) rfl dX1_share_1 ?_
  refine js_iload_n 1 rfl dX1_share_4 rfl ?_
  refine js_iald u rfl (jk_8 hK) (by omega) (by decide) (hg u (by omega)) dX1_share_5 ?_
  refine js_aload_n 0 rfl dX1_share_6 rfl ?_
  refine js_getr 4 jw_f_RX1_25 (jk_0 hK) rfl (Nat.le_of_ble_eq_true rfl) rfl dX1_share_7 ?_
  refine js_iload_n 1 rfl dX1_share_10 rfl ?_
  refine js_iald u rfl (jk_3 hK) (by omega) (by decide) (hhe u (by omega)) dX1_share_11 ?_
  refine jn_iadd dX1_share_12 ?_
  refine js_istore_n (L' := [some (.ref b), some (.int (nI u)), some (.ref 8), some (.int (nI (((g u)) + ((he u))))), none, none, none]) 3 rfl dX1_share_13 rfl (Nat.le_of_ble_eq_true rfl) ?_
  refine js_aload_n 2 rfl dX1_share_14 rfl ?_
  refine js_iload_n 1 rfl dX1_share_15 rfl ?_
  refine js_callVN (av := [.int (nI u)]) (st := []) (b := 8) (ct_X5_isInConflict hB hu hcm) (Or.inl rfl) jw_c_X5_isInConflict jw_i_RX5 jw_h_RX1_122 jw_s_X5_isInConflict jw_e_X5_isInConflict (jl_8 hB) rfl jw_y_X5_isInConflict rfl ⟨(Nat.le_of_ble_eq_true rfl), (Nat.le_of_ble_eq_true rfl), (Nat.le_refl _), (Nat.le_refl _), (Nat.le_of_ble_eq_true rfl)⟩ dX1_share_16 ?_
  refine js_st (st' := [.int (nI (jj_b (decide (100 < jj_sm (fun q => cl u q) 5))))]) rfl ?_
  refine js_top (y := nI 1) (by simp [jj_b, hc]) ?_
  refine jn_if_eq 30 (by omega) dX1_share_19 (by decide) (fun h9 => absurd h9 (by omega)) (fun _ => ?_)
  refine js_aload_n 0 rfl dX1_share_22 rfl ?_
  refine js_getr 4 jw_f_RX1_25 (jk_0 hK) rfl (Nat.le_of_ble_eq_true rfl) rfl dX1_share_23 ?_
  refine js_iload_n 1 rfl dX1_share_26 rfl ?_
  refine js_iload_n 3 rfl dX1_share_27 rfl ?_
  refine js_iast u rfl (jk_3 hK) (by omega) (by decide) dX1_share_28 ?_
  exact jj_refl
set_option maxRecDepth 100000 in
set_option maxHeartbeats 4000000 in
theorem lp_X1_share {lay : jj_Lay} {S : jj_Mem} (hB : jj_pp lay) {b u : Nat} {cl : Nat → Nat → Nat} {g he du : Nat → Nat} {x : Nat} (hK : jj_bk lay b) (hu : u < 10) (hcm : jj_cm S cl) (hg : ∀ j, j < 10 → S (b + 8) j = some (nI (g j))) (hhe : ∀ j, j < 10 → S (b + 3) j = some (nI (he j))) (hdu : ∀ j, j < 5 → S (b + 4) j = some (nI (du j))) (hx : S b 1 = some (nI x)) (ha : g u + he u ≤ 1000000) (hc : jj_sm (fun q => cl u q) 5 ≤ 100) : ∀ (k e : Nat), e + k = 5 → jj_RR cX1_share 7 RX1 yX1_share.name none 3 67 lay.length (jj_sl lay) (43, [some (.ref b), some (.int (nI u)), some (.ref 8), some (.int (nI (g u + he u))), some (.int (nI (g u + he u - jj_sm (fun j => (g u + he u) * cl u j / 100) e))), some (.int (nI e)), none], [], lay, (jj_row (jj_w S (b + 3) u (nI 0)) (b + 4) e (fun j => du j + (g u + he u) * cl u j / 100))) none .return_ lay (jj_w (jj_row (jj_w S (b + 3) u (nI 0)) (b + 4) 5 (fun j => du j + (g u + he u) * cl u j / 100)) b 1 (nI (x + (g u + he u - jj_sm (fun j => (g u + he u) * cl u j / 100) 5)))) := by
  intro k
  induction k with
  | zero =>
    intro e he5
    have he5 : e = 5 := by omega
    subst he5
    refine ⟨101, [some (.ref b), some (.int (nI u)), some (.ref 8), some (.int (nI (g u + he u))), some (.int (nI (g u + he u - jj_sm (fun j => (g u + he u) * cl u j / 100) 5))), some (.int (nI 5)), none], dX1_share_101, ?_⟩
    have hb := jk_b hK
    refine js_iload dX1_share_43 rfl ?_
    refine js_iconst (v := nI 5) dX1_share_45 (by decide) ?_
    refine jn_icmp_ge 90 (by omega) (by omega) dX1_share_46 (by decide) (fun _ => ?_) (fun h9 => absurd h9 (by omega))
    refine js_aload_n 0 rfl dX1_share_90 rfl ?_
    refine js_dup rfl dX1_share_91 ?_
    refine js_geti 1 jw_f_RX1_15 (jk_0 hK) rfl (Nat.le_of_ble_eq_true rfl) rfl ((jj_row_neP (by omega)).trans ((jj_w_neP (by omega)).trans hx)) dX1_share_92 ?_
    refine js_iload dX1_share_95 rfl ?_
    refine jn_iadd dX1_share_97 ?_
    refine js_put 1 jw_f_RX1_15 (jk_0 hK) rfl (Nat.le_of_ble_eq_true rfl) rfl rfl (by decide +kernel) dX1_share_98 ?_
    exact jj_refl
  | succ k ih =>
    intro e he5
    refine jj_RRs ?_ (ih (e + 1) (by omega))
    have hl := Nat.le_trans (jj_sm_mono (f := (fun j => (g u + he u) * cl u j / 100)) (show e + 1 ≤ 5 by omega)) (jj_parts (a := g u + he u) hc)
    have hl2 : jj_sm (fun j => (g u + he u) * cl u j / 100) (e + 1) = jj_sm (fun j => (g u + he u) * cl u j / 100) e + (g u + he u) * cl u e / 100 := rfl
    have hm : (g u + he u) * cl u e ≤ 1000000 * 100 := Nat.mul_le_mul ha (hcm u hu e (by omega)).2
    have hb := jk_b hK
    refine js_iload dX1_share_43 rfl ?_
    refine js_iconst (v := nI 5) dX1_share_45 (by decide) ?_
    refine jn_icmp_ge 90 (by omega) (by omega) dX1_share_46 (by decide) (fun h9 => absurd h9 (by omega)) (fun _ => ?_)
    refine js_iload_n 3 rfl dX1_share_49 rfl ?_
    refine js_aload_n 2 rfl dX1_share_50 rfl ?_
    refine js_getNr 0 jw_n_RX1_128 (jl_8 hB) rfl (Nat.le_of_ble_eq_true rfl) rfl dX1_share_51 ?_
    refine js_iload_n 1 rfl dX1_share_54 rfl ?_
    refine js_aald u rfl (jl_9 hB) (by omega) (by decide) (jr_cl u hu) dX1_share_55 ?_
    refine js_iload dX1_share_56 rfl ?_
    refine js_iald e rfl (jl_cl hB u hu) (by omega) (by decide) ((jj_row_neP (by omega)).trans ((jj_w_neP (by omega)).trans (hcm u hu e (by omega)).1)) dX1_share_58 ?_
    refine jn_imul dX1_share_59 ?_
    refine js_bipush (v := nI 100) dX1_share_60 (by decide) ?_
    refine jn_idiv (by omega) (by omega) (by omega) dX1_share_62 ?_
    refine js_istore (L' := [some (.ref b), some (.int (nI u)), some (.ref 8), some (.int (nI (g u + he u))), some (.int (nI (g u + he u - jj_sm (fun j => (g u + he u) * cl u j / 100) e))), some (.int (nI e)), some (.int (nI (((((g u + he u)) * ((cl u e)))) / 100)))]) dX1_share_63 rfl (Nat.le_of_ble_eq_true rfl) ?_
    refine js_aload_n 0 rfl dX1_share_65 rfl ?_
    refine js_getr 5 jw_f_RX1_28 (jk_0 hK) rfl (Nat.le_of_ble_eq_true rfl) rfl dX1_share_66 ?_
    refine js_iload dX1_share_69 rfl ?_
    refine js_dup2 rfl rfl dX1_share_71 ?_
    refine js_iald e rfl (jk_4 hK) (by omega) (by decide) ((jj_row_hi (Nat.le_refl _)).trans ((jj_w_neP (by omega)).trans (hdu e (by omega)))) dX1_share_72 ?_
    refine js_iload dX1_share_73 rfl ?_
    refine jn_iadd dX1_share_75 ?_
    refine js_iast e rfl (jk_4 hK) (by omega) (by decide) dX1_share_76 ?_
    rw [jj_row_s (jj_w S (b + 3) u (nI 0)) (b + 4) e (fun j => du j + (g u + he u) * cl u j / 100) rfl]
    refine js_iload dX1_share_77 rfl ?_
    refine js_iload dX1_share_79 rfl ?_
    refine jn_isub (by omega) dX1_share_81 ?_
    rw [Nat.sub_sub]
    refine js_istore (L' := [some (.ref b), some (.int (nI u)), some (.ref 8), some (.int (nI (g u + he u))), some (.int (nI (g u + he u - (jj_sm (fun j => (g u + he u) * cl u j / 100) e + (g u + he u) * cl u e / 100)))), some (.int (nI e)), some (.int (nI (((((g u + he u)) * ((cl u e)))) / 100)))]) dX1_share_82 rfl (Nat.le_of_ble_eq_true rfl) ?_
    refine js_iinc (v := nI (e + 1)) (L' := [some (.ref b), some (.int (nI u)), some (.ref 8), some (.int (nI (g u + he u))), some (.int (nI (g u + he u - (jj_sm (fun j => (g u + he u) * cl u j / 100) e + (g u + he u) * cl u e / 100)))), some (.int (nI (e + 1))), some (.int (nI (((((g u + he u)) * ((cl u e)))) / 100)))]) dX1_share_84 rfl (jj_inc _) rfl ?_
    refine js_goto 43 dX1_share_87 (by decide) ?_
    refine js_fgL (L' := [some (.ref b), some (.int (nI u)), some (.ref 8), some (.int (nI (g u + he u))), some (.int (nI (g u + he u - jj_sm (fun j => (g u + he u) * cl u j / 100) (e + 1)))), some (.int (nI (e + 1))), none]) (by simp [jj_le, jj_sm]) ?_
    exact jj_refl
set_option maxRecDepth 100000 in
set_option maxHeartbeats 4000000 in
theorem ct_X1_share_n {lay : jj_Lay} {S : jj_Mem} (hB : jj_pp lay) {b u : Nat} {cl : Nat → Nat → Nat} {g he du : Nat → Nat} {x : Nat} (hK : jj_bk lay b) (hu : u < 10) (hcm : jj_cm S cl) (hg : ∀ j, j < 10 → S (b + 8) j = some (nI (g j))) (hhe : ∀ j, j < 10 → S (b + 3) j = some (nI (he j))) (hdu : ∀ j, j < 5 → S (b + 4) j = some (nI (du j))) (hx : S b 1 = some (nI x)) (ha : g u + he u ≤ 1000000) (hc : jj_sm (fun q => cl u q) 5 ≤ 100) : jj_CT yX1_share (.code yX1_share cX1_share 7 none) none 3 67 [.ref b, .int (nI u), .ref 8] lay S none lay (jj_w (jj_row (jj_w S (b + 3) u (nI 0)) (b + 4) 5 (fun j => du j + (g u + he u) * cl u j / 100)) b 1 (nI (x + (g u + he u - jj_sm (fun j => (g u + he u) * cl u j / 100) 5)))) := by
  have hb := jk_b hK
  refine jj_mkV RX1 (by decide) rfl (L := [some (.ref b), some (.int (nI u)), some (.ref 8), none, none, none, none]) rfl rfl ?_
  have h0 := lp_X1_share (S := S) hB hK hu hcm hg hhe hdu hx ha hc 5 0 (by omega)
  rw [jj_row_0] at h0
  refine jj_RRs ?_ h0
  refine js_aload_n 0 rfl dX1_share_0 rfl ?_
  refine js_getr 9 jw_f_RX1_40 (jk_0 hK) rfl (Nat.le_of_ble_eq_true rfl) rfl dX1_share_1 ?_
  refine js_iload_n 1 rfl dX1_share_4 rfl ?_
  refine js_iald u rfl (jk_8 hK) (by omega) (by decide) (hg u (by omega)) dX1_share_5 ?_
  refine js_aload_n 0 rfl dX1_share_6 rfl ?_
  refine js_getr 4 jw_f_RX1_25 (jk_0 hK) rfl (Nat.le_of_ble_eq_true rfl) rfl dX1_share_7 ?_
  refine js_iload_n 1 rfl dX1_share_10 rfl ?_
  refine js_iald u rfl (jk_3 hK) (by omega) (by decide) (hhe u (by omega)) dX1_share_11 ?_
  refine jn_iadd dX1_share_12 ?_
  refine js_istore_n (L' := [some (.ref b), some (.int (nI u)), some (.ref 8), some (.int (nI (((g u)) + ((he u))))), none, none, none]) 3 rfl dX1_share_13 rfl (Nat.le_of_ble_eq_true rfl) ?_
  refine js_aload_n 2 rfl dX1_share_14 rfl ?_
  refine js_iload_n 1 rfl dX1_share_15 rfl ?_
  refine js_callVN (av := [.int (nI u)]) (st := []) (b := 8) (ct_X5_isInConflict hB hu hcm) (Or.inl rfl) jw_c_X5_isInConflict jw_i_RX5 jw_h_RX1_122 jw_s_X5_isInConflict jw_e_X5_isInConflict (jl_8 hB) rfl jw_y_X5_isInConflict rfl ⟨(Nat.le_of_ble_eq_true rfl), (Nat.le_of_ble_eq_true rfl), (Nat.le_refl _), (Nat.le_refl _), (Nat.le_of_ble_eq_true rfl)⟩ dX1_share_16 ?_
  refine js_st (st' := [.int (nI (jj_b (decide (100 < jj_sm (fun q => cl u q) 5))))]) rfl ?_
  refine js_top (y := nI 0) (by rw [show decide (100 < jj_sm (fun q => cl u q) 5) = false from decide_eq_false (by omega)]; rfl) ?_
  refine jn_if_eq 30 (by omega) dX1_share_19 (by decide) (fun _ => ?_) (fun h9 => absurd h9 (by omega))
  refine js_aload_n 0 rfl dX1_share_30 rfl ?_
  refine js_getr 4 jw_f_RX1_25 (jk_0 hK) rfl (Nat.le_of_ble_eq_true rfl) rfl dX1_share_31 ?_
  refine js_iload_n 1 rfl dX1_share_34 rfl ?_
  refine js_iconst (v := nI 0) dX1_share_35 (by decide) ?_
  refine js_iast u rfl (jk_3 hK) (by omega) (by decide) dX1_share_36 ?_
  refine js_iload_n 3 rfl dX1_share_37 rfl ?_
  refine js_istore (L' := [some (.ref b), some (.int (nI u)), some (.ref 8), some (.int (nI (((g u)) + ((he u))))), some (.int (nI (((g u)) + ((he u))))), none, none]) dX1_share_38 rfl (Nat.le_of_ble_eq_true rfl) ?_
  refine js_iconst (v := nI 0) dX1_share_40 (by decide) ?_
  refine js_istore (L' := [some (.ref b), some (.int (nI u)), some (.ref 8), some (.int (nI (((g u)) + ((he u))))), some (.int (nI (((g u)) + ((he u))))), some (.int (nI 0)), none]) dX1_share_41 rfl (Nat.le_of_ble_eq_true rfl) ?_
  exact jj_refl
/-- sharing, both ways -/
theorem ct_X1_share {lay : jj_Lay} {S : jj_Mem} (hB : jj_pp lay) {b u : Nat} {cl : Nat → Nat → Nat} {g he du : Nat → Nat} {x : Nat} (hK : jj_bk lay b) (hu : u < 10) (hcm : jj_cm S cl) (hg : ∀ j, j < 10 → S (b + 8) j = some (nI (g j))) (hhe : ∀ j, j < 10 → S (b + 3) j = some (nI (he j))) (hdu : ∀ j, j < 5 → S (b + 4) j = some (nI (du j))) (hx : S b 1 = some (nI x)) (ha : g u + he u ≤ 1000000) :
    ∃ (he' du' : Nat → Nat) (x' : Nat) (S' : jj_Mem), jj_CT yX1_share (.code yX1_share cX1_share 7 none) none 3 67 [.ref b, .int (nI u), .ref 8] lay S none lay S' ∧ (∀ j, j < 10 → S' (b + 3) j = some (nI (he' j))) ∧ (∀ j, j < 5 → S' (b + 4) j = some (nI (du' j))) ∧ S' b 1 = some (nI x') ∧ x' + jj_sm he' 10 + jj_sm du' 5 = x + jj_sm he 10 + jj_sm du 5 + g u ∧ (∀ j, j ≠ u → he' j = he j) ∧ S' b 0 = S b 0 ∧ (∀ p, p ≠ b → p ≠ b + 3 → p ≠ b + 4 → ∀ j, S' p j = S p j) := by
  have hb := jk_b hK
  by_cases hc : jj_sm (fun q => cl u q) 5 ≤ 100
  · have h1 := jj_parts (a := g u + he u) hc
    have h2 := jj_sm_up (f := he) (i := u) (x := 0) (n := 10) hu
    have h3 := jj_sm_add du (fun j => (g u + he u) * cl u j / 100) 5
    refine ⟨jj_up he u 0, (fun j => du j + (g u + he u) * cl u j / 100), x + (g u + he u - jj_sm (fun j => (g u + he u) * cl u j / 100) 5), (jj_w (jj_row (jj_w S (b + 3) u (nI 0)) (b + 4) 5 (fun j => du j + (g u + he u) * cl u j / 100)) b 1 (nI (x + (g u + he u - jj_sm (fun j => (g u + he u) * cl u j / 100) 5)))), ct_X1_share_n hB hK hu hcm hg hhe hdu hx ha hc, fun j hj => (jj_w_neP (by omega)).trans ((jj_row_neP (by omega)).trans (jj_row_upd hhe j hj)), fun j hj => (jj_w_neP (by omega)).trans (jj_row_at hj), jj_w_at _ _ _ _, ?_, fun j hj => jj_up_ne he hj, (jj_w_neI (by omega)).trans ((jj_row_neP (by omega)).trans (jj_w_neP (by omega))), fun p h0 h3 h4 j => (jj_w_neP h0).trans ((jj_row_neP h4).trans (jj_w_neP h3))⟩
    omega
  · have h2 := jj_sm_up (f := he) (i := u) (x := g u + he u) (n := 10) hu
    refine ⟨jj_up he u (g u + he u), du, x, _, ct_X1_share_c hB hK hu hcm hg hhe hdu hx ha (by omega), fun j hj => jj_row_upd hhe j hj, fun j hj => (jj_w_neP (by omega)).trans (hdu j hj), (jj_w_neP (by omega)).trans hx, ?_, fun j hj => jj_up_ne he hj, jj_w_neP (by omega), fun p h0 h3 h4 j => jj_w_neP h3⟩
    omega
set_option maxRecDepth 100000 in
set_option maxHeartbeats 4000000 in
theorem ct_X1_recoup_e {lay : jj_Lay} {S : jj_Mem} {b u : Nat} {du ad re : Nat → Nat} (hK : jj_bk lay b) (hu : u < 5) (hdu : ∀ j, j < 5 → S (b + 4) j = some (nI (du j))) (had : ∀ j, j < 5 → S (b + 6) j = some (nI (ad j))) (hre : ∀ j, j < 5 → S (b + 7) j = some (nI (re j))) (h1 : du u < 2 ^ 31) (h2 : ad u < 2 ^ 31) : jj_CT yX1_recoup (.code yX1_recoup cX1_recoup 3 none) none 1 21 [.ref b, .int (nI u)] lay S none lay (jj_w (jj_w (jj_w S (b + 4) u (nI (((du u)) - ((min ((du u)) ((ad u))))))) (b + 6) u (nI (((ad u)) - ((min ((du u)) ((ad u))))))) (b + 7) u (nI (((re u)) + ((min ((du u)) ((ad u))))))) := by
  have hb := jk_b hK
  refine jj_mkV RX1 (by decide) rfl (L := [some (.ref b), some (.int (nI u)), none]) rfl rfl ⟨46, [some (.ref b), some (.int (nI u)), some (.int (nI (min ((du u)) ((ad u)))))], dX1_recoup_46, ?_⟩
  refine js_aload_n 0 rfl dX1_recoup_0 rfl ?_
  refine js_getr 5 jw_f_RX1_28 (jk_0 hK) rfl (Nat.le_of_ble_eq_true rfl) rfl dX1_recoup_1 ?_
  refine js_iload_n 1 rfl dX1_recoup_4 rfl ?_
  refine js_iald u rfl (jk_4 hK) (by omega) (by decide) (hdu u (by omega)) dX1_recoup_5 ?_
  refine js_aload_n 0 rfl dX1_recoup_6 rfl ?_
  refine js_getr 7 jw_f_RX1_34 (jk_0 hK) rfl (Nat.le_of_ble_eq_true rfl) rfl dX1_recoup_7 ?_
  refine js_iload_n 1 rfl dX1_recoup_10 rfl ?_
  refine js_iald u rfl (jk_6 hK) (by omega) (by decide) (had u (by omega)) dX1_recoup_11 ?_
  refine jn_min (by omega) (by omega) jw_m_RX1_131 (Nat.le_of_ble_eq_true rfl) (Nat.le_of_ble_eq_true rfl) (Nat.le_refl _) (Nat.le_refl _) dX1_recoup_12 ?_
  refine js_istore_n (L' := [some (.ref b), some (.int (nI u)), some (.int (nI (min ((du u)) ((ad u)))))]) 2 rfl dX1_recoup_15 rfl (Nat.le_of_ble_eq_true rfl) ?_
  refine js_aload_n 0 rfl dX1_recoup_16 rfl ?_
  refine js_getr 5 jw_f_RX1_28 (jk_0 hK) rfl (Nat.le_of_ble_eq_true rfl) rfl dX1_recoup_17 ?_
  refine js_iload_n 1 rfl dX1_recoup_20 rfl ?_
  refine js_dup2 rfl rfl dX1_recoup_21 ?_
  refine js_iald u rfl (jk_4 hK) (by omega) (by decide) (hdu u (by omega)) dX1_recoup_22 ?_
  refine js_iload_n 2 rfl dX1_recoup_23 rfl ?_
  refine jn_isub (by omega) dX1_recoup_24 ?_
  refine js_iast u rfl (jk_4 hK) (by omega) (by decide) dX1_recoup_25 ?_
  refine js_aload_n 0 rfl dX1_recoup_26 rfl ?_
  refine js_getr 7 jw_f_RX1_34 (jk_0 hK) rfl (Nat.le_of_ble_eq_true rfl) rfl dX1_recoup_27 ?_
  refine js_iload_n 1 rfl dX1_recoup_30 rfl ?_
  refine js_dup2 rfl rfl dX1_recoup_31 ?_
  refine js_iald u rfl (jk_6 hK) (by omega) (by decide) ((jj_w_neP (by omega)).trans (had u (by omega))) dX1_recoup_32 ?_
  refine js_iload_n 2 rfl dX1_recoup_33 rfl ?_
  refine jn_isub (by omega) dX1_recoup_34 ?_
  refine js_iast u rfl (jk_6 hK) (by omega) (by decide) dX1_recoup_35 ?_
  refine js_aload_n 0 rfl dX1_recoup_36 rfl ?_
  refine js_getr 8 jw_f_RX1_37 (jk_0 hK) rfl (Nat.le_of_ble_eq_true rfl) rfl dX1_recoup_37 ?_
  refine js_iload_n 1 rfl dX1_recoup_40 rfl ?_
  refine js_dup2 rfl rfl dX1_recoup_41 ?_
  refine js_iald u rfl (jk_7 hK) (by omega) (by decide) ((jj_w_neP (by omega)).trans ((jj_w_neP (by omega)).trans (hre u (by omega)))) dX1_recoup_42 ?_
  refine js_iload_n 2 rfl dX1_recoup_43 rfl ?_
  refine jn_iadd dX1_recoup_44 ?_
  refine js_iast u rfl (jk_7 hK) (by omega) (by decide) dX1_recoup_45 ?_
  exact jj_refl
theorem ct_X1_recoup {lay : jj_Lay} {S : jj_Mem} {b u : Nat} {du ad re : Nat → Nat} (hK : jj_bk lay b) (hu : u < 5) (hdu : ∀ j, j < 5 → S (b + 4) j = some (nI (du j))) (had : ∀ j, j < 5 → S (b + 6) j = some (nI (ad j))) (hre : ∀ j, j < 5 → S (b + 7) j = some (nI (re j))) (h1 : du u < 2 ^ 31) (h2 : ad u < 2 ^ 31) :
    ∃ (du' ad' re' : Nat → Nat) (S' : jj_Mem), jj_CT yX1_recoup (.code yX1_recoup cX1_recoup 3 none) none 1 21 [.ref b, .int (nI u)] lay S none lay S' ∧ (∀ j, j < 5 → S' (b + 4) j = some (nI (du' j))) ∧ (∀ j, j < 5 → S' (b + 6) j = some (nI (ad' j))) ∧ (∀ j, j < 5 → S' (b + 7) j = some (nI (re' j))) ∧ jj_sm du' 5 + jj_sm re' 5 = jj_sm du 5 + jj_sm re 5 ∧ (∀ j, ad' j ≤ ad j) ∧ (∀ p, p ≠ b + 4 → p ≠ b + 6 → p ≠ b + 7 → ∀ j, S' p j = S p j) := by
  have hb := jk_b hK
  have q1 := jj_sm_up (f := du) (i := u) (x := du u - min (du u) (ad u)) (n := 5) hu
  have q2 := jj_sm_up (f := re) (i := u) (x := re u + min (du u) (ad u)) (n := 5) hu
  refine ⟨jj_up du u (du u - min (du u) (ad u)), jj_up ad u (ad u - min (du u) (ad u)), jj_up re u (re u + min (du u) (ad u)), _, ct_X1_recoup_e hK hu hdu had hre h1 h2, fun j hj => (jj_w_neP (by omega)).trans ((jj_w_neP (by omega)).trans (jj_row_upd hdu j hj)), fun j hj => (jj_w_neP (by omega)).trans (jj_row_upd (fun j hj => (jj_w_neP (by omega)).trans (had j hj)) j hj), fun j hj => jj_row_upd (fun j hj => (jj_w_neP (by omega)).trans ((jj_w_neP (by omega)).trans (hre j hj))) j hj, by omega, fun j => ?_, fun p h4 h6 h7 j => (jj_w_neP h7).trans ((jj_w_neP h6).trans (jj_w_neP h4))⟩
  unfold jj_up
  by_cases c : j = u
  · rw [if_pos c, c]; omega
  · rw [if_neg c]; exact Nat.le_refl _
set_option maxRecDepth 100000 in
set_option maxHeartbeats 4000000 in
theorem ct_X1_payOut {lay : jj_Lay} {S : jj_Mem} {b u : Nat} {du pa : Nat → Nat} (hK : jj_bk lay b) (hu : u < 5) (hdu : ∀ j, j < 5 → S (b + 4) j = some (nI (du j))) (hpa : ∀ j, j < 5 → S (b + 5) j = some (nI (pa j))) (h1 : du u < 2 ^ 31) :
    ∃ (du' pa' : Nat → Nat) (S' : jj_Mem), jj_CT yX1_payOut (.code yX1_payOut cX1_payOut 2 none) none 0 0 [.ref b, .int (nI u)] lay S none lay S' ∧ (∀ j, j < 5 → S' (b + 4) j = some (nI (du' j))) ∧ (∀ j, j < 5 → S' (b + 5) j = some (nI (pa' j))) ∧ jj_sm du' 5 + jj_sm pa' 5 = jj_sm du 5 + jj_sm pa 5 ∧ (∀ j, pa j ≤ pa' j) ∧ (∀ p, p ≠ b + 4 → p ≠ b + 5 → ∀ j, S' p j = S p j) := by
  have hb := jk_b hK
  by_cases hc : du u < 500
  · refine ⟨du, pa, S, ?_, hdu, hpa, rfl, fun _ => Nat.le_refl _, fun _ _ _ _ => rfl⟩
    refine jj_mkV RX1 (by decide) rfl (L := [some (.ref b), some (.int (nI u))]) rfl rfl ⟨34, [some (.ref b), some (.int (nI u))], dX1_payOut_34, ?_⟩
    refine js_aload_n 0 rfl dX1_payOut_0 rfl ?_
    refine js_getr 5 jw_f_RX1_28 (jk_0 hK) rfl (Nat.le_of_ble_eq_true rfl) rfl dX1_payOut_1 ?_
    refine js_iload_n 1 rfl dX1_payOut_4 rfl ?_
    refine js_iald u rfl (jk_4 hK) (by omega) (by decide) (hdu u (by omega)) dX1_payOut_5 ?_
    refine js_sipush (v := nI 500) dX1_payOut_6 (by decide) ?_
    refine jn_icmp_lt 34 (by omega) (by omega) dX1_payOut_9 (by decide) (fun _ => ?_) (fun h9 => absurd h9 (by omega))
    exact jj_refl
  · have q1 := jj_sm_up (f := du) (i := u) (x := 0) (n := 5) hu
    have q2 := jj_sm_up (f := pa) (i := u) (x := pa u + du u) (n := 5) hu
    refine ⟨jj_up du u 0, jj_up pa u (pa u + du u), (jj_w (jj_w S (b + 5) u (nI (((pa u)) + ((du u))))) (b + 4) u (nI 0)), ?_, fun j hj => jj_row_upd (fun j hj => (jj_w_neP (by omega)).trans (hdu j hj)) j hj, fun j hj => (jj_w_neP (by omega)).trans (jj_row_upd hpa j hj), by omega, fun j => ?_, fun p h4 h5 j => (jj_w_neP h4).trans (jj_w_neP h5)⟩
    · refine jj_mkV RX1 (by decide) rfl (L := [some (.ref b), some (.int (nI u))]) rfl rfl ⟨34, [some (.ref b), some (.int (nI u))], dX1_payOut_34, ?_⟩
      refine js_aload_n 0 rfl dX1_payOut_0 rfl ?_
      refine js_getr 5 jw_f_RX1_28 (jk_0 hK) rfl (Nat.le_of_ble_eq_true rfl) rfl dX1_payOut_1 ?_
      refine js_iload_n 1 rfl dX1_payOut_4 rfl ?_
      refine js_iald u rfl (jk_4 hK) (by omega) (by decide) (hdu u (by omega)) dX1_payOut_5 ?_
      refine js_sipush (v := nI 500) dX1_payOut_6 (by decide) ?_
      refine jn_icmp_lt 34 (by omega) (by omega) dX1_payOut_9 (by decide) (fun h9 => absurd h9 (by omega)) (fun _ => ?_)
      refine js_aload_n 0 rfl dX1_payOut_12 rfl ?_
      refine js_getr 6 jw_f_RX1_31 (jk_0 hK) rfl (Nat.le_of_ble_eq_true rfl) rfl dX1_payOut_13 ?_
      refine js_iload_n 1 rfl dX1_payOut_16 rfl ?_
      refine js_dup2 rfl rfl dX1_payOut_17 ?_
      refine js_iald u rfl (jk_5 hK) (by omega) (by decide) (hpa u (by omega)) dX1_payOut_18 ?_
      refine js_aload_n 0 rfl dX1_payOut_19 rfl ?_
      refine js_getr 5 jw_f_RX1_28 (jk_0 hK) rfl (Nat.le_of_ble_eq_true rfl) rfl dX1_payOut_20 ?_
      refine js_iload_n 1 rfl dX1_payOut_23 rfl ?_
      refine js_iald u rfl (jk_4 hK) (by omega) (by decide) (hdu u (by omega)) dX1_payOut_24 ?_
      refine jn_iadd dX1_payOut_25 ?_
      refine js_iast u rfl (jk_5 hK) (by omega) (by decide) dX1_payOut_26 ?_
      refine js_aload_n 0 rfl dX1_payOut_27 rfl ?_
      refine js_getr 5 jw_f_RX1_28 (jk_0 hK) rfl (Nat.le_of_ble_eq_true rfl) rfl dX1_payOut_28 ?_
      refine js_iload_n 1 rfl dX1_payOut_31 rfl ?_
      refine js_iconst (v := nI 0) dX1_payOut_32 (by decide) ?_
      refine js_iast u rfl (jk_4 hK) (by omega) (by decide) dX1_payOut_33 ?_
      exact jj_refl
    · unfold jj_up
      by_cases c : j = u
      · rw [if_pos c, c]; omega
      · rw [if_neg c]; exact Nat.le_refl _

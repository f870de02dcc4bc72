/-! THE LAW'S ROAD. -/
def jj_Lw (lay : jj_Lay) (S : jj_Mem) (P : jj_P) (kp : Nat → Nat) (i : Nat) : Prop :=
  jj_pp lay ∧ lay[104]? = some (20, 130, []) ∧ lay.length ≤ 105 + 403 * i ∧ jj_sl lay ≤ 10000 + 4413 * i ∧ jj_J S P ∧ jj_K P ∧ jj_T P ∧ jj_kp S P kp ∧ P.nt = 6 ∧ P.cnt = 4 ∧ P.n ≤ i ∧ P.t ≤ 98999
set_option maxRecDepth 100000 in
set_option maxHeartbeats 4000000 in
theorem lr_one {lay : jj_Lay} {S : jj_Mem} {P : jj_P} {kp : Nat → Nat} {Ls : Nat} {xs : Nat → Int32} {i : Nat} (hLs : Ls ≤ 260) (hi : i < 34) (H : jj_Lw lay S P kp i) : ∃ (lay' : jj_Lay) (S' : jj_Mem) (P' : jj_P) (kp' : Nat → Nat), jj_R cL_law 12 RL yL_law.name (some (Ls, xs)) 7 163 600104 7301313 (22, [some (.retAddr 0), some (.ref 0), some (.ref 104), some (.int (nI i)), none, none, none, none, none, none, none, none], [], lay, S) (22, [some (.retAddr 0), some (.ref 0), some (.ref 104), some (.int (nI (i + 1))), none, none, none, none, none, none, none, none], [], lay', S') ∧ jj_Lw lay' S' P' kp' (i + 1) := by
  obtain ⟨hB, hk, hlen, hsl, h, hK, hT, hkp, hnt, hcnt, hn, ht⟩ := H
  have h104 : 104 < lay.length := (List.getElem?_eq_some_iff.mp hk).1
  obtain ⟨S1, P1, hR1, g1, g2, g3, g4, g5, g6, g7, g8, g9⟩ := lr_ev (lay := lay) (xs := xs) hB (by omega) (by omega) hLs hi h hK hT hnt hcnt ht (by omega)
  obtain ⟨q, hq⟩ : ∃ q, lay.length = q := ⟨_, rfl⟩
  have hR2 := lr_arr (lay := lay) (S := S1) (xs := xs) (Ls := Ls) (i := i) hB hq (by omega) (by omega) (by omega)
  have h2l : (lay ++ [(20, 3, [])]).length = q + 1 := by rw [List.length_append, hq]; rfl
  have h2q : (lay ++ [(20, 3, [])])[q]? = some (20, 3, []) := by rw [← hq, List.getElem?_append_right (Nat.le_refl _), Nat.sub_self]; rfl
  have h3q : (lay ++ [(20, 3, [])] ++ [(20, 10, [])])[q]? = some (20, 3, []) := (List.getElem?_append_left (by omega)).trans h2q
  have h3q1 : (lay ++ [(20, 3, [])] ++ [(20, 10, [])])[q + 1]? = some (20, 10, []) := by rw [← h2l, List.getElem?_append_right (Nat.le_refl _), Nat.sub_self]; rfl
  have h2s : jj_sl (lay ++ [(20, 3, [])]) = jj_sl lay + 3 := jj_sl_app _ _
  have hB3 : jj_pp (lay ++ [(20, 3, [])] ++ [(20, 10, [])]) := jj_pp_app (jj_pp_app hB)
  have h3k : (lay ++ [(20, 3, [])] ++ [(20, 10, [])])[104]? = some (20, 130, []) := (List.getElem?_append_left (by omega)).trans ((List.getElem?_append_left h104).trans hk)
  have h3l : (lay ++ [(20, 3, [])] ++ [(20, 10, [])]).length = q + 2 := by rw [List.length_append, h2l]; rfl
  have h3s : jj_sl (lay ++ [(20, 3, [])] ++ [(20, 10, [])]) = jj_sl lay + 13 := by rw [jj_sl_app, h2s]; rfl
  obtain ⟨lay3, hlay3⟩ : ∃ l3, l3 = (lay ++ [(20, 3, [])] ++ [(20, 10, [])]) := ⟨_, rfl⟩
  rw [← hlay3] at h3q h3q1 hB3 h3k h3l h3s hR2
  have fM : ∀ p, p < 105 → ∀ j, jj_M S1 q p j = S1 p j := fun p hp j => (if_neg (by omega)).trans ((if_neg (by omega)).trans (if_pos (by omega)))
  have hJM : jj_J (jj_M S1 q) P1 := jj_J_eq g1 (fun p hp j => fM p (by omega) j)
  have hkM : jj_kp (jj_M S1 q) P1 kp := fun j hj => ⟨(fM 104 (by omega) j).trans ((g9 104 (by omega) j).trans (jj_kp_E hkp g4 j hj).1), (jj_kp_E hkp g4 j hj).2⟩
  obtain ⟨kp', S', hct, e1, e2⟩ := E_L_isSound (lay := lay3) hB3 h3k g2 (by omega) hJM hkM
  have hR3 := lr_sum (xs := xs) (Ls := Ls) (i := i) hB3 (by omega) h3q h3q1 (by omega) (by omega) hJM g2 g3 (by omega) hct
  refine ⟨jj_l1 lay3, S', P1, kp', jj_tr hR1 (jj_tr hR2 hR3), jj_pp_app hB3, (List.getElem?_append_left (by omega)).trans h3k, ?_, ?_, jj_J_eq hJM (fun p hp j => e2 p (by omega) j), g2, g3, e1, by omega, by omega, by omega, g8⟩
  · rw [jj_l1_len]; omega
  · rw [jj_l1_sl]; omega
set_option maxRecDepth 100000 in
set_option maxHeartbeats 4000000 in
theorem lr_all {Ls : Nat} {xs : Nat → Int32} (hLs : Ls ≤ 260) : ∀ (k i : Nat), i + k = 34 → ∀ (lay : jj_Lay) (S : jj_Mem) (P : jj_P) (kp : Nat → Nat), jj_Lw lay S P kp i → ∃ (lay' : jj_Lay) (S' : jj_Mem) (P' : jj_P) (kp' : Nat → Nat), jj_R cL_law 12 RL yL_law.name (some (Ls, xs)) 7 163 600104 7301313 (22, [some (.retAddr 0), some (.ref 0), some (.ref 104), some (.int (nI i)), none, none, none, none, none, none, none, none], [], lay, S) (392, [some (.retAddr 0), some (.ref 0), some (.ref 104), some (.int (nI 34)), none, none, none, none, none, none, none, none], [], lay', S') ∧ jj_Lw lay' S' P' kp' 34 := by
  intro k
  induction k with
  | zero =>
    intro i hi lay S P kp H
    obtain rfl : i = 34 := by omega
    refine ⟨lay, S, P, kp, ?_, H⟩
    refine js_iload_n 3 rfl dL_law_22 rfl ?_
    refine js_bipush (v := nI 34) dL_law_23 (by decide) ?_
    refine jn_icmp_ge 392 (by omega) (by omega) dL_law_25 (by decide) (fun _ => ?_) (fun h9 => absurd h9 (by omega))
    exact jj_refl
  | succ k ih =>
    intro i hi lay S P kp H
    obtain ⟨l1, S1, P1, k1, hR, H1⟩ := lr_one (xs := xs) hLs (by omega) H
    obtain ⟨l2, S2, P2, k2, hR2, H2⟩ := ih (i + 1) (by omega) l1 S1 P1 k1 H1
    exact ⟨l2, S2, P2, k2, jj_tr hR hR2, H2⟩
def jj_lo (S : jj_Mem) : jj_Mem := fun p j => if p < 81 then S p j else none
theorem jj_cmp_self {d : Int64} : lg_cmp d d = nI 0 := by
  unfold lg_cmp
  simp [nI]
set_option maxRecDepth 100000 in
set_option maxHeartbeats 4000000 in
theorem lr_end {lay : jj_Lay} {S : jj_Mem} {P : jj_P} (hB : jj_pp lay) (hnc : lay.length ≤ 600104) (hsc : jj_sl lay ≤ 7301313) (h : jj_J S P) (hK : jj_K P) (hT : jj_T P) {Ls : Nat} {xs : Nat → Int32} : ∃ (L' : List (Option Value)) (S' : jj_Mem), jj_R cL_law 12 RL yL_law.name (some (Ls, xs)) 7 163 600104 7301313 (392, [some (.retAddr 0), some (.ref 0), some (.ref 104), some (.int (nI 34)), none, none, none, none, none, none, none, none], [], lay, S) (429, L', [.int (nI 1)], lay, S') := by
  obtain ⟨m1, m2, m3, m4, m5, m6⟩ := jj_mon h hK hT
  have f0 : ∀ p, p < 81 → ∀ j, jj_lo S p j = S p j := fun p hp j => if_pos hp
  have hJ0 : jj_J (jj_lo S) P := jj_J_eq h (fun p hp j => f0 p hp j)
  obtain ⟨d, S1, hd, f1⟩ := E_X6_digest (lay := lay) hB hJ0 hK hT
  have hJ1 : jj_J S1 P := jj_J_eq hJ0 (fun p hp j => f1 p (by omega) j)
  obtain ⟨v1, S2, hp, hv1, f2⟩ := ct_X6_wouldPay (lay := lay) (S := S1) (u := 0) (rule := 1) hB (by omega) (by omega) hJ1.au (fun l hl j hj => hJ1.im l (by have := hJ1.au.1; omega) j hj) hJ1.cm m2 m3 hJ1.bs m4 m5
  have hJ2 : jj_J S2 P := jj_J_eq hJ1 (fun p hp j => f2 p (by omega) j)
  obtain ⟨v2, S3, hg, hv2, f3⟩ := ct_X6_wouldGet (lay := lay) (S := S2) (u := 3) (rule := 0) hB (by omega) (by omega) hJ2.au (fun l hl j hj => hJ2.im l (by have := hJ2.au.1; omega) j hj) hJ2.cm m2 m3 hJ2.bs m4 m5
  have hlow0 : ∀ p j x, jj_lo S p j = some x → S p j = some x := fun p j x hx => by
    unfold jj_lo at hx
    by_cases c : p < 81
    · rw [if_pos c] at hx; exact hx
    · rw [if_neg c] at hx; cases hx
  have hlow : ∀ p j x, jj_lo S p j = some x → S3 p j = some x := fun p j x hx => by
    by_cases c : p < 81
    · rw [← hx, f3 p (by omega) j, f2 p (by omega) j, f1 p (by omega) j]
    · unfold jj_lo at hx
      rw [if_neg c] at hx
      cases hx
  refine ⟨[some (.retAddr 0), some (.ref 0), some (.ref 104), some (.long d), none, none, none, none, none, none, none, none], S1, ?_⟩
  refine js_fgS (S' := jj_lo S) hlow0 ?_
  refine js_aload_n 1 rfl dL_law_392 rfl ?_
  refine js_callV (av := []) (st := []) (b := 0) hd (Or.inl rfl) jw_c_X6_digest jw_i_RX6 jw_m_RL_69 jw_s_X6_digest jw_e_X6_digest (jl_0 hB) rfl jw_y_X6_digest rfl ⟨(Nat.le_of_ble_eq_true rfl), (Nat.le_of_ble_eq_true rfl), hnc, hsc, (Nat.le_of_ble_eq_true rfl)⟩ dL_law_393 ?_
  refine js_st (st' := [.long d]) rfl ?_
  refine js_lstore_n (L' := [some (.retAddr 0), some (.ref 0), some (.ref 104), some (.long d), none, none, none, none, none, none, none, none]) 3 rfl dL_law_396 rfl (Nat.le_of_ble_eq_true rfl) ?_
  refine js_aload_n 1 rfl dL_law_397 rfl ?_
  refine js_iconst (v := nI 0) dL_law_398 (by decide) ?_
  refine js_iconst (v := nI 1) dL_law_399 (by decide) ?_
  refine js_callV (av := [.int (nI 0), .int (nI 1)]) (st := []) (b := 0) hp (Or.inl rfl) jw_c_X6_wouldPay jw_i_RX6 jw_m_RL_73 jw_s_X6_wouldPay jw_e_X6_wouldPay (jl_0 hB) rfl jw_y_X6_wouldPay rfl ⟨(Nat.le_of_ble_eq_true rfl), (Nat.le_of_ble_eq_true rfl), hnc, hsc, (Nat.le_of_ble_eq_true rfl)⟩ dL_law_400 ?_
  refine js_st (st' := [.int (nI v1)]) rfl ?_
  refine jn_if_lt 428 (by omega) dL_law_403 (by decide) (fun h9 => absurd h9 (by omega)) (fun _ => ?_)
  refine js_aload_n 1 rfl dL_law_406 rfl ?_
  refine js_iconst (v := nI 3) dL_law_407 (by decide) ?_
  refine js_iconst (v := nI 0) dL_law_408 (by decide) ?_
  refine js_callV (av := [.int (nI 3), .int (nI 0)]) (st := []) (b := 0) hg (Or.inl rfl) jw_c_X6_wouldGet jw_i_RX6 jw_m_RL_76 jw_s_X6_wouldGet jw_e_X6_wouldGet (jl_0 hB) rfl jw_y_X6_wouldGet rfl ⟨(Nat.le_of_ble_eq_true rfl), (Nat.le_of_ble_eq_true rfl), hnc, hsc, (Nat.le_of_ble_eq_true rfl)⟩ dL_law_409 ?_
  refine js_st (st' := [.int (nI v2)]) rfl ?_
  refine jn_if_lt 428 (by omega) dL_law_412 (by decide) (fun h9 => absurd h9 (by omega)) (fun _ => ?_)
  refine js_fgS (S' := jj_lo S) hlow ?_
  refine js_aload_n 1 rfl dL_law_415 rfl ?_
  refine js_callV (av := []) (st := []) (b := 0) hd (Or.inl rfl) jw_c_X6_digest jw_i_RX6 jw_m_RL_69 jw_s_X6_digest jw_e_X6_digest (jl_0 hB) rfl jw_y_X6_digest rfl ⟨(Nat.le_of_ble_eq_true rfl), (Nat.le_of_ble_eq_true rfl), hnc, hsc, (Nat.le_of_ble_eq_true rfl)⟩ dL_law_416 ?_
  refine js_st (st' := [.long d]) rfl ?_
  refine js_lload_n 3 rfl dL_law_419 rfl ?_
  refine js_lcmp dL_law_420 ?_
  refine js_top (y := nI 0) jj_cmp_self ?_
  refine jn_if_ne 428 (by omega) dL_law_421 (by decide) (fun h9 => absurd h9 (by omega)) (fun _ => ?_)
  refine js_iconst (v := nI 1) dL_law_424 (by decide) ?_
  refine js_goto 429 dL_law_425 (by decide) ?_
  exact jj_refl
theorem jj_zz_at {p j : Nat} (h : p < 104 ∧ p ≠ 9 ∧ p ≠ 26 ∧ p ≠ 43 ∧ p ≠ 52 ∧ p ≠ 61) : jj_zz 104 p j = some (nI 0) := if_pos h
def jj_P0 : jj_P := jj_mkP 0 0 0 0 0 0 0 (fun _ => 0) (fun _ => 0) (fun _ => 0) (fun _ => 0) (fun _ => 0) (fun _ => 0) (fun _ => 0) (fun _ => 0) (fun _ => 0) (fun _ => 0) (fun _ => 0) (fun _ => 0) (fun _ => 0) (fun _ => 0) (fun _ => 0) (fun _ => 0) (fun _ => 0) (fun _ => 0) (fun _ => 0) (fun _ => 0) (fun _ => 0) (fun _ _ => 0) (fun _ _ => 0) (fun _ _ => 0) (fun _ _ => 0)
set_option maxRecDepth 100000 in
set_option maxHeartbeats 4000000 in
theorem jj_J0 : jj_W1 (jj_zz 104) jj_P0 0 0 0 := by
  refine ⟨⟨⟨Nat.zero_le _, jj_zz_at (by omega), fun k hk => absurd hk (Nat.not_lt_zero _)⟩, ⟨Nat.zero_le _, jj_zz_at (by omega), fun k hk => absurd hk (Nat.not_lt_zero _)⟩, ⟨Nat.zero_le _, jj_zz_at (by omega), fun k hk => absurd hk (Nat.not_lt_zero _)⟩, ⟨Nat.zero_le _, jj_zz_at (by omega), fun k hk => absurd hk (Nat.not_lt_zero _), fun k hk => absurd hk (Nat.not_lt_zero _)⟩, fun j hj => ⟨jj_zz_at (by omega), Nat.zero_le _⟩, jj_zz_at (by omega), jj_zz_at (by omega), fun l hl j hj => jj_zz_at (by omega), fun l hl j hj => jj_zz_at (by omega), fun l hl j hj => jj_zz_at (by omega), fun a ha j hj => ⟨jj_zz_at (by omega), Nat.zero_le _⟩, ⟨jj_zz_at (by omega), jj_zz_at (by omega), fun j hj => jj_zz_at (by omega), fun j hj => jj_zz_at (by omega), fun j hj => jj_zz_at (by omega), fun j hj => jj_zz_at (by omega), fun j hj => jj_zz_at (by omega), fun j hj => jj_zz_at (by omega), fun j hj => jj_zz_at (by omega)⟩, fun j hj => jj_zz_at (by omega), fun j hj => jj_zz_at (by omega), fun j _ hj => jj_zz_at (by omega), (show 0 < 100000 by omega), fun k hk => absurd hk (Nat.not_lt_zero _), fun k hk => absurd hk (Nat.not_lt_zero _), fun k hk => absurd hk (Nat.not_lt_zero _), fun a b _ hb => absurd hb (Nat.not_lt_zero _), fun k hk => absurd hk (Nat.not_lt_zero _), fun _ => rfl⟩, ⟨fun _ _ _ _ => Nat.le_refl _, ?_, fun _ _ _ => Nat.zero_le _⟩, ?_, rfl, rfl, rfl, Nat.le_refl _, rfl⟩
  · show jj_sm (fun l => jj_sm (fun _ => 0) 10) 8 ≤ 0
    decide
  · show jj_tot 0 0 (fun _ => 0) (fun _ => 0) (fun _ => 0) (fun _ => 0) (fun _ => 0) = 0 / 14400 * _
    rw [Nat.zero_div, Nat.zero_mul]
    decide
theorem jj_rs6 : ∀ j, j < 11 → defaultValue (jj_ty 6 j) = (match ([some none, some none, some none, some none, some none, some none, some none, some none, some none, none, none] : List (Option (Option Nat)))[j]? with | some (some none) => Value.null | _ => Value.int 0) := by
  intro j hj
  have h9 : j = 0 ∨ j = 1 ∨ j = 2 ∨ j = 3 ∨ j = 4 ∨ j = 5 ∨ j = 6 ∨ j = 7 ∨ j = 8 ∨ j = 9 ∨ j = 10 := by omega
  rcases h9 with rfl | rfl | rfl | rfl | rfl | rfl | rfl | rfl | rfl | rfl | rfl <;> rfl
set_option maxRecDepth 100000 in
set_option maxHeartbeats 4000000 in
theorem lr_start {Ls : Nat} {xs : Nat → Int32} (hLs : Ls ≤ 260) : ∃ (S1 : jj_Mem) (P1 : jj_P) (kp : Nat → Nat), jj_R cL_law 12 RL yL_law.name (some (Ls, xs)) 7 163 600104 7301313 (0, [some (.retAddr 0), none, none, none, none, none, none, none, none, none, none, none], [], [], jj_zz 0) (22, [some (.retAddr 0), some (.ref 0), some (.ref 104), some (.int (nI 0)), none, none, none, none, none, none, none, none], [], jj_lay0 ++ [(20, 130, [])], S1) ∧ jj_Lw (jj_lay0 ++ [(20, 130, [])]) S1 P1 kp 0 := by
  obtain ⟨S1, P1, hct, h, hK, hT, a1, a2, a3, a4, a5⟩ := E_write jj_pp0 (xs := xs) hLs jj_J0
  have hlen : jj_lay0.length = 104 := rfl
  refine ⟨jj_z S1 104 1, P1, fun _ => 0, ?_, jj_pp_app jj_pp0, ?_, ?_, ?_, jj_J_eq h (fun p hp j => if_neg (by omega)), hK, hT, fun j hj => ⟨if_pos (by omega), Or.inl rfl⟩, a3, a5, by omega, by omega⟩
  · refine js_newq (lay := []) (lay' := [(6, 11, [some none, some none, some none, some none, some none, some none, some none, some none, some none, none, none])]) [some none, some none, some none, some none, some none, some none, some none, some none, some none, none, none] (q := 0) rfl rfl (jj_zz_z (fun q h1 h2 => by omega)) rfl jw_w_RL_20 jw_v_RX6 jw_ii_RX6 jj_rs6 (fun q h => by simp at h) (Nat.le_of_ble_eq_true rfl) (Nat.le_of_ble_eq_true rfl) dL_law_0 ?_
    refine js_dup rfl dL_law_3 ?_
    refine js_callI (av := []) (st := [.ref 0]) (b := 0) ci_0 (Or.inl rfl) jw_c_X6_init jw_i_RX6 jw_m_RL_42 jw_s_X6_init rfl jw_y_X6_init rfl ⟨(Nat.le_of_ble_eq_true rfl), (Nat.le_of_ble_eq_true rfl), (Nat.le_of_ble_eq_true rfl), (Nat.le_of_ble_eq_true rfl), (Nat.le_of_ble_eq_true rfl)⟩ dL_law_4 ?_
    refine js_st (st' := [.ref 0]) rfl ?_
    refine js_astore_n (L' := [some (.retAddr 0), some (.ref 0), none, none, none, none, none, none, none, none, none, none]) 1 rfl dL_law_7 rfl (Nat.le_of_ble_eq_true rfl) ?_
    refine js_aload_n 1 rfl dL_law_8 rfl ?_
    refine js_xload_n 0 rfl dL_law_9 rfl ?_
    refine js_iconst (v := nI 5) dL_law_10 (by decide) ?_
    refine js_callS (av := [.ref 0, .retAddr 0, .int (nI 5)]) (st := []) hct (Or.inr rfl) jw_c_L_write jw_i_RL jw_m_RL_43 jw_s_L_write jw_y_L_write rfl ⟨(Nat.le_of_ble_eq_true rfl), (Nat.le_of_ble_eq_true rfl), (Nat.le_of_ble_eq_true rfl), (Nat.le_of_ble_eq_true rfl), (Nat.le_of_ble_eq_true rfl)⟩ dL_law_11 ?_
    refine js_st (st' := []) rfl ?_
    refine js_sipush (v := nI 130) dL_law_14 (by decide) ?_
    refine js_newIq (lay := jj_lay0) (lay' := jj_lay0 ++ [(20, 130, [])]) 130 (q := 104) rfl rfl rfl rfl (Nat.le_of_ble_eq_true rfl) (Nat.le_of_ble_eq_true rfl) (Nat.le_of_ble_eq_true rfl) dL_law_17 ?_
    refine js_astore_n (L' := [some (.retAddr 0), some (.ref 0), some (.ref 104), none, none, none, none, none, none, none, none, none]) 2 rfl dL_law_19 rfl (Nat.le_of_ble_eq_true rfl) ?_
    refine js_iconst (v := nI 0) dL_law_20 (by decide) ?_
    refine js_istore_n (L' := [some (.retAddr 0), some (.ref 0), some (.ref 104), some (.int (nI 0)), none, none, none, none, none, none, none, none]) 3 rfl dL_law_21 rfl (Nat.le_of_ble_eq_true rfl) ?_
    exact jj_refl
  · rw [← hlen, List.getElem?_append_right (Nat.le_refl _), Nat.sub_self]; rfl
  · exact (Nat.le_of_ble_eq_true rfl)
  · exact (Nat.le_of_ble_eq_true rfl)
set_option maxRecDepth 100000 in
set_option maxHeartbeats 4000000 in
theorem lr_law {Ls : Nat} {xs : Nat → Int32} (hLs : Ls ≤ 260) : ∃ (L' : List (Option Value)) (lay' : jj_Lay) (S' : jj_Mem), jj_R cL_law 12 RL yL_law.name (some (Ls, xs)) 7 163 600104 7301313 (0, [some (.retAddr 0), none, none, none, none, none, none, none, none, none, none, none], [], [], jj_zz 0) (429, L', [.int (nI 1)], lay', S') ∧ lay'.length ≤ 600104 ∧ jj_sl lay' ≤ 7301313 := by
  obtain ⟨S1, P1, kp, hR1, H1⟩ := lr_start (xs := xs) hLs
  obtain ⟨l2, S2, P2, k2, hR2, H2⟩ := lr_all (xs := xs) hLs 34 0 (by omega) _ S1 P1 kp H1
  obtain ⟨hB, hk, hlen, hsl, h, hK, hT, hrest⟩ := H2
  obtain ⟨L', S', hR3⟩ := lr_end (xs := xs) (Ls := Ls) hB (by omega) (by omega) h hK hT
  exact ⟨L', l2, S', jj_tr hR1 (jj_tr hR2 hR3), by omega, by omega⟩

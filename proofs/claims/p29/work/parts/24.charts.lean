/-! CHARTS, SUGGESTIONS, THE DIGEST. -/
theorem jj_ev31 {P : jj_P} (hK : jj_K P) (hn : P.n ≤ 130) : ∀ l, l < 8 → ∀ j, j < 10 → P.ev l j < 2 ^ 31 := fun l hl j hj => by have := hK.1 l hl j hj; omega
theorem jj_im130 {P : jj_P} (hK : jj_K P) : ∀ l, l < 8 → ∀ j, j < 10 → P.im l j ≤ P.n := fun l hl j hj =>
  Nat.le_trans (jj_sm_at (f := P.im l) hj) (Nat.le_trans (jj_sm_at (f := fun l => jj_sm (P.im l) 10) hl) hK.2.1)
set_option maxRecDepth 100000 in
set_option maxHeartbeats 4000000 in
theorem E_X6_isNewAndHearable {lay : jj_Lay} {S : jj_Mem} {P : jj_P} (hB : jj_pp lay) (h : jj_J S P) (hK : jj_K P) {u l : Nat} (hu : u < 10) (hl : l < P.cnt) : ∃ q : Nat, jj_CT yX6_isNewAndHearable (.code yX6_isNewAndHearable cX6_isNewAndHearable 3 (some .boolean)) none 2 48 [.ref 0, .int (nI u), .int (nI l)] lay S (some (.int (nI q))) lay S ∧ q ≤ 1 := by
  have h8 := h.au.1
  have h14 := h.tk.1
  have h130 := h.lg.1
  have ht9 := h.ht
  have he9 := jj_ev31 hK h130 l (by omega) u hu
  obtain ⟨q, hct, hq⟩ := ct_X2_isHearable (lay := lay) hB h.wi h.tk (u := u) (y := nI (P.ld l)) (z := nI P.t) (by omega)
  by_cases hc0 : ((P.ev l u)) = 0
  · by_cases hc1 : q = 0
    · refine ⟨0, ?_, by omega⟩
      refine jj_mkI RX6 .boolean (by decide) rfl (L := [some (.ref 0), some (.int (nI u)), some (.int (nI l))]) rfl rfl rfl ⟨43, [some (.ref 0), some (.int (nI u)), some (.int (nI l))], dX6_isNewAndHearable_43, ?_⟩
      refine js_aload_n 0 rfl dX6_isNewAndHearable_0 rfl ?_
      refine js_getr 4 jw_f_RX6_40 (jl_0 hB) rfl (Nat.le_of_ble_eq_true rfl) rfl dX6_isNewAndHearable_1 ?_
      refine js_getNr 0 jw_n_RX6_231 (jl_42 hB) rfl (Nat.le_of_ble_eq_true rfl) rfl dX6_isNewAndHearable_4 ?_
      refine js_iload_n 2 rfl dX6_isNewAndHearable_7 rfl ?_
      refine js_aald l rfl (jl_43 hB) (by omega) (by decide) (jr_ev l (by omega)) dX6_isNewAndHearable_8 ?_
      refine js_iload_n 1 rfl dX6_isNewAndHearable_9 rfl ?_
      refine js_iald u rfl (jl_ev hB l (by omega)) hu (by decide) ((h.ev l (by omega) u (by omega))) dX6_isNewAndHearable_10 ?_
      refine jn_if_ne 42 (by omega) dX6_isNewAndHearable_11 (by decide) (fun h9 => absurd h9 (by omega)) (fun _ => ?_)
      refine js_aload_n 0 rfl dX6_isNewAndHearable_14 rfl ?_
      refine js_getr 0 jw_f_RX6_12 (jl_0 hB) rfl (Nat.le_of_ble_eq_true rfl) rfl dX6_isNewAndHearable_15 ?_
      refine js_iload_n 1 rfl dX6_isNewAndHearable_18 rfl ?_
      refine js_aload_n 0 rfl dX6_isNewAndHearable_19 rfl ?_
      refine js_getr 2 jw_f_RX6_26 (jl_0 hB) rfl (Nat.le_of_ble_eq_true rfl) rfl dX6_isNewAndHearable_20 ?_
      refine js_getNr 1 jw_n_RX6_169 (jl_20 hB) rfl (Nat.le_of_ble_eq_true rfl) rfl dX6_isNewAndHearable_23 ?_
      refine js_iload_n 2 rfl dX6_isNewAndHearable_26 rfl ?_
      refine js_iald l rfl (jl_21 hB) (by omega) (by decide) ((h.au.2.2.1 l (by omega)).1) dX6_isNewAndHearable_27 ?_
      refine js_aload_n 0 rfl dX6_isNewAndHearable_28 rfl ?_
      refine js_geti 9 jw_f_RX6_61 (jl_0 hB) rfl (Nat.le_of_ble_eq_true rfl) rfl (h.now) dX6_isNewAndHearable_29 ?_
      refine js_callVN (av := [.int (nI u), .int (nI (P.ld l)), .int (nI P.t)]) (st := []) (b := 1) hct (Or.inl rfl) jw_c_X2_isHearable jw_i_RX2 jw_h_RX6_429 jw_s_X2_isHearable jw_e_X2_isHearable (jl_1 hB) rfl jw_y_X2_isHearable rfl ⟨(Nat.le_of_ble_eq_true rfl), (Nat.le_of_ble_eq_true rfl), (Nat.le_refl _), (Nat.le_refl _), (Nat.le_of_ble_eq_true rfl)⟩ dX6_isNewAndHearable_32 ?_
      refine js_st (st' := [.int (nI q)]) rfl ?_
      refine jn_if_eq 42 (by omega) dX6_isNewAndHearable_35 (by decide) (fun _ => ?_) (fun h9 => absurd h9 (by omega))
      refine js_iconst (v := nI 0) dX6_isNewAndHearable_42 (by decide) ?_
      exact jj_refl
    · refine ⟨1, ?_, by omega⟩
      refine jj_mkI RX6 .boolean (by decide) rfl (L := [some (.ref 0), some (.int (nI u)), some (.int (nI l))]) rfl rfl rfl ⟨43, [some (.ref 0), some (.int (nI u)), some (.int (nI l))], dX6_isNewAndHearable_43, ?_⟩
      refine js_aload_n 0 rfl dX6_isNewAndHearable_0 rfl ?_
      refine js_getr 4 jw_f_RX6_40 (jl_0 hB) rfl (Nat.le_of_ble_eq_true rfl) rfl dX6_isNewAndHearable_1 ?_
      refine js_getNr 0 jw_n_RX6_231 (jl_42 hB) rfl (Nat.le_of_ble_eq_true rfl) rfl dX6_isNewAndHearable_4 ?_
      refine js_iload_n 2 rfl dX6_isNewAndHearable_7 rfl ?_
      refine js_aald l rfl (jl_43 hB) (by omega) (by decide) (jr_ev l (by omega)) dX6_isNewAndHearable_8 ?_
      refine js_iload_n 1 rfl dX6_isNewAndHearable_9 rfl ?_
      refine js_iald u rfl (jl_ev hB l (by omega)) hu (by decide) ((h.ev l (by omega) u (by omega))) dX6_isNewAndHearable_10 ?_
      refine jn_if_ne 42 (by omega) dX6_isNewAndHearable_11 (by decide) (fun h9 => absurd h9 (by omega)) (fun _ => ?_)
      refine js_aload_n 0 rfl dX6_isNewAndHearable_14 rfl ?_
      refine js_getr 0 jw_f_RX6_12 (jl_0 hB) rfl (Nat.le_of_ble_eq_true rfl) rfl dX6_isNewAndHearable_15 ?_
      refine js_iload_n 1 rfl dX6_isNewAndHearable_18 rfl ?_
      refine js_aload_n 0 rfl dX6_isNewAndHearable_19 rfl ?_
      refine js_getr 2 jw_f_RX6_26 (jl_0 hB) rfl (Nat.le_of_ble_eq_true rfl) rfl dX6_isNewAndHearable_20 ?_
      refine js_getNr 1 jw_n_RX6_169 (jl_20 hB) rfl (Nat.le_of_ble_eq_true rfl) rfl dX6_isNewAndHearable_23 ?_
      refine js_iload_n 2 rfl dX6_isNewAndHearable_26 rfl ?_
      refine js_iald l rfl (jl_21 hB) (by omega) (by decide) ((h.au.2.2.1 l (by omega)).1) dX6_isNewAndHearable_27 ?_
      refine js_aload_n 0 rfl dX6_isNewAndHearable_28 rfl ?_
      refine js_geti 9 jw_f_RX6_61 (jl_0 hB) rfl (Nat.le_of_ble_eq_true rfl) rfl (h.now) dX6_isNewAndHearable_29 ?_
      refine js_callVN (av := [.int (nI u), .int (nI (P.ld l)), .int (nI P.t)]) (st := []) (b := 1) hct (Or.inl rfl) jw_c_X2_isHearable jw_i_RX2 jw_h_RX6_429 jw_s_X2_isHearable jw_e_X2_isHearable (jl_1 hB) rfl jw_y_X2_isHearable rfl ⟨(Nat.le_of_ble_eq_true rfl), (Nat.le_of_ble_eq_true rfl), (Nat.le_refl _), (Nat.le_refl _), (Nat.le_of_ble_eq_true rfl)⟩ dX6_isNewAndHearable_32 ?_
      refine js_st (st' := [.int (nI q)]) rfl ?_
      refine jn_if_eq 42 (by omega) dX6_isNewAndHearable_35 (by decide) (fun h9 => absurd h9 (by omega)) (fun _ => ?_)
      refine js_iconst (v := nI 1) dX6_isNewAndHearable_38 (by decide) ?_
      refine js_goto 43 dX6_isNewAndHearable_39 (by decide) ?_
      exact jj_refl
  · refine ⟨0, ?_, by omega⟩
    refine jj_mkI RX6 .boolean (by decide) rfl (L := [some (.ref 0), some (.int (nI u)), some (.int (nI l))]) rfl rfl rfl ⟨43, [some (.ref 0), some (.int (nI u)), some (.int (nI l))], dX6_isNewAndHearable_43, ?_⟩
    refine js_aload_n 0 rfl dX6_isNewAndHearable_0 rfl ?_
    refine js_getr 4 jw_f_RX6_40 (jl_0 hB) rfl (Nat.le_of_ble_eq_true rfl) rfl dX6_isNewAndHearable_1 ?_
    refine js_getNr 0 jw_n_RX6_231 (jl_42 hB) rfl (Nat.le_of_ble_eq_true rfl) rfl dX6_isNewAndHearable_4 ?_
    refine js_iload_n 2 rfl dX6_isNewAndHearable_7 rfl ?_
    refine js_aald l rfl (jl_43 hB) (by omega) (by decide) (jr_ev l (by omega)) dX6_isNewAndHearable_8 ?_
    refine js_iload_n 1 rfl dX6_isNewAndHearable_9 rfl ?_
    refine js_iald u rfl (jl_ev hB l (by omega)) hu (by decide) ((h.ev l (by omega) u (by omega))) dX6_isNewAndHearable_10 ?_
    refine jn_if_ne 42 (by omega) dX6_isNewAndHearable_11 (by decide) (fun _ => ?_) (fun h9 => absurd h9 (by omega))
    refine js_iconst (v := nI 0) dX6_isNewAndHearable_42 (by decide) ?_
    exact jj_refl
set_option maxRecDepth 100000 in
set_option maxHeartbeats 4000000 in
theorem lp_X6_alikeToHeard {lay : jj_Lay} {S : jj_Mem} {P : jj_P} (hB : jj_pp lay) (h : jj_J S P) (hK : jj_K P) {u l : Nat} (hu : u < 10) (hl : l < P.cnt) : ∀ (k e : Nat), e + k = 10 → ∀ (a : Int32), ∃ r : Int32, jj_RR cX6_alikeToHeard 5 RX6 yX6_alikeToHeard.name none 1 24 lay.length (jj_sl lay) (5, [some (.ref 0), some (.int (nI u)), some (.int (nI l)), some (.int a), some (.int (nI e))], [], lay, S) (some (.int r)) .ireturn lay S := by
  have h8 := h.au.1
  have h14 := h.tk.1
  have h130 := h.lg.1
  have ht9 := h.ht
  intro k
  induction k with
  | zero =>
    intro e he a
    refine ⟨a, ⟨47, [some (.ref 0), some (.int (nI u)), some (.int (nI l)), some (.int a), some (.int (nI e))], dX6_alikeToHeard_47, ?_⟩⟩
    refine js_iload dX6_alikeToHeard_5 rfl ?_
    refine js_bipush (v := nI 10) dX6_alikeToHeard_7 (by decide) ?_
    refine jn_icmp_ge 46 (by omega) (by omega) dX6_alikeToHeard_9 (by decide) (fun _ => ?_) (fun h9 => absurd h9 (by omega))
    refine js_iload_n 3 rfl dX6_alikeToHeard_46 rfl ?_
    exact jj_refl
  | succ k ih =>
    intro e he a
    have he9 := jj_ev31 hK h130 l (by omega) e (by omega)
    obtain ⟨q, hct⟩ := ct_X3_hearersOfBoth (lay := lay) hB h.ev (jj_ev31 hK h130) (u := u) (v := e) hu (by omega)
    by_cases hc0 : ((P.ev l e)) ≤ 0
    · obtain ⟨r, hR⟩ := ih (e + 1) (by omega) a
      refine ⟨r, jj_RRs ?_ hR⟩
      refine js_iload dX6_alikeToHeard_5 rfl ?_
      refine js_bipush (v := nI 10) dX6_alikeToHeard_7 (by decide) ?_
      refine jn_icmp_ge 46 (by omega) (by omega) dX6_alikeToHeard_9 (by decide) (fun h9 => absurd h9 (by omega)) (fun _ => ?_)
      refine js_aload_n 0 rfl dX6_alikeToHeard_12 rfl ?_
      refine js_getr 4 jw_f_RX6_40 (jl_0 hB) rfl (Nat.le_of_ble_eq_true rfl) rfl dX6_alikeToHeard_13 ?_
      refine js_getNr 0 jw_n_RX6_231 (jl_42 hB) rfl (Nat.le_of_ble_eq_true rfl) rfl dX6_alikeToHeard_16 ?_
      refine js_iload_n 2 rfl dX6_alikeToHeard_19 rfl ?_
      refine js_aald l rfl (jl_43 hB) (by omega) (by decide) (jr_ev l (by omega)) dX6_alikeToHeard_20 ?_
      refine js_iload dX6_alikeToHeard_21 rfl ?_
      refine js_iald e rfl (jl_ev hB l (by omega)) (by omega) (by decide) ((h.ev l (by omega) e (by omega))) dX6_alikeToHeard_23 ?_
      refine jn_if_le 40 (by omega) dX6_alikeToHeard_24 (by decide) (fun _ => ?_) (fun h9 => absurd h9 (by omega))
      refine js_iinc (v := nI (e + 1)) (L' := [some (.ref 0), some (.int (nI u)), some (.int (nI l)), some (.int a), some (.int (nI (e + 1)))]) dX6_alikeToHeard_40 rfl (jj_inc _) rfl ?_
      refine js_goto 5 dX6_alikeToHeard_43 (by decide) ?_
      exact jj_refl
    · obtain ⟨r, hR⟩ := ih (e + 1) (by omega) (a + q)
      refine ⟨r, jj_RRs ?_ hR⟩
      refine js_iload dX6_alikeToHeard_5 rfl ?_
      refine js_bipush (v := nI 10) dX6_alikeToHeard_7 (by decide) ?_
      refine jn_icmp_ge 46 (by omega) (by omega) dX6_alikeToHeard_9 (by decide) (fun h9 => absurd h9 (by omega)) (fun _ => ?_)
      refine js_aload_n 0 rfl dX6_alikeToHeard_12 rfl ?_
      refine js_getr 4 jw_f_RX6_40 (jl_0 hB) rfl (Nat.le_of_ble_eq_true rfl) rfl dX6_alikeToHeard_13 ?_
      refine js_getNr 0 jw_n_RX6_231 (jl_42 hB) rfl (Nat.le_of_ble_eq_true rfl) rfl dX6_alikeToHeard_16 ?_
      refine js_iload_n 2 rfl dX6_alikeToHeard_19 rfl ?_
      refine js_aald l rfl (jl_43 hB) (by omega) (by decide) (jr_ev l (by omega)) dX6_alikeToHeard_20 ?_
      refine js_iload dX6_alikeToHeard_21 rfl ?_
      refine js_iald e rfl (jl_ev hB l (by omega)) (by omega) (by decide) ((h.ev l (by omega) e (by omega))) dX6_alikeToHeard_23 ?_
      refine jn_if_le 40 (by omega) dX6_alikeToHeard_24 (by decide) (fun h9 => absurd h9 (by omega)) (fun _ => ?_)
      refine js_iload_n 3 rfl dX6_alikeToHeard_27 rfl ?_
      refine js_aload_n 0 rfl dX6_alikeToHeard_28 rfl ?_
      refine js_getr 4 jw_f_RX6_40 (jl_0 hB) rfl (Nat.le_of_ble_eq_true rfl) rfl dX6_alikeToHeard_29 ?_
      refine js_iload_n 1 rfl dX6_alikeToHeard_32 rfl ?_
      refine js_iload dX6_alikeToHeard_33 rfl ?_
      refine js_callVN (av := [.int (nI u), .int (nI e)]) (st := [.int a]) (b := 42) hct (Or.inl rfl) jw_c_X3_hearersOfBoth jw_i_RX3 jw_h_RX6_310 jw_s_X3_hearersOfBoth jw_e_X3_hearersOfBoth (jl_42 hB) rfl jw_y_X3_hearersOfBoth rfl ⟨(Nat.le_of_ble_eq_true rfl), (Nat.le_of_ble_eq_true rfl), (Nat.le_refl _), (Nat.le_refl _), (Nat.le_of_ble_eq_true rfl)⟩ dX6_alikeToHeard_35 ?_
      refine js_st (st' := [.int q, .int a]) rfl ?_
      refine js_iadd dX6_alikeToHeard_38 ?_
      refine js_istore_n (L' := [some (.ref 0), some (.int (nI u)), some (.int (nI l)), some (.int (a + q)), some (.int (nI e))]) 3 rfl dX6_alikeToHeard_39 rfl (Nat.le_of_ble_eq_true rfl) ?_
      refine js_iinc (v := nI (e + 1)) (L' := [some (.ref 0), some (.int (nI u)), some (.int (nI l)), some (.int (a + q)), some (.int (nI (e + 1)))]) dX6_alikeToHeard_40 rfl (jj_inc _) rfl ?_
      refine js_goto 5 dX6_alikeToHeard_43 (by decide) ?_
      exact jj_refl
set_option maxRecDepth 100000 in
set_option maxHeartbeats 4000000 in
theorem E_X6_alikeToHeard {lay : jj_Lay} {S : jj_Mem} {P : jj_P} (hB : jj_pp lay) (h : jj_J S P) (hK : jj_K P) {u l : Nat} (hu : u < 10) (hl : l < P.cnt) : ∃ r : Int32, jj_CT yX6_alikeToHeard (.code yX6_alikeToHeard cX6_alikeToHeard 5 (some .int)) none 1 24 [.ref 0, .int (nI u), .int (nI l)] lay S (some (.int r)) lay S := by
  obtain ⟨r, hR⟩ := lp_X6_alikeToHeard (lay := lay) (S := S) hB h hK hu hl 10 0 (by omega) (nI 0)
  refine ⟨r, ?_⟩
  refine jj_mkI RX6 .int (by decide) rfl (L := [some (.ref 0), some (.int (nI u)), some (.int (nI l)), none, none]) rfl rfl rfl ?_
  refine jj_RRs ?_ hR
  refine js_iconst (v := nI 0) dX6_alikeToHeard_0 (by decide) ?_
  refine js_istore_n (L' := [some (.ref 0), some (.int (nI u)), some (.int (nI l)), some (.int (nI 0)), none]) 3 rfl dX6_alikeToHeard_1 rfl (Nat.le_of_ble_eq_true rfl) ?_
  refine js_iconst (v := nI 0) dX6_alikeToHeard_2 (by decide) ?_
  refine js_istore (L' := [some (.ref 0), some (.int (nI u)), some (.int (nI l)), some (.int (nI 0)), some (.int (nI 0))]) dX6_alikeToHeard_3 rfl (Nat.le_of_ble_eq_true rfl) ?_
  exact jj_refl
set_option maxRecDepth 100000 in
set_option maxHeartbeats 4000000 in
theorem lp_X6_suggestion {lay : jj_Lay} {S : jj_Mem} {P : jj_P} (hB : jj_pp lay) (h : jj_J S P) (hK : jj_K P) {l : Nat} (hl : l < P.cnt) : ∀ (k e : Nat), e + k = 10 → ∀ (a : Int32) (b : Int32) (c : Int32), ∃ r : Int32, jj_RR cX6_suggestion 8 RX6 yX6_suggestion.name none 3 70 lay.length (jj_sl lay) (10, [some (.ref 0), some (.int (nI l)), some (.int a), some (.int b), some (.int c), some (.int (nI e)), none, none], [], lay, S) (some (.int r)) .ireturn lay S := by
  have h8 := h.au.1
  have h14 := h.tk.1
  have h130 := h.lg.1
  have ht9 := h.ht
  intro k
  induction k with
  | zero =>
    intro e he a b c
    refine ⟨a, ⟨91, [some (.ref 0), some (.int (nI l)), some (.int a), some (.int b), some (.int c), some (.int (nI e)), none, none], dX6_suggestion_91, ?_⟩⟩
    refine js_iload dX6_suggestion_10 rfl ?_
    refine js_bipush (v := nI 10) dX6_suggestion_12 (by decide) ?_
    refine jn_icmp_ge 90 (by omega) (by omega) dX6_suggestion_14 (by decide) (fun _ => ?_) (fun h9 => absurd h9 (by omega))
    refine js_iload_n 2 rfl dX6_suggestion_90 rfl ?_
    exact jj_refl
  | succ k ih =>
    intro e he a b c
    obtain ⟨q, hct1, hq⟩ := E_X6_isNewAndHearable (lay := lay) hB h hK (u := e) (by omega) hl
    obtain ⟨q2, hct2⟩ := E_X6_alikeToHeard (lay := lay) hB h hK (u := e) (by omega) hl
    by_cases hc0 : q = 0
    · obtain ⟨r, hR⟩ := ih (e + 1) (by omega) a b c
      refine ⟨r, jj_RRs ?_ hR⟩
      refine js_iload dX6_suggestion_10 rfl ?_
      refine js_bipush (v := nI 10) dX6_suggestion_12 (by decide) ?_
      refine jn_icmp_ge 90 (by omega) (by omega) dX6_suggestion_14 (by decide) (fun h9 => absurd h9 (by omega)) (fun _ => ?_)
      refine js_aload_n 0 rfl dX6_suggestion_17 rfl ?_
      refine js_iload dX6_suggestion_18 rfl ?_
      refine js_iload_n 1 rfl dX6_suggestion_20 rfl ?_
      refine js_callV (av := [.int (nI e), .int (nI l)]) (st := []) (b := 0) hct1 (Or.inl rfl) jw_c_X6_isNewAndHearable jw_i_RX6 jw_m_RX6_423 jw_s_X6_isNewAndHearable jw_e_X6_isNewAndHearable (jl_0 hB) rfl jw_y_X6_isNewAndHearable rfl ⟨(Nat.le_of_ble_eq_true rfl), (Nat.le_of_ble_eq_true rfl), (Nat.le_refl _), (Nat.le_refl _), (Nat.le_of_ble_eq_true rfl)⟩ dX6_suggestion_21 ?_
      refine js_st (st' := [.int (nI q)]) rfl ?_
      refine jn_if_eq 84 (by omega) dX6_suggestion_24 (by decide) (fun _ => ?_) (fun h9 => absurd h9 (by omega))
      refine js_iinc (v := nI (e + 1)) (L' := [some (.ref 0), some (.int (nI l)), some (.int a), some (.int b), some (.int c), some (.int (nI (e + 1))), none, none]) dX6_suggestion_84 rfl (jj_inc _) rfl ?_
      refine js_goto 10 dX6_suggestion_87 (by decide) ?_
      exact jj_refl
    · by_cases hc1 : a = ((-1))
      · obtain ⟨r, hR⟩ := ih (e + 1) (by omega) (nI e) q2 ((nI (jj_sm (fun j => P.ev j e) 8)))
        refine ⟨r, jj_RRs ?_ hR⟩
        refine js_iload dX6_suggestion_10 rfl ?_
        refine js_bipush (v := nI 10) dX6_suggestion_12 (by decide) ?_
        refine jn_icmp_ge 90 (by omega) (by omega) dX6_suggestion_14 (by decide) (fun h9 => absurd h9 (by omega)) (fun _ => ?_)
        refine js_aload_n 0 rfl dX6_suggestion_17 rfl ?_
        refine js_iload dX6_suggestion_18 rfl ?_
        refine js_iload_n 1 rfl dX6_suggestion_20 rfl ?_
        refine js_callV (av := [.int (nI e), .int (nI l)]) (st := []) (b := 0) hct1 (Or.inl rfl) jw_c_X6_isNewAndHearable jw_i_RX6 jw_m_RX6_423 jw_s_X6_isNewAndHearable jw_e_X6_isNewAndHearable (jl_0 hB) rfl jw_y_X6_isNewAndHearable rfl ⟨(Nat.le_of_ble_eq_true rfl), (Nat.le_of_ble_eq_true rfl), (Nat.le_refl _), (Nat.le_refl _), (Nat.le_of_ble_eq_true rfl)⟩ dX6_suggestion_21 ?_
        refine js_st (st' := [.int (nI q)]) rfl ?_
        refine jn_if_eq 84 (by omega) dX6_suggestion_24 (by decide) (fun h9 => absurd h9 (by omega)) (fun _ => ?_)
        refine js_aload_n 0 rfl dX6_suggestion_27 rfl ?_
        refine js_iload dX6_suggestion_28 rfl ?_
        refine js_iload_n 1 rfl dX6_suggestion_30 rfl ?_
        refine js_callV (av := [.int (nI e), .int (nI l)]) (st := []) (b := 0) hct2 (Or.inl rfl) jw_c_X6_alikeToHeard jw_i_RX6 jw_m_RX6_426 jw_s_X6_alikeToHeard jw_e_X6_alikeToHeard (jl_0 hB) rfl jw_y_X6_alikeToHeard rfl ⟨(Nat.le_of_ble_eq_true rfl), (Nat.le_of_ble_eq_true rfl), (Nat.le_refl _), (Nat.le_refl _), (Nat.le_of_ble_eq_true rfl)⟩ dX6_suggestion_31 ?_
        refine js_st (st' := [.int q2]) rfl ?_
        refine js_istore (L' := [some (.ref 0), some (.int (nI l)), some (.int a), some (.int b), some (.int c), some (.int (nI e)), some (.int q2), none]) dX6_suggestion_34 rfl (Nat.le_of_ble_eq_true rfl) ?_
        refine js_aload_n 0 rfl dX6_suggestion_36 rfl ?_
        refine js_getr 4 jw_f_RX6_40 (jl_0 hB) rfl (Nat.le_of_ble_eq_true rfl) rfl dX6_suggestion_37 ?_
        refine js_getNr 0 jw_n_RX6_231 (jl_42 hB) rfl (Nat.le_of_ble_eq_true rfl) rfl dX6_suggestion_40 ?_
        refine js_iload dX6_suggestion_43 rfl ?_
        refine js_callS (av := [.ref 43, .int (nI e)]) (st := []) (ct_X6_columnSum (g := P.ev) (jl_43 hB) (by omega) (fun j hj => ⟨jr_ev j hj, jl_ev hB j hj⟩) (by omega) (fun j hj => h.ev j hj e (by omega))) (Or.inl rfl) jw_c_X6_columnSum jw_i_RX6 jw_m_RX6_282 jw_s_X6_columnSum jw_y_X6_columnSum rfl ⟨(Nat.le_of_ble_eq_true rfl), (Nat.le_of_ble_eq_true rfl), (Nat.le_refl _), (Nat.le_refl _), (Nat.le_of_ble_eq_true rfl)⟩ dX6_suggestion_45 ?_
        refine js_st (st' := [.int ((nI (jj_sm (fun j => P.ev j e) 8)))]) rfl ?_
        refine js_istore (L' := [some (.ref 0), some (.int (nI l)), some (.int a), some (.int b), some (.int c), some (.int (nI e)), some (.int q2), some (.int ((nI (jj_sm (fun j => P.ev j e) 8))))]) dX6_suggestion_48 rfl (Nat.le_of_ble_eq_true rfl) ?_
        refine js_iload_n 2 rfl dX6_suggestion_50 rfl ?_
        refine js_iconst (v := -1) dX6_suggestion_51 (by decide) ?_
        refine js_icmp_eq 74 dX6_suggestion_52 (by decide) (fun _ => ?_) (fun h9 => absurd h9 (fun q => q hc1))
        refine js_iload dX6_suggestion_74 rfl ?_
        refine js_istore_n (L' := [some (.ref 0), some (.int (nI l)), some (.int (nI e)), some (.int b), some (.int c), some (.int (nI e)), some (.int q2), some (.int ((nI (jj_sm (fun j => P.ev j e) 8))))]) 2 rfl dX6_suggestion_76 rfl (Nat.le_of_ble_eq_true rfl) ?_
        refine js_iload dX6_suggestion_77 rfl ?_
        refine js_istore_n (L' := [some (.ref 0), some (.int (nI l)), some (.int (nI e)), some (.int q2), some (.int c), some (.int (nI e)), some (.int q2), some (.int ((nI (jj_sm (fun j => P.ev j e) 8))))]) 3 rfl dX6_suggestion_79 rfl (Nat.le_of_ble_eq_true rfl) ?_
        refine js_iload dX6_suggestion_80 rfl ?_
        refine js_istore (L' := [some (.ref 0), some (.int (nI l)), some (.int (nI e)), some (.int q2), some (.int ((nI (jj_sm (fun j => P.ev j e) 8)))), some (.int (nI e)), some (.int q2), some (.int ((nI (jj_sm (fun j => P.ev j e) 8))))]) dX6_suggestion_82 rfl (Nat.le_of_ble_eq_true rfl) ?_
        refine js_iinc (v := nI (e + 1)) (L' := [some (.ref 0), some (.int (nI l)), some (.int (nI e)), some (.int q2), some (.int ((nI (jj_sm (fun j => P.ev j e) 8)))), some (.int (nI (e + 1))), some (.int q2), some (.int ((nI (jj_sm (fun j => P.ev j e) 8))))]) dX6_suggestion_84 rfl (jj_inc _) rfl ?_
        refine js_goto 10 dX6_suggestion_87 (by decide) ?_
        refine js_fgL (L' := [some (.ref 0), some (.int (nI l)), some (.int (nI e)), some (.int q2), some (.int ((nI (jj_sm (fun j => P.ev j e) 8)))), some (.int (nI (e + 1))), none, none]) (by simp [jj_le, jj_sm]) ?_
        exact jj_refl
      · by_cases hc2 : b < q2
        · obtain ⟨r, hR⟩ := ih (e + 1) (by omega) (nI e) q2 ((nI (jj_sm (fun j => P.ev j e) 8)))
          refine ⟨r, jj_RRs ?_ hR⟩
          refine js_iload dX6_suggestion_10 rfl ?_
          refine js_bipush (v := nI 10) dX6_suggestion_12 (by decide) ?_
          refine jn_icmp_ge 90 (by omega) (by omega) dX6_suggestion_14 (by decide) (fun h9 => absurd h9 (by omega)) (fun _ => ?_)
          refine js_aload_n 0 rfl dX6_suggestion_17 rfl ?_
          refine js_iload dX6_suggestion_18 rfl ?_
          refine js_iload_n 1 rfl dX6_suggestion_20 rfl ?_
          refine js_callV (av := [.int (nI e), .int (nI l)]) (st := []) (b := 0) hct1 (Or.inl rfl) jw_c_X6_isNewAndHearable jw_i_RX6 jw_m_RX6_423 jw_s_X6_isNewAndHearable jw_e_X6_isNewAndHearable (jl_0 hB) rfl jw_y_X6_isNewAndHearable rfl ⟨(Nat.le_of_ble_eq_true rfl), (Nat.le_of_ble_eq_true rfl), (Nat.le_refl _), (Nat.le_refl _), (Nat.le_of_ble_eq_true rfl)⟩ dX6_suggestion_21 ?_
          refine js_st (st' := [.int (nI q)]) rfl ?_
          refine jn_if_eq 84 (by omega) dX6_suggestion_24 (by decide) (fun h9 => absurd h9 (by omega)) (fun _ => ?_)
          refine js_aload_n 0 rfl dX6_suggestion_27 rfl ?_
          refine js_iload dX6_suggestion_28 rfl ?_
          refine js_iload_n 1 rfl dX6_suggestion_30 rfl ?_
          refine js_callV (av := [.int (nI e), .int (nI l)]) (st := []) (b := 0) hct2 (Or.inl rfl) jw_c_X6_alikeToHeard jw_i_RX6 jw_m_RX6_426 jw_s_X6_alikeToHeard jw_e_X6_alikeToHeard (jl_0 hB) rfl jw_y_X6_alikeToHeard rfl ⟨(Nat.le_of_ble_eq_true rfl), (Nat.le_of_ble_eq_true rfl), (Nat.le_refl _), (Nat.le_refl _), (Nat.le_of_ble_eq_true rfl)⟩ dX6_suggestion_31 ?_
          refine js_st (st' := [.int q2]) rfl ?_
          refine js_istore (L' := [some (.ref 0), some (.int (nI l)), some (.int a), some (.int b), some (.int c), some (.int (nI e)), some (.int q2), none]) dX6_suggestion_34 rfl (Nat.le_of_ble_eq_true rfl) ?_
          refine js_aload_n 0 rfl dX6_suggestion_36 rfl ?_
          refine js_getr 4 jw_f_RX6_40 (jl_0 hB) rfl (Nat.le_of_ble_eq_true rfl) rfl dX6_suggestion_37 ?_
          refine js_getNr 0 jw_n_RX6_231 (jl_42 hB) rfl (Nat.le_of_ble_eq_true rfl) rfl dX6_suggestion_40 ?_
          refine js_iload dX6_suggestion_43 rfl ?_
          refine js_callS (av := [.ref 43, .int (nI e)]) (st := []) (ct_X6_columnSum (g := P.ev) (jl_43 hB) (by omega) (fun j hj => ⟨jr_ev j hj, jl_ev hB j hj⟩) (by omega) (fun j hj => h.ev j hj e (by omega))) (Or.inl rfl) jw_c_X6_columnSum jw_i_RX6 jw_m_RX6_282 jw_s_X6_columnSum jw_y_X6_columnSum rfl ⟨(Nat.le_of_ble_eq_true rfl), (Nat.le_of_ble_eq_true rfl), (Nat.le_refl _), (Nat.le_refl _), (Nat.le_of_ble_eq_true rfl)⟩ dX6_suggestion_45 ?_
          refine js_st (st' := [.int ((nI (jj_sm (fun j => P.ev j e) 8)))]) rfl ?_
          refine js_istore (L' := [some (.ref 0), some (.int (nI l)), some (.int a), some (.int b), some (.int c), some (.int (nI e)), some (.int q2), some (.int ((nI (jj_sm (fun j => P.ev j e) 8))))]) dX6_suggestion_48 rfl (Nat.le_of_ble_eq_true rfl) ?_
          refine js_iload_n 2 rfl dX6_suggestion_50 rfl ?_
          refine js_iconst (v := -1) dX6_suggestion_51 (by decide) ?_
          refine js_icmp_eq 74 dX6_suggestion_52 (by decide) (fun h9 => absurd h9 hc1) (fun _ => ?_)
          refine js_iload dX6_suggestion_55 rfl ?_
          refine js_iload_n 3 rfl dX6_suggestion_57 rfl ?_
          refine js_icmp_gt 74 dX6_suggestion_58 (by decide) (fun _ => ?_) (fun h9 => absurd h9 (fun q => q hc2))
          refine js_iload dX6_suggestion_74 rfl ?_
          refine js_istore_n (L' := [some (.ref 0), some (.int (nI l)), some (.int (nI e)), some (.int b), some (.int c), some (.int (nI e)), some (.int q2), some (.int ((nI (jj_sm (fun j => P.ev j e) 8))))]) 2 rfl dX6_suggestion_76 rfl (Nat.le_of_ble_eq_true rfl) ?_
          refine js_iload dX6_suggestion_77 rfl ?_
          refine js_istore_n (L' := [some (.ref 0), some (.int (nI l)), some (.int (nI e)), some (.int q2), some (.int c), some (.int (nI e)), some (.int q2), some (.int ((nI (jj_sm (fun j => P.ev j e) 8))))]) 3 rfl dX6_suggestion_79 rfl (Nat.le_of_ble_eq_true rfl) ?_
          refine js_iload dX6_suggestion_80 rfl ?_
          refine js_istore (L' := [some (.ref 0), some (.int (nI l)), some (.int (nI e)), some (.int q2), some (.int ((nI (jj_sm (fun j => P.ev j e) 8)))), some (.int (nI e)), some (.int q2), some (.int ((nI (jj_sm (fun j => P.ev j e) 8))))]) dX6_suggestion_82 rfl (Nat.le_of_ble_eq_true rfl) ?_
          refine js_iinc (v := nI (e + 1)) (L' := [some (.ref 0), some (.int (nI l)), some (.int (nI e)), some (.int q2), some (.int ((nI (jj_sm (fun j => P.ev j e) 8)))), some (.int (nI (e + 1))), some (.int q2), some (.int ((nI (jj_sm (fun j => P.ev j e) 8))))]) dX6_suggestion_84 rfl (jj_inc _) rfl ?_
          refine js_goto 10 dX6_suggestion_87 (by decide) ?_
          refine js_fgL (L' := [some (.ref 0), some (.int (nI l)), some (.int (nI e)), some (.int q2), some (.int ((nI (jj_sm (fun j => P.ev j e) 8)))), some (.int (nI (e + 1))), none, none]) (by simp [jj_le, jj_sm]) ?_
          exact jj_refl
        · by_cases hc3 : q2 = b
          · by_cases hc4 : ((nI (jj_sm (fun j => P.ev j e) 8))) ≤ c
            · obtain ⟨r, hR⟩ := ih (e + 1) (by omega) a b c
              refine ⟨r, jj_RRs ?_ hR⟩
              refine js_iload dX6_suggestion_10 rfl ?_
              refine js_bipush (v := nI 10) dX6_suggestion_12 (by decide) ?_
              refine jn_icmp_ge 90 (by omega) (by omega) dX6_suggestion_14 (by decide) (fun h9 => absurd h9 (by omega)) (fun _ => ?_)
              refine js_aload_n 0 rfl dX6_suggestion_17 rfl ?_
              refine js_iload dX6_suggestion_18 rfl ?_
              refine js_iload_n 1 rfl dX6_suggestion_20 rfl ?_
              refine js_callV (av := [.int (nI e), .int (nI l)]) (st := []) (b := 0) hct1 (Or.inl rfl) jw_c_X6_isNewAndHearable jw_i_RX6 jw_m_RX6_423 jw_s_X6_isNewAndHearable jw_e_X6_isNewAndHearable (jl_0 hB) rfl jw_y_X6_isNewAndHearable rfl ⟨(Nat.le_of_ble_eq_true rfl), (Nat.le_of_ble_eq_true rfl), (Nat.le_refl _), (Nat.le_refl _), (Nat.le_of_ble_eq_true rfl)⟩ dX6_suggestion_21 ?_
              refine js_st (st' := [.int (nI q)]) rfl ?_
              refine jn_if_eq 84 (by omega) dX6_suggestion_24 (by decide) (fun h9 => absurd h9 (by omega)) (fun _ => ?_)
              refine js_aload_n 0 rfl dX6_suggestion_27 rfl ?_
              refine js_iload dX6_suggestion_28 rfl ?_
              refine js_iload_n 1 rfl dX6_suggestion_30 rfl ?_
              refine js_callV (av := [.int (nI e), .int (nI l)]) (st := []) (b := 0) hct2 (Or.inl rfl) jw_c_X6_alikeToHeard jw_i_RX6 jw_m_RX6_426 jw_s_X6_alikeToHeard jw_e_X6_alikeToHeard (jl_0 hB) rfl jw_y_X6_alikeToHeard rfl ⟨(Nat.le_of_ble_eq_true rfl), (Nat.le_of_ble_eq_true rfl), (Nat.le_refl _), (Nat.le_refl _), (Nat.le_of_ble_eq_true rfl)⟩ dX6_suggestion_31 ?_
              refine js_st (st' := [.int q2]) rfl ?_
              refine js_istore (L' := [some (.ref 0), some (.int (nI l)), some (.int a), some (.int b), some (.int c), some (.int (nI e)), some (.int q2), none]) dX6_suggestion_34 rfl (Nat.le_of_ble_eq_true rfl) ?_
              refine js_aload_n 0 rfl dX6_suggestion_36 rfl ?_
              refine js_getr 4 jw_f_RX6_40 (jl_0 hB) rfl (Nat.le_of_ble_eq_true rfl) rfl dX6_suggestion_37 ?_
              refine js_getNr 0 jw_n_RX6_231 (jl_42 hB) rfl (Nat.le_of_ble_eq_true rfl) rfl dX6_suggestion_40 ?_
              refine js_iload dX6_suggestion_43 rfl ?_
              refine js_callS (av := [.ref 43, .int (nI e)]) (st := []) (ct_X6_columnSum (g := P.ev) (jl_43 hB) (by omega) (fun j hj => ⟨jr_ev j hj, jl_ev hB j hj⟩) (by omega) (fun j hj => h.ev j hj e (by omega))) (Or.inl rfl) jw_c_X6_columnSum jw_i_RX6 jw_m_RX6_282 jw_s_X6_columnSum jw_y_X6_columnSum rfl ⟨(Nat.le_of_ble_eq_true rfl), (Nat.le_of_ble_eq_true rfl), (Nat.le_refl _), (Nat.le_refl _), (Nat.le_of_ble_eq_true rfl)⟩ dX6_suggestion_45 ?_
              refine js_st (st' := [.int ((nI (jj_sm (fun j => P.ev j e) 8)))]) rfl ?_
              refine js_istore (L' := [some (.ref 0), some (.int (nI l)), some (.int a), some (.int b), some (.int c), some (.int (nI e)), some (.int q2), some (.int ((nI (jj_sm (fun j => P.ev j e) 8))))]) dX6_suggestion_48 rfl (Nat.le_of_ble_eq_true rfl) ?_
              refine js_iload_n 2 rfl dX6_suggestion_50 rfl ?_
              refine js_iconst (v := -1) dX6_suggestion_51 (by decide) ?_
              refine js_icmp_eq 74 dX6_suggestion_52 (by decide) (fun h9 => absurd h9 hc1) (fun _ => ?_)
              refine js_iload dX6_suggestion_55 rfl ?_
              refine js_iload_n 3 rfl dX6_suggestion_57 rfl ?_
              refine js_icmp_gt 74 dX6_suggestion_58 (by decide) (fun h9 => absurd h9 hc2) (fun _ => ?_)
              refine js_iload dX6_suggestion_61 rfl ?_
              refine js_iload_n 3 rfl dX6_suggestion_63 rfl ?_
              refine js_icmp_ne 84 dX6_suggestion_64 (by decide) (fun h9 => absurd h9 (fun q => q hc3)) (fun _ => ?_)
              refine js_iload dX6_suggestion_67 rfl ?_
              refine js_iload dX6_suggestion_69 rfl ?_
              refine js_icmp_le 84 dX6_suggestion_71 (by decide) (fun _ => ?_) (fun h9 => absurd h9 (fun q => q hc4))
              refine js_iinc (v := nI (e + 1)) (L' := [some (.ref 0), some (.int (nI l)), some (.int a), some (.int b), some (.int c), some (.int (nI (e + 1))), some (.int q2), some (.int ((nI (jj_sm (fun j => P.ev j e) 8))))]) dX6_suggestion_84 rfl (jj_inc _) rfl ?_
              refine js_goto 10 dX6_suggestion_87 (by decide) ?_
              refine js_fgL (L' := [some (.ref 0), some (.int (nI l)), some (.int a), some (.int b), some (.int c), some (.int (nI (e + 1))), none, none]) (by simp [jj_le, jj_sm]) ?_
              exact jj_refl
            · obtain ⟨r, hR⟩ := ih (e + 1) (by omega) (nI e) q2 ((nI (jj_sm (fun j => P.ev j e) 8)))
              refine ⟨r, jj_RRs ?_ hR⟩
              refine js_iload dX6_suggestion_10 rfl ?_
              refine js_bipush (v := nI 10) dX6_suggestion_12 (by decide) ?_
              refine jn_icmp_ge 90 (by omega) (by omega) dX6_suggestion_14 (by decide) (fun h9 => absurd h9 (by omega)) (fun _ => ?_)
              refine js_aload_n 0 rfl dX6_suggestion_17 rfl ?_
              refine js_iload dX6_suggestion_18 rfl ?_
              refine js_iload_n 1 rfl dX6_suggestion_20 rfl ?_
              refine js_callV (av := [.int (nI e), .int (nI l)]) (st := []) (b := 0) hct1 (Or.inl rfl) jw_c_X6_isNewAndHearable jw_i_RX6 jw_m_RX6_423 jw_s_X6_isNewAndHearable jw_e_X6_isNewAndHearable (jl_0 hB) rfl jw_y_X6_isNewAndHearable rfl ⟨(Nat.le_of_ble_eq_true rfl), (Nat.le_of_ble_eq_true rfl), (Nat.le_refl _), (Nat.le_refl _), (Nat.le_of_ble_eq_true rfl)⟩ dX6_suggestion_21 ?_
              refine js_st (st' := [.int (nI q)]) rfl ?_
              refine jn_if_eq 84 (by omega) dX6_suggestion_24 (by decide) (fun h9 => absurd h9 (by omega)) (fun _ => ?_)
              refine js_aload_n 0 rfl dX6_suggestion_27 rfl ?_
              refine js_iload dX6_suggestion_28 rfl ?_
              refine js_iload_n 1 rfl dX6_suggestion_30 rfl ?_
              refine js_callV (av := [.int (nI e), .int (nI l)]) (st := []) (b := 0) hct2 (Or.inl rfl) jw_c_X6_alikeToHeard jw_i_RX6 jw_m_RX6_426 jw_s_X6_alikeToHeard jw_e_X6_alikeToHeard (jl_0 hB) rfl jw_y_X6_alikeToHeard rfl ⟨(Nat.le_of_ble_eq_true rfl), (Nat.le_of_ble_eq_true rfl), (Nat.le_refl _), (Nat.le_refl _), (Nat.le_of_ble_eq_true rfl)⟩ dX6_suggestion_31 ?_
              refine js_st (st' := [.int q2]) rfl ?_
              refine js_istore (L' := [some (.ref 0), some (.int (nI l)), some (.int a), some (.int b), some (.int c), some (.int (nI e)), some (.int q2), none]) dX6_suggestion_34 rfl (Nat.le_of_ble_eq_true rfl) ?_
              refine js_aload_n 0 rfl dX6_suggestion_36 rfl ?_
              refine js_getr 4 jw_f_RX6_40 (jl_0 hB) rfl (Nat.le_of_ble_eq_true rfl) rfl dX6_suggestion_37 ?_
              refine js_getNr 0 jw_n_RX6_231 (jl_42 hB) rfl (Nat.le_of_ble_eq_true rfl) rfl dX6_suggestion_40 ?_
              refine js_iload dX6_suggestion_43 rfl ?_
              refine js_callS (av := [.ref 43, .int (nI e)]) (st := []) (ct_X6_columnSum (g := P.ev) (jl_43 hB) (by omega) (fun j hj => ⟨jr_ev j hj, jl_ev hB j hj⟩) (by omega) (fun j hj => h.ev j hj e (by omega))) (Or.inl rfl) jw_c_X6_columnSum jw_i_RX6 jw_m_RX6_282 jw_s_X6_columnSum jw_y_X6_columnSum rfl ⟨(Nat.le_of_ble_eq_true rfl), (Nat.le_of_ble_eq_true rfl), (Nat.le_refl _), (Nat.le_refl _), (Nat.le_of_ble_eq_true rfl)⟩ dX6_suggestion_45 ?_
              refine js_st (st' := [.int ((nI (jj_sm (fun j => P.ev j e) 8)))]) rfl ?_
              refine js_istore (L' := [some (.ref 0), some (.int (nI l)), some (.int a), some (.int b), some (.int c), some (.int (nI e)), some (.int q2), some (.int ((nI (jj_sm (fun j => P.ev j e) 8))))]) dX6_suggestion_48 rfl (Nat.le_of_ble_eq_true rfl) ?_
              refine js_iload_n 2 rfl dX6_suggestion_50 rfl ?_
              refine js_iconst (v := -1) dX6_suggestion_51 (by decide) ?_
              refine js_icmp_eq 74 dX6_suggestion_52 (by decide) (fun h9 => absurd h9 hc1) (fun _ => ?_)
              refine js_iload dX6_suggestion_55 rfl ?_
              refine js_iload_n 3 rfl dX6_suggestion_57 rfl ?_
              refine js_icmp_gt 74 dX6_suggestion_58 (by decide) (fun h9 => absurd h9 hc2) (fun _ => ?_)
              refine js_iload dX6_suggestion_61 rfl ?_
              refine js_iload_n 3 rfl dX6_suggestion_63 rfl ?_
              refine js_icmp_ne 84 dX6_suggestion_64 (by decide) (fun h9 => absurd h9 (fun q => q hc3)) (fun _ => ?_)
              refine js_iload dX6_suggestion_67 rfl ?_
              refine js_iload dX6_suggestion_69 rfl ?_
              refine js_icmp_le 84 dX6_suggestion_71 (by decide) (fun h9 => absurd h9 hc4) (fun _ => ?_)
              refine js_iload dX6_suggestion_74 rfl ?_
              refine js_istore_n (L' := [some (.ref 0), some (.int (nI l)), some (.int (nI e)), some (.int b), some (.int c), some (.int (nI e)), some (.int q2), some (.int ((nI (jj_sm (fun j => P.ev j e) 8))))]) 2 rfl dX6_suggestion_76 rfl (Nat.le_of_ble_eq_true rfl) ?_
              refine js_iload dX6_suggestion_77 rfl ?_
              refine js_istore_n (L' := [some (.ref 0), some (.int (nI l)), some (.int (nI e)), some (.int q2), some (.int c), some (.int (nI e)), some (.int q2), some (.int ((nI (jj_sm (fun j => P.ev j e) 8))))]) 3 rfl dX6_suggestion_79 rfl (Nat.le_of_ble_eq_true rfl) ?_
              refine js_iload dX6_suggestion_80 rfl ?_
              refine js_istore (L' := [some (.ref 0), some (.int (nI l)), some (.int (nI e)), some (.int q2), some (.int ((nI (jj_sm (fun j => P.ev j e) 8)))), some (.int (nI e)), some (.int q2), some (.int ((nI (jj_sm (fun j => P.ev j e) 8))))]) dX6_suggestion_82 rfl (Nat.le_of_ble_eq_true rfl) ?_
              refine js_iinc (v := nI (e + 1)) (L' := [some (.ref 0), some (.int (nI l)), some (.int (nI e)), some (.int q2), some (.int ((nI (jj_sm (fun j => P.ev j e) 8)))), some (.int (nI (e + 1))), some (.int q2), some (.int ((nI (jj_sm (fun j => P.ev j e) 8))))]) dX6_suggestion_84 rfl (jj_inc _) rfl ?_
              refine js_goto 10 dX6_suggestion_87 (by decide) ?_
              refine js_fgL (L' := [some (.ref 0), some (.int (nI l)), some (.int (nI e)), some (.int q2), some (.int ((nI (jj_sm (fun j => P.ev j e) 8)))), some (.int (nI (e + 1))), none, none]) (by simp [jj_le, jj_sm]) ?_
              exact jj_refl
          · obtain ⟨r, hR⟩ := ih (e + 1) (by omega) a b c
            refine ⟨r, jj_RRs ?_ hR⟩
            refine js_iload dX6_suggestion_10 rfl ?_
            refine js_bipush (v := nI 10) dX6_suggestion_12 (by decide) ?_
            refine jn_icmp_ge 90 (by omega) (by omega) dX6_suggestion_14 (by decide) (fun h9 => absurd h9 (by omega)) (fun _ => ?_)
            refine js_aload_n 0 rfl dX6_suggestion_17 rfl ?_
            refine js_iload dX6_suggestion_18 rfl ?_
            refine js_iload_n 1 rfl dX6_suggestion_20 rfl ?_
            refine js_callV (av := [.int (nI e), .int (nI l)]) (st := []) (b := 0) hct1 (Or.inl rfl) jw_c_X6_isNewAndHearable jw_i_RX6 jw_m_RX6_423 jw_s_X6_isNewAndHearable jw_e_X6_isNewAndHearable (jl_0 hB) rfl jw_y_X6_isNewAndHearable rfl ⟨(Nat.le_of_ble_eq_true rfl), (Nat.le_of_ble_eq_true rfl), (Nat.le_refl _), (Nat.le_refl _), (Nat.le_of_ble_eq_true rfl)⟩ dX6_suggestion_21 ?_
            refine js_st (st' := [.int (nI q)]) rfl ?_
            refine jn_if_eq 84 (by omega) dX6_suggestion_24 (by decide) (fun h9 => absurd h9 (by omega)) (fun _ => ?_)
            refine js_aload_n 0 rfl dX6_suggestion_27 rfl ?_
            refine js_iload dX6_suggestion_28 rfl ?_
            refine js_iload_n 1 rfl dX6_suggestion_30 rfl ?_
            refine js_callV (av := [.int (nI e), .int (nI l)]) (st := []) (b := 0) hct2 (Or.inl rfl) jw_c_X6_alikeToHeard jw_i_RX6 jw_m_RX6_426 jw_s_X6_alikeToHeard jw_e_X6_alikeToHeard (jl_0 hB) rfl jw_y_X6_alikeToHeard rfl ⟨(Nat.le_of_ble_eq_true rfl), (Nat.le_of_ble_eq_true rfl), (Nat.le_refl _), (Nat.le_refl _), (Nat.le_of_ble_eq_true rfl)⟩ dX6_suggestion_31 ?_
            refine js_st (st' := [.int q2]) rfl ?_
            refine js_istore (L' := [some (.ref 0), some (.int (nI l)), some (.int a), some (.int b), some (.int c), some (.int (nI e)), some (.int q2), none]) dX6_suggestion_34 rfl (Nat.le_of_ble_eq_true rfl) ?_
            refine js_aload_n 0 rfl dX6_suggestion_36 rfl ?_
            refine js_getr 4 jw_f_RX6_40 (jl_0 hB) rfl (Nat.le_of_ble_eq_true rfl) rfl dX6_suggestion_37 ?_
            refine js_getNr 0 jw_n_RX6_231 (jl_42 hB) rfl (Nat.le_of_ble_eq_true rfl) rfl dX6_suggestion_40 ?_
            refine js_iload dX6_suggestion_43 rfl ?_
            refine js_callS (av := [.ref 43, .int (nI e)]) (st := []) (ct_X6_columnSum (g := P.ev) (jl_43 hB) (by omega) (fun j hj => ⟨jr_ev j hj, jl_ev hB j hj⟩) (by omega) (fun j hj => h.ev j hj e (by omega))) (Or.inl rfl) jw_c_X6_columnSum jw_i_RX6 jw_m_RX6_282 jw_s_X6_columnSum jw_y_X6_columnSum rfl ⟨(Nat.le_of_ble_eq_true rfl), (Nat.le_of_ble_eq_true rfl), (Nat.le_refl _), (Nat.le_refl _), (Nat.le_of_ble_eq_true rfl)⟩ dX6_suggestion_45 ?_
            refine js_st (st' := [.int ((nI (jj_sm (fun j => P.ev j e) 8)))]) rfl ?_
            refine js_istore (L' := [some (.ref 0), some (.int (nI l)), some (.int a), some (.int b), some (.int c), some (.int (nI e)), some (.int q2), some (.int ((nI (jj_sm (fun j => P.ev j e) 8))))]) dX6_suggestion_48 rfl (Nat.le_of_ble_eq_true rfl) ?_
            refine js_iload_n 2 rfl dX6_suggestion_50 rfl ?_
            refine js_iconst (v := -1) dX6_suggestion_51 (by decide) ?_
            refine js_icmp_eq 74 dX6_suggestion_52 (by decide) (fun h9 => absurd h9 hc1) (fun _ => ?_)
            refine js_iload dX6_suggestion_55 rfl ?_
            refine js_iload_n 3 rfl dX6_suggestion_57 rfl ?_
            refine js_icmp_gt 74 dX6_suggestion_58 (by decide) (fun h9 => absurd h9 hc2) (fun _ => ?_)
            refine js_iload dX6_suggestion_61 rfl ?_
            refine js_iload_n 3 rfl dX6_suggestion_63 rfl ?_
            refine js_icmp_ne 84 dX6_suggestion_64 (by decide) (fun _ => ?_) (fun h9 => absurd h9 hc3)
            refine js_iinc (v := nI (e + 1)) (L' := [some (.ref 0), some (.int (nI l)), some (.int a), some (.int b), some (.int c), some (.int (nI (e + 1))), some (.int q2), some (.int ((nI (jj_sm (fun j => P.ev j e) 8))))]) dX6_suggestion_84 rfl (jj_inc _) rfl ?_
            refine js_goto 10 dX6_suggestion_87 (by decide) ?_
            refine js_fgL (L' := [some (.ref 0), some (.int (nI l)), some (.int a), some (.int b), some (.int c), some (.int (nI (e + 1))), none, none]) (by simp [jj_le, jj_sm]) ?_
            exact jj_refl
set_option maxRecDepth 100000 in
set_option maxHeartbeats 4000000 in
theorem E_X6_suggestion {lay : jj_Lay} {S : jj_Mem} {P : jj_P} (hB : jj_pp lay) (h : jj_J S P) (hK : jj_K P) {l : Nat} (hl : l < P.cnt) : ∃ r : Int32, jj_CT yX6_suggestion (.code yX6_suggestion cX6_suggestion 8 (some .int)) none 3 70 [.ref 0, .int (nI l)] lay S (some (.int r)) lay S := by
  obtain ⟨r, hR⟩ := lp_X6_suggestion (lay := lay) (S := S) hB h hK hl 10 0 (by omega) ((-1)) (nI 0) (nI 0)
  refine ⟨r, ?_⟩
  refine jj_mkI RX6 .int (by decide) rfl (L := [some (.ref 0), some (.int (nI l)), none, none, none, none, none, none]) rfl rfl rfl ?_
  refine jj_RRs ?_ hR
  refine js_iconst (v := -1) dX6_suggestion_0 (by decide) ?_
  refine js_istore_n (L' := [some (.ref 0), some (.int (nI l)), some (.int ((-1))), none, none, none, none, none]) 2 rfl dX6_suggestion_1 rfl (Nat.le_of_ble_eq_true rfl) ?_
  refine js_iconst (v := nI 0) dX6_suggestion_2 (by decide) ?_
  refine js_istore_n (L' := [some (.ref 0), some (.int (nI l)), some (.int ((-1))), some (.int (nI 0)), none, none, none, none]) 3 rfl dX6_suggestion_3 rfl (Nat.le_of_ble_eq_true rfl) ?_
  refine js_iconst (v := nI 0) dX6_suggestion_4 (by decide) ?_
  refine js_istore (L' := [some (.ref 0), some (.int (nI l)), some (.int ((-1))), some (.int (nI 0)), some (.int (nI 0)), none, none, none]) dX6_suggestion_5 rfl (Nat.le_of_ble_eq_true rfl) ?_
  refine js_iconst (v := nI 0) dX6_suggestion_7 (by decide) ?_
  refine js_istore (L' := [some (.ref 0), some (.int (nI l)), some (.int ((-1))), some (.int (nI 0)), some (.int (nI 0)), some (.int (nI 0)), none, none]) dX6_suggestion_8 rfl (Nat.le_of_ble_eq_true rfl) ?_
  exact jj_refl
set_option maxRecDepth 100000 in
set_option maxHeartbeats 4000000 in
theorem lp_X6_countPoints {lay : jj_Lay} {P : jj_P} (hB : jj_pp lay) (hK : jj_K P) {land : Nat} (hla : land < 4) : ∀ (k e : Nat), e + k = P.cnt → ∀ (S : jj_Mem) (g : Nat → Nat), jj_J S P → (∀ j, j < 10 → S 103 j = some (nI (g j)) ∧ g j ≤ 260 * e) → ∃ (g' : Nat → Nat) (S' : jj_Mem), jj_RR cX6_countPoints 4 RX6 yX6_countPoints.name none 1 23 lay.length (jj_sl lay) (10, [some (.ref 0), some (.int (nI land)), some (.int (nI e)), none], [], lay, S) none .return_ lay S' ∧ (∀ j, j < 10 → S' 103 j = some (nI (g' j)) ∧ g' j ≤ 2080) ∧ (∀ p, p ≠ 103 → ∀ j, S' p j = S p j) := by
  intro k
  induction k with
  | zero =>
    intro e he S g h hg
    have h8 := h.au.1
    have h14 := h.tk.1
    have h130 := h.lg.1
    have ht9 := h.ht
    refine ⟨g, S, ⟨75, [some (.ref 0), some (.int (nI land)), some (.int (nI e)), none], dX6_countPoints_75, ?_⟩, fun j hj => ⟨(hg j hj).1, by have := (hg j hj).2; omega⟩, fun _ _ _ => rfl⟩
    refine js_iload_n 2 rfl dX6_countPoints_10 rfl ?_
    refine js_aload_n 0 rfl dX6_countPoints_11 rfl ?_
    refine js_getr 2 jw_f_RX6_26 (jl_0 hB) rfl (Nat.le_of_ble_eq_true rfl) rfl dX6_countPoints_12 ?_
    refine js_getNi 0 jw_n_RX6_144 (jl_20 hB) rfl (Nat.le_of_ble_eq_true rfl) rfl (h.au.2.1) dX6_countPoints_15 ?_
    refine jn_icmp_ge 75 (by omega) (by omega) dX6_countPoints_18 (by decide) (fun _ => ?_) (fun h9 => absurd h9 (by omega))
    exact jj_refl
  | succ k ih =>
    intro e he S g h hg
    have h8 := h.au.1
    have h14 := h.tk.1
    have h130 := h.lg.1
    have ht9 := h.ht
    have hl4 := (h.au.2.2.1 e (by omega)).2
    have hp3 := (h.au.2.2.2 e (by omega)).2
    by_cases c1 : P.ld e = land
    · by_cases c2 : P.pl e = 0
      · skip
        obtain ⟨g', S', hR, p1, p2⟩ := ih (e + 1) (by omega) (jj_row S 103 10 (fun j => g j + P.im e j * 1)) (fun j => g j + P.im e j * 1) (jj_J_eq h (fun p hp j => jj_row_neP (by omega))) (fun j hj => ⟨jj_row_at hj, by have h6 := (hg j hj).2; have h7 := jj_im130 hK e (by omega) j hj; show g j + P.im e j * 1 ≤ 260 * (e + 1); omega⟩)
        refine ⟨g', S', jj_RRs ?_ hR, p1, fun p hp j => (p2 p hp j).trans (jj_row_neP hp)⟩
        refine js_iload_n 2 rfl dX6_countPoints_10 rfl ?_
        refine js_aload_n 0 rfl dX6_countPoints_11 rfl ?_
        refine js_getr 2 jw_f_RX6_26 (jl_0 hB) rfl (Nat.le_of_ble_eq_true rfl) rfl dX6_countPoints_12 ?_
        refine js_getNi 0 jw_n_RX6_144 (jl_20 hB) rfl (Nat.le_of_ble_eq_true rfl) rfl (h.au.2.1) dX6_countPoints_15 ?_
        refine jn_icmp_ge 75 (by omega) (by omega) dX6_countPoints_18 (by decide) (fun h9 => absurd h9 (by omega)) (fun _ => ?_)
        refine js_aload_n 0 rfl dX6_countPoints_21 rfl ?_
        refine js_getr 2 jw_f_RX6_26 (jl_0 hB) rfl (Nat.le_of_ble_eq_true rfl) rfl dX6_countPoints_22 ?_
        refine js_getNr 1 jw_n_RX6_169 (jl_20 hB) rfl (Nat.le_of_ble_eq_true rfl) rfl dX6_countPoints_25 ?_
        refine js_iload_n 2 rfl dX6_countPoints_28 rfl ?_
        refine js_iald e rfl (jl_21 hB) (by omega) (by decide) ((h.au.2.2.1 e (by omega)).1) dX6_countPoints_29 ?_
        refine js_iload_n 1 rfl dX6_countPoints_30 rfl ?_
        refine jn_icmp_ne 69 (by omega) (by omega) dX6_countPoints_31 (by decide) (fun h9 => absurd h9 (by omega)) (fun _ => ?_)
        refine js_aload_n 0 rfl dX6_countPoints_34 rfl ?_
        refine js_getr 2 jw_f_RX6_26 (jl_0 hB) rfl (Nat.le_of_ble_eq_true rfl) rfl dX6_countPoints_35 ?_
        refine js_getNr 2 jw_n_RX6_156 (jl_20 hB) rfl (Nat.le_of_ble_eq_true rfl) rfl dX6_countPoints_38 ?_
        refine js_iload_n 2 rfl dX6_countPoints_41 rfl ?_
        refine js_iald e rfl (jl_22 hB) (by omega) (by decide) ((h.au.2.2.2 e (by omega)).1) dX6_countPoints_42 ?_
        refine jn_if_ne 50 (by omega) dX6_countPoints_43 (by decide) (fun h9 => absurd h9 (by omega)) (fun _ => ?_)
        refine js_iconst (v := nI 1) dX6_countPoints_46 (by decide) ?_
        refine js_goto 51 dX6_countPoints_47 (by decide) ?_
        refine js_istore_n (L' := [some (.ref 0), some (.int (nI land)), some (.int (nI e)), some (.int (nI 1))]) 3 rfl dX6_countPoints_51 rfl (Nat.le_of_ble_eq_true rfl) ?_
        refine js_aload_n 0 rfl dX6_countPoints_52 rfl ?_
        refine js_getr 8 jw_f_RX6_57 (jl_0 hB) rfl (Nat.le_of_ble_eq_true rfl) rfl dX6_countPoints_53 ?_
        refine js_aload_n 0 rfl dX6_countPoints_56 rfl ?_
        refine js_getr 4 jw_f_RX6_40 (jl_0 hB) rfl (Nat.le_of_ble_eq_true rfl) rfl dX6_countPoints_57 ?_
        refine js_getNr 1 jw_n_RX6_238 (jl_42 hB) rfl (Nat.le_of_ble_eq_true rfl) rfl dX6_countPoints_60 ?_
        refine js_iload_n 2 rfl dX6_countPoints_63 rfl ?_
        refine js_aald e rfl (jl_52 hB) (by omega) (by decide) (jr_im e (by omega)) dX6_countPoints_64 ?_
        refine js_iload_n 3 rfl dX6_countPoints_65 rfl ?_
        refine js_callS (av := [.ref 103, .ref (53 + e), .int (nI 1)]) (st := []) (ct_X6_addTimes (c := 1) (f := g) (g := P.im e) (jl_103 hB) (jl_im hB e (by omega)) (by omega) (by omega) (fun j hj => (hg j hj).1) (h.im e (by omega))) (Or.inl rfl) jw_c_X6_addTimes jw_i_RX6 jw_m_RX6_419 jw_s_X6_addTimes jw_y_X6_addTimes rfl ⟨(Nat.le_of_ble_eq_true rfl), (Nat.le_of_ble_eq_true rfl), (Nat.le_refl _), (Nat.le_refl _), (Nat.le_of_ble_eq_true rfl)⟩ dX6_countPoints_66 ?_
        refine js_st (st' := []) rfl ?_
        refine js_iinc (v := nI (e + 1)) (L' := [some (.ref 0), some (.int (nI land)), some (.int (nI (e + 1))), some (.int (nI 1))]) dX6_countPoints_69 rfl (jj_inc _) rfl ?_
        refine js_goto 10 dX6_countPoints_72 (by decide) ?_
        refine js_fgL (L' := [some (.ref 0), some (.int (nI land)), some (.int (nI (e + 1))), none]) (by simp [jj_le, jj_sm]) ?_
        exact jj_refl
      · skip
        obtain ⟨g', S', hR, p1, p2⟩ := ih (e + 1) (by omega) (jj_row S 103 10 (fun j => g j + P.im e j * 2)) (fun j => g j + P.im e j * 2) (jj_J_eq h (fun p hp j => jj_row_neP (by omega))) (fun j hj => ⟨jj_row_at hj, by have h6 := (hg j hj).2; have h7 := jj_im130 hK e (by omega) j hj; show g j + P.im e j * 2 ≤ 260 * (e + 1); omega⟩)
        refine ⟨g', S', jj_RRs ?_ hR, p1, fun p hp j => (p2 p hp j).trans (jj_row_neP hp)⟩
        refine js_iload_n 2 rfl dX6_countPoints_10 rfl ?_
        refine js_aload_n 0 rfl dX6_countPoints_11 rfl ?_
        refine js_getr 2 jw_f_RX6_26 (jl_0 hB) rfl (Nat.le_of_ble_eq_true rfl) rfl dX6_countPoints_12 ?_
        refine js_getNi 0 jw_n_RX6_144 (jl_20 hB) rfl (Nat.le_of_ble_eq_true rfl) rfl (h.au.2.1) dX6_countPoints_15 ?_
        refine jn_icmp_ge 75 (by omega) (by omega) dX6_countPoints_18 (by decide) (fun h9 => absurd h9 (by omega)) (fun _ => ?_)
        refine js_aload_n 0 rfl dX6_countPoints_21 rfl ?_
        refine js_getr 2 jw_f_RX6_26 (jl_0 hB) rfl (Nat.le_of_ble_eq_true rfl) rfl dX6_countPoints_22 ?_
        refine js_getNr 1 jw_n_RX6_169 (jl_20 hB) rfl (Nat.le_of_ble_eq_true rfl) rfl dX6_countPoints_25 ?_
        refine js_iload_n 2 rfl dX6_countPoints_28 rfl ?_
        refine js_iald e rfl (jl_21 hB) (by omega) (by decide) ((h.au.2.2.1 e (by omega)).1) dX6_countPoints_29 ?_
        refine js_iload_n 1 rfl dX6_countPoints_30 rfl ?_
        refine jn_icmp_ne 69 (by omega) (by omega) dX6_countPoints_31 (by decide) (fun h9 => absurd h9 (by omega)) (fun _ => ?_)
        refine js_aload_n 0 rfl dX6_countPoints_34 rfl ?_
        refine js_getr 2 jw_f_RX6_26 (jl_0 hB) rfl (Nat.le_of_ble_eq_true rfl) rfl dX6_countPoints_35 ?_
        refine js_getNr 2 jw_n_RX6_156 (jl_20 hB) rfl (Nat.le_of_ble_eq_true rfl) rfl dX6_countPoints_38 ?_
        refine js_iload_n 2 rfl dX6_countPoints_41 rfl ?_
        refine js_iald e rfl (jl_22 hB) (by omega) (by decide) ((h.au.2.2.2 e (by omega)).1) dX6_countPoints_42 ?_
        refine jn_if_ne 50 (by omega) dX6_countPoints_43 (by decide) (fun _ => ?_) (fun h9 => absurd h9 (by omega))
        refine js_iconst (v := nI 2) dX6_countPoints_50 (by decide) ?_
        refine js_istore_n (L' := [some (.ref 0), some (.int (nI land)), some (.int (nI e)), some (.int (nI 2))]) 3 rfl dX6_countPoints_51 rfl (Nat.le_of_ble_eq_true rfl) ?_
        refine js_aload_n 0 rfl dX6_countPoints_52 rfl ?_
        refine js_getr 8 jw_f_RX6_57 (jl_0 hB) rfl (Nat.le_of_ble_eq_true rfl) rfl dX6_countPoints_53 ?_
        refine js_aload_n 0 rfl dX6_countPoints_56 rfl ?_
        refine js_getr 4 jw_f_RX6_40 (jl_0 hB) rfl (Nat.le_of_ble_eq_true rfl) rfl dX6_countPoints_57 ?_
        refine js_getNr 1 jw_n_RX6_238 (jl_42 hB) rfl (Nat.le_of_ble_eq_true rfl) rfl dX6_countPoints_60 ?_
        refine js_iload_n 2 rfl dX6_countPoints_63 rfl ?_
        refine js_aald e rfl (jl_52 hB) (by omega) (by decide) (jr_im e (by omega)) dX6_countPoints_64 ?_
        refine js_iload_n 3 rfl dX6_countPoints_65 rfl ?_
        refine js_callS (av := [.ref 103, .ref (53 + e), .int (nI 2)]) (st := []) (ct_X6_addTimes (c := 2) (f := g) (g := P.im e) (jl_103 hB) (jl_im hB e (by omega)) (by omega) (by omega) (fun j hj => (hg j hj).1) (h.im e (by omega))) (Or.inl rfl) jw_c_X6_addTimes jw_i_RX6 jw_m_RX6_419 jw_s_X6_addTimes jw_y_X6_addTimes rfl ⟨(Nat.le_of_ble_eq_true rfl), (Nat.le_of_ble_eq_true rfl), (Nat.le_refl _), (Nat.le_refl _), (Nat.le_of_ble_eq_true rfl)⟩ dX6_countPoints_66 ?_
        refine js_st (st' := []) rfl ?_
        refine js_iinc (v := nI (e + 1)) (L' := [some (.ref 0), some (.int (nI land)), some (.int (nI (e + 1))), some (.int (nI 2))]) dX6_countPoints_69 rfl (jj_inc _) rfl ?_
        refine js_goto 10 dX6_countPoints_72 (by decide) ?_
        refine js_fgL (L' := [some (.ref 0), some (.int (nI land)), some (.int (nI (e + 1))), none]) (by simp [jj_le, jj_sm]) ?_
        exact jj_refl
    · skip
      obtain ⟨g', S', hR, p1, p2⟩ := ih (e + 1) (by omega) S g h (fun j hj => ⟨(hg j hj).1, by have := (hg j hj).2; omega⟩)
      refine ⟨g', S', jj_RRs ?_ hR, p1, p2⟩
      refine js_iload_n 2 rfl dX6_countPoints_10 rfl ?_
      refine js_aload_n 0 rfl dX6_countPoints_11 rfl ?_
      refine js_getr 2 jw_f_RX6_26 (jl_0 hB) rfl (Nat.le_of_ble_eq_true rfl) rfl dX6_countPoints_12 ?_
      refine js_getNi 0 jw_n_RX6_144 (jl_20 hB) rfl (Nat.le_of_ble_eq_true rfl) rfl (h.au.2.1) dX6_countPoints_15 ?_
      refine jn_icmp_ge 75 (by omega) (by omega) dX6_countPoints_18 (by decide) (fun h9 => absurd h9 (by omega)) (fun _ => ?_)
      refine js_aload_n 0 rfl dX6_countPoints_21 rfl ?_
      refine js_getr 2 jw_f_RX6_26 (jl_0 hB) rfl (Nat.le_of_ble_eq_true rfl) rfl dX6_countPoints_22 ?_
      refine js_getNr 1 jw_n_RX6_169 (jl_20 hB) rfl (Nat.le_of_ble_eq_true rfl) rfl dX6_countPoints_25 ?_
      refine js_iload_n 2 rfl dX6_countPoints_28 rfl ?_
      refine js_iald e rfl (jl_21 hB) (by omega) (by decide) ((h.au.2.2.1 e (by omega)).1) dX6_countPoints_29 ?_
      refine js_iload_n 1 rfl dX6_countPoints_30 rfl ?_
      refine jn_icmp_ne 69 (by omega) (by omega) dX6_countPoints_31 (by decide) (fun _ => ?_) (fun h9 => absurd h9 (by omega))
      refine js_iinc (v := nI (e + 1)) (L' := [some (.ref 0), some (.int (nI land)), some (.int (nI (e + 1))), none]) dX6_countPoints_69 rfl (jj_inc _) rfl ?_
      refine js_goto 10 dX6_countPoints_72 (by decide) ?_
      refine js_fgL (L' := [some (.ref 0), some (.int (nI land)), some (.int (nI (e + 1))), none]) (by simp [jj_le, jj_sm]) ?_
      exact jj_refl
set_option maxRecDepth 100000 in
set_option maxHeartbeats 4000000 in
theorem ct_X6_countPoints {lay : jj_Lay} {S : jj_Mem} {P : jj_P} (hB : jj_pp lay) (h : jj_J S P) (hK : jj_K P) {land : Nat} (hla : land < 4) : ∃ (g' : Nat → Nat) (S' : jj_Mem), jj_CT yX6_countPoints (.code yX6_countPoints cX6_countPoints 4 none) none 1 23 [.ref 0, .int (nI land)] lay S none lay S' ∧ (∀ j, j < 10 → S' 103 j = some (nI (g' j)) ∧ g' j ≤ 2080) ∧ (∀ p, p ≠ 103 → ∀ j, S' p j = S p j) := by
  obtain ⟨g', S', hR, p1, p2⟩ := lp_X6_countPoints (lay := lay) hB hK hla P.cnt 0 (by omega) (jj_row S 103 10 (fun _ => 0)) (fun _ => 0) (jj_J_eq h (fun p hp j => jj_row_neP (by omega))) (fun j hj => ⟨jj_row_at hj, Nat.zero_le _⟩)
  refine ⟨g', S', ?_, p1, fun p hp j => (p2 p hp j).trans (jj_row_neP hp)⟩
  refine jj_mkV RX6 (by decide) rfl (L := [some (.ref 0), some (.int (nI land)), none, none]) rfl rfl ?_
  refine jj_RRs ?_ hR
  refine js_aload_n 0 rfl dX6_countPoints_0 rfl ?_
  refine js_getr 8 jw_f_RX6_57 (jl_0 hB) rfl (Nat.le_of_ble_eq_true rfl) rfl dX6_countPoints_1 ?_
  refine js_iconst (v := nI 0) dX6_countPoints_4 (by decide) ?_
  refine js_callS (av := [.ref 103, .int (nI 0)]) (st := []) (ct_J7_fill_53178 (c := 0) (jl_103 hB) (by omega)) (Or.inl rfl) jw_c_J7_fill_53178 jw_i_RJ7 jw_m_RX6_413 jw_s_J7_fill_53178 jw_y_J7_fill_53178 rfl ⟨(Nat.le_of_ble_eq_true rfl), (Nat.le_of_ble_eq_true rfl), (Nat.le_refl _), (Nat.le_refl _), (Nat.le_of_ble_eq_true rfl)⟩ dX6_countPoints_5 ?_
  refine js_st (st' := []) rfl ?_
  refine js_iconst (v := nI 0) dX6_countPoints_8 (by decide) ?_
  refine js_istore_n (L' := [some (.ref 0), some (.int (nI land)), some (.int (nI 0)), none]) 2 rfl dX6_countPoints_9 rfl (Nat.le_of_ble_eq_true rfl) ?_
  exact jj_refl
set_option maxRecDepth 100000 in
set_option maxHeartbeats 4000000 in
theorem lp_X6_charted {lay : jj_Lay} {S : jj_Mem} (hB : jj_pp lay) {land c : Nat} (hc : c < 2 ^ 31) {g : Nat → Nat} (hg : ∀ j, j < 10 → S 103 j = some (nI (g j)) ∧ g j ≤ 2080) : ∀ (k e : Nat), e + k = 10 → ∃ r : Int32, jj_RR cX6_charted 4 RX6 yX6_charted.name none 2 46 lay.length (jj_sl lay) (7, [some (.ref 0), some (.int (nI land)), some (.int (nI c)), some (.int (nI e))], [], lay, S) (some (.int r)) .ireturn lay S := by
  intro k
  induction k with
  | zero =>
    intro e he
    refine ⟨(-1), ⟨43, [some (.ref 0), some (.int (nI land)), some (.int (nI c)), some (.int (nI e))], dX6_charted_43, ?_⟩⟩
    refine js_iload_n 3 rfl dX6_charted_7 rfl ?_
    refine js_bipush (v := nI 10) dX6_charted_8 (by decide) ?_
    refine jn_icmp_ge 42 (by omega) (by omega) dX6_charted_10 (by decide) (fun _ => ?_) (fun h9 => absurd h9 (by omega))
    refine js_iconst (v := -1) dX6_charted_42 (by decide) ?_
    exact jj_refl
  | succ k ih =>
    intro e he
    have hg9 := (hg e (by omega)).2
    have hp9 := jj_pl_lt (f := g) (show e < 10 by omega)
    by_cases hc0 : ((g e)) ≤ 0
    · obtain ⟨r, hR⟩ := ih (e + 1) (by omega)
      refine ⟨r, jj_RRs ?_ hR⟩
      refine js_iload_n 3 rfl dX6_charted_7 rfl ?_
      refine js_bipush (v := nI 10) dX6_charted_8 (by decide) ?_
      refine jn_icmp_ge 42 (by omega) (by omega) dX6_charted_10 (by decide) (fun h9 => absurd h9 (by omega)) (fun _ => ?_)
      refine js_aload_n 0 rfl dX6_charted_13 rfl ?_
      refine js_getr 8 jw_f_RX6_57 (jl_0 hB) rfl (Nat.le_of_ble_eq_true rfl) rfl dX6_charted_14 ?_
      refine js_iload_n 3 rfl dX6_charted_17 rfl ?_
      refine js_iald e rfl (jl_103 hB) (by omega) (by decide) ((hg e (by omega)).1) dX6_charted_18 ?_
      refine jn_if_le 36 (by omega) dX6_charted_19 (by decide) (fun _ => ?_) (fun h9 => absurd h9 (by omega))
      refine js_iinc (v := nI (e + 1)) (L' := [some (.ref 0), some (.int (nI land)), some (.int (nI c)), some (.int (nI (e + 1)))]) dX6_charted_36 rfl (jj_inc _) rfl ?_
      refine js_goto 7 dX6_charted_39 (by decide) ?_
      exact jj_refl
    · by_cases hc1 : ((jj_pl g e 10)) = c
      · refine ⟨nI e, ⟨35, [some (.ref 0), some (.int (nI land)), some (.int (nI c)), some (.int (nI e))], dX6_charted_35, ?_⟩⟩
        refine js_iload_n 3 rfl dX6_charted_7 rfl ?_
        refine js_bipush (v := nI 10) dX6_charted_8 (by decide) ?_
        refine jn_icmp_ge 42 (by omega) (by omega) dX6_charted_10 (by decide) (fun h9 => absurd h9 (by omega)) (fun _ => ?_)
        refine js_aload_n 0 rfl dX6_charted_13 rfl ?_
        refine js_getr 8 jw_f_RX6_57 (jl_0 hB) rfl (Nat.le_of_ble_eq_true rfl) rfl dX6_charted_14 ?_
        refine js_iload_n 3 rfl dX6_charted_17 rfl ?_
        refine js_iald e rfl (jl_103 hB) (by omega) (by decide) ((hg e (by omega)).1) dX6_charted_18 ?_
        refine jn_if_le 36 (by omega) dX6_charted_19 (by decide) (fun h9 => absurd h9 (by omega)) (fun _ => ?_)
        refine js_aload_n 0 rfl dX6_charted_22 rfl ?_
        refine js_getr 8 jw_f_RX6_57 (jl_0 hB) rfl (Nat.le_of_ble_eq_true rfl) rfl dX6_charted_23 ?_
        refine js_iload_n 3 rfl dX6_charted_26 rfl ?_
        refine js_callS (av := [.ref 103, .int (nI e)]) (st := []) (ct_X6_placeOf (f := g) (jl_103 hB) (by omega) (by omega) (fun j hj => (hg j hj).1) (fun j hj => by have := (hg j hj).2; omega)) (Or.inl rfl) jw_c_X6_placeOf jw_i_RX6 jw_m_RX6_409 jw_s_X6_placeOf jw_y_X6_placeOf rfl ⟨(Nat.le_of_ble_eq_true rfl), (Nat.le_of_ble_eq_true rfl), (Nat.le_refl _), (Nat.le_refl _), (Nat.le_of_ble_eq_true rfl)⟩ dX6_charted_27 ?_
        refine js_st (st' := [.int (nI (jj_pl g e 10))]) rfl ?_
        refine js_iload_n 2 rfl dX6_charted_30 rfl ?_
        refine jn_icmp_ne 36 (by omega) (by omega) dX6_charted_31 (by decide) (fun h9 => absurd h9 (by omega)) (fun _ => ?_)
        refine js_iload_n 3 rfl dX6_charted_34 rfl ?_
        exact jj_refl
      · obtain ⟨r, hR⟩ := ih (e + 1) (by omega)
        refine ⟨r, jj_RRs ?_ hR⟩
        refine js_iload_n 3 rfl dX6_charted_7 rfl ?_
        refine js_bipush (v := nI 10) dX6_charted_8 (by decide) ?_
        refine jn_icmp_ge 42 (by omega) (by omega) dX6_charted_10 (by decide) (fun h9 => absurd h9 (by omega)) (fun _ => ?_)
        refine js_aload_n 0 rfl dX6_charted_13 rfl ?_
        refine js_getr 8 jw_f_RX6_57 (jl_0 hB) rfl (Nat.le_of_ble_eq_true rfl) rfl dX6_charted_14 ?_
        refine js_iload_n 3 rfl dX6_charted_17 rfl ?_
        refine js_iald e rfl (jl_103 hB) (by omega) (by decide) ((hg e (by omega)).1) dX6_charted_18 ?_
        refine jn_if_le 36 (by omega) dX6_charted_19 (by decide) (fun h9 => absurd h9 (by omega)) (fun _ => ?_)
        refine js_aload_n 0 rfl dX6_charted_22 rfl ?_
        refine js_getr 8 jw_f_RX6_57 (jl_0 hB) rfl (Nat.le_of_ble_eq_true rfl) rfl dX6_charted_23 ?_
        refine js_iload_n 3 rfl dX6_charted_26 rfl ?_
        refine js_callS (av := [.ref 103, .int (nI e)]) (st := []) (ct_X6_placeOf (f := g) (jl_103 hB) (by omega) (by omega) (fun j hj => (hg j hj).1) (fun j hj => by have := (hg j hj).2; omega)) (Or.inl rfl) jw_c_X6_placeOf jw_i_RX6 jw_m_RX6_409 jw_s_X6_placeOf jw_y_X6_placeOf rfl ⟨(Nat.le_of_ble_eq_true rfl), (Nat.le_of_ble_eq_true rfl), (Nat.le_refl _), (Nat.le_refl _), (Nat.le_of_ble_eq_true rfl)⟩ dX6_charted_27 ?_
        refine js_st (st' := [.int (nI (jj_pl g e 10))]) rfl ?_
        refine js_iload_n 2 rfl dX6_charted_30 rfl ?_
        refine jn_icmp_ne 36 (by omega) (by omega) dX6_charted_31 (by decide) (fun _ => ?_) (fun h9 => absurd h9 (by omega))
        refine js_iinc (v := nI (e + 1)) (L' := [some (.ref 0), some (.int (nI land)), some (.int (nI c)), some (.int (nI (e + 1)))]) dX6_charted_36 rfl (jj_inc _) rfl ?_
        refine js_goto 7 dX6_charted_39 (by decide) ?_
        exact jj_refl
set_option maxRecDepth 100000 in
set_option maxHeartbeats 4000000 in
theorem E_X6_charted {lay : jj_Lay} {S : jj_Mem} {P : jj_P} (hB : jj_pp lay) (h : jj_J S P) (hK : jj_K P) {land c : Nat} (hla : land < 4) (hc : c < 2 ^ 31) : ∃ (r : Int32) (S1 : jj_Mem), jj_CT yX6_charted (.code yX6_charted cX6_charted 4 (some .int)) none 2 46 [.ref 0, .int (nI land), .int (nI c)] lay S (some (.int r)) lay S1 ∧ (∀ p, p ≠ 103 → ∀ j, S1 p j = S p j) := by
  obtain ⟨g, S1, hct, p1, p2⟩ := ct_X6_countPoints (lay := lay) hB h hK hla
  obtain ⟨r, hR⟩ := lp_X6_charted (lay := lay) hB hc p1 (land := land) 10 0 (by omega)
  refine ⟨r, S1, ?_, p2⟩
  refine jj_mkI RX6 .int (by decide) rfl (L := [some (.ref 0), some (.int (nI land)), some (.int (nI c)), none]) rfl rfl rfl ?_
  refine jj_RRs ?_ hR
  refine js_aload_n 0 rfl dX6_charted_0 rfl ?_
  refine js_iload_n 1 rfl dX6_charted_1 rfl ?_
  refine js_callV (av := [.int (nI land)]) (st := []) (b := 0) hct (Or.inl rfl) jw_c_X6_countPoints jw_i_RX6 jw_m_RX6_406 jw_s_X6_countPoints jw_e_X6_countPoints (jl_0 hB) rfl jw_y_X6_countPoints rfl ⟨(Nat.le_of_ble_eq_true rfl), (Nat.le_of_ble_eq_true rfl), (Nat.le_refl _), (Nat.le_refl _), (Nat.le_of_ble_eq_true rfl)⟩ dX6_charted_2 ?_
  refine js_st (st' := []) rfl ?_
  refine js_iconst (v := nI 0) dX6_charted_5 (by decide) ?_
  refine js_istore_n (L' := [some (.ref 0), some (.int (nI land)), some (.int (nI c)), some (.int (nI 0))]) 3 rfl dX6_charted_6 rfl (Nat.le_of_ble_eq_true rfl) ?_
  exact jj_refl

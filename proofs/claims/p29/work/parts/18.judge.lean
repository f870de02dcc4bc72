/-! JUDGING: which plays count. -/
def jj_um (f : Nat → Nat → Nat) (l u y : Nat) : Nat → Nat → Nat := fun a b => if a = l ∧ b = u then y else f a b
theorem jj_rw8_upd {S : jj_Mem} {p : Nat} {f : Nat → Nat → Nat} {l u y : Nat} (h : jj_rw8 S p f) : jj_rw8 (jj_w S (p + l) u (nI y)) p (jj_um f l u y) := fun a ha b hb => by
  unfold jj_w jj_um
  by_cases c : a = l ∧ b = u
  · rw [if_pos ⟨by omega, c.2⟩, if_pos c]
  · rw [if_neg (fun w => c ⟨by omega, w.2⟩), if_neg c]
    exact h a ha b hb
theorem jj_rw8_w {S : jj_Mem} {p q i : Nat} {x : Int32} {f : Nat → Nat → Nat} (h : jj_rw8 S p f) (hq : q < p ∨ p + 8 ≤ q) : jj_rw8 (jj_w S q i x) p f := jj_rw8_mono h (fun a h1 h2 j => jj_w_neP (by omega))
theorem jj_cl_out {S : jj_Mem} {p n q j : Nat} (h : q < p + 1 ∨ p + 1 + n ≤ q) : jj_cl S p n q j = S q j := if_neg (by omega)
theorem jj_cl_rw {S : jj_Mem} {p : Nat} : jj_rw8 (jj_cl S p 8) (p + 1) (fun _ _ => 0) := fun l hl j hj => if_pos ⟨by omega, by omega, hj⟩
theorem jj_ct_congr {P Q : Nat → Bool} {n : Nat} (h : ∀ j, j < n → P j = Q j) : jj_ct P n = jj_ct Q n := Nat.le_antisymm (jj_ct_le (fun j hj hp => (h j hj) ▸ hp)) (jj_ct_le (fun j hj hp => (h j hj) ▸ hp))
theorem jj_ct_mono {P : Nat → Bool} {k : Nat} : ∀ {n : Nat}, k ≤ n → jj_ct P k ≤ jj_ct P n
  | 0, h => by rw [show k = 0 by omega]; exact Nat.le_refl _
  | n + 1, h => by
    by_cases e : k = n + 1
    · rw [e]; exact Nat.le_refl _
    · exact Nat.le_trans (jj_ct_mono (P := P) (n := n) (by omega)) (Nat.le_add_right _ _)
theorem jj_ct_none {P : Nat → Bool} : ∀ {n : Nat}, (∀ j, j < n → P j = false) → jj_ct P n = 0
  | 0, _ => rfl
  | n + 1, h => by
    show jj_ct P n + jj_b (P n) = 0
    rw [jj_ct_none (fun j hj => h j (by omega)), h n (by omega)]
    rfl
/-- a play that counts, of a listener, a recording, a day -/
def jj_pd (li tr mi rs rc : Nat → Nat) (l u d j : Nat) : Bool := decide (rs j = 0 ∧ li j = l ∧ rc (tr j) = u ∧ mi j / 1440 = d)
set_option maxRecDepth 100000 in
set_option maxHeartbeats 4000000 in
theorem ct_X3_clear {lay : jj_Lay} {S : jj_Mem} (hB : jj_pp lay) : jj_CT yX3_clear (.code yX3_clear cX3_clear 1 none) none 2 44 [.ref 42] lay S none lay (jj_cl (jj_cl S 43 8) 52 8) := by
  refine jj_mkV RX3 (by decide) rfl (L := [some (.ref 42)]) rfl rfl ⟨14, [some (.ref 42)], dX3_clear_14, ?_⟩
  refine js_aload_n 0 rfl dX3_clear_0 rfl ?_
  refine js_getr 0 jw_f_RX3_11 (jl_42 hB) rfl (Nat.le_of_ble_eq_true rfl) rfl dX3_clear_1 ?_
  refine js_callSN (av := [.ref 43]) (st := []) (ct_X6_clearRows (jl_43 hB) (by omega) (fun j hj => ⟨jr_ev j hj, jl_ev hB j hj⟩)) (Or.inl rfl) jw_c_X6_clearRows jw_i_RX6 jw_h_RX3_22 jw_s_X6_clearRows jw_y_X6_clearRows rfl ⟨(Nat.le_of_ble_eq_true rfl), (Nat.le_of_ble_eq_true rfl), (Nat.le_refl _), (Nat.le_refl _), (Nat.le_of_ble_eq_true rfl)⟩ dX3_clear_4 ?_
  refine js_st (st' := []) rfl ?_
  refine js_aload_n 0 rfl dX3_clear_7 rfl ?_
  refine js_getr 1 jw_f_RX3_16 (jl_42 hB) rfl (Nat.le_of_ble_eq_true rfl) rfl dX3_clear_8 ?_
  refine js_callSN (av := [.ref 52]) (st := []) (ct_X6_clearRows (jl_52 hB) (by omega) (fun j hj => ⟨jr_im j hj, jl_im hB j hj⟩)) (Or.inl rfl) jw_c_X6_clearRows jw_i_RX6 jw_h_RX3_22 jw_s_X6_clearRows jw_y_X6_clearRows rfl ⟨(Nat.le_of_ble_eq_true rfl), (Nat.le_of_ble_eq_true rfl), (Nat.le_refl _), (Nat.le_refl _), (Nat.le_of_ble_eq_true rfl)⟩ dX3_clear_11 ?_
  refine js_st (st' := []) rfl ?_
  exact jj_refl
set_option maxRecDepth 100000 in
set_option maxHeartbeats 4000000 in
theorem ct_X3_startDay {lay : jj_Lay} {S : jj_Mem} (hB : jj_pp lay) : jj_CT yX3_startDay (.code yX3_startDay cX3_startDay 1 none) none 2 44 [.ref 42] lay S none lay (jj_cl S 61 8) := by
  refine jj_mkV RX3 (by decide) rfl (L := [some (.ref 42)]) rfl rfl ⟨7, [some (.ref 42)], dX3_startDay_7, ?_⟩
  refine js_aload_n 0 rfl dX3_startDay_0 rfl ?_
  refine js_getr 2 jw_f_RX3_19 (jl_42 hB) rfl (Nat.le_of_ble_eq_true rfl) rfl dX3_startDay_1 ?_
  refine js_callSN (av := [.ref 61]) (st := []) (ct_X6_clearRows (jl_61 hB) (by omega) (fun j hj => ⟨jr_od j hj, jl_od hB j hj⟩)) (Or.inl rfl) jw_c_X6_clearRows jw_i_RX6 jw_h_RX3_22 jw_s_X6_clearRows jw_y_X6_clearRows rfl ⟨(Nat.le_of_ble_eq_true rfl), (Nat.le_of_ble_eq_true rfl), (Nat.le_refl _), (Nat.le_refl _), (Nat.le_of_ble_eq_true rfl)⟩ dX3_startDay_4 ?_
  refine js_st (st' := []) rfl ?_
  exact jj_refl
set_option maxRecDepth 100000 in
set_option maxHeartbeats 4000000 in
theorem ct_X3_add {lay : jj_Lay} {S : jj_Mem} (hB : jj_pp lay) {l u o : Nat} {ev im od : Nat → Nat → Nat} (hl : l < 8) (hu : u < 10) (ho : o ≤ 1) (hev : jj_rw8 S 44 ev) (him : jj_rw8 S 53 im) (hod : jj_rw8 S 62 od) :
    ∃ S', jj_CT yX3_add (.code yX3_add cX3_add 4 none) none 0 0 [.ref 42, .int (nI l), .int (nI u), .int (nI o)] lay S none lay S' ∧ jj_rw8 S' 44 (jj_um ev l u (ev l u + 1)) ∧ jj_rw8 S' 53 (if o = 1 then jj_um im l u (im l u + 1) else im) ∧ jj_rw8 S' 62 (jj_um od l u (od l u + 1)) ∧ (∀ p, p < 44 ∨ (51 < p ∧ p < 53) ∨ (60 < p ∧ p < 62) ∨ 69 < p → ∀ j, S' p j = S p j) := by
  rcases (show o = 0 ∨ o = 1 by omega) with rfl | rfl
  · refine ⟨(jj_w (jj_w S (44 + l) u (nI (((ev l u)) + 1))) (62 + l) u (nI (((od l u)) + 1))), ?_, jj_rw8_w (jj_rw8_upd hev) (by omega), ?_, jj_rw8_upd (jj_rw8_w hod (by omega)), fun p hp j => (jj_w_neP (by omega)).trans (jj_w_neP (by omega))⟩
    · refine jj_mkV RX3 (by decide) rfl (L := [some (.ref 42), some (.int (nI l)), some (.int (nI u)), some (.int (nI 0))]) rfl rfl ⟨40, [some (.ref 42), some (.int (nI l)), some (.int (nI u)), some (.int (nI 0))], dX3_add_40, ?_⟩
      refine js_aload_n 0 rfl dX3_add_0 rfl ?_
      refine js_getr 0 jw_f_RX3_11 (jl_42 hB) rfl (Nat.le_of_ble_eq_true rfl) rfl dX3_add_1 ?_
      refine js_iload_n 1 rfl dX3_add_4 rfl ?_
      refine js_aald l rfl (jl_43 hB) (by omega) (by decide) (jr_ev l hl) dX3_add_5 ?_
      refine js_iload_n 2 rfl dX3_add_6 rfl ?_
      refine js_dup2 rfl rfl dX3_add_7 ?_
      refine js_iald u rfl (jl_ev hB l hl) (by omega) (by decide) (hev l hl u hu) dX3_add_8 ?_
      refine js_iconst (v := nI 1) dX3_add_9 (by decide) ?_
      refine jn_iadd dX3_add_10 ?_
      refine js_iast u rfl (jl_ev hB l hl) (by omega) (by decide) dX3_add_11 ?_
      refine js_aload_n 0 rfl dX3_add_12 rfl ?_
      refine js_getr 2 jw_f_RX3_19 (jl_42 hB) rfl (Nat.le_of_ble_eq_true rfl) rfl dX3_add_13 ?_
      refine js_iload_n 1 rfl dX3_add_16 rfl ?_
      refine js_aald l rfl (jl_61 hB) (by omega) (by decide) (jr_od l hl) dX3_add_17 ?_
      refine js_iload_n 2 rfl dX3_add_18 rfl ?_
      refine js_dup2 rfl rfl dX3_add_19 ?_
      refine js_iald u rfl (jl_od hB l hl) (by omega) (by decide) ((jj_w_neP (by omega)).trans (hod l hl u hu)) dX3_add_20 ?_
      refine js_iconst (v := nI 1) dX3_add_21 (by decide) ?_
      refine jn_iadd dX3_add_22 ?_
      refine js_iast u rfl (jl_od hB l hl) (by omega) (by decide) dX3_add_23 ?_
      refine js_iload_n 3 rfl dX3_add_24 rfl ?_
      refine jn_if_eq 40 (by omega) dX3_add_25 (by decide) (fun _ => ?_) (fun h9 => absurd h9 (by omega))
      exact jj_refl
    · rw [if_neg (by omega)]; exact jj_rw8_w (jj_rw8_w him (by omega)) (by omega)
  · refine ⟨(jj_w (jj_w (jj_w S (44 + l) u (nI (((ev l u)) + 1))) (62 + l) u (nI (((od l u)) + 1))) (53 + l) u (nI (((im l u)) + 1))), ?_, jj_rw8_w (jj_rw8_w (jj_rw8_upd hev) (by omega)) (by omega), ?_, jj_rw8_w (jj_rw8_upd (jj_rw8_w hod (by omega))) (by omega), fun p hp j => (jj_w_neP (by omega)).trans ((jj_w_neP (by omega)).trans (jj_w_neP (by omega)))⟩
    · refine jj_mkV RX3 (by decide) rfl (L := [some (.ref 42), some (.int (nI l)), some (.int (nI u)), some (.int (nI 1))]) rfl rfl ⟨40, [some (.ref 42), some (.int (nI l)), some (.int (nI u)), some (.int (nI 1))], dX3_add_40, ?_⟩
      refine js_aload_n 0 rfl dX3_add_0 rfl ?_
      refine js_getr 0 jw_f_RX3_11 (jl_42 hB) rfl (Nat.le_of_ble_eq_true rfl) rfl dX3_add_1 ?_
      refine js_iload_n 1 rfl dX3_add_4 rfl ?_
      refine js_aald l rfl (jl_43 hB) (by omega) (by decide) (jr_ev l hl) dX3_add_5 ?_
      refine js_iload_n 2 rfl dX3_add_6 rfl ?_
      refine js_dup2 rfl rfl dX3_add_7 ?_
      refine js_iald u rfl (jl_ev hB l hl) (by omega) (by decide) (hev l hl u hu) dX3_add_8 ?_
      refine js_iconst (v := nI 1) dX3_add_9 (by decide) ?_
      refine jn_iadd dX3_add_10 ?_
      refine js_iast u rfl (jl_ev hB l hl) (by omega) (by decide) dX3_add_11 ?_
      refine js_aload_n 0 rfl dX3_add_12 rfl ?_
      refine js_getr 2 jw_f_RX3_19 (jl_42 hB) rfl (Nat.le_of_ble_eq_true rfl) rfl dX3_add_13 ?_
      refine js_iload_n 1 rfl dX3_add_16 rfl ?_
      refine js_aald l rfl (jl_61 hB) (by omega) (by decide) (jr_od l hl) dX3_add_17 ?_
      refine js_iload_n 2 rfl dX3_add_18 rfl ?_
      refine js_dup2 rfl rfl dX3_add_19 ?_
      refine js_iald u rfl (jl_od hB l hl) (by omega) (by decide) ((jj_w_neP (by omega)).trans (hod l hl u hu)) dX3_add_20 ?_
      refine js_iconst (v := nI 1) dX3_add_21 (by decide) ?_
      refine jn_iadd dX3_add_22 ?_
      refine js_iast u rfl (jl_od hB l hl) (by omega) (by decide) dX3_add_23 ?_
      refine js_iload_n 3 rfl dX3_add_24 rfl ?_
      refine jn_if_eq 40 (by omega) dX3_add_25 (by decide) (fun h9 => absurd h9 (by omega)) (fun _ => ?_)
      refine js_aload_n 0 rfl dX3_add_28 rfl ?_
      refine js_getr 1 jw_f_RX3_16 (jl_42 hB) rfl (Nat.le_of_ble_eq_true rfl) rfl dX3_add_29 ?_
      refine js_iload_n 1 rfl dX3_add_32 rfl ?_
      refine js_aald l rfl (jl_52 hB) (by omega) (by decide) (jr_im l hl) dX3_add_33 ?_
      refine js_iload_n 2 rfl dX3_add_34 rfl ?_
      refine js_dup2 rfl rfl dX3_add_35 ?_
      refine js_iald u rfl (jl_im hB l hl) (by omega) (by decide) ((jj_w_neP (by omega)).trans ((jj_w_neP (by omega)).trans (him l hl u hu))) dX3_add_36 ?_
      refine js_iconst (v := nI 1) dX3_add_37 (by decide) ?_
      refine jn_iadd dX3_add_38 ?_
      refine js_iast u rfl (jl_im hB l hl) (by omega) (by decide) dX3_add_39 ?_
      exact jj_refl
    · rw [if_pos rfl]; exact jj_rw8_upd (jj_rw8_w (jj_rw8_w him (by omega)) (by omega))
set_option maxRecDepth 100000 in
set_option maxHeartbeats 4000000 in
theorem ct_X6_judged {lay : jj_Lay} {S : jj_Mem} (hB : jj_pp lay) {n k cnt nt wn : Nat} {li tr mi rs rc ld pl fl : Nat → Nat} {se w0 w1 w2 w3 : Nat → Int32} {od : Nat → Nat → Nat} (hlg : jj_lg S n li tr mi rs se) (htk : jj_tk S nt rc) (hwi : jj_wi S wn w0 w1 w2 w3) (hau : jj_au S cnt ld pl) (hfl : ∀ j, j < cnt → S 23 j = some (nI (fl j)) ∧ fl j ≤ 1) (hod : jj_rw8 S 62 od) (hk : k < n) (hli : li k < cnt) (htr : tr k < nt) (hodb : od (li k) (rc (tr k)) < 2 ^ 31) : ∃ ρ : Nat, ρ ≤ 5 ∧ (ρ = 0 → od (li k) (rc (tr k)) < 5) ∧ jj_CT yX6_judged (.code yX6_judged cX6_judged 6 (some .int)) none 2 43 [.ref 0, .int (nI k)] lay S (some (.int (nI ρ))) lay S := by
  have h130 := hlg.1
  have h14 := htk.1
  have hc8 := hau.1
  have hf1 := (hfl _ hli).2
  have hrc := (htk.2.2 _ htr).2.1
  obtain ⟨q, hct, hq⟩ := ct_X2_isAllowed (lay := lay) (S := S) (x := nI (tr k)) (y := nI (ld (li k))) (z := nI (mi k)) hB hwi
  by_cases hc0 : (nI 30) ≤ (se k)
  · by_cases hc1 : q = 0
    · refine ⟨2, by omega, by omega, ?_⟩
      refine jj_mkI RX6 .int (by decide) rfl (L := [some (.ref 0), some (.int (nI k)), none, none, none, none]) rfl rfl rfl ⟨70, [some (.ref 0), some (.int (nI k)), some (.int (nI (li k))), some (.int (nI (tr k))), some (.int (nI (mi k))), none], dX6_judged_70, ?_⟩
      refine js_aload_n 0 rfl dX6_judged_0 rfl ?_
      refine js_getr 3 jw_f_RX6_33 (jl_0 hB) rfl (Nat.le_of_ble_eq_true rfl) rfl dX6_judged_1 ?_
      refine js_getNr 1 jw_n_RX6_249 (jl_35 hB) rfl (Nat.le_of_ble_eq_true rfl) rfl dX6_judged_4 ?_
      refine js_iload_n 1 rfl dX6_judged_7 rfl ?_
      refine js_iald k rfl (jl_36 hB) (by omega) (by decide) ((hlg.2.2 k (by omega)).1) dX6_judged_8 ?_
      refine js_istore_n (L' := [some (.ref 0), some (.int (nI k)), some (.int (nI (li k))), none, none, none]) 2 rfl dX6_judged_9 rfl (Nat.le_of_ble_eq_true rfl) ?_
      refine js_aload_n 0 rfl dX6_judged_10 rfl ?_
      refine js_getr 3 jw_f_RX6_33 (jl_0 hB) rfl (Nat.le_of_ble_eq_true rfl) rfl dX6_judged_11 ?_
      refine js_getNr 2 jw_n_RX6_252 (jl_35 hB) rfl (Nat.le_of_ble_eq_true rfl) rfl dX6_judged_14 ?_
      refine js_iload_n 1 rfl dX6_judged_17 rfl ?_
      refine js_iald k rfl (jl_37 hB) (by omega) (by decide) ((hlg.2.2 k (by omega)).2.1) dX6_judged_18 ?_
      refine js_istore_n (L' := [some (.ref 0), some (.int (nI k)), some (.int (nI (li k))), some (.int (nI (tr k))), none, none]) 3 rfl dX6_judged_19 rfl (Nat.le_of_ble_eq_true rfl) ?_
      refine js_aload_n 0 rfl dX6_judged_20 rfl ?_
      refine js_getr 3 jw_f_RX6_33 (jl_0 hB) rfl (Nat.le_of_ble_eq_true rfl) rfl dX6_judged_21 ?_
      refine js_getNr 3 jw_n_RX6_255 (jl_35 hB) rfl (Nat.le_of_ble_eq_true rfl) rfl dX6_judged_24 ?_
      refine js_iload_n 1 rfl dX6_judged_27 rfl ?_
      refine js_iald k rfl (jl_38 hB) (by omega) (by decide) ((hlg.2.2 k (by omega)).2.2.1) dX6_judged_28 ?_
      refine js_istore (L' := [some (.ref 0), some (.int (nI k)), some (.int (nI (li k))), some (.int (nI (tr k))), some (.int (nI (mi k))), none]) dX6_judged_29 rfl (Nat.le_of_ble_eq_true rfl) ?_
      refine js_aload_n 0 rfl dX6_judged_31 rfl ?_
      refine js_getr 3 jw_f_RX6_33 (jl_0 hB) rfl (Nat.le_of_ble_eq_true rfl) rfl dX6_judged_32 ?_
      refine js_getNr 4 jw_n_RX6_258 (jl_35 hB) rfl (Nat.le_of_ble_eq_true rfl) rfl dX6_judged_35 ?_
      refine js_iload_n 1 rfl dX6_judged_38 rfl ?_
      refine js_iald k rfl (jl_39 hB) (by omega) (by decide) ((hlg.2.2 k (by omega)).2.2.2.1) dX6_judged_39 ?_
      refine js_bipush (v := nI 30) dX6_judged_40 (by decide) ?_
      refine js_icmp_ge 47 dX6_judged_42 (by decide) (fun _ => ?_) (fun h9 => absurd h9 (fun q => q hc0))
      refine js_aload_n 0 rfl dX6_judged_47 rfl ?_
      refine js_getr 0 jw_f_RX6_12 (jl_0 hB) rfl (Nat.le_of_ble_eq_true rfl) rfl dX6_judged_48 ?_
      refine js_iload_n 3 rfl dX6_judged_51 rfl ?_
      refine js_aload_n 0 rfl dX6_judged_52 rfl ?_
      refine js_getr 2 jw_f_RX6_26 (jl_0 hB) rfl (Nat.le_of_ble_eq_true rfl) rfl dX6_judged_53 ?_
      refine js_getNr 1 jw_n_RX6_169 (jl_20 hB) rfl (Nat.le_of_ble_eq_true rfl) rfl dX6_judged_56 ?_
      refine js_iload_n 2 rfl dX6_judged_59 rfl ?_
      refine js_iald ((li k)) rfl (jl_21 hB) (by omega) (by decide) ((hau.2.2.1 _ hli).1) dX6_judged_60 ?_
      refine js_iload dX6_judged_61 rfl ?_
      refine js_callVN (av := [.int (nI (tr k)), .int (nI (ld ((li k)))), .int (nI (mi k))]) (st := []) (b := 1) hct (Or.inl rfl) jw_c_X2_isAllowed jw_i_RX2 jw_h_RX6_172 jw_s_X2_isAllowed jw_e_X2_isAllowed (jl_1 hB) rfl jw_y_X2_isAllowed rfl ⟨(Nat.le_of_ble_eq_true rfl), (Nat.le_of_ble_eq_true rfl), (Nat.le_refl _), (Nat.le_refl _), (Nat.le_of_ble_eq_true rfl)⟩ dX6_judged_63 ?_
      refine js_st (st' := [.int (nI q)]) rfl ?_
      refine jn_if_ne 71 (by omega) dX6_judged_66 (by decide) (fun h9 => absurd h9 (by omega)) (fun _ => ?_)
      refine js_iconst (v := nI 2) dX6_judged_69 (by decide) ?_
      exact jj_refl
    · by_cases hc2 : ((fl ((li k)))) = 0
      · by_cases hc3 : ((od (li k) ((rc ((tr k)))))) < 5
        · refine ⟨0, by omega, by omega, ?_⟩
          refine jj_mkI RX6 .int (by decide) rfl (L := [some (.ref 0), some (.int (nI k)), none, none, none, none]) rfl rfl rfl ⟨132, [some (.ref 0), some (.int (nI k)), some (.int (nI (li k))), some (.int (nI (tr k))), some (.int (nI (mi k))), some (.int (nI (od (li k) ((rc ((tr k)))))))], dX6_judged_132, ?_⟩
          refine js_aload_n 0 rfl dX6_judged_0 rfl ?_
          refine js_getr 3 jw_f_RX6_33 (jl_0 hB) rfl (Nat.le_of_ble_eq_true rfl) rfl dX6_judged_1 ?_
          refine js_getNr 1 jw_n_RX6_249 (jl_35 hB) rfl (Nat.le_of_ble_eq_true rfl) rfl dX6_judged_4 ?_
          refine js_iload_n 1 rfl dX6_judged_7 rfl ?_
          refine js_iald k rfl (jl_36 hB) (by omega) (by decide) ((hlg.2.2 k (by omega)).1) dX6_judged_8 ?_
          refine js_istore_n (L' := [some (.ref 0), some (.int (nI k)), some (.int (nI (li k))), none, none, none]) 2 rfl dX6_judged_9 rfl (Nat.le_of_ble_eq_true rfl) ?_
          refine js_aload_n 0 rfl dX6_judged_10 rfl ?_
          refine js_getr 3 jw_f_RX6_33 (jl_0 hB) rfl (Nat.le_of_ble_eq_true rfl) rfl dX6_judged_11 ?_
          refine js_getNr 2 jw_n_RX6_252 (jl_35 hB) rfl (Nat.le_of_ble_eq_true rfl) rfl dX6_judged_14 ?_
          refine js_iload_n 1 rfl dX6_judged_17 rfl ?_
          refine js_iald k rfl (jl_37 hB) (by omega) (by decide) ((hlg.2.2 k (by omega)).2.1) dX6_judged_18 ?_
          refine js_istore_n (L' := [some (.ref 0), some (.int (nI k)), some (.int (nI (li k))), some (.int (nI (tr k))), none, none]) 3 rfl dX6_judged_19 rfl (Nat.le_of_ble_eq_true rfl) ?_
          refine js_aload_n 0 rfl dX6_judged_20 rfl ?_
          refine js_getr 3 jw_f_RX6_33 (jl_0 hB) rfl (Nat.le_of_ble_eq_true rfl) rfl dX6_judged_21 ?_
          refine js_getNr 3 jw_n_RX6_255 (jl_35 hB) rfl (Nat.le_of_ble_eq_true rfl) rfl dX6_judged_24 ?_
          refine js_iload_n 1 rfl dX6_judged_27 rfl ?_
          refine js_iald k rfl (jl_38 hB) (by omega) (by decide) ((hlg.2.2 k (by omega)).2.2.1) dX6_judged_28 ?_
          refine js_istore (L' := [some (.ref 0), some (.int (nI k)), some (.int (nI (li k))), some (.int (nI (tr k))), some (.int (nI (mi k))), none]) dX6_judged_29 rfl (Nat.le_of_ble_eq_true rfl) ?_
          refine js_aload_n 0 rfl dX6_judged_31 rfl ?_
          refine js_getr 3 jw_f_RX6_33 (jl_0 hB) rfl (Nat.le_of_ble_eq_true rfl) rfl dX6_judged_32 ?_
          refine js_getNr 4 jw_n_RX6_258 (jl_35 hB) rfl (Nat.le_of_ble_eq_true rfl) rfl dX6_judged_35 ?_
          refine js_iload_n 1 rfl dX6_judged_38 rfl ?_
          refine js_iald k rfl (jl_39 hB) (by omega) (by decide) ((hlg.2.2 k (by omega)).2.2.2.1) dX6_judged_39 ?_
          refine js_bipush (v := nI 30) dX6_judged_40 (by decide) ?_
          refine js_icmp_ge 47 dX6_judged_42 (by decide) (fun _ => ?_) (fun h9 => absurd h9 (fun q => q hc0))
          refine js_aload_n 0 rfl dX6_judged_47 rfl ?_
          refine js_getr 0 jw_f_RX6_12 (jl_0 hB) rfl (Nat.le_of_ble_eq_true rfl) rfl dX6_judged_48 ?_
          refine js_iload_n 3 rfl dX6_judged_51 rfl ?_
          refine js_aload_n 0 rfl dX6_judged_52 rfl ?_
          refine js_getr 2 jw_f_RX6_26 (jl_0 hB) rfl (Nat.le_of_ble_eq_true rfl) rfl dX6_judged_53 ?_
          refine js_getNr 1 jw_n_RX6_169 (jl_20 hB) rfl (Nat.le_of_ble_eq_true rfl) rfl dX6_judged_56 ?_
          refine js_iload_n 2 rfl dX6_judged_59 rfl ?_
          refine js_iald ((li k)) rfl (jl_21 hB) (by omega) (by decide) ((hau.2.2.1 _ hli).1) dX6_judged_60 ?_
          refine js_iload dX6_judged_61 rfl ?_
          refine js_callVN (av := [.int (nI (tr k)), .int (nI (ld ((li k)))), .int (nI (mi k))]) (st := []) (b := 1) hct (Or.inl rfl) jw_c_X2_isAllowed jw_i_RX2 jw_h_RX6_172 jw_s_X2_isAllowed jw_e_X2_isAllowed (jl_1 hB) rfl jw_y_X2_isAllowed rfl ⟨(Nat.le_of_ble_eq_true rfl), (Nat.le_of_ble_eq_true rfl), (Nat.le_refl _), (Nat.le_refl _), (Nat.le_of_ble_eq_true rfl)⟩ dX6_judged_63 ?_
          refine js_st (st' := [.int (nI q)]) rfl ?_
          refine jn_if_ne 71 (by omega) dX6_judged_66 (by decide) (fun _ => ?_) (fun h9 => absurd h9 (by omega))
          refine js_aload_n 0 rfl dX6_judged_71 rfl ?_
          refine js_getr 0 jw_f_RX6_12 (jl_0 hB) rfl (Nat.le_of_ble_eq_true rfl) rfl dX6_judged_72 ?_
          refine js_iload_n 3 rfl dX6_judged_75 rfl ?_
          refine js_iload dX6_judged_76 rfl ?_
          refine js_callVN (av := [.int (nI (tr k)), .int (nI (mi k))]) (st := []) (b := 1) (ct_X2_isDownIn hB htk htr) (Or.inl rfl) jw_c_X2_isDownIn jw_i_RX2 jw_h_RX6_385 jw_s_X2_isDownIn jw_e_X2_isDownIn (jl_1 hB) rfl jw_y_X2_isDownIn rfl ⟨(Nat.le_of_ble_eq_true rfl), (Nat.le_of_ble_eq_true rfl), (Nat.le_refl _), (Nat.le_refl _), (Nat.le_of_ble_eq_true rfl)⟩ dX6_judged_78 ?_
          refine js_st (st' := [.int (nI 0)]) rfl ?_
          refine jn_if_eq 86 (by omega) dX6_judged_81 (by decide) (fun _ => ?_) (fun h9 => absurd h9 (by omega))
          refine js_aload_n 0 rfl dX6_judged_86 rfl ?_
          refine js_getr 2 jw_f_RX6_26 (jl_0 hB) rfl (Nat.le_of_ble_eq_true rfl) rfl dX6_judged_87 ?_
          refine js_getNr 3 jw_n_RX6_159 (jl_20 hB) rfl (Nat.le_of_ble_eq_true rfl) rfl dX6_judged_90 ?_
          refine js_iload_n 2 rfl dX6_judged_93 rfl ?_
          refine js_zald ((li k)) rfl (jl_23 hB) (by omega) (by decide) ((hfl _ hli).1) dX6_judged_94 ?_
          refine jn_if_eq 100 (by omega) dX6_judged_95 (by decide) (fun _ => ?_) (fun h9 => absurd h9 (by omega))
          refine js_aload_n 0 rfl dX6_judged_100 rfl ?_
          refine js_getr 4 jw_f_RX6_40 (jl_0 hB) rfl (Nat.le_of_ble_eq_true rfl) rfl dX6_judged_101 ?_
          refine js_getNr 2 jw_n_RX6_388 (jl_42 hB) rfl (Nat.le_of_ble_eq_true rfl) rfl dX6_judged_104 ?_
          refine js_iload_n 2 rfl dX6_judged_107 rfl ?_
          refine js_aald ((li k)) rfl (jl_61 hB) (by omega) (by decide) (jr_od _ (by omega)) dX6_judged_108 ?_
          refine js_aload_n 0 rfl dX6_judged_109 rfl ?_
          refine js_getr 0 jw_f_RX6_12 (jl_0 hB) rfl (Nat.le_of_ble_eq_true rfl) rfl dX6_judged_110 ?_
          refine js_getNr 1 jw_n_RX6_214 (jl_1 hB) rfl (Nat.le_of_ble_eq_true rfl) rfl dX6_judged_113 ?_
          refine js_iload_n 3 rfl dX6_judged_116 rfl ?_
          refine js_iald ((tr k)) rfl (jl_2 hB) (by omega) (by decide) ((htk.2.2 _ htr).1) dX6_judged_117 ?_
          refine js_iald ((rc ((tr k)))) rfl (jl_od hB _ (by omega)) (htk.2.2 _ htr).2.1 (by decide) ((hod _ (by omega) _ (htk.2.2 _ htr).2.1)) dX6_judged_118 ?_
          refine js_istore (L' := [some (.ref 0), some (.int (nI k)), some (.int (nI (li k))), some (.int (nI (tr k))), some (.int (nI (mi k))), some (.int (nI (od (li k) ((rc ((tr k)))))))]) dX6_judged_119 rfl (Nat.le_of_ble_eq_true rfl) ?_
          refine js_iload dX6_judged_121 rfl ?_
          refine js_iconst (v := nI 5) dX6_judged_123 (by decide) ?_
          refine jn_icmp_lt 131 (by omega) (by omega) dX6_judged_124 (by decide) (fun _ => ?_) (fun h9 => absurd h9 (by omega))
          refine js_iconst (v := nI 0) dX6_judged_131 (by decide) ?_
          exact jj_refl
        · refine ⟨5, by omega, by omega, ?_⟩
          refine jj_mkI RX6 .int (by decide) rfl (L := [some (.ref 0), some (.int (nI k)), none, none, none, none]) rfl rfl rfl ⟨132, [some (.ref 0), some (.int (nI k)), some (.int (nI (li k))), some (.int (nI (tr k))), some (.int (nI (mi k))), some (.int (nI (od (li k) ((rc ((tr k)))))))], dX6_judged_132, ?_⟩
          refine js_aload_n 0 rfl dX6_judged_0 rfl ?_
          refine js_getr 3 jw_f_RX6_33 (jl_0 hB) rfl (Nat.le_of_ble_eq_true rfl) rfl dX6_judged_1 ?_
          refine js_getNr 1 jw_n_RX6_249 (jl_35 hB) rfl (Nat.le_of_ble_eq_true rfl) rfl dX6_judged_4 ?_
          refine js_iload_n 1 rfl dX6_judged_7 rfl ?_
          refine js_iald k rfl (jl_36 hB) (by omega) (by decide) ((hlg.2.2 k (by omega)).1) dX6_judged_8 ?_
          refine js_istore_n (L' := [some (.ref 0), some (.int (nI k)), some (.int (nI (li k))), none, none, none]) 2 rfl dX6_judged_9 rfl (Nat.le_of_ble_eq_true rfl) ?_
          refine js_aload_n 0 rfl dX6_judged_10 rfl ?_
          refine js_getr 3 jw_f_RX6_33 (jl_0 hB) rfl (Nat.le_of_ble_eq_true rfl) rfl dX6_judged_11 ?_
          refine js_getNr 2 jw_n_RX6_252 (jl_35 hB) rfl (Nat.le_of_ble_eq_true rfl) rfl dX6_judged_14 ?_
          refine js_iload_n 1 rfl dX6_judged_17 rfl ?_
          refine js_iald k rfl (jl_37 hB) (by omega) (by decide) ((hlg.2.2 k (by omega)).2.1) dX6_judged_18 ?_
          refine js_istore_n (L' := [some (.ref 0), some (.int (nI k)), some (.int (nI (li k))), some (.int (nI (tr k))), none, none]) 3 rfl dX6_judged_19 rfl (Nat.le_of_ble_eq_true rfl) ?_
          refine js_aload_n 0 rfl dX6_judged_20 rfl ?_
          refine js_getr 3 jw_f_RX6_33 (jl_0 hB) rfl (Nat.le_of_ble_eq_true rfl) rfl dX6_judged_21 ?_
          refine js_getNr 3 jw_n_RX6_255 (jl_35 hB) rfl (Nat.le_of_ble_eq_true rfl) rfl dX6_judged_24 ?_
          refine js_iload_n 1 rfl dX6_judged_27 rfl ?_
          refine js_iald k rfl (jl_38 hB) (by omega) (by decide) ((hlg.2.2 k (by omega)).2.2.1) dX6_judged_28 ?_
          refine js_istore (L' := [some (.ref 0), some (.int (nI k)), some (.int (nI (li k))), some (.int (nI (tr k))), some (.int (nI (mi k))), none]) dX6_judged_29 rfl (Nat.le_of_ble_eq_true rfl) ?_
          refine js_aload_n 0 rfl dX6_judged_31 rfl ?_
          refine js_getr 3 jw_f_RX6_33 (jl_0 hB) rfl (Nat.le_of_ble_eq_true rfl) rfl dX6_judged_32 ?_
          refine js_getNr 4 jw_n_RX6_258 (jl_35 hB) rfl (Nat.le_of_ble_eq_true rfl) rfl dX6_judged_35 ?_
          refine js_iload_n 1 rfl dX6_judged_38 rfl ?_
          refine js_iald k rfl (jl_39 hB) (by omega) (by decide) ((hlg.2.2 k (by omega)).2.2.2.1) dX6_judged_39 ?_
          refine js_bipush (v := nI 30) dX6_judged_40 (by decide) ?_
          refine js_icmp_ge 47 dX6_judged_42 (by decide) (fun _ => ?_) (fun h9 => absurd h9 (fun q => q hc0))
          refine js_aload_n 0 rfl dX6_judged_47 rfl ?_
          refine js_getr 0 jw_f_RX6_12 (jl_0 hB) rfl (Nat.le_of_ble_eq_true rfl) rfl dX6_judged_48 ?_
          refine js_iload_n 3 rfl dX6_judged_51 rfl ?_
          refine js_aload_n 0 rfl dX6_judged_52 rfl ?_
          refine js_getr 2 jw_f_RX6_26 (jl_0 hB) rfl (Nat.le_of_ble_eq_true rfl) rfl dX6_judged_53 ?_
          refine js_getNr 1 jw_n_RX6_169 (jl_20 hB) rfl (Nat.le_of_ble_eq_true rfl) rfl dX6_judged_56 ?_
          refine js_iload_n 2 rfl dX6_judged_59 rfl ?_
          refine js_iald ((li k)) rfl (jl_21 hB) (by omega) (by decide) ((hau.2.2.1 _ hli).1) dX6_judged_60 ?_
          refine js_iload dX6_judged_61 rfl ?_
          refine js_callVN (av := [.int (nI (tr k)), .int (nI (ld ((li k)))), .int (nI (mi k))]) (st := []) (b := 1) hct (Or.inl rfl) jw_c_X2_isAllowed jw_i_RX2 jw_h_RX6_172 jw_s_X2_isAllowed jw_e_X2_isAllowed (jl_1 hB) rfl jw_y_X2_isAllowed rfl ⟨(Nat.le_of_ble_eq_true rfl), (Nat.le_of_ble_eq_true rfl), (Nat.le_refl _), (Nat.le_refl _), (Nat.le_of_ble_eq_true rfl)⟩ dX6_judged_63 ?_
          refine js_st (st' := [.int (nI q)]) rfl ?_
          refine jn_if_ne 71 (by omega) dX6_judged_66 (by decide) (fun _ => ?_) (fun h9 => absurd h9 (by omega))
          refine js_aload_n 0 rfl dX6_judged_71 rfl ?_
          refine js_getr 0 jw_f_RX6_12 (jl_0 hB) rfl (Nat.le_of_ble_eq_true rfl) rfl dX6_judged_72 ?_
          refine js_iload_n 3 rfl dX6_judged_75 rfl ?_
          refine js_iload dX6_judged_76 rfl ?_
          refine js_callVN (av := [.int (nI (tr k)), .int (nI (mi k))]) (st := []) (b := 1) (ct_X2_isDownIn hB htk htr) (Or.inl rfl) jw_c_X2_isDownIn jw_i_RX2 jw_h_RX6_385 jw_s_X2_isDownIn jw_e_X2_isDownIn (jl_1 hB) rfl jw_y_X2_isDownIn rfl ⟨(Nat.le_of_ble_eq_true rfl), (Nat.le_of_ble_eq_true rfl), (Nat.le_refl _), (Nat.le_refl _), (Nat.le_of_ble_eq_true rfl)⟩ dX6_judged_78 ?_
          refine js_st (st' := [.int (nI 0)]) rfl ?_
          refine jn_if_eq 86 (by omega) dX6_judged_81 (by decide) (fun _ => ?_) (fun h9 => absurd h9 (by omega))
          refine js_aload_n 0 rfl dX6_judged_86 rfl ?_
          refine js_getr 2 jw_f_RX6_26 (jl_0 hB) rfl (Nat.le_of_ble_eq_true rfl) rfl dX6_judged_87 ?_
          refine js_getNr 3 jw_n_RX6_159 (jl_20 hB) rfl (Nat.le_of_ble_eq_true rfl) rfl dX6_judged_90 ?_
          refine js_iload_n 2 rfl dX6_judged_93 rfl ?_
          refine js_zald ((li k)) rfl (jl_23 hB) (by omega) (by decide) ((hfl _ hli).1) dX6_judged_94 ?_
          refine jn_if_eq 100 (by omega) dX6_judged_95 (by decide) (fun _ => ?_) (fun h9 => absurd h9 (by omega))
          refine js_aload_n 0 rfl dX6_judged_100 rfl ?_
          refine js_getr 4 jw_f_RX6_40 (jl_0 hB) rfl (Nat.le_of_ble_eq_true rfl) rfl dX6_judged_101 ?_
          refine js_getNr 2 jw_n_RX6_388 (jl_42 hB) rfl (Nat.le_of_ble_eq_true rfl) rfl dX6_judged_104 ?_
          refine js_iload_n 2 rfl dX6_judged_107 rfl ?_
          refine js_aald ((li k)) rfl (jl_61 hB) (by omega) (by decide) (jr_od _ (by omega)) dX6_judged_108 ?_
          refine js_aload_n 0 rfl dX6_judged_109 rfl ?_
          refine js_getr 0 jw_f_RX6_12 (jl_0 hB) rfl (Nat.le_of_ble_eq_true rfl) rfl dX6_judged_110 ?_
          refine js_getNr 1 jw_n_RX6_214 (jl_1 hB) rfl (Nat.le_of_ble_eq_true rfl) rfl dX6_judged_113 ?_
          refine js_iload_n 3 rfl dX6_judged_116 rfl ?_
          refine js_iald ((tr k)) rfl (jl_2 hB) (by omega) (by decide) ((htk.2.2 _ htr).1) dX6_judged_117 ?_
          refine js_iald ((rc ((tr k)))) rfl (jl_od hB _ (by omega)) (htk.2.2 _ htr).2.1 (by decide) ((hod _ (by omega) _ (htk.2.2 _ htr).2.1)) dX6_judged_118 ?_
          refine js_istore (L' := [some (.ref 0), some (.int (nI k)), some (.int (nI (li k))), some (.int (nI (tr k))), some (.int (nI (mi k))), some (.int (nI (od (li k) ((rc ((tr k)))))))]) dX6_judged_119 rfl (Nat.le_of_ble_eq_true rfl) ?_
          refine js_iload dX6_judged_121 rfl ?_
          refine js_iconst (v := nI 5) dX6_judged_123 (by decide) ?_
          refine jn_icmp_lt 131 (by omega) (by omega) dX6_judged_124 (by decide) (fun h9 => absurd h9 (by omega)) (fun _ => ?_)
          refine js_iconst (v := nI 5) dX6_judged_127 (by decide) ?_
          refine js_goto 132 dX6_judged_128 (by decide) ?_
          exact jj_refl
      · refine ⟨4, by omega, by omega, ?_⟩
        refine jj_mkI RX6 .int (by decide) rfl (L := [some (.ref 0), some (.int (nI k)), none, none, none, none]) rfl rfl rfl ⟨99, [some (.ref 0), some (.int (nI k)), some (.int (nI (li k))), some (.int (nI (tr k))), some (.int (nI (mi k))), none], dX6_judged_99, ?_⟩
        refine js_aload_n 0 rfl dX6_judged_0 rfl ?_
        refine js_getr 3 jw_f_RX6_33 (jl_0 hB) rfl (Nat.le_of_ble_eq_true rfl) rfl dX6_judged_1 ?_
        refine js_getNr 1 jw_n_RX6_249 (jl_35 hB) rfl (Nat.le_of_ble_eq_true rfl) rfl dX6_judged_4 ?_
        refine js_iload_n 1 rfl dX6_judged_7 rfl ?_
        refine js_iald k rfl (jl_36 hB) (by omega) (by decide) ((hlg.2.2 k (by omega)).1) dX6_judged_8 ?_
        refine js_istore_n (L' := [some (.ref 0), some (.int (nI k)), some (.int (nI (li k))), none, none, none]) 2 rfl dX6_judged_9 rfl (Nat.le_of_ble_eq_true rfl) ?_
        refine js_aload_n 0 rfl dX6_judged_10 rfl ?_
        refine js_getr 3 jw_f_RX6_33 (jl_0 hB) rfl (Nat.le_of_ble_eq_true rfl) rfl dX6_judged_11 ?_
        refine js_getNr 2 jw_n_RX6_252 (jl_35 hB) rfl (Nat.le_of_ble_eq_true rfl) rfl dX6_judged_14 ?_
        refine js_iload_n 1 rfl dX6_judged_17 rfl ?_
        refine js_iald k rfl (jl_37 hB) (by omega) (by decide) ((hlg.2.2 k (by omega)).2.1) dX6_judged_18 ?_
        refine js_istore_n (L' := [some (.ref 0), some (.int (nI k)), some (.int (nI (li k))), some (.int (nI (tr k))), none, none]) 3 rfl dX6_judged_19 rfl (Nat.le_of_ble_eq_true rfl) ?_
        refine js_aload_n 0 rfl dX6_judged_20 rfl ?_
        refine js_getr 3 jw_f_RX6_33 (jl_0 hB) rfl (Nat.le_of_ble_eq_true rfl) rfl dX6_judged_21 ?_
        refine js_getNr 3 jw_n_RX6_255 (jl_35 hB) rfl (Nat.le_of_ble_eq_true rfl) rfl dX6_judged_24 ?_
        refine js_iload_n 1 rfl dX6_judged_27 rfl ?_
        refine js_iald k rfl (jl_38 hB) (by omega) (by decide) ((hlg.2.2 k (by omega)).2.2.1) dX6_judged_28 ?_
        refine js_istore (L' := [some (.ref 0), some (.int (nI k)), some (.int (nI (li k))), some (.int (nI (tr k))), some (.int (nI (mi k))), none]) dX6_judged_29 rfl (Nat.le_of_ble_eq_true rfl) ?_
        refine js_aload_n 0 rfl dX6_judged_31 rfl ?_
        refine js_getr 3 jw_f_RX6_33 (jl_0 hB) rfl (Nat.le_of_ble_eq_true rfl) rfl dX6_judged_32 ?_
        refine js_getNr 4 jw_n_RX6_258 (jl_35 hB) rfl (Nat.le_of_ble_eq_true rfl) rfl dX6_judged_35 ?_
        refine js_iload_n 1 rfl dX6_judged_38 rfl ?_
        refine js_iald k rfl (jl_39 hB) (by omega) (by decide) ((hlg.2.2 k (by omega)).2.2.2.1) dX6_judged_39 ?_
        refine js_bipush (v := nI 30) dX6_judged_40 (by decide) ?_
        refine js_icmp_ge 47 dX6_judged_42 (by decide) (fun _ => ?_) (fun h9 => absurd h9 (fun q => q hc0))
        refine js_aload_n 0 rfl dX6_judged_47 rfl ?_
        refine js_getr 0 jw_f_RX6_12 (jl_0 hB) rfl (Nat.le_of_ble_eq_true rfl) rfl dX6_judged_48 ?_
        refine js_iload_n 3 rfl dX6_judged_51 rfl ?_
        refine js_aload_n 0 rfl dX6_judged_52 rfl ?_
        refine js_getr 2 jw_f_RX6_26 (jl_0 hB) rfl (Nat.le_of_ble_eq_true rfl) rfl dX6_judged_53 ?_
        refine js_getNr 1 jw_n_RX6_169 (jl_20 hB) rfl (Nat.le_of_ble_eq_true rfl) rfl dX6_judged_56 ?_
        refine js_iload_n 2 rfl dX6_judged_59 rfl ?_
        refine js_iald ((li k)) rfl (jl_21 hB) (by omega) (by decide) ((hau.2.2.1 _ hli).1) dX6_judged_60 ?_
        refine js_iload dX6_judged_61 rfl ?_
        refine js_callVN (av := [.int (nI (tr k)), .int (nI (ld ((li k)))), .int (nI (mi k))]) (st := []) (b := 1) hct (Or.inl rfl) jw_c_X2_isAllowed jw_i_RX2 jw_h_RX6_172 jw_s_X2_isAllowed jw_e_X2_isAllowed (jl_1 hB) rfl jw_y_X2_isAllowed rfl ⟨(Nat.le_of_ble_eq_true rfl), (Nat.le_of_ble_eq_true rfl), (Nat.le_refl _), (Nat.le_refl _), (Nat.le_of_ble_eq_true rfl)⟩ dX6_judged_63 ?_
        refine js_st (st' := [.int (nI q)]) rfl ?_
        refine jn_if_ne 71 (by omega) dX6_judged_66 (by decide) (fun _ => ?_) (fun h9 => absurd h9 (by omega))
        refine js_aload_n 0 rfl dX6_judged_71 rfl ?_
        refine js_getr 0 jw_f_RX6_12 (jl_0 hB) rfl (Nat.le_of_ble_eq_true rfl) rfl dX6_judged_72 ?_
        refine js_iload_n 3 rfl dX6_judged_75 rfl ?_
        refine js_iload dX6_judged_76 rfl ?_
        refine js_callVN (av := [.int (nI (tr k)), .int (nI (mi k))]) (st := []) (b := 1) (ct_X2_isDownIn hB htk htr) (Or.inl rfl) jw_c_X2_isDownIn jw_i_RX2 jw_h_RX6_385 jw_s_X2_isDownIn jw_e_X2_isDownIn (jl_1 hB) rfl jw_y_X2_isDownIn rfl ⟨(Nat.le_of_ble_eq_true rfl), (Nat.le_of_ble_eq_true rfl), (Nat.le_refl _), (Nat.le_refl _), (Nat.le_of_ble_eq_true rfl)⟩ dX6_judged_78 ?_
        refine js_st (st' := [.int (nI 0)]) rfl ?_
        refine jn_if_eq 86 (by omega) dX6_judged_81 (by decide) (fun _ => ?_) (fun h9 => absurd h9 (by omega))
        refine js_aload_n 0 rfl dX6_judged_86 rfl ?_
        refine js_getr 2 jw_f_RX6_26 (jl_0 hB) rfl (Nat.le_of_ble_eq_true rfl) rfl dX6_judged_87 ?_
        refine js_getNr 3 jw_n_RX6_159 (jl_20 hB) rfl (Nat.le_of_ble_eq_true rfl) rfl dX6_judged_90 ?_
        refine js_iload_n 2 rfl dX6_judged_93 rfl ?_
        refine js_zald ((li k)) rfl (jl_23 hB) (by omega) (by decide) ((hfl _ hli).1) dX6_judged_94 ?_
        refine jn_if_eq 100 (by omega) dX6_judged_95 (by decide) (fun h9 => absurd h9 (by omega)) (fun _ => ?_)
        refine js_iconst (v := nI 4) dX6_judged_98 (by decide) ?_
        exact jj_refl
  · refine ⟨1, by omega, by omega, ?_⟩
    refine jj_mkI RX6 .int (by decide) rfl (L := [some (.ref 0), some (.int (nI k)), none, none, none, none]) rfl rfl rfl ⟨46, [some (.ref 0), some (.int (nI k)), some (.int (nI (li k))), some (.int (nI (tr k))), some (.int (nI (mi k))), none], dX6_judged_46, ?_⟩
    refine js_aload_n 0 rfl dX6_judged_0 rfl ?_
    refine js_getr 3 jw_f_RX6_33 (jl_0 hB) rfl (Nat.le_of_ble_eq_true rfl) rfl dX6_judged_1 ?_
    refine js_getNr 1 jw_n_RX6_249 (jl_35 hB) rfl (Nat.le_of_ble_eq_true rfl) rfl dX6_judged_4 ?_
    refine js_iload_n 1 rfl dX6_judged_7 rfl ?_
    refine js_iald k rfl (jl_36 hB) (by omega) (by decide) ((hlg.2.2 k (by omega)).1) dX6_judged_8 ?_
    refine js_istore_n (L' := [some (.ref 0), some (.int (nI k)), some (.int (nI (li k))), none, none, none]) 2 rfl dX6_judged_9 rfl (Nat.le_of_ble_eq_true rfl) ?_
    refine js_aload_n 0 rfl dX6_judged_10 rfl ?_
    refine js_getr 3 jw_f_RX6_33 (jl_0 hB) rfl (Nat.le_of_ble_eq_true rfl) rfl dX6_judged_11 ?_
    refine js_getNr 2 jw_n_RX6_252 (jl_35 hB) rfl (Nat.le_of_ble_eq_true rfl) rfl dX6_judged_14 ?_
    refine js_iload_n 1 rfl dX6_judged_17 rfl ?_
    refine js_iald k rfl (jl_37 hB) (by omega) (by decide) ((hlg.2.2 k (by omega)).2.1) dX6_judged_18 ?_
    refine js_istore_n (L' := [some (.ref 0), some (.int (nI k)), some (.int (nI (li k))), some (.int (nI (tr k))), none, none]) 3 rfl dX6_judged_19 rfl (Nat.le_of_ble_eq_true rfl) ?_
    refine js_aload_n 0 rfl dX6_judged_20 rfl ?_
    refine js_getr 3 jw_f_RX6_33 (jl_0 hB) rfl (Nat.le_of_ble_eq_true rfl) rfl dX6_judged_21 ?_
    refine js_getNr 3 jw_n_RX6_255 (jl_35 hB) rfl (Nat.le_of_ble_eq_true rfl) rfl dX6_judged_24 ?_
    refine js_iload_n 1 rfl dX6_judged_27 rfl ?_
    refine js_iald k rfl (jl_38 hB) (by omega) (by decide) ((hlg.2.2 k (by omega)).2.2.1) dX6_judged_28 ?_
    refine js_istore (L' := [some (.ref 0), some (.int (nI k)), some (.int (nI (li k))), some (.int (nI (tr k))), some (.int (nI (mi k))), none]) dX6_judged_29 rfl (Nat.le_of_ble_eq_true rfl) ?_
    refine js_aload_n 0 rfl dX6_judged_31 rfl ?_
    refine js_getr 3 jw_f_RX6_33 (jl_0 hB) rfl (Nat.le_of_ble_eq_true rfl) rfl dX6_judged_32 ?_
    refine js_getNr 4 jw_n_RX6_258 (jl_35 hB) rfl (Nat.le_of_ble_eq_true rfl) rfl dX6_judged_35 ?_
    refine js_iload_n 1 rfl dX6_judged_38 rfl ?_
    refine js_iald k rfl (jl_39 hB) (by omega) (by decide) ((hlg.2.2 k (by omega)).2.2.2.1) dX6_judged_39 ?_
    refine js_bipush (v := nI 30) dX6_judged_40 (by decide) ?_
    refine js_icmp_ge 47 dX6_judged_42 (by decide) (fun h9 => absurd h9 hc0) (fun _ => ?_)
    refine js_iconst (v := nI 1) dX6_judged_45 (by decide) ?_
    exact jj_refl

/-! CHANGES, with judging: window, flag, play. -/
set_option maxRecDepth 100000 in
set_option maxHeartbeats 4000000 in
theorem J_window {lay : jj_Lay} {S : jj_Mem} {P : jj_P} (hB : jj_pp lay) (h : jj_J S P) (hK : jj_K P) (hT : jj_T P) {u q a c : Nat} (hu : u < P.nt) (hq : q < 4) (ha : a ≤ c) (hc : c ≤ 99999) (h30 : P.wn < 30) :
    ∃ (v9 : Int32) (S' : jj_Mem) (P' : jj_P), jj_CT yX6_window (.code yX6_window cX6_window 5 (some .int)) none 4 93 [.ref 0, .int (nI u), .int (nI q), .int (nI a), .int (nI c)] lay S (some (.int v9)) lay S' ∧ jj_J S' P' ∧ jj_K P' ∧ jj_T P' ∧ jj_E P P' ∧ P'.n = P.n ∧ P'.t = P.t ∧ P'.nt = P.nt ∧ P'.cnt = P.cnt ∧ P'.pl = P.pl ∧ P'.rc = P.rc ∧ P'.wn = P.wn + 1 ∧ (∀ p, 103 < p → ∀ j, S' p j = S p j) := by
  have h14 := h.tk.1
  have F : ∀ p, p = 0 ∨ p = 2 ∨ p = 3 ∨ 7 < p → ∀ j, (jj_w (jj_w (jj_w (jj_w (jj_w S 4 P.wn (nI u)) 5 P.wn (nI q)) 6 P.wn (nI a)) 7 P.wn (nI c)) 1 3 (nI (P.wn + 1))) p j = S p j := fun p hp j => (jj_w_neP (by omega)).trans ((jj_w_neP (by omega)).trans ((jj_w_neP (by omega)).trans ((jj_w_neP (by omega)).trans (jj_w_neP (by omega)))))
  have G : ∀ j, j < P.wn + 1 → (jj_w (jj_w (jj_w (jj_w (jj_w S 4 P.wn (nI u)) 5 P.wn (nI q)) 6 P.wn (nI a)) 7 P.wn (nI c)) 1 3 (nI (P.wn + 1))) 4 j = some (jj_ux P.w0 P.wn (nI u) j) ∧ (jj_w (jj_w (jj_w (jj_w (jj_w S 4 P.wn (nI u)) 5 P.wn (nI q)) 6 P.wn (nI a)) 7 P.wn (nI c)) 1 3 (nI (P.wn + 1))) 5 j = some (jj_ux P.w1 P.wn (nI q) j) ∧ (jj_w (jj_w (jj_w (jj_w (jj_w S 4 P.wn (nI u)) 5 P.wn (nI q)) 6 P.wn (nI a)) 7 P.wn (nI c)) 1 3 (nI (P.wn + 1))) 6 j = some (jj_ux P.w2 P.wn (nI a) j) ∧ (jj_w (jj_w (jj_w (jj_w (jj_w S 4 P.wn (nI u)) 5 P.wn (nI q)) 6 P.wn (nI a)) 7 P.wn (nI c)) 1 3 (nI (P.wn + 1))) 7 j = some (jj_ux P.w3 P.wn (nI c) j) := fun j hj => by
    by_cases c9 : j = P.wn
    · rw [c9, jj_ux_at, jj_ux_at, jj_ux_at, jj_ux_at]
      exact ⟨(jj_w_neP (by omega)).trans ((jj_w_neP (by omega)).trans ((jj_w_neP (by omega)).trans ((jj_w_neP (by omega)).trans (jj_w_at _ _ _ _)))), (jj_w_neP (by omega)).trans ((jj_w_neP (by omega)).trans ((jj_w_neP (by omega)).trans (jj_w_at _ _ _ _))), (jj_w_neP (by omega)).trans ((jj_w_neP (by omega)).trans (jj_w_at _ _ _ _)), (jj_w_neP (by omega)).trans (jj_w_at _ _ _ _)⟩
    · have hj2 : j < P.wn := by omega
      rw [jj_ux_ne P.w0 c9, jj_ux_ne P.w1 c9, jj_ux_ne P.w2 c9, jj_ux_ne P.w3 c9]
      exact ⟨(jj_w_neP (by omega)).trans ((jj_w_neP (by omega)).trans ((jj_w_neP (by omega)).trans ((jj_w_neP (by omega)).trans ((jj_w_neI c9).trans ((h.wi.2.2 j hj2).1))))), (jj_w_neP (by omega)).trans ((jj_w_neP (by omega)).trans ((jj_w_neP (by omega)).trans ((jj_w_neI c9).trans ((jj_w_neP (by omega)).trans ((h.wi.2.2 j hj2).2.1))))), (jj_w_neP (by omega)).trans ((jj_w_neP (by omega)).trans ((jj_w_neI c9).trans ((jj_w_neP (by omega)).trans ((jj_w_neP (by omega)).trans ((h.wi.2.2 j hj2).2.2.1))))), (jj_w_neP (by omega)).trans ((jj_w_neI c9).trans ((jj_w_neP (by omega)).trans ((jj_w_neP (by omega)).trans ((jj_w_neP (by omega)).trans ((h.wi.2.2 j hj2).2.2.2)))))⟩
  have h1 : jj_J (jj_w (jj_w (jj_w (jj_w (jj_w S 4 P.wn (nI u)) 5 P.wn (nI q)) 6 P.wn (nI a)) 7 P.wn (nI c)) 1 3 (nI (P.wn + 1))) (jj_mkP P.n P.t P.nt (P.wn + 1) P.cnt P.h P.x P.li P.tr P.mi P.rs P.rc P.ld P.pl P.fl P.ca P.ge P.he P.du P.pa P.ad P.re P.pe P.se (jj_ux P.w0 P.wn (nI u)) (jj_ux P.w1 P.wn (nI q)) (jj_ux P.w2 P.wn (nI a)) (jj_ux P.w3 P.wn (nI c)) P.ev P.im P.od P.cl) := ⟨jj_lg_mono h.lg (fun p h1 h2 j => F p (by omega) j), ⟨h.tk.1, (jj_w_neI (by omega)).trans ((jj_w_neP (by omega)).trans ((jj_w_neP (by omega)).trans ((jj_w_neP (by omega)).trans ((jj_w_neP (by omega)).trans h.tk.2.1)))), fun j hj => ⟨(F 2 (by omega) j).trans (h.tk.2.2 j hj).1, (h.tk.2.2 j hj).2.1, (F 3 (by omega) j).trans (h.tk.2.2 j hj).2.2⟩⟩, ⟨(show P.wn + 1 ≤ 30 by omega), jj_w_at _ _ _ _, G⟩, ⟨h.au.1, (F 20 (by omega) 0).trans h.au.2.1, fun j hj => ⟨(F 21 (by omega) j).trans (h.au.2.2.1 j hj).1, (h.au.2.2.1 j hj).2⟩, fun j hj => ⟨(F 22 (by omega) j).trans (h.au.2.2.2 j hj).1, (h.au.2.2.2 j hj).2⟩⟩, fun j hj => ⟨(F 23 (by omega) j).trans (h.fl j hj).1, (h.fl j hj).2⟩, (F 0 (by omega) 9).trans h.now, (F 0 (by omega) 10).trans h.ru, jj_rw8_mono h.ev (fun p h1 h2 j => F p (by omega) j), jj_rw8_mono h.im (fun p h1 h2 j => F p (by omega) j), jj_rw8_mono h.od (fun p h1 h2 j => F p (by omega) j), fun a ha j hj => ⟨(F (10 + a) (by omega) j).trans (h.cm a ha j hj).1, (h.cm a ha j hj).2⟩, jj_bs_mono h.bs (fun p h1 h2 j => F p (by omega) j), fun j hj => (F 24 (by omega) j).trans (h.pe j hj), fun j hj => (F 25 (by omega) j).trans (h.kc j hj), fun j a1 a2 => (F 40 (by omega) j).trans (h.z40 j a1 a2), h.ht, h.hli, h.htr, h.hmt, h.hmo, h.r5, h.ad0⟩
  obtain ⟨rs', ev', im', od', S', hct, hJ, hK', hcl, f⟩ := J_judge (lay := lay) hB h1 (fun l u d _ => hK.2.2 l u d)
  refine ⟨nI (P.wn + 1), S', _, ?_, hJ, hK', hT, ⟨Nat.le_refl _, Nat.le_refl _, fun _ _ => rfl, hcl⟩, rfl, rfl, rfl, rfl, rfl, rfl, rfl, fun p hp j => (f p (by omega) j).trans (F p (by omega) j)⟩
  refine jj_mkI RX6 .int (by decide) rfl (L := [some (.ref 0), some (.int (nI u)), some (.int (nI q)), some (.int (nI a)), some (.int (nI c))]) rfl rfl rfl ⟨97, [some (.ref 0), some (.int (nI u)), some (.int (nI q)), some (.int (nI a)), some (.int (nI c))], dX6_window_97, ?_⟩
  refine js_aload_n 0 rfl dX6_window_0 rfl ?_
  refine js_iload_n 1 rfl dX6_window_1 rfl ?_
  refine js_callV (av := [.int (nI u)]) (st := []) (b := 0) (ct_X6_needTrack hB hu (by omega) h.tk.2.1) (Or.inl rfl) jw_c_X6_needTrack jw_i_RX6 jw_m_RX6_86 jw_s_X6_needTrack jw_e_X6_needTrack (jl_0 hB) rfl jw_y_X6_needTrack rfl ⟨(Nat.le_of_ble_eq_true rfl), (Nat.le_of_ble_eq_true rfl), (Nat.le_refl _), (Nat.le_refl _), (Nat.le_of_ble_eq_true rfl)⟩ dX6_window_2 ?_
  refine js_st (st' := []) rfl ?_
  refine js_iload_n 2 rfl dX6_window_5 rfl ?_
  refine js_callS (av := [.int (nI q)]) (st := []) (ct_X6_needLand hq) (Or.inl rfl) jw_c_X6_needLand jw_i_RX6 jw_m_RX6_89 jw_s_X6_needLand jw_y_X6_needLand rfl ⟨(Nat.le_of_ble_eq_true rfl), (Nat.le_of_ble_eq_true rfl), (Nat.le_refl _), (Nat.le_refl _), (Nat.le_of_ble_eq_true rfl)⟩ dX6_window_6 ?_
  refine js_st (st' := []) rfl ?_
  refine js_iload_n 3 rfl dX6_window_9 rfl ?_
  refine jn_if_lt 19 (by omega) dX6_window_10 (by decide) (fun h9 => absurd h9 (by omega)) (fun _ => ?_)
  refine js_iload_n 3 rfl dX6_window_13 rfl ?_
  refine js_ldc dX6_window_14 jw_k_RX6_92 ?_
  refine js_top (y := nI 99999) (by decide) ?_
  refine jn_icmp_le 29 (by omega) (by omega) dX6_window_16 (by decide) (fun _ => ?_) (fun h9 => absurd h9 (by omega))
  refine js_iload dX6_window_29 rfl ?_
  refine js_iload_n 3 rfl dX6_window_31 rfl ?_
  refine jn_icmp_lt 42 (by omega) (by omega) dX6_window_32 (by decide) (fun h9 => absurd h9 (by omega)) (fun _ => ?_)
  refine js_iload dX6_window_35 rfl ?_
  refine js_ldc dX6_window_37 jw_k_RX6_92 ?_
  refine js_top (y := nI 99999) (by decide) ?_
  refine jn_icmp_le 52 (by omega) (by omega) dX6_window_39 (by decide) (fun _ => ?_) (fun h9 => absurd h9 (by omega))
  refine js_aload_n 0 rfl dX6_window_52 rfl ?_
  refine js_getr 0 jw_f_RX6_12 (jl_0 hB) rfl (Nat.le_of_ble_eq_true rfl) rfl dX6_window_53 ?_
  refine js_getNi 3 jw_n_RX6_100 (jl_1 hB) rfl (Nat.le_of_ble_eq_true rfl) rfl (h.wi.2.1) dX6_window_56 ?_
  refine js_bipush (v := nI 30) dX6_window_59 (by decide) ?_
  refine jn_icmp_lt 74 (by omega) (by omega) dX6_window_61 (by decide) (fun _ => ?_) (fun h9 => absurd h9 (by omega))
  refine js_aload_n 0 rfl dX6_window_74 rfl ?_
  refine js_getr 0 jw_f_RX6_12 (jl_0 hB) rfl (Nat.le_of_ble_eq_true rfl) rfl dX6_window_75 ?_
  refine js_iload_n 1 rfl dX6_window_78 rfl ?_
  refine js_iload_n 2 rfl dX6_window_79 rfl ?_
  refine js_iload_n 3 rfl dX6_window_80 rfl ?_
  refine js_iload dX6_window_81 rfl ?_
  refine js_callVN (av := [.int (nI u), .int (nI q), .int (nI a), .int (nI c)]) (st := []) (b := 1) (ct_X2_addWindow hB h.wi.2.1 h30) (Or.inl rfl) jw_c_X2_addWindow jw_i_RX2 jw_h_RX6_105 jw_s_X2_addWindow jw_e_X2_addWindow (jl_1 hB) rfl jw_y_X2_addWindow rfl ⟨(Nat.le_of_ble_eq_true rfl), (Nat.le_of_ble_eq_true rfl), (Nat.le_refl _), (Nat.le_refl _), (Nat.le_of_ble_eq_true rfl)⟩ dX6_window_83 ?_
  refine js_st (st' := []) rfl ?_
  refine js_aload_n 0 rfl dX6_window_86 rfl ?_
  refine js_callV (av := []) (st := []) (b := 0) hct (Or.inl rfl) jw_c_X6_judgePlays jw_i_RX6 jw_m_RX6_109 jw_s_X6_judgePlays jw_e_X6_judgePlays (jl_0 hB) rfl jw_y_X6_judgePlays rfl ⟨(Nat.le_of_ble_eq_true rfl), (Nat.le_of_ble_eq_true rfl), (Nat.le_refl _), (Nat.le_refl _), (Nat.le_of_ble_eq_true rfl)⟩ dX6_window_87 ?_
  refine js_st (st' := []) rfl ?_
  refine js_aload_n 0 rfl dX6_window_90 rfl ?_
  refine js_getr 0 jw_f_RX6_12 (jl_0 hB) rfl (Nat.le_of_ble_eq_true rfl) rfl dX6_window_91 ?_
  refine js_getNi 3 jw_n_RX6_100 (jl_1 hB) rfl (Nat.le_of_ble_eq_true rfl) rfl (hJ.wi.2.1) dX6_window_94 ?_
  exact jj_refl
set_option maxRecDepth 100000 in
set_option maxHeartbeats 4000000 in
theorem J_flag {lay : jj_Lay} {S : jj_Mem} {P : jj_P} (hB : jj_pp lay) (h : jj_J S P) (hK : jj_K P) (hT : jj_T P) {l v : Nat} (hl : l < P.cnt) (hv : v ≤ 1) :
    ∃ (v9 : Int32) (S' : jj_Mem) (P' : jj_P), jj_CT yX6_flag (.code yX6_flag cX6_flag 4 (some .boolean)) none 4 93 [.ref 0, .int (nI l), .int (nI v)] lay S (some (.int v9)) lay S' ∧ jj_J S' P' ∧ jj_K P' ∧ jj_T P' ∧ jj_E P P' ∧ P'.n = P.n ∧ P'.t = P.t ∧ P'.nt = P.nt ∧ P'.wn = P.wn ∧ P'.cnt = P.cnt ∧ P'.pl = P.pl ∧ P'.rc = P.rc ∧ (∀ p, 103 < p → ∀ j, S' p j = S p j) := by
  have h8 := h.au.1
  have hnv : vp_nar .boolean (nI v) = nI v := by rcases (show v = 0 ∨ v = 1 by omega) with rfl | rfl <;> rfl
  have hf1 := (h.fl l (by omega)).2
  have hnf : narrow .boolean (.int (nI (P.fl l))) = .int (nI (P.fl l)) := by
    rcases (show P.fl l = 0 ∨ P.fl l = 1 by omega) with e | e <;> rw [e] <;> rfl
  have F : ∀ p, p ≠ 23 → ∀ j, (jj_w S 23 l (nI v)) p j = S p j := fun p hp j => jj_w_neP hp
  have hfl1 : ∀ j, j < 8 → (jj_w S 23 l (nI v)) 23 j = some (nI (jj_up P.fl l v j)) ∧ jj_up P.fl l v j ≤ 1 := fun j hj => by
    unfold jj_up jj_w
    by_cases c : j = l
    · rw [if_pos ⟨rfl, c⟩, if_pos c]; exact ⟨rfl, hv⟩
    · rw [if_neg (fun w => c w.2), if_neg c]; exact h.fl j hj
  have h1 : jj_J (jj_w S 23 l (nI v)) (jj_mkP P.n P.t P.nt P.wn P.cnt P.h P.x P.li P.tr P.mi P.rs P.rc P.ld P.pl (jj_up P.fl l v) P.ca P.ge P.he P.du P.pa P.ad P.re P.pe P.se P.w0 P.w1 P.w2 P.w3 P.ev P.im P.od P.cl) := ⟨jj_lg_mono h.lg (fun p h1 h2 j => F p (by omega) j), jj_tk_mono h.tk (fun p h1 h2 j => F p (by omega) j), jj_wi_mono h.wi (fun p h1 h2 j => F p (by omega) j), ⟨h.au.1, (F 20 (by omega) 0).trans h.au.2.1, fun j hj => ⟨(F 21 (by omega) j).trans (h.au.2.2.1 j hj).1, (h.au.2.2.1 j hj).2⟩, fun j hj => ⟨(F 22 (by omega) j).trans (h.au.2.2.2 j hj).1, (h.au.2.2.2 j hj).2⟩⟩, hfl1, (F 0 (by omega) 9).trans h.now, (F 0 (by omega) 10).trans h.ru, jj_rw8_mono h.ev (fun p h1 h2 j => F p (by omega) j), jj_rw8_mono h.im (fun p h1 h2 j => F p (by omega) j), jj_rw8_mono h.od (fun p h1 h2 j => F p (by omega) j), fun a ha j hj => ⟨(F (10 + a) (by omega) j).trans (h.cm a ha j hj).1, (h.cm a ha j hj).2⟩, jj_bs_mono h.bs (fun p h1 h2 j => F p (by omega) j), fun j hj => (F 24 (by omega) j).trans (h.pe j hj), fun j hj => (F 25 (by omega) j).trans (h.kc j hj), fun j a1 a2 => (F 40 (by omega) j).trans (h.z40 j a1 a2), h.ht, h.hli, h.htr, h.hmt, h.hmo, h.r5, h.ad0⟩
  obtain ⟨rs', ev', im', od', S', hct, hJ, hK', hcl, f⟩ := J_judge (lay := lay) hB h1 (fun l u d _ => hK.2.2 l u d)
  refine ⟨nI (P.fl l), S', _, ?_, hJ, hK', hT, ⟨Nat.le_refl _, Nat.le_refl _, fun _ _ => rfl, hcl⟩, rfl, rfl, rfl, rfl, rfl, rfl, rfl, fun p hp j => (f p (by omega) j).trans (F p (by omega) j)⟩
  refine jj_mkI RX6 .boolean (by decide) rfl (L := [some (.ref 0), some (.int (nI l)), some (.int (nI v)), none]) rfl rfl hnf ⟨30, [some (.ref 0), some (.int (nI l)), some (.int (nI v)), some (.int (nI (P.fl l)))], dX6_flag_30, ?_⟩
  refine js_aload_n 0 rfl dX6_flag_0 rfl ?_
  refine js_iload_n 1 rfl dX6_flag_1 rfl ?_
  refine js_callV (av := [.int (nI l)]) (st := []) (b := 0) (ct_X6_needListener hB hl (by omega) h.au.2.1) (Or.inl rfl) jw_c_X6_needListener jw_i_RX6 jw_m_RX6_153 jw_s_X6_needListener jw_e_X6_needListener (jl_0 hB) rfl jw_y_X6_needListener rfl ⟨(Nat.le_of_ble_eq_true rfl), (Nat.le_of_ble_eq_true rfl), (Nat.le_refl _), (Nat.le_refl _), (Nat.le_of_ble_eq_true rfl)⟩ dX6_flag_2 ?_
  refine js_st (st' := []) rfl ?_
  refine js_aload_n 0 rfl dX6_flag_5 rfl ?_
  refine js_getr 2 jw_f_RX6_26 (jl_0 hB) rfl (Nat.le_of_ble_eq_true rfl) rfl dX6_flag_6 ?_
  refine js_getNr 3 jw_n_RX6_159 (jl_20 hB) rfl (Nat.le_of_ble_eq_true rfl) rfl dX6_flag_9 ?_
  refine js_iload_n 1 rfl dX6_flag_12 rfl ?_
  refine js_zald l rfl (jl_23 hB) (by omega) (by decide) ((h.fl l (by omega)).1) dX6_flag_13 ?_
  refine js_istore_n (L' := [some (.ref 0), some (.int (nI l)), some (.int (nI v)), some (.int (nI (P.fl l)))]) 3 rfl dX6_flag_14 rfl (Nat.le_of_ble_eq_true rfl) ?_
  refine js_aload_n 0 rfl dX6_flag_15 rfl ?_
  refine js_getr 2 jw_f_RX6_26 (jl_0 hB) rfl (Nat.le_of_ble_eq_true rfl) rfl dX6_flag_16 ?_
  refine js_getNr 3 jw_n_RX6_159 (jl_20 hB) rfl (Nat.le_of_ble_eq_true rfl) rfl dX6_flag_19 ?_
  refine js_iload_n 1 rfl dX6_flag_22 rfl ?_
  refine js_iload_n 2 rfl dX6_flag_23 rfl ?_
  refine js_zast l rfl (jl_23 hB) (by omega) (by decide) hnv dX6_flag_24 ?_
  refine js_aload_n 0 rfl dX6_flag_25 rfl ?_
  refine js_callV (av := []) (st := []) (b := 0) hct (Or.inl rfl) jw_c_X6_judgePlays jw_i_RX6 jw_m_RX6_109 jw_s_X6_judgePlays jw_e_X6_judgePlays (jl_0 hB) rfl jw_y_X6_judgePlays rfl ⟨(Nat.le_of_ble_eq_true rfl), (Nat.le_of_ble_eq_true rfl), (Nat.le_refl _), (Nat.le_refl _), (Nat.le_of_ble_eq_true rfl)⟩ dX6_flag_26 ?_
  refine js_st (st' := []) rfl ?_
  refine js_iload_n 3 rfl dX6_flag_29 rfl ?_
  exact jj_refl
set_option maxRecDepth 100000 in
set_option maxHeartbeats 4000000 in
theorem J_play {lay : jj_Lay} {S : jj_Mem} {P : jj_P} (hB : jj_pp lay) (h : jj_J S P) (hK : jj_K P) (hT : jj_T P) {l u z : Nat} (hl : l < P.cnt) (hu : u < P.nt) (hz : z ≤ 600) (h130 : P.n < 130) :
    ∃ (v9 : Int32) (S' : jj_Mem) (P' : jj_P), jj_CT yX6_play (.code yX6_play cX6_play 6 (some .int)) none 4 93 [.ref 0, .int (nI l), .int (nI u), .int (nI P.t), .int (nI z)] lay S (some (.int v9)) lay S' ∧ jj_J S' P' ∧ jj_K P' ∧ jj_T P' ∧ jj_E P P' ∧ P'.t = P.t ∧ P'.nt = P.nt ∧ P'.wn = P.wn ∧ P'.cnt = P.cnt ∧ P'.pl = P.pl ∧ P'.rc = P.rc ∧ P'.n = P.n + 1 ∧ (∀ p, 103 < p → ∀ j, S' p j = S p j) := by
  have h8 := h.au.1
  have h14 := h.tk.1
  have ht := h.ht
  have F : ∀ p, p < 35 ∨ p = 40 ∨ 41 < p → ∀ j, (jj_w (jj_w (jj_w (jj_w (jj_w (jj_w S 36 P.n (nI l)) 37 P.n (nI u)) 38 P.n (nI P.t)) 39 P.n (nI z)) 41 P.n (nI P.n)) 35 0 (nI (P.n + 1))) p j = S p j := fun p hp j => (jj_w_neP (by omega)).trans ((jj_w_neP (by omega)).trans ((jj_w_neP (by omega)).trans ((jj_w_neP (by omega)).trans ((jj_w_neP (by omega)).trans (jj_w_neP (by omega))))))
  have G : ∀ j, j < P.n + 1 → (jj_w (jj_w (jj_w (jj_w (jj_w (jj_w S 36 P.n (nI l)) 37 P.n (nI u)) 38 P.n (nI P.t)) 39 P.n (nI z)) 41 P.n (nI P.n)) 35 0 (nI (P.n + 1))) 36 j = some (nI (jj_up P.li P.n l j)) ∧ (jj_w (jj_w (jj_w (jj_w (jj_w (jj_w S 36 P.n (nI l)) 37 P.n (nI u)) 38 P.n (nI P.t)) 39 P.n (nI z)) 41 P.n (nI P.n)) 35 0 (nI (P.n + 1))) 37 j = some (nI (jj_up P.tr P.n u j)) ∧ (jj_w (jj_w (jj_w (jj_w (jj_w (jj_w S 36 P.n (nI l)) 37 P.n (nI u)) 38 P.n (nI P.t)) 39 P.n (nI z)) 41 P.n (nI P.n)) 35 0 (nI (P.n + 1))) 38 j = some (nI (jj_up P.mi P.n P.t j)) ∧ (jj_w (jj_w (jj_w (jj_w (jj_w (jj_w S 36 P.n (nI l)) 37 P.n (nI u)) 38 P.n (nI P.t)) 39 P.n (nI z)) 41 P.n (nI P.n)) 35 0 (nI (P.n + 1))) 39 j = some (jj_ux P.se P.n (nI z) j) ∧ (jj_w (jj_w (jj_w (jj_w (jj_w (jj_w S 36 P.n (nI l)) 37 P.n (nI u)) 38 P.n (nI P.t)) 39 P.n (nI z)) 41 P.n (nI P.n)) 35 0 (nI (P.n + 1))) 40 j = some (nI (jj_up P.rs P.n 0 j)) ∧ (jj_w (jj_w (jj_w (jj_w (jj_w (jj_w S 36 P.n (nI l)) 37 P.n (nI u)) 38 P.n (nI P.t)) 39 P.n (nI z)) 41 P.n (nI P.n)) 35 0 (nI (P.n + 1))) 41 j = some (nI j) := fun j hj => by
    by_cases c9 : j = P.n
    · rw [c9, jj_up_at, jj_up_at, jj_up_at, jj_up_at, jj_ux_at]
      exact ⟨(jj_w_neP (by omega)).trans ((jj_w_neP (by omega)).trans ((jj_w_neP (by omega)).trans ((jj_w_neP (by omega)).trans ((jj_w_neP (by omega)).trans (jj_w_at _ _ _ _))))), (jj_w_neP (by omega)).trans ((jj_w_neP (by omega)).trans ((jj_w_neP (by omega)).trans ((jj_w_neP (by omega)).trans (jj_w_at _ _ _ _)))), (jj_w_neP (by omega)).trans ((jj_w_neP (by omega)).trans ((jj_w_neP (by omega)).trans (jj_w_at _ _ _ _))), (jj_w_neP (by omega)).trans ((jj_w_neP (by omega)).trans (jj_w_at _ _ _ _)), (F 40 (by omega) P.n).trans (h.z40 P.n (Nat.le_refl _) h130), (jj_w_neP (by omega)).trans (jj_w_at _ _ _ _)⟩
    · have hj2 : j < P.n := by omega
      obtain ⟨g1, g2, g3, g4, g5, g6⟩ := h.lg.2.2 j hj2
      rw [jj_up_ne P.li c9, jj_up_ne P.tr c9, jj_up_ne P.mi c9, jj_up_ne P.rs c9, jj_ux_ne P.se c9]
      exact ⟨(jj_w_neP (by omega)).trans ((jj_w_neP (by omega)).trans ((jj_w_neP (by omega)).trans ((jj_w_neP (by omega)).trans ((jj_w_neP (by omega)).trans ((jj_w_neI c9).trans (g1)))))), (jj_w_neP (by omega)).trans ((jj_w_neP (by omega)).trans ((jj_w_neP (by omega)).trans ((jj_w_neP (by omega)).trans ((jj_w_neI c9).trans ((jj_w_neP (by omega)).trans (g2)))))), (jj_w_neP (by omega)).trans ((jj_w_neP (by omega)).trans ((jj_w_neP (by omega)).trans ((jj_w_neI c9).trans ((jj_w_neP (by omega)).trans ((jj_w_neP (by omega)).trans (g3)))))), (jj_w_neP (by omega)).trans ((jj_w_neP (by omega)).trans ((jj_w_neI c9).trans ((jj_w_neP (by omega)).trans ((jj_w_neP (by omega)).trans ((jj_w_neP (by omega)).trans (g4)))))), (F 40 (by omega) j).trans g5, (jj_w_neP (by omega)).trans ((jj_w_neI c9).trans ((jj_w_neP (by omega)).trans ((jj_w_neP (by omega)).trans ((jj_w_neP (by omega)).trans ((jj_w_neP (by omega)).trans (g6))))))⟩
  have e1 : ∀ k, k < P.n + 1 → jj_up P.li P.n l k < P.cnt := fun k hk => by
    by_cases c : k = P.n
    · rw [c, jj_up_at]; exact hl
    · rw [jj_up_ne P.li c]; exact h.hli k (by omega)
  have e2 : ∀ k, k < P.n + 1 → jj_up P.tr P.n u k < P.nt := fun k hk => by
    by_cases c : k = P.n
    · rw [c, jj_up_at]; exact hu
    · rw [jj_up_ne P.tr c]; exact h.htr k (by omega)
  have e3 : ∀ k, k < P.n + 1 → jj_up P.mi P.n P.t k ≤ P.t := fun k hk => by
    by_cases c : k = P.n
    · rw [c, jj_up_at]; exact Nat.le_refl _
    · rw [jj_up_ne P.mi c]; exact h.hmt k (by omega)
  have e4 : ∀ a b, a ≤ b → b < P.n + 1 → jj_up P.mi P.n P.t a ≤ jj_up P.mi P.n P.t b := fun a b hab hb => by
    by_cases c : b = P.n
    · have h9 := e3 a (by omega)
      rw [c, jj_up_at]; exact h9
    · rw [jj_up_ne P.mi c, jj_up_ne P.mi (show a ≠ P.n by omega)]; exact h.hmo a b hab (by omega)
  have e5 : ∀ j, j < P.n + 1 → jj_up P.rs P.n 0 j ≤ 5 := fun j hj => by
    by_cases c : j = P.n
    · rw [c, jj_up_at]; exact Nat.zero_le _
    · rw [jj_up_ne P.rs c]; exact h.r5 j (by omega)
  have h1 : jj_J (jj_w (jj_w (jj_w (jj_w (jj_w (jj_w S 36 P.n (nI l)) 37 P.n (nI u)) 38 P.n (nI P.t)) 39 P.n (nI z)) 41 P.n (nI P.n)) 35 0 (nI (P.n + 1))) (jj_mkP (P.n + 1) P.t P.nt P.wn P.cnt P.h P.x (jj_up P.li P.n l) (jj_up P.tr P.n u) (jj_up P.mi P.n P.t) (jj_up P.rs P.n 0) P.rc P.ld P.pl P.fl P.ca P.ge P.he P.du P.pa P.ad P.re P.pe (jj_ux P.se P.n (nI z)) P.w0 P.w1 P.w2 P.w3 P.ev P.im P.od P.cl) := ⟨⟨(show P.n + 1 ≤ 130 by omega), jj_w_at _ _ _ _, G⟩, jj_tk_mono h.tk (fun p h1 h2 j => F p (by omega) j), jj_wi_mono h.wi (fun p h1 h2 j => F p (by omega) j), ⟨h.au.1, (F 20 (by omega) 0).trans h.au.2.1, fun j hj => ⟨(F 21 (by omega) j).trans (h.au.2.2.1 j hj).1, (h.au.2.2.1 j hj).2⟩, fun j hj => ⟨(F 22 (by omega) j).trans (h.au.2.2.2 j hj).1, (h.au.2.2.2 j hj).2⟩⟩, fun j hj => ⟨(F 23 (by omega) j).trans (h.fl j hj).1, (h.fl j hj).2⟩, (F 0 (by omega) 9).trans h.now, (F 0 (by omega) 10).trans h.ru, jj_rw8_mono h.ev (fun p h1 h2 j => F p (by omega) j), jj_rw8_mono h.im (fun p h1 h2 j => F p (by omega) j), jj_rw8_mono h.od (fun p h1 h2 j => F p (by omega) j), fun a ha j hj => ⟨(F (10 + a) (by omega) j).trans (h.cm a ha j hj).1, (h.cm a ha j hj).2⟩, jj_bs_mono h.bs (fun p h1 h2 j => F p (by omega) j), fun j hj => (F 24 (by omega) j).trans (h.pe j hj), fun j hj => (F 25 (by omega) j).trans (h.kc j hj), fun j a1 a2 => (F 40 (by omega) j).trans (h.z40 j (Nat.le_of_succ_le a1) a2), h.ht, e1, e2, e3, e4, e5, h.ad0⟩
  have hold : ∀ l1 u1 d, d / 10 < P.t / 14400 → jj_ct (jj_pd (jj_up P.li P.n l) (jj_up P.tr P.n u) (jj_up P.mi P.n P.t) (jj_up P.rs P.n 0) P.rc l1 u1 d) (P.n + 1) ≤ 5 := fun l1 u1 d hd => by
    have h9 := hK.2.2 l1 u1 d
    have h10 : jj_ct (jj_pd (jj_up P.li P.n l) (jj_up P.tr P.n u) (jj_up P.mi P.n P.t) (jj_up P.rs P.n 0) P.rc l1 u1 d) P.n = jj_ct (jj_pd P.li P.tr P.mi P.rs P.rc l1 u1 d) P.n := jj_ct_congr (fun j hj => by
      have c : j ≠ P.n := by omega
      unfold jj_pd
      rw [jj_up_ne P.li c, jj_up_ne P.tr c, jj_up_ne P.mi c, jj_up_ne P.rs c])
    have h11 : jj_pd (jj_up P.li P.n l) (jj_up P.tr P.n u) (jj_up P.mi P.n P.t) (jj_up P.rs P.n 0) P.rc l1 u1 d P.n = false := by
      unfold jj_pd
      rw [jj_up_at P.mi]
      exact decide_eq_false (fun w => by have := w.2.2.2; omega)
    show jj_ct _ P.n + jj_b _ ≤ 5
    rw [h10, h11]
    exact h9
  obtain ⟨rs', ev', im', od', S', hct, hJ, hK', hcl, f⟩ := J_judge (lay := lay) hB h1 hold
  refine ⟨nI (rs' P.n), S', _, ?_, hJ, hK', hT, ⟨Nat.le_succ _, Nat.le_refl _, fun j hj => jj_up_ne P.mi (Nat.ne_of_lt hj), fun j hj hc => ?_⟩, rfl, rfl, rfl, rfl, rfl, rfl, rfl, fun p hp j => (f p (by omega) j).trans (F p (by omega) j)⟩
  · refine jj_mkI RX6 .int (by decide) rfl (L := [some (.ref 0), some (.int (nI l)), some (.int (nI u)), some (.int (nI P.t)), some (.int (nI z)), none]) rfl rfl rfl ⟨154, [some (.ref 0), some (.int (nI l)), some (.int (nI u)), some (.int (nI P.t)), some (.int (nI z)), some (.int (nI P.n))], dX6_play_154, ?_⟩
    refine js_aload_n 0 rfl dX6_play_0 rfl ?_
    refine js_iload_n 1 rfl dX6_play_1 rfl ?_
    refine js_callV (av := [.int (nI l)]) (st := []) (b := 0) (ct_X6_needListener hB hl (by omega) h.au.2.1) (Or.inl rfl) jw_c_X6_needListener jw_i_RX6 jw_m_RX6_153 jw_s_X6_needListener jw_e_X6_needListener (jl_0 hB) rfl jw_y_X6_needListener rfl ⟨(Nat.le_of_ble_eq_true rfl), (Nat.le_of_ble_eq_true rfl), (Nat.le_refl _), (Nat.le_refl _), (Nat.le_of_ble_eq_true rfl)⟩ dX6_play_2 ?_
    refine js_st (st' := []) rfl ?_
    refine js_aload_n 0 rfl dX6_play_5 rfl ?_
    refine js_iload_n 2 rfl dX6_play_6 rfl ?_
    refine js_callV (av := [.int (nI u)]) (st := []) (b := 0) (ct_X6_needTrack hB hu (by omega) h.tk.2.1) (Or.inl rfl) jw_c_X6_needTrack jw_i_RX6 jw_m_RX6_86 jw_s_X6_needTrack jw_e_X6_needTrack (jl_0 hB) rfl jw_y_X6_needTrack rfl ⟨(Nat.le_of_ble_eq_true rfl), (Nat.le_of_ble_eq_true rfl), (Nat.le_refl _), (Nat.le_refl _), (Nat.le_of_ble_eq_true rfl)⟩ dX6_play_7 ?_
    refine js_st (st' := []) rfl ?_
    refine js_iload_n 3 rfl dX6_play_10 rfl ?_
    refine jn_if_lt 22 (by omega) dX6_play_11 (by decide) (fun h9 => absurd h9 (by omega)) (fun _ => ?_)
    refine js_iload_n 3 rfl dX6_play_14 rfl ?_
    refine js_aload_n 0 rfl dX6_play_15 rfl ?_
    refine js_geti 9 jw_f_RX6_61 (jl_0 hB) rfl (Nat.le_of_ble_eq_true rfl) rfl (h.now) dX6_play_16 ?_
    refine jn_icmp_le 32 (by omega) (by omega) dX6_play_19 (by decide) (fun _ => ?_) (fun h9 => absurd h9 (by omega))
    refine js_iload dX6_play_32 rfl ?_
    refine jn_if_lt 45 (by omega) dX6_play_34 (by decide) (fun h9 => absurd h9 (by omega)) (fun _ => ?_)
    refine js_iload dX6_play_37 rfl ?_
    refine js_sipush (v := nI 600) dX6_play_39 (by decide) ?_
    refine jn_icmp_le 55 (by omega) (by omega) dX6_play_42 (by decide) (fun _ => ?_) (fun h9 => absurd h9 (by omega))
    refine js_aload_n 0 rfl dX6_play_55 rfl ?_
    refine js_iload_n 3 rfl dX6_play_56 rfl ?_
    refine js_callV (av := [.int (nI P.t)]) (st := []) (b := 0) (ct_X6_isClosed hB (by omega) (by omega) h.now) (Or.inl rfl) jw_c_X6_isClosed jw_i_RX6 jw_m_RX6_187 jw_s_X6_isClosed jw_e_X6_isClosed (jl_0 hB) rfl jw_y_X6_isClosed rfl ⟨(Nat.le_of_ble_eq_true rfl), (Nat.le_of_ble_eq_true rfl), (Nat.le_refl _), (Nat.le_refl _), (Nat.le_of_ble_eq_true rfl)⟩ dX6_play_57 ?_
    refine js_st (st' := [.int (nI (jj_b (decide (P.t / 14400 < P.t / 14400))))]) rfl ?_
    refine js_top (y := nI 0) (by simp [jj_b]) ?_
    refine jn_if_eq 73 (by omega) dX6_play_60 (by decide) (fun _ => ?_) (fun h9 => absurd h9 (by omega))
    refine js_iload_n 3 rfl dX6_play_73 rfl ?_
    refine js_aload_n 0 rfl dX6_play_74 rfl ?_
    refine js_geti 9 jw_f_RX6_61 (jl_0 hB) rfl (Nat.le_of_ble_eq_true rfl) rfl (h.now) dX6_play_75 ?_
    refine jn_icmp_ge 103 (by omega) (by omega) dX6_play_78 (by decide) (fun _ => ?_) (fun h9 => absurd h9 (by omega))
    refine js_aload_n 0 rfl dX6_play_103 rfl ?_
    refine js_getr 3 jw_f_RX6_33 (jl_0 hB) rfl (Nat.le_of_ble_eq_true rfl) rfl dX6_play_104 ?_
    refine js_getNi 0 jw_n_RX6_194 (jl_35 hB) rfl (Nat.le_of_ble_eq_true rfl) rfl (h.lg.2.1) dX6_play_107 ?_
    refine js_sipush (v := nI 130) dX6_play_110 (by decide) ?_
    refine jn_icmp_lt 126 (by omega) (by omega) dX6_play_113 (by decide) (fun _ => ?_) (fun h9 => absurd h9 (by omega))
    refine js_aload_n 0 rfl dX6_play_126 rfl ?_
    refine js_getr 3 jw_f_RX6_33 (jl_0 hB) rfl (Nat.le_of_ble_eq_true rfl) rfl dX6_play_127 ?_
    refine js_iload_n 1 rfl dX6_play_130 rfl ?_
    refine js_iload_n 2 rfl dX6_play_131 rfl ?_
    refine js_iload_n 3 rfl dX6_play_132 rfl ?_
    refine js_iload dX6_play_133 rfl ?_
    refine js_callVN (av := [.int (nI l), .int (nI u), .int (nI P.t), .int (nI z)]) (st := []) (b := 35) (ct_X4_add (m := P.mi) hB h130 h.lg.2.1 (fun j hj => (h.lg.2.2 j hj).2.2.2.2.2) (fun j hj => ⟨(h.lg.2.2 j hj).2.2.1, h.hmt j hj⟩) (by omega)) (Or.inl rfl) jw_c_X4_add jw_i_RX4 jw_h_RX6_197 jw_s_X4_add jw_e_X4_add (jl_35 hB) rfl jw_y_X4_add rfl ⟨(Nat.le_of_ble_eq_true rfl), (Nat.le_of_ble_eq_true rfl), (Nat.le_refl _), (Nat.le_refl _), (Nat.le_of_ble_eq_true rfl)⟩ dX6_play_135 ?_
    refine js_st (st' := [.int (nI P.n)]) rfl ?_
    refine js_istore (L' := [some (.ref 0), some (.int (nI l)), some (.int (nI u)), some (.int (nI P.t)), some (.int (nI z)), some (.int (nI P.n))]) dX6_play_138 rfl (Nat.le_of_ble_eq_true rfl) ?_
    refine js_aload_n 0 rfl dX6_play_140 rfl ?_
    refine js_callV (av := []) (st := []) (b := 0) hct (Or.inl rfl) jw_c_X6_judgePlays jw_i_RX6 jw_m_RX6_109 jw_s_X6_judgePlays jw_e_X6_judgePlays (jl_0 hB) rfl jw_y_X6_judgePlays rfl ⟨(Nat.le_of_ble_eq_true rfl), (Nat.le_of_ble_eq_true rfl), (Nat.le_refl _), (Nat.le_refl _), (Nat.le_of_ble_eq_true rfl)⟩ dX6_play_141 ?_
    refine js_st (st' := []) rfl ?_
    refine js_aload_n 0 rfl dX6_play_144 rfl ?_
    refine js_getr 3 jw_f_RX6_33 (jl_0 hB) rfl (Nat.le_of_ble_eq_true rfl) rfl dX6_play_145 ?_
    refine js_getNr 5 jw_n_RX6_200 (jl_35 hB) rfl (Nat.le_of_ble_eq_true rfl) rfl dX6_play_148 ?_
    refine js_iload dX6_play_151 rfl ?_
    refine js_iald P.n rfl (jl_40 hB) (by omega) (by decide) ((hJ.lg.2.2 P.n (Nat.lt_succ_self _)).2.2.2.2.1) dX6_play_153 ?_
    exact jj_refl
  · have h12 := hcl j (Nat.lt_succ_of_lt hj) (by show jj_up P.mi P.n P.t j / 14400 < P.t / 14400; rw [jj_up_ne P.mi (Nat.ne_of_lt hj)]; exact hc)
    exact h12.trans (jj_up_ne P.rs (Nat.ne_of_lt hj))

/-! CHANGES: pass. -/
theorem jj_fees_le (pl : Nat → Nat) {cnt : Nat} (h : cnt ≤ 8) : jj_sm (fun l => jj_fee (pl l)) cnt ≤ 8000 := by
  have h1 : jj_sm (fun l => jj_fee (pl l)) cnt ≤ jj_sm (fun _ => 1000) cnt := jj_sm_le (fun j _ => jj_fee_le _)
  rw [jj_sm_const] at h1
  omega
set_option maxRecDepth 100000 in
set_option maxHeartbeats 4000000 in
theorem lp_X6_pass {lay : jj_Lay} (hB : jj_pp lay) {th m : Nat} (hth : th ≤ 99999) : ∀ (k e : Nat), e + k = th / 14400 → ∀ (S : jj_Mem) (P : jj_P) (x : Int32), jj_J S P → jj_K P → jj_T P → P.t / 14400 = e → P.t ≤ th →
    ∃ (v9 : Int32) (S' : jj_Mem) (P' : jj_P), jj_RR cX6_pass 5 RX6 yX6_pass.name none 6 139 lay.length (jj_sl lay) (61, [some (.ref 0), some (.int (nI m)), some (.int (nI th)), some (.int x), some (.int (nI e))], [], lay, S) (some (.int v9)) .ireturn lay S' ∧ jj_J S' P' ∧ jj_K P' ∧ jj_T P' ∧ jj_E P P' ∧ P'.n = P.n ∧ P'.nt = P.nt ∧ P'.wn = P.wn ∧ P'.cnt = P.cnt ∧ P'.pl = P.pl ∧ P'.rc = P.rc ∧ P'.t = th ∧ (∀ p, 103 < p → ∀ j, S' p j = S p j) := by
  intro k
  induction k with
  | zero =>
    intro e he S P x h hK hT h1 h2
    have F : ∀ p, p ≠ 0 → ∀ j, jj_w S 0 9 (nI th) p j = S p j := fun p hp j => jj_w_neP hp
    refine ⟨x, jj_w S 0 9 (nI th), (jj_mkP P.n th P.nt P.wn P.cnt P.h P.x P.li P.tr P.mi P.rs P.rc P.ld P.pl P.fl P.ca P.ge P.he P.du P.pa P.ad P.re P.pe P.se P.w0 P.w1 P.w2 P.w3 P.ev P.im P.od P.cl), ⟨105, [some (.ref 0), some (.int (nI m)), some (.int (nI th)), some (.int x), some (.int (nI e))], dX6_pass_105, ?_⟩, ⟨jj_lg_mono h.lg (fun p h1 h2 j => F p (by omega) j), jj_tk_mono h.tk (fun p h1 h2 j => F p (by omega) j), jj_wi_mono h.wi (fun p h1 h2 j => F p (by omega) j), ⟨h.au.1, (F 20 (by omega) 0).trans h.au.2.1, fun j hj => ⟨(F 21 (by omega) j).trans (h.au.2.2.1 j hj).1, (h.au.2.2.1 j hj).2⟩, fun j hj => ⟨(F 22 (by omega) j).trans (h.au.2.2.2 j hj).1, (h.au.2.2.2 j hj).2⟩⟩, fun j hj => ⟨(F 23 (by omega) j).trans (h.fl j hj).1, (h.fl j hj).2⟩, jj_w_at _ _ _ _, (jj_w_neI (by omega)).trans h.ru, jj_rw8_mono h.ev (fun p h1 h2 j => F p (by omega) j), jj_rw8_mono h.im (fun p h1 h2 j => F p (by omega) j), jj_rw8_mono h.od (fun p h1 h2 j => F p (by omega) j), fun a ha j hj => ⟨(F (10 + a) (by omega) j).trans (h.cm a ha j hj).1, (h.cm a ha j hj).2⟩, jj_bs_mono h.bs (fun p h1 h2 j => F p (by omega) j), fun j hj => (F 24 (by omega) j).trans (h.pe j hj), fun j hj => (F 25 (by omega) j).trans (h.kc j hj), fun j a1 a2 => (F 40 (by omega) j).trans (h.z40 j a1 a2), (show th < 100000 by omega), h.hli, h.htr, fun k hk => Nat.le_trans (h.hmt k hk) h2, h.hmo, h.r5, h.ad0⟩, hK, ?_, ⟨Nat.le_refl _, h2, fun _ _ => rfl, fun _ _ _ => rfl⟩, rfl, rfl, rfl, rfl, rfl, rfl, rfl, fun p hp j => F p (by omega) j⟩
    · refine js_iload dX6_pass_61 rfl ?_
      refine js_iload_n 2 rfl dX6_pass_63 rfl ?_
      refine js_callS (av := [.int (nI th)]) (st := [.int (nI e)]) (ct_X6_monthOf (by omega)) (Or.inl rfl) jw_c_X6_monthOf jw_i_RX6 jw_m_RX6_207 jw_s_X6_monthOf jw_y_X6_monthOf rfl ⟨(Nat.le_of_ble_eq_true rfl), (Nat.le_of_ble_eq_true rfl), (Nat.le_refl _), (Nat.le_refl _), (Nat.le_of_ble_eq_true rfl)⟩ dX6_pass_64 ?_
      refine js_st (st' := [.int (nI (th / 14400)), .int (nI e)]) rfl ?_
      refine jn_icmp_ge 99 (by omega) (by omega) dX6_pass_67 (by decide) (fun _ => ?_) (fun h9 => absurd h9 (by omega))
      refine js_aload_n 0 rfl dX6_pass_99 rfl ?_
      refine js_iload_n 2 rfl dX6_pass_100 rfl ?_
      refine js_put 9 jw_f_RX6_61 (jl_0 hB) rfl (Nat.le_of_ble_eq_true rfl) rfl rfl (by decide +kernel) dX6_pass_101 ?_
      refine js_iload_n 3 rfl dX6_pass_104 rfl ?_
      exact jj_refl
    · show jj_tot P.h P.x P.ca P.he P.du P.pa P.re = th / 14400 * jj_sm (fun l => jj_fee (P.pl l)) P.cnt
      have h9 : jj_tot P.h P.x P.ca P.he P.du P.pa P.re = P.t / 14400 * jj_sm (fun l => jj_fee (P.pl l)) P.cnt := hT
      rw [h9, h1, show th / 14400 = e by omega]
  | succ k ih =>
    intro e he S P x h hK hT h1 h2
    have h8 := h.au.1
    have h9 : jj_tot P.h P.x P.ca P.he P.du P.pa P.re = P.t / 14400 * jj_sm (fun l => jj_fee (P.pl l)) P.cnt := hT
    rw [h1] at h9
    have hfe := jj_fees_le P.pl h8
    have hmu : e * jj_sm (fun l => jj_fee (P.pl l)) P.cnt ≤ 6 * 8000 := Nat.mul_le_mul (by omega) hfe
    have hn130 := h.lg.1
    have him3 : jj_sm (fun l => jj_sm (P.im l) 10) P.cnt ≤ 1000 := Nat.le_trans (jj_sm_mono h8) (Nat.le_trans hK.2.1 (by omega))
    obtain ⟨h', x', ca', ge', he', du', pa', ad', re', v, S1, hct, q1, q2, q3, q4, q5, q6⟩ := ct_X6_closeMonth (lay := lay) hB (rule := 0) (by omega) h.ru h.au (fun l hl j hj => h.im l (by omega) j hj) h.cm (fun l hl => Nat.le_trans (jj_sm_at (f := fun l => jj_sm (P.im l) 10) hl) him3) him3 h.bs (fun j _ => by rw [h.ad0 j]; omega) (by omega) (pe := P.pe) (fun j hj => h.pe j (by omega))
    have F : ∀ p, p ≠ 0 ∧ p ≠ 24 ∧ (p < 70 ∨ 80 < p) → ∀ j, (jj_w S1 0 9 (nI (((e + 1)) * 14400))) p j = S p j := fun p hp j => (jj_w_neP hp.1).trans (q5 p hp.2.1 hp.2.2 j)
    have hpe : ∀ j, j < 8 → (jj_w S1 0 9 (nI (((e + 1)) * 14400))) 24 j = some (nI (if j < P.cnt then P.pe j + jj_fee (P.pl j) else P.pe j)) := fun j hj => by
      by_cases c : j < P.cnt
      · rw [if_pos c]; exact (jj_w_neP (by omega)).trans (q4 j c)
      · rw [if_neg c]; exact (jj_w_neP (by omega)).trans ((q6 j (by omega)).trans (h.pe j hj))
    have h3 : jj_J (jj_w S1 0 9 (nI (((e + 1)) * 14400))) (jj_mkP P.n ((e + 1) * 14400) P.nt P.wn P.cnt h' x' P.li P.tr P.mi P.rs P.rc P.ld P.pl P.fl ca' ge' he' du' pa' ad' re' (fun j => if j < P.cnt then P.pe j + jj_fee (P.pl j) else P.pe j) P.se P.w0 P.w1 P.w2 P.w3 P.ev P.im P.od P.cl) := ⟨jj_lg_mono h.lg (fun p h1 h2 j => F p (by omega) j), jj_tk_mono h.tk (fun p h1 h2 j => F p (by omega) j), jj_wi_mono h.wi (fun p h1 h2 j => F p (by omega) j), ⟨h.au.1, (F 20 (by omega) 0).trans h.au.2.1, fun j hj => ⟨(F 21 (by omega) j).trans (h.au.2.2.1 j hj).1, (h.au.2.2.1 j hj).2⟩, fun j hj => ⟨(F 22 (by omega) j).trans (h.au.2.2.2 j hj).1, (h.au.2.2.2 j hj).2⟩⟩, fun j hj => ⟨(F 23 (by omega) j).trans (h.fl j hj).1, (h.fl j hj).2⟩, jj_w_at _ _ _ _, (jj_w_neI (by omega)).trans ((q5 0 (by omega) (by omega) 10).trans h.ru), jj_rw8_mono h.ev (fun p h1 h2 j => F p (by omega) j), jj_rw8_mono h.im (fun p h1 h2 j => F p (by omega) j), jj_rw8_mono h.od (fun p h1 h2 j => F p (by omega) j), fun a ha j hj => ⟨(F (10 + a) (by omega) j).trans (h.cm a ha j hj).1, (h.cm a ha j hj).2⟩, jj_bs_mono q1 (fun p a1 a2 j => jj_w_neP (by omega)), hpe, fun j hj => (F 25 (by omega) j).trans (h.kc j hj), fun j a1 a2 => (F 40 (by omega) j).trans (h.z40 j a1 a2), (show (e + 1) * 14400 < 100000 by omega), h.hli, h.htr, fun k hk => Nat.le_trans (h.hmt k hk) (show P.t ≤ (e + 1) * 14400 by omega), h.hmo, h.r5, fun j => Nat.le_zero.mp (Nat.le_trans (q3 j) (Nat.le_of_eq (h.ad0 j)))⟩
    obtain ⟨rs', ev', im', od', S3, hcj, hJ, hK', hcl, f⟩ := J_judge (lay := lay) hB h3 (fun l u d _ => hK.2.2 l u d)
    have hdiv : (e + 1) * 14400 / 14400 = e + 1 := by omega
    obtain ⟨v9, S', P', hR, g1, g2, g3, g4, g5, g6, g7, g8, g9, g10, g11, g12⟩ := ih (e + 1) (by omega) S3 _ (x + nI v) hJ hK' (by
      show jj_tot h' x' ca' he' du' pa' re' = (e + 1) * 14400 / 14400 * jj_sm (fun l => jj_fee (P.pl l)) P.cnt
      rw [q2, h9, hdiv, Nat.succ_mul]) hdiv (by show (e + 1) * 14400 ≤ th; omega)
    refine ⟨v9, S', P', jj_RRs ?_ hR, g1, g2, g3, jj_E_trans (Q := (jj_mkP P.n ((e + 1) * 14400) P.nt P.wn P.cnt h' x' P.li P.tr P.mi rs' P.rc P.ld P.pl P.fl ca' ge' he' du' pa' ad' re' (fun j => if j < P.cnt then P.pe j + jj_fee (P.pl j) else P.pe j) P.se P.w0 P.w1 P.w2 P.w3 ev' im' od' P.cl)) ⟨Nat.le_refl _, (show P.t ≤ (e + 1) * 14400 by omega), fun _ _ => rfl, fun j hj hc => hcl j hj (by show P.mi j / 14400 < (e + 1) * 14400 / 14400; omega)⟩ g4, g5, g6, g7, g8, g9, g10, g11, fun p hp j => (g12 p hp j).trans ((f p (by omega) j).trans (F p (by omega) j))⟩
    refine js_iload dX6_pass_61 rfl ?_
    refine js_iload_n 2 rfl dX6_pass_63 rfl ?_
    refine js_callS (av := [.int (nI th)]) (st := [.int (nI e)]) (ct_X6_monthOf (by omega)) (Or.inl rfl) jw_c_X6_monthOf jw_i_RX6 jw_m_RX6_207 jw_s_X6_monthOf jw_y_X6_monthOf rfl ⟨(Nat.le_of_ble_eq_true rfl), (Nat.le_of_ble_eq_true rfl), (Nat.le_refl _), (Nat.le_refl _), (Nat.le_of_ble_eq_true rfl)⟩ dX6_pass_64 ?_
    refine js_st (st' := [.int (nI (th / 14400)), .int (nI e)]) rfl ?_
    refine jn_icmp_ge 99 (by omega) (by omega) dX6_pass_67 (by decide) (fun h9 => absurd h9 (by omega)) (fun _ => ?_)
    refine js_iload_n 3 rfl dX6_pass_70 rfl ?_
    refine js_aload_n 0 rfl dX6_pass_71 rfl ?_
    refine js_callV (av := []) (st := [.int x]) (b := 0) hct (Or.inl rfl) jw_c_X6_closeMonth jw_i_RX6 jw_m_RX6_210 jw_s_X6_closeMonth jw_e_X6_closeMonth (jl_0 hB) rfl jw_y_X6_closeMonth rfl ⟨(Nat.le_of_ble_eq_true rfl), (Nat.le_of_ble_eq_true rfl), (Nat.le_refl _), (Nat.le_refl _), (Nat.le_of_ble_eq_true rfl)⟩ dX6_pass_72 ?_
    refine js_st (st' := [.int (nI v), .int x]) rfl ?_
    refine js_iadd dX6_pass_75 ?_
    refine js_istore_n (L' := [some (.ref 0), some (.int (nI m)), some (.int (nI th)), some (.int (x + (nI v))), some (.int (nI e))]) 3 rfl dX6_pass_76 rfl (Nat.le_of_ble_eq_true rfl) ?_
    refine js_aload_n 0 rfl dX6_pass_77 rfl ?_
    refine js_iload dX6_pass_78 rfl ?_
    refine js_iconst (v := nI 1) dX6_pass_80 (by decide) ?_
    refine jn_iadd dX6_pass_81 ?_
    refine js_sipush (v := nI 14400) dX6_pass_82 (by decide) ?_
    refine jn_imul dX6_pass_85 ?_
    refine js_put 9 jw_f_RX6_61 (jl_0 hB) rfl (Nat.le_of_ble_eq_true rfl) rfl rfl (by decide +kernel) dX6_pass_86 ?_
    refine js_aload_n 0 rfl dX6_pass_89 rfl ?_
    refine js_callV (av := []) (st := []) (b := 0) hcj (Or.inl rfl) jw_c_X6_judgePlays jw_i_RX6 jw_m_RX6_109 jw_s_X6_judgePlays jw_e_X6_judgePlays (jl_0 hB) rfl jw_y_X6_judgePlays rfl ⟨(Nat.le_of_ble_eq_true rfl), (Nat.le_of_ble_eq_true rfl), (Nat.le_refl _), (Nat.le_refl _), (Nat.le_of_ble_eq_true rfl)⟩ dX6_pass_90 ?_
    refine js_st (st' := []) rfl ?_
    refine js_iinc (v := nI (e + 1)) (L' := [some (.ref 0), some (.int (nI m)), some (.int (nI th)), some (.int (x + (nI v))), some (.int (nI (e + 1)))]) dX6_pass_93 rfl (jj_inc _) rfl ?_
    refine js_goto 61 dX6_pass_96 (by decide) ?_
    exact jj_refl
set_option maxRecDepth 100000 in
set_option maxHeartbeats 4000000 in
theorem J_pass {lay : jj_Lay} {S : jj_Mem} {P : jj_P} (hB : jj_pp lay) (h : jj_J S P) (hK : jj_K P) (hT : jj_T P) {m : Nat} (hm1 : 1 ≤ m) (hm2 : m ≤ 20000) (hm3 : P.t + m ≤ 99999) :
    ∃ (v9 : Int32) (S' : jj_Mem) (P' : jj_P), jj_CT yX6_pass (.code yX6_pass cX6_pass 5 (some .int)) none 6 139 [.ref 0, .int (nI m)] lay S (some (.int v9)) lay S' ∧ jj_J S' P' ∧ jj_K P' ∧ jj_T P' ∧ jj_E P P' ∧ P'.n = P.n ∧ P'.nt = P.nt ∧ P'.wn = P.wn ∧ P'.cnt = P.cnt ∧ P'.pl = P.pl ∧ P'.rc = P.rc ∧ P'.t = P.t + m ∧ (∀ p, 103 < p → ∀ j, S' p j = S p j) := by
  obtain ⟨v9, S', P', hR, g⟩ := lp_X6_pass (lay := lay) hB (th := P.t + m) (m := m) hm3 ((P.t + m) / 14400 - P.t / 14400) (P.t / 14400) (by omega) S P (nI 0) h hK hT rfl (by omega)
  refine ⟨v9, S', P', ?_, g⟩
  refine jj_mkI RX6 .int (by decide) rfl (L := [some (.ref 0), some (.int (nI m)), none, none, none]) rfl rfl rfl ?_
  refine jj_RRs ?_ hR
  refine js_iload_n 1 rfl dX6_pass_0 rfl ?_
  refine js_iconst (v := nI 1) dX6_pass_1 (by decide) ?_
  refine jn_icmp_lt 12 (by omega) (by omega) dX6_pass_2 (by decide) (fun h9 => absurd h9 (by omega)) (fun _ => ?_)
  refine js_iload_n 1 rfl dX6_pass_5 rfl ?_
  refine js_sipush (v := nI 20000) dX6_pass_6 (by decide) ?_
  refine jn_icmp_le 22 (by omega) (by omega) dX6_pass_9 (by decide) (fun _ => ?_) (fun h9 => absurd h9 (by omega))
  refine js_aload_n 0 rfl dX6_pass_22 rfl ?_
  refine js_geti 9 jw_f_RX6_61 (jl_0 hB) rfl (Nat.le_of_ble_eq_true rfl) rfl (h.now) dX6_pass_23 ?_
  refine js_iload_n 1 rfl dX6_pass_26 rfl ?_
  refine jn_iadd dX6_pass_27 ?_
  refine js_ldc dX6_pass_28 jw_k_RX6_92 ?_
  refine js_top (y := nI 99999) (by decide) ?_
  refine jn_icmp_le 43 (by omega) (by omega) dX6_pass_30 (by decide) (fun _ => ?_) (fun h9 => absurd h9 (by omega))
  refine js_aload_n 0 rfl dX6_pass_43 rfl ?_
  refine js_geti 9 jw_f_RX6_61 (jl_0 hB) rfl (Nat.le_of_ble_eq_true rfl) rfl (h.now) dX6_pass_44 ?_
  refine js_iload_n 1 rfl dX6_pass_47 rfl ?_
  refine jn_iadd dX6_pass_48 ?_
  refine js_istore_n (L' := [some (.ref 0), some (.int (nI m)), some (.int (nI (P.t + m))), none, none]) 2 rfl dX6_pass_49 rfl (Nat.le_of_ble_eq_true rfl) ?_
  refine js_iconst (v := nI 0) dX6_pass_50 (by decide) ?_
  refine js_istore_n (L' := [some (.ref 0), some (.int (nI m)), some (.int (nI (P.t + m))), some (.int (nI 0)), none]) 3 rfl dX6_pass_51 rfl (Nat.le_of_ble_eq_true rfl) ?_
  refine js_aload_n 0 rfl dX6_pass_52 rfl ?_
  refine js_geti 9 jw_f_RX6_61 (jl_0 hB) rfl (Nat.le_of_ble_eq_true rfl) rfl (h.now) dX6_pass_53 ?_
  refine js_callS (av := [.int (nI P.t)]) (st := []) (ct_X6_monthOf (by omega)) (Or.inl rfl) jw_c_X6_monthOf jw_i_RX6 jw_m_RX6_207 jw_s_X6_monthOf jw_y_X6_monthOf rfl ⟨(Nat.le_of_ble_eq_true rfl), (Nat.le_of_ble_eq_true rfl), (Nat.le_refl _), (Nat.le_refl _), (Nat.le_of_ble_eq_true rfl)⟩ dX6_pass_56 ?_
  refine js_st (st' := [.int (nI (P.t / 14400))]) rfl ?_
  refine js_istore (L' := [some (.ref 0), some (.int (nI m)), some (.int (nI (P.t + m))), some (.int (nI 0)), some (.int (nI (P.t / 14400)))]) dX6_pass_59 rfl (Nat.le_of_ble_eq_true rfl) ?_
  exact jj_refl

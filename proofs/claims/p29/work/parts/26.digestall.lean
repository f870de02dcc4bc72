/-! THE DIGEST OF ALL. -/
set_option maxRecDepth 100000 in
set_option maxHeartbeats 4000000 in
theorem li_charts {lay : jj_Lay} {P : jj_P} (hB : jj_pp lay) (hK : jj_K P) {start : Int64} {e : Nat} (hl : e < 4) : ∀ (k f : Nat), f + k = 2 → ∀ (S : jj_Mem) (d : Int64), jj_J S P → ∃ (d' : Int64) (S' : jj_Mem), jj_R cX6_digestOfCharts 7 RX6 yX6_digestOfCharts.name none 3 69 lay.length (jj_sl lay) (14, [some (.ref 0), some (.long start), none, some (.long d), none, some (.int (nI e)), some (.int (nI f))], [], lay, S) (40, [some (.ref 0), some (.long start), none, some (.long d'), none, some (.int (nI e)), some (.int (nI 2))], [], lay, S') ∧ (∀ p, p ≠ 103 → ∀ j, S' p j = S p j) := by
  intro k
  induction k with
  | zero =>
    intro f hf S d h
    obtain rfl : f = 2 := by omega
    refine ⟨d, S, ?_, fun _ _ _ => rfl⟩
    refine js_iload dX6_digestOfCharts_14 rfl ?_
    refine js_iconst (v := nI 1) dX6_digestOfCharts_16 (by decide) ?_
    refine jn_icmp_gt 40 (by omega) (by omega) dX6_digestOfCharts_17 (by decide) (fun _ => ?_) (fun h9 => absurd h9 (by omega))
    exact jj_refl
  | succ k ih =>
    intro f hf S d h
    obtain ⟨q, S1, hct, p1⟩ := E_X6_charted (lay := lay) hB h hK (land := e) (c := f) hl (by omega)
    obtain ⟨d', S', hR, p2⟩ := ih (f + 1) (by omega) S1 ((d * 31) + q.toInt64) (jj_J_eq h (fun p hp j => p1 p (by omega) j))
    refine ⟨d', S', jj_tr ?_ hR, fun p hp j => (p2 p hp j).trans (p1 p hp j)⟩
    refine js_iload dX6_digestOfCharts_14 rfl ?_
    refine js_iconst (v := nI 1) dX6_digestOfCharts_16 (by decide) ?_
    refine jn_icmp_gt 40 (by omega) (by omega) dX6_digestOfCharts_17 (by decide) (fun h9 => absurd h9 (by omega)) (fun _ => ?_)
    refine js_lload_n 3 rfl dX6_digestOfCharts_20 rfl ?_
    refine js_aload_n 0 rfl dX6_digestOfCharts_21 rfl ?_
    refine js_iload dX6_digestOfCharts_22 rfl ?_
    refine js_iload dX6_digestOfCharts_24 rfl ?_
    refine js_callV (av := [.int (nI e), .int (nI f)]) (st := [.long d]) (b := 0) hct (Or.inl rfl) jw_c_X6_charted jw_i_RX6 jw_m_RX6_305 jw_s_X6_charted jw_e_X6_charted (jl_0 hB) rfl jw_y_X6_charted rfl ⟨(Nat.le_of_ble_eq_true rfl), (Nat.le_of_ble_eq_true rfl), (Nat.le_refl _), (Nat.le_refl _), (Nat.le_of_ble_eq_true rfl)⟩ dX6_digestOfCharts_26 ?_
    refine js_st (st' := [.int q, .long d]) rfl ?_
    refine js_i2l dX6_digestOfCharts_29 ?_
    refine js_callS (av := [.long d, .long q.toInt64]) (st := []) ct_X6_digestStep (Or.inl rfl) jw_c_X6_digestStep jw_i_RX6 jw_m_RX6_346 jw_s_X6_digestStep jw_y_X6_digestStep rfl ⟨(Nat.le_of_ble_eq_true rfl), (Nat.le_of_ble_eq_true rfl), (Nat.le_refl _), (Nat.le_refl _), (Nat.le_of_ble_eq_true rfl)⟩ dX6_digestOfCharts_30 ?_
    refine js_st (st' := [.long ((d * 31) + q.toInt64)]) rfl ?_
    refine js_lstore_n (L' := [some (.ref 0), some (.long start), none, some (.long ((d * 31) + q.toInt64)), none, some (.int (nI e)), some (.int (nI f))]) 3 rfl dX6_digestOfCharts_33 rfl (Nat.le_of_ble_eq_true rfl) ?_
    refine js_iinc (v := nI (f + 1)) (L' := [some (.ref 0), some (.long start), none, some (.long ((d * 31) + q.toInt64)), none, some (.int (nI e)), some (.int (nI (f + 1)))]) dX6_digestOfCharts_34 rfl (jj_inc _) rfl ?_
    refine js_goto 14 dX6_digestOfCharts_37 (by decide) ?_
    refine js_fgL (L' := [some (.ref 0), some (.long start), none, some (.long ((d * 31) + q.toInt64)), none, some (.int (nI e)), some (.int (nI (f + 1)))]) (by simp [jj_le, jj_sm]) ?_
    exact jj_refl
set_option maxRecDepth 100000 in
set_option maxHeartbeats 4000000 in
theorem lo_charts {lay : jj_Lay} {P : jj_P} (hB : jj_pp lay) (hK : jj_K P) {start : Int64} : ∀ (k e : Nat), e + k = 4 → ∀ (S : jj_Mem) (d : Int64), jj_J S P → ∃ (d' : Int64) (S' : jj_Mem), jj_RR cX6_digestOfCharts 7 RX6 yX6_digestOfCharts.name none 3 69 lay.length (jj_sl lay) (5, [some (.ref 0), some (.long start), none, some (.long d), none, some (.int (nI e)), none], [], lay, S) (some (.long d')) .lreturn lay S' ∧ (∀ p, p ≠ 103 → ∀ j, S' p j = S p j) := by
  intro k
  induction k with
  | zero =>
    intro e he S d h
    obtain rfl : e = 4 := by omega
    refine ⟨d, S, ⟨47, [some (.ref 0), some (.long start), none, some (.long d), none, some (.int (nI 4)), none], dX6_digestOfCharts_47, ?_⟩, fun _ _ _ => rfl⟩
    refine js_iload dX6_digestOfCharts_5 rfl ?_
    refine js_iconst (v := nI 4) dX6_digestOfCharts_7 (by decide) ?_
    refine jn_icmp_ge 46 (by omega) (by omega) dX6_digestOfCharts_8 (by decide) (fun _ => ?_) (fun h9 => absurd h9 (by omega))
    refine js_lload_n 3 rfl dX6_digestOfCharts_46 rfl ?_
    exact jj_refl
  | succ k ih =>
    intro e he S d h
    obtain ⟨d1, S1, h1, p1⟩ := li_charts (lay := lay) hB hK (start := start) (e := e) (by omega) 2 0 (by omega) S d h
    obtain ⟨d', S', hR, p2⟩ := ih (e + 1) (by omega) S1 d1 (jj_J_eq h (fun p hp j => p1 p (by omega) j))
    refine ⟨d', S', jj_RRs (jj_tr ?_ (jj_tr h1 ?_)) hR, fun p hp j => (p2 p hp j).trans (p1 p hp j)⟩
    · refine js_iload dX6_digestOfCharts_5 rfl ?_
      refine js_iconst (v := nI 4) dX6_digestOfCharts_7 (by decide) ?_
      refine jn_icmp_ge 46 (by omega) (by omega) dX6_digestOfCharts_8 (by decide) (fun h9 => absurd h9 (by omega)) (fun _ => ?_)
      refine js_iconst (v := nI 0) dX6_digestOfCharts_11 (by decide) ?_
      refine js_istore (L' := [some (.ref 0), some (.long start), none, some (.long d), none, some (.int (nI e)), some (.int (nI 0))]) dX6_digestOfCharts_12 rfl (Nat.le_of_ble_eq_true rfl) ?_
      exact jj_refl
    · refine js_iinc (v := nI (e + 1)) (L' := [some (.ref 0), some (.long start), none, some (.long d1), none, some (.int (nI (e + 1))), some (.int (nI 2))]) dX6_digestOfCharts_40 rfl (jj_inc _) rfl ?_
      refine js_goto 5 dX6_digestOfCharts_43 (by decide) ?_
      refine js_fgL (L' := [some (.ref 0), some (.long start), none, some (.long d1), none, some (.int (nI (e + 1))), none]) (by simp [jj_le, jj_sm]) ?_
      exact jj_refl
set_option maxRecDepth 100000 in
set_option maxHeartbeats 4000000 in
theorem E_X6_digestOfCharts {lay : jj_Lay} {S : jj_Mem} {P : jj_P} (hB : jj_pp lay) (h : jj_J S P) (hK : jj_K P) {start : Int64} : ∃ (d : Int64) (S' : jj_Mem), jj_CT yX6_digestOfCharts (.code yX6_digestOfCharts cX6_digestOfCharts 7 (some .long)) none 3 69 [.ref 0, .long start] lay S (some (.long d)) lay S' ∧ (∀ p, p ≠ 103 → ∀ j, S' p j = S p j) := by
  obtain ⟨d, S', hR, p1⟩ := lo_charts (lay := lay) hB hK (start := start) 4 0 (by omega) S start h
  refine ⟨d, S', ?_, p1⟩
  refine jj_mkL RX6 (by decide) rfl (L := [some (.ref 0), some (.long start), none, none, none, none, none]) rfl rfl ?_
  refine jj_RRs ?_ hR
  refine js_lload_n 1 rfl dX6_digestOfCharts_0 rfl ?_
  refine js_lstore_n (L' := [some (.ref 0), some (.long start), none, some (.long start), none, none, none]) 3 rfl dX6_digestOfCharts_1 rfl (Nat.le_of_ble_eq_true rfl) ?_
  refine js_iconst (v := nI 0) dX6_digestOfCharts_2 (by decide) ?_
  refine js_istore (L' := [some (.ref 0), some (.long start), none, some (.long start), none, some (.int (nI 0)), none]) dX6_digestOfCharts_3 rfl (Nat.le_of_ble_eq_true rfl) ?_
  exact jj_refl
set_option maxRecDepth 100000 in
set_option maxHeartbeats 4000000 in
theorem lo_plays {lay : jj_Lay} {S : jj_Mem} {P : jj_P} (hB : jj_pp lay) (h : jj_J S P) (hK : jj_K P) {start : Int64} : ∀ (k e : Nat), e + k = P.n → ∀ d : Int64, ∃ d' : Int64, jj_RR cX6_digestOfPlays 6 RX6 yX6_digestOfPlays.name none 1 23 lay.length (jj_sl lay) (5, [some (.ref 0), some (.long start), none, some (.long d), none, some (.int (nI e))], [], lay, S) (some (.long d')) .lreturn lay S := by
  have h8 := h.au.1
  have h14 := h.tk.1
  have h130 := h.lg.1
  have ht9 := h.ht
  intro k
  induction k with
  | zero =>
    intro e he d
    have he : e = P.n := by omega
    subst he
    refine ⟨d, ⟨40, [some (.ref 0), some (.long start), none, some (.long d), none, some (.int (nI P.n))], dX6_digestOfPlays_40, ?_⟩⟩
    refine js_iload dX6_digestOfPlays_5 rfl ?_
    refine js_aload_n 0 rfl dX6_digestOfPlays_7 rfl ?_
    refine js_getr 3 jw_f_RX6_33 (jl_0 hB) rfl (Nat.le_of_ble_eq_true rfl) rfl dX6_digestOfPlays_8 ?_
    refine js_getNi 0 jw_n_RX6_194 (jl_35 hB) rfl (Nat.le_of_ble_eq_true rfl) rfl (h.lg.2.1) dX6_digestOfPlays_11 ?_
    refine jn_icmp_ge 39 (by omega) (by omega) dX6_digestOfPlays_14 (by decide) (fun _ => ?_) (fun h9 => absurd h9 (by omega))
    refine js_lload_n 3 rfl dX6_digestOfPlays_39 rfl ?_
    exact jj_refl
  | succ k ih =>
    intro e he d
    obtain ⟨d', hR⟩ := ih (e + 1) (by omega) ((d * 31) + ((nI (P.rs e)).toInt64))
    refine ⟨d', jj_RRs ?_ hR⟩
    refine js_iload dX6_digestOfPlays_5 rfl ?_
    refine js_aload_n 0 rfl dX6_digestOfPlays_7 rfl ?_
    refine js_getr 3 jw_f_RX6_33 (jl_0 hB) rfl (Nat.le_of_ble_eq_true rfl) rfl dX6_digestOfPlays_8 ?_
    refine js_getNi 0 jw_n_RX6_194 (jl_35 hB) rfl (Nat.le_of_ble_eq_true rfl) rfl (h.lg.2.1) dX6_digestOfPlays_11 ?_
    refine jn_icmp_ge 39 (by omega) (by omega) dX6_digestOfPlays_14 (by decide) (fun h9 => absurd h9 (by omega)) (fun _ => ?_)
    refine js_lload_n 3 rfl dX6_digestOfPlays_17 rfl ?_
    refine js_aload_n 0 rfl dX6_digestOfPlays_18 rfl ?_
    refine js_getr 3 jw_f_RX6_33 (jl_0 hB) rfl (Nat.le_of_ble_eq_true rfl) rfl dX6_digestOfPlays_19 ?_
    refine js_getNr 5 jw_n_RX6_200 (jl_35 hB) rfl (Nat.le_of_ble_eq_true rfl) rfl dX6_digestOfPlays_22 ?_
    refine js_iload dX6_digestOfPlays_25 rfl ?_
    refine js_iald e rfl (jl_40 hB) (by omega) (by decide) ((h.lg.2.2 e (by omega)).2.2.2.2.1) dX6_digestOfPlays_27 ?_
    refine js_i2l dX6_digestOfPlays_28 ?_
    refine js_callS (av := [.long d, .long ((nI (P.rs e)).toInt64)]) (st := []) ct_X6_digestStep (Or.inl rfl) jw_c_X6_digestStep jw_i_RX6 jw_m_RX6_346 jw_s_X6_digestStep jw_y_X6_digestStep rfl ⟨(Nat.le_of_ble_eq_true rfl), (Nat.le_of_ble_eq_true rfl), (Nat.le_refl _), (Nat.le_refl _), (Nat.le_of_ble_eq_true rfl)⟩ dX6_digestOfPlays_29 ?_
    refine js_st (st' := [.long ((d * 31) + ((nI (P.rs e)).toInt64))]) rfl ?_
    refine js_lstore_n (L' := [some (.ref 0), some (.long start), none, some (.long ((d * 31) + ((nI (P.rs e)).toInt64))), none, some (.int (nI e))]) 3 rfl dX6_digestOfPlays_32 rfl (Nat.le_of_ble_eq_true rfl) ?_
    refine js_iinc (v := nI (e + 1)) (L' := [some (.ref 0), some (.long start), none, some (.long ((d * 31) + ((nI (P.rs e)).toInt64))), none, some (.int (nI (e + 1)))]) dX6_digestOfPlays_33 rfl (jj_inc _) rfl ?_
    refine js_goto 5 dX6_digestOfPlays_36 (by decide) ?_
    refine js_fgL (L' := [some (.ref 0), some (.long start), none, some (.long ((d * 31) + ((nI (P.rs e)).toInt64))), none, some (.int (nI (e + 1)))]) (by simp [jj_le, jj_sm]) ?_
    exact jj_refl
set_option maxRecDepth 100000 in
set_option maxHeartbeats 4000000 in
theorem E_X6_digestOfPlays {lay : jj_Lay} {S : jj_Mem} {P : jj_P} (hB : jj_pp lay) (h : jj_J S P) (hK : jj_K P) {start : Int64} : ∃ d : Int64, jj_CT yX6_digestOfPlays (.code yX6_digestOfPlays cX6_digestOfPlays 6 (some .long)) none 1 23 [.ref 0, .long start] lay S (some (.long d)) lay S := by
  obtain ⟨d, hR⟩ := lo_plays (lay := lay) hB h hK (start := start) P.n 0 (by omega) start
  refine ⟨d, ?_⟩
  refine jj_mkL RX6 (by decide) rfl (L := [some (.ref 0), some (.long start), none, none, none, none]) rfl rfl ?_
  refine jj_RRs ?_ hR
  refine js_lload_n 1 rfl dX6_digestOfPlays_0 rfl ?_
  refine js_lstore_n (L' := [some (.ref 0), some (.long start), none, some (.long start), none, none]) 3 rfl dX6_digestOfPlays_1 rfl (Nat.le_of_ble_eq_true rfl) ?_
  refine js_iconst (v := nI 0) dX6_digestOfPlays_2 (by decide) ?_
  refine js_istore (L' := [some (.ref 0), some (.long start), none, some (.long start), none, some (.int (nI 0))]) dX6_digestOfPlays_3 rfl (Nat.le_of_ble_eq_true rfl) ?_
  exact jj_refl
set_option maxRecDepth 100000 in
set_option maxHeartbeats 4000000 in
theorem jj_mon {S : jj_Mem} {P : jj_P} (h : jj_J S P) (hK : jj_K P) (hT : jj_T P) : jj_im S P.cnt P.im ∧ (∀ l, l < P.cnt → jj_sm (P.im l) 10 ≤ 1000) ∧ jj_sm (fun l => jj_sm (P.im l) 10) P.cnt ≤ 1000 ∧ (∀ j, j < 5 → P.ad j < 2 ^ 31) ∧ jj_tot P.h P.x P.ca P.he P.du P.pa P.re + jj_sm (fun l => jj_fee (P.pl l)) P.cnt ≤ 1000000 ∧ jj_tot P.h P.x P.ca P.he P.du P.pa P.re ≤ 48000 := by
  have h8 := h.au.1
  have hn130 := h.lg.1
  have h9 : jj_tot P.h P.x P.ca P.he P.du P.pa P.re = P.t / 14400 * jj_sm (fun l => jj_fee (P.pl l)) P.cnt := hT
  have hfe := jj_fees_le P.pl h8
  have ht := h.ht
  have hmu : P.t / 14400 * jj_sm (fun l => jj_fee (P.pl l)) P.cnt ≤ 6 * 8000 := Nat.mul_le_mul (by omega) hfe
  have him3 : jj_sm (fun l => jj_sm (P.im l) 10) P.cnt ≤ 1000 := Nat.le_trans (jj_sm_mono h8) (Nat.le_trans hK.2.1 (by omega))
  exact ⟨fun l hl j hj => h.im l (by omega) j hj, fun l hl => Nat.le_trans (jj_sm_at (f := fun l => jj_sm (P.im l) 10) hl) him3, him3, fun j _ => by rw [h.ad0 j]; omega, by omega, by omega⟩
set_option maxRecDepth 100000 in
set_option maxHeartbeats 4000000 in
theorem E_X6_digest {lay : jj_Lay} {S : jj_Mem} {P : jj_P} (hB : jj_pp lay) (h : jj_J S P) (hK : jj_K P) (hT : jj_T P) : ∃ (d : Int64) (S' : jj_Mem), jj_CT yX6_digest (.code yX6_digest cX6_digest 3 (some .long)) none 6 140 [.ref 0] lay S (some (.long d)) lay S' ∧ (∀ p, p < 81 ∨ 103 < p → ∀ j, S' p j = S p j) := by
  obtain ⟨m1, m2, m3, m4, m5, m6⟩ := jj_mon h hK hT
  obtain ⟨h0, x0, ca0, ge0, he0, du0, pa0, ad0, re0, S1, hct0, a1, a2, a3, a4, a5⟩ := ct_X6_tryClosing (lay := lay) (S := S) (rule := 0) hB (by omega) h.au m1 h.cm m2 m3 h.bs m4 m5
  have e0 : jj_tb 0 = 81 := rfl
  have e1 : jj_tb 1 = 92 := rfl
  rw [e0] at a1 a5
  have hJ1 : jj_J S1 P := jj_J_eq h (fun p hp j => a5 p (by omega) j)
  obtain ⟨h1, x1, ca1, ge1, he1, du1, pa1, ad1, re1, S2, hct1, b1, b2, b3, b4, b5⟩ := ct_X6_tryClosing (lay := lay) (S := S1) (rule := 1) hB (by omega) hJ1.au (fun l hl j hj => hJ1.im l (by have := hJ1.au.1; omega) j hj) hJ1.cm m2 m3 hJ1.bs m4 m5
  rw [e1] at b1 b5
  have hJ2 : jj_J S2 P := jj_J_eq hJ1 (fun p hp j => b5 p (by omega) j)
  have htr : ∀ rule, rule < 2 → (∀ u, u < 10 → ∃ y, S2 (jj_tb rule + 2) u = some (nI y) ∧ P.ge u ≤ y) ∧ (∀ u, u < 5 → ∃ y, S2 (jj_tb rule + 5) u = some (nI y) ∧ P.pa u ≤ y) := fun rule hr => by
    rcases (show rule = 0 ∨ rule = 1 by omega) with rfl | rfl
    · exact ⟨fun u hu => ⟨ge0 u, (b5 83 (by omega) u).trans (a1.2.2.2.1 u hu), (a3 u hu).1⟩, fun u hu => ⟨pa0 u, (b5 86 (by omega) u).trans (a1.2.2.2.2.2.2.1 u hu), a4 u⟩⟩
    · exact ⟨fun u hu => ⟨ge1 u, b1.2.2.2.1 u hu, (b3 u hu).1⟩, fun u hu => ⟨pa1 u, b1.2.2.2.2.2.2.1 u hu, b4 u⟩⟩
  obtain ⟨d1, hd1⟩ := E_X6_digestOfTotals (lay := lay) hB hJ2 hK (start := 9106)
  obtain ⟨d2, hd2⟩ := E_X6_digestOfTracks (lay := lay) hB hJ2 hK (start := d1)
  obtain ⟨d3, hd3⟩ := E_X6_digestOfListeners (lay := lay) hB hJ2 hK (start := d2)
  obtain ⟨d4, hd4⟩ := E_X6_digestOfParties (lay := lay) hB hJ2 hK htr (start := d3)
  obtain ⟨d5, hd5⟩ := E_X6_digestOfRecordings (lay := lay) hB hJ2 hK htr (start := d4)
  obtain ⟨d6, S3, hd6, c1⟩ := E_X6_digestOfCharts (lay := lay) hB hJ2 hK (start := d5)
  have hJ3 : jj_J S3 P := jj_J_eq hJ2 (fun p hp j => c1 p (by omega) j)
  obtain ⟨q, hq⟩ := ct_X3_hearersOfBoth (lay := lay) hB hJ3.ev (jj_ev31 hK h.lg.1) (u := 0) (v := 1) (by omega) (by omega)
  obtain ⟨d8, hd8⟩ := E_X6_digestOfPlays (lay := lay) hB hJ3 hK (start := (d6 * 31) + q.toInt64)
  refine ⟨d8, S3, ?_, fun p hp j => (c1 p (by omega) j).trans ((b5 p (by omega) j).trans (a5 p (by omega) j))⟩
  refine jj_mkL RX6 (by decide) rfl (L := [some (.ref 0), none, none]) rfl rfl ⟨76, [some (.ref 0), some (.long ((d6 * 31) + q.toInt64)), none], dX6_digest_76, ?_⟩
  refine js_iconst (v := nI 0) dX6_digest_0 (by decide) ?_
  refine js_istore_n (L' := [some (.ref 0), some (.int (nI 0)), none]) 1 rfl dX6_digest_1 rfl (Nat.le_of_ble_eq_true rfl) ?_
  refine js_iload_n 1 rfl dX6_digest_2 rfl ?_
  refine js_iconst (v := nI 2) dX6_digest_3 (by decide) ?_
  refine jn_icmp_ge 18 (by omega) (by omega) dX6_digest_4 (by decide) (fun h9 => absurd h9 (by omega)) (fun _ => ?_)
  refine js_aload_n 0 rfl dX6_digest_7 rfl ?_
  refine js_iload_n 1 rfl dX6_digest_8 rfl ?_
  refine js_callV (av := [.int (nI 0)]) (st := []) (b := 0) hct0 (Or.inl rfl) jw_c_X6_tryClosing jw_i_RX6 jw_m_RX6_316 jw_s_X6_tryClosing jw_e_X6_tryClosing (jl_0 hB) rfl jw_y_X6_tryClosing rfl ⟨(Nat.le_of_ble_eq_true rfl), (Nat.le_of_ble_eq_true rfl), (Nat.le_refl _), (Nat.le_refl _), (Nat.le_of_ble_eq_true rfl)⟩ dX6_digest_9 ?_
  refine js_st (st' := []) rfl ?_
  refine js_iinc (v := nI (0 + 1)) (L' := [some (.ref 0), some (.int (nI (0 + 1))), none]) dX6_digest_12 rfl (jj_inc _) rfl ?_
  refine js_goto 2 dX6_digest_15 (by decide) ?_
  refine js_iload_n 1 rfl dX6_digest_2 rfl ?_
  refine js_iconst (v := nI 2) dX6_digest_3 (by decide) ?_
  refine jn_icmp_ge 18 (by omega) (by omega) dX6_digest_4 (by decide) (fun h9 => absurd h9 (by omega)) (fun _ => ?_)
  refine js_aload_n 0 rfl dX6_digest_7 rfl ?_
  refine js_iload_n 1 rfl dX6_digest_8 rfl ?_
  refine js_callV (av := [.int (nI (0 + 1))]) (st := []) (b := 0) hct1 (Or.inl rfl) jw_c_X6_tryClosing jw_i_RX6 jw_m_RX6_316 jw_s_X6_tryClosing jw_e_X6_tryClosing (jl_0 hB) rfl jw_y_X6_tryClosing rfl ⟨(Nat.le_of_ble_eq_true rfl), (Nat.le_of_ble_eq_true rfl), (Nat.le_refl _), (Nat.le_refl _), (Nat.le_of_ble_eq_true rfl)⟩ dX6_digest_9 ?_
  refine js_st (st' := []) rfl ?_
  refine js_iinc (v := nI ((0 + 1) + 1)) (L' := [some (.ref 0), some (.int (nI ((0 + 1) + 1))), none]) dX6_digest_12 rfl (jj_inc _) rfl ?_
  refine js_goto 2 dX6_digest_15 (by decide) ?_
  refine js_iload_n 1 rfl dX6_digest_2 rfl ?_
  refine js_iconst (v := nI 2) dX6_digest_3 (by decide) ?_
  refine jn_icmp_ge 18 (by omega) (by omega) dX6_digest_4 (by decide) (fun _ => ?_) (fun h9 => absurd h9 (by omega))
  refine js_aload_n 0 rfl dX6_digest_18 rfl ?_
  refine js_ldc2 dX6_digest_19 jw_l_RX6_325 ?_
  refine js_callV (av := [.long 9106]) (st := []) (b := 0) hd1 (Or.inl rfl) jw_c_X6_digestOfTotals jw_i_RX6 jw_m_RX6_327 jw_s_X6_digestOfTotals jw_e_X6_digestOfTotals (jl_0 hB) rfl jw_y_X6_digestOfTotals rfl ⟨(Nat.le_of_ble_eq_true rfl), (Nat.le_of_ble_eq_true rfl), (Nat.le_refl _), (Nat.le_refl _), (Nat.le_of_ble_eq_true rfl)⟩ dX6_digest_22 ?_
  refine js_st (st' := [.long d1]) rfl ?_
  refine js_lstore_n (L' := [some (.ref 0), some (.long d1), none]) 1 rfl dX6_digest_25 rfl (Nat.le_of_ble_eq_true rfl) ?_
  refine js_aload_n 0 rfl dX6_digest_26 rfl ?_
  refine js_lload_n 1 rfl dX6_digest_27 rfl ?_
  refine js_callV (av := [.long d1]) (st := []) (b := 0) hd2 (Or.inl rfl) jw_c_X6_digestOfTracks jw_i_RX6 jw_m_RX6_331 jw_s_X6_digestOfTracks jw_e_X6_digestOfTracks (jl_0 hB) rfl jw_y_X6_digestOfTracks rfl ⟨(Nat.le_of_ble_eq_true rfl), (Nat.le_of_ble_eq_true rfl), (Nat.le_refl _), (Nat.le_refl _), (Nat.le_of_ble_eq_true rfl)⟩ dX6_digest_28 ?_
  refine js_st (st' := [.long d2]) rfl ?_
  refine js_lstore_n (L' := [some (.ref 0), some (.long d2), none]) 1 rfl dX6_digest_31 rfl (Nat.le_of_ble_eq_true rfl) ?_
  refine js_aload_n 0 rfl dX6_digest_32 rfl ?_
  refine js_lload_n 1 rfl dX6_digest_33 rfl ?_
  refine js_callV (av := [.long d2]) (st := []) (b := 0) hd3 (Or.inl rfl) jw_c_X6_digestOfListeners jw_i_RX6 jw_m_RX6_334 jw_s_X6_digestOfListeners jw_e_X6_digestOfListeners (jl_0 hB) rfl jw_y_X6_digestOfListeners rfl ⟨(Nat.le_of_ble_eq_true rfl), (Nat.le_of_ble_eq_true rfl), (Nat.le_refl _), (Nat.le_refl _), (Nat.le_of_ble_eq_true rfl)⟩ dX6_digest_34 ?_
  refine js_st (st' := [.long d3]) rfl ?_
  refine js_lstore_n (L' := [some (.ref 0), some (.long d3), none]) 1 rfl dX6_digest_37 rfl (Nat.le_of_ble_eq_true rfl) ?_
  refine js_aload_n 0 rfl dX6_digest_38 rfl ?_
  refine js_lload_n 1 rfl dX6_digest_39 rfl ?_
  refine js_callV (av := [.long d3]) (st := []) (b := 0) hd4 (Or.inl rfl) jw_c_X6_digestOfParties jw_i_RX6 jw_m_RX6_337 jw_s_X6_digestOfParties jw_e_X6_digestOfParties (jl_0 hB) rfl jw_y_X6_digestOfParties rfl ⟨(Nat.le_of_ble_eq_true rfl), (Nat.le_of_ble_eq_true rfl), (Nat.le_refl _), (Nat.le_refl _), (Nat.le_of_ble_eq_true rfl)⟩ dX6_digest_40 ?_
  refine js_st (st' := [.long d4]) rfl ?_
  refine js_lstore_n (L' := [some (.ref 0), some (.long d4), none]) 1 rfl dX6_digest_43 rfl (Nat.le_of_ble_eq_true rfl) ?_
  refine js_aload_n 0 rfl dX6_digest_44 rfl ?_
  refine js_lload_n 1 rfl dX6_digest_45 rfl ?_
  refine js_callV (av := [.long d4]) (st := []) (b := 0) hd5 (Or.inl rfl) jw_c_X6_digestOfRecordings jw_i_RX6 jw_m_RX6_340 jw_s_X6_digestOfRecordings jw_e_X6_digestOfRecordings (jl_0 hB) rfl jw_y_X6_digestOfRecordings rfl ⟨(Nat.le_of_ble_eq_true rfl), (Nat.le_of_ble_eq_true rfl), (Nat.le_refl _), (Nat.le_refl _), (Nat.le_of_ble_eq_true rfl)⟩ dX6_digest_46 ?_
  refine js_st (st' := [.long d5]) rfl ?_
  refine js_lstore_n (L' := [some (.ref 0), some (.long d5), none]) 1 rfl dX6_digest_49 rfl (Nat.le_of_ble_eq_true rfl) ?_
  refine js_aload_n 0 rfl dX6_digest_50 rfl ?_
  refine js_lload_n 1 rfl dX6_digest_51 rfl ?_
  refine js_callV (av := [.long d5]) (st := []) (b := 0) hd6 (Or.inl rfl) jw_c_X6_digestOfCharts jw_i_RX6 jw_m_RX6_343 jw_s_X6_digestOfCharts jw_e_X6_digestOfCharts (jl_0 hB) rfl jw_y_X6_digestOfCharts rfl ⟨(Nat.le_of_ble_eq_true rfl), (Nat.le_of_ble_eq_true rfl), (Nat.le_refl _), (Nat.le_refl _), (Nat.le_of_ble_eq_true rfl)⟩ dX6_digest_52 ?_
  refine js_st (st' := [.long d6]) rfl ?_
  refine js_lstore_n (L' := [some (.ref 0), some (.long d6), none]) 1 rfl dX6_digest_55 rfl (Nat.le_of_ble_eq_true rfl) ?_
  refine js_lload_n 1 rfl dX6_digest_56 rfl ?_
  refine js_aload_n 0 rfl dX6_digest_57 rfl ?_
  refine js_getr 4 jw_f_RX6_40 (jl_0 hB) rfl (Nat.le_of_ble_eq_true rfl) rfl dX6_digest_58 ?_
  refine js_iconst (v := nI 0) dX6_digest_61 (by decide) ?_
  refine js_iconst (v := nI 1) dX6_digest_62 (by decide) ?_
  refine js_callVN (av := [.int (nI 0), .int (nI 1)]) (st := [.long d6]) (b := 42) hq (Or.inl rfl) jw_c_X3_hearersOfBoth jw_i_RX3 jw_h_RX6_310 jw_s_X3_hearersOfBoth jw_e_X3_hearersOfBoth (jl_42 hB) rfl jw_y_X3_hearersOfBoth rfl ⟨(Nat.le_of_ble_eq_true rfl), (Nat.le_of_ble_eq_true rfl), (Nat.le_refl _), (Nat.le_refl _), (Nat.le_of_ble_eq_true rfl)⟩ dX6_digest_63 ?_
  refine js_st (st' := [.int q, .long d6]) rfl ?_
  refine js_i2l dX6_digest_66 ?_
  refine js_callS (av := [.long d6, .long q.toInt64]) (st := []) ct_X6_digestStep (Or.inl rfl) jw_c_X6_digestStep jw_i_RX6 jw_m_RX6_346 jw_s_X6_digestStep jw_y_X6_digestStep rfl ⟨(Nat.le_of_ble_eq_true rfl), (Nat.le_of_ble_eq_true rfl), (Nat.le_refl _), (Nat.le_refl _), (Nat.le_of_ble_eq_true rfl)⟩ dX6_digest_67 ?_
  refine js_st (st' := [.long ((d6 * 31) + q.toInt64)]) rfl ?_
  refine js_lstore_n (L' := [some (.ref 0), some (.long ((d6 * 31) + q.toInt64)), none]) 1 rfl dX6_digest_70 rfl (Nat.le_of_ble_eq_true rfl) ?_
  refine js_aload_n 0 rfl dX6_digest_71 rfl ?_
  refine js_lload_n 1 rfl dX6_digest_72 rfl ?_
  refine js_callV (av := [.long ((d6 * 31) + q.toInt64)]) (st := []) (b := 0) hd8 (Or.inl rfl) jw_c_X6_digestOfPlays jw_i_RX6 jw_m_RX6_350 jw_s_X6_digestOfPlays jw_e_X6_digestOfPlays (jl_0 hB) rfl jw_y_X6_digestOfPlays rfl ⟨(Nat.le_of_ble_eq_true rfl), (Nat.le_of_ble_eq_true rfl), (Nat.le_refl _), (Nat.le_refl _), (Nat.le_of_ble_eq_true rfl)⟩ dX6_digest_73 ?_
  refine js_st (st' := [.long d8]) rfl ?_
  exact jj_refl

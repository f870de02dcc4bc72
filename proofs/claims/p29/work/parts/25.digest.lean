/-! THE DIGEST. -/
set_option maxRecDepth 100000 in
set_option maxHeartbeats 4000000 in
theorem ct_X6_digestStep {lay : jj_Lay} {S : jj_Mem} {d v : Int64} : jj_CT yX6_digestStep (.code yX6_digestStep cX6_digestStep 4 (some .long)) none 0 0 [.long d, .long v] lay S (some (.long ((d * 31) + v))) lay S := by
  refine jj_mkL RX6 (by decide) rfl (L := [some (.long d), none, some (.long v), none]) rfl rfl ⟨7, [some (.long d), none, some (.long v), none], dX6_digestStep_7, ?_⟩
  refine js_lload_n 0 rfl dX6_digestStep_0 rfl ?_
  refine js_ldc2 dX6_digestStep_1 jw_l_RX6_432 ?_
  refine js_lmul dX6_digestStep_4 ?_
  refine js_lload_n 2 rfl dX6_digestStep_5 rfl ?_
  refine js_ladd dX6_digestStep_6 ?_
  exact jj_refl
set_option maxRecDepth 100000 in
set_option maxHeartbeats 4000000 in
theorem ls_tot1 {lay : jj_Lay} {S : jj_Mem} {P : jj_P} (hB : jj_pp lay) (h : jj_J S P) (hK : jj_K P) {start : Int64} : ∀ (k f : Nat), f + k = 18 → ∀ d : Int64, ∃ d' : Int64, jj_R cX6_digestOfTotals 6 RX6 yX6_digestOfTotals.name none 2 46 lay.length (jj_sl lay) (5, [some (.ref 0), some (.long start), none, some (.long d), none, some (.int (nI f))], [], lay, S) (30, [some (.ref 0), some (.long start), none, some (.long d'), none, some (.int (nI 18))], [], lay, S) := by
  intro k
  induction k with
  | zero =>
    intro f hf d
    obtain rfl : f = 18 := by omega
    refine ⟨d, ?_⟩
    refine js_iload dX6_digestOfTotals_5 rfl ?_
    refine js_bipush (v := nI 17) dX6_digestOfTotals_7 (by decide) ?_
    refine jn_icmp_gt 30 (by omega) (by omega) dX6_digestOfTotals_9 (by decide) (fun _ => ?_) (fun h9 => absurd h9 (by omega))
    exact jj_refl
  | succ k ih =>
    intro f hf d
    obtain ⟨q, hct⟩ := E_X6_many (lay := lay) hB h hK (what := f) (by omega)
    obtain ⟨d', hR⟩ := ih (f + 1) (by omega) ((d * 31) + q.toInt64)
    refine ⟨d', jj_tr ?_ hR⟩
    refine js_iload dX6_digestOfTotals_5 rfl ?_
    refine js_bipush (v := nI 17) dX6_digestOfTotals_7 (by decide) ?_
    refine jn_icmp_gt 30 (by omega) (by omega) dX6_digestOfTotals_9 (by decide) (fun h9 => absurd h9 (by omega)) (fun _ => ?_)
    refine js_lload_n 3 rfl dX6_digestOfTotals_12 rfl ?_
    refine js_aload_n 0 rfl dX6_digestOfTotals_13 rfl ?_
    refine js_iload dX6_digestOfTotals_14 rfl ?_
    refine js_callV (av := [.int (nI f)]) (st := [.long d]) (b := 0) hct (Or.inl rfl) jw_c_X6_many jw_i_RX6 jw_m_RX6_434 jw_s_X6_many jw_e_X6_many (jl_0 hB) rfl jw_y_X6_many rfl ⟨(Nat.le_of_ble_eq_true rfl), (Nat.le_of_ble_eq_true rfl), (Nat.le_refl _), (Nat.le_refl _), (Nat.le_of_ble_eq_true rfl)⟩ dX6_digestOfTotals_16 ?_
    refine js_st (st' := [.int q, .long d]) rfl ?_
    refine js_i2l dX6_digestOfTotals_19 ?_
    refine js_callS (av := [.long d, .long q.toInt64]) (st := []) ct_X6_digestStep (Or.inl rfl) jw_c_X6_digestStep jw_i_RX6 jw_m_RX6_346 jw_s_X6_digestStep jw_y_X6_digestStep rfl ⟨(Nat.le_of_ble_eq_true rfl), (Nat.le_of_ble_eq_true rfl), (Nat.le_refl _), (Nat.le_refl _), (Nat.le_of_ble_eq_true rfl)⟩ dX6_digestOfTotals_20 ?_
    refine js_st (st' := [.long ((d * 31) + q.toInt64)]) rfl ?_
    refine js_lstore_n (L' := [some (.ref 0), some (.long start), none, some (.long ((d * 31) + q.toInt64)), none, some (.int (nI f))]) 3 rfl dX6_digestOfTotals_23 rfl (Nat.le_of_ble_eq_true rfl) ?_
    refine js_iinc (v := nI (f + 1)) (L' := [some (.ref 0), some (.long start), none, some (.long ((d * 31) + q.toInt64)), none, some (.int (nI (f + 1)))]) dX6_digestOfTotals_24 rfl (jj_inc _) rfl ?_
    refine js_goto 5 dX6_digestOfTotals_27 (by decide) ?_
    refine js_fgL (L' := [some (.ref 0), some (.long start), none, some (.long ((d * 31) + q.toInt64)), none, some (.int (nI (f + 1)))]) (by simp [jj_le, jj_sm]) ?_
    exact jj_refl
set_option maxRecDepth 100000 in
set_option maxHeartbeats 4000000 in
theorem ls_tot2 {lay : jj_Lay} {S : jj_Mem} {P : jj_P} (hB : jj_pp lay) (h : jj_J S P) (hK : jj_K P) {start : Int64} : ∀ (k f : Nat), f + k = 6 → ∀ d : Int64, ∃ d' : Int64, jj_R cX6_digestOfTotals 6 RX6 yX6_digestOfTotals.name none 2 46 lay.length (jj_sl lay) (33, [some (.ref 0), some (.long start), none, some (.long d), none, some (.int (nI f))], [], lay, S) (61, [some (.ref 0), some (.long start), none, some (.long d'), none, some (.int (nI 6))], [], lay, S) := by
  intro k
  induction k with
  | zero =>
    intro f hf d
    obtain rfl : f = 6 := by omega
    refine ⟨d, ?_⟩
    refine js_iload dX6_digestOfTotals_33 rfl ?_
    refine js_bipush (v := nI 6) dX6_digestOfTotals_35 (by decide) ?_
    refine jn_icmp_ge 61 (by omega) (by omega) dX6_digestOfTotals_37 (by decide) (fun _ => ?_) (fun h9 => absurd h9 (by omega))
    exact jj_refl
  | succ k ih =>
    intro f hf d
    obtain ⟨q, hct⟩ := ct_X4_countWithReason (lay := lay) hB h.lg (u := nI f)
    obtain ⟨d', hR⟩ := ih (f + 1) (by omega) ((d * 31) + q.toInt64)
    refine ⟨d', jj_tr ?_ hR⟩
    refine js_iload dX6_digestOfTotals_33 rfl ?_
    refine js_bipush (v := nI 6) dX6_digestOfTotals_35 (by decide) ?_
    refine jn_icmp_ge 61 (by omega) (by omega) dX6_digestOfTotals_37 (by decide) (fun h9 => absurd h9 (by omega)) (fun _ => ?_)
    refine js_lload_n 3 rfl dX6_digestOfTotals_40 rfl ?_
    refine js_aload_n 0 rfl dX6_digestOfTotals_41 rfl ?_
    refine js_getr 3 jw_f_RX6_33 (jl_0 hB) rfl (Nat.le_of_ble_eq_true rfl) rfl dX6_digestOfTotals_42 ?_
    refine js_iload dX6_digestOfTotals_45 rfl ?_
    refine js_callVN (av := [.int (nI f)]) (st := [.long d]) (b := 35) hct (Or.inl rfl) jw_c_X4_countWithReason jw_i_RX4 jw_h_RX6_289 jw_s_X4_countWithReason jw_e_X4_countWithReason (jl_35 hB) rfl jw_y_X4_countWithReason rfl ⟨(Nat.le_of_ble_eq_true rfl), (Nat.le_of_ble_eq_true rfl), (Nat.le_refl _), (Nat.le_refl _), (Nat.le_of_ble_eq_true rfl)⟩ dX6_digestOfTotals_47 ?_
    refine js_st (st' := [.int q, .long d]) rfl ?_
    refine js_i2l dX6_digestOfTotals_50 ?_
    refine js_callS (av := [.long d, .long q.toInt64]) (st := []) ct_X6_digestStep (Or.inl rfl) jw_c_X6_digestStep jw_i_RX6 jw_m_RX6_346 jw_s_X6_digestStep jw_y_X6_digestStep rfl ⟨(Nat.le_of_ble_eq_true rfl), (Nat.le_of_ble_eq_true rfl), (Nat.le_refl _), (Nat.le_refl _), (Nat.le_of_ble_eq_true rfl)⟩ dX6_digestOfTotals_51 ?_
    refine js_st (st' := [.long ((d * 31) + q.toInt64)]) rfl ?_
    refine js_lstore_n (L' := [some (.ref 0), some (.long start), none, some (.long ((d * 31) + q.toInt64)), none, some (.int (nI f))]) 3 rfl dX6_digestOfTotals_54 rfl (Nat.le_of_ble_eq_true rfl) ?_
    refine js_iinc (v := nI (f + 1)) (L' := [some (.ref 0), some (.long start), none, some (.long ((d * 31) + q.toInt64)), none, some (.int (nI (f + 1)))]) dX6_digestOfTotals_55 rfl (jj_inc _) rfl ?_
    refine js_goto 33 dX6_digestOfTotals_58 (by decide) ?_
    refine js_fgL (L' := [some (.ref 0), some (.long start), none, some (.long ((d * 31) + q.toInt64)), none, some (.int (nI (f + 1)))]) (by simp [jj_le, jj_sm]) ?_
    exact jj_refl
set_option maxRecDepth 100000 in
set_option maxHeartbeats 4000000 in
theorem E_X6_digestOfTotals {lay : jj_Lay} {S : jj_Mem} {P : jj_P} (hB : jj_pp lay) (h : jj_J S P) (hK : jj_K P) {start : Int64} : ∃ d : Int64, jj_CT yX6_digestOfTotals (.code yX6_digestOfTotals cX6_digestOfTotals 6 (some .long)) none 2 46 [.ref 0, .long start] lay S (some (.long d)) lay S := by
  obtain ⟨d1, h1⟩ := ls_tot1 (lay := lay) hB h hK (start := start) 18 0 (by omega) start
  obtain ⟨d2, h2⟩ := ls_tot2 (lay := lay) hB h hK (start := start) 6 0 (by omega) d1
  refine ⟨d2, ?_⟩
  refine jj_mkL RX6 (by decide) rfl (L := [some (.ref 0), some (.long start), none, none, none, none]) rfl rfl ⟨62, [some (.ref 0), some (.long start), none, some (.long d2), none, some (.int (nI 6))], dX6_digestOfTotals_62, ?_⟩
  have b : jj_R cX6_digestOfTotals 6 RX6 yX6_digestOfTotals.name none 2 46 lay.length (jj_sl lay) (30, [some (.ref 0), some (.long start), none, some (.long d1), none, some (.int (nI 18))], [], lay, S) (33, [some (.ref 0), some (.long start), none, some (.long d1), none, some (.int (nI 0))], [], lay, S) := by
    refine js_iconst (v := nI 0) dX6_digestOfTotals_30 (by decide) ?_
    refine js_istore (L' := [some (.ref 0), some (.long start), none, some (.long d1), none, some (.int (nI 0))]) dX6_digestOfTotals_31 rfl (Nat.le_of_ble_eq_true rfl) ?_
    exact jj_refl
  refine jj_tr ?_ (jj_tr h1 (jj_tr b (jj_tr h2 ?_)))
  · refine js_lload_n 1 rfl dX6_digestOfTotals_0 rfl ?_
    refine js_lstore_n (L' := [some (.ref 0), some (.long start), none, some (.long start), none, none]) 3 rfl dX6_digestOfTotals_1 rfl (Nat.le_of_ble_eq_true rfl) ?_
    refine js_iconst (v := nI 0) dX6_digestOfTotals_2 (by decide) ?_
    refine js_istore (L' := [some (.ref 0), some (.long start), none, some (.long start), none, some (.int (nI 0))]) dX6_digestOfTotals_3 rfl (Nat.le_of_ble_eq_true rfl) ?_
    exact jj_refl
  · refine js_lload_n 3 rfl dX6_digestOfTotals_61 rfl ?_
    exact jj_refl
set_option maxRecDepth 100000 in
set_option maxHeartbeats 4000000 in
theorem li_tracks {lay : jj_Lay} {S : jj_Mem} {P : jj_P} (hB : jj_pp lay) (h : jj_J S P) (hK : jj_K P) {start : Int64} {e : Nat} (hl : e < P.nt) : ∀ (k f : Nat), f + k = 4 → ∀ d : Int64, ∃ d' : Int64, jj_R cX6_digestOfTracks 7 RX6 yX6_digestOfTracks.name none 3 70 lay.length (jj_sl lay) (20, [some (.ref 0), some (.long start), none, some (.long d), none, some (.int (nI e)), some (.int (nI f))], [], lay, S) (46, [some (.ref 0), some (.long start), none, some (.long d'), none, some (.int (nI e)), some (.int (nI 4))], [], lay, S) := by
  have h8 := h.au.1
  have h14 := h.tk.1
  have h130 := h.lg.1
  have ht9 := h.ht
  intro k
  induction k with
  | zero =>
    intro f hf d
    obtain rfl : f = 4 := by omega
    refine ⟨d, ?_⟩
    refine js_iload dX6_digestOfTracks_20 rfl ?_
    refine js_iconst (v := nI 3) dX6_digestOfTracks_22 (by decide) ?_
    refine jn_icmp_gt 46 (by omega) (by omega) dX6_digestOfTracks_23 (by decide) (fun _ => ?_) (fun h9 => absurd h9 (by omega))
    exact jj_refl
  | succ k ih =>
    intro f hf d
    obtain ⟨q, hct⟩ := E_X6_ofTrack (lay := lay) hB h hK hl (what := f) (by omega)
    obtain ⟨d', hR⟩ := ih (f + 1) (by omega) ((d * 31) + q.toInt64)
    refine ⟨d', jj_tr ?_ hR⟩
    refine js_iload dX6_digestOfTracks_20 rfl ?_
    refine js_iconst (v := nI 3) dX6_digestOfTracks_22 (by decide) ?_
    refine jn_icmp_gt 46 (by omega) (by omega) dX6_digestOfTracks_23 (by decide) (fun h9 => absurd h9 (by omega)) (fun _ => ?_)
    refine js_lload_n 3 rfl dX6_digestOfTracks_26 rfl ?_
    refine js_aload_n 0 rfl dX6_digestOfTracks_27 rfl ?_
    refine js_iload dX6_digestOfTracks_28 rfl ?_
    refine js_iload dX6_digestOfTracks_30 rfl ?_
    refine js_callV (av := [.int (nI e), .int (nI f)]) (st := [.long d]) (b := 0) hct (Or.inl rfl) jw_c_X6_ofTrack jw_i_RX6 jw_m_RX6_437 jw_s_X6_ofTrack jw_e_X6_ofTrack (jl_0 hB) rfl jw_y_X6_ofTrack rfl ⟨(Nat.le_of_ble_eq_true rfl), (Nat.le_of_ble_eq_true rfl), (Nat.le_refl _), (Nat.le_refl _), (Nat.le_of_ble_eq_true rfl)⟩ dX6_digestOfTracks_32 ?_
    refine js_st (st' := [.int q, .long d]) rfl ?_
    refine js_i2l dX6_digestOfTracks_35 ?_
    refine js_callS (av := [.long d, .long q.toInt64]) (st := []) ct_X6_digestStep (Or.inl rfl) jw_c_X6_digestStep jw_i_RX6 jw_m_RX6_346 jw_s_X6_digestStep jw_y_X6_digestStep rfl ⟨(Nat.le_of_ble_eq_true rfl), (Nat.le_of_ble_eq_true rfl), (Nat.le_refl _), (Nat.le_refl _), (Nat.le_of_ble_eq_true rfl)⟩ dX6_digestOfTracks_36 ?_
    refine js_st (st' := [.long ((d * 31) + q.toInt64)]) rfl ?_
    refine js_lstore_n (L' := [some (.ref 0), some (.long start), none, some (.long ((d * 31) + q.toInt64)), none, some (.int (nI e)), some (.int (nI f))]) 3 rfl dX6_digestOfTracks_39 rfl (Nat.le_of_ble_eq_true rfl) ?_
    refine js_iinc (v := nI (f + 1)) (L' := [some (.ref 0), some (.long start), none, some (.long ((d * 31) + q.toInt64)), none, some (.int (nI e)), some (.int (nI (f + 1)))]) dX6_digestOfTracks_40 rfl (jj_inc _) rfl ?_
    refine js_goto 20 dX6_digestOfTracks_43 (by decide) ?_
    refine js_fgL (L' := [some (.ref 0), some (.long start), none, some (.long ((d * 31) + q.toInt64)), none, some (.int (nI e)), some (.int (nI (f + 1)))]) (by simp [jj_le, jj_sm]) ?_
    exact jj_refl
set_option maxRecDepth 100000 in
set_option maxHeartbeats 4000000 in
theorem lo_X6_digestOfTracks {lay : jj_Lay} {S : jj_Mem} {P : jj_P} (hB : jj_pp lay) (h : jj_J S P) (hK : jj_K P) {start : Int64} : ∀ (k e : Nat), e + k = P.nt → ∀ d : Int64, ∃ d' : Int64, jj_RR cX6_digestOfTracks 7 RX6 yX6_digestOfTracks.name none 3 70 lay.length (jj_sl lay) (5, [some (.ref 0), some (.long start), none, some (.long d), none, some (.int (nI e)), none], [], lay, S) (some (.long d')) .lreturn lay S := by
  have h8 := h.au.1
  have h14 := h.tk.1
  have h130 := h.lg.1
  have ht9 := h.ht
  intro k
  induction k with
  | zero =>
    intro e he d
    have he : e = P.nt := by omega
    subst he
    refine ⟨d, ⟨53, [some (.ref 0), some (.long start), none, some (.long d), none, some (.int (nI P.nt)), none], dX6_digestOfTracks_53, ?_⟩⟩
    refine js_iload dX6_digestOfTracks_5 rfl ?_
    refine js_aload_n 0 rfl dX6_digestOfTracks_7 rfl ?_
    refine js_getr 0 jw_f_RX6_12 (jl_0 hB) rfl (Nat.le_of_ble_eq_true rfl) rfl dX6_digestOfTracks_8 ?_
    refine js_getNi 0 jw_n_RX6_72 (jl_1 hB) rfl (Nat.le_of_ble_eq_true rfl) rfl (h.tk.2.1) dX6_digestOfTracks_11 ?_
    refine jn_icmp_ge 52 (by omega) (by omega) dX6_digestOfTracks_14 (by decide) (fun _ => ?_) (fun h9 => absurd h9 (by omega))
    refine js_lload_n 3 rfl dX6_digestOfTracks_52 rfl ?_
    exact jj_refl
  | succ k ih =>
    intro e he d
    obtain ⟨d1, h1⟩ := li_tracks (lay := lay) hB h hK (e := e) (by omega) (start := start) 4 0 (by omega) d
    obtain ⟨d', hR⟩ := ih (e + 1) (by omega) (d1)
    refine ⟨d', jj_RRs (jj_tr ?_ (jj_tr h1 ?_)) hR⟩
    · refine js_iload dX6_digestOfTracks_5 rfl ?_
      refine js_aload_n 0 rfl dX6_digestOfTracks_7 rfl ?_
      refine js_getr 0 jw_f_RX6_12 (jl_0 hB) rfl (Nat.le_of_ble_eq_true rfl) rfl dX6_digestOfTracks_8 ?_
      refine js_getNi 0 jw_n_RX6_72 (jl_1 hB) rfl (Nat.le_of_ble_eq_true rfl) rfl (h.tk.2.1) dX6_digestOfTracks_11 ?_
      refine jn_icmp_ge 52 (by omega) (by omega) dX6_digestOfTracks_14 (by decide) (fun h9 => absurd h9 (by omega)) (fun _ => ?_)
      refine js_iconst (v := nI 0) dX6_digestOfTracks_17 (by decide) ?_
      refine js_istore (L' := [some (.ref 0), some (.long start), none, some (.long d), none, some (.int (nI e)), some (.int (nI 0))]) dX6_digestOfTracks_18 rfl (Nat.le_of_ble_eq_true rfl) ?_
      exact jj_refl
    · refine js_iinc (v := nI (e + 1)) (L' := [some (.ref 0), some (.long start), none, some (.long d1), none, some (.int (nI (e + 1))), some (.int (nI 4))]) dX6_digestOfTracks_46 rfl (jj_inc _) rfl ?_
      refine js_goto 5 dX6_digestOfTracks_49 (by decide) ?_
      refine js_fgL (L' := [some (.ref 0), some (.long start), none, some (.long d1), none, some (.int (nI (e + 1))), none]) (by simp [jj_le, jj_sm]) ?_
      exact jj_refl
set_option maxRecDepth 100000 in
set_option maxHeartbeats 4000000 in
theorem E_X6_digestOfTracks {lay : jj_Lay} {S : jj_Mem} {P : jj_P} (hB : jj_pp lay) (h : jj_J S P) (hK : jj_K P) {start : Int64} : ∃ d : Int64, jj_CT yX6_digestOfTracks (.code yX6_digestOfTracks cX6_digestOfTracks 7 (some .long)) none 3 70 [.ref 0, .long start] lay S (some (.long d)) lay S := by
  obtain ⟨d, hR⟩ := lo_X6_digestOfTracks (lay := lay) hB h hK (start := start) P.nt 0 (by omega) start
  refine ⟨d, ?_⟩
  refine jj_mkL RX6 (by decide) rfl (L := [some (.ref 0), some (.long start), none, none, none, none, none]) rfl rfl ?_
  refine jj_RRs ?_ hR
  refine js_lload_n 1 rfl dX6_digestOfTracks_0 rfl ?_
  refine js_lstore_n (L' := [some (.ref 0), some (.long start), none, some (.long start), none, none, none]) 3 rfl dX6_digestOfTracks_1 rfl (Nat.le_of_ble_eq_true rfl) ?_
  refine js_iconst (v := nI 0) dX6_digestOfTracks_2 (by decide) ?_
  refine js_istore (L' := [some (.ref 0), some (.long start), none, some (.long start), none, some (.int (nI 0)), none]) dX6_digestOfTracks_3 rfl (Nat.le_of_ble_eq_true rfl) ?_
  exact jj_refl
set_option maxRecDepth 100000 in
set_option maxHeartbeats 4000000 in
theorem li_listeners {lay : jj_Lay} {S : jj_Mem} {P : jj_P} (hB : jj_pp lay) (h : jj_J S P) (hK : jj_K P) {start : Int64} {e : Nat} (hl : e < P.cnt) : ∀ (k f : Nat), f + k = 8 → ∀ d : Int64, ∃ d' : Int64, jj_R cX6_digestOfListeners 7 RX6 yX6_digestOfListeners.name none 4 97 lay.length (jj_sl lay) (20, [some (.ref 0), some (.long start), none, some (.long d), none, some (.int (nI e)), some (.int (nI f))], [], lay, S) (47, [some (.ref 0), some (.long start), none, some (.long d'), none, some (.int (nI e)), some (.int (nI 8))], [], lay, S) := by
  have h8 := h.au.1
  have h14 := h.tk.1
  have h130 := h.lg.1
  have ht9 := h.ht
  intro k
  induction k with
  | zero =>
    intro f hf d
    obtain rfl : f = 8 := by omega
    refine ⟨d, ?_⟩
    refine js_iload dX6_digestOfListeners_20 rfl ?_
    refine js_bipush (v := nI 7) dX6_digestOfListeners_22 (by decide) ?_
    refine jn_icmp_gt 47 (by omega) (by omega) dX6_digestOfListeners_24 (by decide) (fun _ => ?_) (fun h9 => absurd h9 (by omega))
    exact jj_refl
  | succ k ih =>
    intro f hf d
    obtain ⟨q, hct⟩ := E_X6_ofListener (lay := lay) hB h hK hl (what := f) (by omega)
    obtain ⟨d', hR⟩ := ih (f + 1) (by omega) ((d * 31) + q.toInt64)
    refine ⟨d', jj_tr ?_ hR⟩
    refine js_iload dX6_digestOfListeners_20 rfl ?_
    refine js_bipush (v := nI 7) dX6_digestOfListeners_22 (by decide) ?_
    refine jn_icmp_gt 47 (by omega) (by omega) dX6_digestOfListeners_24 (by decide) (fun h9 => absurd h9 (by omega)) (fun _ => ?_)
    refine js_lload_n 3 rfl dX6_digestOfListeners_27 rfl ?_
    refine js_aload_n 0 rfl dX6_digestOfListeners_28 rfl ?_
    refine js_iload dX6_digestOfListeners_29 rfl ?_
    refine js_iload dX6_digestOfListeners_31 rfl ?_
    refine js_callV (av := [.int (nI e), .int (nI f)]) (st := [.long d]) (b := 0) hct (Or.inl rfl) jw_c_X6_ofListener jw_i_RX6 jw_m_RX6_440 jw_s_X6_ofListener jw_e_X6_ofListener (jl_0 hB) rfl jw_y_X6_ofListener rfl ⟨(Nat.le_of_ble_eq_true rfl), (Nat.le_of_ble_eq_true rfl), (Nat.le_refl _), (Nat.le_refl _), (Nat.le_of_ble_eq_true rfl)⟩ dX6_digestOfListeners_33 ?_
    refine js_st (st' := [.int q, .long d]) rfl ?_
    refine js_i2l dX6_digestOfListeners_36 ?_
    refine js_callS (av := [.long d, .long q.toInt64]) (st := []) ct_X6_digestStep (Or.inl rfl) jw_c_X6_digestStep jw_i_RX6 jw_m_RX6_346 jw_s_X6_digestStep jw_y_X6_digestStep rfl ⟨(Nat.le_of_ble_eq_true rfl), (Nat.le_of_ble_eq_true rfl), (Nat.le_refl _), (Nat.le_refl _), (Nat.le_of_ble_eq_true rfl)⟩ dX6_digestOfListeners_37 ?_
    refine js_st (st' := [.long ((d * 31) + q.toInt64)]) rfl ?_
    refine js_lstore_n (L' := [some (.ref 0), some (.long start), none, some (.long ((d * 31) + q.toInt64)), none, some (.int (nI e)), some (.int (nI f))]) 3 rfl dX6_digestOfListeners_40 rfl (Nat.le_of_ble_eq_true rfl) ?_
    refine js_iinc (v := nI (f + 1)) (L' := [some (.ref 0), some (.long start), none, some (.long ((d * 31) + q.toInt64)), none, some (.int (nI e)), some (.int (nI (f + 1)))]) dX6_digestOfListeners_41 rfl (jj_inc _) rfl ?_
    refine js_goto 20 dX6_digestOfListeners_44 (by decide) ?_
    refine js_fgL (L' := [some (.ref 0), some (.long start), none, some (.long ((d * 31) + q.toInt64)), none, some (.int (nI e)), some (.int (nI (f + 1)))]) (by simp [jj_le, jj_sm]) ?_
    exact jj_refl
set_option maxRecDepth 100000 in
set_option maxHeartbeats 4000000 in
theorem lo_X6_digestOfListeners {lay : jj_Lay} {S : jj_Mem} {P : jj_P} (hB : jj_pp lay) (h : jj_J S P) (hK : jj_K P) {start : Int64} : ∀ (k e : Nat), e + k = P.cnt → ∀ d : Int64, ∃ d' : Int64, jj_RR cX6_digestOfListeners 7 RX6 yX6_digestOfListeners.name none 4 97 lay.length (jj_sl lay) (5, [some (.ref 0), some (.long start), none, some (.long d), none, some (.int (nI e)), none], [], lay, S) (some (.long d')) .lreturn lay S := by
  have h8 := h.au.1
  have h14 := h.tk.1
  have h130 := h.lg.1
  have ht9 := h.ht
  intro k
  induction k with
  | zero =>
    intro e he d
    have he : e = P.cnt := by omega
    subst he
    refine ⟨d, ⟨66, [some (.ref 0), some (.long start), none, some (.long d), none, some (.int (nI P.cnt)), none], dX6_digestOfListeners_66, ?_⟩⟩
    refine js_iload dX6_digestOfListeners_5 rfl ?_
    refine js_aload_n 0 rfl dX6_digestOfListeners_7 rfl ?_
    refine js_getr 2 jw_f_RX6_26 (jl_0 hB) rfl (Nat.le_of_ble_eq_true rfl) rfl dX6_digestOfListeners_8 ?_
    refine js_getNi 0 jw_n_RX6_144 (jl_20 hB) rfl (Nat.le_of_ble_eq_true rfl) rfl (h.au.2.1) dX6_digestOfListeners_11 ?_
    refine jn_icmp_ge 65 (by omega) (by omega) dX6_digestOfListeners_14 (by decide) (fun _ => ?_) (fun h9 => absurd h9 (by omega))
    refine js_lload_n 3 rfl dX6_digestOfListeners_65 rfl ?_
    exact jj_refl
  | succ k ih =>
    intro e he d
    obtain ⟨d1, h1⟩ := li_listeners (lay := lay) hB h hK (e := e) (by omega) (start := start) 8 0 (by omega) d
    obtain ⟨q, hct⟩ := E_X6_suggestion (lay := lay) hB h hK (l := e) (by omega)
    obtain ⟨d', hR⟩ := ih (e + 1) (by omega) ((d1 * 31) + q.toInt64)
    refine ⟨d', jj_RRs (jj_tr ?_ (jj_tr h1 ?_)) hR⟩
    · refine js_iload dX6_digestOfListeners_5 rfl ?_
      refine js_aload_n 0 rfl dX6_digestOfListeners_7 rfl ?_
      refine js_getr 2 jw_f_RX6_26 (jl_0 hB) rfl (Nat.le_of_ble_eq_true rfl) rfl dX6_digestOfListeners_8 ?_
      refine js_getNi 0 jw_n_RX6_144 (jl_20 hB) rfl (Nat.le_of_ble_eq_true rfl) rfl (h.au.2.1) dX6_digestOfListeners_11 ?_
      refine jn_icmp_ge 65 (by omega) (by omega) dX6_digestOfListeners_14 (by decide) (fun h9 => absurd h9 (by omega)) (fun _ => ?_)
      refine js_iconst (v := nI 0) dX6_digestOfListeners_17 (by decide) ?_
      refine js_istore (L' := [some (.ref 0), some (.long start), none, some (.long d), none, some (.int (nI e)), some (.int (nI 0))]) dX6_digestOfListeners_18 rfl (Nat.le_of_ble_eq_true rfl) ?_
      exact jj_refl
    · refine js_lload_n 3 rfl dX6_digestOfListeners_47 rfl ?_
      refine js_aload_n 0 rfl dX6_digestOfListeners_48 rfl ?_
      refine js_iload dX6_digestOfListeners_49 rfl ?_
      refine js_callV (av := [.int (nI e)]) (st := [.long d1]) (b := 0) hct (Or.inl rfl) jw_c_X6_suggestion jw_i_RX6 jw_m_RX6_313 jw_s_X6_suggestion jw_e_X6_suggestion (jl_0 hB) rfl jw_y_X6_suggestion rfl ⟨(Nat.le_of_ble_eq_true rfl), (Nat.le_of_ble_eq_true rfl), (Nat.le_refl _), (Nat.le_refl _), (Nat.le_of_ble_eq_true rfl)⟩ dX6_digestOfListeners_51 ?_
      refine js_st (st' := [.int q, .long d1]) rfl ?_
      refine js_i2l dX6_digestOfListeners_54 ?_
      refine js_callS (av := [.long d1, .long q.toInt64]) (st := []) ct_X6_digestStep (Or.inl rfl) jw_c_X6_digestStep jw_i_RX6 jw_m_RX6_346 jw_s_X6_digestStep jw_y_X6_digestStep rfl ⟨(Nat.le_of_ble_eq_true rfl), (Nat.le_of_ble_eq_true rfl), (Nat.le_refl _), (Nat.le_refl _), (Nat.le_of_ble_eq_true rfl)⟩ dX6_digestOfListeners_55 ?_
      refine js_st (st' := [.long ((d1 * 31) + q.toInt64)]) rfl ?_
      refine js_lstore_n (L' := [some (.ref 0), some (.long start), none, some (.long ((d1 * 31) + q.toInt64)), none, some (.int (nI e)), some (.int (nI 8))]) 3 rfl dX6_digestOfListeners_58 rfl (Nat.le_of_ble_eq_true rfl) ?_
      refine js_iinc (v := nI (e + 1)) (L' := [some (.ref 0), some (.long start), none, some (.long ((d1 * 31) + q.toInt64)), none, some (.int (nI (e + 1))), some (.int (nI 8))]) dX6_digestOfListeners_59 rfl (jj_inc _) rfl ?_
      refine js_goto 5 dX6_digestOfListeners_62 (by decide) ?_
      refine js_fgL (L' := [some (.ref 0), some (.long start), none, some (.long ((d1 * 31) + q.toInt64)), none, some (.int (nI (e + 1))), none]) (by simp [jj_le, jj_sm]) ?_
      exact jj_refl
set_option maxRecDepth 100000 in
set_option maxHeartbeats 4000000 in
theorem E_X6_digestOfListeners {lay : jj_Lay} {S : jj_Mem} {P : jj_P} (hB : jj_pp lay) (h : jj_J S P) (hK : jj_K P) {start : Int64} : ∃ d : Int64, jj_CT yX6_digestOfListeners (.code yX6_digestOfListeners cX6_digestOfListeners 7 (some .long)) none 4 97 [.ref 0, .long start] lay S (some (.long d)) lay S := by
  obtain ⟨d, hR⟩ := lo_X6_digestOfListeners (lay := lay) hB h hK (start := start) P.cnt 0 (by omega) start
  refine ⟨d, ?_⟩
  refine jj_mkL RX6 (by decide) rfl (L := [some (.ref 0), some (.long start), none, none, none, none, none]) rfl rfl ?_
  refine jj_RRs ?_ hR
  refine js_lload_n 1 rfl dX6_digestOfListeners_0 rfl ?_
  refine js_lstore_n (L' := [some (.ref 0), some (.long start), none, some (.long start), none, none, none]) 3 rfl dX6_digestOfListeners_1 rfl (Nat.le_of_ble_eq_true rfl) ?_
  refine js_iconst (v := nI 0) dX6_digestOfListeners_2 (by decide) ?_
  refine js_istore (L' := [some (.ref 0), some (.long start), none, some (.long start), none, some (.int (nI 0)), none]) dX6_digestOfListeners_3 rfl (Nat.le_of_ble_eq_true rfl) ?_
  exact jj_refl
set_option maxRecDepth 100000 in
set_option maxHeartbeats 4000000 in
theorem li_parties {lay : jj_Lay} {S : jj_Mem} {P : jj_P} (hB : jj_pp lay) (h : jj_J S P) (hK : jj_K P) {start : Int64} {e : Nat} (hl : e < 5) : ∀ (k f : Nat), f + k = 4 → ∀ d : Int64, ∃ d' : Int64, jj_R cX6_digestOfParties 7 RX6 yX6_digestOfParties.name none 2 43 lay.length (jj_sl lay) (14, [some (.ref 0), some (.long start), none, some (.long d), none, some (.int (nI e)), some (.int (nI f))], [], lay, S) (40, [some (.ref 0), some (.long start), none, some (.long d'), none, some (.int (nI e)), some (.int (nI 4))], [], lay, S) := by
  have h8 := h.au.1
  have h14 := h.tk.1
  have h130 := h.lg.1
  have ht9 := h.ht
  intro k
  induction k with
  | zero =>
    intro f hf d
    obtain rfl : f = 4 := by omega
    refine ⟨d, ?_⟩
    refine js_iload dX6_digestOfParties_14 rfl ?_
    refine js_iconst (v := nI 3) dX6_digestOfParties_16 (by decide) ?_
    refine jn_icmp_gt 40 (by omega) (by omega) dX6_digestOfParties_17 (by decide) (fun _ => ?_) (fun h9 => absurd h9 (by omega))
    exact jj_refl
  | succ k ih =>
    intro f hf d
    obtain ⟨q, hct⟩ := E_X6_ofParty (lay := lay) hB h hK hl (what := f) (by omega)
    obtain ⟨d', hR⟩ := ih (f + 1) (by omega) ((d * 31) + q.toInt64)
    refine ⟨d', jj_tr ?_ hR⟩
    refine js_iload dX6_digestOfParties_14 rfl ?_
    refine js_iconst (v := nI 3) dX6_digestOfParties_16 (by decide) ?_
    refine jn_icmp_gt 40 (by omega) (by omega) dX6_digestOfParties_17 (by decide) (fun h9 => absurd h9 (by omega)) (fun _ => ?_)
    refine js_lload_n 3 rfl dX6_digestOfParties_20 rfl ?_
    refine js_aload_n 0 rfl dX6_digestOfParties_21 rfl ?_
    refine js_iload dX6_digestOfParties_22 rfl ?_
    refine js_iload dX6_digestOfParties_24 rfl ?_
    refine js_callV (av := [.int (nI e), .int (nI f)]) (st := [.long d]) (b := 0) hct (Or.inl rfl) jw_c_X6_ofParty jw_i_RX6 jw_m_RX6_443 jw_s_X6_ofParty jw_e_X6_ofParty (jl_0 hB) rfl jw_y_X6_ofParty rfl ⟨(Nat.le_of_ble_eq_true rfl), (Nat.le_of_ble_eq_true rfl), (Nat.le_refl _), (Nat.le_refl _), (Nat.le_of_ble_eq_true rfl)⟩ dX6_digestOfParties_26 ?_
    refine js_st (st' := [.int q, .long d]) rfl ?_
    refine js_i2l dX6_digestOfParties_29 ?_
    refine js_callS (av := [.long d, .long q.toInt64]) (st := []) ct_X6_digestStep (Or.inl rfl) jw_c_X6_digestStep jw_i_RX6 jw_m_RX6_346 jw_s_X6_digestStep jw_y_X6_digestStep rfl ⟨(Nat.le_of_ble_eq_true rfl), (Nat.le_of_ble_eq_true rfl), (Nat.le_refl _), (Nat.le_refl _), (Nat.le_of_ble_eq_true rfl)⟩ dX6_digestOfParties_30 ?_
    refine js_st (st' := [.long ((d * 31) + q.toInt64)]) rfl ?_
    refine js_lstore_n (L' := [some (.ref 0), some (.long start), none, some (.long ((d * 31) + q.toInt64)), none, some (.int (nI e)), some (.int (nI f))]) 3 rfl dX6_digestOfParties_33 rfl (Nat.le_of_ble_eq_true rfl) ?_
    refine js_iinc (v := nI (f + 1)) (L' := [some (.ref 0), some (.long start), none, some (.long ((d * 31) + q.toInt64)), none, some (.int (nI e)), some (.int (nI (f + 1)))]) dX6_digestOfParties_34 rfl (jj_inc _) rfl ?_
    refine js_goto 14 dX6_digestOfParties_37 (by decide) ?_
    refine js_fgL (L' := [some (.ref 0), some (.long start), none, some (.long ((d * 31) + q.toInt64)), none, some (.int (nI e)), some (.int (nI (f + 1)))]) (by simp [jj_le, jj_sm]) ?_
    exact jj_refl
set_option maxRecDepth 100000 in
set_option maxHeartbeats 4000000 in
theorem li_parties2 {lay : jj_Lay} {S : jj_Mem} {P : jj_P} (hB : jj_pp lay) (h : jj_J S P) (hK : jj_K P) (htr : ∀ rule, rule < 2 → (∀ u, u < 10 → ∃ y, S (jj_tb rule + 2) u = some (nI y) ∧ P.ge u ≤ y) ∧ (∀ u, u < 5 → ∃ y, S (jj_tb rule + 5) u = some (nI y) ∧ P.pa u ≤ y)) {start : Int64} {e : Nat} (hl : e < 5) : ∀ (k f : Nat), f + k = 2 → ∀ d : Int64, ∃ d' : Int64, jj_R cX6_digestOfParties 7 RX6 yX6_digestOfParties.name none 2 43 lay.length (jj_sl lay) (43, [some (.ref 0), some (.long start), none, some (.long d), none, some (.int (nI e)), some (.int (nI f))], [], lay, S) (69, [some (.ref 0), some (.long start), none, some (.long d'), none, some (.int (nI e)), some (.int (nI 2))], [], lay, S) := by
  have h8 := h.au.1
  have h14 := h.tk.1
  have h130 := h.lg.1
  have ht9 := h.ht
  intro k
  induction k with
  | zero =>
    intro f hf d
    obtain rfl : f = 2 := by omega
    refine ⟨d, ?_⟩
    refine js_iload dX6_digestOfParties_43 rfl ?_
    refine js_iconst (v := nI 2) dX6_digestOfParties_45 (by decide) ?_
    refine jn_icmp_ge 69 (by omega) (by omega) dX6_digestOfParties_46 (by decide) (fun _ => ?_) (fun h9 => absurd h9 (by omega))
    exact jj_refl
  | succ k ih =>
    intro f hf d
    obtain ⟨y, hy1, hy2⟩ := (htr f (by omega)).2 e hl
    obtain ⟨q, hct⟩ : ∃ q : Int32, jj_CT yX6_paidInTrial (.code yX6_paidInTrial cX6_paidInTrial 3 (some .int)) none 1 21 [.ref 0, .int (nI e), .int (nI f)] lay S (some (.int q)) lay S := ⟨_, ct_X6_paidInTrial (pa := P.pa) (pa' := fun _ => y) hB (by omega) hl (h.bs.2.2.2.2.2.2.1 e hl) hy1 hy2⟩
    obtain ⟨d', hR⟩ := ih (f + 1) (by omega) ((d * 31) + q.toInt64)
    refine ⟨d', jj_tr ?_ hR⟩
    refine js_iload dX6_digestOfParties_43 rfl ?_
    refine js_iconst (v := nI 2) dX6_digestOfParties_45 (by decide) ?_
    refine jn_icmp_ge 69 (by omega) (by omega) dX6_digestOfParties_46 (by decide) (fun h9 => absurd h9 (by omega)) (fun _ => ?_)
    refine js_lload_n 3 rfl dX6_digestOfParties_49 rfl ?_
    refine js_aload_n 0 rfl dX6_digestOfParties_50 rfl ?_
    refine js_iload dX6_digestOfParties_51 rfl ?_
    refine js_iload dX6_digestOfParties_53 rfl ?_
    refine js_callV (av := [.int (nI e), .int (nI f)]) (st := [.long d]) (b := 0) hct (Or.inl rfl) jw_c_X6_paidInTrial jw_i_RX6 jw_m_RX6_322 jw_s_X6_paidInTrial jw_e_X6_paidInTrial (jl_0 hB) rfl jw_y_X6_paidInTrial rfl ⟨(Nat.le_of_ble_eq_true rfl), (Nat.le_of_ble_eq_true rfl), (Nat.le_refl _), (Nat.le_refl _), (Nat.le_of_ble_eq_true rfl)⟩ dX6_digestOfParties_55 ?_
    refine js_st (st' := [.int q, .long d]) rfl ?_
    refine js_i2l dX6_digestOfParties_58 ?_
    refine js_callS (av := [.long d, .long q.toInt64]) (st := []) ct_X6_digestStep (Or.inl rfl) jw_c_X6_digestStep jw_i_RX6 jw_m_RX6_346 jw_s_X6_digestStep jw_y_X6_digestStep rfl ⟨(Nat.le_of_ble_eq_true rfl), (Nat.le_of_ble_eq_true rfl), (Nat.le_refl _), (Nat.le_refl _), (Nat.le_of_ble_eq_true rfl)⟩ dX6_digestOfParties_59 ?_
    refine js_st (st' := [.long ((d * 31) + q.toInt64)]) rfl ?_
    refine js_lstore_n (L' := [some (.ref 0), some (.long start), none, some (.long ((d * 31) + q.toInt64)), none, some (.int (nI e)), some (.int (nI f))]) 3 rfl dX6_digestOfParties_62 rfl (Nat.le_of_ble_eq_true rfl) ?_
    refine js_iinc (v := nI (f + 1)) (L' := [some (.ref 0), some (.long start), none, some (.long ((d * 31) + q.toInt64)), none, some (.int (nI e)), some (.int (nI (f + 1)))]) dX6_digestOfParties_63 rfl (jj_inc _) rfl ?_
    refine js_goto 43 dX6_digestOfParties_66 (by decide) ?_
    refine js_fgL (L' := [some (.ref 0), some (.long start), none, some (.long ((d * 31) + q.toInt64)), none, some (.int (nI e)), some (.int (nI (f + 1)))]) (by simp [jj_le, jj_sm]) ?_
    exact jj_refl
set_option maxRecDepth 100000 in
set_option maxHeartbeats 4000000 in
theorem lo_X6_digestOfParties {lay : jj_Lay} {S : jj_Mem} {P : jj_P} (hB : jj_pp lay) (h : jj_J S P) (hK : jj_K P) (htr : ∀ rule, rule < 2 → (∀ u, u < 10 → ∃ y, S (jj_tb rule + 2) u = some (nI y) ∧ P.ge u ≤ y) ∧ (∀ u, u < 5 → ∃ y, S (jj_tb rule + 5) u = some (nI y) ∧ P.pa u ≤ y)) {start : Int64} : ∀ (k e : Nat), e + k = 5 → ∀ d : Int64, ∃ d' : Int64, jj_RR cX6_digestOfParties 7 RX6 yX6_digestOfParties.name none 2 43 lay.length (jj_sl lay) (5, [some (.ref 0), some (.long start), none, some (.long d), none, some (.int (nI e)), none], [], lay, S) (some (.long d')) .lreturn lay S := by
  have h8 := h.au.1
  have h14 := h.tk.1
  have h130 := h.lg.1
  have ht9 := h.ht
  intro k
  induction k with
  | zero =>
    intro e he d
    have he : e = 5 := by omega
    subst he
    refine ⟨d, ⟨76, [some (.ref 0), some (.long start), none, some (.long d), none, some (.int (nI 5)), none], dX6_digestOfParties_76, ?_⟩⟩
    refine js_iload dX6_digestOfParties_5 rfl ?_
    refine js_iconst (v := nI 5) dX6_digestOfParties_7 (by decide) ?_
    refine jn_icmp_ge 75 (by omega) (by omega) dX6_digestOfParties_8 (by decide) (fun _ => ?_) (fun h9 => absurd h9 (by omega))
    refine js_lload_n 3 rfl dX6_digestOfParties_75 rfl ?_
    exact jj_refl
  | succ k ih =>
    intro e he d
    obtain ⟨d1, h1⟩ := li_parties (lay := lay) hB h hK (e := e) (by omega) (start := start) 4 0 (by omega) d
    obtain ⟨d2, h2⟩ := li_parties2 (lay := lay) hB h hK htr (e := e) (by omega) (start := start) 2 0 (by omega) d1
    obtain ⟨d', hR⟩ := ih (e + 1) (by omega) (d2)
    have b1 : jj_R cX6_digestOfParties 7 RX6 yX6_digestOfParties.name none 2 43 lay.length (jj_sl lay) (40, [some (.ref 0), some (.long start), none, some (.long d1), none, some (.int (nI e)), some (.int (nI 4))], [], lay, S) (43, [some (.ref 0), some (.long start), none, some (.long d1), none, some (.int (nI e)), some (.int (nI 0))], [], lay, S) := by
      refine js_iconst (v := nI 0) dX6_digestOfParties_40 (by decide) ?_
      refine js_istore (L' := [some (.ref 0), some (.long start), none, some (.long d1), none, some (.int (nI e)), some (.int (nI 0))]) dX6_digestOfParties_41 rfl (Nat.le_of_ble_eq_true rfl) ?_
      exact jj_refl
    refine ⟨d', jj_RRs (jj_tr ?_ (jj_tr h1 (jj_tr b1 (jj_tr h2 ?_)))) hR⟩
    · refine js_iload dX6_digestOfParties_5 rfl ?_
      refine js_iconst (v := nI 5) dX6_digestOfParties_7 (by decide) ?_
      refine jn_icmp_ge 75 (by omega) (by omega) dX6_digestOfParties_8 (by decide) (fun h9 => absurd h9 (by omega)) (fun _ => ?_)
      refine js_iconst (v := nI 0) dX6_digestOfParties_11 (by decide) ?_
      refine js_istore (L' := [some (.ref 0), some (.long start), none, some (.long d), none, some (.int (nI e)), some (.int (nI 0))]) dX6_digestOfParties_12 rfl (Nat.le_of_ble_eq_true rfl) ?_
      exact jj_refl
    · refine js_iinc (v := nI (e + 1)) (L' := [some (.ref 0), some (.long start), none, some (.long d2), none, some (.int (nI (e + 1))), some (.int (nI 2))]) dX6_digestOfParties_69 rfl (jj_inc _) rfl ?_
      refine js_goto 5 dX6_digestOfParties_72 (by decide) ?_
      refine js_fgL (L' := [some (.ref 0), some (.long start), none, some (.long d2), none, some (.int (nI (e + 1))), none]) (by simp [jj_le, jj_sm]) ?_
      exact jj_refl
set_option maxRecDepth 100000 in
set_option maxHeartbeats 4000000 in
theorem E_X6_digestOfParties {lay : jj_Lay} {S : jj_Mem} {P : jj_P} (hB : jj_pp lay) (h : jj_J S P) (hK : jj_K P) (htr : ∀ rule, rule < 2 → (∀ u, u < 10 → ∃ y, S (jj_tb rule + 2) u = some (nI y) ∧ P.ge u ≤ y) ∧ (∀ u, u < 5 → ∃ y, S (jj_tb rule + 5) u = some (nI y) ∧ P.pa u ≤ y)) {start : Int64} : ∃ d : Int64, jj_CT yX6_digestOfParties (.code yX6_digestOfParties cX6_digestOfParties 7 (some .long)) none 2 43 [.ref 0, .long start] lay S (some (.long d)) lay S := by
  obtain ⟨d, hR⟩ := lo_X6_digestOfParties (lay := lay) hB h hK htr (start := start) 5 0 (by omega) start
  refine ⟨d, ?_⟩
  refine jj_mkL RX6 (by decide) rfl (L := [some (.ref 0), some (.long start), none, none, none, none, none]) rfl rfl ?_
  refine jj_RRs ?_ hR
  refine js_lload_n 1 rfl dX6_digestOfParties_0 rfl ?_
  refine js_lstore_n (L' := [some (.ref 0), some (.long start), none, some (.long start), none, none, none]) 3 rfl dX6_digestOfParties_1 rfl (Nat.le_of_ble_eq_true rfl) ?_
  refine js_iconst (v := nI 0) dX6_digestOfParties_2 (by decide) ?_
  refine js_istore (L' := [some (.ref 0), some (.long start), none, some (.long start), none, some (.int (nI 0)), none]) dX6_digestOfParties_3 rfl (Nat.le_of_ble_eq_true rfl) ?_
  exact jj_refl
set_option maxRecDepth 100000 in
set_option maxHeartbeats 4000000 in
theorem li_recs {lay : jj_Lay} {S : jj_Mem} {P : jj_P} (hB : jj_pp lay) (h : jj_J S P) (hK : jj_K P) {start : Int64} {e : Nat} (hl : e < 10) : ∀ (k f : Nat), f + k = 7 → ∀ d : Int64, ∃ d' : Int64, jj_R cX6_digestOfRecordings 7 RX6 yX6_digestOfRecordings.name none 4 89 lay.length (jj_sl lay) (15, [some (.ref 0), some (.long start), none, some (.long d), none, some (.int (nI e)), some (.int (nI f))], [], lay, S) (42, [some (.ref 0), some (.long start), none, some (.long d'), none, some (.int (nI e)), some (.int (nI 7))], [], lay, S) := by
  have h8 := h.au.1
  have h14 := h.tk.1
  have h130 := h.lg.1
  have ht9 := h.ht
  intro k
  induction k with
  | zero =>
    intro f hf d
    obtain rfl : f = 7 := by omega
    refine ⟨d, ?_⟩
    refine js_iload dX6_digestOfRecordings_15 rfl ?_
    refine js_bipush (v := nI 6) dX6_digestOfRecordings_17 (by decide) ?_
    refine jn_icmp_gt 42 (by omega) (by omega) dX6_digestOfRecordings_19 (by decide) (fun _ => ?_) (fun h9 => absurd h9 (by omega))
    exact jj_refl
  | succ k ih =>
    intro f hf d
    obtain ⟨q, hct⟩ := E_X6_ofRecording (lay := lay) hB h hK hl (what := f) (by omega)
    obtain ⟨d', hR⟩ := ih (f + 1) (by omega) ((d * 31) + q.toInt64)
    refine ⟨d', jj_tr ?_ hR⟩
    refine js_iload dX6_digestOfRecordings_15 rfl ?_
    refine js_bipush (v := nI 6) dX6_digestOfRecordings_17 (by decide) ?_
    refine jn_icmp_gt 42 (by omega) (by omega) dX6_digestOfRecordings_19 (by decide) (fun h9 => absurd h9 (by omega)) (fun _ => ?_)
    refine js_lload_n 3 rfl dX6_digestOfRecordings_22 rfl ?_
    refine js_aload_n 0 rfl dX6_digestOfRecordings_23 rfl ?_
    refine js_iload dX6_digestOfRecordings_24 rfl ?_
    refine js_iload dX6_digestOfRecordings_26 rfl ?_
    refine js_callV (av := [.int (nI e), .int (nI f)]) (st := [.long d]) (b := 0) hct (Or.inl rfl) jw_c_X6_ofRecording jw_i_RX6 jw_m_RX6_446 jw_s_X6_ofRecording jw_e_X6_ofRecording (jl_0 hB) rfl jw_y_X6_ofRecording rfl ⟨(Nat.le_of_ble_eq_true rfl), (Nat.le_of_ble_eq_true rfl), (Nat.le_refl _), (Nat.le_refl _), (Nat.le_of_ble_eq_true rfl)⟩ dX6_digestOfRecordings_28 ?_
    refine js_st (st' := [.int q, .long d]) rfl ?_
    refine js_i2l dX6_digestOfRecordings_31 ?_
    refine js_callS (av := [.long d, .long q.toInt64]) (st := []) ct_X6_digestStep (Or.inl rfl) jw_c_X6_digestStep jw_i_RX6 jw_m_RX6_346 jw_s_X6_digestStep jw_y_X6_digestStep rfl ⟨(Nat.le_of_ble_eq_true rfl), (Nat.le_of_ble_eq_true rfl), (Nat.le_refl _), (Nat.le_refl _), (Nat.le_of_ble_eq_true rfl)⟩ dX6_digestOfRecordings_32 ?_
    refine js_st (st' := [.long ((d * 31) + q.toInt64)]) rfl ?_
    refine js_lstore_n (L' := [some (.ref 0), some (.long start), none, some (.long ((d * 31) + q.toInt64)), none, some (.int (nI e)), some (.int (nI f))]) 3 rfl dX6_digestOfRecordings_35 rfl (Nat.le_of_ble_eq_true rfl) ?_
    refine js_iinc (v := nI (f + 1)) (L' := [some (.ref 0), some (.long start), none, some (.long ((d * 31) + q.toInt64)), none, some (.int (nI e)), some (.int (nI (f + 1)))]) dX6_digestOfRecordings_36 rfl (jj_inc _) rfl ?_
    refine js_goto 15 dX6_digestOfRecordings_39 (by decide) ?_
    refine js_fgL (L' := [some (.ref 0), some (.long start), none, some (.long ((d * 31) + q.toInt64)), none, some (.int (nI e)), some (.int (nI (f + 1)))]) (by simp [jj_le, jj_sm]) ?_
    exact jj_refl
set_option maxRecDepth 100000 in
set_option maxHeartbeats 4000000 in
theorem li_recs2 {lay : jj_Lay} {S : jj_Mem} {P : jj_P} (hB : jj_pp lay) (h : jj_J S P) (hK : jj_K P) (htr : ∀ rule, rule < 2 → (∀ u, u < 10 → ∃ y, S (jj_tb rule + 2) u = some (nI y) ∧ P.ge u ≤ y) ∧ (∀ u, u < 5 → ∃ y, S (jj_tb rule + 5) u = some (nI y) ∧ P.pa u ≤ y)) {start : Int64} {e : Nat} (hl : e < 10) : ∀ (k f : Nat), f + k = 2 → ∀ d : Int64, ∃ d' : Int64, jj_R cX6_digestOfRecordings 7 RX6 yX6_digestOfRecordings.name none 4 89 lay.length (jj_sl lay) (45, [some (.ref 0), some (.long start), none, some (.long d), none, some (.int (nI e)), some (.int (nI f))], [], lay, S) (71, [some (.ref 0), some (.long start), none, some (.long d'), none, some (.int (nI e)), some (.int (nI 2))], [], lay, S) := by
  have h8 := h.au.1
  have h14 := h.tk.1
  have h130 := h.lg.1
  have ht9 := h.ht
  intro k
  induction k with
  | zero =>
    intro f hf d
    obtain rfl : f = 2 := by omega
    refine ⟨d, ?_⟩
    refine js_iload dX6_digestOfRecordings_45 rfl ?_
    refine js_iconst (v := nI 2) dX6_digestOfRecordings_47 (by decide) ?_
    refine jn_icmp_ge 71 (by omega) (by omega) dX6_digestOfRecordings_48 (by decide) (fun _ => ?_) (fun h9 => absurd h9 (by omega))
    exact jj_refl
  | succ k ih =>
    intro f hf d
    obtain ⟨y, hy1, hy2⟩ := (htr f (by omega)).1 e hl
    obtain ⟨q, hct⟩ : ∃ q : Int32, jj_CT yX6_gotInTrial (.code yX6_gotInTrial cX6_gotInTrial 3 (some .int)) none 1 21 [.ref 0, .int (nI e), .int (nI f)] lay S (some (.int q)) lay S := ⟨_, ct_X6_gotInTrial (ge := P.ge) (ge' := fun _ => y) hB (by omega) hl (h.bs.2.2.2.1 e hl) hy1 hy2⟩
    obtain ⟨d', hR⟩ := ih (f + 1) (by omega) ((d * 31) + q.toInt64)
    refine ⟨d', jj_tr ?_ hR⟩
    refine js_iload dX6_digestOfRecordings_45 rfl ?_
    refine js_iconst (v := nI 2) dX6_digestOfRecordings_47 (by decide) ?_
    refine jn_icmp_ge 71 (by omega) (by omega) dX6_digestOfRecordings_48 (by decide) (fun h9 => absurd h9 (by omega)) (fun _ => ?_)
    refine js_lload_n 3 rfl dX6_digestOfRecordings_51 rfl ?_
    refine js_aload_n 0 rfl dX6_digestOfRecordings_52 rfl ?_
    refine js_iload dX6_digestOfRecordings_53 rfl ?_
    refine js_iload dX6_digestOfRecordings_55 rfl ?_
    refine js_callV (av := [.int (nI e), .int (nI f)]) (st := [.long d]) (b := 0) hct (Or.inl rfl) jw_c_X6_gotInTrial jw_i_RX6 jw_m_RX6_319 jw_s_X6_gotInTrial jw_e_X6_gotInTrial (jl_0 hB) rfl jw_y_X6_gotInTrial rfl ⟨(Nat.le_of_ble_eq_true rfl), (Nat.le_of_ble_eq_true rfl), (Nat.le_refl _), (Nat.le_refl _), (Nat.le_of_ble_eq_true rfl)⟩ dX6_digestOfRecordings_57 ?_
    refine js_st (st' := [.int q, .long d]) rfl ?_
    refine js_i2l dX6_digestOfRecordings_60 ?_
    refine js_callS (av := [.long d, .long q.toInt64]) (st := []) ct_X6_digestStep (Or.inl rfl) jw_c_X6_digestStep jw_i_RX6 jw_m_RX6_346 jw_s_X6_digestStep jw_y_X6_digestStep rfl ⟨(Nat.le_of_ble_eq_true rfl), (Nat.le_of_ble_eq_true rfl), (Nat.le_refl _), (Nat.le_refl _), (Nat.le_of_ble_eq_true rfl)⟩ dX6_digestOfRecordings_61 ?_
    refine js_st (st' := [.long ((d * 31) + q.toInt64)]) rfl ?_
    refine js_lstore_n (L' := [some (.ref 0), some (.long start), none, some (.long ((d * 31) + q.toInt64)), none, some (.int (nI e)), some (.int (nI f))]) 3 rfl dX6_digestOfRecordings_64 rfl (Nat.le_of_ble_eq_true rfl) ?_
    refine js_iinc (v := nI (f + 1)) (L' := [some (.ref 0), some (.long start), none, some (.long ((d * 31) + q.toInt64)), none, some (.int (nI e)), some (.int (nI (f + 1)))]) dX6_digestOfRecordings_65 rfl (jj_inc _) rfl ?_
    refine js_goto 45 dX6_digestOfRecordings_68 (by decide) ?_
    refine js_fgL (L' := [some (.ref 0), some (.long start), none, some (.long ((d * 31) + q.toInt64)), none, some (.int (nI e)), some (.int (nI (f + 1)))]) (by simp [jj_le, jj_sm]) ?_
    exact jj_refl
set_option maxRecDepth 100000 in
set_option maxHeartbeats 4000000 in
theorem lo_X6_digestOfRecordings {lay : jj_Lay} {S : jj_Mem} {P : jj_P} (hB : jj_pp lay) (h : jj_J S P) (hK : jj_K P) (htr : ∀ rule, rule < 2 → (∀ u, u < 10 → ∃ y, S (jj_tb rule + 2) u = some (nI y) ∧ P.ge u ≤ y) ∧ (∀ u, u < 5 → ∃ y, S (jj_tb rule + 5) u = some (nI y) ∧ P.pa u ≤ y)) {start : Int64} : ∀ (k e : Nat), e + k = 10 → ∀ d : Int64, ∃ d' : Int64, jj_RR cX6_digestOfRecordings 7 RX6 yX6_digestOfRecordings.name none 4 89 lay.length (jj_sl lay) (5, [some (.ref 0), some (.long start), none, some (.long d), none, some (.int (nI e)), none], [], lay, S) (some (.long d')) .lreturn lay S := by
  have h8 := h.au.1
  have h14 := h.tk.1
  have h130 := h.lg.1
  have ht9 := h.ht
  intro k
  induction k with
  | zero =>
    intro e he d
    have he : e = 10 := by omega
    subst he
    refine ⟨d, ⟨78, [some (.ref 0), some (.long start), none, some (.long d), none, some (.int (nI 10)), none], dX6_digestOfRecordings_78, ?_⟩⟩
    refine js_iload dX6_digestOfRecordings_5 rfl ?_
    refine js_bipush (v := nI 10) dX6_digestOfRecordings_7 (by decide) ?_
    refine jn_icmp_ge 77 (by omega) (by omega) dX6_digestOfRecordings_9 (by decide) (fun _ => ?_) (fun h9 => absurd h9 (by omega))
    refine js_lload_n 3 rfl dX6_digestOfRecordings_77 rfl ?_
    exact jj_refl
  | succ k ih =>
    intro e he d
    obtain ⟨d1, h1⟩ := li_recs (lay := lay) hB h hK (e := e) (by omega) (start := start) 7 0 (by omega) d
    obtain ⟨d2, h2⟩ := li_recs2 (lay := lay) hB h hK htr (e := e) (by omega) (start := start) 2 0 (by omega) d1
    obtain ⟨d', hR⟩ := ih (e + 1) (by omega) (d2)
    have b1 : jj_R cX6_digestOfRecordings 7 RX6 yX6_digestOfRecordings.name none 4 89 lay.length (jj_sl lay) (42, [some (.ref 0), some (.long start), none, some (.long d1), none, some (.int (nI e)), some (.int (nI 7))], [], lay, S) (45, [some (.ref 0), some (.long start), none, some (.long d1), none, some (.int (nI e)), some (.int (nI 0))], [], lay, S) := by
      refine js_iconst (v := nI 0) dX6_digestOfRecordings_42 (by decide) ?_
      refine js_istore (L' := [some (.ref 0), some (.long start), none, some (.long d1), none, some (.int (nI e)), some (.int (nI 0))]) dX6_digestOfRecordings_43 rfl (Nat.le_of_ble_eq_true rfl) ?_
      exact jj_refl
    refine ⟨d', jj_RRs (jj_tr ?_ (jj_tr h1 (jj_tr b1 (jj_tr h2 ?_)))) hR⟩
    · refine js_iload dX6_digestOfRecordings_5 rfl ?_
      refine js_bipush (v := nI 10) dX6_digestOfRecordings_7 (by decide) ?_
      refine jn_icmp_ge 77 (by omega) (by omega) dX6_digestOfRecordings_9 (by decide) (fun h9 => absurd h9 (by omega)) (fun _ => ?_)
      refine js_iconst (v := nI 0) dX6_digestOfRecordings_12 (by decide) ?_
      refine js_istore (L' := [some (.ref 0), some (.long start), none, some (.long d), none, some (.int (nI e)), some (.int (nI 0))]) dX6_digestOfRecordings_13 rfl (Nat.le_of_ble_eq_true rfl) ?_
      exact jj_refl
    · refine js_iinc (v := nI (e + 1)) (L' := [some (.ref 0), some (.long start), none, some (.long d2), none, some (.int (nI (e + 1))), some (.int (nI 2))]) dX6_digestOfRecordings_71 rfl (jj_inc _) rfl ?_
      refine js_goto 5 dX6_digestOfRecordings_74 (by decide) ?_
      refine js_fgL (L' := [some (.ref 0), some (.long start), none, some (.long d2), none, some (.int (nI (e + 1))), none]) (by simp [jj_le, jj_sm]) ?_
      exact jj_refl
set_option maxRecDepth 100000 in
set_option maxHeartbeats 4000000 in
theorem E_X6_digestOfRecordings {lay : jj_Lay} {S : jj_Mem} {P : jj_P} (hB : jj_pp lay) (h : jj_J S P) (hK : jj_K P) (htr : ∀ rule, rule < 2 → (∀ u, u < 10 → ∃ y, S (jj_tb rule + 2) u = some (nI y) ∧ P.ge u ≤ y) ∧ (∀ u, u < 5 → ∃ y, S (jj_tb rule + 5) u = some (nI y) ∧ P.pa u ≤ y)) {start : Int64} : ∃ d : Int64, jj_CT yX6_digestOfRecordings (.code yX6_digestOfRecordings cX6_digestOfRecordings 7 (some .long)) none 4 89 [.ref 0, .long start] lay S (some (.long d)) lay S := by
  obtain ⟨d, hR⟩ := lo_X6_digestOfRecordings (lay := lay) hB h hK htr (start := start) 10 0 (by omega) start
  refine ⟨d, ?_⟩
  refine jj_mkL RX6 (by decide) rfl (L := [some (.ref 0), some (.long start), none, none, none, none, none]) rfl rfl ?_
  refine jj_RRs ?_ hR
  refine js_lload_n 1 rfl dX6_digestOfRecordings_0 rfl ?_
  refine js_lstore_n (L' := [some (.ref 0), some (.long start), none, some (.long start), none, none, none]) 3 rfl dX6_digestOfRecordings_1 rfl (Nat.le_of_ble_eq_true rfl) ?_
  refine js_iconst (v := nI 0) dX6_digestOfRecordings_2 (by decide) ?_
  refine js_istore (L' := [some (.ref 0), some (.long start), none, some (.long start), none, some (.int (nI 0)), none]) dX6_digestOfRecordings_3 rfl (Nat.le_of_ble_eq_true rfl) ?_
  exact jj_refl

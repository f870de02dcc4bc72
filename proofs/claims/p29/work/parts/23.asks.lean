/-! WHAT IS ASKED, in numbers where the law uses it. -/
set_option maxRecDepth 100000 in
set_option maxHeartbeats 4000000 in
theorem q_X6_many_0 {lay : jj_Lay} {S : jj_Mem} {P : jj_P} (hB : jj_pp lay) (h : jj_J S P) (hK : jj_K P)  : jj_CT yX6_many (.code yX6_many cX6_many 2 (some .int)) none 1 25 [.ref 0, .int (nI 0)] lay S (some (.int (nI P.t))) lay S := by
  have h8 := h.au.1
  have h14 := h.tk.1
  have h130 := h.lg.1
  have ht9 := h.ht
  refine jj_mkI RX6 .int (by decide) rfl (L := [some (.ref 0), some (.int (nI 0))]) rfl rfl rfl ⟨112, [some (.ref 0), some (.int (nI 0))], dX6_many_112, ?_⟩
  refine js_iload_n 1 rfl dX6_many_0 rfl ?_
  refine jn_if_lt 10 (by omega) dX6_many_1 (by decide) (fun h9 => absurd h9 (by omega)) (fun _ => ?_)
  refine js_iload_n 1 rfl dX6_many_4 rfl ?_
  refine js_bipush (v := nI 17) dX6_many_5 (by decide) ?_
  refine jn_icmp_le 20 (by omega) (by omega) dX6_many_7 (by decide) (fun _ => ?_) (fun h9 => absurd h9 (by omega))
  refine js_iload_n 1 rfl dX6_many_20 rfl ?_
  refine js_bipush (v := nI 14) dX6_many_21 (by decide) ?_
  refine jn_icmp_lt 39 (by omega) (by omega) dX6_many_23 (by decide) (fun _ => ?_) (fun h9 => absurd h9 (by omega))
  refine js_iload_n 1 rfl dX6_many_39 rfl ?_
  refine js_tabIn 108 (off := 68) dX6_many_40 (by decide) (by decide) (by decide) (by decide) ?_
  refine js_aload_n 0 rfl dX6_many_108 rfl ?_
  refine js_geti 9 jw_f_RX6_61 (jl_0 hB) rfl (Nat.le_of_ble_eq_true rfl) rfl (h.now) dX6_many_109 ?_
  exact jj_refl
set_option maxRecDepth 100000 in
set_option maxHeartbeats 4000000 in
theorem q_X6_many_1 {lay : jj_Lay} {S : jj_Mem} {P : jj_P} (hB : jj_pp lay) (h : jj_J S P) (hK : jj_K P)  : jj_CT yX6_many (.code yX6_many cX6_many 2 (some .int)) none 1 25 [.ref 0, .int (nI 1)] lay S (some (.int (nI (P.t / 14400)))) lay S := by
  have h8 := h.au.1
  have h14 := h.tk.1
  have h130 := h.lg.1
  have ht9 := h.ht
  refine jj_mkI RX6 .int (by decide) rfl (L := [some (.ref 0), some (.int (nI 1))]) rfl rfl rfl ⟨120, [some (.ref 0), some (.int (nI 1))], dX6_many_120, ?_⟩
  refine js_iload_n 1 rfl dX6_many_0 rfl ?_
  refine jn_if_lt 10 (by omega) dX6_many_1 (by decide) (fun h9 => absurd h9 (by omega)) (fun _ => ?_)
  refine js_iload_n 1 rfl dX6_many_4 rfl ?_
  refine js_bipush (v := nI 17) dX6_many_5 (by decide) ?_
  refine jn_icmp_le 20 (by omega) (by omega) dX6_many_7 (by decide) (fun _ => ?_) (fun h9 => absurd h9 (by omega))
  refine js_iload_n 1 rfl dX6_many_20 rfl ?_
  refine js_bipush (v := nI 14) dX6_many_21 (by decide) ?_
  refine jn_icmp_lt 39 (by omega) (by omega) dX6_many_23 (by decide) (fun _ => ?_) (fun h9 => absurd h9 (by omega))
  refine js_iload_n 1 rfl dX6_many_39 rfl ?_
  refine js_tabIn 113 (off := 73) dX6_many_40 (by decide) (by decide) (by decide) (by decide) ?_
  refine js_aload_n 0 rfl dX6_many_113 rfl ?_
  refine js_geti 9 jw_f_RX6_61 (jl_0 hB) rfl (Nat.le_of_ble_eq_true rfl) rfl (h.now) dX6_many_114 ?_
  refine js_callS (av := [.int (nI P.t)]) (st := []) (ct_X6_monthOf (by omega)) (Or.inl rfl) jw_c_X6_monthOf jw_i_RX6 jw_m_RX6_207 jw_s_X6_monthOf jw_y_X6_monthOf rfl ⟨(Nat.le_of_ble_eq_true rfl), (Nat.le_of_ble_eq_true rfl), (Nat.le_refl _), (Nat.le_refl _), (Nat.le_of_ble_eq_true rfl)⟩ dX6_many_117 ?_
  refine js_st (st' := [.int (nI (P.t / 14400))]) rfl ?_
  exact jj_refl
set_option maxRecDepth 100000 in
set_option maxHeartbeats 4000000 in
theorem q_X6_many_2 {lay : jj_Lay} {S : jj_Mem} {P : jj_P} (hB : jj_pp lay) (h : jj_J S P) (hK : jj_K P)  : jj_CT yX6_many (.code yX6_many cX6_many 2 (some .int)) none 1 25 [.ref 0, .int (nI 2)] lay S (some (.int (nI P.nt))) lay S := by
  have h8 := h.au.1
  have h14 := h.tk.1
  have h130 := h.lg.1
  have ht9 := h.ht
  refine jj_mkI RX6 .int (by decide) rfl (L := [some (.ref 0), some (.int (nI 2))]) rfl rfl rfl ⟨128, [some (.ref 0), some (.int (nI 2))], dX6_many_128, ?_⟩
  refine js_iload_n 1 rfl dX6_many_0 rfl ?_
  refine jn_if_lt 10 (by omega) dX6_many_1 (by decide) (fun h9 => absurd h9 (by omega)) (fun _ => ?_)
  refine js_iload_n 1 rfl dX6_many_4 rfl ?_
  refine js_bipush (v := nI 17) dX6_many_5 (by decide) ?_
  refine jn_icmp_le 20 (by omega) (by omega) dX6_many_7 (by decide) (fun _ => ?_) (fun h9 => absurd h9 (by omega))
  refine js_iload_n 1 rfl dX6_many_20 rfl ?_
  refine js_bipush (v := nI 14) dX6_many_21 (by decide) ?_
  refine jn_icmp_lt 39 (by omega) (by omega) dX6_many_23 (by decide) (fun _ => ?_) (fun h9 => absurd h9 (by omega))
  refine js_iload_n 1 rfl dX6_many_39 rfl ?_
  refine js_tabIn 121 (off := 81) dX6_many_40 (by decide) (by decide) (by decide) (by decide) ?_
  refine js_aload_n 0 rfl dX6_many_121 rfl ?_
  refine js_getr 0 jw_f_RX6_12 (jl_0 hB) rfl (Nat.le_of_ble_eq_true rfl) rfl dX6_many_122 ?_
  refine js_getNi 0 jw_n_RX6_72 (jl_1 hB) rfl (Nat.le_of_ble_eq_true rfl) rfl (h.tk.2.1) dX6_many_125 ?_
  exact jj_refl
set_option maxRecDepth 100000 in
set_option maxHeartbeats 4000000 in
theorem q_X6_many_3 {lay : jj_Lay} {S : jj_Mem} {P : jj_P} (hB : jj_pp lay) (h : jj_J S P) (hK : jj_K P)  : jj_CT yX6_many (.code yX6_many cX6_many 2 (some .int)) none 1 25 [.ref 0, .int (nI 3)] lay S (some (.int (nI P.wn))) lay S := by
  have h8 := h.au.1
  have h14 := h.tk.1
  have h130 := h.lg.1
  have ht9 := h.ht
  refine jj_mkI RX6 .int (by decide) rfl (L := [some (.ref 0), some (.int (nI 3))]) rfl rfl rfl ⟨136, [some (.ref 0), some (.int (nI 3))], dX6_many_136, ?_⟩
  refine js_iload_n 1 rfl dX6_many_0 rfl ?_
  refine jn_if_lt 10 (by omega) dX6_many_1 (by decide) (fun h9 => absurd h9 (by omega)) (fun _ => ?_)
  refine js_iload_n 1 rfl dX6_many_4 rfl ?_
  refine js_bipush (v := nI 17) dX6_many_5 (by decide) ?_
  refine jn_icmp_le 20 (by omega) (by omega) dX6_many_7 (by decide) (fun _ => ?_) (fun h9 => absurd h9 (by omega))
  refine js_iload_n 1 rfl dX6_many_20 rfl ?_
  refine js_bipush (v := nI 14) dX6_many_21 (by decide) ?_
  refine jn_icmp_lt 39 (by omega) (by omega) dX6_many_23 (by decide) (fun _ => ?_) (fun h9 => absurd h9 (by omega))
  refine js_iload_n 1 rfl dX6_many_39 rfl ?_
  refine js_tabIn 129 (off := 89) dX6_many_40 (by decide) (by decide) (by decide) (by decide) ?_
  refine js_aload_n 0 rfl dX6_many_129 rfl ?_
  refine js_getr 0 jw_f_RX6_12 (jl_0 hB) rfl (Nat.le_of_ble_eq_true rfl) rfl dX6_many_130 ?_
  refine js_getNi 3 jw_n_RX6_100 (jl_1 hB) rfl (Nat.le_of_ble_eq_true rfl) rfl (h.wi.2.1) dX6_many_133 ?_
  exact jj_refl
set_option maxRecDepth 100000 in
set_option maxHeartbeats 4000000 in
theorem q_X6_many_4 {lay : jj_Lay} {S : jj_Mem} {P : jj_P} (hB : jj_pp lay) (h : jj_J S P) (hK : jj_K P)  : jj_CT yX6_many (.code yX6_many cX6_many 2 (some .int)) none 1 25 [.ref 0, .int (nI 4)] lay S (some (.int (nI P.cnt))) lay S := by
  have h8 := h.au.1
  have h14 := h.tk.1
  have h130 := h.lg.1
  have ht9 := h.ht
  refine jj_mkI RX6 .int (by decide) rfl (L := [some (.ref 0), some (.int (nI 4))]) rfl rfl rfl ⟨144, [some (.ref 0), some (.int (nI 4))], dX6_many_144, ?_⟩
  refine js_iload_n 1 rfl dX6_many_0 rfl ?_
  refine jn_if_lt 10 (by omega) dX6_many_1 (by decide) (fun h9 => absurd h9 (by omega)) (fun _ => ?_)
  refine js_iload_n 1 rfl dX6_many_4 rfl ?_
  refine js_bipush (v := nI 17) dX6_many_5 (by decide) ?_
  refine jn_icmp_le 20 (by omega) (by omega) dX6_many_7 (by decide) (fun _ => ?_) (fun h9 => absurd h9 (by omega))
  refine js_iload_n 1 rfl dX6_many_20 rfl ?_
  refine js_bipush (v := nI 14) dX6_many_21 (by decide) ?_
  refine jn_icmp_lt 39 (by omega) (by omega) dX6_many_23 (by decide) (fun _ => ?_) (fun h9 => absurd h9 (by omega))
  refine js_iload_n 1 rfl dX6_many_39 rfl ?_
  refine js_tabIn 137 (off := 97) dX6_many_40 (by decide) (by decide) (by decide) (by decide) ?_
  refine js_aload_n 0 rfl dX6_many_137 rfl ?_
  refine js_getr 2 jw_f_RX6_26 (jl_0 hB) rfl (Nat.le_of_ble_eq_true rfl) rfl dX6_many_138 ?_
  refine js_getNi 0 jw_n_RX6_144 (jl_20 hB) rfl (Nat.le_of_ble_eq_true rfl) rfl (h.au.2.1) dX6_many_141 ?_
  exact jj_refl
set_option maxRecDepth 100000 in
set_option maxHeartbeats 4000000 in
theorem q_X6_many_5 {lay : jj_Lay} {S : jj_Mem} {P : jj_P} (hB : jj_pp lay) (h : jj_J S P) (hK : jj_K P)  : jj_CT yX6_many (.code yX6_many cX6_many 2 (some .int)) none 1 25 [.ref 0, .int (nI 5)] lay S (some (.int (nI P.n))) lay S := by
  have h8 := h.au.1
  have h14 := h.tk.1
  have h130 := h.lg.1
  have ht9 := h.ht
  refine jj_mkI RX6 .int (by decide) rfl (L := [some (.ref 0), some (.int (nI 5))]) rfl rfl rfl ⟨152, [some (.ref 0), some (.int (nI 5))], dX6_many_152, ?_⟩
  refine js_iload_n 1 rfl dX6_many_0 rfl ?_
  refine jn_if_lt 10 (by omega) dX6_many_1 (by decide) (fun h9 => absurd h9 (by omega)) (fun _ => ?_)
  refine js_iload_n 1 rfl dX6_many_4 rfl ?_
  refine js_bipush (v := nI 17) dX6_many_5 (by decide) ?_
  refine jn_icmp_le 20 (by omega) (by omega) dX6_many_7 (by decide) (fun _ => ?_) (fun h9 => absurd h9 (by omega))
  refine js_iload_n 1 rfl dX6_many_20 rfl ?_
  refine js_bipush (v := nI 14) dX6_many_21 (by decide) ?_
  refine jn_icmp_lt 39 (by omega) (by omega) dX6_many_23 (by decide) (fun _ => ?_) (fun h9 => absurd h9 (by omega))
  refine js_iload_n 1 rfl dX6_many_39 rfl ?_
  refine js_tabIn 145 (off := 105) dX6_many_40 (by decide) (by decide) (by decide) (by decide) ?_
  refine js_aload_n 0 rfl dX6_many_145 rfl ?_
  refine js_getr 3 jw_f_RX6_33 (jl_0 hB) rfl (Nat.le_of_ble_eq_true rfl) rfl dX6_many_146 ?_
  refine js_getNi 0 jw_n_RX6_194 (jl_35 hB) rfl (Nat.le_of_ble_eq_true rfl) rfl (h.lg.2.1) dX6_many_149 ?_
  exact jj_refl
set_option maxRecDepth 100000 in
set_option maxHeartbeats 4000000 in
theorem q_X6_many_6 {lay : jj_Lay} {S : jj_Mem} {P : jj_P} (hB : jj_pp lay) (h : jj_J S P) (hK : jj_K P)  : ∃ r : Int32, jj_CT yX6_many (.code yX6_many cX6_many 2 (some .int)) none 1 25 [.ref 0, .int (nI 6)] lay S (some (.int r)) lay S := by
  have h8 := h.au.1
  have h14 := h.tk.1
  have h130 := h.lg.1
  have ht9 := h.ht
  obtain ⟨r, hct⟩ := ct_X4_countWithReason (lay := lay) hB h.lg (u := nI 0)
  refine ⟨r, ?_⟩
  refine jj_mkI RX6 .int (by decide) rfl (L := [some (.ref 0), some (.int (nI 6))]) rfl rfl rfl ⟨161, [some (.ref 0), some (.int (nI 6))], dX6_many_161, ?_⟩
  refine js_iload_n 1 rfl dX6_many_0 rfl ?_
  refine jn_if_lt 10 (by omega) dX6_many_1 (by decide) (fun h9 => absurd h9 (by omega)) (fun _ => ?_)
  refine js_iload_n 1 rfl dX6_many_4 rfl ?_
  refine js_bipush (v := nI 17) dX6_many_5 (by decide) ?_
  refine jn_icmp_le 20 (by omega) (by omega) dX6_many_7 (by decide) (fun _ => ?_) (fun h9 => absurd h9 (by omega))
  refine js_iload_n 1 rfl dX6_many_20 rfl ?_
  refine js_bipush (v := nI 14) dX6_many_21 (by decide) ?_
  refine jn_icmp_lt 39 (by omega) (by omega) dX6_many_23 (by decide) (fun _ => ?_) (fun h9 => absurd h9 (by omega))
  refine js_iload_n 1 rfl dX6_many_39 rfl ?_
  refine js_tabIn 153 (off := 113) dX6_many_40 (by decide) (by decide) (by decide) (by decide) ?_
  refine js_aload_n 0 rfl dX6_many_153 rfl ?_
  refine js_getr 3 jw_f_RX6_33 (jl_0 hB) rfl (Nat.le_of_ble_eq_true rfl) rfl dX6_many_154 ?_
  refine js_iconst (v := nI 0) dX6_many_157 (by decide) ?_
  refine js_callVN (av := [.int (nI 0)]) (st := []) (b := 35) hct (Or.inl rfl) jw_c_X4_countWithReason jw_i_RX4 jw_h_RX6_289 jw_s_X4_countWithReason jw_e_X4_countWithReason (jl_35 hB) rfl jw_y_X4_countWithReason rfl ⟨(Nat.le_of_ble_eq_true rfl), (Nat.le_of_ble_eq_true rfl), (Nat.le_refl _), (Nat.le_refl _), (Nat.le_of_ble_eq_true rfl)⟩ dX6_many_158 ?_
  refine js_st (st' := [.int r]) rfl ?_
  exact jj_refl
set_option maxRecDepth 100000 in
set_option maxHeartbeats 4000000 in
theorem q_X6_many_7 {lay : jj_Lay} {S : jj_Mem} {P : jj_P} (hB : jj_pp lay) (h : jj_J S P) (hK : jj_K P)  : jj_CT yX6_many (.code yX6_many cX6_many 2 (some .int)) none 1 25 [.ref 0, .int (nI 7)] lay S (some (.int (nI 0))) lay S := by
  have h8 := h.au.1
  have h14 := h.tk.1
  have h130 := h.lg.1
  have ht9 := h.ht
  refine jj_mkI RX6 .int (by decide) rfl (L := [some (.ref 0), some (.int (nI 7))]) rfl rfl rfl ⟨166, [some (.ref 0), some (.int (nI 7))], dX6_many_166, ?_⟩
  refine js_iload_n 1 rfl dX6_many_0 rfl ?_
  refine jn_if_lt 10 (by omega) dX6_many_1 (by decide) (fun h9 => absurd h9 (by omega)) (fun _ => ?_)
  refine js_iload_n 1 rfl dX6_many_4 rfl ?_
  refine js_bipush (v := nI 17) dX6_many_5 (by decide) ?_
  refine jn_icmp_le 20 (by omega) (by omega) dX6_many_7 (by decide) (fun _ => ?_) (fun h9 => absurd h9 (by omega))
  refine js_iload_n 1 rfl dX6_many_20 rfl ?_
  refine js_bipush (v := nI 14) dX6_many_21 (by decide) ?_
  refine jn_icmp_lt 39 (by omega) (by omega) dX6_many_23 (by decide) (fun _ => ?_) (fun h9 => absurd h9 (by omega))
  refine js_iload_n 1 rfl dX6_many_39 rfl ?_
  refine js_tabIn 162 (off := 122) dX6_many_40 (by decide) (by decide) (by decide) (by decide) ?_
  refine js_aload_n 0 rfl dX6_many_162 rfl ?_
  refine js_geti 10 jw_f_RX6_65 (jl_0 hB) rfl (Nat.le_of_ble_eq_true rfl) rfl (h.ru) dX6_many_163 ?_
  exact jj_refl
set_option maxRecDepth 100000 in
set_option maxHeartbeats 4000000 in
theorem q_X6_many_8 {lay : jj_Lay} {S : jj_Mem} {P : jj_P} (hB : jj_pp lay) (h : jj_J S P) (hK : jj_K P)  : jj_CT yX6_many (.code yX6_many cX6_many 2 (some .int)) none 1 25 [.ref 0, .int (nI 8)] lay S (some (.int (nI P.h))) lay S := by
  have h8 := h.au.1
  have h14 := h.tk.1
  have h130 := h.lg.1
  have ht9 := h.ht
  refine jj_mkI RX6 .int (by decide) rfl (L := [some (.ref 0), some (.int (nI 8))]) rfl rfl rfl ⟨174, [some (.ref 0), some (.int (nI 8))], dX6_many_174, ?_⟩
  refine js_iload_n 1 rfl dX6_many_0 rfl ?_
  refine jn_if_lt 10 (by omega) dX6_many_1 (by decide) (fun h9 => absurd h9 (by omega)) (fun _ => ?_)
  refine js_iload_n 1 rfl dX6_many_4 rfl ?_
  refine js_bipush (v := nI 17) dX6_many_5 (by decide) ?_
  refine jn_icmp_le 20 (by omega) (by omega) dX6_many_7 (by decide) (fun _ => ?_) (fun h9 => absurd h9 (by omega))
  refine js_iload_n 1 rfl dX6_many_20 rfl ?_
  refine js_bipush (v := nI 14) dX6_many_21 (by decide) ?_
  refine jn_icmp_lt 39 (by omega) (by omega) dX6_many_23 (by decide) (fun _ => ?_) (fun h9 => absurd h9 (by omega))
  refine js_iload_n 1 rfl dX6_many_39 rfl ?_
  refine js_tabIn 167 (off := 127) dX6_many_40 (by decide) (by decide) (by decide) (by decide) ?_
  refine js_aload_n 0 rfl dX6_many_167 rfl ?_
  refine js_getr 5 jw_f_RX6_47 (jl_0 hB) rfl (Nat.le_of_ble_eq_true rfl) rfl dX6_many_168 ?_
  refine js_getNi 0 jw_n_RX6_292 (jl_70 hB) rfl (Nat.le_of_ble_eq_true rfl) rfl (h.bs.1) dX6_many_171 ?_
  exact jj_refl
set_option maxRecDepth 100000 in
set_option maxHeartbeats 4000000 in
theorem q_X6_many_9 {lay : jj_Lay} {S : jj_Mem} {P : jj_P} (hB : jj_pp lay) (h : jj_J S P) (hK : jj_K P)  : jj_CT yX6_many (.code yX6_many cX6_many 2 (some .int)) none 1 25 [.ref 0, .int (nI 9)] lay S (some (.int (nI P.x))) lay S := by
  have h8 := h.au.1
  have h14 := h.tk.1
  have h130 := h.lg.1
  have ht9 := h.ht
  refine jj_mkI RX6 .int (by decide) rfl (L := [some (.ref 0), some (.int (nI 9))]) rfl rfl rfl ⟨182, [some (.ref 0), some (.int (nI 9))], dX6_many_182, ?_⟩
  refine js_iload_n 1 rfl dX6_many_0 rfl ?_
  refine jn_if_lt 10 (by omega) dX6_many_1 (by decide) (fun h9 => absurd h9 (by omega)) (fun _ => ?_)
  refine js_iload_n 1 rfl dX6_many_4 rfl ?_
  refine js_bipush (v := nI 17) dX6_many_5 (by decide) ?_
  refine jn_icmp_le 20 (by omega) (by omega) dX6_many_7 (by decide) (fun _ => ?_) (fun h9 => absurd h9 (by omega))
  refine js_iload_n 1 rfl dX6_many_20 rfl ?_
  refine js_bipush (v := nI 14) dX6_many_21 (by decide) ?_
  refine jn_icmp_lt 39 (by omega) (by omega) dX6_many_23 (by decide) (fun _ => ?_) (fun h9 => absurd h9 (by omega))
  refine js_iload_n 1 rfl dX6_many_39 rfl ?_
  refine js_tabIn 175 (off := 135) dX6_many_40 (by decide) (by decide) (by decide) (by decide) ?_
  refine js_aload_n 0 rfl dX6_many_175 rfl ?_
  refine js_getr 5 jw_f_RX6_47 (jl_0 hB) rfl (Nat.le_of_ble_eq_true rfl) rfl dX6_many_176 ?_
  refine js_getNi 1 jw_n_RX6_295 (jl_70 hB) rfl (Nat.le_of_ble_eq_true rfl) rfl (h.bs.2.1) dX6_many_179 ?_
  exact jj_refl
set_option maxRecDepth 100000 in
set_option maxHeartbeats 4000000 in
theorem q_X6_many_10 {lay : jj_Lay} {S : jj_Mem} {P : jj_P} (hB : jj_pp lay) (h : jj_J S P) (hK : jj_K P)  : jj_CT yX6_many (.code yX6_many cX6_many 2 (some .int)) none 1 25 [.ref 0, .int (nI 10)] lay S (some (.int (nI (jj_sm P.he 10)))) lay S := by
  have h8 := h.au.1
  have h14 := h.tk.1
  have h130 := h.lg.1
  have ht9 := h.ht
  refine jj_mkI RX6 .int (by decide) rfl (L := [some (.ref 0), some (.int (nI 10))]) rfl rfl rfl ⟨193, [some (.ref 0), some (.int (nI 10))], dX6_many_193, ?_⟩
  refine js_iload_n 1 rfl dX6_many_0 rfl ?_
  refine jn_if_lt 10 (by omega) dX6_many_1 (by decide) (fun h9 => absurd h9 (by omega)) (fun _ => ?_)
  refine js_iload_n 1 rfl dX6_many_4 rfl ?_
  refine js_bipush (v := nI 17) dX6_many_5 (by decide) ?_
  refine jn_icmp_le 20 (by omega) (by omega) dX6_many_7 (by decide) (fun _ => ?_) (fun h9 => absurd h9 (by omega))
  refine js_iload_n 1 rfl dX6_many_20 rfl ?_
  refine js_bipush (v := nI 14) dX6_many_21 (by decide) ?_
  refine jn_icmp_lt 39 (by omega) (by omega) dX6_many_23 (by decide) (fun _ => ?_) (fun h9 => absurd h9 (by omega))
  refine js_iload_n 1 rfl dX6_many_39 rfl ?_
  refine js_tabIn 183 (off := 143) dX6_many_40 (by decide) (by decide) (by decide) (by decide) ?_
  refine js_aload_n 0 rfl dX6_many_183 rfl ?_
  refine js_getr 5 jw_f_RX6_47 (jl_0 hB) rfl (Nat.le_of_ble_eq_true rfl) rfl dX6_many_184 ?_
  refine js_getNr 4 jw_n_RX6_273 (jl_70 hB) rfl (Nat.le_of_ble_eq_true rfl) rfl dX6_many_187 ?_
  refine js_callS (av := [.ref 73]) (st := []) (ct_X6_sumOf (f := P.he) (jl_73 hB) (by omega) h.bs.2.2.2.2.1) (Or.inl rfl) jw_c_X6_sumOf jw_i_RX6 jw_m_RX6_234 jw_s_X6_sumOf jw_y_X6_sumOf rfl ⟨(Nat.le_of_ble_eq_true rfl), (Nat.le_of_ble_eq_true rfl), (Nat.le_refl _), (Nat.le_refl _), (Nat.le_of_ble_eq_true rfl)⟩ dX6_many_190 ?_
  refine js_st (st' := [.int (nI (jj_sm P.he 10))]) rfl ?_
  exact jj_refl
set_option maxRecDepth 100000 in
set_option maxHeartbeats 4000000 in
theorem q_X6_many_11 {lay : jj_Lay} {S : jj_Mem} {P : jj_P} (hB : jj_pp lay) (h : jj_J S P) (hK : jj_K P)  : jj_CT yX6_many (.code yX6_many cX6_many 2 (some .int)) none 1 25 [.ref 0, .int (nI 11)] lay S (some (.int (nI (jj_sm P.du 5)))) lay S := by
  have h8 := h.au.1
  have h14 := h.tk.1
  have h130 := h.lg.1
  have ht9 := h.ht
  refine jj_mkI RX6 .int (by decide) rfl (L := [some (.ref 0), some (.int (nI 11))]) rfl rfl rfl ⟨204, [some (.ref 0), some (.int (nI 11))], dX6_many_204, ?_⟩
  refine js_iload_n 1 rfl dX6_many_0 rfl ?_
  refine jn_if_lt 10 (by omega) dX6_many_1 (by decide) (fun h9 => absurd h9 (by omega)) (fun _ => ?_)
  refine js_iload_n 1 rfl dX6_many_4 rfl ?_
  refine js_bipush (v := nI 17) dX6_many_5 (by decide) ?_
  refine jn_icmp_le 20 (by omega) (by omega) dX6_many_7 (by decide) (fun _ => ?_) (fun h9 => absurd h9 (by omega))
  refine js_iload_n 1 rfl dX6_many_20 rfl ?_
  refine js_bipush (v := nI 14) dX6_many_21 (by decide) ?_
  refine jn_icmp_lt 39 (by omega) (by omega) dX6_many_23 (by decide) (fun _ => ?_) (fun h9 => absurd h9 (by omega))
  refine js_iload_n 1 rfl dX6_many_39 rfl ?_
  refine js_tabIn 194 (off := 154) dX6_many_40 (by decide) (by decide) (by decide) (by decide) ?_
  refine js_aload_n 0 rfl dX6_many_194 rfl ?_
  refine js_getr 5 jw_f_RX6_47 (jl_0 hB) rfl (Nat.le_of_ble_eq_true rfl) rfl dX6_many_195 ?_
  refine js_getNr 5 jw_n_RX6_261 (jl_70 hB) rfl (Nat.le_of_ble_eq_true rfl) rfl dX6_many_198 ?_
  refine js_callS (av := [.ref 74]) (st := []) (ct_X6_sumOf (f := P.du) (jl_74 hB) (by omega) h.bs.2.2.2.2.2.1) (Or.inl rfl) jw_c_X6_sumOf jw_i_RX6 jw_m_RX6_234 jw_s_X6_sumOf jw_y_X6_sumOf rfl ⟨(Nat.le_of_ble_eq_true rfl), (Nat.le_of_ble_eq_true rfl), (Nat.le_refl _), (Nat.le_refl _), (Nat.le_of_ble_eq_true rfl)⟩ dX6_many_201 ?_
  refine js_st (st' := [.int (nI (jj_sm P.du 5))]) rfl ?_
  exact jj_refl
set_option maxRecDepth 100000 in
set_option maxHeartbeats 4000000 in
theorem q_X6_many_12 {lay : jj_Lay} {S : jj_Mem} {P : jj_P} (hB : jj_pp lay) (h : jj_J S P) (hK : jj_K P)  : jj_CT yX6_many (.code yX6_many cX6_many 2 (some .int)) none 1 25 [.ref 0, .int (nI 12)] lay S (some (.int (nI (jj_sm P.pa 5)))) lay S := by
  have h8 := h.au.1
  have h14 := h.tk.1
  have h130 := h.lg.1
  have ht9 := h.ht
  refine jj_mkI RX6 .int (by decide) rfl (L := [some (.ref 0), some (.int (nI 12))]) rfl rfl rfl ⟨215, [some (.ref 0), some (.int (nI 12))], dX6_many_215, ?_⟩
  refine js_iload_n 1 rfl dX6_many_0 rfl ?_
  refine jn_if_lt 10 (by omega) dX6_many_1 (by decide) (fun h9 => absurd h9 (by omega)) (fun _ => ?_)
  refine js_iload_n 1 rfl dX6_many_4 rfl ?_
  refine js_bipush (v := nI 17) dX6_many_5 (by decide) ?_
  refine jn_icmp_le 20 (by omega) (by omega) dX6_many_7 (by decide) (fun _ => ?_) (fun h9 => absurd h9 (by omega))
  refine js_iload_n 1 rfl dX6_many_20 rfl ?_
  refine js_bipush (v := nI 14) dX6_many_21 (by decide) ?_
  refine jn_icmp_lt 39 (by omega) (by omega) dX6_many_23 (by decide) (fun _ => ?_) (fun h9 => absurd h9 (by omega))
  refine js_iload_n 1 rfl dX6_many_39 rfl ?_
  refine js_tabIn 205 (off := 165) dX6_many_40 (by decide) (by decide) (by decide) (by decide) ?_
  refine js_aload_n 0 rfl dX6_many_205 rfl ?_
  refine js_getr 5 jw_f_RX6_47 (jl_0 hB) rfl (Nat.le_of_ble_eq_true rfl) rfl dX6_many_206 ?_
  refine js_getNr 6 jw_n_RX6_264 (jl_70 hB) rfl (Nat.le_of_ble_eq_true rfl) rfl dX6_many_209 ?_
  refine js_callS (av := [.ref 75]) (st := []) (ct_X6_sumOf (f := P.pa) (jl_75 hB) (by omega) h.bs.2.2.2.2.2.2.1) (Or.inl rfl) jw_c_X6_sumOf jw_i_RX6 jw_m_RX6_234 jw_s_X6_sumOf jw_y_X6_sumOf rfl ⟨(Nat.le_of_ble_eq_true rfl), (Nat.le_of_ble_eq_true rfl), (Nat.le_refl _), (Nat.le_refl _), (Nat.le_of_ble_eq_true rfl)⟩ dX6_many_212 ?_
  refine js_st (st' := [.int (nI (jj_sm P.pa 5))]) rfl ?_
  exact jj_refl
set_option maxRecDepth 100000 in
set_option maxHeartbeats 4000000 in
theorem q_X6_many_13 {lay : jj_Lay} {S : jj_Mem} {P : jj_P} (hB : jj_pp lay) (h : jj_J S P) (hK : jj_K P)  : jj_CT yX6_many (.code yX6_many cX6_many 2 (some .int)) none 1 25 [.ref 0, .int (nI 13)] lay S (some (.int (nI (jj_sm P.re 5)))) lay S := by
  have h8 := h.au.1
  have h14 := h.tk.1
  have h130 := h.lg.1
  have ht9 := h.ht
  refine jj_mkI RX6 .int (by decide) rfl (L := [some (.ref 0), some (.int (nI 13))]) rfl rfl rfl ⟨226, [some (.ref 0), some (.int (nI 13))], dX6_many_226, ?_⟩
  refine js_iload_n 1 rfl dX6_many_0 rfl ?_
  refine jn_if_lt 10 (by omega) dX6_many_1 (by decide) (fun h9 => absurd h9 (by omega)) (fun _ => ?_)
  refine js_iload_n 1 rfl dX6_many_4 rfl ?_
  refine js_bipush (v := nI 17) dX6_many_5 (by decide) ?_
  refine jn_icmp_le 20 (by omega) (by omega) dX6_many_7 (by decide) (fun _ => ?_) (fun h9 => absurd h9 (by omega))
  refine js_iload_n 1 rfl dX6_many_20 rfl ?_
  refine js_bipush (v := nI 14) dX6_many_21 (by decide) ?_
  refine jn_icmp_lt 39 (by omega) (by omega) dX6_many_23 (by decide) (fun _ => ?_) (fun h9 => absurd h9 (by omega))
  refine js_iload_n 1 rfl dX6_many_39 rfl ?_
  refine js_tabOut 216 dX6_many_40 (by decide) (by decide) ?_
  refine js_aload_n 0 rfl dX6_many_216 rfl ?_
  refine js_getr 5 jw_f_RX6_47 (jl_0 hB) rfl (Nat.le_of_ble_eq_true rfl) rfl dX6_many_217 ?_
  refine js_getNr 8 jw_n_RX6_267 (jl_70 hB) rfl (Nat.le_of_ble_eq_true rfl) rfl dX6_many_220 ?_
  refine js_callS (av := [.ref 77]) (st := []) (ct_X6_sumOf (f := P.re) (jl_77 hB) (by omega) h.bs.2.2.2.2.2.2.2.2) (Or.inl rfl) jw_c_X6_sumOf jw_i_RX6 jw_m_RX6_234 jw_s_X6_sumOf jw_y_X6_sumOf rfl ⟨(Nat.le_of_ble_eq_true rfl), (Nat.le_of_ble_eq_true rfl), (Nat.le_refl _), (Nat.le_refl _), (Nat.le_of_ble_eq_true rfl)⟩ dX6_many_223 ?_
  refine js_st (st' := [.int (nI (jj_sm P.re 5))]) rfl ?_
  exact jj_refl
set_option maxRecDepth 100000 in
set_option maxHeartbeats 4000000 in
theorem q_X6_many_14 {lay : jj_Lay} {S : jj_Mem} {P : jj_P} (hB : jj_pp lay) (h : jj_J S P) (hK : jj_K P)  : jj_CT yX6_many (.code yX6_many cX6_many 2 (some .int)) none 1 25 [.ref 0, .int (nI 14)] lay S (some (.int (nI (P.ca ((14 - 14)))))) lay S := by
  have h8 := h.au.1
  have h14 := h.tk.1
  have h130 := h.lg.1
  have ht9 := h.ht
  refine jj_mkI RX6 .int (by decide) rfl (L := [some (.ref 0), some (.int (nI 14))]) rfl rfl rfl ⟨38, [some (.ref 0), some (.int (nI 14))], dX6_many_38, ?_⟩
  refine js_iload_n 1 rfl dX6_many_0 rfl ?_
  refine jn_if_lt 10 (by omega) dX6_many_1 (by decide) (fun h9 => absurd h9 (by omega)) (fun _ => ?_)
  refine js_iload_n 1 rfl dX6_many_4 rfl ?_
  refine js_bipush (v := nI 17) dX6_many_5 (by decide) ?_
  refine jn_icmp_le 20 (by omega) (by omega) dX6_many_7 (by decide) (fun _ => ?_) (fun h9 => absurd h9 (by omega))
  refine js_iload_n 1 rfl dX6_many_20 rfl ?_
  refine js_bipush (v := nI 14) dX6_many_21 (by decide) ?_
  refine jn_icmp_lt 39 (by omega) (by omega) dX6_many_23 (by decide) (fun h9 => absurd h9 (by omega)) (fun _ => ?_)
  refine js_aload_n 0 rfl dX6_many_26 rfl ?_
  refine js_getr 5 jw_f_RX6_47 (jl_0 hB) rfl (Nat.le_of_ble_eq_true rfl) rfl dX6_many_27 ?_
  refine js_getNr 2 jw_n_RX6_286 (jl_70 hB) rfl (Nat.le_of_ble_eq_true rfl) rfl dX6_many_30 ?_
  refine js_iload_n 1 rfl dX6_many_33 rfl ?_
  refine js_bipush (v := nI 14) dX6_many_34 (by decide) ?_
  refine jn_isub (by omega) dX6_many_36 ?_
  refine js_iald ((14 - 14)) rfl (jl_71 hB) (by omega) (by decide) ((h.bs.2.2.1 ((14 - 14)) (by omega))) dX6_many_37 ?_
  exact jj_refl
set_option maxRecDepth 100000 in
set_option maxHeartbeats 4000000 in
theorem q_X6_many_15 {lay : jj_Lay} {S : jj_Mem} {P : jj_P} (hB : jj_pp lay) (h : jj_J S P) (hK : jj_K P)  : jj_CT yX6_many (.code yX6_many cX6_many 2 (some .int)) none 1 25 [.ref 0, .int (nI 15)] lay S (some (.int (nI (P.ca ((15 - 14)))))) lay S := by
  have h8 := h.au.1
  have h14 := h.tk.1
  have h130 := h.lg.1
  have ht9 := h.ht
  refine jj_mkI RX6 .int (by decide) rfl (L := [some (.ref 0), some (.int (nI 15))]) rfl rfl rfl ⟨38, [some (.ref 0), some (.int (nI 15))], dX6_many_38, ?_⟩
  refine js_iload_n 1 rfl dX6_many_0 rfl ?_
  refine jn_if_lt 10 (by omega) dX6_many_1 (by decide) (fun h9 => absurd h9 (by omega)) (fun _ => ?_)
  refine js_iload_n 1 rfl dX6_many_4 rfl ?_
  refine js_bipush (v := nI 17) dX6_many_5 (by decide) ?_
  refine jn_icmp_le 20 (by omega) (by omega) dX6_many_7 (by decide) (fun _ => ?_) (fun h9 => absurd h9 (by omega))
  refine js_iload_n 1 rfl dX6_many_20 rfl ?_
  refine js_bipush (v := nI 14) dX6_many_21 (by decide) ?_
  refine jn_icmp_lt 39 (by omega) (by omega) dX6_many_23 (by decide) (fun h9 => absurd h9 (by omega)) (fun _ => ?_)
  refine js_aload_n 0 rfl dX6_many_26 rfl ?_
  refine js_getr 5 jw_f_RX6_47 (jl_0 hB) rfl (Nat.le_of_ble_eq_true rfl) rfl dX6_many_27 ?_
  refine js_getNr 2 jw_n_RX6_286 (jl_70 hB) rfl (Nat.le_of_ble_eq_true rfl) rfl dX6_many_30 ?_
  refine js_iload_n 1 rfl dX6_many_33 rfl ?_
  refine js_bipush (v := nI 14) dX6_many_34 (by decide) ?_
  refine jn_isub (by omega) dX6_many_36 ?_
  refine js_iald ((15 - 14)) rfl (jl_71 hB) (by omega) (by decide) ((h.bs.2.2.1 ((15 - 14)) (by omega))) dX6_many_37 ?_
  exact jj_refl
set_option maxRecDepth 100000 in
set_option maxHeartbeats 4000000 in
theorem q_X6_many_16 {lay : jj_Lay} {S : jj_Mem} {P : jj_P} (hB : jj_pp lay) (h : jj_J S P) (hK : jj_K P)  : jj_CT yX6_many (.code yX6_many cX6_many 2 (some .int)) none 1 25 [.ref 0, .int (nI 16)] lay S (some (.int (nI (P.ca ((16 - 14)))))) lay S := by
  have h8 := h.au.1
  have h14 := h.tk.1
  have h130 := h.lg.1
  have ht9 := h.ht
  refine jj_mkI RX6 .int (by decide) rfl (L := [some (.ref 0), some (.int (nI 16))]) rfl rfl rfl ⟨38, [some (.ref 0), some (.int (nI 16))], dX6_many_38, ?_⟩
  refine js_iload_n 1 rfl dX6_many_0 rfl ?_
  refine jn_if_lt 10 (by omega) dX6_many_1 (by decide) (fun h9 => absurd h9 (by omega)) (fun _ => ?_)
  refine js_iload_n 1 rfl dX6_many_4 rfl ?_
  refine js_bipush (v := nI 17) dX6_many_5 (by decide) ?_
  refine jn_icmp_le 20 (by omega) (by omega) dX6_many_7 (by decide) (fun _ => ?_) (fun h9 => absurd h9 (by omega))
  refine js_iload_n 1 rfl dX6_many_20 rfl ?_
  refine js_bipush (v := nI 14) dX6_many_21 (by decide) ?_
  refine jn_icmp_lt 39 (by omega) (by omega) dX6_many_23 (by decide) (fun h9 => absurd h9 (by omega)) (fun _ => ?_)
  refine js_aload_n 0 rfl dX6_many_26 rfl ?_
  refine js_getr 5 jw_f_RX6_47 (jl_0 hB) rfl (Nat.le_of_ble_eq_true rfl) rfl dX6_many_27 ?_
  refine js_getNr 2 jw_n_RX6_286 (jl_70 hB) rfl (Nat.le_of_ble_eq_true rfl) rfl dX6_many_30 ?_
  refine js_iload_n 1 rfl dX6_many_33 rfl ?_
  refine js_bipush (v := nI 14) dX6_many_34 (by decide) ?_
  refine jn_isub (by omega) dX6_many_36 ?_
  refine js_iald ((16 - 14)) rfl (jl_71 hB) (by omega) (by decide) ((h.bs.2.2.1 ((16 - 14)) (by omega))) dX6_many_37 ?_
  exact jj_refl
set_option maxRecDepth 100000 in
set_option maxHeartbeats 4000000 in
theorem q_X6_many_17 {lay : jj_Lay} {S : jj_Mem} {P : jj_P} (hB : jj_pp lay) (h : jj_J S P) (hK : jj_K P)  : jj_CT yX6_many (.code yX6_many cX6_many 2 (some .int)) none 1 25 [.ref 0, .int (nI 17)] lay S (some (.int (nI (P.ca ((17 - 14)))))) lay S := by
  have h8 := h.au.1
  have h14 := h.tk.1
  have h130 := h.lg.1
  have ht9 := h.ht
  refine jj_mkI RX6 .int (by decide) rfl (L := [some (.ref 0), some (.int (nI 17))]) rfl rfl rfl ⟨38, [some (.ref 0), some (.int (nI 17))], dX6_many_38, ?_⟩
  refine js_iload_n 1 rfl dX6_many_0 rfl ?_
  refine jn_if_lt 10 (by omega) dX6_many_1 (by decide) (fun h9 => absurd h9 (by omega)) (fun _ => ?_)
  refine js_iload_n 1 rfl dX6_many_4 rfl ?_
  refine js_bipush (v := nI 17) dX6_many_5 (by decide) ?_
  refine jn_icmp_le 20 (by omega) (by omega) dX6_many_7 (by decide) (fun _ => ?_) (fun h9 => absurd h9 (by omega))
  refine js_iload_n 1 rfl dX6_many_20 rfl ?_
  refine js_bipush (v := nI 14) dX6_many_21 (by decide) ?_
  refine jn_icmp_lt 39 (by omega) (by omega) dX6_many_23 (by decide) (fun h9 => absurd h9 (by omega)) (fun _ => ?_)
  refine js_aload_n 0 rfl dX6_many_26 rfl ?_
  refine js_getr 5 jw_f_RX6_47 (jl_0 hB) rfl (Nat.le_of_ble_eq_true rfl) rfl dX6_many_27 ?_
  refine js_getNr 2 jw_n_RX6_286 (jl_70 hB) rfl (Nat.le_of_ble_eq_true rfl) rfl dX6_many_30 ?_
  refine js_iload_n 1 rfl dX6_many_33 rfl ?_
  refine js_bipush (v := nI 14) dX6_many_34 (by decide) ?_
  refine jn_isub (by omega) dX6_many_36 ?_
  refine js_iald ((17 - 14)) rfl (jl_71 hB) (by omega) (by decide) ((h.bs.2.2.1 ((17 - 14)) (by omega))) dX6_many_37 ?_
  exact jj_refl
theorem E_X6_many {lay : jj_Lay} {S : jj_Mem} {P : jj_P} (hB : jj_pp lay) (h : jj_J S P) (hK : jj_K P)  {what : Nat} (hw : what < 18) : ∃ r : Int32, jj_CT yX6_many (.code yX6_many cX6_many 2 (some .int)) none 1 25 [.ref 0, .int (nI what)] lay S (some (.int r)) lay S := by
  rcases (show what = 0 ∨ what = 1 ∨ what = 2 ∨ what = 3 ∨ what = 4 ∨ what = 5 ∨ what = 6 ∨ what = 7 ∨ what = 8 ∨ what = 9 ∨ what = 10 ∨ what = 11 ∨ what = 12 ∨ what = 13 ∨ what = 14 ∨ what = 15 ∨ what = 16 ∨ what = 17 by omega) with rfl | rfl | rfl | rfl | rfl | rfl | rfl | rfl | rfl | rfl | rfl | rfl | rfl | rfl | rfl | rfl | rfl | rfl
  · exact ⟨_, q_X6_many_0 hB h hK ⟩
  · exact ⟨_, q_X6_many_1 hB h hK ⟩
  · exact ⟨_, q_X6_many_2 hB h hK ⟩
  · exact ⟨_, q_X6_many_3 hB h hK ⟩
  · exact ⟨_, q_X6_many_4 hB h hK ⟩
  · exact ⟨_, q_X6_many_5 hB h hK ⟩
  · exact q_X6_many_6 hB h hK 
  · exact ⟨_, q_X6_many_7 hB h hK ⟩
  · exact ⟨_, q_X6_many_8 hB h hK ⟩
  · exact ⟨_, q_X6_many_9 hB h hK ⟩
  · exact ⟨_, q_X6_many_10 hB h hK ⟩
  · exact ⟨_, q_X6_many_11 hB h hK ⟩
  · exact ⟨_, q_X6_many_12 hB h hK ⟩
  · exact ⟨_, q_X6_many_13 hB h hK ⟩
  · exact ⟨_, q_X6_many_14 hB h hK ⟩
  · exact ⟨_, q_X6_many_15 hB h hK ⟩
  · exact ⟨_, q_X6_many_16 hB h hK ⟩
  · exact ⟨_, q_X6_many_17 hB h hK ⟩
set_option maxRecDepth 100000 in
set_option maxHeartbeats 4000000 in
theorem q_X6_ofTrack_0 {lay : jj_Lay} {S : jj_Mem} {P : jj_P} (hB : jj_pp lay) (h : jj_J S P) (hK : jj_K P) {l : Nat} (hl : l < P.nt) : jj_CT yX6_ofTrack (.code yX6_ofTrack cX6_ofTrack 3 (some .int)) none 2 48 [.ref 0, .int (nI l), .int (nI 0)] lay S (some (.int (nI (P.rc l)))) lay S := by
  have h8 := h.au.1
  have h14 := h.tk.1
  have h130 := h.lg.1
  have ht9 := h.ht
  refine jj_mkI RX6 .int (by decide) rfl (L := [some (.ref 0), some (.int (nI l)), some (.int (nI 0))]) rfl rfl rfl ⟨45, [some (.ref 0), some (.int (nI l)), some (.int (nI 0))], dX6_ofTrack_45, ?_⟩
  refine js_aload_n 0 rfl dX6_ofTrack_0 rfl ?_
  refine js_iload_n 1 rfl dX6_ofTrack_1 rfl ?_
  refine js_callV (av := [.int (nI l)]) (st := []) (b := 0) (ct_X6_needTrack hB hl (by omega) h.tk.2.1) (Or.inl rfl) jw_c_X6_needTrack jw_i_RX6 jw_m_RX6_86 jw_s_X6_needTrack jw_e_X6_needTrack (jl_0 hB) rfl jw_y_X6_needTrack rfl ⟨(Nat.le_of_ble_eq_true rfl), (Nat.le_of_ble_eq_true rfl), (Nat.le_refl _), (Nat.le_refl _), (Nat.le_of_ble_eq_true rfl)⟩ dX6_ofTrack_2 ?_
  refine js_st (st' := []) rfl ?_
  refine js_iload_n 2 rfl dX6_ofTrack_5 rfl ?_
  refine js_tabIn 36 (off := 30) dX6_ofTrack_6 (by decide) (by decide) (by decide) (by decide) ?_
  refine js_aload_n 0 rfl dX6_ofTrack_36 rfl ?_
  refine js_getr 0 jw_f_RX6_12 (jl_0 hB) rfl (Nat.le_of_ble_eq_true rfl) rfl dX6_ofTrack_37 ?_
  refine js_getNr 1 jw_n_RX6_214 (jl_1 hB) rfl (Nat.le_of_ble_eq_true rfl) rfl dX6_ofTrack_40 ?_
  refine js_iload_n 1 rfl dX6_ofTrack_43 rfl ?_
  refine js_iald l rfl (jl_2 hB) (by omega) (by decide) ((h.tk.2.2 l (by omega)).1) dX6_ofTrack_44 ?_
  exact jj_refl
set_option maxRecDepth 100000 in
set_option maxHeartbeats 4000000 in
theorem q_X6_ofTrack_1 {lay : jj_Lay} {S : jj_Mem} {P : jj_P} (hB : jj_pp lay) (h : jj_J S P) (hK : jj_K P) {l : Nat} (hl : l < P.nt) : jj_CT yX6_ofTrack (.code yX6_ofTrack cX6_ofTrack 3 (some .int)) none 2 48 [.ref 0, .int (nI l), .int (nI 1)] lay S (some (.int ((-1)))) lay S := by
  have h8 := h.au.1
  have h14 := h.tk.1
  have h130 := h.lg.1
  have ht9 := h.ht
  refine jj_mkI RX6 .int (by decide) rfl (L := [some (.ref 0), some (.int (nI l)), some (.int (nI 1))]) rfl rfl rfl ⟨55, [some (.ref 0), some (.int (nI l)), some (.int (nI 1))], dX6_ofTrack_55, ?_⟩
  refine js_aload_n 0 rfl dX6_ofTrack_0 rfl ?_
  refine js_iload_n 1 rfl dX6_ofTrack_1 rfl ?_
  refine js_callV (av := [.int (nI l)]) (st := []) (b := 0) (ct_X6_needTrack hB hl (by omega) h.tk.2.1) (Or.inl rfl) jw_c_X6_needTrack jw_i_RX6 jw_m_RX6_86 jw_s_X6_needTrack jw_e_X6_needTrack (jl_0 hB) rfl jw_y_X6_needTrack rfl ⟨(Nat.le_of_ble_eq_true rfl), (Nat.le_of_ble_eq_true rfl), (Nat.le_refl _), (Nat.le_refl _), (Nat.le_of_ble_eq_true rfl)⟩ dX6_ofTrack_2 ?_
  refine js_st (st' := []) rfl ?_
  refine js_iload_n 2 rfl dX6_ofTrack_5 rfl ?_
  refine js_tabIn 46 (off := 40) dX6_ofTrack_6 (by decide) (by decide) (by decide) (by decide) ?_
  refine js_aload_n 0 rfl dX6_ofTrack_46 rfl ?_
  refine js_getr 0 jw_f_RX6_12 (jl_0 hB) rfl (Nat.le_of_ble_eq_true rfl) rfl dX6_ofTrack_47 ?_
  refine js_getNr 2 jw_n_RX6_118 (jl_1 hB) rfl (Nat.le_of_ble_eq_true rfl) rfl dX6_ofTrack_50 ?_
  refine js_iload_n 1 rfl dX6_ofTrack_53 rfl ?_
  refine js_iald l rfl (jl_3 hB) (by omega) (by decide) ((h.tk.2.2 l (by omega)).2.2) dX6_ofTrack_54 ?_
  exact jj_refl
set_option maxRecDepth 100000 in
set_option maxHeartbeats 4000000 in
theorem q_X6_ofTrack_2 {lay : jj_Lay} {S : jj_Mem} {P : jj_P} (hB : jj_pp lay) (h : jj_J S P) (hK : jj_K P) {l : Nat} (hl : l < P.nt) : ∃ r : Int32, jj_CT yX6_ofTrack (.code yX6_ofTrack cX6_ofTrack 3 (some .int)) none 2 48 [.ref 0, .int (nI l), .int (nI 2)] lay S (some (.int r)) lay S := by
  have h8 := h.au.1
  have h14 := h.tk.1
  have h130 := h.lg.1
  have ht9 := h.ht
  obtain ⟨r, hct⟩ := ct_X2_landsAllowing (lay := lay) hB h.wi (x := nI l) (z := nI P.t)
  refine ⟨r, ?_⟩
  refine jj_mkI RX6 .int (by decide) rfl (L := [some (.ref 0), some (.int (nI l)), some (.int (nI 2))]) rfl rfl rfl ⟨68, [some (.ref 0), some (.int (nI l)), some (.int (nI 2))], dX6_ofTrack_68, ?_⟩
  refine js_aload_n 0 rfl dX6_ofTrack_0 rfl ?_
  refine js_iload_n 1 rfl dX6_ofTrack_1 rfl ?_
  refine js_callV (av := [.int (nI l)]) (st := []) (b := 0) (ct_X6_needTrack hB hl (by omega) h.tk.2.1) (Or.inl rfl) jw_c_X6_needTrack jw_i_RX6 jw_m_RX6_86 jw_s_X6_needTrack jw_e_X6_needTrack (jl_0 hB) rfl jw_y_X6_needTrack rfl ⟨(Nat.le_of_ble_eq_true rfl), (Nat.le_of_ble_eq_true rfl), (Nat.le_refl _), (Nat.le_refl _), (Nat.le_of_ble_eq_true rfl)⟩ dX6_ofTrack_2 ?_
  refine js_st (st' := []) rfl ?_
  refine js_iload_n 2 rfl dX6_ofTrack_5 rfl ?_
  refine js_tabIn 56 (off := 50) dX6_ofTrack_6 (by decide) (by decide) (by decide) (by decide) ?_
  refine js_aload_n 0 rfl dX6_ofTrack_56 rfl ?_
  refine js_getr 0 jw_f_RX6_12 (jl_0 hB) rfl (Nat.le_of_ble_eq_true rfl) rfl dX6_ofTrack_57 ?_
  refine js_iload_n 1 rfl dX6_ofTrack_60 rfl ?_
  refine js_aload_n 0 rfl dX6_ofTrack_61 rfl ?_
  refine js_geti 9 jw_f_RX6_61 (jl_0 hB) rfl (Nat.le_of_ble_eq_true rfl) rfl (h.now) dX6_ofTrack_62 ?_
  refine js_callVN (av := [.int (nI l), .int (nI P.t)]) (st := []) (b := 1) hct (Or.inl rfl) jw_c_X2_landsAllowing jw_i_RX2 jw_h_RX6_217 jw_s_X2_landsAllowing jw_e_X2_landsAllowing (jl_1 hB) rfl jw_y_X2_landsAllowing rfl ⟨(Nat.le_of_ble_eq_true rfl), (Nat.le_of_ble_eq_true rfl), (Nat.le_refl _), (Nat.le_refl _), (Nat.le_of_ble_eq_true rfl)⟩ dX6_ofTrack_65 ?_
  refine js_st (st' := [.int r]) rfl ?_
  exact jj_refl
set_option maxRecDepth 100000 in
set_option maxHeartbeats 4000000 in
theorem q_X6_ofTrack_3 {lay : jj_Lay} {S : jj_Mem} {P : jj_P} (hB : jj_pp lay) (h : jj_J S P) (hK : jj_K P) {l : Nat} (hl : l < P.nt) : ∃ r : Int32, jj_CT yX6_ofTrack (.code yX6_ofTrack cX6_ofTrack 3 (some .int)) none 2 48 [.ref 0, .int (nI l), .int (nI 3)] lay S (some (.int r)) lay S := by
  have h8 := h.au.1
  have h14 := h.tk.1
  have h130 := h.lg.1
  have ht9 := h.ht
  obtain ⟨r, hct⟩ := ct_X4_countedOfTrack (lay := lay) hB h.lg (u := nI l) (fun k hk => by have := h.r5 k hk; omega)
  refine ⟨r, ?_⟩
  refine jj_mkI RX6 .int (by decide) rfl (L := [some (.ref 0), some (.int (nI l)), some (.int (nI 3))]) rfl rfl rfl ⟨77, [some (.ref 0), some (.int (nI l)), some (.int (nI 3))], dX6_ofTrack_77, ?_⟩
  refine js_aload_n 0 rfl dX6_ofTrack_0 rfl ?_
  refine js_iload_n 1 rfl dX6_ofTrack_1 rfl ?_
  refine js_callV (av := [.int (nI l)]) (st := []) (b := 0) (ct_X6_needTrack hB hl (by omega) h.tk.2.1) (Or.inl rfl) jw_c_X6_needTrack jw_i_RX6 jw_m_RX6_86 jw_s_X6_needTrack jw_e_X6_needTrack (jl_0 hB) rfl jw_y_X6_needTrack rfl ⟨(Nat.le_of_ble_eq_true rfl), (Nat.le_of_ble_eq_true rfl), (Nat.le_refl _), (Nat.le_refl _), (Nat.le_of_ble_eq_true rfl)⟩ dX6_ofTrack_2 ?_
  refine js_st (st' := []) rfl ?_
  refine js_iload_n 2 rfl dX6_ofTrack_5 rfl ?_
  refine js_tabIn 69 (off := 63) dX6_ofTrack_6 (by decide) (by decide) (by decide) (by decide) ?_
  refine js_aload_n 0 rfl dX6_ofTrack_69 rfl ?_
  refine js_getr 3 jw_f_RX6_33 (jl_0 hB) rfl (Nat.le_of_ble_eq_true rfl) rfl dX6_ofTrack_70 ?_
  refine js_iload_n 1 rfl dX6_ofTrack_73 rfl ?_
  refine js_callVN (av := [.int (nI l)]) (st := []) (b := 35) hct (Or.inl rfl) jw_c_X4_countedOfTrack jw_i_RX4 jw_h_RX6_220 jw_s_X4_countedOfTrack jw_e_X4_countedOfTrack (jl_35 hB) rfl jw_y_X4_countedOfTrack rfl ⟨(Nat.le_of_ble_eq_true rfl), (Nat.le_of_ble_eq_true rfl), (Nat.le_refl _), (Nat.le_refl _), (Nat.le_of_ble_eq_true rfl)⟩ dX6_ofTrack_74 ?_
  refine js_st (st' := [.int r]) rfl ?_
  exact jj_refl
theorem E_X6_ofTrack {lay : jj_Lay} {S : jj_Mem} {P : jj_P} (hB : jj_pp lay) (h : jj_J S P) (hK : jj_K P) {l : Nat} (hl : l < P.nt) {what : Nat} (hw : what < 4) : ∃ r : Int32, jj_CT yX6_ofTrack (.code yX6_ofTrack cX6_ofTrack 3 (some .int)) none 2 48 [.ref 0, .int (nI l), .int (nI what)] lay S (some (.int r)) lay S := by
  rcases (show what = 0 ∨ what = 1 ∨ what = 2 ∨ what = 3 by omega) with rfl | rfl | rfl | rfl
  · exact ⟨_, q_X6_ofTrack_0 hB h hK hl⟩
  · exact ⟨_, q_X6_ofTrack_1 hB h hK hl⟩
  · exact q_X6_ofTrack_2 hB h hK hl
  · exact q_X6_ofTrack_3 hB h hK hl
set_option maxRecDepth 100000 in
set_option maxHeartbeats 4000000 in
theorem q_X6_ofListener_0 {lay : jj_Lay} {S : jj_Mem} {P : jj_P} (hB : jj_pp lay) (h : jj_J S P) (hK : jj_K P) {l : Nat} (hl : l < P.cnt) : jj_CT yX6_ofListener (.code yX6_ofListener cX6_ofListener 3 (some .int)) none 1 25 [.ref 0, .int (nI l), .int (nI 0)] lay S (some (.int (nI (P.ld l)))) lay S := by
  have h8 := h.au.1
  have h14 := h.tk.1
  have h130 := h.lg.1
  have ht9 := h.ht
  refine jj_mkI RX6 .int (by decide) rfl (L := [some (.ref 0), some (.int (nI l)), some (.int (nI 0))]) rfl rfl rfl ⟨61, [some (.ref 0), some (.int (nI l)), some (.int (nI 0))], dX6_ofListener_61, ?_⟩
  refine js_aload_n 0 rfl dX6_ofListener_0 rfl ?_
  refine js_iload_n 1 rfl dX6_ofListener_1 rfl ?_
  refine js_callV (av := [.int (nI l)]) (st := []) (b := 0) (ct_X6_needListener hB hl (by omega) h.au.2.1) (Or.inl rfl) jw_c_X6_needListener jw_i_RX6 jw_m_RX6_153 jw_s_X6_needListener jw_e_X6_needListener (jl_0 hB) rfl jw_y_X6_needListener rfl ⟨(Nat.le_of_ble_eq_true rfl), (Nat.le_of_ble_eq_true rfl), (Nat.le_refl _), (Nat.le_refl _), (Nat.le_of_ble_eq_true rfl)⟩ dX6_ofListener_2 ?_
  refine js_st (st' := []) rfl ?_
  refine js_iload_n 2 rfl dX6_ofListener_5 rfl ?_
  refine js_tabIn 52 (off := 46) dX6_ofListener_6 (by decide) (by decide) (by decide) (by decide) ?_
  refine js_aload_n 0 rfl dX6_ofListener_52 rfl ?_
  refine js_getr 2 jw_f_RX6_26 (jl_0 hB) rfl (Nat.le_of_ble_eq_true rfl) rfl dX6_ofListener_53 ?_
  refine js_getNr 1 jw_n_RX6_169 (jl_20 hB) rfl (Nat.le_of_ble_eq_true rfl) rfl dX6_ofListener_56 ?_
  refine js_iload_n 1 rfl dX6_ofListener_59 rfl ?_
  refine js_iald l rfl (jl_21 hB) (by omega) (by decide) ((h.au.2.2.1 l (by omega)).1) dX6_ofListener_60 ?_
  exact jj_refl
set_option maxRecDepth 100000 in
set_option maxHeartbeats 4000000 in
theorem q_X6_ofListener_1 {lay : jj_Lay} {S : jj_Mem} {P : jj_P} (hB : jj_pp lay) (h : jj_J S P) (hK : jj_K P) {l : Nat} (hl : l < P.cnt) : jj_CT yX6_ofListener (.code yX6_ofListener cX6_ofListener 3 (some .int)) none 1 25 [.ref 0, .int (nI l), .int (nI 1)] lay S (some (.int (nI (P.pl l)))) lay S := by
  have h8 := h.au.1
  have h14 := h.tk.1
  have h130 := h.lg.1
  have ht9 := h.ht
  refine jj_mkI RX6 .int (by decide) rfl (L := [some (.ref 0), some (.int (nI l)), some (.int (nI 1))]) rfl rfl rfl ⟨71, [some (.ref 0), some (.int (nI l)), some (.int (nI 1))], dX6_ofListener_71, ?_⟩
  refine js_aload_n 0 rfl dX6_ofListener_0 rfl ?_
  refine js_iload_n 1 rfl dX6_ofListener_1 rfl ?_
  refine js_callV (av := [.int (nI l)]) (st := []) (b := 0) (ct_X6_needListener hB hl (by omega) h.au.2.1) (Or.inl rfl) jw_c_X6_needListener jw_i_RX6 jw_m_RX6_153 jw_s_X6_needListener jw_e_X6_needListener (jl_0 hB) rfl jw_y_X6_needListener rfl ⟨(Nat.le_of_ble_eq_true rfl), (Nat.le_of_ble_eq_true rfl), (Nat.le_refl _), (Nat.le_refl _), (Nat.le_of_ble_eq_true rfl)⟩ dX6_ofListener_2 ?_
  refine js_st (st' := []) rfl ?_
  refine js_iload_n 2 rfl dX6_ofListener_5 rfl ?_
  refine js_tabIn 62 (off := 56) dX6_ofListener_6 (by decide) (by decide) (by decide) (by decide) ?_
  refine js_aload_n 0 rfl dX6_ofListener_62 rfl ?_
  refine js_getr 2 jw_f_RX6_26 (jl_0 hB) rfl (Nat.le_of_ble_eq_true rfl) rfl dX6_ofListener_63 ?_
  refine js_getNr 2 jw_n_RX6_156 (jl_20 hB) rfl (Nat.le_of_ble_eq_true rfl) rfl dX6_ofListener_66 ?_
  refine js_iload_n 1 rfl dX6_ofListener_69 rfl ?_
  refine js_iald l rfl (jl_22 hB) (by omega) (by decide) ((h.au.2.2.2 l (by omega)).1) dX6_ofListener_70 ?_
  exact jj_refl
set_option maxRecDepth 100000 in
set_option maxHeartbeats 4000000 in
theorem q_X6_ofListener_2t {lay : jj_Lay} {S : jj_Mem} {P : jj_P} (hB : jj_pp lay) (h : jj_J S P) (hK : jj_K P) {l : Nat} (hl : l < P.cnt) (hc : P.fl l = 0) : jj_CT yX6_ofListener (.code yX6_ofListener cX6_ofListener 3 (some .int)) none 1 25 [.ref 0, .int (nI l), .int (nI 2)] lay S (some (.int (nI 0))) lay S := by
  have h8 := h.au.1
  have h14 := h.tk.1
  have h130 := h.lg.1
  have ht9 := h.ht
  have hf9 := (h.fl l (by omega)).2
  refine jj_mkI RX6 .int (by decide) rfl (L := [some (.ref 0), some (.int (nI l)), some (.int (nI 2))]) rfl rfl rfl ⟨89, [some (.ref 0), some (.int (nI l)), some (.int (nI 2))], dX6_ofListener_89, ?_⟩
  refine js_aload_n 0 rfl dX6_ofListener_0 rfl ?_
  refine js_iload_n 1 rfl dX6_ofListener_1 rfl ?_
  refine js_callV (av := [.int (nI l)]) (st := []) (b := 0) (ct_X6_needListener hB hl (by omega) h.au.2.1) (Or.inl rfl) jw_c_X6_needListener jw_i_RX6 jw_m_RX6_153 jw_s_X6_needListener jw_e_X6_needListener (jl_0 hB) rfl jw_y_X6_needListener rfl ⟨(Nat.le_of_ble_eq_true rfl), (Nat.le_of_ble_eq_true rfl), (Nat.le_refl _), (Nat.le_refl _), (Nat.le_of_ble_eq_true rfl)⟩ dX6_ofListener_2 ?_
  refine js_st (st' := []) rfl ?_
  refine js_iload_n 2 rfl dX6_ofListener_5 rfl ?_
  refine js_tabIn 72 (off := 66) dX6_ofListener_6 (by decide) (by decide) (by decide) (by decide) ?_
  refine js_aload_n 0 rfl dX6_ofListener_72 rfl ?_
  refine js_getr 2 jw_f_RX6_26 (jl_0 hB) rfl (Nat.le_of_ble_eq_true rfl) rfl dX6_ofListener_73 ?_
  refine js_getNr 3 jw_n_RX6_159 (jl_20 hB) rfl (Nat.le_of_ble_eq_true rfl) rfl dX6_ofListener_76 ?_
  refine js_iload_n 1 rfl dX6_ofListener_79 rfl ?_
  refine js_zald l rfl (jl_23 hB) (by omega) (by decide) ((h.fl l (by omega)).1) dX6_ofListener_80 ?_
  refine jn_if_eq 88 (by omega) dX6_ofListener_81 (by decide) (fun _ => ?_) (fun h9 => absurd h9 (by omega))
  refine js_iconst (v := nI 0) dX6_ofListener_88 (by decide) ?_
  exact jj_refl
set_option maxRecDepth 100000 in
set_option maxHeartbeats 4000000 in
theorem q_X6_ofListener_2f {lay : jj_Lay} {S : jj_Mem} {P : jj_P} (hB : jj_pp lay) (h : jj_J S P) (hK : jj_K P) {l : Nat} (hl : l < P.cnt) (hc : ¬ P.fl l = 0) : jj_CT yX6_ofListener (.code yX6_ofListener cX6_ofListener 3 (some .int)) none 1 25 [.ref 0, .int (nI l), .int (nI 2)] lay S (some (.int (nI 1))) lay S := by
  have h8 := h.au.1
  have h14 := h.tk.1
  have h130 := h.lg.1
  have ht9 := h.ht
  have hf9 := (h.fl l (by omega)).2
  refine jj_mkI RX6 .int (by decide) rfl (L := [some (.ref 0), some (.int (nI l)), some (.int (nI 2))]) rfl rfl rfl ⟨89, [some (.ref 0), some (.int (nI l)), some (.int (nI 2))], dX6_ofListener_89, ?_⟩
  refine js_aload_n 0 rfl dX6_ofListener_0 rfl ?_
  refine js_iload_n 1 rfl dX6_ofListener_1 rfl ?_
  refine js_callV (av := [.int (nI l)]) (st := []) (b := 0) (ct_X6_needListener hB hl (by omega) h.au.2.1) (Or.inl rfl) jw_c_X6_needListener jw_i_RX6 jw_m_RX6_153 jw_s_X6_needListener jw_e_X6_needListener (jl_0 hB) rfl jw_y_X6_needListener rfl ⟨(Nat.le_of_ble_eq_true rfl), (Nat.le_of_ble_eq_true rfl), (Nat.le_refl _), (Nat.le_refl _), (Nat.le_of_ble_eq_true rfl)⟩ dX6_ofListener_2 ?_
  refine js_st (st' := []) rfl ?_
  refine js_iload_n 2 rfl dX6_ofListener_5 rfl ?_
  refine js_tabIn 72 (off := 66) dX6_ofListener_6 (by decide) (by decide) (by decide) (by decide) ?_
  refine js_aload_n 0 rfl dX6_ofListener_72 rfl ?_
  refine js_getr 2 jw_f_RX6_26 (jl_0 hB) rfl (Nat.le_of_ble_eq_true rfl) rfl dX6_ofListener_73 ?_
  refine js_getNr 3 jw_n_RX6_159 (jl_20 hB) rfl (Nat.le_of_ble_eq_true rfl) rfl dX6_ofListener_76 ?_
  refine js_iload_n 1 rfl dX6_ofListener_79 rfl ?_
  refine js_zald l rfl (jl_23 hB) (by omega) (by decide) ((h.fl l (by omega)).1) dX6_ofListener_80 ?_
  refine jn_if_eq 88 (by omega) dX6_ofListener_81 (by decide) (fun h9 => absurd h9 (by omega)) (fun _ => ?_)
  refine js_iconst (v := nI 1) dX6_ofListener_84 (by decide) ?_
  refine js_goto 89 dX6_ofListener_85 (by decide) ?_
  exact jj_refl
set_option maxRecDepth 100000 in
set_option maxHeartbeats 4000000 in
theorem q_X6_ofListener_3 {lay : jj_Lay} {S : jj_Mem} {P : jj_P} (hB : jj_pp lay) (h : jj_J S P) (hK : jj_K P) {l : Nat} (hl : l < P.cnt) : jj_CT yX6_ofListener (.code yX6_ofListener cX6_ofListener 3 (some .int)) none 1 25 [.ref 0, .int (nI l), .int (nI 3)] lay S (some (.int (nI 0))) lay S := by
  have h8 := h.au.1
  have h14 := h.tk.1
  have h130 := h.lg.1
  have ht9 := h.ht
  refine jj_mkI RX6 .int (by decide) rfl (L := [some (.ref 0), some (.int (nI l)), some (.int (nI 3))]) rfl rfl rfl ⟨99, [some (.ref 0), some (.int (nI l)), some (.int (nI 3))], dX6_ofListener_99, ?_⟩
  refine js_aload_n 0 rfl dX6_ofListener_0 rfl ?_
  refine js_iload_n 1 rfl dX6_ofListener_1 rfl ?_
  refine js_callV (av := [.int (nI l)]) (st := []) (b := 0) (ct_X6_needListener hB hl (by omega) h.au.2.1) (Or.inl rfl) jw_c_X6_needListener jw_i_RX6 jw_m_RX6_153 jw_s_X6_needListener jw_e_X6_needListener (jl_0 hB) rfl jw_y_X6_needListener rfl ⟨(Nat.le_of_ble_eq_true rfl), (Nat.le_of_ble_eq_true rfl), (Nat.le_refl _), (Nat.le_refl _), (Nat.le_of_ble_eq_true rfl)⟩ dX6_ofListener_2 ?_
  refine js_st (st' := []) rfl ?_
  refine js_iload_n 2 rfl dX6_ofListener_5 rfl ?_
  refine js_tabIn 90 (off := 84) dX6_ofListener_6 (by decide) (by decide) (by decide) (by decide) ?_
  refine js_aload_n 0 rfl dX6_ofListener_90 rfl ?_
  refine js_getr 2 jw_f_RX6_26 (jl_0 hB) rfl (Nat.le_of_ble_eq_true rfl) rfl dX6_ofListener_91 ?_
  refine js_getNr 5 jw_n_RX6_225 (jl_20 hB) rfl (Nat.le_of_ble_eq_true rfl) rfl dX6_ofListener_94 ?_
  refine js_iload_n 1 rfl dX6_ofListener_97 rfl ?_
  refine js_iald l rfl (jl_25 hB) (by omega) (by decide) ((h.kc l (by omega))) dX6_ofListener_98 ?_
  exact jj_refl
set_option maxRecDepth 100000 in
set_option maxHeartbeats 4000000 in
theorem q_X6_ofListener_4 {lay : jj_Lay} {S : jj_Mem} {P : jj_P} (hB : jj_pp lay) (h : jj_J S P) (hK : jj_K P) {l : Nat} (hl : l < P.cnt) : ∃ r : Int32, jj_CT yX6_ofListener (.code yX6_ofListener cX6_ofListener 3 (some .int)) none 1 25 [.ref 0, .int (nI l), .int (nI 4)] lay S (some (.int r)) lay S := by
  have h8 := h.au.1
  have h14 := h.tk.1
  have h130 := h.lg.1
  have ht9 := h.ht
  obtain ⟨r, hct⟩ := ct_X4_playsOfListener (lay := lay) hB h.lg (u := nI l)
  refine ⟨r, ?_⟩
  refine jj_mkI RX6 .int (by decide) rfl (L := [some (.ref 0), some (.int (nI l)), some (.int (nI 4))]) rfl rfl rfl ⟨108, [some (.ref 0), some (.int (nI l)), some (.int (nI 4))], dX6_ofListener_108, ?_⟩
  refine js_aload_n 0 rfl dX6_ofListener_0 rfl ?_
  refine js_iload_n 1 rfl dX6_ofListener_1 rfl ?_
  refine js_callV (av := [.int (nI l)]) (st := []) (b := 0) (ct_X6_needListener hB hl (by omega) h.au.2.1) (Or.inl rfl) jw_c_X6_needListener jw_i_RX6 jw_m_RX6_153 jw_s_X6_needListener jw_e_X6_needListener (jl_0 hB) rfl jw_y_X6_needListener rfl ⟨(Nat.le_of_ble_eq_true rfl), (Nat.le_of_ble_eq_true rfl), (Nat.le_refl _), (Nat.le_refl _), (Nat.le_of_ble_eq_true rfl)⟩ dX6_ofListener_2 ?_
  refine js_st (st' := []) rfl ?_
  refine js_iload_n 2 rfl dX6_ofListener_5 rfl ?_
  refine js_tabIn 100 (off := 94) dX6_ofListener_6 (by decide) (by decide) (by decide) (by decide) ?_
  refine js_aload_n 0 rfl dX6_ofListener_100 rfl ?_
  refine js_getr 3 jw_f_RX6_33 (jl_0 hB) rfl (Nat.le_of_ble_eq_true rfl) rfl dX6_ofListener_101 ?_
  refine js_iload_n 1 rfl dX6_ofListener_104 rfl ?_
  refine js_callVN (av := [.int (nI l)]) (st := []) (b := 35) hct (Or.inl rfl) jw_c_X4_playsOfListener jw_i_RX4 jw_h_RX6_228 jw_s_X4_playsOfListener jw_e_X4_playsOfListener (jl_35 hB) rfl jw_y_X4_playsOfListener rfl ⟨(Nat.le_of_ble_eq_true rfl), (Nat.le_of_ble_eq_true rfl), (Nat.le_refl _), (Nat.le_refl _), (Nat.le_of_ble_eq_true rfl)⟩ dX6_ofListener_105 ?_
  refine js_st (st' := [.int r]) rfl ?_
  exact jj_refl
set_option maxRecDepth 100000 in
set_option maxHeartbeats 4000000 in
theorem q_X6_ofListener_5 {lay : jj_Lay} {S : jj_Mem} {P : jj_P} (hB : jj_pp lay) (h : jj_J S P) (hK : jj_K P) {l : Nat} (hl : l < P.cnt) : jj_CT yX6_ofListener (.code yX6_ofListener cX6_ofListener 3 (some .int)) none 1 25 [.ref 0, .int (nI l), .int (nI 5)] lay S (some (.int (nI (jj_sm (P.ev l) 10)))) lay S := by
  have h8 := h.au.1
  have h14 := h.tk.1
  have h130 := h.lg.1
  have ht9 := h.ht
  refine jj_mkI RX6 .int (by decide) rfl (L := [some (.ref 0), some (.int (nI l)), some (.int (nI 5))]) rfl rfl rfl ⟨121, [some (.ref 0), some (.int (nI l)), some (.int (nI 5))], dX6_ofListener_121, ?_⟩
  refine js_aload_n 0 rfl dX6_ofListener_0 rfl ?_
  refine js_iload_n 1 rfl dX6_ofListener_1 rfl ?_
  refine js_callV (av := [.int (nI l)]) (st := []) (b := 0) (ct_X6_needListener hB hl (by omega) h.au.2.1) (Or.inl rfl) jw_c_X6_needListener jw_i_RX6 jw_m_RX6_153 jw_s_X6_needListener jw_e_X6_needListener (jl_0 hB) rfl jw_y_X6_needListener rfl ⟨(Nat.le_of_ble_eq_true rfl), (Nat.le_of_ble_eq_true rfl), (Nat.le_refl _), (Nat.le_refl _), (Nat.le_of_ble_eq_true rfl)⟩ dX6_ofListener_2 ?_
  refine js_st (st' := []) rfl ?_
  refine js_iload_n 2 rfl dX6_ofListener_5 rfl ?_
  refine js_tabIn 109 (off := 103) dX6_ofListener_6 (by decide) (by decide) (by decide) (by decide) ?_
  refine js_aload_n 0 rfl dX6_ofListener_109 rfl ?_
  refine js_getr 4 jw_f_RX6_40 (jl_0 hB) rfl (Nat.le_of_ble_eq_true rfl) rfl dX6_ofListener_110 ?_
  refine js_getNr 0 jw_n_RX6_231 (jl_42 hB) rfl (Nat.le_of_ble_eq_true rfl) rfl dX6_ofListener_113 ?_
  refine js_iload_n 1 rfl dX6_ofListener_116 rfl ?_
  refine js_aald l rfl (jl_43 hB) (by omega) (by decide) (jr_ev l (by omega)) dX6_ofListener_117 ?_
  refine js_callS (av := [.ref (44 + l)]) (st := []) (ct_X6_sumOf (f := P.ev l) (jl_ev hB l (by omega)) (by omega) (h.ev l (by omega))) (Or.inl rfl) jw_c_X6_sumOf jw_i_RX6 jw_m_RX6_234 jw_s_X6_sumOf jw_y_X6_sumOf rfl ⟨(Nat.le_of_ble_eq_true rfl), (Nat.le_of_ble_eq_true rfl), (Nat.le_refl _), (Nat.le_refl _), (Nat.le_of_ble_eq_true rfl)⟩ dX6_ofListener_118 ?_
  refine js_st (st' := [.int (nI (jj_sm (P.ev l) 10))]) rfl ?_
  exact jj_refl
set_option maxRecDepth 100000 in
set_option maxHeartbeats 4000000 in
theorem q_X6_ofListener_6 {lay : jj_Lay} {S : jj_Mem} {P : jj_P} (hB : jj_pp lay) (h : jj_J S P) (hK : jj_K P) {l : Nat} (hl : l < P.cnt) : jj_CT yX6_ofListener (.code yX6_ofListener cX6_ofListener 3 (some .int)) none 1 25 [.ref 0, .int (nI l), .int (nI 6)] lay S (some (.int (nI (jj_sm (P.im l) 10)))) lay S := by
  have h8 := h.au.1
  have h14 := h.tk.1
  have h130 := h.lg.1
  have ht9 := h.ht
  refine jj_mkI RX6 .int (by decide) rfl (L := [some (.ref 0), some (.int (nI l)), some (.int (nI 6))]) rfl rfl rfl ⟨134, [some (.ref 0), some (.int (nI l)), some (.int (nI 6))], dX6_ofListener_134, ?_⟩
  refine js_aload_n 0 rfl dX6_ofListener_0 rfl ?_
  refine js_iload_n 1 rfl dX6_ofListener_1 rfl ?_
  refine js_callV (av := [.int (nI l)]) (st := []) (b := 0) (ct_X6_needListener hB hl (by omega) h.au.2.1) (Or.inl rfl) jw_c_X6_needListener jw_i_RX6 jw_m_RX6_153 jw_s_X6_needListener jw_e_X6_needListener (jl_0 hB) rfl jw_y_X6_needListener rfl ⟨(Nat.le_of_ble_eq_true rfl), (Nat.le_of_ble_eq_true rfl), (Nat.le_refl _), (Nat.le_refl _), (Nat.le_of_ble_eq_true rfl)⟩ dX6_ofListener_2 ?_
  refine js_st (st' := []) rfl ?_
  refine js_iload_n 2 rfl dX6_ofListener_5 rfl ?_
  refine js_tabIn 122 (off := 116) dX6_ofListener_6 (by decide) (by decide) (by decide) (by decide) ?_
  refine js_aload_n 0 rfl dX6_ofListener_122 rfl ?_
  refine js_getr 4 jw_f_RX6_40 (jl_0 hB) rfl (Nat.le_of_ble_eq_true rfl) rfl dX6_ofListener_123 ?_
  refine js_getNr 1 jw_n_RX6_238 (jl_42 hB) rfl (Nat.le_of_ble_eq_true rfl) rfl dX6_ofListener_126 ?_
  refine js_iload_n 1 rfl dX6_ofListener_129 rfl ?_
  refine js_aald l rfl (jl_52 hB) (by omega) (by decide) (jr_im l (by omega)) dX6_ofListener_130 ?_
  refine js_callS (av := [.ref (53 + l)]) (st := []) (ct_X6_sumOf (f := P.im l) (jl_im hB l (by omega)) (by omega) (h.im l (by omega))) (Or.inl rfl) jw_c_X6_sumOf jw_i_RX6 jw_m_RX6_234 jw_s_X6_sumOf jw_y_X6_sumOf rfl ⟨(Nat.le_of_ble_eq_true rfl), (Nat.le_of_ble_eq_true rfl), (Nat.le_refl _), (Nat.le_refl _), (Nat.le_of_ble_eq_true rfl)⟩ dX6_ofListener_131 ?_
  refine js_st (st' := [.int (nI (jj_sm (P.im l) 10))]) rfl ?_
  exact jj_refl
set_option maxRecDepth 100000 in
set_option maxHeartbeats 4000000 in
theorem q_X6_ofListener_7 {lay : jj_Lay} {S : jj_Mem} {P : jj_P} (hB : jj_pp lay) (h : jj_J S P) (hK : jj_K P) {l : Nat} (hl : l < P.cnt) : jj_CT yX6_ofListener (.code yX6_ofListener cX6_ofListener 3 (some .int)) none 1 25 [.ref 0, .int (nI l), .int (nI 7)] lay S (some (.int (nI (P.pe l)))) lay S := by
  have h8 := h.au.1
  have h14 := h.tk.1
  have h130 := h.lg.1
  have ht9 := h.ht
  refine jj_mkI RX6 .int (by decide) rfl (L := [some (.ref 0), some (.int (nI l)), some (.int (nI 7))]) rfl rfl rfl ⟨144, [some (.ref 0), some (.int (nI l)), some (.int (nI 7))], dX6_ofListener_144, ?_⟩
  refine js_aload_n 0 rfl dX6_ofListener_0 rfl ?_
  refine js_iload_n 1 rfl dX6_ofListener_1 rfl ?_
  refine js_callV (av := [.int (nI l)]) (st := []) (b := 0) (ct_X6_needListener hB hl (by omega) h.au.2.1) (Or.inl rfl) jw_c_X6_needListener jw_i_RX6 jw_m_RX6_153 jw_s_X6_needListener jw_e_X6_needListener (jl_0 hB) rfl jw_y_X6_needListener rfl ⟨(Nat.le_of_ble_eq_true rfl), (Nat.le_of_ble_eq_true rfl), (Nat.le_refl _), (Nat.le_refl _), (Nat.le_of_ble_eq_true rfl)⟩ dX6_ofListener_2 ?_
  refine js_st (st' := []) rfl ?_
  refine js_iload_n 2 rfl dX6_ofListener_5 rfl ?_
  refine js_tabIn 135 (off := 129) dX6_ofListener_6 (by decide) (by decide) (by decide) (by decide) ?_
  refine js_aload_n 0 rfl dX6_ofListener_135 rfl ?_
  refine js_getr 2 jw_f_RX6_26 (jl_0 hB) rfl (Nat.le_of_ble_eq_true rfl) rfl dX6_ofListener_136 ?_
  refine js_getNr 4 jw_n_RX6_241 (jl_20 hB) rfl (Nat.le_of_ble_eq_true rfl) rfl dX6_ofListener_139 ?_
  refine js_iload_n 1 rfl dX6_ofListener_142 rfl ?_
  refine js_iald l rfl (jl_24 hB) (by omega) (by decide) ((h.pe l (by omega))) dX6_ofListener_143 ?_
  exact jj_refl
theorem E_X6_ofListener {lay : jj_Lay} {S : jj_Mem} {P : jj_P} (hB : jj_pp lay) (h : jj_J S P) (hK : jj_K P) {l : Nat} (hl : l < P.cnt) {what : Nat} (hw : what < 8) : ∃ r : Int32, jj_CT yX6_ofListener (.code yX6_ofListener cX6_ofListener 3 (some .int)) none 1 25 [.ref 0, .int (nI l), .int (nI what)] lay S (some (.int r)) lay S := by
  rcases (show what = 0 ∨ what = 1 ∨ what = 2 ∨ what = 3 ∨ what = 4 ∨ what = 5 ∨ what = 6 ∨ what = 7 by omega) with rfl | rfl | rfl | rfl | rfl | rfl | rfl | rfl
  · exact ⟨_, q_X6_ofListener_0 hB h hK hl⟩
  · exact ⟨_, q_X6_ofListener_1 hB h hK hl⟩
  · by_cases hc : P.fl l = 0
    · exact ⟨_, q_X6_ofListener_2t hB h hK hl hc⟩
    · exact ⟨_, q_X6_ofListener_2f hB h hK hl hc⟩
  · exact ⟨_, q_X6_ofListener_3 hB h hK hl⟩
  · exact q_X6_ofListener_4 hB h hK hl
  · exact ⟨_, q_X6_ofListener_5 hB h hK hl⟩
  · exact ⟨_, q_X6_ofListener_6 hB h hK hl⟩
  · exact ⟨_, q_X6_ofListener_7 hB h hK hl⟩
set_option maxRecDepth 100000 in
set_option maxHeartbeats 4000000 in
theorem q_X6_ofPlay_0 {lay : jj_Lay} {S : jj_Mem} {P : jj_P} (hB : jj_pp lay) (h : jj_J S P) (hK : jj_K P) {l : Nat} (hl : l < P.n) : jj_CT yX6_ofPlay (.code yX6_ofPlay cX6_ofPlay 3 (some .int)) none 2 41 [.ref 0, .int (nI l), .int (nI 0)] lay S (some (.int (nI (P.li l)))) lay S := by
  have h8 := h.au.1
  have h14 := h.tk.1
  have h130 := h.lg.1
  have ht9 := h.ht
  refine jj_mkI RX6 .int (by decide) rfl (L := [some (.ref 0), some (.int (nI l)), some (.int (nI 0))]) rfl rfl rfl ⟨73, [some (.ref 0), some (.int (nI l)), some (.int (nI 0))], dX6_ofPlay_73, ?_⟩
  refine js_iload_n 1 rfl dX6_ofPlay_0 rfl ?_
  refine jn_if_lt 15 (by omega) dX6_ofPlay_1 (by decide) (fun h9 => absurd h9 (by omega)) (fun _ => ?_)
  refine js_iload_n 1 rfl dX6_ofPlay_4 rfl ?_
  refine js_aload_n 0 rfl dX6_ofPlay_5 rfl ?_
  refine js_getr 3 jw_f_RX6_33 (jl_0 hB) rfl (Nat.le_of_ble_eq_true rfl) rfl dX6_ofPlay_6 ?_
  refine js_getNi 0 jw_n_RX6_194 (jl_35 hB) rfl (Nat.le_of_ble_eq_true rfl) rfl (h.lg.2.1) dX6_ofPlay_9 ?_
  refine jn_icmp_lt 25 (by omega) (by omega) dX6_ofPlay_12 (by decide) (fun _ => ?_) (fun h9 => absurd h9 (by omega))
  refine js_iload_n 2 rfl dX6_ofPlay_25 rfl ?_
  refine js_tabIn 64 (off := 38) dX6_ofPlay_26 (by decide) (by decide) (by decide) (by decide) ?_
  refine js_aload_n 0 rfl dX6_ofPlay_64 rfl ?_
  refine js_getr 3 jw_f_RX6_33 (jl_0 hB) rfl (Nat.le_of_ble_eq_true rfl) rfl dX6_ofPlay_65 ?_
  refine js_getNr 1 jw_n_RX6_249 (jl_35 hB) rfl (Nat.le_of_ble_eq_true rfl) rfl dX6_ofPlay_68 ?_
  refine js_iload_n 1 rfl dX6_ofPlay_71 rfl ?_
  refine js_iald l rfl (jl_36 hB) (by omega) (by decide) ((h.lg.2.2 l (by omega)).1) dX6_ofPlay_72 ?_
  exact jj_refl
set_option maxRecDepth 100000 in
set_option maxHeartbeats 4000000 in
theorem q_X6_ofPlay_1 {lay : jj_Lay} {S : jj_Mem} {P : jj_P} (hB : jj_pp lay) (h : jj_J S P) (hK : jj_K P) {l : Nat} (hl : l < P.n) : jj_CT yX6_ofPlay (.code yX6_ofPlay cX6_ofPlay 3 (some .int)) none 2 41 [.ref 0, .int (nI l), .int (nI 1)] lay S (some (.int (nI (P.tr l)))) lay S := by
  have h8 := h.au.1
  have h14 := h.tk.1
  have h130 := h.lg.1
  have ht9 := h.ht
  refine jj_mkI RX6 .int (by decide) rfl (L := [some (.ref 0), some (.int (nI l)), some (.int (nI 1))]) rfl rfl rfl ⟨83, [some (.ref 0), some (.int (nI l)), some (.int (nI 1))], dX6_ofPlay_83, ?_⟩
  refine js_iload_n 1 rfl dX6_ofPlay_0 rfl ?_
  refine jn_if_lt 15 (by omega) dX6_ofPlay_1 (by decide) (fun h9 => absurd h9 (by omega)) (fun _ => ?_)
  refine js_iload_n 1 rfl dX6_ofPlay_4 rfl ?_
  refine js_aload_n 0 rfl dX6_ofPlay_5 rfl ?_
  refine js_getr 3 jw_f_RX6_33 (jl_0 hB) rfl (Nat.le_of_ble_eq_true rfl) rfl dX6_ofPlay_6 ?_
  refine js_getNi 0 jw_n_RX6_194 (jl_35 hB) rfl (Nat.le_of_ble_eq_true rfl) rfl (h.lg.2.1) dX6_ofPlay_9 ?_
  refine jn_icmp_lt 25 (by omega) (by omega) dX6_ofPlay_12 (by decide) (fun _ => ?_) (fun h9 => absurd h9 (by omega))
  refine js_iload_n 2 rfl dX6_ofPlay_25 rfl ?_
  refine js_tabIn 74 (off := 48) dX6_ofPlay_26 (by decide) (by decide) (by decide) (by decide) ?_
  refine js_aload_n 0 rfl dX6_ofPlay_74 rfl ?_
  refine js_getr 3 jw_f_RX6_33 (jl_0 hB) rfl (Nat.le_of_ble_eq_true rfl) rfl dX6_ofPlay_75 ?_
  refine js_getNr 2 jw_n_RX6_252 (jl_35 hB) rfl (Nat.le_of_ble_eq_true rfl) rfl dX6_ofPlay_78 ?_
  refine js_iload_n 1 rfl dX6_ofPlay_81 rfl ?_
  refine js_iald l rfl (jl_37 hB) (by omega) (by decide) ((h.lg.2.2 l (by omega)).2.1) dX6_ofPlay_82 ?_
  exact jj_refl
set_option maxRecDepth 100000 in
set_option maxHeartbeats 4000000 in
theorem q_X6_ofPlay_2 {lay : jj_Lay} {S : jj_Mem} {P : jj_P} (hB : jj_pp lay) (h : jj_J S P) (hK : jj_K P) {l : Nat} (hl : l < P.n) : jj_CT yX6_ofPlay (.code yX6_ofPlay cX6_ofPlay 3 (some .int)) none 2 41 [.ref 0, .int (nI l), .int (nI 2)] lay S (some (.int (nI (P.mi l)))) lay S := by
  have h8 := h.au.1
  have h14 := h.tk.1
  have h130 := h.lg.1
  have ht9 := h.ht
  refine jj_mkI RX6 .int (by decide) rfl (L := [some (.ref 0), some (.int (nI l)), some (.int (nI 2))]) rfl rfl rfl ⟨93, [some (.ref 0), some (.int (nI l)), some (.int (nI 2))], dX6_ofPlay_93, ?_⟩
  refine js_iload_n 1 rfl dX6_ofPlay_0 rfl ?_
  refine jn_if_lt 15 (by omega) dX6_ofPlay_1 (by decide) (fun h9 => absurd h9 (by omega)) (fun _ => ?_)
  refine js_iload_n 1 rfl dX6_ofPlay_4 rfl ?_
  refine js_aload_n 0 rfl dX6_ofPlay_5 rfl ?_
  refine js_getr 3 jw_f_RX6_33 (jl_0 hB) rfl (Nat.le_of_ble_eq_true rfl) rfl dX6_ofPlay_6 ?_
  refine js_getNi 0 jw_n_RX6_194 (jl_35 hB) rfl (Nat.le_of_ble_eq_true rfl) rfl (h.lg.2.1) dX6_ofPlay_9 ?_
  refine jn_icmp_lt 25 (by omega) (by omega) dX6_ofPlay_12 (by decide) (fun _ => ?_) (fun h9 => absurd h9 (by omega))
  refine js_iload_n 2 rfl dX6_ofPlay_25 rfl ?_
  refine js_tabIn 84 (off := 58) dX6_ofPlay_26 (by decide) (by decide) (by decide) (by decide) ?_
  refine js_aload_n 0 rfl dX6_ofPlay_84 rfl ?_
  refine js_getr 3 jw_f_RX6_33 (jl_0 hB) rfl (Nat.le_of_ble_eq_true rfl) rfl dX6_ofPlay_85 ?_
  refine js_getNr 3 jw_n_RX6_255 (jl_35 hB) rfl (Nat.le_of_ble_eq_true rfl) rfl dX6_ofPlay_88 ?_
  refine js_iload_n 1 rfl dX6_ofPlay_91 rfl ?_
  refine js_iald l rfl (jl_38 hB) (by omega) (by decide) ((h.lg.2.2 l (by omega)).2.2.1) dX6_ofPlay_92 ?_
  exact jj_refl
set_option maxRecDepth 100000 in
set_option maxHeartbeats 4000000 in
theorem q_X6_ofPlay_3 {lay : jj_Lay} {S : jj_Mem} {P : jj_P} (hB : jj_pp lay) (h : jj_J S P) (hK : jj_K P) {l : Nat} (hl : l < P.n) : jj_CT yX6_ofPlay (.code yX6_ofPlay cX6_ofPlay 3 (some .int)) none 2 41 [.ref 0, .int (nI l), .int (nI 3)] lay S (some (.int (P.se l))) lay S := by
  have h8 := h.au.1
  have h14 := h.tk.1
  have h130 := h.lg.1
  have ht9 := h.ht
  refine jj_mkI RX6 .int (by decide) rfl (L := [some (.ref 0), some (.int (nI l)), some (.int (nI 3))]) rfl rfl rfl ⟨103, [some (.ref 0), some (.int (nI l)), some (.int (nI 3))], dX6_ofPlay_103, ?_⟩
  refine js_iload_n 1 rfl dX6_ofPlay_0 rfl ?_
  refine jn_if_lt 15 (by omega) dX6_ofPlay_1 (by decide) (fun h9 => absurd h9 (by omega)) (fun _ => ?_)
  refine js_iload_n 1 rfl dX6_ofPlay_4 rfl ?_
  refine js_aload_n 0 rfl dX6_ofPlay_5 rfl ?_
  refine js_getr 3 jw_f_RX6_33 (jl_0 hB) rfl (Nat.le_of_ble_eq_true rfl) rfl dX6_ofPlay_6 ?_
  refine js_getNi 0 jw_n_RX6_194 (jl_35 hB) rfl (Nat.le_of_ble_eq_true rfl) rfl (h.lg.2.1) dX6_ofPlay_9 ?_
  refine jn_icmp_lt 25 (by omega) (by omega) dX6_ofPlay_12 (by decide) (fun _ => ?_) (fun h9 => absurd h9 (by omega))
  refine js_iload_n 2 rfl dX6_ofPlay_25 rfl ?_
  refine js_tabIn 94 (off := 68) dX6_ofPlay_26 (by decide) (by decide) (by decide) (by decide) ?_
  refine js_aload_n 0 rfl dX6_ofPlay_94 rfl ?_
  refine js_getr 3 jw_f_RX6_33 (jl_0 hB) rfl (Nat.le_of_ble_eq_true rfl) rfl dX6_ofPlay_95 ?_
  refine js_getNr 4 jw_n_RX6_258 (jl_35 hB) rfl (Nat.le_of_ble_eq_true rfl) rfl dX6_ofPlay_98 ?_
  refine js_iload_n 1 rfl dX6_ofPlay_101 rfl ?_
  refine js_iald l rfl (jl_39 hB) (by omega) (by decide) ((h.lg.2.2 l (by omega)).2.2.2.1) dX6_ofPlay_102 ?_
  exact jj_refl
set_option maxRecDepth 100000 in
set_option maxHeartbeats 4000000 in
theorem q_X6_ofPlay_4 {lay : jj_Lay} {S : jj_Mem} {P : jj_P} (hB : jj_pp lay) (h : jj_J S P) (hK : jj_K P) {l : Nat} (hl : l < P.n) : jj_CT yX6_ofPlay (.code yX6_ofPlay cX6_ofPlay 3 (some .int)) none 2 41 [.ref 0, .int (nI l), .int (nI 4)] lay S (some (.int (nI (P.rs l)))) lay S := by
  have h8 := h.au.1
  have h14 := h.tk.1
  have h130 := h.lg.1
  have ht9 := h.ht
  refine jj_mkI RX6 .int (by decide) rfl (L := [some (.ref 0), some (.int (nI l)), some (.int (nI 4))]) rfl rfl rfl ⟨113, [some (.ref 0), some (.int (nI l)), some (.int (nI 4))], dX6_ofPlay_113, ?_⟩
  refine js_iload_n 1 rfl dX6_ofPlay_0 rfl ?_
  refine jn_if_lt 15 (by omega) dX6_ofPlay_1 (by decide) (fun h9 => absurd h9 (by omega)) (fun _ => ?_)
  refine js_iload_n 1 rfl dX6_ofPlay_4 rfl ?_
  refine js_aload_n 0 rfl dX6_ofPlay_5 rfl ?_
  refine js_getr 3 jw_f_RX6_33 (jl_0 hB) rfl (Nat.le_of_ble_eq_true rfl) rfl dX6_ofPlay_6 ?_
  refine js_getNi 0 jw_n_RX6_194 (jl_35 hB) rfl (Nat.le_of_ble_eq_true rfl) rfl (h.lg.2.1) dX6_ofPlay_9 ?_
  refine jn_icmp_lt 25 (by omega) (by omega) dX6_ofPlay_12 (by decide) (fun _ => ?_) (fun h9 => absurd h9 (by omega))
  refine js_iload_n 2 rfl dX6_ofPlay_25 rfl ?_
  refine js_tabIn 104 (off := 78) dX6_ofPlay_26 (by decide) (by decide) (by decide) (by decide) ?_
  refine js_aload_n 0 rfl dX6_ofPlay_104 rfl ?_
  refine js_getr 3 jw_f_RX6_33 (jl_0 hB) rfl (Nat.le_of_ble_eq_true rfl) rfl dX6_ofPlay_105 ?_
  refine js_getNr 5 jw_n_RX6_200 (jl_35 hB) rfl (Nat.le_of_ble_eq_true rfl) rfl dX6_ofPlay_108 ?_
  refine js_iload_n 1 rfl dX6_ofPlay_111 rfl ?_
  refine js_iald l rfl (jl_40 hB) (by omega) (by decide) ((h.lg.2.2 l (by omega)).2.2.2.2.1) dX6_ofPlay_112 ?_
  exact jj_refl
set_option maxRecDepth 100000 in
set_option maxHeartbeats 4000000 in
theorem q_X6_ofPlay_5t {lay : jj_Lay} {S : jj_Mem} {P : jj_P} (hB : jj_pp lay) (h : jj_J S P) (hK : jj_K P) {l : Nat} (hl : l < P.n) (hc : P.mi l / 14400 < P.t / 14400) : jj_CT yX6_ofPlay (.code yX6_ofPlay cX6_ofPlay 3 (some .int)) none 2 41 [.ref 0, .int (nI l), .int (nI 5)] lay S (some (.int (nI 1))) lay S := by
  have h8 := h.au.1
  have h14 := h.tk.1
  have h130 := h.lg.1
  have ht9 := h.ht
  have hm9 := h.hmt l hl
  refine jj_mkI RX6 .int (by decide) rfl (L := [some (.ref 0), some (.int (nI l)), some (.int (nI 5))]) rfl rfl rfl ⟨135, [some (.ref 0), some (.int (nI l)), some (.int (nI 5))], dX6_ofPlay_135, ?_⟩
  refine js_iload_n 1 rfl dX6_ofPlay_0 rfl ?_
  refine jn_if_lt 15 (by omega) dX6_ofPlay_1 (by decide) (fun h9 => absurd h9 (by omega)) (fun _ => ?_)
  refine js_iload_n 1 rfl dX6_ofPlay_4 rfl ?_
  refine js_aload_n 0 rfl dX6_ofPlay_5 rfl ?_
  refine js_getr 3 jw_f_RX6_33 (jl_0 hB) rfl (Nat.le_of_ble_eq_true rfl) rfl dX6_ofPlay_6 ?_
  refine js_getNi 0 jw_n_RX6_194 (jl_35 hB) rfl (Nat.le_of_ble_eq_true rfl) rfl (h.lg.2.1) dX6_ofPlay_9 ?_
  refine jn_icmp_lt 25 (by omega) (by omega) dX6_ofPlay_12 (by decide) (fun _ => ?_) (fun h9 => absurd h9 (by omega))
  refine js_iload_n 2 rfl dX6_ofPlay_25 rfl ?_
  refine js_tabIn 114 (off := 88) dX6_ofPlay_26 (by decide) (by decide) (by decide) (by decide) ?_
  refine js_aload_n 0 rfl dX6_ofPlay_114 rfl ?_
  refine js_aload_n 0 rfl dX6_ofPlay_115 rfl ?_
  refine js_getr 3 jw_f_RX6_33 (jl_0 hB) rfl (Nat.le_of_ble_eq_true rfl) rfl dX6_ofPlay_116 ?_
  refine js_getNr 3 jw_n_RX6_255 (jl_35 hB) rfl (Nat.le_of_ble_eq_true rfl) rfl dX6_ofPlay_119 ?_
  refine js_iload_n 1 rfl dX6_ofPlay_122 rfl ?_
  refine js_iald l rfl (jl_38 hB) (by omega) (by decide) ((h.lg.2.2 l (by omega)).2.2.1) dX6_ofPlay_123 ?_
  refine js_callV (av := [.int (nI (P.mi l))]) (st := []) (b := 0) (ct_X6_isClosed hB (by omega) (by omega) h.now) (Or.inl rfl) jw_c_X6_isClosed jw_i_RX6 jw_m_RX6_187 jw_s_X6_isClosed jw_e_X6_isClosed (jl_0 hB) rfl jw_y_X6_isClosed rfl ⟨(Nat.le_of_ble_eq_true rfl), (Nat.le_of_ble_eq_true rfl), (Nat.le_refl _), (Nat.le_refl _), (Nat.le_of_ble_eq_true rfl)⟩ dX6_ofPlay_124 ?_
  refine js_st (st' := [.int (nI (jj_b (decide (P.mi l / 14400 < P.t / 14400))))]) rfl ?_
  refine js_top (y := nI 1) (by simp [jj_b, hc]) ?_
  refine jn_if_eq 134 (by omega) dX6_ofPlay_127 (by decide) (fun h9 => absurd h9 (by omega)) (fun _ => ?_)
  refine js_iconst (v := nI 1) dX6_ofPlay_130 (by decide) ?_
  refine js_goto 135 dX6_ofPlay_131 (by decide) ?_
  exact jj_refl
set_option maxRecDepth 100000 in
set_option maxHeartbeats 4000000 in
theorem q_X6_ofPlay_5f {lay : jj_Lay} {S : jj_Mem} {P : jj_P} (hB : jj_pp lay) (h : jj_J S P) (hK : jj_K P) {l : Nat} (hl : l < P.n) (hc : ¬ P.mi l / 14400 < P.t / 14400) : jj_CT yX6_ofPlay (.code yX6_ofPlay cX6_ofPlay 3 (some .int)) none 2 41 [.ref 0, .int (nI l), .int (nI 5)] lay S (some (.int (nI 0))) lay S := by
  have h8 := h.au.1
  have h14 := h.tk.1
  have h130 := h.lg.1
  have ht9 := h.ht
  have hm9 := h.hmt l hl
  refine jj_mkI RX6 .int (by decide) rfl (L := [some (.ref 0), some (.int (nI l)), some (.int (nI 5))]) rfl rfl rfl ⟨135, [some (.ref 0), some (.int (nI l)), some (.int (nI 5))], dX6_ofPlay_135, ?_⟩
  refine js_iload_n 1 rfl dX6_ofPlay_0 rfl ?_
  refine jn_if_lt 15 (by omega) dX6_ofPlay_1 (by decide) (fun h9 => absurd h9 (by omega)) (fun _ => ?_)
  refine js_iload_n 1 rfl dX6_ofPlay_4 rfl ?_
  refine js_aload_n 0 rfl dX6_ofPlay_5 rfl ?_
  refine js_getr 3 jw_f_RX6_33 (jl_0 hB) rfl (Nat.le_of_ble_eq_true rfl) rfl dX6_ofPlay_6 ?_
  refine js_getNi 0 jw_n_RX6_194 (jl_35 hB) rfl (Nat.le_of_ble_eq_true rfl) rfl (h.lg.2.1) dX6_ofPlay_9 ?_
  refine jn_icmp_lt 25 (by omega) (by omega) dX6_ofPlay_12 (by decide) (fun _ => ?_) (fun h9 => absurd h9 (by omega))
  refine js_iload_n 2 rfl dX6_ofPlay_25 rfl ?_
  refine js_tabIn 114 (off := 88) dX6_ofPlay_26 (by decide) (by decide) (by decide) (by decide) ?_
  refine js_aload_n 0 rfl dX6_ofPlay_114 rfl ?_
  refine js_aload_n 0 rfl dX6_ofPlay_115 rfl ?_
  refine js_getr 3 jw_f_RX6_33 (jl_0 hB) rfl (Nat.le_of_ble_eq_true rfl) rfl dX6_ofPlay_116 ?_
  refine js_getNr 3 jw_n_RX6_255 (jl_35 hB) rfl (Nat.le_of_ble_eq_true rfl) rfl dX6_ofPlay_119 ?_
  refine js_iload_n 1 rfl dX6_ofPlay_122 rfl ?_
  refine js_iald l rfl (jl_38 hB) (by omega) (by decide) ((h.lg.2.2 l (by omega)).2.2.1) dX6_ofPlay_123 ?_
  refine js_callV (av := [.int (nI (P.mi l))]) (st := []) (b := 0) (ct_X6_isClosed hB (by omega) (by omega) h.now) (Or.inl rfl) jw_c_X6_isClosed jw_i_RX6 jw_m_RX6_187 jw_s_X6_isClosed jw_e_X6_isClosed (jl_0 hB) rfl jw_y_X6_isClosed rfl ⟨(Nat.le_of_ble_eq_true rfl), (Nat.le_of_ble_eq_true rfl), (Nat.le_refl _), (Nat.le_refl _), (Nat.le_of_ble_eq_true rfl)⟩ dX6_ofPlay_124 ?_
  refine js_st (st' := [.int (nI (jj_b (decide (P.mi l / 14400 < P.t / 14400))))]) rfl ?_
  refine js_top (y := nI 0) (by simp [jj_b, hc]) ?_
  refine jn_if_eq 134 (by omega) dX6_ofPlay_127 (by decide) (fun _ => ?_) (fun h9 => absurd h9 (by omega))
  refine js_iconst (v := nI 0) dX6_ofPlay_134 (by decide) ?_
  exact jj_refl
set_option maxRecDepth 100000 in
set_option maxHeartbeats 4000000 in
theorem q_X6_ofParty_0 {lay : jj_Lay} {S : jj_Mem} {P : jj_P} (hB : jj_pp lay) (h : jj_J S P) (hK : jj_K P) {l : Nat} (hl : l < 5) : jj_CT yX6_ofParty (.code yX6_ofParty cX6_ofParty 3 (some .int)) none 1 20 [.ref 0, .int (nI l), .int (nI 0)] lay S (some (.int (nI (P.du l)))) lay S := by
  have h8 := h.au.1
  have h14 := h.tk.1
  have h130 := h.lg.1
  have ht9 := h.ht
  refine jj_mkI RX6 .int (by decide) rfl (L := [some (.ref 0), some (.int (nI l)), some (.int (nI 0))]) rfl rfl rfl ⟨45, [some (.ref 0), some (.int (nI l)), some (.int (nI 0))], dX6_ofParty_45, ?_⟩
  refine js_iload_n 1 rfl dX6_ofParty_0 rfl ?_
  refine js_callS (av := [.int (nI l)]) (st := []) (ct_X6_needParty hl) (Or.inl rfl) jw_c_X6_needParty jw_i_RX6 jw_m_RX6_121 jw_s_X6_needParty jw_y_X6_needParty rfl ⟨(Nat.le_of_ble_eq_true rfl), (Nat.le_of_ble_eq_true rfl), (Nat.le_refl _), (Nat.le_refl _), (Nat.le_of_ble_eq_true rfl)⟩ dX6_ofParty_1 ?_
  refine js_st (st' := []) rfl ?_
  refine js_iload_n 2 rfl dX6_ofParty_4 rfl ?_
  refine js_tabIn 36 (off := 31) dX6_ofParty_5 (by decide) (by decide) (by decide) (by decide) ?_
  refine js_aload_n 0 rfl dX6_ofParty_36 rfl ?_
  refine js_getr 5 jw_f_RX6_47 (jl_0 hB) rfl (Nat.le_of_ble_eq_true rfl) rfl dX6_ofParty_37 ?_
  refine js_getNr 5 jw_n_RX6_261 (jl_70 hB) rfl (Nat.le_of_ble_eq_true rfl) rfl dX6_ofParty_40 ?_
  refine js_iload_n 1 rfl dX6_ofParty_43 rfl ?_
  refine js_iald l rfl (jl_74 hB) (by omega) (by decide) ((h.bs.2.2.2.2.2.1 l (by omega))) dX6_ofParty_44 ?_
  exact jj_refl
set_option maxRecDepth 100000 in
set_option maxHeartbeats 4000000 in
theorem q_X6_ofParty_1 {lay : jj_Lay} {S : jj_Mem} {P : jj_P} (hB : jj_pp lay) (h : jj_J S P) (hK : jj_K P) {l : Nat} (hl : l < 5) : jj_CT yX6_ofParty (.code yX6_ofParty cX6_ofParty 3 (some .int)) none 1 20 [.ref 0, .int (nI l), .int (nI 1)] lay S (some (.int (nI (P.pa l)))) lay S := by
  have h8 := h.au.1
  have h14 := h.tk.1
  have h130 := h.lg.1
  have ht9 := h.ht
  refine jj_mkI RX6 .int (by decide) rfl (L := [some (.ref 0), some (.int (nI l)), some (.int (nI 1))]) rfl rfl rfl ⟨55, [some (.ref 0), some (.int (nI l)), some (.int (nI 1))], dX6_ofParty_55, ?_⟩
  refine js_iload_n 1 rfl dX6_ofParty_0 rfl ?_
  refine js_callS (av := [.int (nI l)]) (st := []) (ct_X6_needParty hl) (Or.inl rfl) jw_c_X6_needParty jw_i_RX6 jw_m_RX6_121 jw_s_X6_needParty jw_y_X6_needParty rfl ⟨(Nat.le_of_ble_eq_true rfl), (Nat.le_of_ble_eq_true rfl), (Nat.le_refl _), (Nat.le_refl _), (Nat.le_of_ble_eq_true rfl)⟩ dX6_ofParty_1 ?_
  refine js_st (st' := []) rfl ?_
  refine js_iload_n 2 rfl dX6_ofParty_4 rfl ?_
  refine js_tabIn 46 (off := 41) dX6_ofParty_5 (by decide) (by decide) (by decide) (by decide) ?_
  refine js_aload_n 0 rfl dX6_ofParty_46 rfl ?_
  refine js_getr 5 jw_f_RX6_47 (jl_0 hB) rfl (Nat.le_of_ble_eq_true rfl) rfl dX6_ofParty_47 ?_
  refine js_getNr 6 jw_n_RX6_264 (jl_70 hB) rfl (Nat.le_of_ble_eq_true rfl) rfl dX6_ofParty_50 ?_
  refine js_iload_n 1 rfl dX6_ofParty_53 rfl ?_
  refine js_iald l rfl (jl_75 hB) (by omega) (by decide) ((h.bs.2.2.2.2.2.2.1 l (by omega))) dX6_ofParty_54 ?_
  exact jj_refl
set_option maxRecDepth 100000 in
set_option maxHeartbeats 4000000 in
theorem q_X6_ofParty_2 {lay : jj_Lay} {S : jj_Mem} {P : jj_P} (hB : jj_pp lay) (h : jj_J S P) (hK : jj_K P) {l : Nat} (hl : l < 5) : jj_CT yX6_ofParty (.code yX6_ofParty cX6_ofParty 3 (some .int)) none 1 20 [.ref 0, .int (nI l), .int (nI 2)] lay S (some (.int (nI (P.ad l)))) lay S := by
  have h8 := h.au.1
  have h14 := h.tk.1
  have h130 := h.lg.1
  have ht9 := h.ht
  refine jj_mkI RX6 .int (by decide) rfl (L := [some (.ref 0), some (.int (nI l)), some (.int (nI 2))]) rfl rfl rfl ⟨65, [some (.ref 0), some (.int (nI l)), some (.int (nI 2))], dX6_ofParty_65, ?_⟩
  refine js_iload_n 1 rfl dX6_ofParty_0 rfl ?_
  refine js_callS (av := [.int (nI l)]) (st := []) (ct_X6_needParty hl) (Or.inl rfl) jw_c_X6_needParty jw_i_RX6 jw_m_RX6_121 jw_s_X6_needParty jw_y_X6_needParty rfl ⟨(Nat.le_of_ble_eq_true rfl), (Nat.le_of_ble_eq_true rfl), (Nat.le_refl _), (Nat.le_refl _), (Nat.le_of_ble_eq_true rfl)⟩ dX6_ofParty_1 ?_
  refine js_st (st' := []) rfl ?_
  refine js_iload_n 2 rfl dX6_ofParty_4 rfl ?_
  refine js_tabIn 56 (off := 51) dX6_ofParty_5 (by decide) (by decide) (by decide) (by decide) ?_
  refine js_aload_n 0 rfl dX6_ofParty_56 rfl ?_
  refine js_getr 5 jw_f_RX6_47 (jl_0 hB) rfl (Nat.le_of_ble_eq_true rfl) rfl dX6_ofParty_57 ?_
  refine js_getNr 7 jw_n_RX6_135 (jl_70 hB) rfl (Nat.le_of_ble_eq_true rfl) rfl dX6_ofParty_60 ?_
  refine js_iload_n 1 rfl dX6_ofParty_63 rfl ?_
  refine js_iald l rfl (jl_76 hB) (by omega) (by decide) ((h.bs.2.2.2.2.2.2.2.1 l (by omega))) dX6_ofParty_64 ?_
  exact jj_refl
set_option maxRecDepth 100000 in
set_option maxHeartbeats 4000000 in
theorem q_X6_ofParty_3 {lay : jj_Lay} {S : jj_Mem} {P : jj_P} (hB : jj_pp lay) (h : jj_J S P) (hK : jj_K P) {l : Nat} (hl : l < 5) : jj_CT yX6_ofParty (.code yX6_ofParty cX6_ofParty 3 (some .int)) none 1 20 [.ref 0, .int (nI l), .int (nI 3)] lay S (some (.int (nI (P.re l)))) lay S := by
  have h8 := h.au.1
  have h14 := h.tk.1
  have h130 := h.lg.1
  have ht9 := h.ht
  refine jj_mkI RX6 .int (by decide) rfl (L := [some (.ref 0), some (.int (nI l)), some (.int (nI 3))]) rfl rfl rfl ⟨75, [some (.ref 0), some (.int (nI l)), some (.int (nI 3))], dX6_ofParty_75, ?_⟩
  refine js_iload_n 1 rfl dX6_ofParty_0 rfl ?_
  refine js_callS (av := [.int (nI l)]) (st := []) (ct_X6_needParty hl) (Or.inl rfl) jw_c_X6_needParty jw_i_RX6 jw_m_RX6_121 jw_s_X6_needParty jw_y_X6_needParty rfl ⟨(Nat.le_of_ble_eq_true rfl), (Nat.le_of_ble_eq_true rfl), (Nat.le_refl _), (Nat.le_refl _), (Nat.le_of_ble_eq_true rfl)⟩ dX6_ofParty_1 ?_
  refine js_st (st' := []) rfl ?_
  refine js_iload_n 2 rfl dX6_ofParty_4 rfl ?_
  refine js_tabIn 66 (off := 61) dX6_ofParty_5 (by decide) (by decide) (by decide) (by decide) ?_
  refine js_aload_n 0 rfl dX6_ofParty_66 rfl ?_
  refine js_getr 5 jw_f_RX6_47 (jl_0 hB) rfl (Nat.le_of_ble_eq_true rfl) rfl dX6_ofParty_67 ?_
  refine js_getNr 8 jw_n_RX6_267 (jl_70 hB) rfl (Nat.le_of_ble_eq_true rfl) rfl dX6_ofParty_70 ?_
  refine js_iload_n 1 rfl dX6_ofParty_73 rfl ?_
  refine js_iald l rfl (jl_77 hB) (by omega) (by decide) ((h.bs.2.2.2.2.2.2.2.2 l (by omega))) dX6_ofParty_74 ?_
  exact jj_refl
theorem E_X6_ofParty {lay : jj_Lay} {S : jj_Mem} {P : jj_P} (hB : jj_pp lay) (h : jj_J S P) (hK : jj_K P) {l : Nat} (hl : l < 5) {what : Nat} (hw : what < 4) : ∃ r : Int32, jj_CT yX6_ofParty (.code yX6_ofParty cX6_ofParty 3 (some .int)) none 1 20 [.ref 0, .int (nI l), .int (nI what)] lay S (some (.int r)) lay S := by
  rcases (show what = 0 ∨ what = 1 ∨ what = 2 ∨ what = 3 by omega) with rfl | rfl | rfl | rfl
  · exact ⟨_, q_X6_ofParty_0 hB h hK hl⟩
  · exact ⟨_, q_X6_ofParty_1 hB h hK hl⟩
  · exact ⟨_, q_X6_ofParty_2 hB h hK hl⟩
  · exact ⟨_, q_X6_ofParty_3 hB h hK hl⟩
set_option maxRecDepth 100000 in
set_option maxHeartbeats 4000000 in
theorem q_X6_ofRecording_0 {lay : jj_Lay} {S : jj_Mem} {P : jj_P} (hB : jj_pp lay) (h : jj_J S P) (hK : jj_K P) {l : Nat} (hl : l < 10) : jj_CT yX6_ofRecording (.code yX6_ofRecording cX6_ofRecording 3 (some .int)) none 3 67 [.ref 0, .int (nI l), .int (nI 0)] lay S (some (.int (nI (jj_sm (fun q => P.cl l q) 5)))) lay S := by
  have h8 := h.au.1
  have h14 := h.tk.1
  have h130 := h.lg.1
  have ht9 := h.ht
  refine jj_mkI RX6 .int (by decide) rfl (L := [some (.ref 0), some (.int (nI l)), some (.int (nI 0))]) rfl rfl rfl ⟨56, [some (.ref 0), some (.int (nI l)), some (.int (nI 0))], dX6_ofRecording_56, ?_⟩
  refine js_iload_n 1 rfl dX6_ofRecording_0 rfl ?_
  refine js_callS (av := [.int (nI l)]) (st := []) (ct_X6_needRecording hl) (Or.inl rfl) jw_c_X6_needRecording jw_i_RX6 jw_m_RX6_68 jw_s_X6_needRecording jw_y_X6_needRecording rfl ⟨(Nat.le_of_ble_eq_true rfl), (Nat.le_of_ble_eq_true rfl), (Nat.le_refl _), (Nat.le_refl _), (Nat.le_of_ble_eq_true rfl)⟩ dX6_ofRecording_1 ?_
  refine js_st (st' := []) rfl ?_
  refine js_iload_n 2 rfl dX6_ofRecording_4 rfl ?_
  refine js_tabIn 48 (off := 43) dX6_ofRecording_5 (by decide) (by decide) (by decide) (by decide) ?_
  refine js_aload_n 0 rfl dX6_ofRecording_48 rfl ?_
  refine js_getr 1 jw_f_RX6_19 (jl_0 hB) rfl (Nat.le_of_ble_eq_true rfl) rfl dX6_ofRecording_49 ?_
  refine js_iload_n 1 rfl dX6_ofRecording_52 rfl ?_
  refine js_callVN (av := [.int (nI l)]) (st := []) (b := 8) (ct_X5_claimsOf hB hl h.cm) (Or.inl rfl) jw_c_X5_claimsOf jw_i_RX5 jw_h_RX6_130 jw_s_X5_claimsOf jw_e_X5_claimsOf (jl_8 hB) rfl jw_y_X5_claimsOf rfl ⟨(Nat.le_of_ble_eq_true rfl), (Nat.le_of_ble_eq_true rfl), (Nat.le_refl _), (Nat.le_refl _), (Nat.le_of_ble_eq_true rfl)⟩ dX6_ofRecording_53 ?_
  refine js_st (st' := [.int (nI (jj_sm (fun q => P.cl l q) 5))]) rfl ?_
  exact jj_refl
set_option maxRecDepth 100000 in
set_option maxHeartbeats 4000000 in
theorem q_X6_ofRecording_1t {lay : jj_Lay} {S : jj_Mem} {P : jj_P} (hB : jj_pp lay) (h : jj_J S P) (hK : jj_K P) {l : Nat} (hl : l < 10) (hc : 100 < jj_sm (fun q => P.cl l q) 5) : jj_CT yX6_ofRecording (.code yX6_ofRecording cX6_ofRecording 3 (some .int)) none 3 67 [.ref 0, .int (nI l), .int (nI 1)] lay S (some (.int (nI 1))) lay S := by
  have h8 := h.au.1
  have h14 := h.tk.1
  have h130 := h.lg.1
  have ht9 := h.ht
  refine jj_mkI RX6 .int (by decide) rfl (L := [some (.ref 0), some (.int (nI l)), some (.int (nI 1))]) rfl rfl rfl ⟨73, [some (.ref 0), some (.int (nI l)), some (.int (nI 1))], dX6_ofRecording_73, ?_⟩
  refine js_iload_n 1 rfl dX6_ofRecording_0 rfl ?_
  refine js_callS (av := [.int (nI l)]) (st := []) (ct_X6_needRecording hl) (Or.inl rfl) jw_c_X6_needRecording jw_i_RX6 jw_m_RX6_68 jw_s_X6_needRecording jw_y_X6_needRecording rfl ⟨(Nat.le_of_ble_eq_true rfl), (Nat.le_of_ble_eq_true rfl), (Nat.le_refl _), (Nat.le_refl _), (Nat.le_of_ble_eq_true rfl)⟩ dX6_ofRecording_1 ?_
  refine js_st (st' := []) rfl ?_
  refine js_iload_n 2 rfl dX6_ofRecording_4 rfl ?_
  refine js_tabIn 57 (off := 52) dX6_ofRecording_5 (by decide) (by decide) (by decide) (by decide) ?_
  refine js_aload_n 0 rfl dX6_ofRecording_57 rfl ?_
  refine js_getr 1 jw_f_RX6_19 (jl_0 hB) rfl (Nat.le_of_ble_eq_true rfl) rfl dX6_ofRecording_58 ?_
  refine js_iload_n 1 rfl dX6_ofRecording_61 rfl ?_
  refine js_callVN (av := [.int (nI l)]) (st := []) (b := 8) (ct_X5_isInConflict hB hl h.cm) (Or.inl rfl) jw_c_X5_isInConflict jw_i_RX5 jw_h_RX6_270 jw_s_X5_isInConflict jw_e_X5_isInConflict (jl_8 hB) rfl jw_y_X5_isInConflict rfl ⟨(Nat.le_of_ble_eq_true rfl), (Nat.le_of_ble_eq_true rfl), (Nat.le_refl _), (Nat.le_refl _), (Nat.le_of_ble_eq_true rfl)⟩ dX6_ofRecording_62 ?_
  refine js_st (st' := [.int (nI (jj_b (decide (100 < jj_sm (fun q => P.cl l q) 5))))]) rfl ?_
  refine js_top (y := nI 1) (by simp [jj_b, hc]) ?_
  refine jn_if_eq 72 (by omega) dX6_ofRecording_65 (by decide) (fun h9 => absurd h9 (by omega)) (fun _ => ?_)
  refine js_iconst (v := nI 1) dX6_ofRecording_68 (by decide) ?_
  refine js_goto 73 dX6_ofRecording_69 (by decide) ?_
  exact jj_refl
set_option maxRecDepth 100000 in
set_option maxHeartbeats 4000000 in
theorem q_X6_ofRecording_1f {lay : jj_Lay} {S : jj_Mem} {P : jj_P} (hB : jj_pp lay) (h : jj_J S P) (hK : jj_K P) {l : Nat} (hl : l < 10) (hc : ¬ 100 < jj_sm (fun q => P.cl l q) 5) : jj_CT yX6_ofRecording (.code yX6_ofRecording cX6_ofRecording 3 (some .int)) none 3 67 [.ref 0, .int (nI l), .int (nI 1)] lay S (some (.int (nI 0))) lay S := by
  have h8 := h.au.1
  have h14 := h.tk.1
  have h130 := h.lg.1
  have ht9 := h.ht
  refine jj_mkI RX6 .int (by decide) rfl (L := [some (.ref 0), some (.int (nI l)), some (.int (nI 1))]) rfl rfl rfl ⟨73, [some (.ref 0), some (.int (nI l)), some (.int (nI 1))], dX6_ofRecording_73, ?_⟩
  refine js_iload_n 1 rfl dX6_ofRecording_0 rfl ?_
  refine js_callS (av := [.int (nI l)]) (st := []) (ct_X6_needRecording hl) (Or.inl rfl) jw_c_X6_needRecording jw_i_RX6 jw_m_RX6_68 jw_s_X6_needRecording jw_y_X6_needRecording rfl ⟨(Nat.le_of_ble_eq_true rfl), (Nat.le_of_ble_eq_true rfl), (Nat.le_refl _), (Nat.le_refl _), (Nat.le_of_ble_eq_true rfl)⟩ dX6_ofRecording_1 ?_
  refine js_st (st' := []) rfl ?_
  refine js_iload_n 2 rfl dX6_ofRecording_4 rfl ?_
  refine js_tabIn 57 (off := 52) dX6_ofRecording_5 (by decide) (by decide) (by decide) (by decide) ?_
  refine js_aload_n 0 rfl dX6_ofRecording_57 rfl ?_
  refine js_getr 1 jw_f_RX6_19 (jl_0 hB) rfl (Nat.le_of_ble_eq_true rfl) rfl dX6_ofRecording_58 ?_
  refine js_iload_n 1 rfl dX6_ofRecording_61 rfl ?_
  refine js_callVN (av := [.int (nI l)]) (st := []) (b := 8) (ct_X5_isInConflict hB hl h.cm) (Or.inl rfl) jw_c_X5_isInConflict jw_i_RX5 jw_h_RX6_270 jw_s_X5_isInConflict jw_e_X5_isInConflict (jl_8 hB) rfl jw_y_X5_isInConflict rfl ⟨(Nat.le_of_ble_eq_true rfl), (Nat.le_of_ble_eq_true rfl), (Nat.le_refl _), (Nat.le_refl _), (Nat.le_of_ble_eq_true rfl)⟩ dX6_ofRecording_62 ?_
  refine js_st (st' := [.int (nI (jj_b (decide (100 < jj_sm (fun q => P.cl l q) 5))))]) rfl ?_
  refine js_top (y := nI 0) (by simp [jj_b, hc]) ?_
  refine jn_if_eq 72 (by omega) dX6_ofRecording_65 (by decide) (fun _ => ?_) (fun h9 => absurd h9 (by omega))
  refine js_iconst (v := nI 0) dX6_ofRecording_72 (by decide) ?_
  exact jj_refl
set_option maxRecDepth 100000 in
set_option maxHeartbeats 4000000 in
theorem q_X6_ofRecording_2 {lay : jj_Lay} {S : jj_Mem} {P : jj_P} (hB : jj_pp lay) (h : jj_J S P) (hK : jj_K P) {l : Nat} (hl : l < 10) : jj_CT yX6_ofRecording (.code yX6_ofRecording cX6_ofRecording 3 (some .int)) none 3 67 [.ref 0, .int (nI l), .int (nI 2)] lay S (some (.int (nI (P.he l)))) lay S := by
  have h8 := h.au.1
  have h14 := h.tk.1
  have h130 := h.lg.1
  have ht9 := h.ht
  refine jj_mkI RX6 .int (by decide) rfl (L := [some (.ref 0), some (.int (nI l)), some (.int (nI 2))]) rfl rfl rfl ⟨83, [some (.ref 0), some (.int (nI l)), some (.int (nI 2))], dX6_ofRecording_83, ?_⟩
  refine js_iload_n 1 rfl dX6_ofRecording_0 rfl ?_
  refine js_callS (av := [.int (nI l)]) (st := []) (ct_X6_needRecording hl) (Or.inl rfl) jw_c_X6_needRecording jw_i_RX6 jw_m_RX6_68 jw_s_X6_needRecording jw_y_X6_needRecording rfl ⟨(Nat.le_of_ble_eq_true rfl), (Nat.le_of_ble_eq_true rfl), (Nat.le_refl _), (Nat.le_refl _), (Nat.le_of_ble_eq_true rfl)⟩ dX6_ofRecording_1 ?_
  refine js_st (st' := []) rfl ?_
  refine js_iload_n 2 rfl dX6_ofRecording_4 rfl ?_
  refine js_tabIn 74 (off := 69) dX6_ofRecording_5 (by decide) (by decide) (by decide) (by decide) ?_
  refine js_aload_n 0 rfl dX6_ofRecording_74 rfl ?_
  refine js_getr 5 jw_f_RX6_47 (jl_0 hB) rfl (Nat.le_of_ble_eq_true rfl) rfl dX6_ofRecording_75 ?_
  refine js_getNr 4 jw_n_RX6_273 (jl_70 hB) rfl (Nat.le_of_ble_eq_true rfl) rfl dX6_ofRecording_78 ?_
  refine js_iload_n 1 rfl dX6_ofRecording_81 rfl ?_
  refine js_iald l rfl (jl_73 hB) (by omega) (by decide) ((h.bs.2.2.2.2.1 l (by omega))) dX6_ofRecording_82 ?_
  exact jj_refl
set_option maxRecDepth 100000 in
set_option maxHeartbeats 4000000 in
theorem q_X6_ofRecording_3 {lay : jj_Lay} {S : jj_Mem} {P : jj_P} (hB : jj_pp lay) (h : jj_J S P) (hK : jj_K P) {l : Nat} (hl : l < 10) : jj_CT yX6_ofRecording (.code yX6_ofRecording cX6_ofRecording 3 (some .int)) none 3 67 [.ref 0, .int (nI l), .int (nI 3)] lay S (some (.int (nI (P.ge l)))) lay S := by
  have h8 := h.au.1
  have h14 := h.tk.1
  have h130 := h.lg.1
  have ht9 := h.ht
  refine jj_mkI RX6 .int (by decide) rfl (L := [some (.ref 0), some (.int (nI l)), some (.int (nI 3))]) rfl rfl rfl ⟨93, [some (.ref 0), some (.int (nI l)), some (.int (nI 3))], dX6_ofRecording_93, ?_⟩
  refine js_iload_n 1 rfl dX6_ofRecording_0 rfl ?_
  refine js_callS (av := [.int (nI l)]) (st := []) (ct_X6_needRecording hl) (Or.inl rfl) jw_c_X6_needRecording jw_i_RX6 jw_m_RX6_68 jw_s_X6_needRecording jw_y_X6_needRecording rfl ⟨(Nat.le_of_ble_eq_true rfl), (Nat.le_of_ble_eq_true rfl), (Nat.le_refl _), (Nat.le_refl _), (Nat.le_of_ble_eq_true rfl)⟩ dX6_ofRecording_1 ?_
  refine js_st (st' := []) rfl ?_
  refine js_iload_n 2 rfl dX6_ofRecording_4 rfl ?_
  refine js_tabIn 84 (off := 79) dX6_ofRecording_5 (by decide) (by decide) (by decide) (by decide) ?_
  refine js_aload_n 0 rfl dX6_ofRecording_84 rfl ?_
  refine js_getr 5 jw_f_RX6_47 (jl_0 hB) rfl (Nat.le_of_ble_eq_true rfl) rfl dX6_ofRecording_85 ?_
  refine js_getNr 3 jw_n_RX6_276 (jl_70 hB) rfl (Nat.le_of_ble_eq_true rfl) rfl dX6_ofRecording_88 ?_
  refine js_iload_n 1 rfl dX6_ofRecording_91 rfl ?_
  refine js_iald l rfl (jl_72 hB) (by omega) (by decide) ((h.bs.2.2.2.1 l (by omega))) dX6_ofRecording_92 ?_
  exact jj_refl
set_option maxRecDepth 100000 in
set_option maxHeartbeats 4000000 in
theorem q_X6_ofRecording_4 {lay : jj_Lay} {S : jj_Mem} {P : jj_P} (hB : jj_pp lay) (h : jj_J S P) (hK : jj_K P) {l : Nat} (hl : l < 10) : ∃ r : Int32, jj_CT yX6_ofRecording (.code yX6_ofRecording cX6_ofRecording 3 (some .int)) none 3 67 [.ref 0, .int (nI l), .int (nI 4)] lay S (some (.int r)) lay S := by
  have h8 := h.au.1
  have h14 := h.tk.1
  have h130 := h.lg.1
  have ht9 := h.ht
  obtain ⟨r, hct⟩ := ct_X2_tracksOf (lay := lay) hB h.tk (u := nI l)
  refine ⟨r, ?_⟩
  refine jj_mkI RX6 .int (by decide) rfl (L := [some (.ref 0), some (.int (nI l)), some (.int (nI 4))]) rfl rfl rfl ⟨102, [some (.ref 0), some (.int (nI l)), some (.int (nI 4))], dX6_ofRecording_102, ?_⟩
  refine js_iload_n 1 rfl dX6_ofRecording_0 rfl ?_
  refine js_callS (av := [.int (nI l)]) (st := []) (ct_X6_needRecording hl) (Or.inl rfl) jw_c_X6_needRecording jw_i_RX6 jw_m_RX6_68 jw_s_X6_needRecording jw_y_X6_needRecording rfl ⟨(Nat.le_of_ble_eq_true rfl), (Nat.le_of_ble_eq_true rfl), (Nat.le_refl _), (Nat.le_refl _), (Nat.le_of_ble_eq_true rfl)⟩ dX6_ofRecording_1 ?_
  refine js_st (st' := []) rfl ?_
  refine js_iload_n 2 rfl dX6_ofRecording_4 rfl ?_
  refine js_tabIn 94 (off := 89) dX6_ofRecording_5 (by decide) (by decide) (by decide) (by decide) ?_
  refine js_aload_n 0 rfl dX6_ofRecording_94 rfl ?_
  refine js_getr 0 jw_f_RX6_12 (jl_0 hB) rfl (Nat.le_of_ble_eq_true rfl) rfl dX6_ofRecording_95 ?_
  refine js_iload_n 1 rfl dX6_ofRecording_98 rfl ?_
  refine js_callVN (av := [.int (nI l)]) (st := []) (b := 1) hct (Or.inl rfl) jw_c_X2_tracksOf jw_i_RX2 jw_h_RX6_279 jw_s_X2_tracksOf jw_e_X2_tracksOf (jl_1 hB) rfl jw_y_X2_tracksOf rfl ⟨(Nat.le_of_ble_eq_true rfl), (Nat.le_of_ble_eq_true rfl), (Nat.le_refl _), (Nat.le_refl _), (Nat.le_of_ble_eq_true rfl)⟩ dX6_ofRecording_99 ?_
  refine js_st (st' := [.int r]) rfl ?_
  exact jj_refl
set_option maxRecDepth 100000 in
set_option maxHeartbeats 4000000 in
theorem q_X6_ofRecording_5 {lay : jj_Lay} {S : jj_Mem} {P : jj_P} (hB : jj_pp lay) (h : jj_J S P) (hK : jj_K P) {l : Nat} (hl : l < 10) : jj_CT yX6_ofRecording (.code yX6_ofRecording cX6_ofRecording 3 (some .int)) none 3 67 [.ref 0, .int (nI l), .int (nI 5)] lay S (some (.int (nI (jj_sm (fun j => P.ev j l) 8)))) lay S := by
  have h8 := h.au.1
  have h14 := h.tk.1
  have h130 := h.lg.1
  have ht9 := h.ht
  refine jj_mkI RX6 .int (by decide) rfl (L := [some (.ref 0), some (.int (nI l)), some (.int (nI 5))]) rfl rfl rfl ⟨114, [some (.ref 0), some (.int (nI l)), some (.int (nI 5))], dX6_ofRecording_114, ?_⟩
  refine js_iload_n 1 rfl dX6_ofRecording_0 rfl ?_
  refine js_callS (av := [.int (nI l)]) (st := []) (ct_X6_needRecording hl) (Or.inl rfl) jw_c_X6_needRecording jw_i_RX6 jw_m_RX6_68 jw_s_X6_needRecording jw_y_X6_needRecording rfl ⟨(Nat.le_of_ble_eq_true rfl), (Nat.le_of_ble_eq_true rfl), (Nat.le_refl _), (Nat.le_refl _), (Nat.le_of_ble_eq_true rfl)⟩ dX6_ofRecording_1 ?_
  refine js_st (st' := []) rfl ?_
  refine js_iload_n 2 rfl dX6_ofRecording_4 rfl ?_
  refine js_tabIn 103 (off := 98) dX6_ofRecording_5 (by decide) (by decide) (by decide) (by decide) ?_
  refine js_aload_n 0 rfl dX6_ofRecording_103 rfl ?_
  refine js_getr 4 jw_f_RX6_40 (jl_0 hB) rfl (Nat.le_of_ble_eq_true rfl) rfl dX6_ofRecording_104 ?_
  refine js_getNr 0 jw_n_RX6_231 (jl_42 hB) rfl (Nat.le_of_ble_eq_true rfl) rfl dX6_ofRecording_107 ?_
  refine js_iload_n 1 rfl dX6_ofRecording_110 rfl ?_
  refine js_callS (av := [.ref 43, .int (nI l)]) (st := []) (ct_X6_columnSum (g := P.ev) (jl_43 hB) (by omega) (fun j hj => ⟨jr_ev j hj, jl_ev hB j hj⟩) hl (fun j hj => h.ev j hj l hl)) (Or.inl rfl) jw_c_X6_columnSum jw_i_RX6 jw_m_RX6_282 jw_s_X6_columnSum jw_y_X6_columnSum rfl ⟨(Nat.le_of_ble_eq_true rfl), (Nat.le_of_ble_eq_true rfl), (Nat.le_refl _), (Nat.le_refl _), (Nat.le_of_ble_eq_true rfl)⟩ dX6_ofRecording_111 ?_
  refine js_st (st' := [.int (nI (jj_sm (fun j => P.ev j l) 8))]) rfl ?_
  exact jj_refl
set_option maxRecDepth 100000 in
set_option maxHeartbeats 4000000 in
theorem q_X6_ofRecording_6 {lay : jj_Lay} {S : jj_Mem} {P : jj_P} (hB : jj_pp lay) (h : jj_J S P) (hK : jj_K P) {l : Nat} (hl : l < 10) : jj_CT yX6_ofRecording (.code yX6_ofRecording cX6_ofRecording 3 (some .int)) none 3 67 [.ref 0, .int (nI l), .int (nI 6)] lay S (some (.int (nI (jj_sm (fun j => P.im j l) 8)))) lay S := by
  have h8 := h.au.1
  have h14 := h.tk.1
  have h130 := h.lg.1
  have ht9 := h.ht
  refine jj_mkI RX6 .int (by decide) rfl (L := [some (.ref 0), some (.int (nI l)), some (.int (nI 6))]) rfl rfl rfl ⟨126, [some (.ref 0), some (.int (nI l)), some (.int (nI 6))], dX6_ofRecording_126, ?_⟩
  refine js_iload_n 1 rfl dX6_ofRecording_0 rfl ?_
  refine js_callS (av := [.int (nI l)]) (st := []) (ct_X6_needRecording hl) (Or.inl rfl) jw_c_X6_needRecording jw_i_RX6 jw_m_RX6_68 jw_s_X6_needRecording jw_y_X6_needRecording rfl ⟨(Nat.le_of_ble_eq_true rfl), (Nat.le_of_ble_eq_true rfl), (Nat.le_refl _), (Nat.le_refl _), (Nat.le_of_ble_eq_true rfl)⟩ dX6_ofRecording_1 ?_
  refine js_st (st' := []) rfl ?_
  refine js_iload_n 2 rfl dX6_ofRecording_4 rfl ?_
  refine js_tabIn 115 (off := 110) dX6_ofRecording_5 (by decide) (by decide) (by decide) (by decide) ?_
  refine js_aload_n 0 rfl dX6_ofRecording_115 rfl ?_
  refine js_getr 4 jw_f_RX6_40 (jl_0 hB) rfl (Nat.le_of_ble_eq_true rfl) rfl dX6_ofRecording_116 ?_
  refine js_getNr 1 jw_n_RX6_238 (jl_42 hB) rfl (Nat.le_of_ble_eq_true rfl) rfl dX6_ofRecording_119 ?_
  refine js_iload_n 1 rfl dX6_ofRecording_122 rfl ?_
  refine js_callS (av := [.ref 52, .int (nI l)]) (st := []) (ct_X6_columnSum (g := P.im) (jl_52 hB) (by omega) (fun j hj => ⟨jr_im j hj, jl_im hB j hj⟩) hl (fun j hj => h.im j hj l hl)) (Or.inl rfl) jw_c_X6_columnSum jw_i_RX6 jw_m_RX6_282 jw_s_X6_columnSum jw_y_X6_columnSum rfl ⟨(Nat.le_of_ble_eq_true rfl), (Nat.le_of_ble_eq_true rfl), (Nat.le_refl _), (Nat.le_refl _), (Nat.le_of_ble_eq_true rfl)⟩ dX6_ofRecording_123 ?_
  refine js_st (st' := [.int (nI (jj_sm (fun j => P.im j l) 8))]) rfl ?_
  exact jj_refl
theorem E_X6_ofRecording {lay : jj_Lay} {S : jj_Mem} {P : jj_P} (hB : jj_pp lay) (h : jj_J S P) (hK : jj_K P) {l : Nat} (hl : l < 10) {what : Nat} (hw : what < 7) : ∃ r : Int32, jj_CT yX6_ofRecording (.code yX6_ofRecording cX6_ofRecording 3 (some .int)) none 3 67 [.ref 0, .int (nI l), .int (nI what)] lay S (some (.int r)) lay S := by
  rcases (show what = 0 ∨ what = 1 ∨ what = 2 ∨ what = 3 ∨ what = 4 ∨ what = 5 ∨ what = 6 by omega) with rfl | rfl | rfl | rfl | rfl | rfl | rfl
  · exact ⟨_, q_X6_ofRecording_0 hB h hK hl⟩
  · by_cases hc : 100 < jj_sm (fun q => P.cl l q) 5
    · exact ⟨_, q_X6_ofRecording_1t hB h hK hl hc⟩
    · exact ⟨_, q_X6_ofRecording_1f hB h hK hl hc⟩
  · exact ⟨_, q_X6_ofRecording_2 hB h hK hl⟩
  · exact ⟨_, q_X6_ofRecording_3 hB h hK hl⟩
  · exact q_X6_ofRecording_4 hB h hK hl
  · exact ⟨_, q_X6_ofRecording_5 hB h hK hl⟩
  · exact ⟨_, q_X6_ofRecording_6 hB h hK hl⟩

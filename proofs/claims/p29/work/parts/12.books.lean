/-! THE BOOKS, piece by piece. b: the place of a Books object, 70, 81 or 92. -/
def jj_bkr (b : Nat) : List (Option (Option Nat)) := [none, none, some (some (b + 1)), some (some (b + 2)), some (some (b + 3)), some (some (b + 4)), some (some (b + 5)), some (some (b + 6)), some (some (b + 7)), some (some (b + 8)), some (some (b + 9)), some (some (b + 10))]
def jj_bk (lay : jj_Lay) (b : Nat) : Prop := 70 ≤ b ∧ lay[b]? = some (1, 12, jj_bkr b) ∧ lay[b + 1]? = some (20, 4, []) ∧ lay[b + 2]? = some (20, 10, []) ∧ lay[b + 3]? = some (20, 10, []) ∧ lay[b + 4]? = some (20, 5, []) ∧ lay[b + 5]? = some (20, 5, []) ∧ lay[b + 6]? = some (20, 5, []) ∧ lay[b + 7]? = some (20, 5, []) ∧ lay[b + 8]? = some (20, 10, []) ∧ lay[b + 9]? = some (20, 10, []) ∧ lay[b + 10]? = some (20, 10, [])
theorem jk_b {lay : jj_Lay} {b : Nat} (h : jj_bk lay b) : 70 ≤ b := h.1
theorem jk_0 {lay : jj_Lay} {b : Nat} (h : jj_bk lay b) : lay[b]? = some (1, 12, [none, none, some (some (b + 1)), some (some (b + 2)), some (some (b + 3)), some (some (b + 4)), some (some (b + 5)), some (some (b + 6)), some (some (b + 7)), some (some (b + 8)), some (some (b + 9)), some (some (b + 10))]) := h.2.1
theorem jk_1 {lay : jj_Lay} {b : Nat} (h : jj_bk lay b) : lay[b + 1]? = some (20, 4, []) := h.2.2.1
theorem jk_2 {lay : jj_Lay} {b : Nat} (h : jj_bk lay b) : lay[b + 2]? = some (20, 10, []) := h.2.2.2.1
theorem jk_3 {lay : jj_Lay} {b : Nat} (h : jj_bk lay b) : lay[b + 3]? = some (20, 10, []) := h.2.2.2.2.1
theorem jk_4 {lay : jj_Lay} {b : Nat} (h : jj_bk lay b) : lay[b + 4]? = some (20, 5, []) := h.2.2.2.2.2.1
theorem jk_5 {lay : jj_Lay} {b : Nat} (h : jj_bk lay b) : lay[b + 5]? = some (20, 5, []) := h.2.2.2.2.2.2.1
theorem jk_6 {lay : jj_Lay} {b : Nat} (h : jj_bk lay b) : lay[b + 6]? = some (20, 5, []) := h.2.2.2.2.2.2.2.1
theorem jk_7 {lay : jj_Lay} {b : Nat} (h : jj_bk lay b) : lay[b + 7]? = some (20, 5, []) := h.2.2.2.2.2.2.2.2.1
theorem jk_8 {lay : jj_Lay} {b : Nat} (h : jj_bk lay b) : lay[b + 8]? = some (20, 10, []) := h.2.2.2.2.2.2.2.2.2.1
theorem jk_9 {lay : jj_Lay} {b : Nat} (h : jj_bk lay b) : lay[b + 9]? = some (20, 10, []) := h.2.2.2.2.2.2.2.2.2.2.1
theorem jk_10 {lay : jj_Lay} {b : Nat} (h : jj_bk lay b) : lay[b + 10]? = some (20, 10, []) := h.2.2.2.2.2.2.2.2.2.2.2
theorem jj_bk_70 {lay : jj_Lay} (h : jj_pp lay) : jj_bk lay 70 := ⟨by decide, jl_70 h, jl_71 h, jl_72 h, jl_73 h, jl_74 h, jl_75 h, jl_76 h, jl_77 h, jl_78 h, jl_79 h, jl_80 h⟩
theorem jj_bk_81 {lay : jj_Lay} (h : jj_pp lay) : jj_bk lay 81 := ⟨by decide, jl_81 h, jl_82 h, jl_83 h, jl_84 h, jl_85 h, jl_86 h, jl_87 h, jl_88 h, jl_89 h, jl_90 h, jl_91 h⟩
theorem jj_bk_92 {lay : jj_Lay} (h : jj_pp lay) : jj_bk lay 92 := ⟨by decide, jl_92 h, jl_93 h, jl_94 h, jl_95 h, jl_96 h, jl_97 h, jl_98 h, jl_99 h, jl_100 h, jl_101 h, jl_102 h⟩
def jj_fee (v : Nat) : Nat := if v = 0 then 200 else if v = 1 then 1000 else 500
def jj_pool (v : Nat) : Nat := jj_fee v * 7 / 10
theorem jj_fee_le (v : Nat) : jj_fee v ≤ 1000 := by unfold jj_fee; split <;> first | omega | (split <;> omega)
theorem jj_pool_le (v : Nat) : jj_pool v ≤ jj_fee v := by unfold jj_pool; have := jj_fee_le v; omega
theorem jj_pool_le2 (v : Nat) : jj_pool v ≤ 700 := by unfold jj_pool; have := jj_fee_le v; omega
/-- the listeners: how many, their lands and plans -/
def jj_au (S : jj_Mem) (cnt : Nat) (ld pl : Nat → Nat) : Prop := cnt ≤ 8 ∧ S 20 0 = some (nI cnt) ∧ (∀ j, j < cnt → S 21 j = some (nI (ld j)) ∧ ld j < 4) ∧ (∀ j, j < cnt → S 22 j = some (nI (pl j)) ∧ pl j < 3)
/-- the counts of the month -/
def jj_im (S : jj_Mem) (cnt : Nat) (im : Nat → Nat → Nat) : Prop := ∀ l, l < cnt → ∀ j, j < 10 → S (53 + l) j = some (nI (im l j))
/-- the claims -/
def jj_cm (S : jj_Mem) (cl : Nat → Nat → Nat) : Prop := ∀ r, r < 10 → ∀ q, q < 5 → S (10 + r) q = some (nI (cl r q)) ∧ cl r q ≤ 100
theorem jj_au_mono {S S' : jj_Mem} {cnt : Nat} {ld pl : Nat → Nat} (h : jj_au S cnt ld pl) (e : ∀ q, q < 70 → ∀ j, S' q j = S q j) : jj_au S' cnt ld pl := by
  obtain ⟨h1, h2, h3, h4⟩ := h
  exact ⟨h1, (e 20 (by omega) 0).trans h2, fun j hj => ⟨(e 21 (by omega) j).trans (h3 j hj).1, (h3 j hj).2⟩, fun j hj => ⟨(e 22 (by omega) j).trans (h4 j hj).1, (h4 j hj).2⟩⟩
theorem jj_im_mono {S S' : jj_Mem} {cnt : Nat} {im : Nat → Nat → Nat} (hc : cnt ≤ 8) (h : jj_im S cnt im) (e : ∀ q, q < 70 → ∀ j, S' q j = S q j) : jj_im S' cnt im := fun l hl j hj => (e (53 + l) (by omega) j).trans (h l hl j hj)
theorem jj_cm_mono {S S' : jj_Mem} {cl : Nat → Nat → Nat} (h : jj_cm S cl) (e : ∀ q, q < 70 → ∀ j, S' q j = S q j) : jj_cm S' cl := fun a ha j hj => ⟨(e (10 + a) (by omega) j).trans (h a ha j hj).1, (h a ha j hj).2⟩

theorem jl_im {lay : jj_Lay} (h : jj_pp lay) : ∀ l, l < 8 → lay[53 + l]? = some (20, 10, []) := fun l hl => by
  match l, hl with
  | 0, _ => exact jl_53 h
  | 1, _ => exact jl_54 h
  | 2, _ => exact jl_55 h
  | 3, _ => exact jl_56 h
  | 4, _ => exact jl_57 h
  | 5, _ => exact jl_58 h
  | 6, _ => exact jl_59 h
  | 7, _ => exact jl_60 h
  | k + 8, hl => omega
theorem jl_ev {lay : jj_Lay} (h : jj_pp lay) : ∀ l, l < 8 → lay[44 + l]? = some (20, 10, []) := fun l hl => by
  match l, hl with
  | 0, _ => exact jl_44 h
  | 1, _ => exact jl_45 h
  | 2, _ => exact jl_46 h
  | 3, _ => exact jl_47 h
  | 4, _ => exact jl_48 h
  | 5, _ => exact jl_49 h
  | 6, _ => exact jl_50 h
  | 7, _ => exact jl_51 h
  | k + 8, hl => omega
theorem jl_od {lay : jj_Lay} (h : jj_pp lay) : ∀ l, l < 8 → lay[62 + l]? = some (20, 10, []) := fun l hl => by
  match l, hl with
  | 0, _ => exact jl_62 h
  | 1, _ => exact jl_63 h
  | 2, _ => exact jl_64 h
  | 3, _ => exact jl_65 h
  | 4, _ => exact jl_66 h
  | 5, _ => exact jl_67 h
  | 6, _ => exact jl_68 h
  | 7, _ => exact jl_69 h
  | k + 8, hl => omega
theorem jl_cl {lay : jj_Lay} (h : jj_pp lay) : ∀ l, l < 10 → lay[10 + l]? = some (20, 5, []) := fun l hl => by
  match l, hl with
  | 0, _ => exact jl_10 h
  | 1, _ => exact jl_11 h
  | 2, _ => exact jl_12 h
  | 3, _ => exact jl_13 h
  | 4, _ => exact jl_14 h
  | 5, _ => exact jl_15 h
  | 6, _ => exact jl_16 h
  | 7, _ => exact jl_17 h
  | 8, _ => exact jl_18 h
  | 9, _ => exact jl_19 h
  | k + 10, hl => omega
theorem jr_im : ∀ l, l < 8 → ([some (some 53), some (some 54), some (some 55), some (some 56), some (some 57), some (some 58), some (some 59), some (some 60)] : List (Option (Option Nat)))[l]? = some (some (some (53 + l))) := fun l hl => by
  match l, hl with
  | 0, _ => rfl
  | 1, _ => rfl
  | 2, _ => rfl
  | 3, _ => rfl
  | 4, _ => rfl
  | 5, _ => rfl
  | 6, _ => rfl
  | 7, _ => rfl
  | k + 8, hl => omega
theorem jr_ev : ∀ l, l < 8 → ([some (some 44), some (some 45), some (some 46), some (some 47), some (some 48), some (some 49), some (some 50), some (some 51)] : List (Option (Option Nat)))[l]? = some (some (some (44 + l))) := fun l hl => by
  match l, hl with
  | 0, _ => rfl
  | 1, _ => rfl
  | 2, _ => rfl
  | 3, _ => rfl
  | 4, _ => rfl
  | 5, _ => rfl
  | 6, _ => rfl
  | 7, _ => rfl
  | k + 8, hl => omega
theorem jr_od : ∀ l, l < 8 → ([some (some 62), some (some 63), some (some 64), some (some 65), some (some 66), some (some 67), some (some 68), some (some 69)] : List (Option (Option Nat)))[l]? = some (some (some (62 + l))) := fun l hl => by
  match l, hl with
  | 0, _ => rfl
  | 1, _ => rfl
  | 2, _ => rfl
  | 3, _ => rfl
  | 4, _ => rfl
  | 5, _ => rfl
  | 6, _ => rfl
  | 7, _ => rfl
  | k + 8, hl => omega
theorem jr_cl : ∀ l, l < 10 → ([some (some 10), some (some 11), some (some 12), some (some 13), some (some 14), some (some 15), some (some 16), some (some 17), some (some 18), some (some 19)] : List (Option (Option Nat)))[l]? = some (some (some (10 + l))) := fun l hl => by
  match l, hl with
  | 0, _ => rfl
  | 1, _ => rfl
  | 2, _ => rfl
  | 3, _ => rfl
  | 4, _ => rfl
  | 5, _ => rfl
  | 6, _ => rfl
  | 7, _ => rfl
  | 8, _ => rfl
  | 9, _ => rfl
  | k + 10, hl => omega
set_option maxRecDepth 100000 in
set_option maxHeartbeats 4000000 in
theorem ct_X0_feeOf {lay : jj_Lay} {S : jj_Mem} {l v : Nat} (hB : jj_pp lay) (hl : l < 8) (hv : v < 3) (hS : S 22 l = some (nI v)) : jj_CT yX0_feeOf (.code yX0_feeOf cX0_feeOf 2 (some .int)) none 0 0 [.ref 20, .int (nI l)] lay S (some (.int (nI (jj_fee v)))) lay S := by
  refine jj_mkI RX0 .int (by decide) rfl (L := [some (.ref 20), some (.int (nI l))]) rfl rfl rfl ?_
  rcases (show v = 0 ∨ v = 1 ∨ v = 2 by omega) with rfl | rfl | rfl
  · refine ⟨35, [some (.ref 20), some (.int (nI l))], dX0_feeOf_35, ?_⟩
    refine js_aload_n 0 rfl dX0_feeOf_0 rfl ?_
    refine js_getr 2 jw_f_RX0_19 (jl_20 hB) rfl (Nat.le_of_ble_eq_true rfl) rfl dX0_feeOf_1 ?_
    refine js_iload_n 1 rfl dX0_feeOf_4 rfl ?_
    refine js_iald l rfl (jl_22 hB) (by omega) (by decide) (hS) dX0_feeOf_5 ?_
    refine js_lookup 32 dX0_feeOf_6 (by decide) (off := 26) (by decide) (by decide) ?_
    refine js_sipush (v := nI 200) dX0_feeOf_32 (by decide) ?_
    exact jj_refl
  · refine ⟨39, [some (.ref 20), some (.int (nI l))], dX0_feeOf_39, ?_⟩
    refine js_aload_n 0 rfl dX0_feeOf_0 rfl ?_
    refine js_getr 2 jw_f_RX0_19 (jl_20 hB) rfl (Nat.le_of_ble_eq_true rfl) rfl dX0_feeOf_1 ?_
    refine js_iload_n 1 rfl dX0_feeOf_4 rfl ?_
    refine js_iald l rfl (jl_22 hB) (by omega) (by decide) (hS) dX0_feeOf_5 ?_
    refine js_lookup 36 dX0_feeOf_6 (by decide) (off := 30) (by decide) (by decide) ?_
    refine js_sipush (v := nI 1000) dX0_feeOf_36 (by decide) ?_
    exact jj_refl
  · refine ⟨43, [some (.ref 20), some (.int (nI l))], dX0_feeOf_43, ?_⟩
    refine js_aload_n 0 rfl dX0_feeOf_0 rfl ?_
    refine js_getr 2 jw_f_RX0_19 (jl_20 hB) rfl (Nat.le_of_ble_eq_true rfl) rfl dX0_feeOf_1 ?_
    refine js_iload_n 1 rfl dX0_feeOf_4 rfl ?_
    refine js_iald l rfl (jl_22 hB) (by omega) (by decide) (hS) dX0_feeOf_5 ?_
    refine js_lookup 40 dX0_feeOf_6 (by decide) (off := 34) (by decide) (by decide) ?_
    refine js_sipush (v := nI 500) dX0_feeOf_40 (by decide) ?_
    exact jj_refl
set_option maxRecDepth 100000 in
set_option maxHeartbeats 4000000 in
theorem ct_X0_poolPartOf {lay : jj_Lay} {S : jj_Mem} {l v : Nat} (hB : jj_pp lay) (hl : l < 8) (hv : v < 3) (hS : S 22 l = some (nI v)) : jj_CT yX0_poolPartOf (.code yX0_poolPartOf cX0_poolPartOf 2 (some .int)) none 1 21 [.ref 20, .int (nI l)] lay S (some (.int (nI (jj_pool v)))) lay S := by
  refine jj_mkI RX0 .int (by decide) rfl (L := [some (.ref 20), some (.int (nI l))]) rfl rfl rfl ⟨11, [some (.ref 20), some (.int (nI l))], dX0_poolPartOf_11, ?_⟩
  refine js_aload_n 0 rfl dX0_poolPartOf_0 rfl ?_
  refine js_iload_n 1 rfl dX0_poolPartOf_1 rfl ?_
  refine js_callV (av := [.int (nI l)]) (st := []) (b := 20) (ct_X0_feeOf hB hl hv hS) (Or.inl rfl) jw_c_X0_feeOf jw_i_RX0 jw_m_RX0_43 jw_s_X0_feeOf jw_e_X0_feeOf (jl_20 hB) rfl jw_y_X0_feeOf rfl ⟨(Nat.le_of_ble_eq_true rfl), (Nat.le_of_ble_eq_true rfl), (Nat.le_refl _), (Nat.le_refl _), (Nat.le_of_ble_eq_true rfl)⟩ dX0_poolPartOf_2 ?_
  refine js_st (st' := [.int (nI (jj_fee v))]) rfl ?_
  have hfe := jj_fee_le v
  refine js_bipush (v := nI 7) dX0_poolPartOf_5 (by decide) ?_
  refine jn_imul dX0_poolPartOf_7 ?_
  refine js_bipush (v := nI 10) dX0_poolPartOf_8 (by decide) ?_
  refine jn_idiv (by omega) (by omega) (by omega) dX0_poolPartOf_10 ?_
  exact jj_refl
set_option maxRecDepth 100000 in
set_option maxHeartbeats 4000000 in
theorem lp_X0_takeFees {lay : jj_Lay} {S : jj_Mem} (hB : jj_pp lay) {cnt : Nat} {ld pl : Nat → Nat} (hau : jj_au S cnt ld pl) {pe : Nat → Nat} (hpe : ∀ j, j < cnt → S 24 j = some (nI (pe j))) : ∀ (k e : Nat), e + k = cnt → jj_RR cX0_takeFees 2 RX0 yX0_takeFees.name none 1 21 lay.length (jj_sl lay) (2, [some (.ref 20), some (.int (nI e))], [], lay, (jj_row S 24 e (fun j => pe j + jj_fee (pl j)))) none .return_ lay (jj_row S 24 cnt (fun j => pe j + jj_fee (pl j))) := by
  intro k
  induction k with
  | zero =>
    intro e he
    refine ⟨30, [some (.ref 20), some (.int (nI e))], dX0_takeFees_30, ?_⟩
    have he : e = cnt := by omega
    subst he
    have hc8 := hau.1
    refine js_iload_n 1 rfl dX0_takeFees_2 rfl ?_
    refine js_aload_n 0 rfl dX0_takeFees_3 rfl ?_
    refine js_geti 0 jw_f_RX0_9 (jl_20 hB) rfl (Nat.le_of_ble_eq_true rfl) rfl ((jj_row_neP (by decide)).trans hau.2.1) dX0_takeFees_4 ?_
    refine jn_icmp_ge 30 (by omega) (by omega) dX0_takeFees_7 (by decide) (fun _ => ?_) (fun h9 => absurd h9 (by omega))
    exact jj_refl
  | succ k ih =>
    intro e he
    refine jj_RRs ?_ (ih (e + 1) (by omega))
    have hc8 := hau.1
    refine js_iload_n 1 rfl dX0_takeFees_2 rfl ?_
    refine js_aload_n 0 rfl dX0_takeFees_3 rfl ?_
    refine js_geti 0 jw_f_RX0_9 (jl_20 hB) rfl (Nat.le_of_ble_eq_true rfl) rfl ((jj_row_neP (by decide)).trans hau.2.1) dX0_takeFees_4 ?_
    refine jn_icmp_ge 30 (by omega) (by omega) dX0_takeFees_7 (by decide) (fun h9 => absurd h9 (by omega)) (fun _ => ?_)
    refine js_aload_n 0 rfl dX0_takeFees_10 rfl ?_
    refine js_getr 4 jw_f_RX0_26 (jl_20 hB) rfl (Nat.le_of_ble_eq_true rfl) rfl dX0_takeFees_11 ?_
    refine js_iload_n 1 rfl dX0_takeFees_14 rfl ?_
    refine js_dup2 rfl rfl dX0_takeFees_15 ?_
    refine js_iald e rfl (jl_24 hB) (by omega) (by decide) ((jj_row_hi (Nat.le_refl _)).trans (hpe e (by omega))) dX0_takeFees_16 ?_
    refine js_aload_n 0 rfl dX0_takeFees_17 rfl ?_
    refine js_iload_n 1 rfl dX0_takeFees_18 rfl ?_
    refine js_callV (av := [.int (nI e)]) (st := [.int (nI (pe e)), .int (nI e), .ref 24]) (b := 20) (ct_X0_feeOf hB (by omega) (hau.2.2.2 e (by omega)).2 ((jj_row_neP (by decide)).trans (hau.2.2.2 e (by omega)).1)) (Or.inl rfl) jw_c_X0_feeOf jw_i_RX0 jw_m_RX0_43 jw_s_X0_feeOf jw_e_X0_feeOf (jl_20 hB) rfl jw_y_X0_feeOf rfl ⟨(Nat.le_of_ble_eq_true rfl), (Nat.le_of_ble_eq_true rfl), (Nat.le_refl _), (Nat.le_refl _), (Nat.le_of_ble_eq_true rfl)⟩ dX0_takeFees_19 ?_
    refine js_st (st' := [.int (nI (jj_fee (pl e))), .int (nI (pe e)), .int (nI e), .ref 24]) rfl ?_
    refine jn_iadd dX0_takeFees_22 ?_
    refine js_iast e rfl (jl_24 hB) (by omega) (by decide) dX0_takeFees_23 ?_
    rw [jj_row_s S 24 e (fun j => pe j + jj_fee (pl j)) rfl]
    refine js_iinc (v := nI (e + 1)) (L' := [some (.ref 20), some (.int (nI (e + 1)))]) dX0_takeFees_24 rfl (jj_inc _) rfl ?_
    refine js_goto 2 dX0_takeFees_27 (by decide) ?_
    exact jj_refl
set_option maxRecDepth 100000 in
set_option maxHeartbeats 4000000 in
theorem ct_X0_takeFees {lay : jj_Lay} {S : jj_Mem} (hB : jj_pp lay) {cnt : Nat} {ld pl : Nat → Nat} (hau : jj_au S cnt ld pl) {pe : Nat → Nat} (hpe : ∀ j, j < cnt → S 24 j = some (nI (pe j))) : jj_CT yX0_takeFees (.code yX0_takeFees cX0_takeFees 2 none) none 1 21 [.ref 20] lay S none lay (jj_row S 24 cnt (fun j => pe j + jj_fee (pl j))) := by
  refine jj_mkV RX0 (by decide) rfl (L := [some (.ref 20), none]) rfl rfl ?_
  have h0 := lp_X0_takeFees (S := S) hB hau hpe cnt 0 (by omega)
  rw [jj_row_0] at h0
  refine jj_RRs ?_ h0
  refine js_iconst (v := nI 0) dX0_takeFees_0 (by decide) ?_
  refine js_istore_n (L' := [some (.ref 20), some (.int (nI 0))]) 1 rfl dX0_takeFees_1 rfl (Nat.le_of_ble_eq_true rfl) ?_
  exact jj_refl
theorem jj_w_w (S : jj_Mem) (p i : Nat) (x y : Int32) : jj_w (jj_w S p i x) p i y = jj_w S p i y := by
  funext q j
  unfold jj_w
  by_cases c : q = p ∧ j = i
  · rw [if_pos c, if_pos c]
  · rw [if_neg c, if_neg c, if_neg c]
theorem jj_w_self {S : jj_Mem} {p i : Nat} {x : Int32} (h : S p i = some x) : jj_w S p i x = S := by
  funext q j
  unfold jj_w
  by_cases c : q = p ∧ j = i
  · rw [if_pos c, c.1, c.2, h]
  · rw [if_neg c]
set_option maxRecDepth 100000 in
set_option maxHeartbeats 4000000 in
theorem lp_X1_takeHouseParts {lay : jj_Lay} {S : jj_Mem} (hB : jj_pp lay) {cnt : Nat} {ld pl : Nat → Nat} (hau : jj_au S cnt ld pl) {b h : Nat} (hK : jj_bk lay b) : ∀ (k e : Nat), e + k = cnt → jj_RR cX1_takeHouseParts 3 RX1 yX1_takeHouseParts.name none 2 42 lay.length (jj_sl lay) (2, [some (.ref b), some (.ref 20), some (.int (nI e))], [], lay, (jj_w S b 0 (nI (h + (jj_sm (fun l => jj_fee (pl l) - jj_pool (pl l)) e))))) none .return_ lay (jj_w S b 0 (nI (h + (jj_sm (fun l => jj_fee (pl l) - jj_pool (pl l)) cnt)))) := by
  intro k
  induction k with
  | zero =>
    intro e he
    refine ⟨36, [some (.ref b), some (.ref 20), some (.int (nI e))], dX1_takeHouseParts_36, ?_⟩
    have he : e = cnt := by omega
    subst he
    have hc8 := hau.1
    have hb := jk_b hK
    refine js_iload_n 2 rfl dX1_takeHouseParts_2 rfl ?_
    refine js_aload_n 1 rfl dX1_takeHouseParts_3 rfl ?_
    refine js_getNi 0 jw_n_RX1_89 (jl_20 hB) rfl (Nat.le_of_ble_eq_true rfl) rfl ((jj_w_neP (by omega)).trans hau.2.1) dX1_takeHouseParts_4 ?_
    refine jn_icmp_ge 36 (by omega) (by omega) dX1_takeHouseParts_7 (by decide) (fun _ => ?_) (fun h9 => absurd h9 (by omega))
    exact jj_refl
  | succ k ih =>
    intro e he
    refine jj_RRs ?_ (ih (e + 1) (by omega))
    have hc8 := hau.1
    have hb := jk_b hK
    refine js_iload_n 2 rfl dX1_takeHouseParts_2 rfl ?_
    refine js_aload_n 1 rfl dX1_takeHouseParts_3 rfl ?_
    refine js_getNi 0 jw_n_RX1_89 (jl_20 hB) rfl (Nat.le_of_ble_eq_true rfl) rfl ((jj_w_neP (by omega)).trans hau.2.1) dX1_takeHouseParts_4 ?_
    refine jn_icmp_ge 36 (by omega) (by omega) dX1_takeHouseParts_7 (by decide) (fun h9 => absurd h9 (by omega)) (fun _ => ?_)
    refine js_aload_n 0 rfl dX1_takeHouseParts_10 rfl ?_
    refine js_dup rfl dX1_takeHouseParts_11 ?_
    refine js_geti 0 jw_f_RX1_9 (jk_0 hK) rfl (Nat.le_of_ble_eq_true rfl) rfl (jj_w_at _ _ _ _) dX1_takeHouseParts_12 ?_
    refine js_aload_n 1 rfl dX1_takeHouseParts_15 rfl ?_
    refine js_iload_n 2 rfl dX1_takeHouseParts_16 rfl ?_
    refine js_callVN (av := [.int (nI e)]) (st := [.int (nI (h + (jj_sm (fun l => jj_fee (pl l) - jj_pool (pl l)) e))), .ref b]) (b := 20) (ct_X0_feeOf hB (by omega) (hau.2.2.2 e (by omega)).2 ((jj_w_neP (by omega)).trans (hau.2.2.2 e (by omega)).1)) (Or.inl rfl) jw_c_X0_feeOf jw_i_RX0 jw_h_RX1_94 jw_s_X0_feeOf jw_e_X0_feeOf (jl_20 hB) rfl jw_y_X0_feeOf rfl ⟨(Nat.le_of_ble_eq_true rfl), (Nat.le_of_ble_eq_true rfl), (Nat.le_refl _), (Nat.le_refl _), (Nat.le_of_ble_eq_true rfl)⟩ dX1_takeHouseParts_17 ?_
    refine js_st (st' := [.int (nI (jj_fee (pl e))), .int (nI (h + (jj_sm (fun l => jj_fee (pl l) - jj_pool (pl l)) e))), .ref b]) rfl ?_
    refine js_aload_n 1 rfl dX1_takeHouseParts_20 rfl ?_
    refine js_iload_n 2 rfl dX1_takeHouseParts_21 rfl ?_
    refine js_callVN (av := [.int (nI e)]) (st := [.int (nI (jj_fee (pl e))), .int (nI (h + (jj_sm (fun l => jj_fee (pl l) - jj_pool (pl l)) e))), .ref b]) (b := 20) (ct_X0_poolPartOf hB (by omega) (hau.2.2.2 e (by omega)).2 ((jj_w_neP (by omega)).trans (hau.2.2.2 e (by omega)).1)) (Or.inl rfl) jw_c_X0_poolPartOf jw_i_RX0 jw_h_RX1_98 jw_s_X0_poolPartOf jw_e_X0_poolPartOf (jl_20 hB) rfl jw_y_X0_poolPartOf rfl ⟨(Nat.le_of_ble_eq_true rfl), (Nat.le_of_ble_eq_true rfl), (Nat.le_refl _), (Nat.le_refl _), (Nat.le_of_ble_eq_true rfl)⟩ dX1_takeHouseParts_22 ?_
    refine js_st (st' := [.int (nI (jj_pool (pl e))), .int (nI (jj_fee (pl e))), .int (nI (h + (jj_sm (fun l => jj_fee (pl l) - jj_pool (pl l)) e))), .ref b]) rfl ?_
    refine jn_isub (jj_pool_le _) dX1_takeHouseParts_25 ?_
    refine jn_iadd dX1_takeHouseParts_26 ?_
    refine js_put 0 jw_f_RX1_9 (jk_0 hK) rfl (Nat.le_of_ble_eq_true rfl) rfl rfl (by decide +kernel) dX1_takeHouseParts_27 ?_
    have h7 : h + (jj_sm (fun l => jj_fee (pl l) - jj_pool (pl l)) e) + (jj_fee (pl e) - jj_pool (pl e)) = h + (jj_sm (fun l => jj_fee (pl l) - jj_pool (pl l)) (e + 1)) := Nat.add_assoc _ _ _
    rw [jj_w_w, h7]
    refine js_iinc (v := nI (e + 1)) (L' := [some (.ref b), some (.ref 20), some (.int (nI (e + 1)))]) dX1_takeHouseParts_30 rfl (jj_inc _) rfl ?_
    refine js_goto 2 dX1_takeHouseParts_33 (by decide) ?_
    exact jj_refl
set_option maxRecDepth 100000 in
set_option maxHeartbeats 4000000 in
theorem ct_X1_takeHouseParts {lay : jj_Lay} {S : jj_Mem} (hB : jj_pp lay) {cnt : Nat} {ld pl : Nat → Nat} (hau : jj_au S cnt ld pl) {b h : Nat} (hK : jj_bk lay b) (hh : S b 0 = some (nI h)) : jj_CT yX1_takeHouseParts (.code yX1_takeHouseParts cX1_takeHouseParts 3 none) none 2 42 [.ref b, .ref 20] lay S none lay (jj_w S b 0 (nI (h + (jj_sm (fun l => jj_fee (pl l) - jj_pool (pl l)) cnt)))) := by
  refine jj_mkV RX1 (by decide) rfl (L := [some (.ref b), some (.ref 20), none]) rfl rfl ?_
  have h0 := lp_X1_takeHouseParts (S := S) (h := h) hB hau hK cnt 0 (by omega)
  rw [show h + jj_sm (fun l => jj_fee (pl l) - jj_pool (pl l)) 0 = h from rfl, jj_w_self hh] at h0
  refine jj_RRs ?_ h0
  refine js_iconst (v := nI 0) dX1_takeHouseParts_0 (by decide) ?_
  refine js_istore_n (L' := [some (.ref b), some (.ref 20), some (.int (nI 0))]) 2 rfl dX1_takeHouseParts_1 rfl (Nat.le_of_ble_eq_true rfl) ?_
  exact jj_refl
def jj_wg (ld : Nat → Nat) (im : Nat → Nat → Nat) (land cnt j : Nat) : Nat := jj_sm (fun l => if ld l = land then im l j else 0) cnt
set_option maxRecDepth 100000 in
set_option maxHeartbeats 4000000 in
theorem lp_X1_weighLand {lay : jj_Lay} {S : jj_Mem} (hB : jj_pp lay) {cnt : Nat} {ld pl : Nat → Nat} (hau : jj_au S cnt ld pl) {b land : Nat} {im : Nat → Nat → Nat} (hK : jj_bk lay b) (hla : land < 4) (him : jj_im S cnt im) : ∀ (k e : Nat), e + k = cnt → jj_RR cX1_weighLand 5 RX1 yX1_weighLand.name none 1 23 lay.length (jj_sl lay) (11, [some (.ref b), some (.int (nI land)), some (.ref 20), some (.ref 42), some (.int (nI e))], [], lay, (jj_row S (b + 9) 10 (jj_wg ld im land e))) none .return_ lay (jj_row S (b + 9) 10 (jj_wg ld im land cnt)) := by
  intro k
  induction k with
  | zero =>
    intro e he
    refine ⟨52, [some (.ref b), some (.int (nI land)), some (.ref 20), some (.ref 42), some (.int (nI e))], dX1_weighLand_52, ?_⟩
    have he : e = cnt := by omega
    subst he
    have hc8 := hau.1
    have hb := jk_b hK
    refine js_iload dX1_weighLand_11 rfl ?_
    refine js_aload_n 2 rfl dX1_weighLand_13 rfl ?_
    refine js_getNi 0 jw_n_RX1_89 (jl_20 hB) rfl (Nat.le_of_ble_eq_true rfl) rfl ((jj_row_neP (by omega)).trans hau.2.1) dX1_weighLand_14 ?_
    refine jn_icmp_ge 52 (by omega) (by omega) dX1_weighLand_17 (by decide) (fun _ => ?_) (fun h9 => absurd h9 (by omega))
    exact jj_refl
  | succ k ih =>
    intro e he
    refine jj_RRs ?_ (ih (e + 1) (by omega))
    have hc8 := hau.1
    have hb := jk_b hK
    refine js_iload dX1_weighLand_11 rfl ?_
    refine js_aload_n 2 rfl dX1_weighLand_13 rfl ?_
    refine js_getNi 0 jw_n_RX1_89 (jl_20 hB) rfl (Nat.le_of_ble_eq_true rfl) rfl ((jj_row_neP (by omega)).trans hau.2.1) dX1_weighLand_14 ?_
    refine jn_icmp_ge 52 (by omega) (by omega) dX1_weighLand_17 (by decide) (fun h9 => absurd h9 (by omega)) (fun _ => ?_)
    have hl1 := (hau.2.2.1 e (by omega)).2
    refine js_aload_n 2 rfl dX1_weighLand_20 rfl ?_
    refine js_getNr 1 jw_n_RX1_101 (jl_20 hB) rfl (Nat.le_of_ble_eq_true rfl) rfl dX1_weighLand_21 ?_
    refine js_iload dX1_weighLand_24 rfl ?_
    refine js_iald e rfl (jl_21 hB) (by omega) (by decide) ((jj_row_neP (by omega)).trans (hau.2.2.1 e (by omega)).1) dX1_weighLand_26 ?_
    refine js_iload_n 1 rfl dX1_weighLand_27 rfl ?_
    refine jn_icmp_ne 46 (by omega) (by omega) dX1_weighLand_28 (by decide) (fun h5 => ?_) (fun h5 => ?_)
    · have h7 : jj_wg ld im land (e + 1) = jj_wg ld im land e := funext fun j => by unfold jj_wg; show jj_sm _ e + (if ld e = land then im e j else 0) = _; rw [if_neg (by omega), Nat.add_zero]
      rw [h7]
      refine js_iinc (v := nI (e + 1)) (L' := [some (.ref b), some (.int (nI land)), some (.ref 20), some (.ref 42), some (.int (nI (e + 1)))]) dX1_weighLand_46 rfl (jj_inc _) rfl ?_
      refine js_goto 11 dX1_weighLand_49 (by decide) ?_
      exact jj_refl
    · refine js_aload_n 0 rfl dX1_weighLand_31 rfl ?_
      refine js_getr 10 jw_f_RX1_43 (jk_0 hK) rfl (Nat.le_of_ble_eq_true rfl) rfl dX1_weighLand_32 ?_
      refine js_aload_n 3 rfl dX1_weighLand_35 rfl ?_
      refine js_getNr 1 jw_n_RX1_104 (jl_42 hB) rfl (Nat.le_of_ble_eq_true rfl) rfl dX1_weighLand_36 ?_
      refine js_iload dX1_weighLand_39 rfl ?_
      refine js_aald e rfl (jl_52 hB) (by omega) (by decide) (jr_im e (by omega)) dX1_weighLand_41 ?_
      refine js_iconst (v := nI 1) dX1_weighLand_42 (by decide) ?_
      refine js_callSN (av := [.ref (b + 9), .ref (53 + e), .int (nI 1)]) (st := []) (ct_X6_addTimes (c := 1) (jk_9 hK) (jl_im hB e (by omega)) (by omega) (by omega) (fun j hj => jj_row_at hj) (fun j hj => (jj_row_neP (by omega)).trans (him e (by omega) j hj))) (Or.inl rfl) jw_c_X6_addTimes jw_i_RX6 jw_h_RX1_110 jw_s_X6_addTimes jw_y_X6_addTimes rfl ⟨(Nat.le_of_ble_eq_true rfl), (Nat.le_of_ble_eq_true rfl), (Nat.le_refl _), (Nat.le_refl _), (Nat.le_of_ble_eq_true rfl)⟩ dX1_weighLand_43 ?_
      refine js_st (st' := []) rfl ?_
      have h7 : (fun j => jj_wg ld im land e j + im e j * 1) = jj_wg ld im land (e + 1) := funext fun j => by show _ = jj_sm _ e + (if ld e = land then im e j else 0); rw [if_pos (by omega), Nat.mul_one]; rfl
      rw [jj_row_row, h7]
      refine js_iinc (v := nI (e + 1)) (L' := [some (.ref b), some (.int (nI land)), some (.ref 20), some (.ref 42), some (.int (nI (e + 1)))]) dX1_weighLand_46 rfl (jj_inc _) rfl ?_
      refine js_goto 11 dX1_weighLand_49 (by decide) ?_
      exact jj_refl
set_option maxRecDepth 100000 in
set_option maxHeartbeats 4000000 in
theorem ct_X1_weighLand {lay : jj_Lay} {S : jj_Mem} (hB : jj_pp lay) {cnt : Nat} {ld pl : Nat → Nat} (hau : jj_au S cnt ld pl) {b land : Nat} {im : Nat → Nat → Nat} (hK : jj_bk lay b) (hla : land < 4) (him : jj_im S cnt im) : jj_CT yX1_weighLand (.code yX1_weighLand cX1_weighLand 5 none) none 1 23 [.ref b, .int (nI land), .ref 20, .ref 42] lay S none lay (jj_row S (b + 9) 10 (jj_wg ld im land cnt)) := by
  refine jj_mkV RX1 (by decide) rfl (L := [some (.ref b), some (.int (nI land)), some (.ref 20), some (.ref 42), none]) rfl rfl ?_
  have h0 := lp_X1_weighLand (S := S) (land := land) hB hau hK hla him cnt 0 (by omega)
  refine jj_RRs ?_ h0
  refine js_aload_n 0 rfl dX1_weighLand_0 rfl ?_
  refine js_getr 10 jw_f_RX1_43 (jk_0 hK) rfl (Nat.le_of_ble_eq_true rfl) rfl dX1_weighLand_1 ?_
  refine js_iconst (v := nI 0) dX1_weighLand_4 (by decide) ?_
  refine js_callS (av := [.ref (b + 9), .int (nI 0)]) (st := []) (ct_J7_fill_53178 (c := 0) (jk_9 hK) (by omega)) (Or.inl rfl) jw_c_J7_fill_53178 jw_i_RJ7 jw_m_RX1_53 jw_s_J7_fill_53178 jw_y_J7_fill_53178 rfl ⟨(Nat.le_of_ble_eq_true rfl), (Nat.le_of_ble_eq_true rfl), (Nat.le_refl _), (Nat.le_refl _), (Nat.le_of_ble_eq_true rfl)⟩ dX1_weighLand_5 ?_
  refine js_st (st' := []) rfl ?_
  refine js_iconst (v := nI 0) dX1_weighLand_8 (by decide) ?_
  refine js_istore (L' := [some (.ref b), some (.int (nI land)), some (.ref 20), some (.ref 42), some (.int (nI 0))]) dX1_weighLand_9 rfl (Nat.le_of_ble_eq_true rfl) ?_
  exact jj_refl
def jj_po (ld pl : Nat → Nat) (land cnt : Nat) : Nat := jj_sm (fun l => if ld l = land then jj_pool (pl l) else 0) cnt
set_option maxRecDepth 100000 in
set_option maxHeartbeats 4000000 in
theorem lp_X1_poolOf {lay : jj_Lay} {S : jj_Mem} (hB : jj_pp lay) {cnt : Nat} {ld pl : Nat → Nat} (hau : jj_au S cnt ld pl) {b land : Nat} (hla : land < 4) : ∀ (k e : Nat), e + k = cnt → jj_RR cX1_poolOf 5 RX1 yX1_poolOf.name none 2 42 lay.length (jj_sl lay) (5, [some (.ref b), some (.int (nI land)), some (.ref 20), some (.int (nI (jj_po ld pl land e))), some (.int (nI e))], [], lay, S) (some (.int (nI (jj_po ld pl land cnt)))) .ireturn lay S := by
  intro k
  induction k with
  | zero =>
    intro e he
    refine ⟨41, [some (.ref b), some (.int (nI land)), some (.ref 20), some (.int (nI (jj_po ld pl land e))), some (.int (nI e))], dX1_poolOf_41, ?_⟩
    have he : e = cnt := by omega
    subst he
    have hc8 := hau.1
    refine js_iload dX1_poolOf_5 rfl ?_
    refine js_aload_n 2 rfl dX1_poolOf_7 rfl ?_
    refine js_getNi 0 jw_n_RX1_89 (jl_20 hB) rfl (Nat.le_of_ble_eq_true rfl) rfl (hau.2.1) dX1_poolOf_8 ?_
    refine jn_icmp_ge 40 (by omega) (by omega) dX1_poolOf_11 (by decide) (fun _ => ?_) (fun h9 => absurd h9 (by omega))
    refine js_iload_n 3 rfl dX1_poolOf_40 rfl ?_
    exact jj_refl
  | succ k ih =>
    intro e he
    refine jj_RRs ?_ (ih (e + 1) (by omega))
    have hc8 := hau.1
    have hl1 := (hau.2.2.1 e (by omega)).2
    refine js_iload dX1_poolOf_5 rfl ?_
    refine js_aload_n 2 rfl dX1_poolOf_7 rfl ?_
    refine js_getNi 0 jw_n_RX1_89 (jl_20 hB) rfl (Nat.le_of_ble_eq_true rfl) rfl (hau.2.1) dX1_poolOf_8 ?_
    refine jn_icmp_ge 40 (by omega) (by omega) dX1_poolOf_11 (by decide) (fun h9 => absurd h9 (by omega)) (fun _ => ?_)
    refine js_aload_n 2 rfl dX1_poolOf_14 rfl ?_
    refine js_getNr 1 jw_n_RX1_101 (jl_20 hB) rfl (Nat.le_of_ble_eq_true rfl) rfl dX1_poolOf_15 ?_
    refine js_iload dX1_poolOf_18 rfl ?_
    refine js_iald e rfl (jl_21 hB) (by omega) (by decide) ((hau.2.2.1 e (by omega)).1) dX1_poolOf_20 ?_
    refine js_iload_n 1 rfl dX1_poolOf_21 rfl ?_
    refine jn_icmp_ne 34 (by omega) (by omega) dX1_poolOf_22 (by decide) (fun h5 => ?_) (fun h5 => ?_)
    · have h7 : jj_po ld pl land (e + 1) = jj_po ld pl land e := by unfold jj_po; show jj_sm _ e + (if ld e = land then jj_pool (pl e) else 0) = _; rw [if_neg (by omega), Nat.add_zero]
      rw [h7]
      refine js_iinc (v := nI (e + 1)) (L' := [some (.ref b), some (.int (nI land)), some (.ref 20), some (.int (nI (jj_po ld pl land e))), some (.int (nI (e + 1)))]) dX1_poolOf_34 rfl (jj_inc _) rfl ?_
      refine js_goto 5 dX1_poolOf_37 (by decide) ?_
      exact jj_refl
    · have h7 : jj_po ld pl land (e + 1) = jj_po ld pl land e + jj_pool (pl e) := by show jj_sm _ e + (if ld e = land then jj_pool (pl e) else 0) = _; rw [if_pos (by omega)]; rfl
      rw [h7]
      refine js_iload_n 3 rfl dX1_poolOf_25 rfl ?_
      refine js_aload_n 2 rfl dX1_poolOf_26 rfl ?_
      refine js_iload dX1_poolOf_27 rfl ?_
      refine js_callVN (av := [.int (nI e)]) (st := [.int (nI (jj_po ld pl land e))]) (b := 20) (ct_X0_poolPartOf hB (by omega) (hau.2.2.2 e (by omega)).2 (hau.2.2.2 e (by omega)).1) (Or.inl rfl) jw_c_X0_poolPartOf jw_i_RX0 jw_h_RX1_98 jw_s_X0_poolPartOf jw_e_X0_poolPartOf (jl_20 hB) rfl jw_y_X0_poolPartOf rfl ⟨(Nat.le_of_ble_eq_true rfl), (Nat.le_of_ble_eq_true rfl), (Nat.le_refl _), (Nat.le_refl _), (Nat.le_of_ble_eq_true rfl)⟩ dX1_poolOf_29 ?_
      refine js_st (st' := [.int (nI (jj_pool (pl e))), .int (nI (jj_po ld pl land e))]) rfl ?_
      refine jn_iadd dX1_poolOf_32 ?_
      refine js_istore_n (L' := [some (.ref b), some (.int (nI land)), some (.ref 20), some (.int (nI (((jj_po ld pl land e)) + ((jj_pool (pl e)))))), some (.int (nI e))]) 3 rfl dX1_poolOf_33 rfl (Nat.le_of_ble_eq_true rfl) ?_
      refine js_iinc (v := nI (e + 1)) (L' := [some (.ref b), some (.int (nI land)), some (.ref 20), some (.int (nI (((jj_po ld pl land e)) + ((jj_pool (pl e)))))), some (.int (nI (e + 1)))]) dX1_poolOf_34 rfl (jj_inc _) rfl ?_
      refine js_goto 5 dX1_poolOf_37 (by decide) ?_
      exact jj_refl
set_option maxRecDepth 100000 in
set_option maxHeartbeats 4000000 in
theorem ct_X1_poolOf {lay : jj_Lay} {S : jj_Mem} (hB : jj_pp lay) {cnt : Nat} {ld pl : Nat → Nat} (hau : jj_au S cnt ld pl) {b land : Nat} (hla : land < 4) : jj_CT yX1_poolOf (.code yX1_poolOf cX1_poolOf 5 (some .int)) none 2 42 [.ref b, .int (nI land), .ref 20] lay S (some (.int (nI (jj_po ld pl land cnt)))) lay S := by
  refine jj_mkI RX1 .int (by decide) rfl (L := [some (.ref b), some (.int (nI land)), some (.ref 20), none, none]) rfl rfl rfl ?_
  refine jj_RRs ?_ (lp_X1_poolOf (b := b) hB hau hla cnt 0 (by omega))
  refine js_iconst (v := nI 0) dX1_poolOf_0 (by decide) ?_
  refine js_istore_n (L' := [some (.ref b), some (.int (nI land)), some (.ref 20), some (.int (nI 0)), none]) 3 rfl dX1_poolOf_1 rfl (Nat.le_of_ble_eq_true rfl) ?_
  refine js_iconst (v := nI 0) dX1_poolOf_2 (by decide) ?_
  refine js_istore (L' := [some (.ref b), some (.int (nI land)), some (.ref 20), some (.int (nI 0)), some (.int (nI 0))]) dX1_poolOf_3 rfl (Nat.le_of_ble_eq_true rfl) ?_
  exact jj_refl

/-! THE LAW'S SMALL METHODS: below, cell, write, hear. -/
theorem jj_mask (x : Int32) : ∃ j : Nat, j < 2 ^ 31 ∧ x &&& 2147483647 = nI j := by
  refine nI_of (fun h => ?_)
  have h1 : (x &&& 2147483647).toInt < 0 := Int32.lt_iff_toInt_lt.mp h
  have h2 : (x &&& 2147483647).toBitVec.msb = false := by
    rw [Int32.toBitVec_and, BitVec.msb_and]
    have h3 : (2147483647 : Int32).toBitVec.msb = false := by decide
    rw [h3, Bool.and_false]
  have h4 : (x &&& 2147483647).toInt = ((x &&& 2147483647).toBitVec.toNat : Int) := BitVec.toInt_eq_toNat_of_msb h2
  omega
/-- the house while it is written: no plays, no time -/
def jj_W1 (S : jj_Mem) (P : jj_P) (nt wb cnt : Nat) : Prop := jj_J S P ∧ jj_K P ∧ jj_T P ∧ P.n = 0 ∧ P.t = 0 ∧ P.nt = nt ∧ P.wn ≤ wb ∧ P.cnt = cnt
set_option maxRecDepth 100000 in
set_option maxHeartbeats 4000000 in
theorem E_below {lay : jj_Lay} {S : jj_Mem} (x : Int32) (n : Nat) (h0 : 0 < n) (hn : n < 2 ^ 31) : ∃ r : Nat, r < n ∧ jj_CT yL_below (.code yL_below cL_below 2 (some .int)) none 0 0 [.int x, .int (nI n)] lay S (some (.int (nI r))) lay S := by
  obtain ⟨j, hj1, hj⟩ := jj_mask x
  refine ⟨j % n, Nat.mod_lt _ h0, ?_⟩
  refine jj_mkI RL .int (by decide) rfl (L := [some (.int x), some (.int (nI n))]) rfl rfl rfl ⟨6, [some (.int x), some (.int (nI n))], dL_below_6, ?_⟩
  refine js_iload_n 0 rfl dL_below_0 rfl ?_
  refine js_ldc dL_below_1 jw_k_RL_7 ?_
  refine js_iand dL_below_3 ?_
  refine js_top (y := nI j) hj ?_
  refine js_iload_n 1 rfl dL_below_4 rfl ?_
  refine jn_irem hj1 h0 (by omega) dL_below_5 ?_
  exact jj_refl
set_option maxRecDepth 100000 in
set_option maxHeartbeats 4000000 in
theorem E_cell {lay : jj_Lay} {S : jj_Mem} {Ls : Nat} {xs : Nat → Int32} (hLs : Ls ≤ 260) (k : Nat) (hk : k < 1000) : ∃ x : Int32, jj_CT yL_cell (.code yL_cell cL_cell 2 (some .int)) (some (Ls, xs)) 0 0 [.retAddr 0, .int (nI k)] lay S (some (.int x)) lay S := by
  by_cases hc : k < Ls
  · refine ⟨xs (nI k).toNatClampNeg, ?_⟩
    refine jj_mkI RL .int (by decide) rfl (L := [some (.retAddr 0), some (.int (nI k))]) rfl rfl rfl ⟨18, [some (.retAddr 0), some (.int (nI k))], dL_cell_18, ?_⟩
    refine js_iload_n 1 rfl dL_cell_0 rfl ?_
    refine js_xload_n 0 rfl dL_cell_1 rfl ?_
    refine js_slen rfl dL_cell_2 ?_
    refine jn_icmp_ge 12 (by omega) (by omega) dL_cell_3 (by decide) (fun h9 => absurd h9 (by omega)) (fun _ => ?_)
    refine js_xload_n 0 rfl dL_cell_6 rfl ?_
    refine js_iload_n 1 rfl dL_cell_7 rfl ?_
    refine js_sald rfl (vp_in_nI (by omega) (by omega)) dL_cell_8 ?_
    refine js_goto 18 dL_cell_9 (by decide) ?_
    exact jj_refl
  · refine ⟨790386105 * (nI (k + 3)), ?_⟩
    refine jj_mkI RL .int (by decide) rfl (L := [some (.retAddr 0), some (.int (nI k))]) rfl rfl rfl ⟨18, [some (.retAddr 0), some (.int (nI k))], dL_cell_18, ?_⟩
    refine js_iload_n 1 rfl dL_cell_0 rfl ?_
    refine js_xload_n 0 rfl dL_cell_1 rfl ?_
    refine js_slen rfl dL_cell_2 ?_
    refine jn_icmp_ge 12 (by omega) (by omega) dL_cell_3 (by decide) (fun _ => ?_) (fun h9 => absurd h9 (by omega))
    refine js_ldc dL_cell_12 jw_k_RL_8 ?_
    refine js_iload_n 1 rfl dL_cell_14 rfl ?_
    refine js_iconst (v := nI 3) dL_cell_15 (by decide) ?_
    refine jn_iadd dL_cell_16 ?_
    refine js_imul dL_cell_17 ?_
    exact jj_refl
set_option maxRecDepth 100000 in
set_option maxHeartbeats 4000000 in
theorem lw_win {lay : jj_Lay} (hB : jj_pp lay) {Ls : Nat} {xs : Nat → Int32} (hLs : Ls ≤ 260) {e : Nat} (he : e < 6) (c : Int32) : ∀ (k f : Nat), f + k = 3 → ∀ (S : jj_Mem) (P : jj_P), jj_W1 S P (e + 1) (3 * e + f) 0 → ∃ (S' : jj_Mem) (P' : jj_P), jj_R cL_write 6 RL yL_write.name (some (Ls, xs)) 5 117 lay.length (jj_sl lay) (31, [some (.ref 0), some (.retAddr 0), some (.int (nI 5)), some (.int (nI e)), some (.int c), some (.int (nI f))], [], lay, S) (86, [some (.ref 0), some (.retAddr 0), some (.int (nI 5)), some (.int (nI e)), some (.int c), some (.int (nI 3))], [], lay, S') ∧ jj_W1 S' P' (e + 1) (3 * e + 3) 0 := by
  intro k
  induction k with
  | zero =>
    intro f hf S P h
    obtain rfl : f = 3 := by omega
    refine ⟨S, P, ?_, h⟩
    refine js_iload dL_write_31 rfl ?_
    refine js_iconst (v := nI 3) dL_write_33 (by decide) ?_
    refine jn_icmp_ge 86 (by omega) (by omega) dL_write_34 (by decide) (fun _ => ?_) (fun h9 => absurd h9 (by omega))
    exact jj_refl
  | succ k ih =>
    intro f hf S P h
    obtain ⟨hJ, hK, hT, a1, a2, a3, a4, a5⟩ := id h
    obtain ⟨r1, hr1, hc1⟩ := E_below (lay := lay) (S := S) (c >>> (nI f &&& 31)) 4 (by omega) (by omega)
    by_cases hz : r1 = 0
    · obtain ⟨S', P', hR, h'⟩ := ih (f + 1) (by omega) S P ⟨hJ, hK, hT, a1, a2, a3, by omega, a5⟩
      refine ⟨S', P', jj_tr ?_ hR, h'⟩
      refine js_iload dL_write_31 rfl ?_
      refine js_iconst (v := nI 3) dL_write_33 (by decide) ?_
      refine jn_icmp_ge 86 (by omega) (by omega) dL_write_34 (by decide) (fun h9 => absurd h9 (by omega)) (fun _ => ?_)
      refine js_iload dL_write_37 rfl ?_
      refine js_iload dL_write_39 rfl ?_
      refine js_ishr dL_write_41 ?_
      refine js_iconst (v := nI 4) dL_write_42 (by decide) ?_
      refine js_callS (av := [.int (c >>> ((nI f) &&& 31)), .int (nI 4)]) (st := []) hc1 (Or.inl rfl) jw_c_L_below jw_i_RL jw_m_RL_15 jw_s_L_below jw_y_L_below rfl ⟨(Nat.le_of_ble_eq_true rfl), (Nat.le_of_ble_eq_true rfl), (Nat.le_refl _), (Nat.le_refl _), (Nat.le_of_ble_eq_true rfl)⟩ dL_write_43 ?_
      refine js_st (st' := [.int (nI r1)]) rfl ?_
      refine jn_if_le 80 (by omega) dL_write_46 (by decide) (fun _ => ?_) (fun h9 => absurd h9 (by omega))
      refine js_iinc (v := nI (f + 1)) (L' := [some (.ref 0), some (.retAddr 0), some (.int (nI 5)), some (.int (nI e)), some (.int c), some (.int (nI (f + 1)))]) dL_write_80 rfl (jj_inc _) rfl ?_
      refine js_goto 31 dL_write_83 (by decide) ?_
      refine js_fgL (L' := [some (.ref 0), some (.retAddr 0), some (.int (nI 5)), some (.int (nI e)), some (.int c), some (.int (nI (f + 1)))]) (by simp [jj_le, jj_sm]) ?_
      exact jj_refl
    · obtain ⟨r2, hr2, hc2⟩ := E_below (lay := lay) (S := S) (c >>> (nI 3 &&& 31)) 3000 (by omega) (by omega)
      obtain ⟨r3, hr3, hc3⟩ := E_below (lay := lay) (S := S) (c >>> (nI 4 &&& 31)) 40000 (by omega) (by omega)
      obtain ⟨v, S1, P1, hc4, b1, b2, b3, b4, b5, b6, b7, b8, b9, b10, b11, b12⟩ := J_window (lay := lay) hB hJ hK hT (u := e) (q := f) (a := r2) (c := 20000 + r3) (by omega) (by omega) (by omega) (by omega) (by omega)
      obtain ⟨S', P', hR, h'⟩ := ih (f + 1) (by omega) S1 P1 ⟨b1, b2, b3, by omega, by omega, by omega, by omega, by omega⟩
      refine ⟨S', P', jj_tr ?_ hR, h'⟩
      refine js_iload dL_write_31 rfl ?_
      refine js_iconst (v := nI 3) dL_write_33 (by decide) ?_
      refine jn_icmp_ge 86 (by omega) (by omega) dL_write_34 (by decide) (fun h9 => absurd h9 (by omega)) (fun _ => ?_)
      refine js_iload dL_write_37 rfl ?_
      refine js_iload dL_write_39 rfl ?_
      refine js_ishr dL_write_41 ?_
      refine js_iconst (v := nI 4) dL_write_42 (by decide) ?_
      refine js_callS (av := [.int (c >>> ((nI f) &&& 31)), .int (nI 4)]) (st := []) hc1 (Or.inl rfl) jw_c_L_below jw_i_RL jw_m_RL_15 jw_s_L_below jw_y_L_below rfl ⟨(Nat.le_of_ble_eq_true rfl), (Nat.le_of_ble_eq_true rfl), (Nat.le_refl _), (Nat.le_refl _), (Nat.le_of_ble_eq_true rfl)⟩ dL_write_43 ?_
      refine js_st (st' := [.int (nI r1)]) rfl ?_
      refine jn_if_le 80 (by omega) dL_write_46 (by decide) (fun h9 => absurd h9 (by omega)) (fun _ => ?_)
      refine js_aload_n 0 rfl dL_write_49 rfl ?_
      refine js_iload_n 3 rfl dL_write_50 rfl ?_
      refine js_iload dL_write_51 rfl ?_
      refine js_iload dL_write_53 rfl ?_
      refine js_iconst (v := nI 3) dL_write_55 (by decide) ?_
      refine js_ishr dL_write_56 ?_
      refine js_sipush (v := nI 3000) dL_write_57 (by decide) ?_
      refine js_callS (av := [.int (c >>> ((nI 3) &&& 31)), .int (nI 3000)]) (st := [.int (nI f), .int (nI e), .ref 0]) hc2 (Or.inl rfl) jw_c_L_below jw_i_RL jw_m_RL_15 jw_s_L_below jw_y_L_below rfl ⟨(Nat.le_of_ble_eq_true rfl), (Nat.le_of_ble_eq_true rfl), (Nat.le_refl _), (Nat.le_refl _), (Nat.le_of_ble_eq_true rfl)⟩ dL_write_60 ?_
      refine js_st (st' := [.int (nI r2), .int (nI f), .int (nI e), .ref 0]) rfl ?_
      refine js_sipush (v := nI 20000) dL_write_63 (by decide) ?_
      refine js_iload dL_write_66 rfl ?_
      refine js_iconst (v := nI 4) dL_write_68 (by decide) ?_
      refine js_ishr dL_write_69 ?_
      refine js_ldc dL_write_70 jw_k_RL_25 ?_
      refine js_top (y := nI 40000) (by decide) ?_
      refine js_callS (av := [.int (c >>> ((nI 4) &&& 31)), .int (nI 40000)]) (st := [.int (nI 20000), .int (nI r2), .int (nI f), .int (nI e), .ref 0]) hc3 (Or.inl rfl) jw_c_L_below jw_i_RL jw_m_RL_15 jw_s_L_below jw_y_L_below rfl ⟨(Nat.le_of_ble_eq_true rfl), (Nat.le_of_ble_eq_true rfl), (Nat.le_refl _), (Nat.le_refl _), (Nat.le_of_ble_eq_true rfl)⟩ dL_write_72 ?_
      refine js_st (st' := [.int (nI r3), .int (nI 20000), .int (nI r2), .int (nI f), .int (nI e), .ref 0]) rfl ?_
      refine jn_iadd dL_write_75 ?_
      refine js_callV (av := [.int (nI e), .int (nI f), .int (nI r2), .int (nI (20000 + r3))]) (st := []) (b := 0) hc4 (Or.inl rfl) jw_c_X6_window jw_i_RX6 jw_m_RL_26 jw_s_X6_window jw_e_X6_window (jl_0 hB) rfl jw_y_X6_window rfl ⟨(Nat.le_of_ble_eq_true rfl), (Nat.le_of_ble_eq_true rfl), (Nat.le_refl _), (Nat.le_refl _), (Nat.le_of_ble_eq_true rfl)⟩ dL_write_76 ?_
      refine js_st (st' := [.int v]) rfl ?_
      refine js_pop rfl dL_write_79 ?_
      refine js_iinc (v := nI (f + 1)) (L' := [some (.ref 0), some (.retAddr 0), some (.int (nI 5)), some (.int (nI e)), some (.int c), some (.int (nI (f + 1)))]) dL_write_80 rfl (jj_inc _) rfl ?_
      refine js_goto 31 dL_write_83 (by decide) ?_
      refine js_fgL (L' := [some (.ref 0), some (.retAddr 0), some (.int (nI 5)), some (.int (nI e)), some (.int c), some (.int (nI (f + 1)))]) (by simp [jj_le, jj_sm]) ?_
      exact jj_refl
set_option maxRecDepth 100000 in
set_option maxHeartbeats 4000000 in
theorem lw_tracks {lay : jj_Lay} (hB : jj_pp lay) {Ls : Nat} {xs : Nat → Int32} (hLs : Ls ≤ 260) : ∀ (k e : Nat), e + k = 6 → ∀ (S : jj_Mem) (P : jj_P), jj_W1 S P e (3 * e) 0 → ∃ (S' : jj_Mem) (P' : jj_P), jj_R cL_write 6 RL yL_write.name (some (Ls, xs)) 5 117 lay.length (jj_sl lay) (2, [some (.ref 0), some (.retAddr 0), some (.int (nI 5)), some (.int (nI e)), none, none], [], lay, S) (94, [some (.ref 0), some (.retAddr 0), some (.int (nI 5)), some (.int (nI 0)), none, none], [], lay, S') ∧ jj_W1 S' P' 6 18 0 := by
  intro k
  induction k with
  | zero =>
    intro e he S P h
    obtain rfl : e = 6 := by omega
    refine ⟨S, P, ?_, h⟩
    refine js_iload_n 3 rfl dL_write_2 rfl ?_
    refine js_bipush (v := nI 6) dL_write_3 (by decide) ?_
    refine jn_icmp_ge 92 (by omega) (by omega) dL_write_5 (by decide) (fun _ => ?_) (fun h9 => absurd h9 (by omega))
    refine js_iconst (v := nI 0) dL_write_92 (by decide) ?_
    refine js_istore_n (L' := [some (.ref 0), some (.retAddr 0), some (.int (nI 5)), some (.int (nI 0)), none, none]) 3 rfl dL_write_93 rfl (Nat.le_of_ble_eq_true rfl) ?_
    refine js_fgL (L' := [some (.ref 0), some (.retAddr 0), some (.int (nI 5)), some (.int (nI 0)), none, none]) (by simp [jj_le, jj_sm]) ?_
    exact jj_refl
  | succ k ih =>
    intro e he S P h
    obtain ⟨hJ, hK, hT, a1, a2, a3, a4, a5⟩ := id h
    obtain ⟨x, hc1⟩ := E_cell (lay := lay) (S := S) (xs := xs) hLs (e + 5) (by omega)
    obtain ⟨r, hr, hc2⟩ := E_below (lay := lay) (S := S) x 5 (by omega) (by omega)
    obtain ⟨S1, P1, hc3, b1, b2, b3, b4, b5, b6, b7, b8, b9⟩ := J_track (lay := lay) hB hJ hK hT (u := r) a1 (by omega) (by omega)
    obtain ⟨S2, P2, hR1, h2⟩ := lw_win hB (xs := xs) hLs (e := e) (by omega) x 3 0 (by omega) S1 P1 ⟨b1, b2, b3, b4, by omega, by omega, by omega, by omega⟩
    obtain ⟨S', P', hR, h'⟩ := ih (e + 1) (by omega) S2 P2 ⟨h2.1, h2.2.1, h2.2.2.1, h2.2.2.2.1, h2.2.2.2.2.1, h2.2.2.2.2.2.1, h2.2.2.2.2.2.2.1, h2.2.2.2.2.2.2.2⟩
    refine ⟨S', P', jj_tr ?_ (jj_tr hR1 (jj_tr ?_ hR)), h'⟩
    · refine js_iload_n 3 rfl dL_write_2 rfl ?_
      refine js_bipush (v := nI 6) dL_write_3 (by decide) ?_
      refine jn_icmp_ge 92 (by omega) (by omega) dL_write_5 (by decide) (fun h9 => absurd h9 (by omega)) (fun _ => ?_)
      refine js_xload_n 1 rfl dL_write_8 rfl ?_
      refine js_iload_n 3 rfl dL_write_9 rfl ?_
      refine js_iload_n 2 rfl dL_write_10 rfl ?_
      refine jn_iadd dL_write_11 ?_
      refine js_callS (av := [.retAddr 0, .int (nI (e + 5))]) (st := []) hc1 (Or.inr rfl) jw_c_L_cell jw_i_RL jw_m_RL_9 jw_s_L_cell jw_y_L_cell rfl ⟨(Nat.le_of_ble_eq_true rfl), (Nat.le_of_ble_eq_true rfl), (Nat.le_refl _), (Nat.le_refl _), (Nat.le_of_ble_eq_true rfl)⟩ dL_write_12 ?_
      refine js_st (st' := [.int x]) rfl ?_
      refine js_istore (L' := [some (.ref 0), some (.retAddr 0), some (.int (nI 5)), some (.int (nI e)), some (.int x), none]) dL_write_15 rfl (Nat.le_of_ble_eq_true rfl) ?_
      refine js_aload_n 0 rfl dL_write_17 rfl ?_
      refine js_iload dL_write_18 rfl ?_
      refine js_iconst (v := nI 5) dL_write_20 (by decide) ?_
      refine js_callS (av := [.int x, .int (nI 5)]) (st := [.ref 0]) hc2 (Or.inl rfl) jw_c_L_below jw_i_RL jw_m_RL_15 jw_s_L_below jw_y_L_below rfl ⟨(Nat.le_of_ble_eq_true rfl), (Nat.le_of_ble_eq_true rfl), (Nat.le_refl _), (Nat.le_refl _), (Nat.le_of_ble_eq_true rfl)⟩ dL_write_21 ?_
      refine js_st (st' := [.int (nI r), .ref 0]) rfl ?_
      refine js_callV (av := [.int (nI r)]) (st := []) (b := 0) hc3 (Or.inl rfl) jw_c_X6_track jw_i_RX6 jw_m_RL_19 jw_s_X6_track jw_e_X6_track (jl_0 hB) rfl jw_y_X6_track rfl ⟨(Nat.le_of_ble_eq_true rfl), (Nat.le_of_ble_eq_true rfl), (Nat.le_refl _), (Nat.le_refl _), (Nat.le_of_ble_eq_true rfl)⟩ dL_write_24 ?_
      refine js_st (st' := [.int (nI P.nt)]) rfl ?_
      refine js_pop rfl dL_write_27 ?_
      refine js_iconst (v := nI 0) dL_write_28 (by decide) ?_
      refine js_istore (L' := [some (.ref 0), some (.retAddr 0), some (.int (nI 5)), some (.int (nI e)), some (.int x), some (.int (nI 0))]) dL_write_29 rfl (Nat.le_of_ble_eq_true rfl) ?_
      exact jj_refl
    · refine js_iinc (v := nI (e + 1)) (L' := [some (.ref 0), some (.retAddr 0), some (.int (nI 5)), some (.int (nI (e + 1))), some (.int x), some (.int (nI 3))]) dL_write_86 rfl (jj_inc _) rfl ?_
      refine js_goto 2 dL_write_89 (by decide) ?_
      refine js_fgL (L' := [some (.ref 0), some (.retAddr 0), some (.int (nI 5)), some (.int (nI (e + 1))), none, none]) (by simp [jj_le, jj_sm]) ?_
      exact jj_refl
set_option maxRecDepth 100000 in
set_option maxHeartbeats 4000000 in
theorem lw_claim {lay : jj_Lay} (hB : jj_pp lay) {Ls : Nat} {xs : Nat → Int32} (hLs : Ls ≤ 260) {e : Nat} (he : e < 5) : ∀ (k f : Nat), f + k = 3 → ∀ (S : jj_Mem) (P : jj_P), jj_W1 S P 6 18 0 → ∃ (S' : jj_Mem) (P' : jj_P), jj_R cL_write 6 RL yL_write.name (some (Ls, xs)) 5 117 lay.length (jj_sl lay) (102, [some (.ref 0), some (.retAddr 0), some (.int (nI 5)), some (.int (nI e)), some (.int (nI f)), none], [], lay, S) (137, [some (.ref 0), some (.retAddr 0), some (.int (nI 5)), some (.int (nI e)), some (.int (nI 3)), none], [], lay, S') ∧ jj_W1 S' P' 6 18 0 := by
  intro k
  induction k with
  | zero =>
    intro f hf S P h
    obtain rfl : f = 3 := by omega
    refine ⟨S, P, ?_, h⟩
    refine js_iload dL_write_102 rfl ?_
    refine js_iconst (v := nI 3) dL_write_104 (by decide) ?_
    refine jn_icmp_ge 137 (by omega) (by omega) dL_write_105 (by decide) (fun _ => ?_) (fun h9 => absurd h9 (by omega))
    exact jj_refl
  | succ k ih =>
    intro f hf S P h
    obtain ⟨hJ, hK, hT, a1, a2, a3, a4, a5⟩ := id h
    obtain ⟨x, hc1⟩ := E_cell (lay := lay) (S := S) (xs := xs) hLs (e + f + 5) (by omega)
    obtain ⟨r, hr, hc2⟩ := E_below (lay := lay) (S := S) x 45 (by omega) (by omega)
    obtain ⟨v, S1, P1, hc3, b1, b2, b3, b4, b5, b6, b7, b8, b9, b10, b11, b12⟩ := J_claim (lay := lay) hB hJ hK hT (u := e) (q := f) (y := r) (by omega) (by omega) (by omega)
    obtain ⟨S', P', hR, h'⟩ := ih (f + 1) (by omega) S1 P1 ⟨b1, b2, b3, by omega, by omega, by omega, by omega, by omega⟩
    refine ⟨S', P', jj_tr ?_ hR, h'⟩
    refine js_iload dL_write_102 rfl ?_
    refine js_iconst (v := nI 3) dL_write_104 (by decide) ?_
    refine jn_icmp_ge 137 (by omega) (by omega) dL_write_105 (by decide) (fun h9 => absurd h9 (by omega)) (fun _ => ?_)
    refine js_aload_n 0 rfl dL_write_108 rfl ?_
    refine js_iload_n 3 rfl dL_write_109 rfl ?_
    refine js_iload dL_write_110 rfl ?_
    refine js_xload_n 1 rfl dL_write_112 rfl ?_
    refine js_iload_n 3 rfl dL_write_113 rfl ?_
    refine js_iload dL_write_114 rfl ?_
    refine jn_iadd dL_write_116 ?_
    refine js_iload_n 2 rfl dL_write_117 rfl ?_
    refine jn_iadd dL_write_118 ?_
    refine js_callS (av := [.retAddr 0, .int (nI (((e + f)) + 5))]) (st := [.int (nI f), .int (nI e), .ref 0]) hc1 (Or.inr rfl) jw_c_L_cell jw_i_RL jw_m_RL_9 jw_s_L_cell jw_y_L_cell rfl ⟨(Nat.le_of_ble_eq_true rfl), (Nat.le_of_ble_eq_true rfl), (Nat.le_refl _), (Nat.le_refl _), (Nat.le_of_ble_eq_true rfl)⟩ dL_write_119 ?_
    refine js_st (st' := [.int x, .int (nI f), .int (nI e), .ref 0]) rfl ?_
    refine js_bipush (v := nI 45) dL_write_122 (by decide) ?_
    refine js_callS (av := [.int x, .int (nI 45)]) (st := [.int (nI f), .int (nI e), .ref 0]) hc2 (Or.inl rfl) jw_c_L_below jw_i_RL jw_m_RL_15 jw_s_L_below jw_y_L_below rfl ⟨(Nat.le_of_ble_eq_true rfl), (Nat.le_of_ble_eq_true rfl), (Nat.le_refl _), (Nat.le_refl _), (Nat.le_of_ble_eq_true rfl)⟩ dL_write_124 ?_
    refine js_st (st' := [.int (nI r), .int (nI f), .int (nI e), .ref 0]) rfl ?_
    refine js_callV (av := [.int (nI e), .int (nI f), .int (nI r)]) (st := []) (b := 0) hc3 (Or.inl rfl) jw_c_X6_claim jw_i_RX6 jw_m_RL_30 jw_s_X6_claim jw_e_X6_claim (jl_0 hB) rfl jw_y_X6_claim rfl ⟨(Nat.le_of_ble_eq_true rfl), (Nat.le_of_ble_eq_true rfl), (Nat.le_refl _), (Nat.le_refl _), (Nat.le_of_ble_eq_true rfl)⟩ dL_write_127 ?_
    refine js_st (st' := [.int v]) rfl ?_
    refine js_pop rfl dL_write_130 ?_
    refine js_iinc (v := nI (f + 1)) (L' := [some (.ref 0), some (.retAddr 0), some (.int (nI 5)), some (.int (nI e)), some (.int (nI (f + 1))), none]) dL_write_131 rfl (jj_inc _) rfl ?_
    refine js_goto 102 dL_write_134 (by decide) ?_
    refine js_fgL (L' := [some (.ref 0), some (.retAddr 0), some (.int (nI 5)), some (.int (nI e)), some (.int (nI (f + 1))), none]) (by simp [jj_le, jj_sm]) ?_
    exact jj_refl
set_option maxRecDepth 100000 in
set_option maxHeartbeats 4000000 in
theorem lw_claims {lay : jj_Lay} (hB : jj_pp lay) {Ls : Nat} {xs : Nat → Int32} (hLs : Ls ≤ 260) : ∀ (k e : Nat), e + k = 5 → ∀ (S : jj_Mem) (P : jj_P), jj_W1 S P 6 18 0 → ∃ (S' : jj_Mem) (P' : jj_P), jj_R cL_write 6 RL yL_write.name (some (Ls, xs)) 5 117 lay.length (jj_sl lay) (94, [some (.ref 0), some (.retAddr 0), some (.int (nI 5)), some (.int (nI e)), none, none], [], lay, S) (145, [some (.ref 0), some (.retAddr 0), some (.int (nI 5)), some (.int (nI 0)), none, none], [], lay, S') ∧ jj_W1 S' P' 6 18 0 := by
  intro k
  induction k with
  | zero =>
    intro e he S P h
    obtain rfl : e = 5 := by omega
    refine ⟨S, P, ?_, h⟩
    refine js_iload_n 3 rfl dL_write_94 rfl ?_
    refine js_iconst (v := nI 5) dL_write_95 (by decide) ?_
    refine jn_icmp_ge 143 (by omega) (by omega) dL_write_96 (by decide) (fun _ => ?_) (fun h9 => absurd h9 (by omega))
    refine js_iconst (v := nI 0) dL_write_143 (by decide) ?_
    refine js_istore_n (L' := [some (.ref 0), some (.retAddr 0), some (.int (nI 5)), some (.int (nI 0)), none, none]) 3 rfl dL_write_144 rfl (Nat.le_of_ble_eq_true rfl) ?_
    refine js_fgL (L' := [some (.ref 0), some (.retAddr 0), some (.int (nI 5)), some (.int (nI 0)), none, none]) (by simp [jj_le, jj_sm]) ?_
    exact jj_refl
  | succ k ih =>
    intro e he S P h
    obtain ⟨S2, P2, hR1, h2⟩ := lw_claim hB (xs := xs) hLs (e := e) (by omega) 3 0 (by omega) S P h
    obtain ⟨S', P', hR, h'⟩ := ih (e + 1) (by omega) S2 P2 h2
    refine ⟨S', P', jj_tr ?_ (jj_tr hR1 (jj_tr ?_ hR)), h'⟩
    · refine js_iload_n 3 rfl dL_write_94 rfl ?_
      refine js_iconst (v := nI 5) dL_write_95 (by decide) ?_
      refine jn_icmp_ge 143 (by omega) (by omega) dL_write_96 (by decide) (fun h9 => absurd h9 (by omega)) (fun _ => ?_)
      refine js_iconst (v := nI 0) dL_write_99 (by decide) ?_
      refine js_istore (L' := [some (.ref 0), some (.retAddr 0), some (.int (nI 5)), some (.int (nI e)), some (.int (nI 0)), none]) dL_write_100 rfl (Nat.le_of_ble_eq_true rfl) ?_
      exact jj_refl
    · refine js_iinc (v := nI (e + 1)) (L' := [some (.ref 0), some (.retAddr 0), some (.int (nI 5)), some (.int (nI (e + 1))), some (.int (nI 3)), none]) dL_write_137 rfl (jj_inc _) rfl ?_
      refine js_goto 94 dL_write_140 (by decide) ?_
      refine js_fgL (L' := [some (.ref 0), some (.retAddr 0), some (.int (nI 5)), some (.int (nI (e + 1))), none, none]) (by simp [jj_le, jj_sm]) ?_
      exact jj_refl
set_option maxRecDepth 100000 in
set_option maxHeartbeats 4000000 in
theorem lw_listeners {lay : jj_Lay} (hB : jj_pp lay) {Ls : Nat} {xs : Nat → Int32} (hLs : Ls ≤ 260) : ∀ (k e : Nat), e + k = 4 → ∀ (S : jj_Mem) (P : jj_P), jj_W1 S P 6 18 e → ∃ (S' : jj_Mem) (P' : jj_P), jj_RR cL_write 6 RL yL_write.name (some (Ls, xs)) 5 117 lay.length (jj_sl lay) (145, [some (.ref 0), some (.retAddr 0), some (.int (nI 5)), some (.int (nI e)), none, none], [], lay, S) none .return_ lay S' ∧ jj_W1 S' P' 6 18 4 := by
  intro k
  induction k with
  | zero =>
    intro e he S P h
    obtain rfl : e = 4 := by omega
    refine ⟨S, P, ⟨188, [some (.ref 0), some (.retAddr 0), some (.int (nI 5)), some (.int (nI 4)), none, none], dL_write_188, ?_⟩, h⟩
    refine js_iload_n 3 rfl dL_write_145 rfl ?_
    refine js_iconst (v := nI 4) dL_write_146 (by decide) ?_
    refine jn_icmp_ge 188 (by omega) (by omega) dL_write_147 (by decide) (fun _ => ?_) (fun h9 => absurd h9 (by omega))
    exact jj_refl
  | succ k ih =>
    intro e he S P h
    obtain ⟨hJ, hK, hT, a1, a2, a3, a4, a5⟩ := id h
    obtain ⟨x, hc1⟩ := E_cell (lay := lay) (S := S) (xs := xs) hLs (e + 5 + 5) (by omega)
    obtain ⟨r, hr, hc2⟩ := E_below (lay := lay) (S := S) x 3 (by omega) (by omega)
    obtain ⟨y, hc3⟩ := E_cell (lay := lay) (S := S) (xs := xs) hLs (e + 5 + 6) (by omega)
    obtain ⟨z, hz, hc4⟩ := E_below (lay := lay) (S := S) y 3 (by omega) (by omega)
    obtain ⟨S1, P1, hc5, b1, b2, b3, b4, b5, b6, b7, b8, b9, b10⟩ := J_listener (lay := lay) hB hJ hK hT (u := r) (v := z) a2 (by omega) (by omega) (by omega)
    obtain ⟨S', P', hR, h'⟩ := ih (e + 1) (by omega) S1 P1 ⟨b1, b2, b3, by omega, by omega, by omega, by omega, by omega⟩
    refine ⟨S', P', jj_RRs ?_ hR, h'⟩
    refine js_iload_n 3 rfl dL_write_145 rfl ?_
    refine js_iconst (v := nI 4) dL_write_146 (by decide) ?_
    refine jn_icmp_ge 188 (by omega) (by omega) dL_write_147 (by decide) (fun h9 => absurd h9 (by omega)) (fun _ => ?_)
    refine js_aload_n 0 rfl dL_write_150 rfl ?_
    refine js_xload_n 1 rfl dL_write_151 rfl ?_
    refine js_iload_n 3 rfl dL_write_152 rfl ?_
    refine js_iload_n 2 rfl dL_write_153 rfl ?_
    refine jn_iadd dL_write_154 ?_
    refine js_iconst (v := nI 5) dL_write_155 (by decide) ?_
    refine jn_iadd dL_write_156 ?_
    refine js_callS (av := [.retAddr 0, .int (nI (((e + 5)) + 5))]) (st := [.ref 0]) hc1 (Or.inr rfl) jw_c_L_cell jw_i_RL jw_m_RL_9 jw_s_L_cell jw_y_L_cell rfl ⟨(Nat.le_of_ble_eq_true rfl), (Nat.le_of_ble_eq_true rfl), (Nat.le_refl _), (Nat.le_refl _), (Nat.le_of_ble_eq_true rfl)⟩ dL_write_157 ?_
    refine js_st (st' := [.int x, .ref 0]) rfl ?_
    refine js_iconst (v := nI 3) dL_write_160 (by decide) ?_
    refine js_callS (av := [.int x, .int (nI 3)]) (st := [.ref 0]) hc2 (Or.inl rfl) jw_c_L_below jw_i_RL jw_m_RL_15 jw_s_L_below jw_y_L_below rfl ⟨(Nat.le_of_ble_eq_true rfl), (Nat.le_of_ble_eq_true rfl), (Nat.le_refl _), (Nat.le_refl _), (Nat.le_of_ble_eq_true rfl)⟩ dL_write_161 ?_
    refine js_st (st' := [.int (nI r), .ref 0]) rfl ?_
    refine js_xload_n 1 rfl dL_write_164 rfl ?_
    refine js_iload_n 3 rfl dL_write_165 rfl ?_
    refine js_iload_n 2 rfl dL_write_166 rfl ?_
    refine jn_iadd dL_write_167 ?_
    refine js_bipush (v := nI 6) dL_write_168 (by decide) ?_
    refine jn_iadd dL_write_170 ?_
    refine js_callS (av := [.retAddr 0, .int (nI (((e + 5)) + 6))]) (st := [.int (nI r), .ref 0]) hc3 (Or.inr rfl) jw_c_L_cell jw_i_RL jw_m_RL_9 jw_s_L_cell jw_y_L_cell rfl ⟨(Nat.le_of_ble_eq_true rfl), (Nat.le_of_ble_eq_true rfl), (Nat.le_refl _), (Nat.le_refl _), (Nat.le_of_ble_eq_true rfl)⟩ dL_write_171 ?_
    refine js_st (st' := [.int y, .int (nI r), .ref 0]) rfl ?_
    refine js_iconst (v := nI 3) dL_write_174 (by decide) ?_
    refine js_callS (av := [.int y, .int (nI 3)]) (st := [.int (nI r), .ref 0]) hc4 (Or.inl rfl) jw_c_L_below jw_i_RL jw_m_RL_15 jw_s_L_below jw_y_L_below rfl ⟨(Nat.le_of_ble_eq_true rfl), (Nat.le_of_ble_eq_true rfl), (Nat.le_refl _), (Nat.le_refl _), (Nat.le_of_ble_eq_true rfl)⟩ dL_write_175 ?_
    refine js_st (st' := [.int (nI z), .int (nI r), .ref 0]) rfl ?_
    refine js_callV (av := [.int (nI r), .int (nI z)]) (st := []) (b := 0) hc5 (Or.inl rfl) jw_c_X6_listener jw_i_RX6 jw_m_RL_34 jw_s_X6_listener jw_e_X6_listener (jl_0 hB) rfl jw_y_X6_listener rfl ⟨(Nat.le_of_ble_eq_true rfl), (Nat.le_of_ble_eq_true rfl), (Nat.le_refl _), (Nat.le_refl _), (Nat.le_of_ble_eq_true rfl)⟩ dL_write_178 ?_
    refine js_st (st' := [.int (nI P.cnt)]) rfl ?_
    refine js_pop rfl dL_write_181 ?_
    refine js_iinc (v := nI (e + 1)) (L' := [some (.ref 0), some (.retAddr 0), some (.int (nI 5)), some (.int (nI (e + 1))), none, none]) dL_write_182 rfl (jj_inc _) rfl ?_
    refine js_goto 145 dL_write_185 (by decide) ?_
    refine js_fgL (L' := [some (.ref 0), some (.retAddr 0), some (.int (nI 5)), some (.int (nI (e + 1))), none, none]) (by simp [jj_le, jj_sm]) ?_
    exact jj_refl
set_option maxRecDepth 100000 in
set_option maxHeartbeats 4000000 in
theorem E_write {lay : jj_Lay} (hB : jj_pp lay) {Ls : Nat} {xs : Nat → Int32} (hLs : Ls ≤ 260) {S : jj_Mem} {P : jj_P} (h : jj_W1 S P 0 0 0) : ∃ (S' : jj_Mem) (P' : jj_P), jj_CT yL_write (.code yL_write cL_write 6 none) (some (Ls, xs)) 5 117 [.ref 0, .retAddr 0, .int (nI 5)] lay S none lay S' ∧ jj_W1 S' P' 6 18 4 := by
  obtain ⟨S1, P1, h1, g1⟩ := lw_tracks hB (xs := xs) hLs 6 0 (by omega) S P h
  obtain ⟨S2, P2, h2, g2⟩ := lw_claims hB (xs := xs) hLs 5 0 (by omega) S1 P1 g1
  obtain ⟨S3, P3, h3, g3⟩ := lw_listeners hB (xs := xs) hLs 4 0 (by omega) S2 P2 g2
  refine ⟨S3, P3, ?_, g3⟩
  refine jj_mkV RL (by decide) rfl (L := [some (.ref 0), some (.retAddr 0), some (.int (nI 5)), none, none, none]) rfl rfl ?_
  refine jj_RRs (jj_tr ?_ (jj_tr h1 h2)) h3
  refine js_iconst (v := nI 0) dL_write_0 (by decide) ?_
  refine js_istore_n (L' := [some (.ref 0), some (.retAddr 0), some (.int (nI 5)), some (.int (nI 0)), none, none]) 3 rfl dL_write_1 rfl (Nat.le_of_ble_eq_true rfl) ?_
  exact jj_refl

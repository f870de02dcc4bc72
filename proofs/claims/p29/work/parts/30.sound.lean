/-! hear, isSound. -/
def jj_kp (S : jj_Mem) (P : jj_P) (kp : Nat → Nat) : Prop := ∀ j, j < 130 → S 104 j = some (nI (kp j)) ∧ (kp j = 0 ∨ (j < P.n ∧ P.mi j / 14400 < P.t / 14400 ∧ kp j = P.rs j + 1))
theorem jj_kp_E {S : jj_Mem} {P P' : jj_P} {kp : Nat → Nat} (h : jj_kp S P kp) (e : jj_E P P') : jj_kp S P' kp := fun j hj => by
  refine ⟨(h j hj).1, (h j hj).2.imp id (fun w => ?_)⟩
  have h1 := Nat.div_le_div_right (c := 14400) e.2.1
  exact ⟨Nat.lt_of_lt_of_le w.1 e.1, by rw [e.2.2.1 j w.1]; omega, by rw [e.2.2.2 j w.1 w.2.1]; exact w.2.2⟩
def jj_l1 (lay : jj_Lay) : jj_Lay := lay ++ (22, 400, jj_rf lay.length 400) :: List.replicate 400 (20, 10, [])
theorem jj_pp_app {lay x : jj_Lay} (h : jj_pp lay) : jj_pp (lay ++ x) := fun k hk => by
  rw [List.getElem?_append_left (by have := jj_pp_len h; omega)]
  exact h k hk
theorem jj_l1_len (lay : jj_Lay) : (jj_l1 lay).length = lay.length + 401 := by
  unfold jj_l1
  rw [List.length_append, List.length_cons, List.length_replicate]
theorem jj_l1_sl (lay : jj_Lay) : jj_sl (jj_l1 lay) = jj_sl lay + 4400 := by
  unfold jj_l1
  rw [jj_sl_app]
  show jj_sl lay + (400 + jj_sl (List.replicate 400 ((20, 10, []) : jj_Sh))) = _
  rw [jj_sl_rep]
theorem jj_l1_q (lay : jj_Lay) : (jj_l1 lay)[lay.length]? = some (22, 400, jj_rf lay.length 400) := by
  unfold jj_l1
  rw [List.getElem?_append_right (Nat.le_refl _), Nat.sub_self]
  rfl
theorem jj_l1_r (lay : jj_Lay) {i : Nat} (hi : i < 400) : (jj_l1 lay)[lay.length + 1 + i]? = some (20, 10, []) := by
  unfold jj_l1
  rw [List.getElem?_append_right (by omega), show lay.length + 1 + i - lay.length = i + 1 by omega, List.getElem?_cons_succ, List.getElem?_replicate, if_pos hi]
theorem jj_l1_wy {lay : jj_Lay} (h : jj_wy lay) : jj_wy (jj_l1 lay) := by
  intro c hc q hq
  rw [jj_l1_len]
  rcases List.mem_append.mp hc with hc | hc
  · have := h c hc q hq; omega
  · rcases List.mem_cons.mp hc with rfl | hc
    · obtain ⟨i, hi, hiq⟩ := List.mem_map.mp hq
      cases hiq
      have := List.mem_range.mp hi
      omega
    · rw [(List.mem_replicate.mp hc).2] at hq
      cases hq
set_option maxRecDepth 100000 in
set_option maxHeartbeats 4000000 in
theorem E_hear {lay : jj_Lay} {S : jj_Mem} {P : jj_P} (hB : jj_pp lay) (h : jj_J S P) (hK : jj_K P) (hT : jj_T P) {l u z : Nat} (hl : l < P.cnt) (hu : u < P.nt) (hz : z ≤ 600) (h130 : P.n < 130) :
    ∃ (v9 : Int32) (S' : jj_Mem) (P' : jj_P), jj_CT yL_hear (.codeWith yL_hear cL_hear 6 (some .int) [(0, 9, 10, 40)]) none 5 118 [.ref 0, .int (nI l), .int (nI u), .int (nI P.t), .int (nI z)] lay S (some (.int v9)) lay S' ∧ jj_J S' P' ∧ jj_K P' ∧ jj_T P' ∧ jj_E P P' ∧ P'.t = P.t ∧ P'.nt = P.nt ∧ P'.wn = P.wn ∧ P'.cnt = P.cnt ∧ P'.pl = P.pl ∧ P'.rc = P.rc ∧ P'.n = P.n + 1 ∧ (∀ p, 103 < p → ∀ j, S' p j = S p j) := by
  obtain ⟨v, S', P', hct, g⟩ := J_play (lay := lay) hB h hK hT hl hu hz h130
  refine ⟨v, S', P', ?_, g⟩
  refine jj_mkW (L := [some (.ref 0), some (.int (nI l)), some (.int (nI u)), some (.int (nI P.t)), some (.int (nI z)), none]) (L' := [some (.ref 0), some (.int (nI l)), some (.int (nI u)), some (.int (nI P.t)), some (.int (nI z)), none]) (pc' := 9) RL (by decide) rfl rfl rfl ⟨⟨.int, rfl, rfl⟩, rfl⟩ dL_hear_9 (Nat.le_refl _) (Nat.le_refl _) id (fun _ _ w h => by cases h; trivial) ?_
  refine js_aload_n 0 rfl dL_hear_0 rfl ?_
  refine js_iload_n 1 rfl dL_hear_1 rfl ?_
  refine js_iload_n 2 rfl dL_hear_2 rfl ?_
  refine js_iload_n 3 rfl dL_hear_3 rfl ?_
  refine js_iload dL_hear_4 rfl ?_
  refine js_callV (av := [.int (nI l), .int (nI u), .int (nI P.t), .int (nI z)]) (st := []) (b := 0) hct (Or.inl rfl) jw_c_X6_play jw_i_RX6 jw_m_RL_37 jw_s_X6_play jw_e_X6_play (jl_0 hB) rfl jw_y_X6_play rfl ⟨(Nat.le_of_ble_eq_true rfl), (Nat.le_of_ble_eq_true rfl), (Nat.le_refl _), (Nat.le_refl _), (Nat.le_of_ble_eq_true rfl)⟩ dL_hear_6 ?_
  refine js_st (st' := [.int v]) rfl ?_
  exact jj_refl
set_option maxRecDepth 100000 in
set_option maxHeartbeats 4000000 in
theorem lA_o {lay : jj_Lay} {P : jj_P} (hB : jj_pp lay) (hk : lay[104]? = some (20, 130, [])) {q : Nat} (hq : lay[q]? = some (22, 400, jj_rf q 400)) (hrow : ∀ x, x < 400 → lay[q + 1 + x]? = some (20, 10, [])) (hq5 : 105 ≤ q) (hK : jj_K P) {S : jj_Mem} (h : jj_J S P) {kp : Nat → Nat} (hkp : jj_kp S P kp) {e : Nat} (he : e < P.n) (hc : ¬ P.mi e / 14400 < P.t / 14400) : jj_R cL_isSound 6 RL yL_isSound.name none 3 70 lay.length (jj_sl lay) (12, [some (.ref 0), some (.ref 104), some (.ref q), some (.int (nI e)), none, none], [], lay, S) (64, [some (.ref 0), some (.ref 104), some (.ref q), some (.int (nI e)), some (.int (nI (P.rs e))), none], [], lay, S) := by
  have h130 := h.lg.1
  refine js_iload_n 3 rfl dL_isSound_12 rfl ?_
  refine js_aload_n 0 rfl dL_isSound_13 rfl ?_
  refine js_iconst (v := nI 5) dL_isSound_14 (by decide) ?_
  refine js_callV (av := [.int (nI 5)]) (st := [.int (nI e)]) (b := 0) (q_X6_many_5 hB h hK) (Or.inl rfl) jw_c_X6_many jw_i_RX6 jw_m_RL_47 jw_s_X6_many jw_e_X6_many (jl_0 hB) rfl jw_y_X6_many rfl ⟨(Nat.le_of_ble_eq_true rfl), (Nat.le_of_ble_eq_true rfl), (Nat.le_refl _), (Nat.le_refl _), (Nat.le_of_ble_eq_true rfl)⟩ dL_isSound_15 ?_
  refine js_st (st' := [.int (nI P.n), .int (nI e)]) rfl ?_
  refine jn_icmp_ge 140 (by omega) (by omega) dL_isSound_18 (by decide) (fun h9 => absurd h9 (by omega)) (fun _ => ?_)
  refine js_aload_n 0 rfl dL_isSound_21 rfl ?_
  refine js_iload_n 3 rfl dL_isSound_22 rfl ?_
  refine js_iconst (v := nI 4) dL_isSound_23 (by decide) ?_
  refine js_callV (av := [.int (nI e), .int (nI 4)]) (st := []) (b := 0) (q_X6_ofPlay_4 hB h hK (by omega)) (Or.inl rfl) jw_c_X6_ofPlay jw_i_RX6 jw_m_RL_81 jw_s_X6_ofPlay jw_e_X6_ofPlay (jl_0 hB) rfl jw_y_X6_ofPlay rfl ⟨(Nat.le_of_ble_eq_true rfl), (Nat.le_of_ble_eq_true rfl), (Nat.le_refl _), (Nat.le_refl _), (Nat.le_of_ble_eq_true rfl)⟩ dL_isSound_24 ?_
  refine js_st (st' := [.int (nI (P.rs e))]) rfl ?_
  refine js_istore (L' := [some (.ref 0), some (.ref 104), some (.ref q), some (.int (nI e)), some (.int (nI (P.rs e))), none]) dL_isSound_27 rfl (Nat.le_of_ble_eq_true rfl) ?_
  refine js_aload_n 0 rfl dL_isSound_29 rfl ?_
  refine js_iload_n 3 rfl dL_isSound_30 rfl ?_
  refine js_iconst (v := nI 5) dL_isSound_31 (by decide) ?_
  refine js_callV (av := [.int (nI e), .int (nI 5)]) (st := []) (b := 0) (q_X6_ofPlay_5f hB h hK (by omega) hc) (Or.inl rfl) jw_c_X6_ofPlay jw_i_RX6 jw_m_RL_81 jw_s_X6_ofPlay jw_e_X6_ofPlay (jl_0 hB) rfl jw_y_X6_ofPlay rfl ⟨(Nat.le_of_ble_eq_true rfl), (Nat.le_of_ble_eq_true rfl), (Nat.le_refl _), (Nat.le_refl _), (Nat.le_of_ble_eq_true rfl)⟩ dL_isSound_32 ?_
  refine js_st (st' := [.int (nI 0)]) rfl ?_
  refine js_iconst (v := nI 1) dL_isSound_35 (by decide) ?_
  refine jn_icmp_ne 64 (by omega) (by omega) dL_isSound_36 (by decide) (fun _ => ?_) (fun h9 => absurd h9 (by omega))
  exact jj_refl
set_option maxRecDepth 100000 in
set_option maxHeartbeats 4000000 in
theorem lA_z {lay : jj_Lay} {P : jj_P} (hB : jj_pp lay) (hk : lay[104]? = some (20, 130, [])) {q : Nat} (hq : lay[q]? = some (22, 400, jj_rf q 400)) (hrow : ∀ x, x < 400 → lay[q + 1 + x]? = some (20, 10, [])) (hq5 : 105 ≤ q) (hK : jj_K P) {S : jj_Mem} (h : jj_J S P) {kp : Nat → Nat} (hkp : jj_kp S P kp) {e : Nat} (he : e < P.n) (hc : P.mi e / 14400 < P.t / 14400) (hz : kp e = 0) : jj_R cL_isSound 6 RL yL_isSound.name none 3 70 lay.length (jj_sl lay) (12, [some (.ref 0), some (.ref 104), some (.ref q), some (.int (nI e)), none, none], [], lay, S) (64, [some (.ref 0), some (.ref 104), some (.ref q), some (.int (nI e)), some (.int (nI (P.rs e))), none], [], lay, (jj_w S 104 e (nI (((P.rs e)) + 1)))) := by
  have h130 := h.lg.1
  refine js_iload_n 3 rfl dL_isSound_12 rfl ?_
  refine js_aload_n 0 rfl dL_isSound_13 rfl ?_
  refine js_iconst (v := nI 5) dL_isSound_14 (by decide) ?_
  refine js_callV (av := [.int (nI 5)]) (st := [.int (nI e)]) (b := 0) (q_X6_many_5 hB h hK) (Or.inl rfl) jw_c_X6_many jw_i_RX6 jw_m_RL_47 jw_s_X6_many jw_e_X6_many (jl_0 hB) rfl jw_y_X6_many rfl ⟨(Nat.le_of_ble_eq_true rfl), (Nat.le_of_ble_eq_true rfl), (Nat.le_refl _), (Nat.le_refl _), (Nat.le_of_ble_eq_true rfl)⟩ dL_isSound_15 ?_
  refine js_st (st' := [.int (nI P.n), .int (nI e)]) rfl ?_
  refine jn_icmp_ge 140 (by omega) (by omega) dL_isSound_18 (by decide) (fun h9 => absurd h9 (by omega)) (fun _ => ?_)
  refine js_aload_n 0 rfl dL_isSound_21 rfl ?_
  refine js_iload_n 3 rfl dL_isSound_22 rfl ?_
  refine js_iconst (v := nI 4) dL_isSound_23 (by decide) ?_
  refine js_callV (av := [.int (nI e), .int (nI 4)]) (st := []) (b := 0) (q_X6_ofPlay_4 hB h hK (by omega)) (Or.inl rfl) jw_c_X6_ofPlay jw_i_RX6 jw_m_RL_81 jw_s_X6_ofPlay jw_e_X6_ofPlay (jl_0 hB) rfl jw_y_X6_ofPlay rfl ⟨(Nat.le_of_ble_eq_true rfl), (Nat.le_of_ble_eq_true rfl), (Nat.le_refl _), (Nat.le_refl _), (Nat.le_of_ble_eq_true rfl)⟩ dL_isSound_24 ?_
  refine js_st (st' := [.int (nI (P.rs e))]) rfl ?_
  refine js_istore (L' := [some (.ref 0), some (.ref 104), some (.ref q), some (.int (nI e)), some (.int (nI (P.rs e))), none]) dL_isSound_27 rfl (Nat.le_of_ble_eq_true rfl) ?_
  refine js_aload_n 0 rfl dL_isSound_29 rfl ?_
  refine js_iload_n 3 rfl dL_isSound_30 rfl ?_
  refine js_iconst (v := nI 5) dL_isSound_31 (by decide) ?_
  refine js_callV (av := [.int (nI e), .int (nI 5)]) (st := []) (b := 0) (q_X6_ofPlay_5t hB h hK (by omega) hc) (Or.inl rfl) jw_c_X6_ofPlay jw_i_RX6 jw_m_RL_81 jw_s_X6_ofPlay jw_e_X6_ofPlay (jl_0 hB) rfl jw_y_X6_ofPlay rfl ⟨(Nat.le_of_ble_eq_true rfl), (Nat.le_of_ble_eq_true rfl), (Nat.le_refl _), (Nat.le_refl _), (Nat.le_of_ble_eq_true rfl)⟩ dL_isSound_32 ?_
  refine js_st (st' := [.int (nI 1)]) rfl ?_
  refine js_iconst (v := nI 1) dL_isSound_35 (by decide) ?_
  refine jn_icmp_ne 64 (by omega) (by omega) dL_isSound_36 (by decide) (fun h9 => absurd h9 (by omega)) (fun _ => ?_)
  refine js_aload_n 1 rfl dL_isSound_39 rfl ?_
  refine js_iload_n 3 rfl dL_isSound_40 rfl ?_
  refine js_iald e rfl hk (by omega) (by decide) ((hkp e (by omega)).1) dL_isSound_41 ?_
  refine jn_if_le 57 (by omega) dL_isSound_42 (by decide) (fun _ => ?_) (fun h9 => absurd h9 (by omega))
  refine js_aload_n 1 rfl dL_isSound_57 rfl ?_
  refine js_iload_n 3 rfl dL_isSound_58 rfl ?_
  refine js_iload dL_isSound_59 rfl ?_
  refine js_iconst (v := nI 1) dL_isSound_61 (by decide) ?_
  refine jn_iadd dL_isSound_62 ?_
  refine js_iast e rfl hk (by omega) (by decide) dL_isSound_63 ?_
  exact jj_refl
set_option maxRecDepth 100000 in
set_option maxHeartbeats 4000000 in
theorem lA_p {lay : jj_Lay} {P : jj_P} (hB : jj_pp lay) (hk : lay[104]? = some (20, 130, [])) {q : Nat} (hq : lay[q]? = some (22, 400, jj_rf q 400)) (hrow : ∀ x, x < 400 → lay[q + 1 + x]? = some (20, 10, [])) (hq5 : 105 ≤ q) (hK : jj_K P) {S : jj_Mem} (h : jj_J S P) {kp : Nat → Nat} (hkp : jj_kp S P kp) {e : Nat} (he : e < P.n) (hc : P.mi e / 14400 < P.t / 14400) (hz : kp e = P.rs e + 1) (hr5 : P.rs e ≤ 5) : jj_R cL_isSound 6 RL yL_isSound.name none 3 70 lay.length (jj_sl lay) (12, [some (.ref 0), some (.ref 104), some (.ref q), some (.int (nI e)), none, none], [], lay, S) (64, [some (.ref 0), some (.ref 104), some (.ref q), some (.int (nI e)), some (.int (nI (P.rs e))), none], [], lay, (jj_w S 104 e (nI (((P.rs e)) + 1)))) := by
  have h130 := h.lg.1
  refine js_iload_n 3 rfl dL_isSound_12 rfl ?_
  refine js_aload_n 0 rfl dL_isSound_13 rfl ?_
  refine js_iconst (v := nI 5) dL_isSound_14 (by decide) ?_
  refine js_callV (av := [.int (nI 5)]) (st := [.int (nI e)]) (b := 0) (q_X6_many_5 hB h hK) (Or.inl rfl) jw_c_X6_many jw_i_RX6 jw_m_RL_47 jw_s_X6_many jw_e_X6_many (jl_0 hB) rfl jw_y_X6_many rfl ⟨(Nat.le_of_ble_eq_true rfl), (Nat.le_of_ble_eq_true rfl), (Nat.le_refl _), (Nat.le_refl _), (Nat.le_of_ble_eq_true rfl)⟩ dL_isSound_15 ?_
  refine js_st (st' := [.int (nI P.n), .int (nI e)]) rfl ?_
  refine jn_icmp_ge 140 (by omega) (by omega) dL_isSound_18 (by decide) (fun h9 => absurd h9 (by omega)) (fun _ => ?_)
  refine js_aload_n 0 rfl dL_isSound_21 rfl ?_
  refine js_iload_n 3 rfl dL_isSound_22 rfl ?_
  refine js_iconst (v := nI 4) dL_isSound_23 (by decide) ?_
  refine js_callV (av := [.int (nI e), .int (nI 4)]) (st := []) (b := 0) (q_X6_ofPlay_4 hB h hK (by omega)) (Or.inl rfl) jw_c_X6_ofPlay jw_i_RX6 jw_m_RL_81 jw_s_X6_ofPlay jw_e_X6_ofPlay (jl_0 hB) rfl jw_y_X6_ofPlay rfl ⟨(Nat.le_of_ble_eq_true rfl), (Nat.le_of_ble_eq_true rfl), (Nat.le_refl _), (Nat.le_refl _), (Nat.le_of_ble_eq_true rfl)⟩ dL_isSound_24 ?_
  refine js_st (st' := [.int (nI (P.rs e))]) rfl ?_
  refine js_istore (L' := [some (.ref 0), some (.ref 104), some (.ref q), some (.int (nI e)), some (.int (nI (P.rs e))), none]) dL_isSound_27 rfl (Nat.le_of_ble_eq_true rfl) ?_
  refine js_aload_n 0 rfl dL_isSound_29 rfl ?_
  refine js_iload_n 3 rfl dL_isSound_30 rfl ?_
  refine js_iconst (v := nI 5) dL_isSound_31 (by decide) ?_
  refine js_callV (av := [.int (nI e), .int (nI 5)]) (st := []) (b := 0) (q_X6_ofPlay_5t hB h hK (by omega) hc) (Or.inl rfl) jw_c_X6_ofPlay jw_i_RX6 jw_m_RL_81 jw_s_X6_ofPlay jw_e_X6_ofPlay (jl_0 hB) rfl jw_y_X6_ofPlay rfl ⟨(Nat.le_of_ble_eq_true rfl), (Nat.le_of_ble_eq_true rfl), (Nat.le_refl _), (Nat.le_refl _), (Nat.le_of_ble_eq_true rfl)⟩ dL_isSound_32 ?_
  refine js_st (st' := [.int (nI 1)]) rfl ?_
  refine js_iconst (v := nI 1) dL_isSound_35 (by decide) ?_
  refine jn_icmp_ne 64 (by omega) (by omega) dL_isSound_36 (by decide) (fun h9 => absurd h9 (by omega)) (fun _ => ?_)
  refine js_aload_n 1 rfl dL_isSound_39 rfl ?_
  refine js_iload_n 3 rfl dL_isSound_40 rfl ?_
  refine js_iald e rfl hk (by omega) (by decide) ((hkp e (by omega)).1) dL_isSound_41 ?_
  refine jn_if_le 57 (by omega) dL_isSound_42 (by decide) (fun h9 => absurd h9 (by omega)) (fun _ => ?_)
  refine js_aload_n 1 rfl dL_isSound_45 rfl ?_
  refine js_iload_n 3 rfl dL_isSound_46 rfl ?_
  refine js_iald e rfl hk (by omega) (by decide) ((hkp e (by omega)).1) dL_isSound_47 ?_
  refine js_iload dL_isSound_48 rfl ?_
  refine js_iconst (v := nI 1) dL_isSound_50 (by decide) ?_
  refine jn_iadd dL_isSound_51 ?_
  refine jn_icmp_eq 57 (by omega) (by omega) dL_isSound_52 (by decide) (fun _ => ?_) (fun h9 => absurd h9 (by omega))
  refine js_aload_n 1 rfl dL_isSound_57 rfl ?_
  refine js_iload_n 3 rfl dL_isSound_58 rfl ?_
  refine js_iload dL_isSound_59 rfl ?_
  refine js_iconst (v := nI 1) dL_isSound_61 (by decide) ?_
  refine jn_iadd dL_isSound_62 ?_
  refine js_iast e rfl hk (by omega) (by decide) dL_isSound_63 ?_
  exact jj_refl
set_option maxRecDepth 100000 in
set_option maxHeartbeats 4000000 in
theorem lB_n {lay : jj_Lay} {P : jj_P} {S : jj_Mem} {q e : Nat} (hr5 : P.rs e ≤ 5) (hz : ¬ P.rs e = 0) : jj_R cL_isSound 6 RL yL_isSound.name none 3 70 lay.length (jj_sl lay) (64, [some (.ref 0), some (.ref 104), some (.ref q), some (.int (nI e)), some (.int (nI (P.rs e))), none], [], lay, S) (12, [some (.ref 0), some (.ref 104), some (.ref q), some (.int (nI (e + 1))), none, none], [], lay, S) := by
  refine js_iload dL_isSound_64 rfl ?_
  refine jn_if_eq 72 (by omega) dL_isSound_66 (by decide) (fun h9 => absurd h9 (by omega)) (fun _ => ?_)
  refine js_goto 134 dL_isSound_69 (by decide) ?_
  refine js_iinc (v := nI (e + 1)) (L' := [some (.ref 0), some (.ref 104), some (.ref q), some (.int (nI (e + 1))), some (.int (nI (P.rs e))), none]) dL_isSound_134 rfl (jj_inc _) rfl ?_
  refine js_goto 12 dL_isSound_137 (by decide) ?_
  refine js_fgL (L' := [some (.ref 0), some (.ref 104), some (.ref q), some (.int (nI (e + 1))), none, none]) (by simp [jj_le, jj_sm]) ?_
  exact jj_refl
set_option maxRecDepth 100000 in
set_option maxHeartbeats 4000000 in
theorem lB_y {lay : jj_Lay} {P : jj_P} (hB : jj_pp lay) (hk : lay[104]? = some (20, 130, [])) {q : Nat} (hq : lay[q]? = some (22, 400, jj_rf q 400)) (hrow : ∀ x, x < 400 → lay[q + 1 + x]? = some (20, 10, [])) (hq5 : 105 ≤ q) (hK : jj_K P) {S : jj_Mem} (h : jj_J S P) {e x u y : Nat} (he : e < P.n) (hz : P.rs e = 0) (hx : 100 * P.li e + P.mi e / 1440 = x) (hx4 : x < 400) (htr : P.tr e < P.nt) (hu : P.rc (P.tr e) = u) (hu10 : u < 10) (hy : S (q + 1 + x) u = some (nI y)) (hy5 : y + 1 ≤ 5) : jj_R cL_isSound 6 RL yL_isSound.name none 3 70 lay.length (jj_sl lay) (64, [some (.ref 0), some (.ref 104), some (.ref q), some (.int (nI e)), some (.int (nI (P.rs e))), none], [], lay, S) (12, [some (.ref 0), some (.ref 104), some (.ref q), some (.int (nI (e + 1))), none, none], [], lay, (jj_w S (q + 1 + x) u (nI (y + 1)))) := by
  have h130 := h.lg.1
  have hmi9 := h.hmt e he
  have ht9 := h.ht
  have hJ2 : jj_J (jj_w S (q + 1 + x) u (nI (y + 1))) P := jj_J_eq h (fun p hp j => jj_w_neP (by omega))
  refine js_iload dL_isSound_64 rfl ?_
  refine jn_if_eq 72 (by omega) dL_isSound_66 (by decide) (fun _ => ?_) (fun h9 => absurd h9 (by omega))
  refine js_aload_n 2 rfl dL_isSound_72 rfl ?_
  refine js_bipush (v := nI 100) dL_isSound_73 (by decide) ?_
  refine js_aload_n 0 rfl dL_isSound_75 rfl ?_
  refine js_iload_n 3 rfl dL_isSound_76 rfl ?_
  refine js_iconst (v := nI 0) dL_isSound_77 (by decide) ?_
  refine js_callV (av := [.int (nI e), .int (nI 0)]) (st := [.int (nI 100), .ref q]) (b := 0) (q_X6_ofPlay_0 hB h hK (by omega)) (Or.inl rfl) jw_c_X6_ofPlay jw_i_RX6 jw_m_RL_81 jw_s_X6_ofPlay jw_e_X6_ofPlay (jl_0 hB) rfl jw_y_X6_ofPlay rfl ⟨(Nat.le_of_ble_eq_true rfl), (Nat.le_of_ble_eq_true rfl), (Nat.le_refl _), (Nat.le_refl _), (Nat.le_of_ble_eq_true rfl)⟩ dL_isSound_78 ?_
  refine js_st (st' := [.int (nI (P.li e)), .int (nI 100), .ref q]) rfl ?_
  refine jn_imul dL_isSound_81 ?_
  refine js_aload_n 0 rfl dL_isSound_82 rfl ?_
  refine js_iload_n 3 rfl dL_isSound_83 rfl ?_
  refine js_iconst (v := nI 2) dL_isSound_84 (by decide) ?_
  refine js_callV (av := [.int (nI e), .int (nI 2)]) (st := [.int (nI (100 * ((P.li e)))), .ref q]) (b := 0) (q_X6_ofPlay_2 hB h hK (by omega)) (Or.inl rfl) jw_c_X6_ofPlay jw_i_RX6 jw_m_RL_81 jw_s_X6_ofPlay jw_e_X6_ofPlay (jl_0 hB) rfl jw_y_X6_ofPlay rfl ⟨(Nat.le_of_ble_eq_true rfl), (Nat.le_of_ble_eq_true rfl), (Nat.le_refl _), (Nat.le_refl _), (Nat.le_of_ble_eq_true rfl)⟩ dL_isSound_85 ?_
  refine js_st (st' := [.int (nI (P.mi e)), .int (nI (100 * ((P.li e)))), .ref q]) rfl ?_
  refine js_sipush (v := nI 1440) dL_isSound_88 (by decide) ?_
  refine jn_idiv (by omega) (by omega) (by omega) dL_isSound_91 ?_
  refine jn_iadd dL_isSound_92 ?_
  refine js_top (y := nI x) (congrArg nI hx) ?_
  refine js_aald x rfl hq (by omega) (by decide) (jj_rf_at (by omega)) dL_isSound_93 ?_
  refine js_astore (L' := [some (.ref 0), some (.ref 104), some (.ref q), some (.int (nI e)), some (.int (nI (P.rs e))), some (.ref (q + 1 + x))]) dL_isSound_94 rfl (Nat.le_of_ble_eq_true rfl) ?_
  refine js_aload dL_isSound_96 rfl ?_
  refine js_aload_n 0 rfl dL_isSound_98 rfl ?_
  refine js_aload_n 0 rfl dL_isSound_99 rfl ?_
  refine js_iload_n 3 rfl dL_isSound_100 rfl ?_
  refine js_iconst (v := nI 1) dL_isSound_101 (by decide) ?_
  refine js_callV (av := [.int (nI e), .int (nI 1)]) (st := [.ref 0, .ref (q + 1 + x)]) (b := 0) (q_X6_ofPlay_1 hB h hK (by omega)) (Or.inl rfl) jw_c_X6_ofPlay jw_i_RX6 jw_m_RL_81 jw_s_X6_ofPlay jw_e_X6_ofPlay (jl_0 hB) rfl jw_y_X6_ofPlay rfl ⟨(Nat.le_of_ble_eq_true rfl), (Nat.le_of_ble_eq_true rfl), (Nat.le_refl _), (Nat.le_refl _), (Nat.le_of_ble_eq_true rfl)⟩ dL_isSound_102 ?_
  refine js_st (st' := [.int (nI (P.tr e)), .ref 0, .ref (q + 1 + x)]) rfl ?_
  refine js_iconst (v := nI 0) dL_isSound_105 (by decide) ?_
  refine js_callV (av := [.int (nI (P.tr e)), .int (nI 0)]) (st := [.ref (q + 1 + x)]) (b := 0) (q_X6_ofTrack_0 hB h hK htr) (Or.inl rfl) jw_c_X6_ofTrack jw_i_RX6 jw_m_RL_84 jw_s_X6_ofTrack jw_e_X6_ofTrack (jl_0 hB) rfl jw_y_X6_ofTrack rfl ⟨(Nat.le_of_ble_eq_true rfl), (Nat.le_of_ble_eq_true rfl), (Nat.le_refl _), (Nat.le_refl _), (Nat.le_of_ble_eq_true rfl)⟩ dL_isSound_106 ?_
  refine js_st (st' := [.int (nI (P.rc (P.tr e))), .ref (q + 1 + x)]) rfl ?_
  refine js_top (y := nI u) (congrArg nI hu) ?_
  refine js_dup2 rfl rfl dL_isSound_109 ?_
  refine js_iald u rfl (hrow x (by omega)) (by omega) (by decide) (hy) dL_isSound_110 ?_
  refine js_iconst (v := nI 1) dL_isSound_111 (by decide) ?_
  refine jn_iadd dL_isSound_112 ?_
  refine js_iast u rfl (hrow x (by omega)) (by omega) (by decide) dL_isSound_113 ?_
  refine js_aload dL_isSound_114 rfl ?_
  refine js_aload_n 0 rfl dL_isSound_116 rfl ?_
  refine js_aload_n 0 rfl dL_isSound_117 rfl ?_
  refine js_iload_n 3 rfl dL_isSound_118 rfl ?_
  refine js_iconst (v := nI 1) dL_isSound_119 (by decide) ?_
  refine js_callV (av := [.int (nI e), .int (nI 1)]) (st := [.ref 0, .ref (q + 1 + x)]) (b := 0) (q_X6_ofPlay_1 hB hJ2 hK (by omega)) (Or.inl rfl) jw_c_X6_ofPlay jw_i_RX6 jw_m_RL_81 jw_s_X6_ofPlay jw_e_X6_ofPlay (jl_0 hB) rfl jw_y_X6_ofPlay rfl ⟨(Nat.le_of_ble_eq_true rfl), (Nat.le_of_ble_eq_true rfl), (Nat.le_refl _), (Nat.le_refl _), (Nat.le_of_ble_eq_true rfl)⟩ dL_isSound_120 ?_
  refine js_st (st' := [.int (nI (P.tr e)), .ref 0, .ref (q + 1 + x)]) rfl ?_
  refine js_iconst (v := nI 0) dL_isSound_123 (by decide) ?_
  refine js_callV (av := [.int (nI (P.tr e)), .int (nI 0)]) (st := [.ref (q + 1 + x)]) (b := 0) (q_X6_ofTrack_0 hB hJ2 hK htr) (Or.inl rfl) jw_c_X6_ofTrack jw_i_RX6 jw_m_RL_84 jw_s_X6_ofTrack jw_e_X6_ofTrack (jl_0 hB) rfl jw_y_X6_ofTrack rfl ⟨(Nat.le_of_ble_eq_true rfl), (Nat.le_of_ble_eq_true rfl), (Nat.le_refl _), (Nat.le_refl _), (Nat.le_of_ble_eq_true rfl)⟩ dL_isSound_124 ?_
  refine js_st (st' := [.int (nI (P.rc (P.tr e))), .ref (q + 1 + x)]) rfl ?_
  refine js_top (y := nI u) (congrArg nI hu) ?_
  refine js_iald u rfl (hrow x (by omega)) (by omega) (by decide) (jj_w_at _ _ _ _) dL_isSound_127 ?_
  refine js_iconst (v := nI 5) dL_isSound_128 (by decide) ?_
  refine jn_icmp_le 134 (by omega) (by omega) dL_isSound_129 (by decide) (fun _ => ?_) (fun h9 => absurd h9 (by omega))
  refine js_iinc (v := nI (e + 1)) (L' := [some (.ref 0), some (.ref 104), some (.ref q), some (.int (nI (e + 1))), some (.int (nI (P.rs e))), some (.ref (q + 1 + x))]) dL_isSound_134 rfl (jj_inc _) rfl ?_
  refine js_goto 12 dL_isSound_137 (by decide) ?_
  refine js_fgL (L' := [some (.ref 0), some (.ref 104), some (.ref q), some (.int (nI (e + 1))), none, none]) (by simp [jj_le, jj_sm]) ?_
  exact jj_refl
set_option maxRecDepth 100000 in
set_option maxHeartbeats 4000000 in
theorem lp_L_isSound {lay : jj_Lay} {P : jj_P} (hB : jj_pp lay) (hk : lay[104]? = some (20, 130, [])) {q : Nat} (hq : lay[q]? = some (22, 400, jj_rf q 400)) (hrow : ∀ x, x < 400 → lay[q + 1 + x]? = some (20, 10, [])) (hq5 : 105 ≤ q) (hK : jj_K P) (hc4 : P.cnt ≤ 4) : ∀ (k e : Nat), e + k = P.n → ∀ (S : jj_Mem) (kp : Nat → Nat), jj_J S P → jj_kp S P kp → (∀ l, l < 4 → ∀ d, d < 100 → ∀ u, u < 10 → S (q + 1 + (100 * l + d)) u = some (nI (jj_ct (jj_pd P.li P.tr P.mi P.rs P.rc l u d) e))) → ∃ (kp' : Nat → Nat) (S' : jj_Mem), jj_RR cL_isSound 6 RL yL_isSound.name none 3 70 lay.length (jj_sl lay) (12, [some (.ref 0), some (.ref 104), some (.ref q), some (.int (nI e)), none, none], [], lay, S) (some (.int (nI 1))) .ireturn lay S' ∧ jj_kp S' P kp' ∧ (∀ p, p < 104 → ∀ j, S' p j = S p j) := by
  intro k
  induction k with
  | zero =>
    intro e he S kp h hkp hct
    have he : e = P.n := by omega
    subst he
    have h130 := h.lg.1
    refine ⟨kp, S, ⟨141, [some (.ref 0), some (.ref 104), some (.ref q), some (.int (nI P.n)), none, none], dL_isSound_141, ?_⟩, hkp, fun _ _ _ => rfl⟩
    refine js_iload_n 3 rfl dL_isSound_12 rfl ?_
    refine js_aload_n 0 rfl dL_isSound_13 rfl ?_
    refine js_iconst (v := nI 5) dL_isSound_14 (by decide) ?_
    refine js_callV (av := [.int (nI 5)]) (st := [.int (nI P.n)]) (b := 0) (q_X6_many_5 hB h hK) (Or.inl rfl) jw_c_X6_many jw_i_RX6 jw_m_RL_47 jw_s_X6_many jw_e_X6_many (jl_0 hB) rfl jw_y_X6_many rfl ⟨(Nat.le_of_ble_eq_true rfl), (Nat.le_of_ble_eq_true rfl), (Nat.le_refl _), (Nat.le_refl _), (Nat.le_of_ble_eq_true rfl)⟩ dL_isSound_15 ?_
    refine js_st (st' := [.int (nI P.n), .int (nI P.n)]) rfl ?_
    refine jn_icmp_ge 140 (by omega) (by omega) dL_isSound_18 (by decide) (fun _ => ?_) (fun h9 => absurd h9 (by omega))
    refine js_iconst (v := nI 1) dL_isSound_140 (by decide) ?_
    exact jj_refl
  | succ k ih =>
    intro e he S kp h hkp hct
    have hen : e < P.n := by omega
    have h130 := h.lg.1
    have ht9 := h.ht
    have hr5 := h.r5 e hen
    have hl4 := h.hli e hen
    have htr := h.htr e hen
    have hmi := h.hmt e hen
    have hrc := (h.tk.2.2 _ htr).2.1
    have hA : ∃ (kp1 : Nat → Nat) (S1 : jj_Mem), jj_R cL_isSound 6 RL yL_isSound.name none 3 70 lay.length (jj_sl lay) (12, [some (.ref 0), some (.ref 104), some (.ref q), some (.int (nI e)), none, none], [], lay, S) (64, [some (.ref 0), some (.ref 104), some (.ref q), some (.int (nI e)), some (.int (nI (P.rs e))), none], [], lay, S1) ∧ jj_kp S1 P kp1 ∧ (∀ p, p ≠ 104 → ∀ j, S1 p j = S p j) := by
      by_cases hc : P.mi e / 14400 < P.t / 14400
      · have hkw : jj_kp (jj_w S 104 e (nI (P.rs e + 1))) P (jj_up kp e (P.rs e + 1)) := fun j hj => by
          unfold jj_w jj_up
          by_cases c : j = e
          · rw [if_pos ⟨rfl, c⟩, if_pos c]
            rw [c]
            exact ⟨rfl, Or.inr ⟨hen, hc, rfl⟩⟩
          · rw [if_neg (fun w => c w.2), if_neg c]
            exact hkp j hj
        rcases (hkp e (by omega)).2 with hz | hz
        · exact ⟨_, _, lA_z hB hk hq hrow hq5 hK h hkp hen hc hz, hkw, fun p hp j => jj_w_neP hp⟩
        · exact ⟨_, _, lA_p hB hk hq hrow hq5 hK h hkp hen hc hz.2.2 hr5, hkw, fun p hp j => jj_w_neP hp⟩
      · exact ⟨kp, S, lA_o hB hk hq hrow hq5 hK h hkp hen hc, hkp, fun _ _ _ => rfl⟩
    obtain ⟨kp1, S1, hR1, hkp1, f1⟩ := hA
    have hJ1 : jj_J S1 P := jj_J_eq h (fun p hp j => f1 p (by omega) j)
    by_cases hz : P.rs e = 0
    · obtain ⟨x, hx⟩ : ∃ x, 100 * P.li e + P.mi e / 1440 = x := ⟨_, rfl⟩
      obtain ⟨u, hu⟩ : ∃ u, P.rc (P.tr e) = u := ⟨_, rfl⟩
      have hd : P.mi e / 1440 < 100 := by omega
      have hy := (f1 (q + 1 + (100 * P.li e + P.mi e / 1440)) (by omega) u).trans (hct (P.li e) (by omega) (P.mi e / 1440) hd u (by omega))
      rw [hx] at hy
      have hpe : jj_pd P.li P.tr P.mi P.rs P.rc (P.li e) u (P.mi e / 1440) e = true := by
        unfold jj_pd
        exact decide_eq_true ⟨hz, rfl, hu, rfl⟩
      have h5 : jj_ct (jj_pd P.li P.tr P.mi P.rs P.rc (P.li e) u (P.mi e / 1440)) e + 1 ≤ 5 := by
        have h6 := hK.2.2 (P.li e) u (P.mi e / 1440)
        have h7 : jj_ct (jj_pd P.li P.tr P.mi P.rs P.rc (P.li e) u (P.mi e / 1440)) (e + 1) ≤ jj_ct (jj_pd P.li P.tr P.mi P.rs P.rc (P.li e) u (P.mi e / 1440)) P.n := jj_ct_mono (by omega)
        have h8 : jj_ct (jj_pd P.li P.tr P.mi P.rs P.rc (P.li e) u (P.mi e / 1440)) (e + 1) = jj_ct (jj_pd P.li P.tr P.mi P.rs P.rc (P.li e) u (P.mi e / 1440)) e + jj_b (jj_pd P.li P.tr P.mi P.rs P.rc (P.li e) u (P.mi e / 1440) e) := rfl
        rw [hpe] at h8
        have h9 : jj_b true = 1 := rfl
        omega
      have hR2 := lB_y hB hk hq hrow hq5 hK hJ1 hen hz hx (by omega) htr hu (by omega) hy h5
      obtain ⟨S2, hS2⟩ : ∃ S2, S2 = jj_w S1 (q + 1 + x) u (nI (jj_ct (jj_pd P.li P.tr P.mi P.rs P.rc (P.li e) u (P.mi e / 1440)) e + 1)) := ⟨_, rfl⟩
      rw [← hS2] at hR2
      have f2 : ∀ p, p < 105 → ∀ j, S2 p j = S1 p j := fun p hp j => by rw [hS2]; exact jj_w_neP (by omega)
      obtain ⟨kp', S', hR, g1, g2⟩ := ih (e + 1) (by omega) S2 kp1 (jj_J_eq hJ1 (fun p hp j => f2 p (by omega) j)) (fun j hj => ⟨(f2 104 (by omega) j).trans (hkp1 j hj).1, (hkp1 j hj).2⟩) (fun l hl d hd2 v hv => by
        have h10 := (f1 (q + 1 + (100 * l + d)) (by omega) v).trans (hct l hl d hd2 v hv)
        have h11 : jj_ct (jj_pd P.li P.tr P.mi P.rs P.rc l v d) (e + 1) = jj_ct (jj_pd P.li P.tr P.mi P.rs P.rc l v d) e + jj_b (jj_pd P.li P.tr P.mi P.rs P.rc l v d e) := rfl
        rw [h11, hS2]
        by_cases c : l = P.li e ∧ v = u ∧ d = P.mi e / 1440
        · obtain ⟨rfl, rfl, rfl⟩ := c
          rw [hpe, hx, jj_w_at]
          rfl
        · have h12 : jj_pd P.li P.tr P.mi P.rs P.rc l v d e = false := by
            unfold jj_pd
            exact decide_eq_false (fun w => c ⟨w.2.1.symm, w.2.2.1.symm.trans hu, w.2.2.2.symm⟩)
          rw [h12]
          show jj_w S1 (q + 1 + x) u _ _ _ = _
          by_cases c2 : q + 1 + (100 * l + d) = q + 1 + x
          · have c3 : v ≠ u := fun w => c ⟨by omega, w, by omega⟩
            exact (jj_w_neI c3).trans h10
          · exact (jj_w_neP c2).trans h10)
      exact ⟨kp', S', jj_RRs (jj_tr hR1 hR2) hR, g1, fun p hp j => (g2 p hp j).trans ((f2 p (by omega) j).trans (f1 p (by omega) j))⟩
    · obtain ⟨kp', S', hR, g1, g2⟩ := ih (e + 1) (by omega) S1 kp1 hJ1 hkp1 (fun l hl d hd2 v hv => by
        have h10 := (f1 (q + 1 + (100 * l + d)) (by omega) v).trans (hct l hl d hd2 v hv)
        have h11 : jj_ct (jj_pd P.li P.tr P.mi P.rs P.rc l v d) (e + 1) = jj_ct (jj_pd P.li P.tr P.mi P.rs P.rc l v d) e + jj_b (jj_pd P.li P.tr P.mi P.rs P.rc l v d e) := rfl
        have h12 : jj_pd P.li P.tr P.mi P.rs P.rc l v d e = false := by
          unfold jj_pd
          exact decide_eq_false (fun w => hz w.1)
        rw [h11, h12]
        exact h10)
      exact ⟨kp', S', jj_RRs (jj_tr hR1 (lB_n hr5 hz)) hR, g1, fun p hp j => (g2 p hp j).trans (f1 p (by omega) j)⟩
set_option maxRecDepth 100000 in
set_option maxHeartbeats 4000000 in
theorem E_L_isSound {lay : jj_Lay} {S : jj_Mem} {P : jj_P} (hB : jj_pp lay) (hk : lay[104]? = some (20, 130, [])) (hK : jj_K P) (hc4 : P.cnt ≤ 4) (h : jj_J S P) {kp : Nat → Nat} (hkp : jj_kp S P kp) : ∃ (kp' : Nat → Nat) (S' : jj_Mem), jj_CT yL_isSound (.code yL_isSound cL_isSound 6 (some .boolean)) none 3 70 [.ref 0, .ref 104] lay S (some (.int (nI 1))) (jj_l1 lay) S' ∧ jj_kp S' P kp' ∧ (∀ p, p < 104 → ∀ j, S' p j = S p j) := by
  have hlen : 104 < lay.length := (List.getElem?_eq_some_iff.mp hk).1
  have hB1 : jj_pp (jj_l1 lay) := jj_pp_app hB
  have hk1 : (jj_l1 lay)[104]? = some (20, 130, []) := (List.getElem?_append_left hlen).trans hk
  have fz : ∀ p, p ≤ lay.length → ∀ j, jj_z S (lay.length + 1) 400 p j = S p j := fun p hp j => if_neg (by omega)
  obtain ⟨kp', S', ⟨pc', L', hd, hR⟩, g1, g2⟩ := lp_L_isSound (lay := jj_l1 lay) hB1 hk1 (jj_l1_q lay) (fun x hx => jj_l1_r lay hx) (by omega) hK hc4 P.n 0 (by omega) (jj_z S (lay.length + 1) 400) kp (jj_J_eq h (fun p hp j => fz p (by omega) j)) (fun j hj => ⟨(fz 104 (by omega) j).trans (hkp j hj).1, (hkp j hj).2⟩) (fun l hl d hd u hu => if_pos (by omega))
  refine ⟨kp', S', ?_, g1, fun p hp j => (g2 p hp j).trans (fz p (by omega) j)⟩
  refine jj_mk (L := [some (.ref 0), some (.ref 104), none, none, none, none]) (L' := L') (pc' := pc') RL (by decide) rfl rfl rfl ⟨⟨.boolean, rfl, rfl⟩, rfl⟩ hd (by rw [jj_l1_len]; omega) (by rw [jj_l1_sl]; omega) jj_l1_wy (fun _ _ w h => by cases h; trivial) (jj_tr ?_ hR)
  refine js_sipush (v := nI 400) dL_isSound_0 (by decide) ?_
  refine js_bipush (v := nI 10) dL_isSound_3 (by decide) ?_
  refine js_mnaq 400 10 (q := lay.length) rfl rfl rfl rfl rfl (Nat.le_of_ble_eq_true rfl) (Nat.le_of_ble_eq_true rfl) jw_w_RL_79 (by rw [jj_l1_len]; omega) (by rw [jj_l1_sl]; omega) dL_isSound_5 ?_
  refine js_astore_n (L' := [some (.ref 0), some (.ref 104), some (.ref lay.length), none, none, none]) 2 rfl dL_isSound_9 rfl (Nat.le_of_ble_eq_true rfl) ?_
  refine js_iconst (v := nI 0) dL_isSound_10 (by decide) ?_
  refine js_istore_n (L' := [some (.ref 0), some (.ref 104), some (.ref lay.length), some (.int (nI 0)), none, none]) 3 rfl dL_isSound_11 rfl (Nat.le_of_ble_eq_true rfl) ?_
  exact jj_refl

/-! THE LAW'S ROUND: an event. -/
def jj_Ev (S : jj_Mem) (P : jj_P) (S1 : jj_Mem) (P1 : jj_P) : Prop := jj_J S1 P1 ∧ jj_K P1 ∧ jj_T P1 ∧ jj_E P P1 ∧ P1.nt = P.nt ∧ P1.cnt = P.cnt ∧ P1.n ≤ P.n + 1 ∧ P1.t ≤ 98999 ∧ (∀ p, 103 < p → ∀ j, S1 p j = S p j)
set_option maxRecDepth 100000 in
set_option maxHeartbeats 4000000 in
theorem le_0 {lay : jj_Lay} {S : jj_Mem} {P : jj_P} (hB : jj_pp lay) (hnc : lay.length ≤ 600104) (hsc : jj_sl lay ≤ 7301313) {Ls : Nat} {xs : Nat → Int32} {i k : Nat} {b : Int32} (h : jj_J S P) (hK : jj_K P) (hT : jj_T P) (hnt : P.nt = 6) (hcnt : P.cnt = 4) (ht : P.t ≤ 98999) (hn : P.n < 130) (hk4 : k < 4) : ∃ (S1 : jj_Mem) (P1 : jj_P), jj_R cL_law 12 RL yL_law.name (some (Ls, xs)) 7 163 600104 7301313 (60, [some (.retAddr 0), some (.ref 0), some (.ref 104), some (.int (nI i)), some (.int b), some (.int (nI k)), none, none, none, none, none, none], [.int (nI 0)], lay, S) (210, [some (.retAddr 0), some (.ref 0), some (.ref 104), some (.int (nI i)), some (.int b), some (.int (nI k)), none, none, none, none, none, none], [], lay, S1) ∧ jj_Ev S P S1 P1 := by
  by_cases hc : 95000 ≤ P.t
  · refine ⟨S, P, ?_, h, hK, hT, jj_E_refl P, rfl, rfl, by omega, ht, fun _ _ _ => rfl⟩
    refine js_tabIn 88 (off := 28) dL_law_60 (by decide) (by decide) (by decide) (by decide) ?_
    refine js_aload_n 1 rfl dL_law_88 rfl ?_
    refine js_iconst (v := nI 0) dL_law_89 (by decide) ?_
    refine js_callV (av := [.int (nI 0)]) (st := []) (b := 0) (q_X6_many_0 hB h hK) (Or.inl rfl) jw_c_X6_many jw_i_RX6 jw_m_RL_47 jw_s_X6_many jw_e_X6_many (jl_0 hB) rfl jw_y_X6_many rfl ⟨(Nat.le_of_ble_eq_true rfl), (Nat.le_of_ble_eq_true rfl), hnc, hsc, (Nat.le_of_ble_eq_true rfl)⟩ dL_law_90 ?_
    refine js_st (st' := [.int (nI P.t)]) rfl ?_
    refine js_ldc dL_law_93 jw_k_RL_50 ?_
    refine js_top (y := nI 95000) (by decide) ?_
    refine jn_icmp_ge 210 (by omega) (by omega) dL_law_95 (by decide) (fun _ => ?_) (fun h9 => absurd h9 (by omega))
    exact jj_refl
  · obtain ⟨r, hr, hc1⟩ := E_below (lay := lay) (S := S) (b >>> (nI 2 &&& 31)) 4000 (by omega) (by omega)
    obtain ⟨v, S1, P1, hc2, g1, g2, g3, g4, g5, g6, g7, g8, g9, g10, g11, g12⟩ := J_pass (lay := lay) hB h hK hT (m := 1 + r) (by omega) (by omega) (by omega)
    refine ⟨S1, P1, ?_, g1, g2, g3, g4, by omega, by omega, by omega, by omega, g12⟩
    refine js_tabIn 88 (off := 28) dL_law_60 (by decide) (by decide) (by decide) (by decide) ?_
    refine js_aload_n 1 rfl dL_law_88 rfl ?_
    refine js_iconst (v := nI 0) dL_law_89 (by decide) ?_
    refine js_callV (av := [.int (nI 0)]) (st := []) (b := 0) (q_X6_many_0 hB h hK) (Or.inl rfl) jw_c_X6_many jw_i_RX6 jw_m_RL_47 jw_s_X6_many jw_e_X6_many (jl_0 hB) rfl jw_y_X6_many rfl ⟨(Nat.le_of_ble_eq_true rfl), (Nat.le_of_ble_eq_true rfl), hnc, hsc, (Nat.le_of_ble_eq_true rfl)⟩ dL_law_90 ?_
    refine js_st (st' := [.int (nI P.t)]) rfl ?_
    refine js_ldc dL_law_93 jw_k_RL_50 ?_
    refine js_top (y := nI 95000) (by decide) ?_
    refine jn_icmp_ge 210 (by omega) (by omega) dL_law_95 (by decide) (fun h9 => absurd h9 (by omega)) (fun _ => ?_)
    refine js_aload_n 1 rfl dL_law_98 rfl ?_
    refine js_iconst (v := nI 1) dL_law_99 (by decide) ?_
    refine js_iload dL_law_100 rfl ?_
    refine js_iconst (v := nI 2) dL_law_102 (by decide) ?_
    refine js_ishr dL_law_103 ?_
    refine js_sipush (v := nI 4000) dL_law_104 (by decide) ?_
    refine js_callS (av := [.int (b >>> ((nI 2) &&& 31)), .int (nI 4000)]) (st := [.int (nI 1), .ref 0]) hc1 (Or.inl rfl) jw_c_L_below jw_i_RL jw_m_RL_15 jw_s_L_below jw_y_L_below rfl ⟨(Nat.le_of_ble_eq_true rfl), (Nat.le_of_ble_eq_true rfl), hnc, hsc, (Nat.le_of_ble_eq_true rfl)⟩ dL_law_107 ?_
    refine js_st (st' := [.int (nI r), .int (nI 1), .ref 0]) rfl ?_
    refine jn_iadd dL_law_110 ?_
    refine js_callV (av := [.int (nI (1 + r))]) (st := []) (b := 0) hc2 (Or.inl rfl) jw_c_X6_pass jw_i_RX6 jw_m_RL_51 jw_s_X6_pass jw_e_X6_pass (jl_0 hB) rfl jw_y_X6_pass rfl ⟨(Nat.le_of_ble_eq_true rfl), (Nat.le_of_ble_eq_true rfl), hnc, hsc, (Nat.le_of_ble_eq_true rfl)⟩ dL_law_111 ?_
    refine js_st (st' := [.int v]) rfl ?_
    refine js_pop rfl dL_law_114 ?_
    refine js_goto 210 dL_law_115 (by decide) ?_
    exact jj_refl
set_option maxRecDepth 100000 in
set_option maxHeartbeats 4000000 in
theorem le_1 {lay : jj_Lay} {S : jj_Mem} {P : jj_P} (hB : jj_pp lay) (hnc : lay.length ≤ 600104) (hsc : jj_sl lay ≤ 7301313) {Ls : Nat} {xs : Nat → Int32} {i k : Nat} {b : Int32} (h : jj_J S P) (hK : jj_K P) (hT : jj_T P) (hnt : P.nt = 6) (hcnt : P.cnt = 4) (ht : P.t ≤ 98999) (hn : P.n < 130) (hk4 : k < 4) : ∃ (S1 : jj_Mem) (P1 : jj_P), jj_R cL_law 12 RL yL_law.name (some (Ls, xs)) 7 163 600104 7301313 (60, [some (.retAddr 0), some (.ref 0), some (.ref 104), some (.int (nI i)), some (.int b), some (.int (nI k)), none, none, none, none, none, none], [.int (nI 1)], lay, S) (210, [some (.retAddr 0), some (.ref 0), some (.ref 104), some (.int (nI i)), some (.int b), some (.int (nI k)), none, none, none, none, none, none], [], lay, S1) ∧ jj_Ev S P S1 P1 := by
  obtain ⟨r, hr, hc1⟩ := E_below (lay := lay) (S := S) (b >>> (nI 2 &&& 31)) 2 (by omega) (by omega)
  by_cases hc : r = 0
  · obtain ⟨v, S1, P1, hc2, g1, g2, g3, g4, g5, g6, g7, g8, g9, g10, g11, g12⟩ := J_flag (lay := lay) hB h hK hT (l := k) (v := 1) (by omega) (by omega)
    refine ⟨S1, P1, ?_, g1, g2, g3, g4, by omega, by omega, by omega, by omega, g12⟩
    refine js_tabIn 118 (off := 58) dL_law_60 (by decide) (by decide) (by decide) (by decide) ?_
    refine js_aload_n 1 rfl dL_law_118 rfl ?_
    refine js_iload dL_law_119 rfl ?_
    refine js_iload dL_law_121 rfl ?_
    refine js_iconst (v := nI 2) dL_law_123 (by decide) ?_
    refine js_ishr dL_law_124 ?_
    refine js_iconst (v := nI 2) dL_law_125 (by decide) ?_
    refine js_callS (av := [.int (b >>> ((nI 2) &&& 31)), .int (nI 2)]) (st := [.int (nI k), .ref 0]) hc1 (Or.inl rfl) jw_c_L_below jw_i_RL jw_m_RL_15 jw_s_L_below jw_y_L_below rfl ⟨(Nat.le_of_ble_eq_true rfl), (Nat.le_of_ble_eq_true rfl), hnc, hsc, (Nat.le_of_ble_eq_true rfl)⟩ dL_law_126 ?_
    refine js_st (st' := [.int (nI r), .int (nI k), .ref 0]) rfl ?_
    refine jn_if_ne 136 (by omega) dL_law_129 (by decide) (fun h9 => absurd h9 (by omega)) (fun _ => ?_)
    refine js_iconst (v := nI 1) dL_law_132 (by decide) ?_
    refine js_goto 137 dL_law_133 (by decide) ?_
    refine js_callV (av := [.int (nI k), .int (nI 1)]) (st := []) (b := 0) hc2 (Or.inl rfl) jw_c_X6_flag jw_i_RX6 jw_m_RL_54 jw_s_X6_flag jw_e_X6_flag (jl_0 hB) rfl jw_y_X6_flag rfl ⟨(Nat.le_of_ble_eq_true rfl), (Nat.le_of_ble_eq_true rfl), hnc, hsc, (Nat.le_of_ble_eq_true rfl)⟩ dL_law_137 ?_
    refine js_st (st' := [.int v]) rfl ?_
    refine js_pop rfl dL_law_140 ?_
    refine js_goto 210 dL_law_141 (by decide) ?_
    exact jj_refl
  · obtain ⟨v, S1, P1, hc2, g1, g2, g3, g4, g5, g6, g7, g8, g9, g10, g11, g12⟩ := J_flag (lay := lay) hB h hK hT (l := k) (v := 0) (by omega) (by omega)
    refine ⟨S1, P1, ?_, g1, g2, g3, g4, by omega, by omega, by omega, by omega, g12⟩
    refine js_tabIn 118 (off := 58) dL_law_60 (by decide) (by decide) (by decide) (by decide) ?_
    refine js_aload_n 1 rfl dL_law_118 rfl ?_
    refine js_iload dL_law_119 rfl ?_
    refine js_iload dL_law_121 rfl ?_
    refine js_iconst (v := nI 2) dL_law_123 (by decide) ?_
    refine js_ishr dL_law_124 ?_
    refine js_iconst (v := nI 2) dL_law_125 (by decide) ?_
    refine js_callS (av := [.int (b >>> ((nI 2) &&& 31)), .int (nI 2)]) (st := [.int (nI k), .ref 0]) hc1 (Or.inl rfl) jw_c_L_below jw_i_RL jw_m_RL_15 jw_s_L_below jw_y_L_below rfl ⟨(Nat.le_of_ble_eq_true rfl), (Nat.le_of_ble_eq_true rfl), hnc, hsc, (Nat.le_of_ble_eq_true rfl)⟩ dL_law_126 ?_
    refine js_st (st' := [.int (nI r), .int (nI k), .ref 0]) rfl ?_
    refine jn_if_ne 136 (by omega) dL_law_129 (by decide) (fun _ => ?_) (fun h9 => absurd h9 (by omega))
    refine js_iconst (v := nI 0) dL_law_136 (by decide) ?_
    refine js_callV (av := [.int (nI k), .int (nI 0)]) (st := []) (b := 0) hc2 (Or.inl rfl) jw_c_X6_flag jw_i_RX6 jw_m_RL_54 jw_s_X6_flag jw_e_X6_flag (jl_0 hB) rfl jw_y_X6_flag rfl ⟨(Nat.le_of_ble_eq_true rfl), (Nat.le_of_ble_eq_true rfl), hnc, hsc, (Nat.le_of_ble_eq_true rfl)⟩ dL_law_137 ?_
    refine js_st (st' := [.int v]) rfl ?_
    refine js_pop rfl dL_law_140 ?_
    refine js_goto 210 dL_law_141 (by decide) ?_
    exact jj_refl
set_option maxRecDepth 100000 in
set_option maxHeartbeats 4000000 in
theorem le_2 {lay : jj_Lay} {S : jj_Mem} {P : jj_P} (hB : jj_pp lay) (hnc : lay.length ≤ 600104) (hsc : jj_sl lay ≤ 7301313) {Ls : Nat} {xs : Nat → Int32} {i k : Nat} {b : Int32} (h : jj_J S P) (hK : jj_K P) (hT : jj_T P) (hnt : P.nt = 6) (hcnt : P.cnt = 4) (ht : P.t ≤ 98999) (hn : P.n < 130) (hk4 : k < 4) : ∃ (S1 : jj_Mem) (P1 : jj_P), jj_R cL_law 12 RL yL_law.name (some (Ls, xs)) 7 163 600104 7301313 (60, [some (.retAddr 0), some (.ref 0), some (.ref 104), some (.int (nI i)), some (.int b), some (.int (nI k)), none, none, none, none, none, none], [.int (nI 2)], lay, S) (210, [some (.retAddr 0), some (.ref 0), some (.ref 104), some (.int (nI i)), some (.int b), some (.int (nI k)), none, none, none, none, none, none], [], lay, S1) ∧ jj_Ev S P S1 P1 := by
  obtain ⟨r1, hr1, hc1⟩ := E_below (lay := lay) (S := S) (b >>> (nI 2 &&& 31)) 5 (by omega) (by omega)
  obtain ⟨r2, hr2, hc2⟩ := E_below (lay := lay) (S := S) (b >>> (nI 3 &&& 31)) 5 (by omega) (by omega)
  obtain ⟨r3, hr3, hc3⟩ := E_below (lay := lay) (S := S) (b >>> (nI 4 &&& 31)) 60 (by omega) (by omega)
  obtain ⟨v, S1, P1, hc4, g1, g2, g3, g4, g5, g6, g7, g8, g9, g10, g11, g12⟩ := J_claim (lay := lay) hB h hK hT (u := r1) (q := r2) (y := r3) (by omega) (by omega) (by omega)
  refine ⟨S1, P1, ?_, g1, g2, g3, g4, by omega, by omega, by omega, by omega, g12⟩
  refine js_tabIn 144 (off := 84) dL_law_60 (by decide) (by decide) (by decide) (by decide) ?_
  refine js_aload_n 1 rfl dL_law_144 rfl ?_
  refine js_iload dL_law_145 rfl ?_
  refine js_iconst (v := nI 2) dL_law_147 (by decide) ?_
  refine js_ishr dL_law_148 ?_
  refine js_iconst (v := nI 5) dL_law_149 (by decide) ?_
  refine js_callS (av := [.int (b >>> ((nI 2) &&& 31)), .int (nI 5)]) (st := [.ref 0]) hc1 (Or.inl rfl) jw_c_L_below jw_i_RL jw_m_RL_15 jw_s_L_below jw_y_L_below rfl ⟨(Nat.le_of_ble_eq_true rfl), (Nat.le_of_ble_eq_true rfl), hnc, hsc, (Nat.le_of_ble_eq_true rfl)⟩ dL_law_150 ?_
  refine js_st (st' := [.int (nI r1), .ref 0]) rfl ?_
  refine js_iload dL_law_153 rfl ?_
  refine js_iconst (v := nI 3) dL_law_155 (by decide) ?_
  refine js_ishr dL_law_156 ?_
  refine js_iconst (v := nI 5) dL_law_157 (by decide) ?_
  refine js_callS (av := [.int (b >>> ((nI 3) &&& 31)), .int (nI 5)]) (st := [.int (nI r1), .ref 0]) hc2 (Or.inl rfl) jw_c_L_below jw_i_RL jw_m_RL_15 jw_s_L_below jw_y_L_below rfl ⟨(Nat.le_of_ble_eq_true rfl), (Nat.le_of_ble_eq_true rfl), hnc, hsc, (Nat.le_of_ble_eq_true rfl)⟩ dL_law_158 ?_
  refine js_st (st' := [.int (nI r2), .int (nI r1), .ref 0]) rfl ?_
  refine js_iload dL_law_161 rfl ?_
  refine js_iconst (v := nI 4) dL_law_163 (by decide) ?_
  refine js_ishr dL_law_164 ?_
  refine js_bipush (v := nI 60) dL_law_165 (by decide) ?_
  refine js_callS (av := [.int (b >>> ((nI 4) &&& 31)), .int (nI 60)]) (st := [.int (nI r2), .int (nI r1), .ref 0]) hc3 (Or.inl rfl) jw_c_L_below jw_i_RL jw_m_RL_15 jw_s_L_below jw_y_L_below rfl ⟨(Nat.le_of_ble_eq_true rfl), (Nat.le_of_ble_eq_true rfl), hnc, hsc, (Nat.le_of_ble_eq_true rfl)⟩ dL_law_167 ?_
  refine js_st (st' := [.int (nI r3), .int (nI r2), .int (nI r1), .ref 0]) rfl ?_
  refine js_callV (av := [.int (nI r1), .int (nI r2), .int (nI r3)]) (st := []) (b := 0) hc4 (Or.inl rfl) jw_c_X6_claim jw_i_RX6 jw_m_RL_30 jw_s_X6_claim jw_e_X6_claim (jl_0 hB) rfl jw_y_X6_claim rfl ⟨(Nat.le_of_ble_eq_true rfl), (Nat.le_of_ble_eq_true rfl), hnc, hsc, (Nat.le_of_ble_eq_true rfl)⟩ dL_law_170 ?_
  refine js_st (st' := [.int v]) rfl ?_
  refine js_pop rfl dL_law_173 ?_
  refine js_goto 210 dL_law_174 (by decide) ?_
  exact jj_refl
set_option maxRecDepth 100000 in
set_option maxHeartbeats 4000000 in
theorem le_3 {lay : jj_Lay} {S : jj_Mem} {P : jj_P} (hB : jj_pp lay) (hnc : lay.length ≤ 600104) (hsc : jj_sl lay ≤ 7301313) {Ls : Nat} {xs : Nat → Int32} {i k : Nat} {b : Int32} (h : jj_J S P) (hK : jj_K P) (hT : jj_T P) (hnt : P.nt = 6) (hcnt : P.cnt = 4) (ht : P.t ≤ 98999) (hn : P.n < 130) (hk4 : k < 4) : ∃ (S1 : jj_Mem) (P1 : jj_P), jj_R cL_law 12 RL yL_law.name (some (Ls, xs)) 7 163 600104 7301313 (60, [some (.retAddr 0), some (.ref 0), some (.ref 104), some (.int (nI i)), some (.int b), some (.int (nI k)), none, none, none, none, none, none], [.int (nI 3)], lay, S) (210, [some (.retAddr 0), some (.ref 0), some (.ref 104), some (.int (nI i)), some (.int b), some (.int (nI k)), none, none, none, none, none, none], [], lay, S1) ∧ jj_Ev S P S1 P1 := by
  obtain ⟨r1, hr1, hc1⟩ := E_below (lay := lay) (S := S) (b >>> (nI 2 &&& 31)) 6 (by omega) (by omega)
  obtain ⟨r2, hr2, hc2⟩ := E_below (lay := lay) (S := S) (b >>> (nI 3 &&& 31)) 90 (by omega) (by omega)
  obtain ⟨v, S1, P1, hc3, g1, g2, g3, g4, g5, g6, g7, g8, g9, g10, g11, g12⟩ := E_hear (lay := lay) hB h hK hT (l := k) (u := r1) (z := 25 + r2) (by omega) (by omega) (by omega) hn
  refine ⟨S1, P1, ?_, g1, g2, g3, g4, by omega, by omega, by omega, by omega, g12⟩
  refine js_tabOut 177 dL_law_60 (by decide) (by decide) ?_
  refine js_aload_n 1 rfl dL_law_177 rfl ?_
  refine js_iload dL_law_178 rfl ?_
  refine js_iload dL_law_180 rfl ?_
  refine js_iconst (v := nI 2) dL_law_182 (by decide) ?_
  refine js_ishr dL_law_183 ?_
  refine js_bipush (v := nI 6) dL_law_184 (by decide) ?_
  refine js_callS (av := [.int (b >>> ((nI 2) &&& 31)), .int (nI 6)]) (st := [.int (nI k), .ref 0]) hc1 (Or.inl rfl) jw_c_L_below jw_i_RL jw_m_RL_15 jw_s_L_below jw_y_L_below rfl ⟨(Nat.le_of_ble_eq_true rfl), (Nat.le_of_ble_eq_true rfl), hnc, hsc, (Nat.le_of_ble_eq_true rfl)⟩ dL_law_186 ?_
  refine js_st (st' := [.int (nI r1), .int (nI k), .ref 0]) rfl ?_
  refine js_aload_n 1 rfl dL_law_189 rfl ?_
  refine js_iconst (v := nI 0) dL_law_190 (by decide) ?_
  refine js_callV (av := [.int (nI 0)]) (st := [.int (nI r1), .int (nI k), .ref 0]) (b := 0) (q_X6_many_0 hB h hK) (Or.inl rfl) jw_c_X6_many jw_i_RX6 jw_m_RL_47 jw_s_X6_many jw_e_X6_many (jl_0 hB) rfl jw_y_X6_many rfl ⟨(Nat.le_of_ble_eq_true rfl), (Nat.le_of_ble_eq_true rfl), hnc, hsc, (Nat.le_of_ble_eq_true rfl)⟩ dL_law_191 ?_
  refine js_st (st' := [.int (nI P.t), .int (nI r1), .int (nI k), .ref 0]) rfl ?_
  refine js_bipush (v := nI 25) dL_law_194 (by decide) ?_
  refine js_iload dL_law_196 rfl ?_
  refine js_iconst (v := nI 3) dL_law_198 (by decide) ?_
  refine js_ishr dL_law_199 ?_
  refine js_bipush (v := nI 90) dL_law_200 (by decide) ?_
  refine js_callS (av := [.int (b >>> ((nI 3) &&& 31)), .int (nI 90)]) (st := [.int (nI 25), .int (nI P.t), .int (nI r1), .int (nI k), .ref 0]) hc2 (Or.inl rfl) jw_c_L_below jw_i_RL jw_m_RL_15 jw_s_L_below jw_y_L_below rfl ⟨(Nat.le_of_ble_eq_true rfl), (Nat.le_of_ble_eq_true rfl), hnc, hsc, (Nat.le_of_ble_eq_true rfl)⟩ dL_law_202 ?_
  refine js_st (st' := [.int (nI r2), .int (nI 25), .int (nI P.t), .int (nI r1), .int (nI k), .ref 0]) rfl ?_
  refine jn_iadd dL_law_205 ?_
  refine js_callSW (av := [.ref 0, .int (nI k), .int (nI r1), .int (nI P.t), .int (nI (25 + r2))]) (st := []) hc3 (Or.inl rfl) jw_c_L_hear jw_i_RL jw_m_RL_58 jw_s_L_hear jw_y_L_hear rfl ⟨(Nat.le_of_ble_eq_true rfl), (Nat.le_of_ble_eq_true rfl), hnc, hsc, (Nat.le_of_ble_eq_true rfl)⟩ dL_law_206 ?_
  refine js_st (st' := [.int v]) rfl ?_
  refine js_pop rfl dL_law_209 ?_
  exact jj_refl
set_option maxRecDepth 100000 in
set_option maxHeartbeats 4000000 in
theorem le_4 {lay : jj_Lay} {S : jj_Mem} {P : jj_P} (hB : jj_pp lay) (hnc : lay.length ≤ 600104) (hsc : jj_sl lay ≤ 7301313) {Ls : Nat} {xs : Nat → Int32} {i k : Nat} {b : Int32} (h : jj_J S P) (hK : jj_K P) (hT : jj_T P) (hnt : P.nt = 6) (hcnt : P.cnt = 4) (ht : P.t ≤ 98999) (hn : P.n < 130) (hk4 : k < 4) : ∃ (S1 : jj_Mem) (P1 : jj_P), jj_R cL_law 12 RL yL_law.name (some (Ls, xs)) 7 163 600104 7301313 (60, [some (.retAddr 0), some (.ref 0), some (.ref 104), some (.int (nI i)), some (.int b), some (.int (nI k)), none, none, none, none, none, none], [.int (nI 4)], lay, S) (210, [some (.retAddr 0), some (.ref 0), some (.ref 104), some (.int (nI i)), some (.int b), some (.int (nI k)), none, none, none, none, none, none], [], lay, S1) ∧ jj_Ev S P S1 P1 := by
  obtain ⟨r1, hr1, hc1⟩ := E_below (lay := lay) (S := S) (b >>> (nI 2 &&& 31)) 6 (by omega) (by omega)
  obtain ⟨r2, hr2, hc2⟩ := E_below (lay := lay) (S := S) (b >>> (nI 3 &&& 31)) 90 (by omega) (by omega)
  obtain ⟨v, S1, P1, hc3, g1, g2, g3, g4, g5, g6, g7, g8, g9, g10, g11, g12⟩ := E_hear (lay := lay) hB h hK hT (l := k) (u := r1) (z := 25 + r2) (by omega) (by omega) (by omega) hn
  refine ⟨S1, P1, ?_, g1, g2, g3, g4, by omega, by omega, by omega, by omega, g12⟩
  refine js_tabOut 177 dL_law_60 (by decide) (by decide) ?_
  refine js_aload_n 1 rfl dL_law_177 rfl ?_
  refine js_iload dL_law_178 rfl ?_
  refine js_iload dL_law_180 rfl ?_
  refine js_iconst (v := nI 2) dL_law_182 (by decide) ?_
  refine js_ishr dL_law_183 ?_
  refine js_bipush (v := nI 6) dL_law_184 (by decide) ?_
  refine js_callS (av := [.int (b >>> ((nI 2) &&& 31)), .int (nI 6)]) (st := [.int (nI k), .ref 0]) hc1 (Or.inl rfl) jw_c_L_below jw_i_RL jw_m_RL_15 jw_s_L_below jw_y_L_below rfl ⟨(Nat.le_of_ble_eq_true rfl), (Nat.le_of_ble_eq_true rfl), hnc, hsc, (Nat.le_of_ble_eq_true rfl)⟩ dL_law_186 ?_
  refine js_st (st' := [.int (nI r1), .int (nI k), .ref 0]) rfl ?_
  refine js_aload_n 1 rfl dL_law_189 rfl ?_
  refine js_iconst (v := nI 0) dL_law_190 (by decide) ?_
  refine js_callV (av := [.int (nI 0)]) (st := [.int (nI r1), .int (nI k), .ref 0]) (b := 0) (q_X6_many_0 hB h hK) (Or.inl rfl) jw_c_X6_many jw_i_RX6 jw_m_RL_47 jw_s_X6_many jw_e_X6_many (jl_0 hB) rfl jw_y_X6_many rfl ⟨(Nat.le_of_ble_eq_true rfl), (Nat.le_of_ble_eq_true rfl), hnc, hsc, (Nat.le_of_ble_eq_true rfl)⟩ dL_law_191 ?_
  refine js_st (st' := [.int (nI P.t), .int (nI r1), .int (nI k), .ref 0]) rfl ?_
  refine js_bipush (v := nI 25) dL_law_194 (by decide) ?_
  refine js_iload dL_law_196 rfl ?_
  refine js_iconst (v := nI 3) dL_law_198 (by decide) ?_
  refine js_ishr dL_law_199 ?_
  refine js_bipush (v := nI 90) dL_law_200 (by decide) ?_
  refine js_callS (av := [.int (b >>> ((nI 3) &&& 31)), .int (nI 90)]) (st := [.int (nI 25), .int (nI P.t), .int (nI r1), .int (nI k), .ref 0]) hc2 (Or.inl rfl) jw_c_L_below jw_i_RL jw_m_RL_15 jw_s_L_below jw_y_L_below rfl ⟨(Nat.le_of_ble_eq_true rfl), (Nat.le_of_ble_eq_true rfl), hnc, hsc, (Nat.le_of_ble_eq_true rfl)⟩ dL_law_202 ?_
  refine js_st (st' := [.int (nI r2), .int (nI 25), .int (nI P.t), .int (nI r1), .int (nI k), .ref 0]) rfl ?_
  refine jn_iadd dL_law_205 ?_
  refine js_callSW (av := [.ref 0, .int (nI k), .int (nI r1), .int (nI P.t), .int (nI (25 + r2))]) (st := []) hc3 (Or.inl rfl) jw_c_L_hear jw_i_RL jw_m_RL_58 jw_s_L_hear jw_y_L_hear rfl ⟨(Nat.le_of_ble_eq_true rfl), (Nat.le_of_ble_eq_true rfl), hnc, hsc, (Nat.le_of_ble_eq_true rfl)⟩ dL_law_206 ?_
  refine js_st (st' := [.int v]) rfl ?_
  refine js_pop rfl dL_law_209 ?_
  exact jj_refl
set_option maxRecDepth 100000 in
set_option maxHeartbeats 4000000 in
theorem le_5 {lay : jj_Lay} {S : jj_Mem} {P : jj_P} (hB : jj_pp lay) (hnc : lay.length ≤ 600104) (hsc : jj_sl lay ≤ 7301313) {Ls : Nat} {xs : Nat → Int32} {i k : Nat} {b : Int32} (h : jj_J S P) (hK : jj_K P) (hT : jj_T P) (hnt : P.nt = 6) (hcnt : P.cnt = 4) (ht : P.t ≤ 98999) (hn : P.n < 130) (hk4 : k < 4) : ∃ (S1 : jj_Mem) (P1 : jj_P), jj_R cL_law 12 RL yL_law.name (some (Ls, xs)) 7 163 600104 7301313 (60, [some (.retAddr 0), some (.ref 0), some (.ref 104), some (.int (nI i)), some (.int b), some (.int (nI k)), none, none, none, none, none, none], [.int (nI 5)], lay, S) (210, [some (.retAddr 0), some (.ref 0), some (.ref 104), some (.int (nI i)), some (.int b), some (.int (nI k)), none, none, none, none, none, none], [], lay, S1) ∧ jj_Ev S P S1 P1 := by
  obtain ⟨r1, hr1, hc1⟩ := E_below (lay := lay) (S := S) (b >>> (nI 2 &&& 31)) 6 (by omega) (by omega)
  obtain ⟨r2, hr2, hc2⟩ := E_below (lay := lay) (S := S) (b >>> (nI 3 &&& 31)) 90 (by omega) (by omega)
  obtain ⟨v, S1, P1, hc3, g1, g2, g3, g4, g5, g6, g7, g8, g9, g10, g11, g12⟩ := E_hear (lay := lay) hB h hK hT (l := k) (u := r1) (z := 25 + r2) (by omega) (by omega) (by omega) hn
  refine ⟨S1, P1, ?_, g1, g2, g3, g4, by omega, by omega, by omega, by omega, g12⟩
  refine js_tabOut 177 dL_law_60 (by decide) (by decide) ?_
  refine js_aload_n 1 rfl dL_law_177 rfl ?_
  refine js_iload dL_law_178 rfl ?_
  refine js_iload dL_law_180 rfl ?_
  refine js_iconst (v := nI 2) dL_law_182 (by decide) ?_
  refine js_ishr dL_law_183 ?_
  refine js_bipush (v := nI 6) dL_law_184 (by decide) ?_
  refine js_callS (av := [.int (b >>> ((nI 2) &&& 31)), .int (nI 6)]) (st := [.int (nI k), .ref 0]) hc1 (Or.inl rfl) jw_c_L_below jw_i_RL jw_m_RL_15 jw_s_L_below jw_y_L_below rfl ⟨(Nat.le_of_ble_eq_true rfl), (Nat.le_of_ble_eq_true rfl), hnc, hsc, (Nat.le_of_ble_eq_true rfl)⟩ dL_law_186 ?_
  refine js_st (st' := [.int (nI r1), .int (nI k), .ref 0]) rfl ?_
  refine js_aload_n 1 rfl dL_law_189 rfl ?_
  refine js_iconst (v := nI 0) dL_law_190 (by decide) ?_
  refine js_callV (av := [.int (nI 0)]) (st := [.int (nI r1), .int (nI k), .ref 0]) (b := 0) (q_X6_many_0 hB h hK) (Or.inl rfl) jw_c_X6_many jw_i_RX6 jw_m_RL_47 jw_s_X6_many jw_e_X6_many (jl_0 hB) rfl jw_y_X6_many rfl ⟨(Nat.le_of_ble_eq_true rfl), (Nat.le_of_ble_eq_true rfl), hnc, hsc, (Nat.le_of_ble_eq_true rfl)⟩ dL_law_191 ?_
  refine js_st (st' := [.int (nI P.t), .int (nI r1), .int (nI k), .ref 0]) rfl ?_
  refine js_bipush (v := nI 25) dL_law_194 (by decide) ?_
  refine js_iload dL_law_196 rfl ?_
  refine js_iconst (v := nI 3) dL_law_198 (by decide) ?_
  refine js_ishr dL_law_199 ?_
  refine js_bipush (v := nI 90) dL_law_200 (by decide) ?_
  refine js_callS (av := [.int (b >>> ((nI 3) &&& 31)), .int (nI 90)]) (st := [.int (nI 25), .int (nI P.t), .int (nI r1), .int (nI k), .ref 0]) hc2 (Or.inl rfl) jw_c_L_below jw_i_RL jw_m_RL_15 jw_s_L_below jw_y_L_below rfl ⟨(Nat.le_of_ble_eq_true rfl), (Nat.le_of_ble_eq_true rfl), hnc, hsc, (Nat.le_of_ble_eq_true rfl)⟩ dL_law_202 ?_
  refine js_st (st' := [.int (nI r2), .int (nI 25), .int (nI P.t), .int (nI r1), .int (nI k), .ref 0]) rfl ?_
  refine jn_iadd dL_law_205 ?_
  refine js_callSW (av := [.ref 0, .int (nI k), .int (nI r1), .int (nI P.t), .int (nI (25 + r2))]) (st := []) hc3 (Or.inl rfl) jw_c_L_hear jw_i_RL jw_m_RL_58 jw_s_L_hear jw_y_L_hear rfl ⟨(Nat.le_of_ble_eq_true rfl), (Nat.le_of_ble_eq_true rfl), hnc, hsc, (Nat.le_of_ble_eq_true rfl)⟩ dL_law_206 ?_
  refine js_st (st' := [.int v]) rfl ?_
  refine js_pop rfl dL_law_209 ?_
  exact jj_refl
set_option maxRecDepth 100000 in
set_option maxHeartbeats 4000000 in
theorem lr_ev {lay : jj_Lay} {S : jj_Mem} {P : jj_P} (hB : jj_pp lay) (hnc : lay.length ≤ 600104) (hsc : jj_sl lay ≤ 7301313) {Ls : Nat} {xs : Nat → Int32} {i : Nat} (hLs : Ls ≤ 260) (hi : i < 34) (h : jj_J S P) (hK : jj_K P) (hT : jj_T P) (hnt : P.nt = 6) (hcnt : P.cnt = 4) (ht : P.t ≤ 98999) (hn : P.n < 130) : ∃ (S1 : jj_Mem) (P1 : jj_P), jj_R cL_law 12 RL yL_law.name (some (Ls, xs)) 7 163 600104 7301313 (22, [some (.retAddr 0), some (.ref 0), some (.ref 104), some (.int (nI i)), none, none, none, none, none, none, none, none], [], lay, S) (210, [some (.retAddr 0), some (.ref 0), some (.ref 104), some (.int (nI i)), none, none, none, none, none, none, none, none], [], lay, S1) ∧ jj_Ev S P S1 P1 := by
  obtain ⟨x, hc1⟩ := E_cell (lay := lay) (S := S) (xs := xs) hLs (i % 16) (by omega)
  obtain ⟨k, hk4, hc2⟩ := E_below (lay := lay) (S := S) ((x + (nI (41 * i))) >>> (nI 1 &&& 31)) 4 (by omega) (by omega)
  obtain ⟨s, hs6, hc3⟩ := E_below (lay := lay) (S := S) (x + (nI (41 * i))) 6 (by omega) (by omega)
  have hE : ∃ (S1 : jj_Mem) (P1 : jj_P), jj_R cL_law 12 RL yL_law.name (some (Ls, xs)) 7 163 600104 7301313 (60, [some (.retAddr 0), some (.ref 0), some (.ref 104), some (.int (nI i)), some (.int (x + (nI (41 * i)))), some (.int (nI k)), none, none, none, none, none, none], [.int (nI s)], lay, S) (210, [some (.retAddr 0), some (.ref 0), some (.ref 104), some (.int (nI i)), some (.int (x + (nI (41 * i)))), some (.int (nI k)), none, none, none, none, none, none], [], lay, S1) ∧ jj_Ev S P S1 P1 := by
    rcases (show s = 0 ∨ s = 1 ∨ s = 2 ∨ s = 3 ∨ s = 4 ∨ s = 5 by omega) with rfl | rfl | rfl | rfl | rfl | rfl
    · exact le_0 hB hnc hsc h hK hT hnt hcnt ht hn hk4
    · exact le_1 hB hnc hsc h hK hT hnt hcnt ht hn hk4
    · exact le_2 hB hnc hsc h hK hT hnt hcnt ht hn hk4
    · exact le_3 hB hnc hsc h hK hT hnt hcnt ht hn hk4
    · exact le_4 hB hnc hsc h hK hT hnt hcnt ht hn hk4
    · exact le_5 hB hnc hsc h hK hT hnt hcnt ht hn hk4
  obtain ⟨S1, P1, hR, hEv⟩ := hE
  refine ⟨S1, P1, jj_tr ?_ (jj_tr hR ?_), hEv⟩
  · refine js_iload_n 3 rfl dL_law_22 rfl ?_
    refine js_bipush (v := nI 34) dL_law_23 (by decide) ?_
    refine jn_icmp_ge 392 (by omega) (by omega) dL_law_25 (by decide) (fun h9 => absurd h9 (by omega)) (fun _ => ?_)
    refine js_xload_n 0 rfl dL_law_28 rfl ?_
    refine js_iload_n 3 rfl dL_law_29 rfl ?_
    refine js_bipush (v := nI 16) dL_law_30 (by decide) ?_
    refine jn_irem (by omega) (by omega) (by omega) dL_law_32 ?_
    refine js_callS (av := [.retAddr 0, .int (nI (i % 16))]) (st := []) hc1 (Or.inr rfl) jw_c_L_cell jw_i_RL jw_m_RL_9 jw_s_L_cell jw_y_L_cell rfl ⟨(Nat.le_of_ble_eq_true rfl), (Nat.le_of_ble_eq_true rfl), hnc, hsc, (Nat.le_of_ble_eq_true rfl)⟩ dL_law_33 ?_
    refine js_st (st' := [.int x]) rfl ?_
    refine js_bipush (v := nI 41) dL_law_36 (by decide) ?_
    refine js_iload_n 3 rfl dL_law_38 rfl ?_
    refine jn_imul dL_law_39 ?_
    refine js_iadd dL_law_40 ?_
    refine js_istore (L' := [some (.retAddr 0), some (.ref 0), some (.ref 104), some (.int (nI i)), some (.int (x + (nI (41 * i)))), none, none, none, none, none, none, none]) dL_law_41 rfl (Nat.le_of_ble_eq_true rfl) ?_
    refine js_iload dL_law_43 rfl ?_
    refine js_iconst (v := nI 1) dL_law_45 (by decide) ?_
    refine js_ishr dL_law_46 ?_
    refine js_iconst (v := nI 4) dL_law_47 (by decide) ?_
    refine js_callS (av := [.int ((x + (nI (41 * i))) >>> ((nI 1) &&& 31)), .int (nI 4)]) (st := []) hc2 (Or.inl rfl) jw_c_L_below jw_i_RL jw_m_RL_15 jw_s_L_below jw_y_L_below rfl ⟨(Nat.le_of_ble_eq_true rfl), (Nat.le_of_ble_eq_true rfl), hnc, hsc, (Nat.le_of_ble_eq_true rfl)⟩ dL_law_48 ?_
    refine js_st (st' := [.int (nI k)]) rfl ?_
    refine js_istore (L' := [some (.retAddr 0), some (.ref 0), some (.ref 104), some (.int (nI i)), some (.int (x + (nI (41 * i)))), some (.int (nI k)), none, none, none, none, none, none]) dL_law_51 rfl (Nat.le_of_ble_eq_true rfl) ?_
    refine js_iload dL_law_53 rfl ?_
    refine js_bipush (v := nI 6) dL_law_55 (by decide) ?_
    refine js_callS (av := [.int (x + (nI (41 * i))), .int (nI 6)]) (st := []) hc3 (Or.inl rfl) jw_c_L_below jw_i_RL jw_m_RL_15 jw_s_L_below jw_y_L_below rfl ⟨(Nat.le_of_ble_eq_true rfl), (Nat.le_of_ble_eq_true rfl), hnc, hsc, (Nat.le_of_ble_eq_true rfl)⟩ dL_law_57 ?_
    refine js_st (st' := [.int (nI s)]) rfl ?_
    exact jj_refl
  · refine js_fgL (L' := [some (.retAddr 0), some (.ref 0), some (.ref 104), some (.int (nI i)), none, none, none, none, none, none, none, none]) (by simp [jj_le, jj_sm]) ?_
    exact jj_refl

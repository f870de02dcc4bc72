/-! THE LAW'S ROUND: the money, and whether it is sound. -/
def jj_M (S : jj_Mem) (q : Nat) : jj_Mem := fun p j => if p = q then (if j < 3 then some (nI (jj_fee j)) else none) else if p = q + 1 then (if j < 10 then some (nI (8 + j)) else none) else if p < q then S p j else none
set_option maxRecDepth 100000 in
set_option maxHeartbeats 4000000 in
theorem jj_M_le {S : jj_Mem} {q : Nat} : ∀ p j x, jj_M S q p j = some x → (jj_w (jj_w (jj_w (jj_w (jj_w (jj_w (jj_w (jj_w (jj_w (jj_w (jj_z (jj_w (jj_w (jj_w (jj_z S q 1) q 0 (nI 200)) q 1 (nI 1000)) q 2 (nI 500)) (q + 1) 1) (q + 1) 0 (nI 8)) (q + 1) 1 (nI 9)) (q + 1) 2 (nI 10)) (q + 1) 3 (nI 11)) (q + 1) 4 (nI 12)) (q + 1) 5 (nI 13)) (q + 1) 6 (nI 14)) (q + 1) 7 (nI 15)) (q + 1) 8 (nI 16)) (q + 1) 9 (nI 17)) p j = some x := by
  intro p j x hx
  unfold jj_M at hx
  by_cases c1 : p = q
  · rw [if_pos c1] at hx
    by_cases c2 : j < 3
    · rw [if_pos c2] at hx
      rw [c1, ← hx]
      rcases (show j = 0 ∨ j = 1 ∨ j = 2 by omega) with rfl | rfl | rfl
      · exact (jj_w_neP (by omega)).trans ((jj_w_neP (by omega)).trans ((jj_w_neP (by omega)).trans ((jj_w_neP (by omega)).trans ((jj_w_neP (by omega)).trans ((jj_w_neP (by omega)).trans ((jj_w_neP (by omega)).trans ((jj_w_neP (by omega)).trans ((jj_w_neP (by omega)).trans ((jj_w_neP (by omega)).trans (((if_neg (by omega) : jj_z _ (q + 1) 1 _ _ = _)).trans ((jj_w_neI (by decide)).trans ((jj_w_neI (by decide)).trans (jj_w_at _ _ _ _)))))))))))))
      · exact (jj_w_neP (by omega)).trans ((jj_w_neP (by omega)).trans ((jj_w_neP (by omega)).trans ((jj_w_neP (by omega)).trans ((jj_w_neP (by omega)).trans ((jj_w_neP (by omega)).trans ((jj_w_neP (by omega)).trans ((jj_w_neP (by omega)).trans ((jj_w_neP (by omega)).trans ((jj_w_neP (by omega)).trans (((if_neg (by omega) : jj_z _ (q + 1) 1 _ _ = _)).trans ((jj_w_neI (by decide)).trans (jj_w_at _ _ _ _))))))))))))
      · exact (jj_w_neP (by omega)).trans ((jj_w_neP (by omega)).trans ((jj_w_neP (by omega)).trans ((jj_w_neP (by omega)).trans ((jj_w_neP (by omega)).trans ((jj_w_neP (by omega)).trans ((jj_w_neP (by omega)).trans ((jj_w_neP (by omega)).trans ((jj_w_neP (by omega)).trans ((jj_w_neP (by omega)).trans (((if_neg (by omega) : jj_z _ (q + 1) 1 _ _ = _)).trans (jj_w_at _ _ _ _)))))))))))
    · rw [if_neg c2] at hx; cases hx
  · rw [if_neg c1] at hx
    by_cases c3 : p = q + 1
    · rw [if_pos c3] at hx
      by_cases c2 : j < 10
      · rw [if_pos c2] at hx
        rw [c3, ← hx]
        rcases (show j = 0 ∨ j = 1 ∨ j = 2 ∨ j = 3 ∨ j = 4 ∨ j = 5 ∨ j = 6 ∨ j = 7 ∨ j = 8 ∨ j = 9 by omega) with rfl | rfl | rfl | rfl | rfl | rfl | rfl | rfl | rfl | rfl
        · exact (jj_w_neI (by decide)).trans ((jj_w_neI (by decide)).trans ((jj_w_neI (by decide)).trans ((jj_w_neI (by decide)).trans ((jj_w_neI (by decide)).trans ((jj_w_neI (by decide)).trans ((jj_w_neI (by decide)).trans ((jj_w_neI (by decide)).trans ((jj_w_neI (by decide)).trans (jj_w_at _ _ _ _)))))))))
        · exact (jj_w_neI (by decide)).trans ((jj_w_neI (by decide)).trans ((jj_w_neI (by decide)).trans ((jj_w_neI (by decide)).trans ((jj_w_neI (by decide)).trans ((jj_w_neI (by decide)).trans ((jj_w_neI (by decide)).trans ((jj_w_neI (by decide)).trans (jj_w_at _ _ _ _))))))))
        · exact (jj_w_neI (by decide)).trans ((jj_w_neI (by decide)).trans ((jj_w_neI (by decide)).trans ((jj_w_neI (by decide)).trans ((jj_w_neI (by decide)).trans ((jj_w_neI (by decide)).trans ((jj_w_neI (by decide)).trans (jj_w_at _ _ _ _)))))))
        · exact (jj_w_neI (by decide)).trans ((jj_w_neI (by decide)).trans ((jj_w_neI (by decide)).trans ((jj_w_neI (by decide)).trans ((jj_w_neI (by decide)).trans ((jj_w_neI (by decide)).trans (jj_w_at _ _ _ _))))))
        · exact (jj_w_neI (by decide)).trans ((jj_w_neI (by decide)).trans ((jj_w_neI (by decide)).trans ((jj_w_neI (by decide)).trans ((jj_w_neI (by decide)).trans (jj_w_at _ _ _ _)))))
        · exact (jj_w_neI (by decide)).trans ((jj_w_neI (by decide)).trans ((jj_w_neI (by decide)).trans ((jj_w_neI (by decide)).trans (jj_w_at _ _ _ _))))
        · exact (jj_w_neI (by decide)).trans ((jj_w_neI (by decide)).trans ((jj_w_neI (by decide)).trans (jj_w_at _ _ _ _)))
        · exact (jj_w_neI (by decide)).trans ((jj_w_neI (by decide)).trans (jj_w_at _ _ _ _))
        · exact (jj_w_neI (by decide)).trans (jj_w_at _ _ _ _)
        · exact jj_w_at _ _ _ _
      · rw [if_neg c2] at hx; cases hx
    · rw [if_neg c3] at hx
      by_cases c4 : p < q
      · rw [if_pos c4] at hx
        rw [← hx]
        exact (jj_w_neP (by omega)).trans ((jj_w_neP (by omega)).trans ((jj_w_neP (by omega)).trans ((jj_w_neP (by omega)).trans ((jj_w_neP (by omega)).trans ((jj_w_neP (by omega)).trans ((jj_w_neP (by omega)).trans ((jj_w_neP (by omega)).trans ((jj_w_neP (by omega)).trans ((jj_w_neP (by omega)).trans (((if_neg (by omega) : jj_z _ (q + 1) 1 _ _ = _)).trans ((jj_w_neP (by omega)).trans ((jj_w_neP (by omega)).trans ((jj_w_neP (by omega)).trans ((if_neg (by omega) : jj_z _ q 1 _ _ = _)))))))))))))))
      · rw [if_neg c4] at hx; cases hx
set_option maxRecDepth 100000 in
set_option maxHeartbeats 4000000 in
theorem lr_arr {lay : jj_Lay} {S : jj_Mem} (hB : jj_pp lay) {q : Nat} (hq : lay.length = q) (hq5 : 105 ≤ q) (hnc : q + 2 ≤ 600104) (hsc : jj_sl lay + 13 ≤ 7301313) {Ls : Nat} {xs : Nat → Int32} {i : Nat} : jj_R cL_law 12 RL yL_law.name (some (Ls, xs)) 7 163 600104 7301313 (210, [some (.retAddr 0), some (.ref 0), some (.ref 104), some (.int (nI i)), none, none, none, none, none, none, none, none], [], lay, S) (304, [some (.retAddr 0), some (.ref 0), some (.ref 104), some (.int (nI i)), none, none, some (.ref q), some (.int (nI 0)), some (.ref (q + 1)), some (.int (nI 10)), some (.int (nI 0)), none], [], (lay ++ [(20, 3, [])] ++ [(20, 10, [])]), jj_M S q) := by
  have h2l : (lay ++ [(20, 3, [])]).length = q + 1 := by rw [List.length_append, hq]; rfl
  have h2q : (lay ++ [(20, 3, [])])[q]? = some (20, 3, []) := by rw [← hq, List.getElem?_append_right (Nat.le_refl _), Nat.sub_self]; rfl
  have h3q : (lay ++ [(20, 3, [])] ++ [(20, 10, [])])[q]? = some (20, 3, []) := (List.getElem?_append_left (by omega)).trans h2q
  have h3q1 : (lay ++ [(20, 3, [])] ++ [(20, 10, [])])[q + 1]? = some (20, 10, []) := by rw [← h2l, List.getElem?_append_right (Nat.le_refl _), Nat.sub_self]; rfl
  have h2s : jj_sl (lay ++ [(20, 3, [])]) = jj_sl lay + 3 := jj_sl_app _ _
  refine js_iconst (v := nI 3) dL_law_210 (by decide) ?_
  refine js_newIq (lay := lay) (lay' := (lay ++ [(20, 3, [])])) 3 (q := q) hq rfl rfl rfl (Nat.le_of_ble_eq_true rfl) (by omega) (by omega) dL_law_211 ?_
  refine js_dup rfl dL_law_213 ?_
  refine js_iconst (v := nI 0) dL_law_214 (by decide) ?_
  refine js_sipush (v := nI 200) dL_law_215 (by decide) ?_
  refine js_iast 0 rfl h2q (by omega) (by decide) dL_law_218 ?_
  refine js_dup rfl dL_law_219 ?_
  refine js_iconst (v := nI 1) dL_law_220 (by decide) ?_
  refine js_sipush (v := nI 1000) dL_law_221 (by decide) ?_
  refine js_iast 1 rfl h2q (by omega) (by decide) dL_law_224 ?_
  refine js_dup rfl dL_law_225 ?_
  refine js_iconst (v := nI 2) dL_law_226 (by decide) ?_
  refine js_sipush (v := nI 500) dL_law_227 (by decide) ?_
  refine js_iast 2 rfl h2q (by omega) (by decide) dL_law_230 ?_
  refine js_astore (L' := [some (.retAddr 0), some (.ref 0), some (.ref 104), some (.int (nI i)), none, none, some (.ref q), none, none, none, none, none]) dL_law_231 rfl (Nat.le_of_ble_eq_true rfl) ?_
  refine js_iconst (v := nI 0) dL_law_233 (by decide) ?_
  refine js_istore (L' := [some (.retAddr 0), some (.ref 0), some (.ref 104), some (.int (nI i)), none, none, some (.ref q), some (.int (nI 0)), none, none, none, none]) dL_law_234 rfl (Nat.le_of_ble_eq_true rfl) ?_
  refine js_bipush (v := nI 10) dL_law_236 (by decide) ?_
  refine js_newIq (lay := (lay ++ [(20, 3, [])])) (lay' := (lay ++ [(20, 3, [])] ++ [(20, 10, [])])) 10 (q := q + 1) h2l rfl rfl rfl (Nat.le_of_ble_eq_true rfl) (by omega) (by omega) dL_law_238 ?_
  refine js_dup rfl dL_law_240 ?_
  refine js_iconst (v := nI 0) dL_law_241 (by decide) ?_
  refine js_bipush (v := nI 8) dL_law_242 (by decide) ?_
  refine js_iast 0 rfl h3q1 (by omega) (by decide) dL_law_244 ?_
  refine js_dup rfl dL_law_245 ?_
  refine js_iconst (v := nI 1) dL_law_246 (by decide) ?_
  refine js_bipush (v := nI 9) dL_law_247 (by decide) ?_
  refine js_iast 1 rfl h3q1 (by omega) (by decide) dL_law_249 ?_
  refine js_dup rfl dL_law_250 ?_
  refine js_iconst (v := nI 2) dL_law_251 (by decide) ?_
  refine js_bipush (v := nI 10) dL_law_252 (by decide) ?_
  refine js_iast 2 rfl h3q1 (by omega) (by decide) dL_law_254 ?_
  refine js_dup rfl dL_law_255 ?_
  refine js_iconst (v := nI 3) dL_law_256 (by decide) ?_
  refine js_bipush (v := nI 11) dL_law_257 (by decide) ?_
  refine js_iast 3 rfl h3q1 (by omega) (by decide) dL_law_259 ?_
  refine js_dup rfl dL_law_260 ?_
  refine js_iconst (v := nI 4) dL_law_261 (by decide) ?_
  refine js_bipush (v := nI 12) dL_law_262 (by decide) ?_
  refine js_iast 4 rfl h3q1 (by omega) (by decide) dL_law_264 ?_
  refine js_dup rfl dL_law_265 ?_
  refine js_iconst (v := nI 5) dL_law_266 (by decide) ?_
  refine js_bipush (v := nI 13) dL_law_267 (by decide) ?_
  refine js_iast 5 rfl h3q1 (by omega) (by decide) dL_law_269 ?_
  refine js_dup rfl dL_law_270 ?_
  refine js_bipush (v := nI 6) dL_law_271 (by decide) ?_
  refine js_bipush (v := nI 14) dL_law_273 (by decide) ?_
  refine js_iast 6 rfl h3q1 (by omega) (by decide) dL_law_275 ?_
  refine js_dup rfl dL_law_276 ?_
  refine js_bipush (v := nI 7) dL_law_277 (by decide) ?_
  refine js_bipush (v := nI 15) dL_law_279 (by decide) ?_
  refine js_iast 7 rfl h3q1 (by omega) (by decide) dL_law_281 ?_
  refine js_dup rfl dL_law_282 ?_
  refine js_bipush (v := nI 8) dL_law_283 (by decide) ?_
  refine js_bipush (v := nI 16) dL_law_285 (by decide) ?_
  refine js_iast 8 rfl h3q1 (by omega) (by decide) dL_law_287 ?_
  refine js_dup rfl dL_law_288 ?_
  refine js_bipush (v := nI 9) dL_law_289 (by decide) ?_
  refine js_bipush (v := nI 17) dL_law_291 (by decide) ?_
  refine js_iast 9 rfl h3q1 (by omega) (by decide) dL_law_293 ?_
  refine js_astore (L' := [some (.retAddr 0), some (.ref 0), some (.ref 104), some (.int (nI i)), none, none, some (.ref q), some (.int (nI 0)), some (.ref (q + 1)), none, none, none]) dL_law_294 rfl (Nat.le_of_ble_eq_true rfl) ?_
  refine js_aload dL_law_296 rfl ?_
  refine js_alen h3q1 (Or.inl rfl) rfl dL_law_298 ?_
  refine js_istore (L' := [some (.retAddr 0), some (.ref 0), some (.ref 104), some (.int (nI i)), none, none, some (.ref q), some (.int (nI 0)), some (.ref (q + 1)), some (.int (nI 10)), none, none]) dL_law_299 rfl (Nat.le_of_ble_eq_true rfl) ?_
  refine js_iconst (v := nI 0) dL_law_301 (by decide) ?_
  refine js_istore (L' := [some (.retAddr 0), some (.ref 0), some (.ref 104), some (.int (nI i)), none, none, some (.ref q), some (.int (nI 0)), some (.ref (q + 1)), some (.int (nI 10)), some (.int (nI 0)), none]) dL_law_302 rfl (Nat.le_of_ble_eq_true rfl) ?_
  refine js_fgL (L' := [some (.retAddr 0), some (.ref 0), some (.ref 104), some (.int (nI i)), none, none, some (.ref q), some (.int (nI 0)), some (.ref (q + 1)), some (.int (nI 10)), some (.int (nI 0)), none]) (by simp [jj_le, jj_sm]) ?_
  exact js_fgS jj_M_le jj_refl
set_option maxRecDepth 100000 in
set_option maxHeartbeats 4000000 in
theorem lr_sum {lay3 : jj_Lay} {S S' : jj_Mem} {P : jj_P} (hB3 : jj_pp lay3) {q : Nat} (hq5 : 105 ≤ q) (h3q : lay3[q]? = some (20, 3, [])) (h3q1 : lay3[q + 1]? = some (20, 10, [])) (hnc0 : lay3.length + 401 ≤ 600104) (hsc0 : jj_sl lay3 + 4400 ≤ 7301313) {Ls : Nat} {xs : Nat → Int32} {i : Nat} (hM : jj_J (jj_M S q) P) (hK : jj_K P) (hT : jj_T P) (hcnt : P.cnt = 4) (hct : jj_CT yL_isSound (.code yL_isSound cL_isSound 6 (some .boolean)) none 3 70 [.ref 0, .ref 104] lay3 (jj_M S q) (some (.int (nI 1))) (jj_l1 lay3) S') : jj_R cL_law 12 RL yL_law.name (some (Ls, xs)) 7 163 600104 7301313 (304, [some (.retAddr 0), some (.ref 0), some (.ref 104), some (.int (nI i)), none, none, some (.ref q), some (.int (nI 0)), some (.ref (q + 1)), some (.int (nI 10)), some (.int (nI 0)), none], [], lay3, jj_M S q) (22, [some (.retAddr 0), some (.ref 0), some (.ref 104), some (.int (nI (i + 1))), none, none, none, none, none, none, none, none], [], jj_l1 lay3, S') := by
  have hnc : lay3.length ≤ 600104 := by omega
  have hsc : jj_sl lay3 ≤ 7301313 := by omega
  have hM0 : ∀ j, j < 3 → jj_M S q q j = some (nI (jj_fee j)) := fun j hj => (if_pos rfl).trans (if_pos hj)
  have hM1 : ∀ j, j < 10 → jj_M S q (q + 1) j = some (nI (8 + j)) := fun j hj => (if_neg (by omega)).trans ((if_pos rfl).trans (if_pos hj))
  have hp0 := (hM.au.2.2.2 0 (by omega)).2
  have hp1 := (hM.au.2.2.2 1 (by omega)).2
  have hp2 := (hM.au.2.2.2 2 (by omega)).2
  have hp3 := (hM.au.2.2.2 3 (by omega)).2
  have ht9 := hM.ht
  obtain ⟨g0, hg0⟩ : ∃ g, P.t / 14400 * jj_fee (P.pl 0) = g := ⟨_, rfl⟩
  obtain ⟨g1, hg1⟩ : ∃ g, P.t / 14400 * jj_fee (P.pl 1) = g := ⟨_, rfl⟩
  obtain ⟨g2, hg2⟩ : ∃ g, P.t / 14400 * jj_fee (P.pl 2) = g := ⟨_, rfl⟩
  obtain ⟨g3, hg3⟩ : ∃ g, P.t / 14400 * jj_fee (P.pl 3) = g := ⟨_, rfl⟩
  have hs : (((((((((((((((((((0 + ((P.h)))) + ((P.x)))) + ((jj_sm P.he 10)))) + ((jj_sm P.du 5)))) + ((jj_sm P.pa 5)))) + ((jj_sm P.re 5)))) + ((P.ca 0)))) + ((P.ca 1)))) + ((P.ca 2)))) + ((P.ca 3))) = g0 + g1 + g2 + g3 := by
    have h1 : jj_tot P.h P.x P.ca P.he P.du P.pa P.re = P.t / 14400 * jj_sm (fun l => jj_fee (P.pl l)) P.cnt := hT
    have h2 : jj_sm P.ca 4 = P.ca 0 + P.ca 1 + P.ca 2 + P.ca 3 := by
      show 0 + P.ca 0 + P.ca 1 + P.ca 2 + P.ca 3 = _
      omega
    have h3 : P.t / 14400 * jj_sm (fun l => jj_fee (P.pl l)) 4 = g0 + g1 + g2 + g3 := by
      show P.t / 14400 * (0 + jj_fee (P.pl 0) + jj_fee (P.pl 1) + jj_fee (P.pl 2) + jj_fee (P.pl 3)) = _
      rw [Nat.zero_add, Nat.mul_add, Nat.mul_add, Nat.mul_add, hg0, hg1, hg2, hg3]
    rw [hcnt, h3] at h1
    unfold jj_tot at h1
    omega
  refine js_iload dL_law_304 rfl ?_
  refine js_iload dL_law_306 rfl ?_
  refine jn_icmp_ge 335 (by omega) (by omega) dL_law_308 (by decide) (fun h9 => absurd h9 (by decide)) (fun _ => ?_)
  refine js_aload dL_law_311 rfl ?_
  refine js_iload dL_law_313 rfl ?_
  refine js_iald 0 rfl h3q1 (by decide) (by decide) ((hM1 0 (by decide))) dL_law_315 ?_
  refine js_istore (L' := [some (.retAddr 0), some (.ref 0), some (.ref 104), some (.int (nI i)), none, none, some (.ref q), some (.int (nI 0)), some (.ref (q + 1)), some (.int (nI 10)), some (.int (nI 0)), some (.int (nI 8))]) dL_law_316 rfl (Nat.le_of_ble_eq_true rfl) ?_
  refine js_iload dL_law_318 rfl ?_
  refine js_aload_n 1 rfl dL_law_320 rfl ?_
  refine js_iload dL_law_321 rfl ?_
  refine js_callV (av := [.int (nI 8)]) (st := [.int (nI 0)]) (b := 0) (q_X6_many_8 hB3 hM hK) (Or.inl rfl) jw_c_X6_many jw_i_RX6 jw_m_RL_47 jw_s_X6_many jw_e_X6_many (jl_0 hB3) rfl jw_y_X6_many rfl ⟨(Nat.le_of_ble_eq_true rfl), (Nat.le_of_ble_eq_true rfl), hnc, hsc, (Nat.le_of_ble_eq_true rfl)⟩ dL_law_323 ?_
  refine js_st (st' := [.int (nI (P.h)), .int (nI 0)]) rfl ?_
  refine jn_iadd dL_law_326 ?_
  refine js_istore (L' := [some (.retAddr 0), some (.ref 0), some (.ref 104), some (.int (nI i)), none, none, some (.ref q), some (.int (nI (0 + ((P.h))))), some (.ref (q + 1)), some (.int (nI 10)), some (.int (nI 0)), some (.int (nI 8))]) dL_law_327 rfl (Nat.le_of_ble_eq_true rfl) ?_
  refine js_iinc (v := nI (0 + 1)) (L' := [some (.retAddr 0), some (.ref 0), some (.ref 104), some (.int (nI i)), none, none, some (.ref q), some (.int (nI (0 + ((P.h))))), some (.ref (q + 1)), some (.int (nI 10)), some (.int (nI (0 + 1))), some (.int (nI 8))]) dL_law_329 rfl (jj_inc _) rfl ?_
  refine js_goto 304 dL_law_332 (by decide) ?_
  refine js_fgL (L' := [some (.retAddr 0), some (.ref 0), some (.ref 104), some (.int (nI i)), none, none, some (.ref q), some (.int (nI (0 + ((P.h))))), some (.ref (q + 1)), some (.int (nI 10)), some (.int (nI 1)), none]) (by simp [jj_le, jj_sm]) ?_
  refine js_iload dL_law_304 rfl ?_
  refine js_iload dL_law_306 rfl ?_
  refine jn_icmp_ge 335 (by omega) (by omega) dL_law_308 (by decide) (fun h9 => absurd h9 (by decide)) (fun _ => ?_)
  refine js_aload dL_law_311 rfl ?_
  refine js_iload dL_law_313 rfl ?_
  refine js_iald 1 rfl h3q1 (by decide) (by decide) ((hM1 1 (by decide))) dL_law_315 ?_
  refine js_istore (L' := [some (.retAddr 0), some (.ref 0), some (.ref 104), some (.int (nI i)), none, none, some (.ref q), some (.int (nI (0 + ((P.h))))), some (.ref (q + 1)), some (.int (nI 10)), some (.int (nI 1)), some (.int (nI 9))]) dL_law_316 rfl (Nat.le_of_ble_eq_true rfl) ?_
  refine js_iload dL_law_318 rfl ?_
  refine js_aload_n 1 rfl dL_law_320 rfl ?_
  refine js_iload dL_law_321 rfl ?_
  refine js_callV (av := [.int (nI 9)]) (st := [.int (nI (0 + ((P.h))))]) (b := 0) (q_X6_many_9 hB3 hM hK) (Or.inl rfl) jw_c_X6_many jw_i_RX6 jw_m_RL_47 jw_s_X6_many jw_e_X6_many (jl_0 hB3) rfl jw_y_X6_many rfl ⟨(Nat.le_of_ble_eq_true rfl), (Nat.le_of_ble_eq_true rfl), hnc, hsc, (Nat.le_of_ble_eq_true rfl)⟩ dL_law_323 ?_
  refine js_st (st' := [.int (nI (P.x)), .int (nI (0 + ((P.h))))]) rfl ?_
  refine jn_iadd dL_law_326 ?_
  refine js_istore (L' := [some (.retAddr 0), some (.ref 0), some (.ref 104), some (.int (nI i)), none, none, some (.ref q), some (.int (nI (((0 + ((P.h)))) + ((P.x))))), some (.ref (q + 1)), some (.int (nI 10)), some (.int (nI 1)), some (.int (nI 9))]) dL_law_327 rfl (Nat.le_of_ble_eq_true rfl) ?_
  refine js_iinc (v := nI (1 + 1)) (L' := [some (.retAddr 0), some (.ref 0), some (.ref 104), some (.int (nI i)), none, none, some (.ref q), some (.int (nI (((0 + ((P.h)))) + ((P.x))))), some (.ref (q + 1)), some (.int (nI 10)), some (.int (nI (1 + 1))), some (.int (nI 9))]) dL_law_329 rfl (jj_inc _) rfl ?_
  refine js_goto 304 dL_law_332 (by decide) ?_
  refine js_fgL (L' := [some (.retAddr 0), some (.ref 0), some (.ref 104), some (.int (nI i)), none, none, some (.ref q), some (.int (nI (((0 + ((P.h)))) + ((P.x))))), some (.ref (q + 1)), some (.int (nI 10)), some (.int (nI 2)), none]) (by simp [jj_le, jj_sm]) ?_
  refine js_iload dL_law_304 rfl ?_
  refine js_iload dL_law_306 rfl ?_
  refine jn_icmp_ge 335 (by omega) (by omega) dL_law_308 (by decide) (fun h9 => absurd h9 (by decide)) (fun _ => ?_)
  refine js_aload dL_law_311 rfl ?_
  refine js_iload dL_law_313 rfl ?_
  refine js_iald 2 rfl h3q1 (by decide) (by decide) ((hM1 2 (by decide))) dL_law_315 ?_
  refine js_istore (L' := [some (.retAddr 0), some (.ref 0), some (.ref 104), some (.int (nI i)), none, none, some (.ref q), some (.int (nI (((0 + ((P.h)))) + ((P.x))))), some (.ref (q + 1)), some (.int (nI 10)), some (.int (nI 2)), some (.int (nI 10))]) dL_law_316 rfl (Nat.le_of_ble_eq_true rfl) ?_
  refine js_iload dL_law_318 rfl ?_
  refine js_aload_n 1 rfl dL_law_320 rfl ?_
  refine js_iload dL_law_321 rfl ?_
  refine js_callV (av := [.int (nI 10)]) (st := [.int (nI (((0 + ((P.h)))) + ((P.x))))]) (b := 0) (q_X6_many_10 hB3 hM hK) (Or.inl rfl) jw_c_X6_many jw_i_RX6 jw_m_RL_47 jw_s_X6_many jw_e_X6_many (jl_0 hB3) rfl jw_y_X6_many rfl ⟨(Nat.le_of_ble_eq_true rfl), (Nat.le_of_ble_eq_true rfl), hnc, hsc, (Nat.le_of_ble_eq_true rfl)⟩ dL_law_323 ?_
  refine js_st (st' := [.int (nI (jj_sm P.he 10)), .int (nI (((0 + ((P.h)))) + ((P.x))))]) rfl ?_
  refine jn_iadd dL_law_326 ?_
  refine js_istore (L' := [some (.retAddr 0), some (.ref 0), some (.ref 104), some (.int (nI i)), none, none, some (.ref q), some (.int (nI (((((0 + ((P.h)))) + ((P.x)))) + ((jj_sm P.he 10))))), some (.ref (q + 1)), some (.int (nI 10)), some (.int (nI 2)), some (.int (nI 10))]) dL_law_327 rfl (Nat.le_of_ble_eq_true rfl) ?_
  refine js_iinc (v := nI (2 + 1)) (L' := [some (.retAddr 0), some (.ref 0), some (.ref 104), some (.int (nI i)), none, none, some (.ref q), some (.int (nI (((((0 + ((P.h)))) + ((P.x)))) + ((jj_sm P.he 10))))), some (.ref (q + 1)), some (.int (nI 10)), some (.int (nI (2 + 1))), some (.int (nI 10))]) dL_law_329 rfl (jj_inc _) rfl ?_
  refine js_goto 304 dL_law_332 (by decide) ?_
  refine js_fgL (L' := [some (.retAddr 0), some (.ref 0), some (.ref 104), some (.int (nI i)), none, none, some (.ref q), some (.int (nI (((((0 + ((P.h)))) + ((P.x)))) + ((jj_sm P.he 10))))), some (.ref (q + 1)), some (.int (nI 10)), some (.int (nI 3)), none]) (by simp [jj_le, jj_sm]) ?_
  refine js_iload dL_law_304 rfl ?_
  refine js_iload dL_law_306 rfl ?_
  refine jn_icmp_ge 335 (by omega) (by omega) dL_law_308 (by decide) (fun h9 => absurd h9 (by decide)) (fun _ => ?_)
  refine js_aload dL_law_311 rfl ?_
  refine js_iload dL_law_313 rfl ?_
  refine js_iald 3 rfl h3q1 (by decide) (by decide) ((hM1 3 (by decide))) dL_law_315 ?_
  refine js_istore (L' := [some (.retAddr 0), some (.ref 0), some (.ref 104), some (.int (nI i)), none, none, some (.ref q), some (.int (nI (((((0 + ((P.h)))) + ((P.x)))) + ((jj_sm P.he 10))))), some (.ref (q + 1)), some (.int (nI 10)), some (.int (nI 3)), some (.int (nI 11))]) dL_law_316 rfl (Nat.le_of_ble_eq_true rfl) ?_
  refine js_iload dL_law_318 rfl ?_
  refine js_aload_n 1 rfl dL_law_320 rfl ?_
  refine js_iload dL_law_321 rfl ?_
  refine js_callV (av := [.int (nI 11)]) (st := [.int (nI (((((0 + ((P.h)))) + ((P.x)))) + ((jj_sm P.he 10))))]) (b := 0) (q_X6_many_11 hB3 hM hK) (Or.inl rfl) jw_c_X6_many jw_i_RX6 jw_m_RL_47 jw_s_X6_many jw_e_X6_many (jl_0 hB3) rfl jw_y_X6_many rfl ⟨(Nat.le_of_ble_eq_true rfl), (Nat.le_of_ble_eq_true rfl), hnc, hsc, (Nat.le_of_ble_eq_true rfl)⟩ dL_law_323 ?_
  refine js_st (st' := [.int (nI (jj_sm P.du 5)), .int (nI (((((0 + ((P.h)))) + ((P.x)))) + ((jj_sm P.he 10))))]) rfl ?_
  refine jn_iadd dL_law_326 ?_
  refine js_istore (L' := [some (.retAddr 0), some (.ref 0), some (.ref 104), some (.int (nI i)), none, none, some (.ref q), some (.int (nI (((((((0 + ((P.h)))) + ((P.x)))) + ((jj_sm P.he 10)))) + ((jj_sm P.du 5))))), some (.ref (q + 1)), some (.int (nI 10)), some (.int (nI 3)), some (.int (nI 11))]) dL_law_327 rfl (Nat.le_of_ble_eq_true rfl) ?_
  refine js_iinc (v := nI (3 + 1)) (L' := [some (.retAddr 0), some (.ref 0), some (.ref 104), some (.int (nI i)), none, none, some (.ref q), some (.int (nI (((((((0 + ((P.h)))) + ((P.x)))) + ((jj_sm P.he 10)))) + ((jj_sm P.du 5))))), some (.ref (q + 1)), some (.int (nI 10)), some (.int (nI (3 + 1))), some (.int (nI 11))]) dL_law_329 rfl (jj_inc _) rfl ?_
  refine js_goto 304 dL_law_332 (by decide) ?_
  refine js_fgL (L' := [some (.retAddr 0), some (.ref 0), some (.ref 104), some (.int (nI i)), none, none, some (.ref q), some (.int (nI (((((((0 + ((P.h)))) + ((P.x)))) + ((jj_sm P.he 10)))) + ((jj_sm P.du 5))))), some (.ref (q + 1)), some (.int (nI 10)), some (.int (nI 4)), none]) (by simp [jj_le, jj_sm]) ?_
  refine js_iload dL_law_304 rfl ?_
  refine js_iload dL_law_306 rfl ?_
  refine jn_icmp_ge 335 (by omega) (by omega) dL_law_308 (by decide) (fun h9 => absurd h9 (by decide)) (fun _ => ?_)
  refine js_aload dL_law_311 rfl ?_
  refine js_iload dL_law_313 rfl ?_
  refine js_iald 4 rfl h3q1 (by decide) (by decide) ((hM1 4 (by decide))) dL_law_315 ?_
  refine js_istore (L' := [some (.retAddr 0), some (.ref 0), some (.ref 104), some (.int (nI i)), none, none, some (.ref q), some (.int (nI (((((((0 + ((P.h)))) + ((P.x)))) + ((jj_sm P.he 10)))) + ((jj_sm P.du 5))))), some (.ref (q + 1)), some (.int (nI 10)), some (.int (nI 4)), some (.int (nI 12))]) dL_law_316 rfl (Nat.le_of_ble_eq_true rfl) ?_
  refine js_iload dL_law_318 rfl ?_
  refine js_aload_n 1 rfl dL_law_320 rfl ?_
  refine js_iload dL_law_321 rfl ?_
  refine js_callV (av := [.int (nI 12)]) (st := [.int (nI (((((((0 + ((P.h)))) + ((P.x)))) + ((jj_sm P.he 10)))) + ((jj_sm P.du 5))))]) (b := 0) (q_X6_many_12 hB3 hM hK) (Or.inl rfl) jw_c_X6_many jw_i_RX6 jw_m_RL_47 jw_s_X6_many jw_e_X6_many (jl_0 hB3) rfl jw_y_X6_many rfl ⟨(Nat.le_of_ble_eq_true rfl), (Nat.le_of_ble_eq_true rfl), hnc, hsc, (Nat.le_of_ble_eq_true rfl)⟩ dL_law_323 ?_
  refine js_st (st' := [.int (nI (jj_sm P.pa 5)), .int (nI (((((((0 + ((P.h)))) + ((P.x)))) + ((jj_sm P.he 10)))) + ((jj_sm P.du 5))))]) rfl ?_
  refine jn_iadd dL_law_326 ?_
  refine js_istore (L' := [some (.retAddr 0), some (.ref 0), some (.ref 104), some (.int (nI i)), none, none, some (.ref q), some (.int (nI (((((((((0 + ((P.h)))) + ((P.x)))) + ((jj_sm P.he 10)))) + ((jj_sm P.du 5)))) + ((jj_sm P.pa 5))))), some (.ref (q + 1)), some (.int (nI 10)), some (.int (nI 4)), some (.int (nI 12))]) dL_law_327 rfl (Nat.le_of_ble_eq_true rfl) ?_
  refine js_iinc (v := nI (4 + 1)) (L' := [some (.retAddr 0), some (.ref 0), some (.ref 104), some (.int (nI i)), none, none, some (.ref q), some (.int (nI (((((((((0 + ((P.h)))) + ((P.x)))) + ((jj_sm P.he 10)))) + ((jj_sm P.du 5)))) + ((jj_sm P.pa 5))))), some (.ref (q + 1)), some (.int (nI 10)), some (.int (nI (4 + 1))), some (.int (nI 12))]) dL_law_329 rfl (jj_inc _) rfl ?_
  refine js_goto 304 dL_law_332 (by decide) ?_
  refine js_fgL (L' := [some (.retAddr 0), some (.ref 0), some (.ref 104), some (.int (nI i)), none, none, some (.ref q), some (.int (nI (((((((((0 + ((P.h)))) + ((P.x)))) + ((jj_sm P.he 10)))) + ((jj_sm P.du 5)))) + ((jj_sm P.pa 5))))), some (.ref (q + 1)), some (.int (nI 10)), some (.int (nI 5)), none]) (by simp [jj_le, jj_sm]) ?_
  refine js_iload dL_law_304 rfl ?_
  refine js_iload dL_law_306 rfl ?_
  refine jn_icmp_ge 335 (by omega) (by omega) dL_law_308 (by decide) (fun h9 => absurd h9 (by decide)) (fun _ => ?_)
  refine js_aload dL_law_311 rfl ?_
  refine js_iload dL_law_313 rfl ?_
  refine js_iald 5 rfl h3q1 (by decide) (by decide) ((hM1 5 (by decide))) dL_law_315 ?_
  refine js_istore (L' := [some (.retAddr 0), some (.ref 0), some (.ref 104), some (.int (nI i)), none, none, some (.ref q), some (.int (nI (((((((((0 + ((P.h)))) + ((P.x)))) + ((jj_sm P.he 10)))) + ((jj_sm P.du 5)))) + ((jj_sm P.pa 5))))), some (.ref (q + 1)), some (.int (nI 10)), some (.int (nI 5)), some (.int (nI 13))]) dL_law_316 rfl (Nat.le_of_ble_eq_true rfl) ?_
  refine js_iload dL_law_318 rfl ?_
  refine js_aload_n 1 rfl dL_law_320 rfl ?_
  refine js_iload dL_law_321 rfl ?_
  refine js_callV (av := [.int (nI 13)]) (st := [.int (nI (((((((((0 + ((P.h)))) + ((P.x)))) + ((jj_sm P.he 10)))) + ((jj_sm P.du 5)))) + ((jj_sm P.pa 5))))]) (b := 0) (q_X6_many_13 hB3 hM hK) (Or.inl rfl) jw_c_X6_many jw_i_RX6 jw_m_RL_47 jw_s_X6_many jw_e_X6_many (jl_0 hB3) rfl jw_y_X6_many rfl ⟨(Nat.le_of_ble_eq_true rfl), (Nat.le_of_ble_eq_true rfl), hnc, hsc, (Nat.le_of_ble_eq_true rfl)⟩ dL_law_323 ?_
  refine js_st (st' := [.int (nI (jj_sm P.re 5)), .int (nI (((((((((0 + ((P.h)))) + ((P.x)))) + ((jj_sm P.he 10)))) + ((jj_sm P.du 5)))) + ((jj_sm P.pa 5))))]) rfl ?_
  refine jn_iadd dL_law_326 ?_
  refine js_istore (L' := [some (.retAddr 0), some (.ref 0), some (.ref 104), some (.int (nI i)), none, none, some (.ref q), some (.int (nI (((((((((((0 + ((P.h)))) + ((P.x)))) + ((jj_sm P.he 10)))) + ((jj_sm P.du 5)))) + ((jj_sm P.pa 5)))) + ((jj_sm P.re 5))))), some (.ref (q + 1)), some (.int (nI 10)), some (.int (nI 5)), some (.int (nI 13))]) dL_law_327 rfl (Nat.le_of_ble_eq_true rfl) ?_
  refine js_iinc (v := nI (5 + 1)) (L' := [some (.retAddr 0), some (.ref 0), some (.ref 104), some (.int (nI i)), none, none, some (.ref q), some (.int (nI (((((((((((0 + ((P.h)))) + ((P.x)))) + ((jj_sm P.he 10)))) + ((jj_sm P.du 5)))) + ((jj_sm P.pa 5)))) + ((jj_sm P.re 5))))), some (.ref (q + 1)), some (.int (nI 10)), some (.int (nI (5 + 1))), some (.int (nI 13))]) dL_law_329 rfl (jj_inc _) rfl ?_
  refine js_goto 304 dL_law_332 (by decide) ?_
  refine js_fgL (L' := [some (.retAddr 0), some (.ref 0), some (.ref 104), some (.int (nI i)), none, none, some (.ref q), some (.int (nI (((((((((((0 + ((P.h)))) + ((P.x)))) + ((jj_sm P.he 10)))) + ((jj_sm P.du 5)))) + ((jj_sm P.pa 5)))) + ((jj_sm P.re 5))))), some (.ref (q + 1)), some (.int (nI 10)), some (.int (nI 6)), none]) (by simp [jj_le, jj_sm]) ?_
  refine js_iload dL_law_304 rfl ?_
  refine js_iload dL_law_306 rfl ?_
  refine jn_icmp_ge 335 (by omega) (by omega) dL_law_308 (by decide) (fun h9 => absurd h9 (by decide)) (fun _ => ?_)
  refine js_aload dL_law_311 rfl ?_
  refine js_iload dL_law_313 rfl ?_
  refine js_iald 6 rfl h3q1 (by decide) (by decide) ((hM1 6 (by decide))) dL_law_315 ?_
  refine js_istore (L' := [some (.retAddr 0), some (.ref 0), some (.ref 104), some (.int (nI i)), none, none, some (.ref q), some (.int (nI (((((((((((0 + ((P.h)))) + ((P.x)))) + ((jj_sm P.he 10)))) + ((jj_sm P.du 5)))) + ((jj_sm P.pa 5)))) + ((jj_sm P.re 5))))), some (.ref (q + 1)), some (.int (nI 10)), some (.int (nI 6)), some (.int (nI 14))]) dL_law_316 rfl (Nat.le_of_ble_eq_true rfl) ?_
  refine js_iload dL_law_318 rfl ?_
  refine js_aload_n 1 rfl dL_law_320 rfl ?_
  refine js_iload dL_law_321 rfl ?_
  refine js_callV (av := [.int (nI 14)]) (st := [.int (nI (((((((((((0 + ((P.h)))) + ((P.x)))) + ((jj_sm P.he 10)))) + ((jj_sm P.du 5)))) + ((jj_sm P.pa 5)))) + ((jj_sm P.re 5))))]) (b := 0) (q_X6_many_14 hB3 hM hK) (Or.inl rfl) jw_c_X6_many jw_i_RX6 jw_m_RL_47 jw_s_X6_many jw_e_X6_many (jl_0 hB3) rfl jw_y_X6_many rfl ⟨(Nat.le_of_ble_eq_true rfl), (Nat.le_of_ble_eq_true rfl), hnc, hsc, (Nat.le_of_ble_eq_true rfl)⟩ dL_law_323 ?_
  refine js_st (st' := [.int (nI (P.ca (14 - 14))), .int (nI (((((((((((0 + ((P.h)))) + ((P.x)))) + ((jj_sm P.he 10)))) + ((jj_sm P.du 5)))) + ((jj_sm P.pa 5)))) + ((jj_sm P.re 5))))]) rfl ?_
  refine js_top (y := nI (P.ca 0)) rfl ?_
  refine jn_iadd dL_law_326 ?_
  refine js_istore (L' := [some (.retAddr 0), some (.ref 0), some (.ref 104), some (.int (nI i)), none, none, some (.ref q), some (.int (nI (((((((((((((0 + ((P.h)))) + ((P.x)))) + ((jj_sm P.he 10)))) + ((jj_sm P.du 5)))) + ((jj_sm P.pa 5)))) + ((jj_sm P.re 5)))) + ((P.ca 0))))), some (.ref (q + 1)), some (.int (nI 10)), some (.int (nI 6)), some (.int (nI 14))]) dL_law_327 rfl (Nat.le_of_ble_eq_true rfl) ?_
  refine js_iinc (v := nI (6 + 1)) (L' := [some (.retAddr 0), some (.ref 0), some (.ref 104), some (.int (nI i)), none, none, some (.ref q), some (.int (nI (((((((((((((0 + ((P.h)))) + ((P.x)))) + ((jj_sm P.he 10)))) + ((jj_sm P.du 5)))) + ((jj_sm P.pa 5)))) + ((jj_sm P.re 5)))) + ((P.ca 0))))), some (.ref (q + 1)), some (.int (nI 10)), some (.int (nI (6 + 1))), some (.int (nI 14))]) dL_law_329 rfl (jj_inc _) rfl ?_
  refine js_goto 304 dL_law_332 (by decide) ?_
  refine js_fgL (L' := [some (.retAddr 0), some (.ref 0), some (.ref 104), some (.int (nI i)), none, none, some (.ref q), some (.int (nI (((((((((((((0 + ((P.h)))) + ((P.x)))) + ((jj_sm P.he 10)))) + ((jj_sm P.du 5)))) + ((jj_sm P.pa 5)))) + ((jj_sm P.re 5)))) + ((P.ca 0))))), some (.ref (q + 1)), some (.int (nI 10)), some (.int (nI 7)), none]) (by simp [jj_le, jj_sm]) ?_
  refine js_iload dL_law_304 rfl ?_
  refine js_iload dL_law_306 rfl ?_
  refine jn_icmp_ge 335 (by omega) (by omega) dL_law_308 (by decide) (fun h9 => absurd h9 (by decide)) (fun _ => ?_)
  refine js_aload dL_law_311 rfl ?_
  refine js_iload dL_law_313 rfl ?_
  refine js_iald 7 rfl h3q1 (by decide) (by decide) ((hM1 7 (by decide))) dL_law_315 ?_
  refine js_istore (L' := [some (.retAddr 0), some (.ref 0), some (.ref 104), some (.int (nI i)), none, none, some (.ref q), some (.int (nI (((((((((((((0 + ((P.h)))) + ((P.x)))) + ((jj_sm P.he 10)))) + ((jj_sm P.du 5)))) + ((jj_sm P.pa 5)))) + ((jj_sm P.re 5)))) + ((P.ca 0))))), some (.ref (q + 1)), some (.int (nI 10)), some (.int (nI 7)), some (.int (nI 15))]) dL_law_316 rfl (Nat.le_of_ble_eq_true rfl) ?_
  refine js_iload dL_law_318 rfl ?_
  refine js_aload_n 1 rfl dL_law_320 rfl ?_
  refine js_iload dL_law_321 rfl ?_
  refine js_callV (av := [.int (nI 15)]) (st := [.int (nI (((((((((((((0 + ((P.h)))) + ((P.x)))) + ((jj_sm P.he 10)))) + ((jj_sm P.du 5)))) + ((jj_sm P.pa 5)))) + ((jj_sm P.re 5)))) + ((P.ca 0))))]) (b := 0) (q_X6_many_15 hB3 hM hK) (Or.inl rfl) jw_c_X6_many jw_i_RX6 jw_m_RL_47 jw_s_X6_many jw_e_X6_many (jl_0 hB3) rfl jw_y_X6_many rfl ⟨(Nat.le_of_ble_eq_true rfl), (Nat.le_of_ble_eq_true rfl), hnc, hsc, (Nat.le_of_ble_eq_true rfl)⟩ dL_law_323 ?_
  refine js_st (st' := [.int (nI (P.ca (15 - 14))), .int (nI (((((((((((((0 + ((P.h)))) + ((P.x)))) + ((jj_sm P.he 10)))) + ((jj_sm P.du 5)))) + ((jj_sm P.pa 5)))) + ((jj_sm P.re 5)))) + ((P.ca 0))))]) rfl ?_
  refine js_top (y := nI (P.ca 1)) rfl ?_
  refine jn_iadd dL_law_326 ?_
  refine js_istore (L' := [some (.retAddr 0), some (.ref 0), some (.ref 104), some (.int (nI i)), none, none, some (.ref q), some (.int (nI (((((((((((((((0 + ((P.h)))) + ((P.x)))) + ((jj_sm P.he 10)))) + ((jj_sm P.du 5)))) + ((jj_sm P.pa 5)))) + ((jj_sm P.re 5)))) + ((P.ca 0)))) + ((P.ca 1))))), some (.ref (q + 1)), some (.int (nI 10)), some (.int (nI 7)), some (.int (nI 15))]) dL_law_327 rfl (Nat.le_of_ble_eq_true rfl) ?_
  refine js_iinc (v := nI (7 + 1)) (L' := [some (.retAddr 0), some (.ref 0), some (.ref 104), some (.int (nI i)), none, none, some (.ref q), some (.int (nI (((((((((((((((0 + ((P.h)))) + ((P.x)))) + ((jj_sm P.he 10)))) + ((jj_sm P.du 5)))) + ((jj_sm P.pa 5)))) + ((jj_sm P.re 5)))) + ((P.ca 0)))) + ((P.ca 1))))), some (.ref (q + 1)), some (.int (nI 10)), some (.int (nI (7 + 1))), some (.int (nI 15))]) dL_law_329 rfl (jj_inc _) rfl ?_
  refine js_goto 304 dL_law_332 (by decide) ?_
  refine js_fgL (L' := [some (.retAddr 0), some (.ref 0), some (.ref 104), some (.int (nI i)), none, none, some (.ref q), some (.int (nI (((((((((((((((0 + ((P.h)))) + ((P.x)))) + ((jj_sm P.he 10)))) + ((jj_sm P.du 5)))) + ((jj_sm P.pa 5)))) + ((jj_sm P.re 5)))) + ((P.ca 0)))) + ((P.ca 1))))), some (.ref (q + 1)), some (.int (nI 10)), some (.int (nI 8)), none]) (by simp [jj_le, jj_sm]) ?_
  refine js_iload dL_law_304 rfl ?_
  refine js_iload dL_law_306 rfl ?_
  refine jn_icmp_ge 335 (by omega) (by omega) dL_law_308 (by decide) (fun h9 => absurd h9 (by decide)) (fun _ => ?_)
  refine js_aload dL_law_311 rfl ?_
  refine js_iload dL_law_313 rfl ?_
  refine js_iald 8 rfl h3q1 (by decide) (by decide) ((hM1 8 (by decide))) dL_law_315 ?_
  refine js_istore (L' := [some (.retAddr 0), some (.ref 0), some (.ref 104), some (.int (nI i)), none, none, some (.ref q), some (.int (nI (((((((((((((((0 + ((P.h)))) + ((P.x)))) + ((jj_sm P.he 10)))) + ((jj_sm P.du 5)))) + ((jj_sm P.pa 5)))) + ((jj_sm P.re 5)))) + ((P.ca 0)))) + ((P.ca 1))))), some (.ref (q + 1)), some (.int (nI 10)), some (.int (nI 8)), some (.int (nI 16))]) dL_law_316 rfl (Nat.le_of_ble_eq_true rfl) ?_
  refine js_iload dL_law_318 rfl ?_
  refine js_aload_n 1 rfl dL_law_320 rfl ?_
  refine js_iload dL_law_321 rfl ?_
  refine js_callV (av := [.int (nI 16)]) (st := [.int (nI (((((((((((((((0 + ((P.h)))) + ((P.x)))) + ((jj_sm P.he 10)))) + ((jj_sm P.du 5)))) + ((jj_sm P.pa 5)))) + ((jj_sm P.re 5)))) + ((P.ca 0)))) + ((P.ca 1))))]) (b := 0) (q_X6_many_16 hB3 hM hK) (Or.inl rfl) jw_c_X6_many jw_i_RX6 jw_m_RL_47 jw_s_X6_many jw_e_X6_many (jl_0 hB3) rfl jw_y_X6_many rfl ⟨(Nat.le_of_ble_eq_true rfl), (Nat.le_of_ble_eq_true rfl), hnc, hsc, (Nat.le_of_ble_eq_true rfl)⟩ dL_law_323 ?_
  refine js_st (st' := [.int (nI (P.ca (16 - 14))), .int (nI (((((((((((((((0 + ((P.h)))) + ((P.x)))) + ((jj_sm P.he 10)))) + ((jj_sm P.du 5)))) + ((jj_sm P.pa 5)))) + ((jj_sm P.re 5)))) + ((P.ca 0)))) + ((P.ca 1))))]) rfl ?_
  refine js_top (y := nI (P.ca 2)) rfl ?_
  refine jn_iadd dL_law_326 ?_
  refine js_istore (L' := [some (.retAddr 0), some (.ref 0), some (.ref 104), some (.int (nI i)), none, none, some (.ref q), some (.int (nI (((((((((((((((((0 + ((P.h)))) + ((P.x)))) + ((jj_sm P.he 10)))) + ((jj_sm P.du 5)))) + ((jj_sm P.pa 5)))) + ((jj_sm P.re 5)))) + ((P.ca 0)))) + ((P.ca 1)))) + ((P.ca 2))))), some (.ref (q + 1)), some (.int (nI 10)), some (.int (nI 8)), some (.int (nI 16))]) dL_law_327 rfl (Nat.le_of_ble_eq_true rfl) ?_
  refine js_iinc (v := nI (8 + 1)) (L' := [some (.retAddr 0), some (.ref 0), some (.ref 104), some (.int (nI i)), none, none, some (.ref q), some (.int (nI (((((((((((((((((0 + ((P.h)))) + ((P.x)))) + ((jj_sm P.he 10)))) + ((jj_sm P.du 5)))) + ((jj_sm P.pa 5)))) + ((jj_sm P.re 5)))) + ((P.ca 0)))) + ((P.ca 1)))) + ((P.ca 2))))), some (.ref (q + 1)), some (.int (nI 10)), some (.int (nI (8 + 1))), some (.int (nI 16))]) dL_law_329 rfl (jj_inc _) rfl ?_
  refine js_goto 304 dL_law_332 (by decide) ?_
  refine js_fgL (L' := [some (.retAddr 0), some (.ref 0), some (.ref 104), some (.int (nI i)), none, none, some (.ref q), some (.int (nI (((((((((((((((((0 + ((P.h)))) + ((P.x)))) + ((jj_sm P.he 10)))) + ((jj_sm P.du 5)))) + ((jj_sm P.pa 5)))) + ((jj_sm P.re 5)))) + ((P.ca 0)))) + ((P.ca 1)))) + ((P.ca 2))))), some (.ref (q + 1)), some (.int (nI 10)), some (.int (nI 9)), none]) (by simp [jj_le, jj_sm]) ?_
  refine js_iload dL_law_304 rfl ?_
  refine js_iload dL_law_306 rfl ?_
  refine jn_icmp_ge 335 (by omega) (by omega) dL_law_308 (by decide) (fun h9 => absurd h9 (by decide)) (fun _ => ?_)
  refine js_aload dL_law_311 rfl ?_
  refine js_iload dL_law_313 rfl ?_
  refine js_iald 9 rfl h3q1 (by decide) (by decide) ((hM1 9 (by decide))) dL_law_315 ?_
  refine js_istore (L' := [some (.retAddr 0), some (.ref 0), some (.ref 104), some (.int (nI i)), none, none, some (.ref q), some (.int (nI (((((((((((((((((0 + ((P.h)))) + ((P.x)))) + ((jj_sm P.he 10)))) + ((jj_sm P.du 5)))) + ((jj_sm P.pa 5)))) + ((jj_sm P.re 5)))) + ((P.ca 0)))) + ((P.ca 1)))) + ((P.ca 2))))), some (.ref (q + 1)), some (.int (nI 10)), some (.int (nI 9)), some (.int (nI 17))]) dL_law_316 rfl (Nat.le_of_ble_eq_true rfl) ?_
  refine js_iload dL_law_318 rfl ?_
  refine js_aload_n 1 rfl dL_law_320 rfl ?_
  refine js_iload dL_law_321 rfl ?_
  refine js_callV (av := [.int (nI 17)]) (st := [.int (nI (((((((((((((((((0 + ((P.h)))) + ((P.x)))) + ((jj_sm P.he 10)))) + ((jj_sm P.du 5)))) + ((jj_sm P.pa 5)))) + ((jj_sm P.re 5)))) + ((P.ca 0)))) + ((P.ca 1)))) + ((P.ca 2))))]) (b := 0) (q_X6_many_17 hB3 hM hK) (Or.inl rfl) jw_c_X6_many jw_i_RX6 jw_m_RL_47 jw_s_X6_many jw_e_X6_many (jl_0 hB3) rfl jw_y_X6_many rfl ⟨(Nat.le_of_ble_eq_true rfl), (Nat.le_of_ble_eq_true rfl), hnc, hsc, (Nat.le_of_ble_eq_true rfl)⟩ dL_law_323 ?_
  refine js_st (st' := [.int (nI (P.ca (17 - 14))), .int (nI (((((((((((((((((0 + ((P.h)))) + ((P.x)))) + ((jj_sm P.he 10)))) + ((jj_sm P.du 5)))) + ((jj_sm P.pa 5)))) + ((jj_sm P.re 5)))) + ((P.ca 0)))) + ((P.ca 1)))) + ((P.ca 2))))]) rfl ?_
  refine js_top (y := nI (P.ca 3)) rfl ?_
  refine jn_iadd dL_law_326 ?_
  refine js_istore (L' := [some (.retAddr 0), some (.ref 0), some (.ref 104), some (.int (nI i)), none, none, some (.ref q), some (.int (nI (((((((((((((((((((0 + ((P.h)))) + ((P.x)))) + ((jj_sm P.he 10)))) + ((jj_sm P.du 5)))) + ((jj_sm P.pa 5)))) + ((jj_sm P.re 5)))) + ((P.ca 0)))) + ((P.ca 1)))) + ((P.ca 2)))) + ((P.ca 3))))), some (.ref (q + 1)), some (.int (nI 10)), some (.int (nI 9)), some (.int (nI 17))]) dL_law_327 rfl (Nat.le_of_ble_eq_true rfl) ?_
  refine js_iinc (v := nI (9 + 1)) (L' := [some (.retAddr 0), some (.ref 0), some (.ref 104), some (.int (nI i)), none, none, some (.ref q), some (.int (nI (((((((((((((((((((0 + ((P.h)))) + ((P.x)))) + ((jj_sm P.he 10)))) + ((jj_sm P.du 5)))) + ((jj_sm P.pa 5)))) + ((jj_sm P.re 5)))) + ((P.ca 0)))) + ((P.ca 1)))) + ((P.ca 2)))) + ((P.ca 3))))), some (.ref (q + 1)), some (.int (nI 10)), some (.int (nI (9 + 1))), some (.int (nI 17))]) dL_law_329 rfl (jj_inc _) rfl ?_
  refine js_goto 304 dL_law_332 (by decide) ?_
  refine js_fgL (L' := [some (.retAddr 0), some (.ref 0), some (.ref 104), some (.int (nI i)), none, none, some (.ref q), some (.int (nI (((((((((((((((((((0 + ((P.h)))) + ((P.x)))) + ((jj_sm P.he 10)))) + ((jj_sm P.du 5)))) + ((jj_sm P.pa 5)))) + ((jj_sm P.re 5)))) + ((P.ca 0)))) + ((P.ca 1)))) + ((P.ca 2)))) + ((P.ca 3))))), some (.ref (q + 1)), some (.int (nI 10)), some (.int (nI 10)), none]) (by simp [jj_le, jj_sm]) ?_
  refine js_iload dL_law_304 rfl ?_
  refine js_iload dL_law_306 rfl ?_
  refine jn_icmp_ge 335 (by omega) (by omega) dL_law_308 (by decide) (fun _ => ?_) (fun h9 => absurd h9 (by decide))
  refine js_iconst (v := nI 0) dL_law_335 (by decide) ?_
  refine js_istore (L' := [some (.retAddr 0), some (.ref 0), some (.ref 104), some (.int (nI i)), none, none, some (.ref q), some (.int (nI (((((((((((((((((((0 + ((P.h)))) + ((P.x)))) + ((jj_sm P.he 10)))) + ((jj_sm P.du 5)))) + ((jj_sm P.pa 5)))) + ((jj_sm P.re 5)))) + ((P.ca 0)))) + ((P.ca 1)))) + ((P.ca 2)))) + ((P.ca 3))))), some (.int (nI 0)), some (.int (nI 10)), some (.int (nI 10)), none]) dL_law_336 rfl (Nat.le_of_ble_eq_true rfl) ?_
  refine js_iload dL_law_338 rfl ?_
  refine js_iconst (v := nI 4) dL_law_340 (by decide) ?_
  refine jn_icmp_ge 371 (by omega) (by omega) dL_law_341 (by decide) (fun h9 => absurd h9 (by decide)) (fun _ => ?_)
  refine js_iload dL_law_344 rfl ?_
  refine js_aload_n 1 rfl dL_law_346 rfl ?_
  refine js_iconst (v := nI 1) dL_law_347 (by decide) ?_
  refine js_callV (av := [.int (nI 1)]) (st := [.int (nI (((((((((((((((((((0 + ((P.h)))) + ((P.x)))) + ((jj_sm P.he 10)))) + ((jj_sm P.du 5)))) + ((jj_sm P.pa 5)))) + ((jj_sm P.re 5)))) + ((P.ca 0)))) + ((P.ca 1)))) + ((P.ca 2)))) + ((P.ca 3))))]) (b := 0) (q_X6_many_1 hB3 hM hK) (Or.inl rfl) jw_c_X6_many jw_i_RX6 jw_m_RL_47 jw_s_X6_many jw_e_X6_many (jl_0 hB3) rfl jw_y_X6_many rfl ⟨(Nat.le_of_ble_eq_true rfl), (Nat.le_of_ble_eq_true rfl), hnc, hsc, (Nat.le_of_ble_eq_true rfl)⟩ dL_law_348 ?_
  refine js_st (st' := [.int (nI (P.t / 14400)), .int (nI (((((((((((((((((((0 + ((P.h)))) + ((P.x)))) + ((jj_sm P.he 10)))) + ((jj_sm P.du 5)))) + ((jj_sm P.pa 5)))) + ((jj_sm P.re 5)))) + ((P.ca 0)))) + ((P.ca 1)))) + ((P.ca 2)))) + ((P.ca 3))))]) rfl ?_
  refine js_aload dL_law_351 rfl ?_
  refine js_aload_n 1 rfl dL_law_353 rfl ?_
  refine js_iload dL_law_354 rfl ?_
  refine js_iconst (v := nI 1) dL_law_356 (by decide) ?_
  refine js_callV (av := [.int (nI 0), .int (nI 1)]) (st := [.ref q, .int (nI (P.t / 14400)), .int (nI (((((((((((((((((((0 + ((P.h)))) + ((P.x)))) + ((jj_sm P.he 10)))) + ((jj_sm P.du 5)))) + ((jj_sm P.pa 5)))) + ((jj_sm P.re 5)))) + ((P.ca 0)))) + ((P.ca 1)))) + ((P.ca 2)))) + ((P.ca 3))))]) (b := 0) (q_X6_ofListener_1 hB3 hM hK (by omega)) (Or.inl rfl) jw_c_X6_ofListener jw_i_RX6 jw_m_RL_62 jw_s_X6_ofListener jw_e_X6_ofListener (jl_0 hB3) rfl jw_y_X6_ofListener rfl ⟨(Nat.le_of_ble_eq_true rfl), (Nat.le_of_ble_eq_true rfl), hnc, hsc, (Nat.le_of_ble_eq_true rfl)⟩ dL_law_357 ?_
  refine js_st (st' := [.int (nI (P.pl 0)), .ref q, .int (nI (P.t / 14400)), .int (nI (((((((((((((((((((0 + ((P.h)))) + ((P.x)))) + ((jj_sm P.he 10)))) + ((jj_sm P.du 5)))) + ((jj_sm P.pa 5)))) + ((jj_sm P.re 5)))) + ((P.ca 0)))) + ((P.ca 1)))) + ((P.ca 2)))) + ((P.ca 3))))]) rfl ?_
  refine js_iald ((P.pl 0)) rfl h3q (by omega) (by decide) ((hM0 ((P.pl 0)) (by omega))) dL_law_360 ?_
  refine jn_imul dL_law_361 ?_
  refine js_top (y := nI g0) (congrArg nI hg0) ?_
  refine jn_isub (by omega) dL_law_362 ?_
  refine js_istore (L' := [some (.retAddr 0), some (.ref 0), some (.ref 104), some (.int (nI i)), none, none, some (.ref q), some (.int (nI (((((((((((((((((((((0 + ((P.h)))) + ((P.x)))) + ((jj_sm P.he 10)))) + ((jj_sm P.du 5)))) + ((jj_sm P.pa 5)))) + ((jj_sm P.re 5)))) + ((P.ca 0)))) + ((P.ca 1)))) + ((P.ca 2)))) + ((P.ca 3)))) - g0))), some (.int (nI 0)), some (.int (nI 10)), some (.int (nI 10)), none]) dL_law_363 rfl (Nat.le_of_ble_eq_true rfl) ?_
  refine js_iinc (v := nI (0 + 1)) (L' := [some (.retAddr 0), some (.ref 0), some (.ref 104), some (.int (nI i)), none, none, some (.ref q), some (.int (nI (((((((((((((((((((((0 + ((P.h)))) + ((P.x)))) + ((jj_sm P.he 10)))) + ((jj_sm P.du 5)))) + ((jj_sm P.pa 5)))) + ((jj_sm P.re 5)))) + ((P.ca 0)))) + ((P.ca 1)))) + ((P.ca 2)))) + ((P.ca 3)))) - g0))), some (.int (nI (0 + 1))), some (.int (nI 10)), some (.int (nI 10)), none]) dL_law_365 rfl (jj_inc _) rfl ?_
  refine js_goto 338 dL_law_368 (by decide) ?_
  refine js_fgL (L' := [some (.retAddr 0), some (.ref 0), some (.ref 104), some (.int (nI i)), none, none, some (.ref q), some (.int (nI (((((((((((((((((((((0 + ((P.h)))) + ((P.x)))) + ((jj_sm P.he 10)))) + ((jj_sm P.du 5)))) + ((jj_sm P.pa 5)))) + ((jj_sm P.re 5)))) + ((P.ca 0)))) + ((P.ca 1)))) + ((P.ca 2)))) + ((P.ca 3)))) - g0))), some (.int (nI 1)), some (.int (nI 10)), some (.int (nI 10)), none]) (by simp [jj_le, jj_sm]) ?_
  refine js_iload dL_law_338 rfl ?_
  refine js_iconst (v := nI 4) dL_law_340 (by decide) ?_
  refine jn_icmp_ge 371 (by omega) (by omega) dL_law_341 (by decide) (fun h9 => absurd h9 (by decide)) (fun _ => ?_)
  refine js_iload dL_law_344 rfl ?_
  refine js_aload_n 1 rfl dL_law_346 rfl ?_
  refine js_iconst (v := nI 1) dL_law_347 (by decide) ?_
  refine js_callV (av := [.int (nI 1)]) (st := [.int (nI (((((((((((((((((((((0 + ((P.h)))) + ((P.x)))) + ((jj_sm P.he 10)))) + ((jj_sm P.du 5)))) + ((jj_sm P.pa 5)))) + ((jj_sm P.re 5)))) + ((P.ca 0)))) + ((P.ca 1)))) + ((P.ca 2)))) + ((P.ca 3)))) - g0))]) (b := 0) (q_X6_many_1 hB3 hM hK) (Or.inl rfl) jw_c_X6_many jw_i_RX6 jw_m_RL_47 jw_s_X6_many jw_e_X6_many (jl_0 hB3) rfl jw_y_X6_many rfl ⟨(Nat.le_of_ble_eq_true rfl), (Nat.le_of_ble_eq_true rfl), hnc, hsc, (Nat.le_of_ble_eq_true rfl)⟩ dL_law_348 ?_
  refine js_st (st' := [.int (nI (P.t / 14400)), .int (nI (((((((((((((((((((((0 + ((P.h)))) + ((P.x)))) + ((jj_sm P.he 10)))) + ((jj_sm P.du 5)))) + ((jj_sm P.pa 5)))) + ((jj_sm P.re 5)))) + ((P.ca 0)))) + ((P.ca 1)))) + ((P.ca 2)))) + ((P.ca 3)))) - g0))]) rfl ?_
  refine js_aload dL_law_351 rfl ?_
  refine js_aload_n 1 rfl dL_law_353 rfl ?_
  refine js_iload dL_law_354 rfl ?_
  refine js_iconst (v := nI 1) dL_law_356 (by decide) ?_
  refine js_callV (av := [.int (nI 1), .int (nI 1)]) (st := [.ref q, .int (nI (P.t / 14400)), .int (nI (((((((((((((((((((((0 + ((P.h)))) + ((P.x)))) + ((jj_sm P.he 10)))) + ((jj_sm P.du 5)))) + ((jj_sm P.pa 5)))) + ((jj_sm P.re 5)))) + ((P.ca 0)))) + ((P.ca 1)))) + ((P.ca 2)))) + ((P.ca 3)))) - g0))]) (b := 0) (q_X6_ofListener_1 hB3 hM hK (by omega)) (Or.inl rfl) jw_c_X6_ofListener jw_i_RX6 jw_m_RL_62 jw_s_X6_ofListener jw_e_X6_ofListener (jl_0 hB3) rfl jw_y_X6_ofListener rfl ⟨(Nat.le_of_ble_eq_true rfl), (Nat.le_of_ble_eq_true rfl), hnc, hsc, (Nat.le_of_ble_eq_true rfl)⟩ dL_law_357 ?_
  refine js_st (st' := [.int (nI (P.pl 1)), .ref q, .int (nI (P.t / 14400)), .int (nI (((((((((((((((((((((0 + ((P.h)))) + ((P.x)))) + ((jj_sm P.he 10)))) + ((jj_sm P.du 5)))) + ((jj_sm P.pa 5)))) + ((jj_sm P.re 5)))) + ((P.ca 0)))) + ((P.ca 1)))) + ((P.ca 2)))) + ((P.ca 3)))) - g0))]) rfl ?_
  refine js_iald ((P.pl 1)) rfl h3q (by omega) (by decide) ((hM0 ((P.pl 1)) (by omega))) dL_law_360 ?_
  refine jn_imul dL_law_361 ?_
  refine js_top (y := nI g1) (congrArg nI hg1) ?_
  refine jn_isub (by omega) dL_law_362 ?_
  refine js_istore (L' := [some (.retAddr 0), some (.ref 0), some (.ref 104), some (.int (nI i)), none, none, some (.ref q), some (.int (nI (((((((((((((((((((((((0 + ((P.h)))) + ((P.x)))) + ((jj_sm P.he 10)))) + ((jj_sm P.du 5)))) + ((jj_sm P.pa 5)))) + ((jj_sm P.re 5)))) + ((P.ca 0)))) + ((P.ca 1)))) + ((P.ca 2)))) + ((P.ca 3)))) - g0)) - g1))), some (.int (nI 1)), some (.int (nI 10)), some (.int (nI 10)), none]) dL_law_363 rfl (Nat.le_of_ble_eq_true rfl) ?_
  refine js_iinc (v := nI (1 + 1)) (L' := [some (.retAddr 0), some (.ref 0), some (.ref 104), some (.int (nI i)), none, none, some (.ref q), some (.int (nI (((((((((((((((((((((((0 + ((P.h)))) + ((P.x)))) + ((jj_sm P.he 10)))) + ((jj_sm P.du 5)))) + ((jj_sm P.pa 5)))) + ((jj_sm P.re 5)))) + ((P.ca 0)))) + ((P.ca 1)))) + ((P.ca 2)))) + ((P.ca 3)))) - g0)) - g1))), some (.int (nI (1 + 1))), some (.int (nI 10)), some (.int (nI 10)), none]) dL_law_365 rfl (jj_inc _) rfl ?_
  refine js_goto 338 dL_law_368 (by decide) ?_
  refine js_fgL (L' := [some (.retAddr 0), some (.ref 0), some (.ref 104), some (.int (nI i)), none, none, some (.ref q), some (.int (nI (((((((((((((((((((((((0 + ((P.h)))) + ((P.x)))) + ((jj_sm P.he 10)))) + ((jj_sm P.du 5)))) + ((jj_sm P.pa 5)))) + ((jj_sm P.re 5)))) + ((P.ca 0)))) + ((P.ca 1)))) + ((P.ca 2)))) + ((P.ca 3)))) - g0)) - g1))), some (.int (nI 2)), some (.int (nI 10)), some (.int (nI 10)), none]) (by simp [jj_le, jj_sm]) ?_
  refine js_iload dL_law_338 rfl ?_
  refine js_iconst (v := nI 4) dL_law_340 (by decide) ?_
  refine jn_icmp_ge 371 (by omega) (by omega) dL_law_341 (by decide) (fun h9 => absurd h9 (by decide)) (fun _ => ?_)
  refine js_iload dL_law_344 rfl ?_
  refine js_aload_n 1 rfl dL_law_346 rfl ?_
  refine js_iconst (v := nI 1) dL_law_347 (by decide) ?_
  refine js_callV (av := [.int (nI 1)]) (st := [.int (nI (((((((((((((((((((((((0 + ((P.h)))) + ((P.x)))) + ((jj_sm P.he 10)))) + ((jj_sm P.du 5)))) + ((jj_sm P.pa 5)))) + ((jj_sm P.re 5)))) + ((P.ca 0)))) + ((P.ca 1)))) + ((P.ca 2)))) + ((P.ca 3)))) - g0)) - g1))]) (b := 0) (q_X6_many_1 hB3 hM hK) (Or.inl rfl) jw_c_X6_many jw_i_RX6 jw_m_RL_47 jw_s_X6_many jw_e_X6_many (jl_0 hB3) rfl jw_y_X6_many rfl ⟨(Nat.le_of_ble_eq_true rfl), (Nat.le_of_ble_eq_true rfl), hnc, hsc, (Nat.le_of_ble_eq_true rfl)⟩ dL_law_348 ?_
  refine js_st (st' := [.int (nI (P.t / 14400)), .int (nI (((((((((((((((((((((((0 + ((P.h)))) + ((P.x)))) + ((jj_sm P.he 10)))) + ((jj_sm P.du 5)))) + ((jj_sm P.pa 5)))) + ((jj_sm P.re 5)))) + ((P.ca 0)))) + ((P.ca 1)))) + ((P.ca 2)))) + ((P.ca 3)))) - g0)) - g1))]) rfl ?_
  refine js_aload dL_law_351 rfl ?_
  refine js_aload_n 1 rfl dL_law_353 rfl ?_
  refine js_iload dL_law_354 rfl ?_
  refine js_iconst (v := nI 1) dL_law_356 (by decide) ?_
  refine js_callV (av := [.int (nI 2), .int (nI 1)]) (st := [.ref q, .int (nI (P.t / 14400)), .int (nI (((((((((((((((((((((((0 + ((P.h)))) + ((P.x)))) + ((jj_sm P.he 10)))) + ((jj_sm P.du 5)))) + ((jj_sm P.pa 5)))) + ((jj_sm P.re 5)))) + ((P.ca 0)))) + ((P.ca 1)))) + ((P.ca 2)))) + ((P.ca 3)))) - g0)) - g1))]) (b := 0) (q_X6_ofListener_1 hB3 hM hK (by omega)) (Or.inl rfl) jw_c_X6_ofListener jw_i_RX6 jw_m_RL_62 jw_s_X6_ofListener jw_e_X6_ofListener (jl_0 hB3) rfl jw_y_X6_ofListener rfl ⟨(Nat.le_of_ble_eq_true rfl), (Nat.le_of_ble_eq_true rfl), hnc, hsc, (Nat.le_of_ble_eq_true rfl)⟩ dL_law_357 ?_
  refine js_st (st' := [.int (nI (P.pl 2)), .ref q, .int (nI (P.t / 14400)), .int (nI (((((((((((((((((((((((0 + ((P.h)))) + ((P.x)))) + ((jj_sm P.he 10)))) + ((jj_sm P.du 5)))) + ((jj_sm P.pa 5)))) + ((jj_sm P.re 5)))) + ((P.ca 0)))) + ((P.ca 1)))) + ((P.ca 2)))) + ((P.ca 3)))) - g0)) - g1))]) rfl ?_
  refine js_iald ((P.pl 2)) rfl h3q (by omega) (by decide) ((hM0 ((P.pl 2)) (by omega))) dL_law_360 ?_
  refine jn_imul dL_law_361 ?_
  refine js_top (y := nI g2) (congrArg nI hg2) ?_
  refine jn_isub (by omega) dL_law_362 ?_
  refine js_istore (L' := [some (.retAddr 0), some (.ref 0), some (.ref 104), some (.int (nI i)), none, none, some (.ref q), some (.int (nI (((((((((((((((((((((((((0 + ((P.h)))) + ((P.x)))) + ((jj_sm P.he 10)))) + ((jj_sm P.du 5)))) + ((jj_sm P.pa 5)))) + ((jj_sm P.re 5)))) + ((P.ca 0)))) + ((P.ca 1)))) + ((P.ca 2)))) + ((P.ca 3)))) - g0)) - g1)) - g2))), some (.int (nI 2)), some (.int (nI 10)), some (.int (nI 10)), none]) dL_law_363 rfl (Nat.le_of_ble_eq_true rfl) ?_
  refine js_iinc (v := nI (2 + 1)) (L' := [some (.retAddr 0), some (.ref 0), some (.ref 104), some (.int (nI i)), none, none, some (.ref q), some (.int (nI (((((((((((((((((((((((((0 + ((P.h)))) + ((P.x)))) + ((jj_sm P.he 10)))) + ((jj_sm P.du 5)))) + ((jj_sm P.pa 5)))) + ((jj_sm P.re 5)))) + ((P.ca 0)))) + ((P.ca 1)))) + ((P.ca 2)))) + ((P.ca 3)))) - g0)) - g1)) - g2))), some (.int (nI (2 + 1))), some (.int (nI 10)), some (.int (nI 10)), none]) dL_law_365 rfl (jj_inc _) rfl ?_
  refine js_goto 338 dL_law_368 (by decide) ?_
  refine js_fgL (L' := [some (.retAddr 0), some (.ref 0), some (.ref 104), some (.int (nI i)), none, none, some (.ref q), some (.int (nI (((((((((((((((((((((((((0 + ((P.h)))) + ((P.x)))) + ((jj_sm P.he 10)))) + ((jj_sm P.du 5)))) + ((jj_sm P.pa 5)))) + ((jj_sm P.re 5)))) + ((P.ca 0)))) + ((P.ca 1)))) + ((P.ca 2)))) + ((P.ca 3)))) - g0)) - g1)) - g2))), some (.int (nI 3)), some (.int (nI 10)), some (.int (nI 10)), none]) (by simp [jj_le, jj_sm]) ?_
  refine js_iload dL_law_338 rfl ?_
  refine js_iconst (v := nI 4) dL_law_340 (by decide) ?_
  refine jn_icmp_ge 371 (by omega) (by omega) dL_law_341 (by decide) (fun h9 => absurd h9 (by decide)) (fun _ => ?_)
  refine js_iload dL_law_344 rfl ?_
  refine js_aload_n 1 rfl dL_law_346 rfl ?_
  refine js_iconst (v := nI 1) dL_law_347 (by decide) ?_
  refine js_callV (av := [.int (nI 1)]) (st := [.int (nI (((((((((((((((((((((((((0 + ((P.h)))) + ((P.x)))) + ((jj_sm P.he 10)))) + ((jj_sm P.du 5)))) + ((jj_sm P.pa 5)))) + ((jj_sm P.re 5)))) + ((P.ca 0)))) + ((P.ca 1)))) + ((P.ca 2)))) + ((P.ca 3)))) - g0)) - g1)) - g2))]) (b := 0) (q_X6_many_1 hB3 hM hK) (Or.inl rfl) jw_c_X6_many jw_i_RX6 jw_m_RL_47 jw_s_X6_many jw_e_X6_many (jl_0 hB3) rfl jw_y_X6_many rfl ⟨(Nat.le_of_ble_eq_true rfl), (Nat.le_of_ble_eq_true rfl), hnc, hsc, (Nat.le_of_ble_eq_true rfl)⟩ dL_law_348 ?_
  refine js_st (st' := [.int (nI (P.t / 14400)), .int (nI (((((((((((((((((((((((((0 + ((P.h)))) + ((P.x)))) + ((jj_sm P.he 10)))) + ((jj_sm P.du 5)))) + ((jj_sm P.pa 5)))) + ((jj_sm P.re 5)))) + ((P.ca 0)))) + ((P.ca 1)))) + ((P.ca 2)))) + ((P.ca 3)))) - g0)) - g1)) - g2))]) rfl ?_
  refine js_aload dL_law_351 rfl ?_
  refine js_aload_n 1 rfl dL_law_353 rfl ?_
  refine js_iload dL_law_354 rfl ?_
  refine js_iconst (v := nI 1) dL_law_356 (by decide) ?_
  refine js_callV (av := [.int (nI 3), .int (nI 1)]) (st := [.ref q, .int (nI (P.t / 14400)), .int (nI (((((((((((((((((((((((((0 + ((P.h)))) + ((P.x)))) + ((jj_sm P.he 10)))) + ((jj_sm P.du 5)))) + ((jj_sm P.pa 5)))) + ((jj_sm P.re 5)))) + ((P.ca 0)))) + ((P.ca 1)))) + ((P.ca 2)))) + ((P.ca 3)))) - g0)) - g1)) - g2))]) (b := 0) (q_X6_ofListener_1 hB3 hM hK (by omega)) (Or.inl rfl) jw_c_X6_ofListener jw_i_RX6 jw_m_RL_62 jw_s_X6_ofListener jw_e_X6_ofListener (jl_0 hB3) rfl jw_y_X6_ofListener rfl ⟨(Nat.le_of_ble_eq_true rfl), (Nat.le_of_ble_eq_true rfl), hnc, hsc, (Nat.le_of_ble_eq_true rfl)⟩ dL_law_357 ?_
  refine js_st (st' := [.int (nI (P.pl 3)), .ref q, .int (nI (P.t / 14400)), .int (nI (((((((((((((((((((((((((0 + ((P.h)))) + ((P.x)))) + ((jj_sm P.he 10)))) + ((jj_sm P.du 5)))) + ((jj_sm P.pa 5)))) + ((jj_sm P.re 5)))) + ((P.ca 0)))) + ((P.ca 1)))) + ((P.ca 2)))) + ((P.ca 3)))) - g0)) - g1)) - g2))]) rfl ?_
  refine js_iald ((P.pl 3)) rfl h3q (by omega) (by decide) ((hM0 ((P.pl 3)) (by omega))) dL_law_360 ?_
  refine jn_imul dL_law_361 ?_
  refine js_top (y := nI g3) (congrArg nI hg3) ?_
  refine jn_isub (by omega) dL_law_362 ?_
  refine js_istore (L' := [some (.retAddr 0), some (.ref 0), some (.ref 104), some (.int (nI i)), none, none, some (.ref q), some (.int (nI (((((((((((((((((((((((((((0 + ((P.h)))) + ((P.x)))) + ((jj_sm P.he 10)))) + ((jj_sm P.du 5)))) + ((jj_sm P.pa 5)))) + ((jj_sm P.re 5)))) + ((P.ca 0)))) + ((P.ca 1)))) + ((P.ca 2)))) + ((P.ca 3)))) - g0)) - g1)) - g2)) - g3))), some (.int (nI 3)), some (.int (nI 10)), some (.int (nI 10)), none]) dL_law_363 rfl (Nat.le_of_ble_eq_true rfl) ?_
  refine js_iinc (v := nI (3 + 1)) (L' := [some (.retAddr 0), some (.ref 0), some (.ref 104), some (.int (nI i)), none, none, some (.ref q), some (.int (nI (((((((((((((((((((((((((((0 + ((P.h)))) + ((P.x)))) + ((jj_sm P.he 10)))) + ((jj_sm P.du 5)))) + ((jj_sm P.pa 5)))) + ((jj_sm P.re 5)))) + ((P.ca 0)))) + ((P.ca 1)))) + ((P.ca 2)))) + ((P.ca 3)))) - g0)) - g1)) - g2)) - g3))), some (.int (nI (3 + 1))), some (.int (nI 10)), some (.int (nI 10)), none]) dL_law_365 rfl (jj_inc _) rfl ?_
  refine js_goto 338 dL_law_368 (by decide) ?_
  refine js_fgL (L' := [some (.retAddr 0), some (.ref 0), some (.ref 104), some (.int (nI i)), none, none, some (.ref q), some (.int (nI (((((((((((((((((((((((((((0 + ((P.h)))) + ((P.x)))) + ((jj_sm P.he 10)))) + ((jj_sm P.du 5)))) + ((jj_sm P.pa 5)))) + ((jj_sm P.re 5)))) + ((P.ca 0)))) + ((P.ca 1)))) + ((P.ca 2)))) + ((P.ca 3)))) - g0)) - g1)) - g2)) - g3))), some (.int (nI 4)), some (.int (nI 10)), some (.int (nI 10)), none]) (by simp [jj_le, jj_sm]) ?_
  refine js_iload dL_law_338 rfl ?_
  refine js_iconst (v := nI 4) dL_law_340 (by decide) ?_
  refine jn_icmp_ge 371 (by omega) (by omega) dL_law_341 (by decide) (fun _ => ?_) (fun h9 => absurd h9 (by decide))
  refine js_iload dL_law_371 rfl ?_
  refine jn_if_ne 384 (by omega) dL_law_373 (by decide) (fun h9 => absurd h9 (by omega)) (fun _ => ?_)
  refine js_aload_n 1 rfl dL_law_376 rfl ?_
  refine js_aload_n 2 rfl dL_law_377 rfl ?_
  refine js_callS (av := [.ref 0, .ref 104]) (st := []) hct (Or.inl rfl) jw_c_L_isSound jw_i_RL jw_m_RL_65 jw_s_L_isSound jw_y_L_isSound rfl ⟨(Nat.le_of_ble_eq_true rfl), (Nat.le_of_ble_eq_true rfl), (by rw [jj_l1_len]; omega), (by rw [jj_l1_sl]; omega), (Nat.le_of_ble_eq_true rfl)⟩ dL_law_378 ?_
  refine js_st (st' := [.int (nI 1)]) rfl ?_
  refine jn_if_ne 386 (by omega) dL_law_381 (by decide) (fun _ => ?_) (fun h9 => absurd h9 (by decide))
  refine js_iinc (v := nI (i + 1)) (L' := [some (.retAddr 0), some (.ref 0), some (.ref 104), some (.int (nI (i + 1))), none, none, some (.ref q), some (.int (nI (((((((((((((((((((((((((((0 + ((P.h)))) + ((P.x)))) + ((jj_sm P.he 10)))) + ((jj_sm P.du 5)))) + ((jj_sm P.pa 5)))) + ((jj_sm P.re 5)))) + ((P.ca 0)))) + ((P.ca 1)))) + ((P.ca 2)))) + ((P.ca 3)))) - g0)) - g1)) - g2)) - g3))), some (.int (nI 4)), some (.int (nI 10)), some (.int (nI 10)), none]) dL_law_386 rfl (jj_inc _) rfl ?_
  refine js_goto 22 dL_law_389 (by decide) ?_
  refine js_fgL (L' := [some (.retAddr 0), some (.ref 0), some (.ref 104), some (.int (nI (i + 1))), none, none, none, none, none, none, none, none]) (by simp [jj_le, jj_sm]) ?_
  exact jj_refl

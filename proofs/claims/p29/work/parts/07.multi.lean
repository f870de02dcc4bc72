/-! new int[N][K]: the outer row a cell, its N inner rows the cells behind it. -/
def jj_rf (n N : Nat) : List (Option (Option Nat)) := (List.range N).map fun i => some (some (n + 1 + i))
theorem jj_rf_at {n N i : Nat} (h : i < N) : (jj_rf n N)[i]? = some (some (some (n + 1 + i))) := by
  unfold jj_rf
  rw [List.getElem?_map, List.getElem?_range h]
  rfl
theorem jj_rf_no {n N i : Nat} (h : N ≤ i) : (jj_rf n N)[i]? = none := by
  unfold jj_rf
  rw [List.getElem?_map, List.getElem?_eq_none (by rw [List.length_range]; exact h)]
  rfl
theorem jj_sl_rep (k n : Nat) : jj_sl (List.replicate n ((20, k, []) : jj_Sh)) = n * k := by
  induction n with
  | zero => simp [jj_sl]
  | succ n ih => rw [List.replicate_succ]; show k + jj_sl _ = _; rw [ih, Nat.succ_mul]; omega
section JM
variable {cc : ByteArray} {nL : Nat} {own nm : String} {sx : jj_X} {fr lo nc sc : Nat} {cE : jj_C} {pc : Nat} {L : List (Option Value)} {st : List Value} {lay : jj_Lay} {S : jj_Mem}
theorem js_mna {ix : Nat} {inn ik : Int32} (N K : Nat) (hn : inn = nI N) (hk0 : ik = nI K) (hN : N ≤ 1000) (hK0 : K ≤ 1000) (hlk : Cond.classLink own ix "[[I" ∈ jj_gW) (hov : Cond.arrayOver (.array .int) ∈ jj_nW) (hac : Cond.arrayClass .int ∈ jj_gW) (hnc : lay.length + 1 + N ≤ nc) (hsc : jj_sl lay + N + N * K ≤ sc) (hdg : decode cc pc = .ok (.multianewarray ix 2, 4))
    (k : jj_R cc nL own nm sx fr lo nc sc (pc + 4, L, .ref lay.length :: st, lay ++ (22, N, jj_rf lay.length N) :: List.replicate N (20, K, []), jj_z S (lay.length + 1) N) cE) : jj_R cc nL own nm sx fr lo nc sc (pc, L, .int ik :: .int inn :: st, lay, S) cE := by
  intro p l e R s m args below meth cd D g A al0 n0 s0 Q hC hf hl hc hs hE
  have hk := k p l e R s m args below meth cd D g A al0 n0 s0 Q hC hf hl hc hs hE
  intro al t H locs ls cells slots h1 h2 hR
  obtain ⟨hx, hb, hml, hown, hnm, hts, hNw, hK, hA, hX⟩ := hC
  obtain ⟨e1, e2, e3, e4, e5, e6, e7, e8, e9, e10, e11⟩ := hR
  have z1 : n0 + cells = lay.length := h1
  have z2 : s0 + slots = jj_sl lay := h2
  subst hn; subst hk0
  have cN : (nI N).toNatClampNeg = N := nI_clamp (by omega)
  have cK : (nI K).toNatClampNeg = K := nI_clamp (by omega)
  intro T hT Xs
  obtain ⟨vm₁, cA, comp, -, fA, fC, hO, hI, X', step⟩ := Jvm.Stand.multianewarray2F Xs hx hown (hts _ hlk) (jj_ao_vm (A := #[]) rfl (hNw _ hov)) (hts _ hac) (g := F0 m pc ls (.int (nI K) :: .int (nI N) :: st.map (jj_v al))) rfl (by rw [hb]; exact hdg) rfl (nI_pos (by omega)) (nI_pos (by omega)) (by rw [cN]; omega) (by rw [cK]; show K * 4 ≤ _; omega) (by rw [cK]; omega) rfl rfl (by rw [cN]; omega) (by rw [cN, cK]; omega)
  rw [cN, cK] at X' step
  have eI : comp = g.1 := Option.some.inj (fC.symm.trans (hK.2 0 _ rfl).2)
  have eQ : cA = g.2.2 := Option.some.inj (fA.symm.trans (hK.2 2 _ rfl).2)
  subst eI; subst eQ
  generalize hF : Jvm.Free.Multi.fill (T.setVm vm₁) g.2.2 g.1 N K (defaultValue .int) N = F at X' step
  have hTh : (T.setVm vm₁).heap = H := hT
  obtain ⟨f1, f2, -, -⟩ := Jvm.Free.Multi.fill_facts (T.setVm vm₁) g.2.2 g.1 N K (defaultValue .int) N
  rw [hF, hTh] at f1 f2
  have hold : ∀ x : Nat, x < H.size → F.heap[x]? = H[x]? := fun x hx => by
    have := Jvm.Free.Multi.fill_old (T.setVm vm₁) g.2.2 g.1 N K (defaultValue .int) (a := x) (by rw [hTh]; exact hx) N
    rw [hF, hTh] at this
    exact this
  have hrow : ∀ j : Nat, j < N → F.heap[H.size + 1 + j]? = some (vp_cell g.1 (K, .inl (fun _ => 0))) := fun j hj => by
    have := Jvm.Free.Multi.fill_inner (T.setVm vm₁) g.2.2 g.1 N K (defaultValue .int) N j hj
    rw [hF, hTh] at this
    rw [this]
    show some ({ cls := g.1, slots := Array.replicate K (defaultValue .int), vm := .none } : Cell) = some (arrV g.1 K fun _ => .int 0)
    rw [← arrV_new]
    rfl
  rw [vr_outer] at f2
  have hlow : ∀ (k9 : Nat) (c9 : jj_Sh), lay[k9]? = some c9 → al (k9 + 1) < H.size := fun k9 c9 hc9 => (e2 k9 _ (jj_W_at hc9)).lt
  obtain ⟨al', hal⟩ : ∃ al' : Nat → Nat, al' = fun k9 => if k9 < lay.length + 1 then al k9 else H.size + (k9 - (lay.length + 1)) := ⟨_, rfl⟩
  have ga : ∀ k9, k9 < lay.length → al' (k9 + 1) = al (k9 + 1) := fun k9 h9 => by rw [hal]; exact if_pos (by omega)
  have gb : ∀ k9, lay.length ≤ k9 → al' (k9 + 1) = H.size + (k9 - lay.length) := fun k9 h9 => by
    rw [hal]
    show (if k9 + 1 < lay.length + 1 then al (k9 + 1) else H.size + (k9 + 1 - (lay.length + 1))) = _
    rw [if_neg (by omega)]
    omega
  have g0 : al' 0 = al 0 := by rw [hal]; exact if_pos (by omega)
  obtain ⟨new, hnew⟩ : ∃ new : jj_Lay, new = (22, N, jj_rf lay.length N) :: List.replicate N (20, K, []) := ⟨_, rfl⟩
  have hnl : new.length = 1 + N := by rw [hnew, List.length_cons, List.length_replicate]; omega
  have hn0 : new[0]? = some (22, N, jj_rf lay.length N) := by rw [hnew]; rfl
  have hn1 : ∀ i, i < N → new[i + 1]? = some (20, K, []) := fun i hi => by
    rw [hnew, List.getElem?_cons_succ, List.getElem?_replicate, if_pos hi]
  have hlen : (lay ++ new).length = lay.length + 1 + N := by rw [List.length_append, hnl]; omega
  have hWold : jj_W g al' (jj_zt t (lay.length + 1) N) lay = jj_W g al t lay := jj_W_agree e8 ga (fun k9 h9 => jj_zt_lo (by omega))
  have hP0 : va_P D vwCl (jj_W g al t lay) F.heap := e2.kept (fun k9 q hq => hold q.1 ((e2 k9 q hq).lt))
  have hP : va_P D vwCl (jj_W g al' (jj_zt t (lay.length + 1) N) (lay ++ new)) F.heap := by
    rw [jj_W_app, hWold]
    refine hP0.app (fun k9 q hq => ?_)
    rw [List.getElem?_mapIdx] at hq
    cases k9 with
    | zero =>
      rw [hn0] at hq
      cases hq
      show va_at D vwCl (al' (lay.length + 0 + 1), jj_cell g al' _ (22, N, jj_rf lay.length N)) F.heap
      rw [jj_cell_q]
      show F.heap[al' (lay.length + 0 + 1)]? = some _
      rw [gb _ (Nat.le_refl _), Nat.sub_self, Nat.add_zero, f2]
      show some _ = some (arrV g.2.2 N (fun j => va_rf (jj_el al' (jj_rf lay.length N) j)))
      refine congrArg some (congrArg (arrV g.2.2 N) (funext fun j => ?_))
      show va_rf _ = va_rf _
      unfold jj_el
      by_cases hj : j < N
      · rw [if_pos hj, jj_rf_at hj]
        show va_rf _ = va_rf (some (al' (lay.length + 1 + j + 1)))
        rw [gb _ (by omega), show H.size + (lay.length + 1 + j - lay.length) = H.size + 1 + j by omega]
      · rw [if_neg hj, jj_rf_no (by omega)]
    | succ i =>
      by_cases hi : i < N
      · rw [hn1 i hi] at hq
        cases hq
        show va_at D vwCl (al' (lay.length + (i + 1) + 1), jj_cell g al' _ (20, K, [])) F.heap
        rw [jj_cell_i]
        show F.heap[al' (lay.length + (i + 1) + 1)]? = some _
        rw [gb _ (by omega), show H.size + (lay.length + (i + 1) - lay.length) = H.size + 1 + i by omega, hrow i hi, jj_zt_hi (by omega) (by omega)]
      · rw [List.getElem?_eq_none (by rw [hnl]; omega)] at hq
        cases hq
  have haddr : ∀ (k9 : Nat) (q : Nat × va_E), (jj_W g al' (jj_zt t (lay.length + 1) N) (lay ++ new))[k9]? = some q → q.1 = al' (k9 + 1) ∧ (k9 < lay.length → q.1 < H.size) := fun k9 q hq => by
    obtain ⟨c9, hc9, rfl⟩ := jj_W_inv hq
    refine ⟨rfl, fun h9 => ?_⟩
    show al' (k9 + 1) < _
    rw [ga k9 h9]
    rw [List.getElem?_append_left h9] at hc9
    exact hlow k9 c9 hc9
  have hold9 : ∀ (k9 : Nat) (q : Nat × va_E), k9 < lay.length → (jj_W g al' (jj_zt t (lay.length + 1) N) (lay ++ new))[k9]? = some q → (jj_W g al t lay)[k9]? = some q := fun k9 q h9 hq => by
    rw [jj_W_app, hWold, List.getElem?_append_left (by unfold jj_W; rw [List.length_mapIdx]; exact h9)] at hq
    exact hq
  have hD : va_D A (jj_W g al' (jj_zt t (lay.length + 1) N) (lay ++ new)) := by
    refine ⟨fun i j x y hi hj hxy => ?_, fun k9 q hq => ?_⟩
    · obtain ⟨a1, a2⟩ := haddr i x hi
      obtain ⟨b1, b2⟩ := haddr j y hj
      by_cases hi9 : i < lay.length <;> by_cases hj9 : j < lay.length
      · exact e3.1 i j x y (hold9 i x hi9 hi) (hold9 j y hj9 hj) hxy
      · have := a2 hi9
        rw [hxy, b1, gb j (by omega)] at this
        omega
      · have := b2 hj9
        rw [← hxy, a1, gb i (by omega)] at this
        omega
      · rw [a1, b1, gb i (by omega), gb j (by omega)] at hxy
        omega
    · by_cases h9 : k9 < lay.length
      · exact e3.2 k9 q (hold9 k9 q h9 hq)
      · refine hA _ ?_
        rw [(haddr k9 q hq).1, gb k9 (by omega)]
        exact Nat.le_trans e4.1 (Nat.le_add_right _ _)
  have hsz : H.size ≤ F.heap.size := by omega
  have hS : va_S A s.heap F.heap locs := ⟨Nat.le_trans e4.1 hsz, fun q q1 q2 => (hold q (Nat.lt_of_lt_of_le q1 e4.1)).trans (e4.2.1 q q1 q2), e4.2.2⟩
  have hsl9 : jj_sl (lay ++ new) = jj_sl lay + (N + N * K) := by
    rw [jj_sl_app, hnew]
    show _ + (N + jj_sl _) = _
    rw [jj_sl_rep]
  have hyn : jj_wy (lay ++ new) := jj_wy_app e8 (fun c9 hc9 q hq => by
    rw [hlen]
    rw [hnew] at hc9
    rcases List.mem_cons.mp hc9 with h9 | h9
    · rw [h9] at hq
      obtain ⟨j, hj⟩ := List.getElem?_of_mem hq
      replace hj : (jj_rf lay.length N)[j]? = some (some (some q)) := hj
      by_cases hjN : j < N
      · rw [jj_rf_at hjN] at hj
        cases hj
        omega
      · rw [jj_rf_no (by omega)] at hj
        cases hj
    · rw [List.eq_of_mem_replicate h9] at hq
      cases hq)
  have hk2 := hk al' (jj_zt t (lay.length + 1) N) F.heap locs ls (cells + 1 + N) (slots + N + N * K)
    (by show n0 + (cells + 1 + N) = (lay ++ (22, N, jj_rf lay.length N) :: List.replicate N (20, K, [])).length; rw [← hnew, hlen]; omega)
    (by show s0 + (slots + N + N * K) = jj_sl (lay ++ (22, N, jj_rf lay.length N) :: List.replicate N (20, K, [])); rw [← hnew, hsl9]; omega)
  dsimp only at hk2
  rw [← hnew] at hk2
  have hk3 := hk2 ⟨jj_ext_z e1, hP, hD, hS, by rw [jj_asg_agree g0 ga e6]; exact e5, jj_wl_mono (by rw [hlen]; omega) e6, jj_ws_cons (by show lay.length < (lay ++ new).length; rw [hlen]; omega) (jj_ws_mono (by rw [hlen]; omega) (jj_ws_tl (jj_ws_tl e7))), hyn, e9, g0.trans e10, fun k9 h9 => (ga k9 (by omega)).trans (e11 k9 h9)⟩
  have hst9 : (Value.ref lay.length :: st).map (jj_v al') = Value.ref T.heap.size :: st.map (jj_v al) := by
    rw [List.map_cons, jj_st_agree g0 ga (jj_ws_tl (jj_ws_tl e7)), hT]
    show Value.ref (al' (lay.length + 1)) :: _ = _
    rw [gb _ (Nat.le_refl _), Nat.sub_self, Nat.add_zero]
  rw [hst9] at hk3
  obtain ⟨t2, a1, b1⟩ := hk3 F rfl X'
  exact ⟨t2, step t2 a1, b1⟩
end JM

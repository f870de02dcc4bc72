/-! CALLS, the caller's side: the whole picture goes along, and comes back. -/
theorem jj_v_agree {al al' : Nat → Nat} {n : Nat} (h0 : al' 0 = al 0) (h : ∀ k, k < n → al' (k + 1) = al (k + 1)) {v : Value} (hv : jj_wv n v) : jj_v al' v = jj_v al v := by
  cases v with
  | ref p => show Value.ref _ = Value.ref _; rw [h p hv]
  | retAddr x => show Value.ref _ = Value.ref _; rw [h0]
  | _ => rfl
theorem jj_asg_agree {al al' : Nat → Nat} {n : Nat} (h0 : al' 0 = al 0) (h : ∀ k, k < n → al' (k + 1) = al (k + 1)) : ∀ {L : List (Option Value)} {i : Nat}, jj_wl n L → jj_asg al' i L = jj_asg al i L
  | [], i, _ => rfl
  | none :: r, i, hL => jj_asg_agree h0 h (L := r) (i := i + 1) (fun v hv => hL v (List.mem_cons_of_mem _ hv))
  | some w :: r, i, hL => by
    show (i, jj_v al' w) :: jj_asg al' (i + 1) r = (i, jj_v al w) :: jj_asg al (i + 1) r
    rw [jj_v_agree h0 h (hL w List.mem_cons_self), jj_asg_agree h0 h (L := r) (i := i + 1) (fun v hv => hL v (List.mem_cons_of_mem _ hv))]
theorem jj_st_agree {al al' : Nat → Nat} {n : Nat} (h0 : al' 0 = al 0) (h : ∀ k, k < n → al' (k + 1) = al (k + 1)) {st : List Value} (hs : jj_ws n st) : st.map (jj_v al') = st.map (jj_v al) :=
  List.map_congr_left fun v hv => jj_v_agree h0 h (hs v hv)
theorem jj_nW_same {s U : State} (hv : s.vm = U.vm) (h : ∀ w ∈ jj_nW, va_Nw w s) : ∀ w ∈ jj_nW, va_Nw w U := by
  intro w hw
  have hn := (List.mem_filter.mp hw).2
  have h1 := h w hw
  cases w <;> first | exact va_Nw.same rfl hv h1 | exact jj_ao_vm (A := #[]) hv h1 | cases hn
theorem jj_X_moved {b Ls : Nat} {xs : Nat → Int32} {u U : State} {H : Heap} (hvm : u.vm.Alike U.vm) (h : va_X b Ls xs u H) : va_X b Ls xs U H := by
  obtain ⟨scr, h1, h2, h3⟩ := h
  exact ⟨scr, h1, State.isArrayOf_alike hvm h2, h3⟩
theorem jj_blind {D : va_G} {g : jj_G} {sx : jj_X} {al : Nat → Nat} {t : Nat → Nat → Int32} {lay : jj_Lay} {av : List Value} {sz : Nat} : FrameBlind (jj_Pc D g sx al t lay av sz) := by
  intro a U gg mk q
  obtain ⟨q0, q1, qP, qK, qD, qN, qX⟩ := q
  exact ⟨q0, q1, qP, va_K.moved (u := U) (U := U.calling gg mk a) (Vm.Alike.refl U.vm) qK, qD, jj_nW_same (s := U) (U := U.calling gg mk a) rfl qN, fun y hy => ⟨jj_X_moved (u := U) (U := U.calling gg mk a) (Vm.Alike.refl U.vm) (qX y hy).1, (qX y hy).2⟩⟩
theorem jj_pcU {s : State} {D : va_G} {g : jj_G} {sx : jj_X} {A : Nat → Prop} {al : Nat → Nat} {t : Nat → Nat → Int32} {lay : jj_Lay} {av : List Value} {H : Heap} {locs : List Loc} (hP : va_P D vwCl (jj_W g al t lay) H) (hK : va_K D vwCl [(g.1, .int), (g.2.1, .boolean), (g.2.2, .array .int)] s) (hD : va_D A (jj_W g al t lay)) (hN : ∀ w ∈ jj_nW, va_Nw w s) (hS : va_S A s.heap H locs)
    (hX : ∀ y, sx = some y → va_X (al 0) y.1 y.2 s s.heap ∧ al 0 < s.heap.size ∧ ¬ A (al 0)) : ∀ U : State, U.heap = H → s.WarmedH U.vm → jj_Pc D g sx al t lay av H.size (av.map (jj_v al)).toArray U := by
  intro U hU hW
  refine ⟨rfl, by rw [hU], by rw [hU]; exact hP, va_K.moved hW.alike hK, hD.weaken (fun _ _ _ _ => trivial), jj_nW_warm hW hN, fun y hy => ?_⟩
  obtain ⟨x1, x2, x3⟩ := hX y hy
  refine ⟨?_, Nat.lt_of_lt_of_le x2 hS.1, fun k c hc e => ?_⟩
  · obtain ⟨scr, h1, h2, h3⟩ := x1
    exact ⟨scr, by rw [hU, hS.2.1 _ x2 x3]; exact h1, State.isArrayOf_alike hW.alike h2, h3⟩
  · have h9 := hD.2 k _ (jj_W_at (g := g) (al := al) (t := t) hc)
    exact x3 (by rw [← e]; exact h9)
section JC
variable {p : Program} {l : Launch} {e : Env} {R : Room} {s : State} {m : MethodId} {args : Array Value} {below : List Frame} {meth : Method} {cd : Code} {H : Heap} {locs : List Loc} {cells slots : Nat} {Q : State → Prop}
theorem jj_goon {D : va_G} {g : jj_G} {A : Nat → Prop} {al : Nat → Nat} {t : Nat → Nat → Int32} {lay lay' : jj_Lay} {S' : jj_Mem} {v : Option Value} {mc ms pc : Nat} {ls : Array Slot} {st0 rest : List Value} {aa : Array Value}
    (hr : va_Run p l e R s m args below meth cd H locs cells slots mc ms (F0 m pc ls st0) rest (jj_Qc D g al t lay H.size v lay' S' aa) (va_A (jj_W g al t lay) H.size)) (hS : va_S A s.heap H locs) (hD : va_D A (jj_W g al t lay)) (hA : ∀ q, s.heap.size ≤ q → A q)
    (kk : ∀ (al' : Nat → Nat) (t' : Nat → Nat → Int32) (H1 : Heap) (locs1 : List Loc), al' 0 = al 0 → (∀ k, k < lay.length → al' (k + 1) = al (k + 1)) → jj_ext S' t' → va_P D vwCl (jj_W g al' t' lay') H1 → va_D A (jj_W g al' t' lay') → va_S A s.heap H1 locs1 → W p l e R s m args below meth cd H1 locs1 (cells + mc) (slots + ms) Q (F0 m (pc + 3) ls ((v.map (jj_v al')).toList ++ rest))) : W p l e R s m args below meth cd H locs cells slots Q (F0 m pc ls st0) := by
  have hf : ∀ q, va_A (jj_W g al t lay) H.size q → A q := fun q h => by
    rcases h with ⟨k, e9, h⟩ | h
    · exact hD.2 k _ h
    · exact hA q (Nat.le_trans hS.1 h)
  intro T hT X
  obtain ⟨v0, st₀, t0, T', L, h0, X', hL, e1, e2, ⟨al', t', hv, ⟨g1, g2⟩, hext, hP1, hD1, hF⟩, stp⟩ := hr T hT X
  cases hv
  obtain ⟨hz, hk⟩ := hF
  rw [h0] at hz hk
  obtain ⟨t2, a1, b1⟩ := kk al' t' T'.heap (locs ++ L) g1 g2 hext (by rw [e1]; exact hP1) (hD1.weaken (fun _ _ _ h => hf _ h))
    ⟨Nat.le_trans hS.1 (by rw [e1]; exact hz), fun q h1 h2 => by rw [e1, hk q (Nat.lt_of_lt_of_le h1 hS.1) (fun z => h2 (hf q z))]; exact hS.2.1 q h1 h2, fun q hq => by
      rcases List.mem_append.mp hq with h | h
      · exact hS.2.2 q h
      · exact hf _ (hL q h)⟩ T' rfl X'
  exact ⟨t2, stp t2 a1, b1⟩
end JC
theorem jj_GI {hd : Cond} (h : hd ∈ jj_gW) : GoodIn jj_gW (hd :: jj_gW) := fun w hw => by
  rcases List.mem_cons.mp hw with e | hw
  · subst e; exact ⟨h, jj_gW_good _ h⟩
  · exact ⟨hw, jj_gW_good _ hw⟩
/-- what a call needs of the callee's name, by program -/
def jj_yn (y : MethodName) (n : Nat) : Prop := y.cls ≠ "java/lang/invoke/MethodHandle" ∧ y.cls ≠ "java/lang/invoke/VarHandle" ∧ (parseMethodDescriptor y.desc).map (fun d => d.parameters.length) = some n
/-- the room of a call -/
def jj_rm (fr lo fr' lo' nL' nc sc : Nat) (lay' : jj_Lay) (st : List Value) : Prop := fr' + 1 ≤ fr ∧ 8 + (nL' + 11) + lo' ≤ lo ∧ lay'.length ≤ nc ∧ jj_sl lay' ≤ sc ∧ (st.map fun v => v.category).sum ≤ 8
section JK
variable {cc : ByteArray} {nL : Nat} {own nm : String} {sx sx' : jj_X} {fr lo nc sc : Nat} {cE : jj_C} {pc : Nat} {L : List (Option Value)} {st : List Value} {lay lay' : jj_Lay} {S S' : jj_Mem}
theorem js_callS {y : MethodName} {cc' : ByteArray} {nL' fr' lo' ix : Nat} {av : List Value} {v : Option Value} {ret' : Option FieldType} {stk : List Value} (hCT : jj_CT y (.code y cc' nL' ret') sx' fr' lo' av lay S v lay' S') (hsx : sx' = none ∨ sx' = sx) (hcw : Cond.code y cc' nL' ret' ∈ jj_gW) (hini : Cond.initialized y.cls ∈ jj_gW) (hlk : Cond.methodLink own ix y ∈ jj_gW) (hstt : Cond.static y ∈ jj_gW) (hyn : jj_yn y av.length) (hstk : stk = av.reverse ++ st) (hrm : jj_rm fr lo fr' lo' nL' nc sc lay' st) (hdg : decode cc pc = .ok (.invokestatic ix, 3))
    (k : jj_R cc nL own nm sx fr lo nc sc (pc + 3, L, v.toList ++ st, lay', S') cE) : jj_R cc nL own nm sx fr lo nc sc (pc, L, stk, lay, S) cE := by
  intro p l e R s m args below meth cd D g A al0 n0 s0 Q hC hf hl hc hs hE
  have hk := k p l e R s m args below meth cd D g A al0 n0 s0 Q hC hf hl hc hs hE
  intro al t H locs ls cells slots h1 h2 hR
  obtain ⟨hx, hb, hml, hown, hnm, hts, hN, hK, hA, hX⟩ := hC
  obtain ⟨e1, e2, e3, e4, e5, e6, e7, e8, e9, e10, e11⟩ := hR
  subst hstk
  obtain ⟨c1, c2, c3⟩ := hCT
  obtain ⟨m1, m2, m3, m4, m5⟩ := hrm
  have hrest : jj_ws lay.length st := fun w hw => e7 w (List.mem_append_right _ hw)
  have hav : jj_ws lay.length av := fun w hw => e7 w (List.mem_append_left _ (List.mem_reverse.mpr hw))
  obtain ⟨d1, d2, d3⟩ := c3 hav e8
  have hM := d3 l D g al t H.size e1
  have hX9 : ∀ z, sx' = some z → va_X (al 0) z.1 z.2 s s.heap ∧ al 0 < s.heap.size ∧ ¬ A (al 0) := fun z hz => by
    rcases hsx with q | q
    · rw [q] at hz; cases hz
    · rw [e10]; exact hX z (q ▸ hz)
  have hpc := jj_pcU (sx := sx') (av := av) e2 hK e3 hN e4 hX9
  have hlen9 : (av.map (jj_v al)).length = av.length := List.length_map _
  have hst9 : (av.reverse ++ st).map (jj_v al) = (av.map (jj_v al)).reverse ++ st.map (jj_v al) := by
    rw [List.map_append, List.map_reverse]
  have hcat : ((st.map (jj_v al)).map fun v => v.category).sum ≤ 8 := by
    rw [List.map_map]
    have : (st.map ((fun v => v.category) ∘ jj_v al)) = st.map fun v => v.category := List.map_congr_left fun v _ => jj_v_cat al v
    rw [this]; exact m5
  have hroom : cells + (lay'.length - lay.length) ≤ R.cells ∧ slots + (jj_sl lay' - jj_sl lay) ≤ R.slots := by
    have z1 : n0 + cells = lay.length := h1
    have z2 : s0 + slots = jj_sl lay := h2
    constructor <;> omega
  have hGI : GoodIn jj_gW (va_wsS own ix y (.code y cc' nL' ret' :: jj_gW)) := fun w hw => by
    unfold va_wsS at hw
    rcases List.mem_append.mp hw with hw | hw
    · have hw2 : w ∈ jj_gW := by
        simp only [List.mem_cons, List.not_mem_nil, or_false] at hw
        rcases hw with rfl | rfl | rfl <;> assumption
      exact ⟨hw2, jj_gW_good _ hw2⟩
    · exact jj_GI hcw w hw
  refine W.eq (g2 := F0 m pc ls ((av.map (jj_v al)).reverse ++ st.map (jj_v al))) (congrArg (F0 m pc ls) hst9) ?_
  refine jj_goon (va_runS (As := av.map (jj_v al)) (rest := st.map (jj_v al)) ⟨hx, hb, hml, hown, hts⟩ hM (va_cwS av.length hts hGI rfl rfl rfl hyn ⟨by show fr' + 1 ≤ _; omega, by show 8 + (nL' + 11) + lo' ≤ _; omega⟩) ⟨jj_blind, hpc⟩ rfl hlen9 e5.1 rfl (lv_room hcat) hdg hroom) e4 e3 hA (fun al' t' H1 locs1 g1 g2 hext hP1 hD1 hS1 => ?_)
  have hk2 := hk al' t' H1 locs1 ls (cells + (lay'.length - lay.length)) (slots + (jj_sl lay' - jj_sl lay)) (by have z1 : n0 + cells = lay.length := h1; show n0 + (cells + (lay'.length - lay.length)) = lay'.length; omega) (by have z2 : s0 + slots = jj_sl lay := h2; show s0 + (slots + (jj_sl lay' - jj_sl lay)) = jj_sl lay'; omega)
    ⟨hext, hP1, hD1, hS1, by rw [jj_asg_agree g1 g2 e6]; exact e5, fun w hw => jj_wv_mono c1 (e6 w hw), fun w hw => by
      rcases List.mem_append.mp hw with h | h
      · cases v with
        | none => cases h
        | some v => exact d2 w (congrArg some (List.mem_singleton.mp h).symm)
      · exact jj_wv_mono c1 (hrest w h), d1, e9, g1.trans e10, fun q hq => (g2 q (by have z1 : n0 + cells = lay.length := h1; omega)).trans (e11 q hq)⟩
  have he9 : (v.toList ++ st).map (jj_v al') = (v.map (jj_v al')).toList ++ st.map (jj_v al) := by
    rw [List.map_append, jj_st_agree g1 g2 hrest]
    cases v <;> rfl
  have hk3 := hk2
  dsimp only at hk3
  rw [he9] at hk3
  exact hk3
theorem js_callSN {y : MethodName} {cc' : ByteArray} {nL' fr' lo' ix : Nat} {av : List Value} {v : Option Value} {ret' : Option FieldType} {host : String} {stk : List Value} (hCT : jj_CT y (.code y cc' nL' ret') sx' fr' lo' av lay S v lay' S') (hsx : sx' = none ∨ sx' = sx) (hcw : Cond.code y cc' nL' ret' ∈ jj_gW) (hini : Cond.initialized y.cls ∈ jj_gW) (hlk : Cond.methodLinkNest own ix y host ∈ jj_nW) (hstt : Cond.static y ∈ jj_gW) (hyn : jj_yn y av.length) (hstk : stk = av.reverse ++ st) (hrm : jj_rm fr lo fr' lo' nL' nc sc lay' st) (hdg : decode cc pc = .ok (.invokestatic ix, 3))
    (k : jj_R cc nL own nm sx fr lo nc sc (pc + 3, L, v.toList ++ st, lay', S') cE) : jj_R cc nL own nm sx fr lo nc sc (pc, L, stk, lay, S) cE := by
  intro p l e R s m args below meth cd D g A al0 n0 s0 Q hC hf hl hc hs hE
  have hk := k p l e R s m args below meth cd D g A al0 n0 s0 Q hC hf hl hc hs hE
  intro al t H locs ls cells slots h1 h2 hR
  obtain ⟨hx, hb, hml, hown, hnm, hts, hN, hK, hA, hX⟩ := hC
  obtain ⟨e1, e2, e3, e4, e5, e6, e7, e8, e9, e10, e11⟩ := hR
  subst hstk
  obtain ⟨c1, c2, c3⟩ := hCT
  obtain ⟨m1, m2, m3, m4, m5⟩ := hrm
  have hrest : jj_ws lay.length st := fun w hw => e7 w (List.mem_append_right _ hw)
  have hav : jj_ws lay.length av := fun w hw => e7 w (List.mem_append_left _ (List.mem_reverse.mpr hw))
  obtain ⟨d1, d2, d3⟩ := c3 hav e8
  have hM := d3 l D g al t H.size e1
  have hX9 : ∀ z, sx' = some z → va_X (al 0) z.1 z.2 s s.heap ∧ al 0 < s.heap.size ∧ ¬ A (al 0) := fun z hz => by
    rcases hsx with q | q
    · rw [q] at hz; cases hz
    · rw [e10]; exact hX z (q ▸ hz)
  have hpc := jj_pcU (sx := sx') (av := av) e2 hK e3 hN e4 hX9
  have hlen9 : (av.map (jj_v al)).length = av.length := List.length_map _
  have hst9 : (av.reverse ++ st).map (jj_v al) = (av.map (jj_v al)).reverse ++ st.map (jj_v al) := by
    rw [List.map_append, List.map_reverse]
  have hcat : ((st.map (jj_v al)).map fun v => v.category).sum ≤ 8 := by
    rw [List.map_map]
    have : (st.map ((fun v => v.category) ∘ jj_v al)) = st.map fun v => v.category := List.map_congr_left fun v _ => jj_v_cat al v
    rw [this]; exact m5
  have hroom : cells + (lay'.length - lay.length) ≤ R.cells ∧ slots + (jj_sl lay' - jj_sl lay) ≤ R.slots := by
    have z1 : n0 + cells = lay.length := h1
    have z2 : s0 + slots = jj_sl lay := h2
    constructor <;> omega
  refine W.eq (g2 := F0 m pc ls ((av.map (jj_v al)).reverse ++ st.map (jj_v al))) (congrArg (F0 m pc ls) hst9) ?_
  refine jj_goon (va_runSN (As := av.map (jj_v al)) (rest := st.map (jj_v al)) ⟨hx, hb, hml, hown, hts⟩ hM ⟨va_cnB av.length hts (jj_GI hcw) rfl rfl rfl (hN _ hlk) (hts _ hini) hyn ⟨by show fr' + 1 ≤ _; omega, by show 8 + (nL' + 11) + lo' ≤ _; omega⟩, hts _ hstt, trivial⟩ ⟨jj_blind, hpc⟩ rfl hlen9 e5.1 rfl (lv_room hcat) hdg hroom) e4 e3 hA (fun al' t' H1 locs1 g1 g2 hext hP1 hD1 hS1 => ?_)
  have hk2 := hk al' t' H1 locs1 ls (cells + (lay'.length - lay.length)) (slots + (jj_sl lay' - jj_sl lay)) (by have z1 : n0 + cells = lay.length := h1; show n0 + (cells + (lay'.length - lay.length)) = lay'.length; omega) (by have z2 : s0 + slots = jj_sl lay := h2; show s0 + (slots + (jj_sl lay' - jj_sl lay)) = jj_sl lay'; omega)
    ⟨hext, hP1, hD1, hS1, by rw [jj_asg_agree g1 g2 e6]; exact e5, fun w hw => jj_wv_mono c1 (e6 w hw), fun w hw => by
      rcases List.mem_append.mp hw with h | h
      · cases v with
        | none => cases h
        | some v => exact d2 w (congrArg some (List.mem_singleton.mp h).symm)
      · exact jj_wv_mono c1 (hrest w h), d1, e9, g1.trans e10, fun q hq => (g2 q (by have z1 : n0 + cells = lay.length := h1; omega)).trans (e11 q hq)⟩
  have he9 : (v.toList ++ st).map (jj_v al') = (v.map (jj_v al')).toList ++ st.map (jj_v al) := by
    rw [List.map_append, jj_st_agree g1 g2 hrest]
    cases v <;> rfl
  have hk3 := hk2
  dsimp only at hk3
  rw [he9] at hk3
  exact hk3
theorem js_callV {y : MethodName} {cc' : ByteArray} {nL' fr' lo' ix : Nat} {av : List Value} {v : Option Value} {ret' : Option FieldType} {b : Nat} {stk : List Value} (hCT : jj_CT y (.code y cc' nL' ret') sx' fr' lo' (.ref b :: av) lay S v lay' S') (hsx : sx' = none ∨ sx' = sx) (hcw : Cond.code y cc' nL' ret' ∈ jj_gW) (hini : Cond.initialized y.cls ∈ jj_gW) (hlk : Cond.methodLink own ix y ∈ jj_gW) (hin : Cond.instanceMethod y ∈ jj_gW) (hse : Cond.selects y.cls y y ∈ jj_gW) {ci n9 : Nat} {rs9 : List (Option (Option Nat))} {T9 : u_T} (hb9 : lay[b]? = some (ci, n9, rs9)) (hcl : vwCl[ci]? = some (y.cls, T9, n9)) (hyn : jj_yn y av.length) (hstk : stk = av.reverse ++ .ref b :: st) (hrm : jj_rm fr lo fr' lo' nL' nc sc lay' st) (hdg : decode cc pc = .ok (.invokevirtual ix, 3))
    (k : jj_R cc nL own nm sx fr lo nc sc (pc + 3, L, v.toList ++ st, lay', S') cE) : jj_R cc nL own nm sx fr lo nc sc (pc, L, stk, lay, S) cE := by
  intro p l e R s m args below meth cd D g A al0 n0 s0 Q hC hf hl hc hs hE
  have hk := k p l e R s m args below meth cd D g A al0 n0 s0 Q hC hf hl hc hs hE
  intro al t H locs ls cells slots h1 h2 hR
  obtain ⟨hx, hb, hml, hown, hnm, hts, hN, hK, hA, hX⟩ := hC
  obtain ⟨e1, e2, e3, e4, e5, e6, e7, e8, e9, e10, e11⟩ := hR
  subst hstk
  obtain ⟨c1, c2, c3⟩ := hCT
  obtain ⟨m1, m2, m3, m4, m5⟩ := hrm
  have hrest : jj_ws lay.length st := fun w hw => e7 w (List.mem_append_right _ (List.mem_cons_of_mem _ hw))
  have hav : jj_ws lay.length (.ref b :: av) := fun w hw => by
    rcases List.mem_cons.mp hw with e | hw
    · exact e7 w (List.mem_append_right _ (by rw [e]; exact List.mem_cons_self))
    · exact e7 w (List.mem_append_left _ (List.mem_reverse.mpr hw))
  obtain ⟨d1, d2, d3⟩ := c3 hav e8
  have hM := d3 l D g al t H.size e1
  have hX9 : ∀ z, sx' = some z → va_X (al 0) z.1 z.2 s s.heap ∧ al 0 < s.heap.size ∧ ¬ A (al 0) := fun z hz => by
    rcases hsx with q | q
    · rw [q] at hz; cases hz
    · rw [e10]; exact hX z (q ▸ hz)
  have hpc := jj_pcU (sx := sx') (av := (.ref b :: av)) e2 hK e3 hN e4 hX9
  have hlen9 : (av.map (jj_v al)).length = av.length := List.length_map _
  have hst9 : (av.reverse ++ .ref b :: st).map (jj_v al) = (av.map (jj_v al)).reverse ++ .ref (al (b + 1)) :: st.map (jj_v al) := by
    rw [List.map_append, List.map_reverse]; rfl
  have hcat : ((st.map (jj_v al)).map fun v => v.category).sum ≤ 8 := by
    rw [List.map_map]
    have : (st.map ((fun v => v.category) ∘ jj_v al)) = st.map fun v => v.category := List.map_congr_left fun v _ => jj_v_cat al v
    rw [this]; exact m5
  have hroom : cells + (lay'.length - lay.length) ≤ R.cells ∧ slots + (jj_sl lay' - jj_sl lay) ≤ R.slots := by
    have z1 : n0 + cells = lay.length := h1
    have z2 : s0 + slots = jj_sl lay := h2
    constructor <;> omega
  have hrecv : ∃ cell : Cell, H[al (b + 1)]? = some cell ∧ cell.vm.isStatics = false ∧ s.vm.findClass y.cls = some cell.cls := by
    have he := jj_W_at (g := g) (al := al) (t := t) hb9
    rw [jj_cell_o (jj_cls hcl).2.2.2] at he
    exact va_recv hK e2 hcl he
  have hGI : GoodIn jj_gW (wsV own ix y.cls y (.code y cc' nL' ret' :: jj_gW)) := fun w hw => by
    unfold wsV at hw
    rcases List.mem_append.mp hw with hw | hw
    · have hw2 : w ∈ jj_gW := by
        simp only [List.mem_cons, List.not_mem_nil, or_false] at hw
        rcases hw with rfl | rfl | rfl | rfl <;> assumption
      exact ⟨hw2, jj_gW_good _ hw2⟩
    · exact jj_GI hcw w hw
  refine W.eq (g2 := F0 m pc ls ((av.map (jj_v al)).reverse ++ .ref (al (b + 1)) :: st.map (jj_v al))) (congrArg (F0 m pc ls) hst9) ?_
  refine jj_goon (va_runV (As := av.map (jj_v al)) (rest := st.map (jj_v al)) ⟨hx, hb, hml, hown, hts⟩ hM (cwV av.length hts hGI rfl rfl rfl ⟨rfl, hyn⟩ ⟨by show fr' + 1 ≤ _; omega, by show 8 + (nL' + 11) + lo' ≤ _; omega⟩) ⟨jj_blind, hrecv, hpc⟩ rfl hlen9 e5.1 rfl (lv_room hcat) hdg hroom) e4 e3 hA (fun al' t' H1 locs1 g1 g2 hext hP1 hD1 hS1 => ?_)
  have hk2 := hk al' t' H1 locs1 ls (cells + (lay'.length - lay.length)) (slots + (jj_sl lay' - jj_sl lay)) (by have z1 : n0 + cells = lay.length := h1; show n0 + (cells + (lay'.length - lay.length)) = lay'.length; omega) (by have z2 : s0 + slots = jj_sl lay := h2; show s0 + (slots + (jj_sl lay' - jj_sl lay)) = jj_sl lay'; omega)
    ⟨hext, hP1, hD1, hS1, by rw [jj_asg_agree g1 g2 e6]; exact e5, fun w hw => jj_wv_mono c1 (e6 w hw), fun w hw => by
      rcases List.mem_append.mp hw with h | h
      · cases v with
        | none => cases h
        | some v => exact d2 w (congrArg some (List.mem_singleton.mp h).symm)
      · exact jj_wv_mono c1 (hrest w h), d1, e9, g1.trans e10, fun q hq => (g2 q (by have z1 : n0 + cells = lay.length := h1; omega)).trans (e11 q hq)⟩
  have he9 : (v.toList ++ st).map (jj_v al') = (v.map (jj_v al')).toList ++ st.map (jj_v al) := by
    rw [List.map_append, jj_st_agree g1 g2 hrest]
    cases v <;> rfl
  have hk3 := hk2
  dsimp only at hk3
  rw [he9] at hk3
  exact hk3
theorem js_callVN {y : MethodName} {cc' : ByteArray} {nL' fr' lo' ix : Nat} {av : List Value} {v : Option Value} {ret' : Option FieldType} {host : String} {b : Nat} {stk : List Value} (hCT : jj_CT y (.code y cc' nL' ret') sx' fr' lo' (.ref b :: av) lay S v lay' S') (hsx : sx' = none ∨ sx' = sx) (hcw : Cond.code y cc' nL' ret' ∈ jj_gW) (hini : Cond.initialized y.cls ∈ jj_gW) (hlk : Cond.methodLinkNest own ix y host ∈ jj_nW) (hin : Cond.instanceMethod y ∈ jj_gW) (hse : Cond.selects y.cls y y ∈ jj_gW) {ci n9 : Nat} {rs9 : List (Option (Option Nat))} {T9 : u_T} (hb9 : lay[b]? = some (ci, n9, rs9)) (hcl : vwCl[ci]? = some (y.cls, T9, n9)) (hyn : jj_yn y av.length) (hstk : stk = av.reverse ++ .ref b :: st) (hrm : jj_rm fr lo fr' lo' nL' nc sc lay' st) (hdg : decode cc pc = .ok (.invokevirtual ix, 3))
    (k : jj_R cc nL own nm sx fr lo nc sc (pc + 3, L, v.toList ++ st, lay', S') cE) : jj_R cc nL own nm sx fr lo nc sc (pc, L, stk, lay, S) cE := by
  intro p l e R s m args below meth cd D g A al0 n0 s0 Q hC hf hl hc hs hE
  have hk := k p l e R s m args below meth cd D g A al0 n0 s0 Q hC hf hl hc hs hE
  intro al t H locs ls cells slots h1 h2 hR
  obtain ⟨hx, hb, hml, hown, hnm, hts, hN, hK, hA, hX⟩ := hC
  obtain ⟨e1, e2, e3, e4, e5, e6, e7, e8, e9, e10, e11⟩ := hR
  subst hstk
  obtain ⟨c1, c2, c3⟩ := hCT
  obtain ⟨m1, m2, m3, m4, m5⟩ := hrm
  have hrest : jj_ws lay.length st := fun w hw => e7 w (List.mem_append_right _ (List.mem_cons_of_mem _ hw))
  have hav : jj_ws lay.length (.ref b :: av) := fun w hw => by
    rcases List.mem_cons.mp hw with e | hw
    · exact e7 w (List.mem_append_right _ (by rw [e]; exact List.mem_cons_self))
    · exact e7 w (List.mem_append_left _ (List.mem_reverse.mpr hw))
  obtain ⟨d1, d2, d3⟩ := c3 hav e8
  have hM := d3 l D g al t H.size e1
  have hX9 : ∀ z, sx' = some z → va_X (al 0) z.1 z.2 s s.heap ∧ al 0 < s.heap.size ∧ ¬ A (al 0) := fun z hz => by
    rcases hsx with q | q
    · rw [q] at hz; cases hz
    · rw [e10]; exact hX z (q ▸ hz)
  have hpc := jj_pcU (sx := sx') (av := (.ref b :: av)) e2 hK e3 hN e4 hX9
  have hlen9 : (av.map (jj_v al)).length = av.length := List.length_map _
  have hst9 : (av.reverse ++ .ref b :: st).map (jj_v al) = (av.map (jj_v al)).reverse ++ .ref (al (b + 1)) :: st.map (jj_v al) := by
    rw [List.map_append, List.map_reverse]; rfl
  have hcat : ((st.map (jj_v al)).map fun v => v.category).sum ≤ 8 := by
    rw [List.map_map]
    have : (st.map ((fun v => v.category) ∘ jj_v al)) = st.map fun v => v.category := List.map_congr_left fun v _ => jj_v_cat al v
    rw [this]; exact m5
  have hroom : cells + (lay'.length - lay.length) ≤ R.cells ∧ slots + (jj_sl lay' - jj_sl lay) ≤ R.slots := by
    have z1 : n0 + cells = lay.length := h1
    have z2 : s0 + slots = jj_sl lay := h2
    constructor <;> omega
  have hrecv : ∃ cell : Cell, H[al (b + 1)]? = some cell ∧ cell.vm.isStatics = false ∧ s.vm.findClass y.cls = some cell.cls := by
    have he := jj_W_at (g := g) (al := al) (t := t) hb9
    rw [jj_cell_o (jj_cls hcl).2.2.2] at he
    exact va_recv hK e2 hcl he
  refine W.eq (g2 := F0 m pc ls ((av.map (jj_v al)).reverse ++ .ref (al (b + 1)) :: st.map (jj_v al))) (congrArg (F0 m pc ls) hst9) ?_
  refine jj_goon (va_runVN (As := av.map (jj_v al)) (rest := st.map (jj_v al)) ⟨hx, hb, hml, hown, hts⟩ hM ⟨va_cnB av.length hts (jj_GI hcw) rfl rfl rfl (hN _ hlk) (hts _ hini) hyn ⟨by show fr' + 1 ≤ _; omega, by show 8 + (nL' + 11) + lo' ≤ _; omega⟩, hts _ hin, hts _ hse⟩ ⟨jj_blind, hrecv, hpc⟩ rfl hlen9 e5.1 rfl (lv_room hcat) hdg hroom) e4 e3 hA (fun al' t' H1 locs1 g1 g2 hext hP1 hD1 hS1 => ?_)
  have hk2 := hk al' t' H1 locs1 ls (cells + (lay'.length - lay.length)) (slots + (jj_sl lay' - jj_sl lay)) (by have z1 : n0 + cells = lay.length := h1; show n0 + (cells + (lay'.length - lay.length)) = lay'.length; omega) (by have z2 : s0 + slots = jj_sl lay := h2; show s0 + (slots + (jj_sl lay' - jj_sl lay)) = jj_sl lay'; omega)
    ⟨hext, hP1, hD1, hS1, by rw [jj_asg_agree g1 g2 e6]; exact e5, fun w hw => jj_wv_mono c1 (e6 w hw), fun w hw => by
      rcases List.mem_append.mp hw with h | h
      · cases v with
        | none => cases h
        | some v => exact d2 w (congrArg some (List.mem_singleton.mp h).symm)
      · exact jj_wv_mono c1 (hrest w h), d1, e9, g1.trans e10, fun q hq => (g2 q (by have z1 : n0 + cells = lay.length := h1; omega)).trans (e11 q hq)⟩
  have he9 : (v.toList ++ st).map (jj_v al') = (v.map (jj_v al')).toList ++ st.map (jj_v al) := by
    rw [List.map_append, jj_st_agree g1 g2 hrest]
    cases v <;> rfl
  have hk3 := hk2
  dsimp only at hk3
  rw [he9] at hk3
  exact hk3
theorem js_callI {y : MethodName} {cc' : ByteArray} {nL' fr' lo' ix : Nat} {av : List Value} {v : Option Value} {b : Nat} {stk : List Value} (hCT : jj_CT y (.code y cc' nL' none) sx' fr' lo' (.ref b :: av) lay S v lay' S') (hsx : sx' = none ∨ sx' = sx) (hcw : Cond.code y cc' nL' none ∈ jj_gW) (hini : Cond.initialized y.cls ∈ jj_gW) (hlk : Cond.methodLink own ix y ∈ jj_gW) (hin : Cond.instanceMethod y ∈ jj_gW) (hnm9 : y.name = "<init>") (hyn : jj_yn y av.length) (hstk : stk = av.reverse ++ .ref b :: st) (hrm : jj_rm fr lo fr' lo' nL' nc sc lay' st) (hdg : decode cc pc = .ok (.invokespecial ix, 3))
    (k : jj_R cc nL own nm sx fr lo nc sc (pc + 3, L, v.toList ++ st, lay', S') cE) : jj_R cc nL own nm sx fr lo nc sc (pc, L, stk, lay, S) cE := by
  intro p l e R s m args below meth cd D g A al0 n0 s0 Q hC hf hl hc hs hE
  have hk := k p l e R s m args below meth cd D g A al0 n0 s0 Q hC hf hl hc hs hE
  intro al t H locs ls cells slots h1 h2 hR
  obtain ⟨hx, hb, hml, hown, hnm, hts, hN, hK, hA, hX⟩ := hC
  obtain ⟨e1, e2, e3, e4, e5, e6, e7, e8, e9, e10, e11⟩ := hR
  subst hstk
  obtain ⟨c1, c2, c3⟩ := hCT
  obtain ⟨m1, m2, m3, m4, m5⟩ := hrm
  have hrest : jj_ws lay.length st := fun w hw => e7 w (List.mem_append_right _ (List.mem_cons_of_mem _ hw))
  have hav : jj_ws lay.length (.ref b :: av) := fun w hw => by
    rcases List.mem_cons.mp hw with e | hw
    · exact e7 w (List.mem_append_right _ (by rw [e]; exact List.mem_cons_self))
    · exact e7 w (List.mem_append_left _ (List.mem_reverse.mpr hw))
  obtain ⟨d1, d2, d3⟩ := c3 hav e8
  have hM := d3 l D g al t H.size e1
  have hX9 : ∀ z, sx' = some z → va_X (al 0) z.1 z.2 s s.heap ∧ al 0 < s.heap.size ∧ ¬ A (al 0) := fun z hz => by
    rcases hsx with q | q
    · rw [q] at hz; cases hz
    · rw [e10]; exact hX z (q ▸ hz)
  have hpc := jj_pcU (sx := sx') (av := (.ref b :: av)) e2 hK e3 hN e4 hX9
  have hlen9 : (av.map (jj_v al)).length = av.length := List.length_map _
  have hst9 : (av.reverse ++ .ref b :: st).map (jj_v al) = (av.map (jj_v al)).reverse ++ .ref (al (b + 1)) :: st.map (jj_v al) := by
    rw [List.map_append, List.map_reverse]; rfl
  have hcat : ((st.map (jj_v al)).map fun v => v.category).sum ≤ 8 := by
    rw [List.map_map]
    have : (st.map ((fun v => v.category) ∘ jj_v al)) = st.map fun v => v.category := List.map_congr_left fun v _ => jj_v_cat al v
    rw [this]; exact m5
  have hroom : cells + (lay'.length - lay.length) ≤ R.cells ∧ slots + (jj_sl lay' - jj_sl lay) ≤ R.slots := by
    have z1 : n0 + cells = lay.length := h1
    have z2 : s0 + slots = jj_sl lay := h2
    constructor <;> omega
  refine W.eq (g2 := F0 m pc ls ((av.map (jj_v al)).reverse ++ .ref (al (b + 1)) :: st.map (jj_v al))) (congrArg (F0 m pc ls) hst9) ?_
  refine jj_goon (va_runI (As := av.map (jj_v al)) (rest := st.map (jj_v al)) ⟨hx, hb, hml, hown, hts⟩ hM (cwI av.length hts (jj_GI hcw) rfl rfl rfl (hts _ hini) (hts _ hlk) (hts _ hin) hnm9 hyn ⟨by show fr' + 1 ≤ _; omega, by show 8 + (nL' + 11) + lo' ≤ _; omega⟩) ⟨jj_blind, hpc⟩ rfl hlen9 e5.1 rfl (lv_room hcat) hdg hroom) e4 e3 hA (fun al' t' H1 locs1 g1 g2 hext hP1 hD1 hS1 => ?_)
  have hk2 := hk al' t' H1 locs1 ls (cells + (lay'.length - lay.length)) (slots + (jj_sl lay' - jj_sl lay)) (by have z1 : n0 + cells = lay.length := h1; show n0 + (cells + (lay'.length - lay.length)) = lay'.length; omega) (by have z2 : s0 + slots = jj_sl lay := h2; show s0 + (slots + (jj_sl lay' - jj_sl lay)) = jj_sl lay'; omega)
    ⟨hext, hP1, hD1, hS1, by rw [jj_asg_agree g1 g2 e6]; exact e5, fun w hw => jj_wv_mono c1 (e6 w hw), fun w hw => by
      rcases List.mem_append.mp hw with h | h
      · cases v with
        | none => cases h
        | some v => exact d2 w (congrArg some (List.mem_singleton.mp h).symm)
      · exact jj_wv_mono c1 (hrest w h), d1, e9, g1.trans e10, fun q hq => (g2 q (by have z1 : n0 + cells = lay.length := h1; omega)).trans (e11 q hq)⟩
  have he9 : (v.toList ++ st).map (jj_v al') = (v.map (jj_v al')).toList ++ st.map (jj_v al) := by
    rw [List.map_append, jj_st_agree g1 g2 hrest]
    cases v <;> rfl
  have hk3 := hk2
  dsimp only at hk3
  rw [he9] at hk3
  exact hk3
theorem js_callIN {y : MethodName} {cc' : ByteArray} {nL' fr' lo' ix : Nat} {av : List Value} {v : Option Value} {host : String} {b : Nat} {stk : List Value} (hCT : jj_CT y (.code y cc' nL' none) sx' fr' lo' (.ref b :: av) lay S v lay' S') (hsx : sx' = none ∨ sx' = sx) (hcw : Cond.code y cc' nL' none ∈ jj_gW) (hini : Cond.initialized y.cls ∈ jj_gW) (hlk : Cond.methodLinkNest own ix y host ∈ jj_nW) (hin : Cond.instanceMethod y ∈ jj_gW) (hnm9 : y.name = "<init>") (hyn : jj_yn y av.length) (hstk : stk = av.reverse ++ .ref b :: st) (hrm : jj_rm fr lo fr' lo' nL' nc sc lay' st) (hdg : decode cc pc = .ok (.invokespecial ix, 3))
    (k : jj_R cc nL own nm sx fr lo nc sc (pc + 3, L, v.toList ++ st, lay', S') cE) : jj_R cc nL own nm sx fr lo nc sc (pc, L, stk, lay, S) cE := by
  intro p l e R s m args below meth cd D g A al0 n0 s0 Q hC hf hl hc hs hE
  have hk := k p l e R s m args below meth cd D g A al0 n0 s0 Q hC hf hl hc hs hE
  intro al t H locs ls cells slots h1 h2 hR
  obtain ⟨hx, hb, hml, hown, hnm, hts, hN, hK, hA, hX⟩ := hC
  obtain ⟨e1, e2, e3, e4, e5, e6, e7, e8, e9, e10, e11⟩ := hR
  subst hstk
  obtain ⟨c1, c2, c3⟩ := hCT
  obtain ⟨m1, m2, m3, m4, m5⟩ := hrm
  have hrest : jj_ws lay.length st := fun w hw => e7 w (List.mem_append_right _ (List.mem_cons_of_mem _ hw))
  have hav : jj_ws lay.length (.ref b :: av) := fun w hw => by
    rcases List.mem_cons.mp hw with e | hw
    · exact e7 w (List.mem_append_right _ (by rw [e]; exact List.mem_cons_self))
    · exact e7 w (List.mem_append_left _ (List.mem_reverse.mpr hw))
  obtain ⟨d1, d2, d3⟩ := c3 hav e8
  have hM := d3 l D g al t H.size e1
  have hX9 : ∀ z, sx' = some z → va_X (al 0) z.1 z.2 s s.heap ∧ al 0 < s.heap.size ∧ ¬ A (al 0) := fun z hz => by
    rcases hsx with q | q
    · rw [q] at hz; cases hz
    · rw [e10]; exact hX z (q ▸ hz)
  have hpc := jj_pcU (sx := sx') (av := (.ref b :: av)) e2 hK e3 hN e4 hX9
  have hlen9 : (av.map (jj_v al)).length = av.length := List.length_map _
  have hst9 : (av.reverse ++ .ref b :: st).map (jj_v al) = (av.map (jj_v al)).reverse ++ .ref (al (b + 1)) :: st.map (jj_v al) := by
    rw [List.map_append, List.map_reverse]; rfl
  have hcat : ((st.map (jj_v al)).map fun v => v.category).sum ≤ 8 := by
    rw [List.map_map]
    have : (st.map ((fun v => v.category) ∘ jj_v al)) = st.map fun v => v.category := List.map_congr_left fun v _ => jj_v_cat al v
    rw [this]; exact m5
  have hroom : cells + (lay'.length - lay.length) ≤ R.cells ∧ slots + (jj_sl lay' - jj_sl lay) ≤ R.slots := by
    have z1 : n0 + cells = lay.length := h1
    have z2 : s0 + slots = jj_sl lay := h2
    constructor <;> omega
  refine W.eq (g2 := F0 m pc ls ((av.map (jj_v al)).reverse ++ .ref (al (b + 1)) :: st.map (jj_v al))) (congrArg (F0 m pc ls) hst9) ?_
  refine jj_goon (va_runIN (As := av.map (jj_v al)) (rest := st.map (jj_v al)) ⟨hx, hb, hml, hown, hts⟩ hM ⟨va_cnB av.length hts (jj_GI hcw) rfl rfl rfl (hN _ hlk) (hts _ hini) hyn ⟨by show fr' + 1 ≤ _; omega, by show 8 + (nL' + 11) + lo' ≤ _; omega⟩, hnm9, hts _ hin⟩ ⟨jj_blind, hpc⟩ rfl hlen9 e5.1 rfl (lv_room hcat) hdg hroom) e4 e3 hA (fun al' t' H1 locs1 g1 g2 hext hP1 hD1 hS1 => ?_)
  have hk2 := hk al' t' H1 locs1 ls (cells + (lay'.length - lay.length)) (slots + (jj_sl lay' - jj_sl lay)) (by have z1 : n0 + cells = lay.length := h1; show n0 + (cells + (lay'.length - lay.length)) = lay'.length; omega) (by have z2 : s0 + slots = jj_sl lay := h2; show s0 + (slots + (jj_sl lay' - jj_sl lay)) = jj_sl lay'; omega)
    ⟨hext, hP1, hD1, hS1, by rw [jj_asg_agree g1 g2 e6]; exact e5, fun w hw => jj_wv_mono c1 (e6 w hw), fun w hw => by
      rcases List.mem_append.mp hw with h | h
      · cases v with
        | none => cases h
        | some v => exact d2 w (congrArg some (List.mem_singleton.mp h).symm)
      · exact jj_wv_mono c1 (hrest w h), d1, e9, g1.trans e10, fun q hq => (g2 q (by have z1 : n0 + cells = lay.length := h1; omega)).trans (e11 q hq)⟩
  have he9 : (v.toList ++ st).map (jj_v al') = (v.map (jj_v al')).toList ++ st.map (jj_v al) := by
    rw [List.map_append, jj_st_agree g1 g2 hrest]
    cases v <;> rfl
  have hk3 := hk2
  dsimp only at hk3
  rw [he9] at hk3
  exact hk3
theorem js_callSW {y : MethodName} {cc' : ByteArray} {nL' fr' lo' ix : Nat} {av : List Value} {v : Option Value} {ret' : Option FieldType} {hh : List (Nat × Nat × Nat × Nat)} {stk : List Value} (hCT : jj_CT y (.codeWith y cc' nL' ret' hh) sx' fr' lo' av lay S v lay' S') (hsx : sx' = none ∨ sx' = sx) (hcw : Cond.codeWith y cc' nL' ret' hh ∈ jj_gW) (hini : Cond.initialized y.cls ∈ jj_gW) (hlk : Cond.methodLink own ix y ∈ jj_gW) (hstt : Cond.static y ∈ jj_gW) (hyn : jj_yn y av.length) (hstk : stk = av.reverse ++ st) (hrm : jj_rm fr lo fr' lo' nL' nc sc lay' st) (hdg : decode cc pc = .ok (.invokestatic ix, 3))
    (k : jj_R cc nL own nm sx fr lo nc sc (pc + 3, L, v.toList ++ st, lay', S') cE) : jj_R cc nL own nm sx fr lo nc sc (pc, L, stk, lay, S) cE := by
  intro p l e R s m args below meth cd D g A al0 n0 s0 Q hC hf hl hc hs hE
  have hk := k p l e R s m args below meth cd D g A al0 n0 s0 Q hC hf hl hc hs hE
  intro al t H locs ls cells slots h1 h2 hR
  obtain ⟨hx, hb, hml, hown, hnm, hts, hN, hK, hA, hX⟩ := hC
  obtain ⟨e1, e2, e3, e4, e5, e6, e7, e8, e9, e10, e11⟩ := hR
  subst hstk
  obtain ⟨c1, c2, c3⟩ := hCT
  obtain ⟨m1, m2, m3, m4, m5⟩ := hrm
  have hrest : jj_ws lay.length st := fun w hw => e7 w (List.mem_append_right _ hw)
  have hav : jj_ws lay.length av := fun w hw => e7 w (List.mem_append_left _ (List.mem_reverse.mpr hw))
  obtain ⟨d1, d2, d3⟩ := c3 hav e8
  have hM := d3 l D g al t H.size e1
  have hX9 : ∀ z, sx' = some z → va_X (al 0) z.1 z.2 s s.heap ∧ al 0 < s.heap.size ∧ ¬ A (al 0) := fun z hz => by
    rcases hsx with q | q
    · rw [q] at hz; cases hz
    · rw [e10]; exact hX z (q ▸ hz)
  have hpc := jj_pcU (sx := sx') (av := av) e2 hK e3 hN e4 hX9
  have hlen9 : (av.map (jj_v al)).length = av.length := List.length_map _
  have hst9 : (av.reverse ++ st).map (jj_v al) = (av.map (jj_v al)).reverse ++ st.map (jj_v al) := by
    rw [List.map_append, List.map_reverse]
  have hcat : ((st.map (jj_v al)).map fun v => v.category).sum ≤ 8 := by
    rw [List.map_map]
    have : (st.map ((fun v => v.category) ∘ jj_v al)) = st.map fun v => v.category := List.map_congr_left fun v _ => jj_v_cat al v
    rw [this]; exact m5
  have hroom : cells + (lay'.length - lay.length) ≤ R.cells ∧ slots + (jj_sl lay' - jj_sl lay) ≤ R.slots := by
    have z1 : n0 + cells = lay.length := h1
    have z2 : s0 + slots = jj_sl lay := h2
    constructor <;> omega
  have hGI : GoodIn jj_gW (va_wsS own ix y (.codeWith y cc' nL' ret' hh :: jj_gW)) := fun w hw => by
    unfold va_wsS at hw
    rcases List.mem_append.mp hw with hw | hw
    · have hw2 : w ∈ jj_gW := by
        simp only [List.mem_cons, List.not_mem_nil, or_false] at hw
        rcases hw with rfl | rfl | rfl <;> assumption
      exact ⟨hw2, jj_gW_good _ hw2⟩
    · exact jj_GI hcw w hw
  refine W.eq (g2 := F0 m pc ls ((av.map (jj_v al)).reverse ++ st.map (jj_v al))) (congrArg (F0 m pc ls) hst9) ?_
  refine jj_goon (vx_runSW (As := av.map (jj_v al)) (rest := st.map (jj_v al)) ⟨hx, hb, hml, hown, hts⟩ hM (vx_cwSW av.length hts hGI rfl rfl rfl hyn ⟨by show fr' + 1 ≤ _; omega, by show 8 + (nL' + 11) + lo' ≤ _; omega⟩) ⟨jj_blind, hpc⟩ rfl hlen9 e5.1 rfl (lv_room hcat) hdg hroom) e4 e3 hA (fun al' t' H1 locs1 g1 g2 hext hP1 hD1 hS1 => ?_)
  have hk2 := hk al' t' H1 locs1 ls (cells + (lay'.length - lay.length)) (slots + (jj_sl lay' - jj_sl lay)) (by have z1 : n0 + cells = lay.length := h1; show n0 + (cells + (lay'.length - lay.length)) = lay'.length; omega) (by have z2 : s0 + slots = jj_sl lay := h2; show s0 + (slots + (jj_sl lay' - jj_sl lay)) = jj_sl lay'; omega)
    ⟨hext, hP1, hD1, hS1, by rw [jj_asg_agree g1 g2 e6]; exact e5, fun w hw => jj_wv_mono c1 (e6 w hw), fun w hw => by
      rcases List.mem_append.mp hw with h | h
      · cases v with
        | none => cases h
        | some v => exact d2 w (congrArg some (List.mem_singleton.mp h).symm)
      · exact jj_wv_mono c1 (hrest w h), d1, e9, g1.trans e10, fun q hq => (g2 q (by have z1 : n0 + cells = lay.length := h1; omega)).trans (e11 q hq)⟩
  have he9 : (v.toList ++ st).map (jj_v al') = (v.map (jj_v al')).toList ++ st.map (jj_v al) := by
    rw [List.map_append, jj_st_agree g1 g2 hrest]
    cases v <;> rfl
  have hk3 := hk2
  dsimp only at hk3
  rw [he9] at hk3
  exact hk3
end JK

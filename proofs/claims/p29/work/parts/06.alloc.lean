/-! NEW CELLS: each comes behind those that are there. -/
theorem jj_cell_agree {g : jj_G} {al al' : Nat → Nat} {t : Nat → Int32} {c : jj_Sh} (h : ∀ q, some (some q) ∈ c.2.2 → al' (q + 1) = al (q + 1)) : jj_cell g al' t c = jj_cell g al t c := by
  have h1 : ∀ (r : Option Nat) (j : Nat), c.2.2[j]? = some (some r) → (r.map fun q => al' (q + 1)) = r.map fun q => al (q + 1) := fun r j hj => by
    cases r with
    | none => rfl
    | some q => exact congrArg some (h q (List.mem_of_getElem? hj))
  have h2 : jj_el al' c.2.2 = jj_el al c.2.2 := funext fun j => by
    unfold jj_el
    split
    · rename_i r hr
      exact h1 r j hr
    · rfl
  have h3 : jj_fld al' t c.2.2 = jj_fld al t c.2.2 := funext fun j => by
    unfold jj_fld
    split
    · rename_i r hr
      rw [h1 r j hr]
    · rfl
  unfold jj_cell
  rw [h2, h3]
theorem jj_W_agree {g : jj_G} {al al' : Nat → Nat} {t t' : Nat → Nat → Int32} {lay : jj_Lay} (hy : jj_wy lay) (ha : ∀ k, k < lay.length → al' (k + 1) = al (k + 1)) (ht : ∀ k, k < lay.length → t' k = t k) : jj_W g al' t' lay = jj_W g al t lay := by
  apply List.ext_getElem?
  intro q
  cases hc : lay[q]? with
  | none => unfold jj_W; rw [List.getElem?_mapIdx, List.getElem?_mapIdx, hc]; rfl
  | some c =>
    have hq : q < lay.length := (List.getElem?_eq_some_iff.mp hc).1
    rw [jj_W_at hc, jj_W_at hc, ha q hq, ht q hq, jj_cell_agree (fun r hr => ha r (hy c (List.mem_of_getElem? hc) r hr))]
theorem jj_W_app {g : jj_G} {al : Nat → Nat} {t : Nat → Nat → Int32} {a b : jj_Lay} : jj_W g al t (a ++ b) = jj_W g al t a ++ b.mapIdx (fun k c => (al (a.length + k + 1), jj_cell g al (t (a.length + k)) c)) := by
  unfold jj_W
  rw [List.mapIdx_append]
  congr 1
  apply List.ext_getElem?
  intro q
  rw [List.getElem?_mapIdx, List.getElem?_mapIdx]
  cases b[q]? with
  | none => rfl
  | some c => show some _ = some _; rw [Nat.add_comm q a.length]
theorem jj_wy_app {a b : jj_Lay} (ha : jj_wy a) (hb : ∀ c ∈ b, ∀ q, some (some q) ∈ c.2.2 → q < (a ++ b).length) : jj_wy (a ++ b) := fun c hc q hq => by
  rcases List.mem_append.mp hc with h | h
  · have := ha c h q hq
    rw [List.length_append]
    omega
  · exact hb c h q hq
theorem jj_wl_mono {n k : Nat} (h : n ≤ k) {L : List (Option Value)} (hL : jj_wl n L) : jj_wl k L := fun v hv => jj_wv_mono h (hL v hv)
theorem jj_ws_mono {n k : Nat} (h : n ≤ k) {L : List Value} (hL : jj_ws n L) : jj_ws k L := fun v hv => jj_wv_mono h (hL v hv)
/-- the memory with zeros from place n on, up to n + c -/
def jj_z (S : jj_Mem) (n c : Nat) : jj_Mem := fun q j => if n ≤ q ∧ q < n + c then some 0 else S q j
def jj_zt (t : Nat → Nat → Int32) (n c : Nat) : Nat → Nat → Int32 := fun q j => if n ≤ q ∧ q < n + c then 0 else t q j
theorem jj_ext_z {S : jj_Mem} {t : Nat → Nat → Int32} {n c : Nat} (h : jj_ext S t) : jj_ext (jj_z S n c) (jj_zt t n c) := by
  intro p j x hx
  unfold jj_z at hx
  unfold jj_zt
  by_cases e : n ≤ p ∧ p < n + c
  · rw [if_pos e] at hx ⊢
    exact Option.some.inj hx
  · rw [if_neg e] at hx ⊢
    exact h p j x hx
theorem jj_zt_lo {t : Nat → Nat → Int32} {n c k : Nat} (h : k < n) : jj_zt t n c k = t k := funext fun j => if_neg (fun q => by omega)
theorem jj_zt_hi {t : Nat → Nat → Int32} {n c k : Nat} (h : n ≤ k) (h2 : k < n + c) : jj_zt t n c k = fun _ => 0 := funext fun j => if_pos ⟨h, h2⟩
def jj_alU (al : Nat → Nat) (n a : Nat) : Nat → Nat := fun k => if k = n + 1 then a else al k
theorem jj_alU_at (al : Nat → Nat) (n a : Nat) : jj_alU al n a (n + 1) = a := if_pos rfl
theorem jj_alU_lo (al : Nat → Nat) (n a : Nat) {k : Nat} (h : k < n + 1) : jj_alU al n a k = al k := if_neg (by omega)
section JA
variable {cc : ByteArray} {nL : Nat} {own nm : String} {sx : jj_X} {fr lo nc sc : Nat} {cE : jj_C} {pc : Nat} {L : List (Option Value)} {st : List Value} {lay : jj_Lay} {S : jj_Mem}
/-- one new cell: the picture with it -/
theorem jj_new1 {s : State} {D : va_G} {g : jj_G} {A : Nat → Prop} {al0 : Nat → Nat} {n0 : Nat} {al : Nat → Nat} {t : Nat → Nat → Int32} {H H1 : Heap} {locs : List Loc} {ls : Array Slot} {c : jj_Sh} {a : Nat} {e : va_E}
    (hR : jj_Rel s D g A nL al0 n0 L st lay S al t H locs ls) (hn : n0 ≤ lay.length) (hc : ∀ q, some (some q) ∉ c.2.2) (he : e = jj_cell g al (fun _ => 0) c)
    (hP : va_P D vwCl (jj_W g al t lay ++ [(a, e)]) H1) (hD : va_D A (jj_W g al t lay ++ [(a, e)])) (hS : va_S A s.heap H1 locs) :
    jj_Rel s D g A nL al0 n0 L (.ref lay.length :: st) (lay ++ [c]) (jj_z S lay.length 1) (jj_alU al lay.length a) (jj_zt t lay.length 1) H1 locs ls ∧ (Value.ref a :: st.map (jj_v al)) = (Value.ref lay.length :: st).map (jj_v (jj_alU al lay.length a)) := by
  obtain ⟨e1, e2, e3, e4, e5, e6, e7, e8, e9, e10, e11⟩ := hR
  have ga : ∀ k, k < lay.length → jj_alU al lay.length a (k + 1) = al (k + 1) := fun k hk => jj_alU_lo _ _ _ (by omega)
  have g0 : jj_alU al lay.length a 0 = al 0 := jj_alU_lo _ _ _ (by omega)
  have hW : jj_W g (jj_alU al lay.length a) (jj_zt t lay.length 1) (lay ++ [c]) = jj_W g al t lay ++ [(a, e)] := by
    rw [jj_W_app, jj_W_agree e8 ga (fun k hk => jj_zt_lo hk)]
    congr 1
    show [(jj_alU al lay.length a (lay.length + 0 + 1), jj_cell g (jj_alU al lay.length a) (jj_zt t lay.length 1 (lay.length + 0)) c)] = [(a, e)]
    rw [show lay.length + 0 = lay.length from rfl, jj_alU_at, jj_zt_hi (n := lay.length) (c := 1) (k := lay.length) (Nat.le_refl _) (by omega), jj_cell_agree (al := al) (fun q hq => absurd hq (hc q)), he]
  have hl1 : lay.length ≤ (lay ++ [c]).length := by rw [List.length_append]; omega
  refine ⟨⟨jj_ext_z e1, by rw [hW]; exact hP, by rw [hW]; exact hD, hS, by rw [jj_asg_agree g0 ga e6]; exact e5, jj_wl_mono hl1 e6, jj_ws_cons (by show lay.length < (lay ++ [c]).length; rw [List.length_append]; exact Nat.lt_succ_self _) (jj_ws_mono hl1 e7), jj_wy_app e8 (fun c' hc' q hq => by
      rw [List.mem_singleton.mp hc'] at hq
      exact absurd hq (hc q)), e9, g0.trans e10, fun k hk => (ga k (by omega)).trans (e11 k hk)⟩, ?_⟩
  rw [List.map_cons, jj_st_agree g0 ga e7]
  show _ = Value.ref (jj_alU al lay.length a (lay.length + 1)) :: _
  rw [jj_alU_at]
theorem js_new {ix ci n : Nat} {C : String} {T : u_T} (rs : List (Option (Option Nat))) (hcl : vwCl[ci]? = some (C, T, n)) (hlk : Cond.classLink own ix C ∈ jj_gW) (hmk : Cond.instantiable C n ∈ jj_gW) (hini : Cond.initialized C ∈ jj_gW) (hrs : ∀ j, j < n → defaultValue (jj_ty ci j) = (match rs[j]? with | some (some none) => Value.null | _ => Value.int 0)) (hno : ∀ q, some (some q) ∉ rs) (hnc : lay.length + 1 ≤ nc) (hsc : jj_sl lay + n ≤ sc) (hdg : decode cc pc = .ok (.new ix, 3))
    (k : jj_R cc nL own nm sx fr lo nc sc (pc + 3, L, .ref lay.length :: st, lay ++ [(ci, n, rs)], jj_z S lay.length 1) cE) : jj_R cc nL own nm sx fr lo nc sc (pc, L, st, lay, S) cE := by
  intro p l e R s m args below meth cd D g A al0 n0 s0 Q hC hf hl hc hs hE
  have hk := k p l e R s m args below meth cd D g A al0 n0 s0 Q hC hf hl hc hs hE
  intro al t H locs ls cells slots h1 h2 hR
  obtain ⟨hx, hb, hml, hown, hnm, hts, hN, hK, hA, hX⟩ := hC
  obtain ⟨e1, e2, e3, e4, e5, e6, e7, e8, e9, e10, e11⟩ := hR
  have z1 : n0 + cells = lay.length := h1
  have z2 : s0 + slots = jj_sl lay := h2
  obtain ⟨c1, c2, c3, c4⟩ := jj_cls hcl
  refine va_new (ci := ci) (fs := (List.range n).map (jj_fld al (fun _ => 0) rs)) hx hb hts c1 (jj_ty ci) c2 hown (hts _ hlk) (hts _ hmk) (hts _ hini) hK e2 e3 e4 hA hcl (fun j hj => ?_) (by omega) (by omega) hdg (fun q H1 hP hD hS => ?_)
  · unfold vp_V
    rw [List.getD_eq_getElem?_getD, jj_fat hj, hrs j hj]
    unfold jj_fld
    split
    · rename_i h9; rw [h9]; rfl
    · rename_i h9
      split
      · rename_i r hr
        cases r with
        | none => exact absurd hr h9
        | some q9 => exact absurd (List.mem_of_getElem? hr) (hno q9)
      · rfl
  · obtain ⟨r1, r2⟩ := jj_new1 (c := (ci, n, rs)) (a := q) ⟨e1, e2, e3, e4, e5, e6, e7, e8, e9, e10, e11⟩ (by omega) hno (by rw [jj_cell_o c4]) hP hD hS
    have h9 := hk _ _ H1 locs ls (cells + 1) (slots + n) (by show n0 + (cells + 1) = (lay ++ [(ci, n, rs)]).length; rw [List.length_append]; show _ = lay.length + 1; omega) (by show s0 + (slots + n) = jj_sl (lay ++ [(ci, n, rs)]); rw [jj_sl_app]; show _ = jj_sl lay + (n + 0); omega) r1
    exact W.eq (congrArg (F0 m (pc + 3) ls) r2) h9
theorem js_newI {n : Int32} (N : Nat) (hn : n = nI N) (hN : N ≤ 100000) (hcw : Cond.arrayClass .int ∈ jj_gW) (hnc : lay.length + 1 ≤ nc) (hsc : jj_sl lay + N ≤ sc) (hdg : decode cc pc = .ok (.newarray .int, 2))
    (k : jj_R cc nL own nm sx fr lo nc sc (pc + 2, L, .ref lay.length :: st, lay ++ [(20, N, [])], jj_z S lay.length 1) cE) : jj_R cc nL own nm sx fr lo nc sc (pc, L, .int n :: st, lay, S) cE := by
  intro p l e R s m args below meth cd D g A al0 n0 s0 Q hC hf hl hc hs hE
  have hk := k p l e R s m args below meth cd D g A al0 n0 s0 Q hC hf hl hc hs hE
  intro al t H locs ls cells slots h1 h2 hR
  obtain ⟨hx, hb, hml, hown, hnm, hts, hN, hK, hA, hX⟩ := hC
  obtain ⟨e1, e2, e3, e4, e5, e6, e7, e8, e9, e10, e11⟩ := hR
  have z1 : n0 + cells = lay.length := h1
  have z2 : s0 + slots = jj_sl lay := h2
  subst hn
  refine va_newa (atype := .int) (ty := .int) (N' := N) (a0 := (N, .inl (fun _ => 0))) hx hb (hts _ hcw) rfl hK e2 e3 e4 hA (fun cA => rfl) (nI_pos (by omega)) (nI_clamp (by omega)) (by show N * _ ≤ _; simp [componentBytes]; omega) (by omega) (by omega) hdg (fun q cA H1 hK1 hP hD hS => ?_)
  have hcA : cA = g.1 := by
    have q1 : s.vm.findClass ("[" ++ (FieldType.int).toString) = some cA := (hK1.2 3 (cA, .int) rfl).2
    have q2 : s.vm.findClass ("[" ++ (FieldType.int).toString) = some (g.1) := (hK.2 0 _ rfl).2
    exact Option.some.inj (q1.symm.trans q2)
  subst hcA
  obtain ⟨r1, r2⟩ := jj_new1 (c := (20, N, [])) (a := q) ⟨e1, e2, e3, e4, e5, e6, jj_ws_tl e7, e8, e9, e10, e11⟩ (by omega) (fun q h => by cases h) rfl hP hD hS
  have h9 := hk _ _ H1 locs ls (cells + 1) (slots + N) (by show n0 + (cells + 1) = (lay ++ [(20, N, [])]).length; rw [List.length_append]; show _ = lay.length + 1; omega) (by show s0 + (slots + N) = jj_sl (lay ++ [(20, N, [])]); rw [jj_sl_app]; show _ = jj_sl lay + (N + 0); omega) r1
  exact W.eq (congrArg (F0 m (pc + 2) ls) r2) h9
theorem js_newZ {n : Int32} (N : Nat) (hn : n = nI N) (hN : N ≤ 100000) (hcw : Cond.arrayClass .boolean ∈ jj_gW) (hnc : lay.length + 1 ≤ nc) (hsc : jj_sl lay + N ≤ sc) (hdg : decode cc pc = .ok (.newarray .boolean, 2))
    (k : jj_R cc nL own nm sx fr lo nc sc (pc + 2, L, .ref lay.length :: st, lay ++ [(21, N, [])], jj_z S lay.length 1) cE) : jj_R cc nL own nm sx fr lo nc sc (pc, L, .int n :: st, lay, S) cE := by
  intro p l e R s m args below meth cd D g A al0 n0 s0 Q hC hf hl hc hs hE
  have hk := k p l e R s m args below meth cd D g A al0 n0 s0 Q hC hf hl hc hs hE
  intro al t H locs ls cells slots h1 h2 hR
  obtain ⟨hx, hb, hml, hown, hnm, hts, hN, hK, hA, hX⟩ := hC
  obtain ⟨e1, e2, e3, e4, e5, e6, e7, e8, e9, e10, e11⟩ := hR
  have z1 : n0 + cells = lay.length := h1
  have z2 : s0 + slots = jj_sl lay := h2
  subst hn
  refine va_newa (atype := .boolean) (ty := .boolean) (N' := N) (a0 := (N, .inl (fun _ => 0))) hx hb (hts _ hcw) rfl hK e2 e3 e4 hA (fun cA => rfl) (nI_pos (by omega)) (nI_clamp (by omega)) (by show N * _ ≤ _; simp [componentBytes]; omega) (by omega) (by omega) hdg (fun q cA H1 hK1 hP hD hS => ?_)
  have hcA : cA = g.2.1 := by
    have q1 : s.vm.findClass ("[" ++ (FieldType.boolean).toString) = some cA := (hK1.2 3 (cA, .boolean) rfl).2
    have q2 : s.vm.findClass ("[" ++ (FieldType.boolean).toString) = some (g.2.1) := (hK.2 1 _ rfl).2
    exact Option.some.inj (q1.symm.trans q2)
  subst hcA
  obtain ⟨r1, r2⟩ := jj_new1 (c := (21, N, [])) (a := q) ⟨e1, e2, e3, e4, e5, e6, jj_ws_tl e7, e8, e9, e10, e11⟩ (by omega) (fun q h => by cases h) rfl hP hD hS
  have h9 := hk _ _ H1 locs ls (cells + 1) (slots + N) (by show n0 + (cells + 1) = (lay ++ [(21, N, [])]).length; rw [List.length_append]; show _ = lay.length + 1; omega) (by show s0 + (slots + N) = jj_sl (lay ++ [(21, N, [])]); rw [jj_sl_app]; show _ = jj_sl lay + (N + 0); omega) r1
  exact W.eq (congrArg (F0 m (pc + 2) ls) r2) h9
theorem js_objInit {ix a : Nat} (hlk : Cond.methodLink own ix objectInit ∈ jj_gW) (hin : Cond.instanceMethod objectInit ∈ jj_gW) (hcw : Cond.code objectInit ⟨#[0xb1]⟩ 1 none ∈ jj_gW) (hfr : 1 ≤ fr) (hlo : (st.map fun v => v.category).sum + 12 ≤ lo) (hdg : decode cc pc = .ok (.invokespecial ix, 3)) (k : jj_R cc nL own nm sx fr lo nc sc (pc + 3, L, st, lay, S) cE) : jj_R cc nL own nm sx fr lo nc sc (pc, L, .ref a :: st, lay, S) cE := by
  intro p l e R s m args below meth cd D g A al0 n0 s0 Q hC hf hl hc hs hE
  have hk := k p l e R s m args below meth cd D g A al0 n0 s0 Q hC hf hl hc hs hE
  intro al t H locs ls cells slots h1 h2 hR
  obtain ⟨hx, hb, hml, hown, hnm, hts, hN, hK, hA, hX⟩ := hC
  obtain ⟨e1, e2, e3, e4, e5, e6, e7, e8, e9, e10, e11⟩ := hR
  have z1 : n0 + cells = lay.length := h1
  have z2 : s0 + slots = jj_sl lay := h2
  have hcat : ((st.map (jj_v al)).map fun v => v.category).sum = (st.map fun v => v.category).sum := by
    rw [List.map_map]
    exact congrArg List.sum (List.map_congr_left fun v _ => jj_v_cat al v)
  refine W.objInit hx hb hown (hts _ hlk) (hts _ hin) (hts _ hcw) rfl (by rw [hml]; exact e5.1) rfl hdg (by omega) (by show 2 * 0 + _ + 12 ≤ _; rw [hcat]; omega) ?_
  exact hk al t H locs ls cells slots h1 h2 ⟨e1, e2, e3, e4, e5, e6, jj_ws_tl e7, e8, e9, e10, e11⟩
theorem jj_fsetr {al : Nat → Nat} {f : Nat → Int32} {rs : List (Option (Option Nat))} {n z q : Nat} (hz : z < rs.length) : ((List.range n).map (jj_fld al f rs)).set z (.ref (al (q + 1))) = (List.range n).map (jj_fld al f (rs.set z (some (some q)))) := by
  apply List.ext_getElem?
  intro j
  rw [List.getElem?_set, List.length_map, List.length_range]
  by_cases hj : j < n
  · rw [jj_fat hj, jj_fat hj]
    by_cases e : z = j
    · subst e
      rw [if_pos rfl, if_pos hj]
      unfold jj_fld
      rw [List.getElem?_set, if_pos rfl, if_pos hz]
      rfl
    · rw [if_neg e]
      unfold jj_fld
      rw [List.getElem?_set, if_neg e]
  · have h1 : ∀ u : Nat → Value, ((List.range n).map u)[j]? = none := fun u => List.getElem?_eq_none (by rw [List.length_map, List.length_range]; omega)
    rw [h1, h1]
    by_cases e : z = j
    · rw [if_pos e, if_neg (by omega)]
    · rw [if_neg e]
theorem js_putF {ix a ci n q : Nat} {rs : List (Option (Option Nat))} {C : String} {T : u_T} {lay' : jj_Lay} (z : Nat) (hlk : jj_lkF own ix T z) (ha : lay[a]? = some (ci, n, rs)) (hcl : vwCl[ci]? = some (C, T, n)) (hz : z < n) (hzr : z < rs.length) (hfin : (T z).2.2.2 = true) (hini : nm = "<init>") (hdecl : (T z).1 = own) {ty : FieldType} (hd : parseFieldDescriptor (T z).2.2.1 = some ty) (hnr : ∀ x, narrow ty (.ref x) = .ref x) (hft : ∀ x, fits ty (.ref x) = true) (hlay : lay.set a (ci, n, rs.set z (some (some q))) = lay') (hdg : decode cc pc = .ok (.putfield ix, 3)) (k : jj_R cc nL own nm sx fr lo nc sc (pc + 3, L, st, lay', S) cE) : jj_R cc nL own nm sx fr lo nc sc (pc, L, .ref q :: .ref a :: st, lay, S) cE := by
  intro p l e R s m args below meth cd D g A al0 n0 s0 Q hC hf hl hc hs hE
  have hk := k p l e R s m args below meth cd D g A al0 n0 s0 Q hC hf hl hc hs hE
  intro al t H locs ls cells slots h1 h2 hR
  obtain ⟨hx, hb, hml, hown, hnm, hts, hN, hK, hA, hX⟩ := hC
  obtain ⟨e1, e2, e3, e4, e5, e6, e7, e8, e9, e10, e11⟩ := hR
  have z1 : n0 + cells = lay.length := h1
  have z2 : s0 + slots = jj_sl lay := h2
  obtain ⟨c1, c2, c3, c4⟩ := jj_cls hcl
  have he := jj_W_at (g := g) (al := al) (t := t) ha
  rw [jj_cell_o c4] at he
  have hset : (jj_W g al t lay).set a (al (a + 1), .inr (ci, ((List.range n).map (jj_fld al (t a) rs)).set z (.ref (al (q + 1))))) = jj_W g al t lay' := by
    have h9 := jj_W_set (g := g) (al := al) (t := t) (t' := t) (c' := (ci, n, rs.set z (some (some q)))) (List.getElem?_eq_some_iff.mp ha).1 (fun q hq => rfl)
    rw [hlay, jj_cell_o c4, ← jj_fsetr hzr] at h9
    exact h9
  have hlen : lay'.length = lay.length := by rw [← hlay, List.length_set]
  have hsl : ∀ (l : jj_Lay) (b : Nat) (r' : List (Option (Option Nat))), l[b]? = some (ci, n, rs) → jj_sl (l.set b (ci, n, r')) = jj_sl l := by
    intro l
    induction l with
    | nil => intro b r' hb; cases hb
    | cons x l ih =>
      intro b r' hb
      cases b with
      | zero => cases hb; rfl
      | succ b => show x.2.1 + jj_sl (l.set b (ci, n, r')) = x.2.1 + jj_sl l; rw [ih b r' hb]
  refine va_putF hx hb hts c1 (jj_ty ci) c2 c3 hown hK e2 e3 e4 a he hcl z hz (hts _ hlk) (fun _ h9 => h9) hfin (hnm.trans hini) hdecl hd (hnr _) (hft _) (by rw [List.length_map, List.length_range]; exact hz) hdg (fun H1 locs1 hP hD hS => ?_)
  have hP : va_P D vwCl (jj_W g al t lay') H1 := by rw [← hset]; exact hP
  have hD : va_D A (jj_W g al t lay') := by rw [← hset]; exact hD
  exact hk al t H1 locs1 ls cells slots (by show n0 + cells = lay'.length; omega) (by show s0 + slots = jj_sl lay'; rw [← hlay, hsl lay a _ ha]; omega) ⟨e1, hP, hD, hS, e5, by rw [hlen]; exact e6, by rw [hlen]; exact jj_ws_tl (jj_ws_tl e7), fun c hc q9 hq9 => by
    rw [hlen]
    rw [← hlay] at hc
    rcases List.mem_or_eq_of_mem_set hc with h | h
    · exact e8 c h q9 hq9
    · rw [h] at hq9
      rcases List.mem_or_eq_of_mem_set hq9 with h2 | h2
      · exact e8 _ (List.mem_of_getElem? ha) q9 h2
      · cases h2; exact jj_ws_hd e7, e9, e10, e11⟩
/-- n ints copied from place a at sp to place b at dp -/
def jj_cp (S : jj_Mem) (a sp b dp n : Nat) : jj_Mem := fun q j => if q = b ∧ dp ≤ j ∧ j < dp + n then S a (sp + (j - dp)) else S q j
def jj_cpt (t : Nat → Nat → Int32) (a sp b dp n : Nat) : Nat → Nat → Int32 := fun q j => if q = b ∧ dp ≤ j ∧ j < dp + n then t a (sp + (j - dp)) else t q j
theorem js_copyi {ix a b na nb : Nat} {ra rb : List (Option (Option Nat))} (sp dp n : Nat) {isp idp inn : Int32} (hsp : isp = nI sp) (hdp : idp = nI dp) (hn : inn = nI n) (hla : lay[a]? = some (20, na, ra)) (hlb : lay[b]? = some (20, nb, rb)) (h3 : sp + n ≤ na) (h4 : dp + n ≤ nb) (hna : na < 100000) (hnb : nb < 100000)
    (hlk : Cond.methodLink own ix arraycopyName ∈ jj_gW) (hnat : Cond.native arraycopyName ∈ jj_gW) (hstt : Cond.static arraycopyName ∈ jj_gW) (hini : Cond.initialized "java/lang/System" ∈ jj_gW) (hfr : 1 ≤ fr) (hlo : (st.map fun v => v.category).sum + (nativeFrameWords "java/lang/System" "arraycopy" 5 + 11) ≤ lo) (hdg : decode cc pc = .ok (.invokestatic ix, 3))
    (k : jj_R cc nL own nm sx fr lo nc sc (pc + 3, L, st, lay, jj_cp S a sp b dp n) cE) : jj_R cc nL own nm sx fr lo nc sc (pc, L, .int inn :: .int idp :: .ref b :: .int isp :: .ref a :: st, lay, S) cE := by
  intro p l e R s m args below meth cd D g A al0 n0 s0 Q hC hf hl hc hs hE
  have hk := k p l e R s m args below meth cd D g A al0 n0 s0 Q hC hf hl hc hs hE
  intro al t H locs ls cells slots h1 h2 hR
  obtain ⟨hx, hb, hml, hown, hnm, hts, hN, hK, hA, hX⟩ := hC
  obtain ⟨e1, e2, e3, e4, e5, e6, e7, e8, e9, e10, e11⟩ := hR
  have z1 : n0 + cells = lay.length := h1
  have z2 : s0 + slots = jj_sl lay := h2
  subst hsp; subst hdp; subst hn
  have hea := jj_W_at (g := g) (al := al) (t := t) hla
  have heb := jj_W_at (g := g) (al := al) (t := t) hlb
  rw [jj_cell_i] at hea heb
  have hcat : ((st.map (jj_v al)).map fun v => v.category).sum = (st.map fun v => v.category).sum := by
    rw [List.map_map]
    exact congrArg List.sum (List.map_congr_left fun v _ => jj_v_cat al v)
  have c1 : (nI sp).toNatClampNeg = sp := nI_clamp (by omega)
  have c2 : (nI dp).toNatClampNeg = dp := nI_clamp (by omega)
  have c3 : (nI n).toNatClampNeg = n := nI_clamp (by omega)
  have hset : (jj_W g al t lay).set b (al (b + 1), .inl (g.1, nb, .inl (va_cpy (t a) (t b) sp dp n))) = jj_W g al (jj_cpt t a sp b dp n) lay := by
    have h9 := jj_W_set (g := g) (al := al) (t := t) (t' := jj_cpt t a sp b dp n) (c' := (20, nb, rb)) (List.getElem?_eq_some_iff.mp hlb).1 (fun q hq => funext fun j => if_neg (fun w => hq w.1))
    rw [jj_set_same hlb, jj_cell_i] at h9
    rw [← h9]
    have : jj_cpt t a sp b dp n b = va_cpy (t a) (t b) sp dp n := funext fun j => by
      unfold jj_cpt va_cpy
      by_cases w : dp ≤ j ∧ j < dp + n
      · rw [if_pos ⟨rfl, w⟩, if_pos w]
      · rw [if_neg (fun v => w v.2), if_neg w]
    rw [this]
  refine va_copyi hx hb (by rw [hml]; exact e5.1.symm) hown (hts _ hlk) (hts _ hnat) (hts _ hstt) (hts _ hini) hK e2 e3 e4 a b 0 0 hea heb rfl rfl rfl (nI_pos (by omega)) (nI_pos (by omega)) (nI_pos (by omega)) (by rw [c1, c3]; exact h3) (by rw [c2, c3]; exact h4) (fun i hi => rfl) (by omega) (by rw [hcat]; omega) hdg (fun H1 locs1 hP hD hS => ?_)
  rw [c1, c2, c3] at hP hD
  have hP : va_P D vwCl (jj_W g al (jj_cpt t a sp b dp n) lay) H1 := by rw [← hset]; exact hP
  have hD : va_D A (jj_W g al (jj_cpt t a sp b dp n) lay) := by rw [← hset]; exact hD
  refine hk al _ H1 locs1 ls cells slots h1 h2 ⟨fun p9 j x hx9 => ?_, hP, hD, hS, e5, e6, jj_ws_tl (jj_ws_tl (jj_ws_tl (jj_ws_tl (jj_ws_tl e7)))), e8, e9, e10, e11⟩
  replace hx9 : jj_cp S a sp b dp n p9 j = some x := hx9
  unfold jj_cp at hx9
  unfold jj_cpt
  by_cases w : p9 = b ∧ dp ≤ j ∧ j < dp + n
  · rw [if_pos w] at hx9 ⊢
    exact e1 _ _ _ hx9
  · rw [if_neg w] at hx9 ⊢
    exact e1 _ _ _ hx9
end JA

/-! CALLS. A contract jj_CT: method y, from its arguments, the cells and the memory, answers v, and leaves these cells and this memory. -/
def jj_Pc (D : va_G) (g : jj_G) (sx : jj_X) (al : Nat → Nat) (t : Nat → Nat → Int32) (lay : jj_Lay) (av : List Value) (sz : Nat) : Array Value → State → Prop :=
  va_Pc (av.map (jj_v al)) (fun U => U.heap.size = sz ∧ va_P D vwCl (jj_W g al t lay) U.heap ∧ va_K D vwCl [(g.1, .int), (g.2.1, .boolean), (g.2.2, .array .int)] U ∧ va_D (fun _ => True) (jj_W g al t lay) ∧ (∀ w ∈ jj_nW, va_Nw w U) ∧ (∀ y, sx = some y → va_X (al 0) y.1 y.2 U U.heap ∧ al 0 < sz ∧ ∀ (k : Nat) (c : jj_Sh), lay[k]? = some c → al (k + 1) ≠ al 0))
def jj_Qc (D : va_G) (g : jj_G) (al : Nat → Nat) (t : Nat → Nat → Int32) (lay : jj_Lay) (sz : Nat) (v : Option Value) (lay' : jj_Lay) (S' : jj_Mem) : Array Value → State → Outcome → State → Prop := fun _ st oc tt =>
  ∃ (al' : Nat → Nat) (t' : Nat → Nat → Int32), oc = .returned (v.map (jj_v al')) ∧ (al' 0 = al 0 ∧ ∀ k, k < lay.length → al' (k + 1) = al (k + 1)) ∧ jj_ext S' t' ∧ va_P D vwCl (jj_W g al' t' lay') tt.heap ∧ va_D (va_A (jj_W g al t lay) sz) (jj_W g al' t' lay') ∧ va_F (va_A (jj_W g al t lay) sz) st tt
def jj_CT (y : MethodName) (hd : Cond) (sx : jj_X) (fr lo : Nat) (av : List Value) (lay : jj_Lay) (S : jj_Mem) (v : Option Value) (lay' : jj_Lay) (S' : jj_Mem) : Prop :=
  lay.length ≤ lay'.length ∧ jj_sl lay ≤ jj_sl lay' ∧
  (jj_ws lay.length av → jj_wy lay → jj_wy lay' ∧ (∀ w, v = some w → jj_wv lay'.length w) ∧
  ∀ (l : Launch) (D : va_G) (g : jj_G) (al : Nat → Nat) (t : Nat → Nat → Int32) (sz : Nat), jj_ext S t →
    Met l y (hd :: jj_gW) { frames := fr, cells := lay'.length - lay.length, slots := jj_sl lay' - jj_sl lay, locals := lo } (jj_Pc D g sx al t lay av sz) (jj_Qc D g al t lay sz v lay' S') (lay'.length - lay.length) (jj_sl lay' - jj_sl lay) (va_A (jj_W g al t lay) sz))
def jj_ent : List Value → List (Option Value)
  | [] => []
  | v :: r => if v.category = 2 then some v :: none :: jj_ent r else some v :: jj_ent r
theorem jj_asg_rep (al : Nat → Nat) : ∀ (n i : Nat), jj_asg al i (List.replicate n none) = []
  | 0, _ => rfl
  | n + 1, i => by rw [List.replicate_succ]; exact jj_asg_rep al n (i + 1)
theorem jj_asg_ent (al : Nat → Nat) (n : Nat) : ∀ (av : List Value) (i : Nat), jj_asg al i (jj_ent av ++ List.replicate n none) = lv_args i (av.map (jj_v al))
  | [], i => jj_asg_rep al n i
  | v :: r, i => by
    unfold jj_ent
    rw [List.map_cons]
    unfold lv_args
    by_cases h : v.category = 2
    · rw [if_pos h, if_pos (by rw [jj_v_cat]; exact h)]
      show (i, jj_v al v) :: jj_asg al (i + 1 + 1) (jj_ent r ++ _) = _
      rw [jj_asg_ent al n r (i + 1 + 1)]
    · rw [if_neg h, if_neg (by rw [jj_v_cat]; exact h)]
      show (i, jj_v al v) :: jj_asg al (i + 1) (jj_ent r ++ _) = _
      rw [jj_asg_ent al n r (i + 1)]
theorem jj_ent_len (al : Nat → Nat) : ∀ (av : List Value), (jj_ent av).length = (lg_sl (av.map (jj_v al))).length
  | [] => rfl
  | v :: r => by
    unfold jj_ent
    have ih := jj_ent_len al r
    unfold lg_sl at ih ⊢
    rw [List.map_cons, List.flatMap_cons]
    by_cases h : v.category = 2
    · rw [if_pos h, if_pos (by rw [jj_v_cat]; exact h)]
      simp only [List.length_cons, List.length_append, List.length_nil]
      omega
    · rw [if_neg h, if_neg (by rw [jj_v_cat]; exact h)]
      simp only [List.length_cons, List.length_append, List.length_nil]
      omega
theorem jj_wl_ent {n k : Nat} : ∀ {av : List Value}, jj_ws n av → jj_wl n (jj_ent av ++ List.replicate k none)
  | [], _ => fun v hv => by
    have := List.eq_of_mem_replicate hv
    cases this
  | w :: r, h => fun v hv => by
    have ih := jj_wl_ent (k := k) (jj_ws_tl h)
    unfold jj_ent at hv
    by_cases hc : w.category = 2
    · rw [if_pos hc] at hv
      rcases List.mem_cons.mp hv with e | hv
      · cases e; exact jj_ws_hd h
      · rcases List.mem_cons.mp hv with e | hv
        · cases e
        · exact ih v hv
    · rw [if_neg hc] at hv
      rcases List.mem_cons.mp hv with e | hv
      · cases e; exact jj_ws_hd h
      · exact ih v hv
/-- what a return needs of its type -/
def jj_rt (ret : Option FieldType) (v : Option Value) (ins : Instr) : Prop := match v with
  | none => ret = none ∧ ins = .return_
  | some (.int x) => (∃ ty, ret = some ty ∧ narrow ty (.int x) = .int x) ∧ ins = .ireturn
  | some (.long _) => ret = some .long ∧ ins = .lreturn
  | some (.ref _) => (∃ rt, ret = some rt ∧ ((∃ n, rt = .object n) ∨ ∃ t, rt = .array t)) ∧ ins = .areturn
  | _ => False
/-- a body's walk gives the contract (hB: the two forms of the first word) -/
theorem jj_mk0 {y : MethodName} {hd : Cond} {cc : ByteArray} {nL : Nat} {ret : Option FieldType} {own : String} {sx : jj_X} {fr lo : Nat} {av : List Value} {lay lay' : jj_Lay} {S S' : jj_Mem} {v : Option Value} {L L' : List (Option Value)} {pc' : Nat} {ins : Instr}
    (hB : ∀ {l : Launch} {ws' : List Cond} {rm : Room} {Pc : Array Value → State → Prop} {Qc : Array Value → State → Outcome → State → Prop} {mc ms : Nat} {free : Addr → Prop},
      (∀ p e s m args below meth c s₁, BodyLoose p l y (headSpec (hd :: ws') rm) cc nL ret e s m args below meth c s₁ → c.maxLocals = nL → Pc args s → W p l e (headSpec (hd :: ws') rm).room s m args below meth c s.heap [] 0 0 (MQ below Qc args s mc ms free) (entryFrame m args nL)) → Met l y (hd :: ws') rm Pc Qc mc ms free)
    (hown : own = y.cls) (hL : jj_ent av ++ List.replicate (nL - (jj_ent av).length) none = L) (hlen : L.length = nL)
    (hret : jj_rt ret v ins) (hdg : decode cc pc' = .ok (ins, 1)) (h1 : lay.length ≤ lay'.length) (h2 : jj_sl lay ≤ jj_sl lay') (hwy : jj_wy lay → jj_wy lay') (hwv : jj_ws lay.length av → jj_wy lay → ∀ w, v = some w → jj_wv lay'.length w)
    (hR : jj_R cc nL own y.name sx fr lo lay'.length (jj_sl lay') (0, L, [], lay, S) (pc', L', v.toList, lay', S')) : jj_CT y hd sx fr lo av lay S v lay' S' := by
  refine ⟨h1, h2, fun hav hy => ⟨hwy hy, hwv hav hy, fun l D g al t sz he => ?_⟩⟩
  refine hB ?_
  intro p e s m args below meth c s₁ B hml hv
  obtain ⟨rfl, hsz, hP, hK, hD0, hN, hX⟩ := hv
  have hx := B.exec
  have hb := B.bytes
  have hr := B.returns
  have hts := atoms_spec (ws := hd :: jj_gW) B.pre
  have hownC : s.vm.findClass y.cls = some m.cls := findClass_of_methodNamed B.named
  have hlocks := B.notSynchronized
  have hin : meth.name = y.name := (name_of_methodNamed B.named B.method).1
  subst hsz
  have hD := hD0.self (sz := s.heap.size)
  have hbl : (lg_sl (av.map (jj_v al))).length ≤ nL := by
    rw [← jj_ent_len al av, ← hlen, ← hL, List.length_append]
    omega
  have hl := lv_entry (av.map (jj_v al)) (n := nL) hbl
  rw [lg_entry_eq]
  generalize (lg_sl (av.map (jj_v al)) ++ List.replicate (nL - (lg_sl (av.map (jj_v al))).length) Slot.unset).toArray = ls at hl ⊢
  rw [← jj_asg_ent al (nL - (jj_ent av).length) av 0, hL] at hl
  have hXa : ∀ z, sx = some z → va_X (al 0) z.1 z.2 s s.heap ∧ al 0 < s.heap.size ∧ ¬ va_A (jj_W g al t lay) s.heap.size (al 0) := fun z hz => by
    obtain ⟨q1, q2, q3⟩ := hX z hz
    refine ⟨q1, q2, fun hq => ?_⟩
    rcases hq with ⟨k, e9, hk⟩ | hq
    · obtain ⟨c9, hc9, e8⟩ := jj_W_inv hk
      exact q3 k c9 hc9 (congrArg Prod.fst e8).symm
    · omega
  have key := hR p l e (headSpec (hd :: jj_gW) { frames := fr, cells := lay'.length - lay.length, slots := jj_sl lay' - jj_sl lay, locals := lo }).room s m ((av.map (jj_v al)).toArray) below meth c D g (va_A (jj_W g al t lay) s.heap.size) al lay.length (jj_sl lay)
    (MQ below (jj_Qc D g al t lay s.heap.size v lay' S') ((av.map (jj_v al)).toArray) s (lay'.length - lay.length) (jj_sl lay' - jj_sl lay) (va_A (jj_W g al t lay) s.heap.size))
    ⟨hx, hb, hml, by rw [hown]; exact hownC, hin, fun w hw => hts w (List.mem_cons_of_mem _ hw), hN, hK, fun q hq => Or.inr hq, hXa⟩
    (Nat.le_refl _) (Nat.le_refl _) (by show _ ≤ lay.length + (lay'.length - lay.length); omega) (by show _ ≤ jj_sl lay + (jj_sl lay' - jj_sl lay); omega)
    (by
      intro al' t' H locs ls' cells slots c1 c2 hRel
      obtain ⟨e1, e2, e3, e4, e5, e6, e7, e8, e9, e10, e11⟩ := hRel
      have ecl : cells = lay'.length - lay.length := by
        have : lay.length + cells = lay'.length := c1
        omega
      have esl : slots = jj_sl lay' - jj_sl lay := by
        have : jj_sl lay + slots = jj_sl lay' := c2
        omega
      rw [ecl, esl]
      have fin : ∀ tt : State, tt.heap = H → s.WarmedH tt.vm → jj_Qc D g al t lay s.heap.size v lay' S' ((av.map (jj_v al)).toArray) s (.returned (v.map (jj_v al'))) tt := fun tt ht hW =>
        ⟨al', t', rfl, ⟨e10, e11⟩, e1, by rw [ht]; exact e2, e3, e4.F ht⟩
      cases v with
      | none =>
        obtain ⟨q1, q2⟩ := hret
        subst q2
        exact W.vret hx hb (by rw [hr, q1]) (fun tt ht hW => fin tt ht hW) e4.2.2 hdg
      | some v =>
        cases v with
        | int x =>
          obtain ⟨⟨ty, q1, q3⟩, q2⟩ := hret
          subst q2
          exact W.zret hx hb (by rw [hr, q1]) q3 (fun tt ht hW => fin tt ht hW) e4.2.2 hdg
        | long x =>
          obtain ⟨q1, q2⟩ := hret
          subst q2
          exact W.lret hx hb (by rw [hr, q1]) (fun tt ht hW => fin tt ht hW) e4.2.2 hdg
        | ref a =>
          obtain ⟨⟨rt, q1, q3⟩, q2⟩ := hret
          subst q2
          exact W.aret hx hb (by rw [hr, q1]) q3 (Or.inr ⟨_, rfl⟩) (fun tt ht hW => fin tt ht hW) e4.2.2 hdg
        | float x => exact absurd hret id
        | double x => exact absurd hret id
        | null => exact absurd hret id
        | retAddr x => exact absurd hret id)
  refine key al t s.heap [] ls 0 0 rfl rfl ⟨he, hP, hD, va_S.rf, hl, ?_, (fun v hv => by cases hv), hy, hlen, rfl, fun _ _ => rfl⟩
  show jj_wl lay.length L
  rw [← hL]
  exact jj_wl_ent hav
theorem jj_mk {y : MethodName} {cc : ByteArray} {nL : Nat} {ret : Option FieldType} {sx : jj_X} {fr lo : Nat} {av : List Value} {lay lay' : jj_Lay} {S S' : jj_Mem} {v : Option Value} {L L' : List (Option Value)} {pc' : Nat} {ins : Instr} (own : String)
    (hpl : plainName y.cls = true) (hown : own = y.cls) (hL : jj_ent av ++ List.replicate (nL - (jj_ent av).length) none = L) (hlen : L.length = nL)
    (hret : jj_rt ret v ins) (hdg : decode cc pc' = .ok (ins, 1)) (h1 : lay.length ≤ lay'.length) (h2 : jj_sl lay ≤ jj_sl lay') (hwy : jj_wy lay → jj_wy lay') (hwv : jj_ws lay.length av → jj_wy lay → ∀ w, v = some w → jj_wv lay'.length w)
    (hR : jj_R cc nL own y.name sx fr lo lay'.length (jj_sl lay') (0, L, [], lay, S) (pc', L', v.toList, lay', S')) : jj_CT y (.code y cc nL ret) sx fr lo av lay S v lay' S' :=
  jj_mk0 (fun hbd => Met.ofW (cc := cc) (maxL := nL) (ret := ret) hpl rfl hbd) hown hL hlen hret hdg h1 h2 hwy hwv hR
theorem jj_mkW {y : MethodName} {cc : ByteArray} {nL : Nat} {ret : Option FieldType} {hh : List (Nat × Nat × Nat × Nat)} {sx : jj_X} {fr lo : Nat} {av : List Value} {lay lay' : jj_Lay} {S S' : jj_Mem} {v : Option Value} {L L' : List (Option Value)} {pc' : Nat} {ins : Instr} (own : String)
    (hpl : plainName y.cls = true) (hown : own = y.cls) (hL : jj_ent av ++ List.replicate (nL - (jj_ent av).length) none = L) (hlen : L.length = nL)
    (hret : jj_rt ret v ins) (hdg : decode cc pc' = .ok (ins, 1)) (h1 : lay.length ≤ lay'.length) (h2 : jj_sl lay ≤ jj_sl lay') (hwy : jj_wy lay → jj_wy lay') (hwv : jj_ws lay.length av → jj_wy lay → ∀ w, v = some w → jj_wv lay'.length w)
    (hR : jj_R cc nL own y.name sx fr lo lay'.length (jj_sl lay') (0, L, [], lay, S) (pc', L', v.toList, lay', S')) : jj_CT y (.codeWith y cc nL ret hh) sx fr lo av lay S v lay' S' :=
  jj_mk0 (fun hbd => va_MetW (cc := cc) (maxL := nL) (ret := ret) (hh := hh) hpl rfl hbd) hown hL hlen hret hdg h1 h2 hwy hwv hR

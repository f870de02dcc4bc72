/-! RULES. jj_R: from the configuration c (pc, locals, operand stack, cells, memory) of a method's frame the machine comes to c', in every heap that holds the picture. A rule an instruction; their machine side is the kit's. -/
/-- the script, where the method may read it: its length and its ints -/
abbrev jj_X : Type := Option (Nat × (Nat → Int32))
def jj_Cx (p : Program) (s : State) (m : MethodId) (args : Array Value) (meth : Method) (cd : Code) (cc : ByteArray) (nL : Nat) (own nm : String) (sx : jj_X) (D : va_G) (g : jj_G) (A : Nat → Prop) (al0 : Nat → Nat) : Prop :=
  p.tables.exec = Jvm.exec ∧ cd.code = cc ∧ cd.maxLocals = nL ∧ s.vm.findClass own = some m.cls ∧ meth.name = nm ∧ (∀ w ∈ jj_gW, w.before args s = true) ∧ (∀ w ∈ jj_nW, va_Nw w s) ∧ va_K D vwCl [(g.1, .int), (g.2.1, .boolean), (g.2.2, .array .int)] s ∧ (∀ q, s.heap.size ≤ q → A q) ∧
  (∀ y, sx = some y → va_X (al0 0) y.1 y.2 s s.heap ∧ al0 0 < s.heap.size ∧ ¬ A (al0 0))
def jj_Rel (s : State) (D : va_G) (g : jj_G) (A : Nat → Prop) (nL : Nat) (al0 : Nat → Nat) (n0 : Nat) (L : List (Option Value)) (st : List Value) (lay : jj_Lay) (S : jj_Mem) (al : Nat → Nat) (t : Nat → Nat → Int32) (H : Heap) (locs : List Loc) (ls : Array Slot) : Prop :=
  jj_ext S t ∧ va_P D vwCl (jj_W g al t lay) H ∧ va_D A (jj_W g al t lay) ∧ va_S A s.heap H locs ∧ lv_has ls nL (jj_asg al 0 L) ∧ jj_wl lay.length L ∧ jj_ws lay.length st ∧ jj_wy lay ∧ L.length = nL ∧ al 0 = al0 0 ∧ ∀ k, k < n0 → al (k + 1) = al0 (k + 1)
def jj_Wd (p : Program) (l : Launch) (e : Env) (R : Room) (s : State) (m : MethodId) (args : Array Value) (below : List Frame) (meth : Method) (cd : Code) (D : va_G) (g : jj_G) (A : Nat → Prop) (nL : Nat) (al0 : Nat → Nat) (n0 s0 : Nat) (Q : State → Prop) (c : jj_C) : Prop :=
  ∀ (al : Nat → Nat) (t : Nat → Nat → Int32) (H : Heap) (locs : List Loc) (ls : Array Slot) (cells slots : Nat), n0 + cells = c.2.2.2.1.length → s0 + slots = jj_sl c.2.2.2.1 → jj_Rel s D g A nL al0 n0 c.2.1 c.2.2.1 c.2.2.2.1 c.2.2.2.2 al t H locs ls →
    W p l e R s m args below meth cd H locs cells slots Q (F0 m c.1 ls (c.2.2.1.map (jj_v al)))
/-- mu: code, number of locals, own class, name; lim: frames, locals, cells, slots that must be free -/
def jj_R (cc : ByteArray) (nL : Nat) (own nm : String) (sx : jj_X) (fr lo nc sc : Nat) (c c' : jj_C) : Prop :=
  ∀ (p : Program) (l : Launch) (e : Env) (R : Room) (s : State) (m : MethodId) (args : Array Value) (below : List Frame) (meth : Method) (cd : Code) (D : va_G) (g : jj_G) (A : Nat → Prop) (al0 : Nat → Nat) (n0 s0 : Nat) (Q : State → Prop),
    jj_Cx p s m args meth cd cc nL own nm sx D g A al0 → fr ≤ R.frames → lo ≤ R.locals → nc ≤ n0 + R.cells → sc ≤ s0 + R.slots →
    jj_Wd p l e R s m args below meth cd D g A nL al0 n0 s0 Q c' → jj_Wd p l e R s m args below meth cd D g A nL al0 n0 s0 Q c
section JR
variable {cc : ByteArray} {nL : Nat} {own nm : String} {sx : jj_X} {fr lo nc sc : Nat} {cE : jj_C} {pc : Nat} {L : List (Option Value)} {st : List Value} {lay : jj_Lay} {S : jj_Mem}
theorem jj_refl {c : jj_C} : jj_R cc nL own nm sx fr lo nc sc c c := fun _ _ _ _ _ _ _ _ _ _ _ _ _ _ _ _ _ _ _ _ _ _ h => h
theorem jj_tr {c c1 : jj_C} (h1 : jj_R cc nL own nm sx fr lo nc sc c c1) (h2 : jj_R cc nL own nm sx fr lo nc sc c1 cE) : jj_R cc nL own nm sx fr lo nc sc c cE :=
  fun p l e R s m args below meth cd D g A al0 n0 s0 Q a b d f g' h => h1 p l e R s m args below meth cd D g A al0 n0 s0 Q a b d f g' (h2 p l e R s m args below meth cd D g A al0 n0 s0 Q a b d f g' h)
/-- a step on the operand stack alone -/
theorem jj_pure {pc' : Nat} {st' : List Value}
    (h : ∀ {p : Program} {l : Launch} {e : Env} {R : Room} {s : State} {m : MethodId} {args : Array Value} {below : List Frame} {meth : Method} {cd : Code} {H : Heap} {locs : List Loc} {cells slots : Nat} {Q : State → Prop} (ls : Array Slot) (al : Nat → Nat), p.tables.exec = Jvm.exec → cd.code = cc → s.vm.findClass own = some m.cls → (∀ w ∈ jj_gW, w.before args s = true) → lv_has ls nL (jj_asg al 0 L) →
      W p l e R s m args below meth cd H locs cells slots Q (F0 m pc' ls (st'.map (jj_v al))) → W p l e R s m args below meth cd H locs cells slots Q (F0 m pc ls (st.map (jj_v al))))
    (hw : ∀ n, jj_wl n L → jj_ws n st → jj_ws n st') (k : jj_R cc nL own nm sx fr lo nc sc (pc', L, st', lay, S) cE) : jj_R cc nL own nm sx fr lo nc sc (pc, L, st, lay, S) cE := by
  intro p l e R s m args below meth cd D g A al0 n0 s0 Q hC hf hl hc hs hE
  have hk := k p l e R s m args below meth cd D g A al0 n0 s0 Q hC hf hl hc hs hE
  intro al t H locs ls cells slots h1 h2 hR
  obtain ⟨hx, hb, hml, hown, hnm, hts, hN, hK, hA, hX⟩ := hC
  obtain ⟨e1, e2, e3, e4, e5, e6, e7, e8⟩ := hR
  exact h ls al hx hb hown hts e5 (hk al t H locs ls cells slots h1 h2 ⟨e1, e2, e3, e4, e5, e6, hw _ e6 e7, e8⟩)
/-- a store into a local, the stack shorter by one -/
theorem jj_stor {pc' : Nat} {v : Value} {L' : List (Option Value)} (hlen : L'.length = L.length)
    (h : ∀ {p : Program} {l : Launch} {e : Env} {R : Room} {s : State} {m : MethodId} {args : Array Value} {below : List Frame} {meth : Method} {cd : Code} {H : Heap} {locs : List Loc} {cells slots : Nat} {Q : State → Prop} (ls : Array Slot) (al : Nat → Nat), p.tables.exec = Jvm.exec → cd.code = cc → lv_has ls nL (jj_asg al 0 L) → L.length = nL →
      (∀ ls', lv_has ls' nL (jj_asg al 0 L') → W p l e R s m args below meth cd H locs cells slots Q (F0 m pc' ls' (st.map (jj_v al)))) → W p l e R s m args below meth cd H locs cells slots Q (F0 m pc ls ((v :: st).map (jj_v al))))
    (hw : ∀ n, jj_wl n L → jj_wv n v → jj_wl n L') (k : jj_R cc nL own nm sx fr lo nc sc (pc', L', st, lay, S) cE) : jj_R cc nL own nm sx fr lo nc sc (pc, L, v :: st, lay, S) cE := by
  intro p l e R s m args below meth cd D g A al0 n0 s0 Q hC hf hl hc hs hE
  have hk := k p l e R s m args below meth cd D g A al0 n0 s0 Q hC hf hl hc hs hE
  intro al t H locs ls cells slots h1 h2 hR
  obtain ⟨hx, hb, hml, hown, hnm, hts, hN, hK, hA, hX⟩ := hC
  obtain ⟨e1, e2, e3, e4, e5, e6, e7, e8, e9, e10⟩ := hR
  exact h ls al hx hb e5 e9 (fun ls' hl' => hk al t H locs ls' cells slots h1 h2 ⟨e1, e2, e3, e4, hl', hw _ e6 (jj_ws_hd e7), jj_ws_tl e7, e8, hlen.trans e9, e10⟩)
theorem jj_lmem {al : Nat → Nat} {ls : Array Slot} {i : Nat} {v : Value} (h : lv_has ls nL (jj_asg al 0 L)) (hv : L[i]? = some (some v)) : ls[i]? = some (.val (jj_v al v)) :=
  h.2.2 (i, jj_v al v) (jj_asg_mem.mpr ⟨i, v, hv, by rw [Nat.zero_add]⟩)
theorem jj_lsub {al : Nat → Nat} {ls : Array Slot} {l : List (Nat × Value)} {L' : List (Option Value)} (h : lv_has ls nL l) (hq : ∀ q ∈ jj_asg al 0 L', q ∈ l) : lv_has ls nL (jj_asg al 0 L') := ⟨h.1, h.2.1, fun q z => h.2.2 q (hq q z)⟩

theorem js_iconst {n : Int} {v : Int32} (hdg : decode cc pc = .ok (.iconst n, 1)) (hv : Int32.ofInt n = v) (k : jj_R cc nL own nm sx fr lo nc sc (pc + 1, L, .int v :: st, lay, S) cE) : jj_R cc nL own nm sx fr lo nc sc (pc, L, st, lay, S) cE :=
  jj_pure (fun ls al hx hb hown hts hl kk => lv_iconst hx hb hdg hv kk) (fun n hL hs => by exact jj_ws_cons trivial hs) k
theorem js_bipush {n : Int} {v : Int32} (hdg : decode cc pc = .ok (.bipush n, 2)) (hv : (Int8.ofInt n).toInt32 = v) (k : jj_R cc nL own nm sx fr lo nc sc (pc + 2, L, .int v :: st, lay, S) cE) : jj_R cc nL own nm sx fr lo nc sc (pc, L, st, lay, S) cE :=
  jj_pure (fun ls al hx hb hown hts hl kk => lv_bipush hx hb hdg hv kk) (fun n hL hs => by exact jj_ws_cons trivial hs) k
theorem js_sipush {n : Int} {v : Int32} (hdg : decode cc pc = .ok (.sipush n, 3)) (hv : (Int16.ofInt n).toInt32 = v) (k : jj_R cc nL own nm sx fr lo nc sc (pc + 3, L, .int v :: st, lay, S) cE) : jj_R cc nL own nm sx fr lo nc sc (pc, L, st, lay, S) cE :=
  jj_pure (fun ls al hx hb hown hts hl kk => lv_sipush hx hb hdg hv kk) (fun n hL hs => by exact jj_ws_cons trivial hs) k
theorem js_ldc {ix : Nat} {v : Int32} (hdg : decode cc pc = .ok (.ldc ix, 2)) (hc : Cond.constant own ix v ∈ jj_gW) (k : jj_R cc nL own nm sx fr lo nc sc (pc + 2, L, .int v :: st, lay, S) cE) : jj_R cc nL own nm sx fr lo nc sc (pc, L, st, lay, S) cE :=
  jj_pure (fun ls al hx hb hown hts hl kk => lv_ldc hx hb hown (hts _ hc) hdg kk) (fun n hL hs => by exact jj_ws_cons trivial hs) k
theorem js_ldc2 {ix : Nat} {v : Int64} (hdg : decode cc pc = .ok (.ldc2_w ix, 3)) (hc : Cond.constantLong own ix v ∈ jj_gW) (k : jj_R cc nL own nm sx fr lo nc sc (pc + 3, L, .long v :: st, lay, S) cE) : jj_R cc nL own nm sx fr lo nc sc (pc, L, st, lay, S) cE :=
  jj_pure (fun ls al hx hb hown hts hl kk => lv_ldc2 hx hb hown (hts _ hc) hdg kk) (fun n hL hs => by exact jj_ws_cons trivial hs) k
theorem js_iload_n {q : Fin 4} {x : Int32} (i : Nat) (hi : (q : Nat) = i) (hdg : decode cc pc = .ok (.iload_n q, 1)) (hv : L[i]? = some (some (.int x))) (k : jj_R cc nL own nm sx fr lo nc sc (pc + 1, L, .int x :: st, lay, S) cE) : jj_R cc nL own nm sx fr lo nc sc (pc, L, st, lay, S) cE :=
  jj_pure (fun ls al hx hb hown hts hl kk => lv_iload_n hx hb hdg hi (jj_lmem hl hv) kk) (fun n hL hs => by exact jj_ws_cons (trivial) hs) k
theorem js_iload {i : Nat} {x : Int32} (hdg : decode cc pc = .ok (.iload i, 2)) (hv : L[i]? = some (some (.int x))) (k : jj_R cc nL own nm sx fr lo nc sc (pc + 2, L, .int x :: st, lay, S) cE) : jj_R cc nL own nm sx fr lo nc sc (pc, L, st, lay, S) cE :=
  jj_pure (fun ls al hx hb hown hts hl kk => lv_iload hx hb hdg (jj_lmem hl hv) kk) (fun n hL hs => by exact jj_ws_cons (trivial) hs) k
theorem js_lload_n {q : Fin 4} {x : Int64} (i : Nat) (hi : (q : Nat) = i) (hdg : decode cc pc = .ok (.lload_n q, 1)) (hv : L[i]? = some (some (.long x))) (k : jj_R cc nL own nm sx fr lo nc sc (pc + 1, L, .long x :: st, lay, S) cE) : jj_R cc nL own nm sx fr lo nc sc (pc, L, st, lay, S) cE :=
  jj_pure (fun ls al hx hb hown hts hl kk => lv_lload_n hx hb hdg hi (jj_lmem hl hv) kk) (fun n hL hs => by exact jj_ws_cons (trivial) hs) k
theorem js_lload {i : Nat} {x : Int64} (hdg : decode cc pc = .ok (.lload i, 2)) (hv : L[i]? = some (some (.long x))) (k : jj_R cc nL own nm sx fr lo nc sc (pc + 2, L, .long x :: st, lay, S) cE) : jj_R cc nL own nm sx fr lo nc sc (pc, L, st, lay, S) cE :=
  jj_pure (fun ls al hx hb hown hts hl kk => lv_lload hx hb hdg (jj_lmem hl hv) kk) (fun n hL hs => by exact jj_ws_cons (trivial) hs) k
theorem js_aload_n {q : Fin 4} {x : Nat} (i : Nat) (hi : (q : Nat) = i) (hdg : decode cc pc = .ok (.aload_n q, 1)) (hv : L[i]? = some (some (.ref x))) (k : jj_R cc nL own nm sx fr lo nc sc (pc + 1, L, .ref x :: st, lay, S) cE) : jj_R cc nL own nm sx fr lo nc sc (pc, L, st, lay, S) cE :=
  jj_pure (fun ls al hx hb hown hts hl kk => lv_aload_n hx hb hdg hi (jj_lmem hl hv) kk) (fun n hL hs => by exact jj_ws_cons (hL _ (List.mem_of_getElem? hv)) hs) k
theorem js_aload {i : Nat} {x : Nat} (hdg : decode cc pc = .ok (.aload i, 2)) (hv : L[i]? = some (some (.ref x))) (k : jj_R cc nL own nm sx fr lo nc sc (pc + 2, L, .ref x :: st, lay, S) cE) : jj_R cc nL own nm sx fr lo nc sc (pc, L, st, lay, S) cE :=
  jj_pure (fun ls al hx hb hown hts hl kk => lv_aload hx hb hdg (jj_lmem hl hv) kk) (fun n hL hs => by exact jj_ws_cons (hL _ (List.mem_of_getElem? hv)) hs) k
theorem js_xload_n {q : Fin 4} {x : Nat} (i : Nat) (hi : (q : Nat) = i) (hdg : decode cc pc = .ok (.aload_n q, 1)) (hv : L[i]? = some (some (.retAddr x))) (k : jj_R cc nL own nm sx fr lo nc sc (pc + 1, L, .retAddr x :: st, lay, S) cE) : jj_R cc nL own nm sx fr lo nc sc (pc, L, st, lay, S) cE :=
  jj_pure (fun ls al hx hb hown hts hl kk => lv_aload_n hx hb hdg hi (jj_lmem hl hv) kk) (fun n hL hs => by exact jj_ws_cons trivial hs) k
theorem js_istore_n {q : Fin 4} {x : Int32} {L' : List (Option Value)} (i : Nat) (hi : (q : Nat) = i) (hdg : decode cc pc = .ok (.istore_n q, 1)) (hL : jj_st1 L i (.int x) = L') (hn : i < L.length) (k : jj_R cc nL own nm sx fr lo nc sc (pc + 1, L', st, lay, S) cE) : jj_R cc nL own nm sx fr lo nc sc (pc, L, .int x :: st, lay, S) cE :=
  jj_stor (by rw [← hL]; exact jj_st1_len _ _ _) (fun ls al hx hb hl hn2 kk => lv_istore_n hx hb hdg hi hl (by omega) rfl (fun ls2 h2 => kk ls2 (jj_lsub h2 (fun q hq => jj_st1_sub (v := .int x) (by rw [hL]; exact hq))))) (fun n h hv => by rw [← hL]; exact jj_wl_st1 h hv) k
theorem js_istore {i : Nat} {x : Int32} {L' : List (Option Value)} (hdg : decode cc pc = .ok (.istore i, 2)) (hL : jj_st1 L i (.int x) = L') (hn : i < L.length) (k : jj_R cc nL own nm sx fr lo nc sc (pc + 2, L', st, lay, S) cE) : jj_R cc nL own nm sx fr lo nc sc (pc, L, .int x :: st, lay, S) cE :=
  jj_stor (by rw [← hL]; exact jj_st1_len _ _ _) (fun ls al hx hb hl hn2 kk => lv_istore hx hb hdg hl (by omega) rfl (fun ls2 h2 => kk ls2 (jj_lsub h2 (fun q hq => jj_st1_sub (v := .int x) (by rw [hL]; exact hq))))) (fun n h hv => by rw [← hL]; exact jj_wl_st1 h hv) k
theorem js_astore_n {q : Fin 4} {x : Nat} {L' : List (Option Value)} (i : Nat) (hi : (q : Nat) = i) (hdg : decode cc pc = .ok (.astore_n q, 1)) (hL : jj_st1 L i (.ref x) = L') (hn : i < L.length) (k : jj_R cc nL own nm sx fr lo nc sc (pc + 1, L', st, lay, S) cE) : jj_R cc nL own nm sx fr lo nc sc (pc, L, .ref x :: st, lay, S) cE :=
  jj_stor (by rw [← hL]; exact jj_st1_len _ _ _) (fun ls al hx hb hl hn2 kk => lv_astore_n hx hb hdg hi hl (by omega) rfl (fun ls2 h2 => kk ls2 (jj_lsub h2 (fun q hq => jj_st1_sub (v := .ref x) (by rw [hL]; exact hq))))) (fun n h hv => by rw [← hL]; exact jj_wl_st1 h hv) k
theorem js_astore {i : Nat} {x : Nat} {L' : List (Option Value)} (hdg : decode cc pc = .ok (.astore i, 2)) (hL : jj_st1 L i (.ref x) = L') (hn : i < L.length) (k : jj_R cc nL own nm sx fr lo nc sc (pc + 2, L', st, lay, S) cE) : jj_R cc nL own nm sx fr lo nc sc (pc, L, .ref x :: st, lay, S) cE :=
  jj_stor (by rw [← hL]; exact jj_st1_len _ _ _) (fun ls al hx hb hl hn2 kk => lv_astore hx hb hdg hl (by omega) rfl (fun ls2 h2 => kk ls2 (jj_lsub h2 (fun q hq => jj_st1_sub (v := .ref x) (by rw [hL]; exact hq))))) (fun n h hv => by rw [← hL]; exact jj_wl_st1 h hv) k
theorem js_lstore_n {q : Fin 4} {x : Int64} {L' : List (Option Value)} (i : Nat) (hi : (q : Nat) = i) (hdg : decode cc pc = .ok (.lstore_n q, 1)) (hL : jj_st2 L i (.long x) = L') (hn : i + 1 < L.length) (k : jj_R cc nL own nm sx fr lo nc sc (pc + 1, L', st, lay, S) cE) : jj_R cc nL own nm sx fr lo nc sc (pc, L, .long x :: st, lay, S) cE :=
  jj_stor (by rw [← hL]; exact jj_st2_len _ _ _) (fun ls al hx hb hl hn2 kk => lv_lstore_n hx hb hdg hi hl (by omega) rfl (fun ls2 h2 => kk ls2 (jj_lsub h2 (fun q hq => jj_st2_sub (v := .long x) (by rw [hL]; exact hq))))) (fun n h hv => by rw [← hL]; exact jj_wl_st2 h hv) k
theorem js_lstore {i : Nat} {x : Int64} {L' : List (Option Value)} (hdg : decode cc pc = .ok (.lstore i, 2)) (hL : jj_st2 L i (.long x) = L') (hn : i + 1 < L.length) (k : jj_R cc nL own nm sx fr lo nc sc (pc + 2, L', st, lay, S) cE) : jj_R cc nL own nm sx fr lo nc sc (pc, L, .long x :: st, lay, S) cE :=
  jj_stor (by rw [← hL]; exact jj_st2_len _ _ _) (fun ls al hx hb hl hn2 kk => lv_lstore hx hb hdg hl (by omega) rfl (fun ls2 h2 => kk ls2 (jj_lsub h2 (fun q hq => jj_st2_sub (v := .long x) (by rw [hL]; exact hq))))) (fun n h hv => by rw [← hL]; exact jj_wl_st2 h hv) k
theorem js_iinc {i : Nat} {n : Int} {x v : Int32} {L' : List (Option Value)} (hdg : decode cc pc = .ok (.iinc i n, 3)) (hx0 : L[i]? = some (some (.int x))) (hv : x + Int32.ofInt n = v) (hL : jj_st1 L i (.int v) = L') (k : jj_R cc nL own nm sx fr lo nc sc (pc + 3, L', st, lay, S) cE) : jj_R cc nL own nm sx fr lo nc sc (pc, L, st, lay, S) cE := by
  intro p l e R s m args below meth cd D g A al0 n0 s0 Q hC hf hl hc hs hE
  have hk := k p l e R s m args below meth cd D g A al0 n0 s0 Q hC hf hl hc hs hE
  intro al t H locs ls cells slots h1 h2 hR
  obtain ⟨hx, hb, hml, hown, hnm, hts, hN, hK, hA, hX⟩ := hC
  obtain ⟨e1, e2, e3, e4, e5, e6, e7, e8, e9, e10⟩ := hR
  obtain ⟨j, hj⟩ := List.getElem?_of_mem (jj_asg_mem (al := al) (i := 0).mpr ⟨i, .int x, hx0, rfl⟩)
  have hi : i < nL := by rw [← e9]; exact (List.getElem?_eq_some_iff.mp hx0).1
  rw [Nat.zero_add] at hj
  refine lv_iinc (k := j) hx hb hdg e5 hj hv hi rfl (fun ls2 hl2 => ?_)
  exact hk al t H locs ls2 cells slots h1 h2 ⟨e1, e2, e3, e4, jj_lsub hl2 (fun q hq => jj_st1_sub (v := .int v) (by rw [hL]; exact hq)), by rw [← hL]; exact jj_wl_st1 e6 trivial, e7, e8, by rw [← hL, jj_st1_len]; exact e9, e10⟩
theorem js_iadd {x y : Int32} (hdg : decode cc pc = .ok (.iadd, 1)) (k : jj_R cc nL own nm sx fr lo nc sc (pc + 1, L, .int (x + y) :: st, lay, S) cE) : jj_R cc nL own nm sx fr lo nc sc (pc, L, .int y :: .int x :: st, lay, S) cE :=
  jj_pure (fun ls al hx hb hown hts hl kk => lv_iadd hx hb hdg kk) (fun n hL hs => by exact jj_ws_cons trivial (jj_ws_tl (jj_ws_tl hs))) k
theorem js_isub {x y : Int32} (hdg : decode cc pc = .ok (.isub, 1)) (k : jj_R cc nL own nm sx fr lo nc sc (pc + 1, L, .int (x - y) :: st, lay, S) cE) : jj_R cc nL own nm sx fr lo nc sc (pc, L, .int y :: .int x :: st, lay, S) cE :=
  jj_pure (fun ls al hx hb hown hts hl kk => lv_isub hx hb hdg kk) (fun n hL hs => by exact jj_ws_cons trivial (jj_ws_tl (jj_ws_tl hs))) k
theorem js_imul {x y : Int32} (hdg : decode cc pc = .ok (.imul, 1)) (k : jj_R cc nL own nm sx fr lo nc sc (pc + 1, L, .int (x * y) :: st, lay, S) cE) : jj_R cc nL own nm sx fr lo nc sc (pc, L, .int y :: .int x :: st, lay, S) cE :=
  jj_pure (fun ls al hx hb hown hts hl kk => lv_imul hx hb hdg kk) (fun n hL hs => by exact jj_ws_cons trivial (jj_ws_tl (jj_ws_tl hs))) k
theorem js_iand {x y : Int32} (hdg : decode cc pc = .ok (.iand, 1)) (k : jj_R cc nL own nm sx fr lo nc sc (pc + 1, L, .int (x &&& y) :: st, lay, S) cE) : jj_R cc nL own nm sx fr lo nc sc (pc, L, .int y :: .int x :: st, lay, S) cE :=
  jj_pure (fun ls al hx hb hown hts hl kk => lv_iand hx hb hdg kk) (fun n hL hs => by exact jj_ws_cons trivial (jj_ws_tl (jj_ws_tl hs))) k
theorem js_ior {x y : Int32} (hdg : decode cc pc = .ok (.ior, 1)) (k : jj_R cc nL own nm sx fr lo nc sc (pc + 1, L, .int (x ||| y) :: st, lay, S) cE) : jj_R cc nL own nm sx fr lo nc sc (pc, L, .int y :: .int x :: st, lay, S) cE :=
  jj_pure (fun ls al hx hb hown hts hl kk => lv_ior hx hb hdg kk) (fun n hL hs => by exact jj_ws_cons trivial (jj_ws_tl (jj_ws_tl hs))) k
theorem js_ixor {x y : Int32} (hdg : decode cc pc = .ok (.ixor, 1)) (k : jj_R cc nL own nm sx fr lo nc sc (pc + 1, L, .int (x ^^^ y) :: st, lay, S) cE) : jj_R cc nL own nm sx fr lo nc sc (pc, L, .int y :: .int x :: st, lay, S) cE :=
  jj_pure (fun ls al hx hb hown hts hl kk => lv_ixor hx hb hdg kk) (fun n hL hs => by exact jj_ws_cons trivial (jj_ws_tl (jj_ws_tl hs))) k
theorem js_ishl {x y : Int32} (hdg : decode cc pc = .ok (.ishl, 1)) (k : jj_R cc nL own nm sx fr lo nc sc (pc + 1, L, .int (x <<< (y &&& 31)) :: st, lay, S) cE) : jj_R cc nL own nm sx fr lo nc sc (pc, L, .int y :: .int x :: st, lay, S) cE :=
  jj_pure (fun ls al hx hb hown hts hl kk => lv_ishl hx hb hdg kk) (fun n hL hs => by exact jj_ws_cons trivial (jj_ws_tl (jj_ws_tl hs))) k
theorem js_ishr {x y : Int32} (hdg : decode cc pc = .ok (.ishr, 1)) (k : jj_R cc nL own nm sx fr lo nc sc (pc + 1, L, .int (x >>> (y &&& 31)) :: st, lay, S) cE) : jj_R cc nL own nm sx fr lo nc sc (pc, L, .int y :: .int x :: st, lay, S) cE :=
  jj_pure (fun ls al hx hb hown hts hl kk => lv_ishr hx hb hdg kk) (fun n hL hs => by exact jj_ws_cons trivial (jj_ws_tl (jj_ws_tl hs))) k
theorem js_ladd {x y : Int64} (hdg : decode cc pc = .ok (.ladd, 1)) (k : jj_R cc nL own nm sx fr lo nc sc (pc + 1, L, .long (x + y) :: st, lay, S) cE) : jj_R cc nL own nm sx fr lo nc sc (pc, L, .long y :: .long x :: st, lay, S) cE :=
  jj_pure (fun ls al hx hb hown hts hl kk => lv_ladd hx hb hdg kk) (fun n hL hs => by exact jj_ws_cons trivial (jj_ws_tl (jj_ws_tl hs))) k
theorem js_lmul {x y : Int64} (hdg : decode cc pc = .ok (.lmul, 1)) (k : jj_R cc nL own nm sx fr lo nc sc (pc + 1, L, .long (x * y) :: st, lay, S) cE) : jj_R cc nL own nm sx fr lo nc sc (pc, L, .long y :: .long x :: st, lay, S) cE :=
  jj_pure (fun ls al hx hb hown hts hl kk => lv_lmul hx hb hdg kk) (fun n hL hs => by exact jj_ws_cons trivial (jj_ws_tl (jj_ws_tl hs))) k
theorem js_idiv {x y : Int32} (hdg : decode cc pc = .ok (.idiv, 1)) (hne : ¬ y = 0) (k : jj_R cc nL own nm sx fr lo nc sc (pc + 1, L, .int (x / y) :: st, lay, S) cE) : jj_R cc nL own nm sx fr lo nc sc (pc, L, .int y :: .int x :: st, lay, S) cE :=
  jj_pure (fun ls al hx hb hown hts hl kk => lv_idiv hx hb hdg hne kk) (fun n hL hs => by exact jj_ws_cons trivial (jj_ws_tl (jj_ws_tl hs))) k
theorem js_irem {x y : Int32} (hdg : decode cc pc = .ok (.irem, 1)) (hne : ¬ y = 0) (k : jj_R cc nL own nm sx fr lo nc sc (pc + 1, L, .int (x - x / y * y) :: st, lay, S) cE) : jj_R cc nL own nm sx fr lo nc sc (pc, L, .int y :: .int x :: st, lay, S) cE :=
  jj_pure (fun ls al hx hb hown hts hl kk => lv_irem hx hb hdg hne kk) (fun n hL hs => by exact jj_ws_cons trivial (jj_ws_tl (jj_ws_tl hs))) k
theorem js_i2l {x : Int32} (hdg : decode cc pc = .ok (.i2l, 1)) (k : jj_R cc nL own nm sx fr lo nc sc (pc + 1, L, .long x.toInt64 :: st, lay, S) cE) : jj_R cc nL own nm sx fr lo nc sc (pc, L, .int x :: st, lay, S) cE :=
  jj_pure (fun ls al hx hb hown hts hl kk => lv_i2l hx hb hdg rfl kk) (fun n hL hs => by exact jj_ws_cons trivial (jj_ws_tl hs)) k
theorem js_lcmp {x y : Int64} (hdg : decode cc pc = .ok (.lcmp, 1)) (k : jj_R cc nL own nm sx fr lo nc sc (pc + 1, L, .int (lg_cmp x y) :: st, lay, S) cE) : jj_R cc nL own nm sx fr lo nc sc (pc, L, .long y :: .long x :: st, lay, S) cE :=
  jj_pure (fun ls al hx hb hown hts hl kk => W.lcmp hx hb hdg kk) (fun n hL hs => by exact jj_ws_cons trivial (jj_ws_tl (jj_ws_tl hs))) k
theorem js_dup {v : Value} (hc : v.category = 1) (hdg : decode cc pc = .ok (.dup, 1)) (k : jj_R cc nL own nm sx fr lo nc sc (pc + 1, L, v :: v :: st, lay, S) cE) : jj_R cc nL own nm sx fr lo nc sc (pc, L, v :: st, lay, S) cE :=
  jj_pure (fun ls al hx hb hown hts hl kk => lv_dup hx hb hdg (by rw [jj_v_cat]; exact hc) kk) (fun n hL hs => by exact jj_ws_cons (jj_ws_hd hs) hs) k
theorem js_dup2 {v w : Value} (hc : v.category = 1) (hc2 : w.category = 1) (hdg : decode cc pc = .ok (.dup2, 1)) (k : jj_R cc nL own nm sx fr lo nc sc (pc + 1, L, v :: w :: v :: w :: st, lay, S) cE) : jj_R cc nL own nm sx fr lo nc sc (pc, L, v :: w :: st, lay, S) cE :=
  jj_pure (fun ls al hx hb hown hts hl kk => lv_dup2_11 hx hb hdg (by rw [jj_v_cat]; exact hc) (by rw [jj_v_cat]; exact hc2) kk) (fun n hL hs => by exact jj_ws_cons (jj_ws_hd hs) (jj_ws_cons (jj_ws_hd (jj_ws_tl hs)) hs)) k
theorem js_pop {v : Value} (hc : v.category = 1) (hdg : decode cc pc = .ok (.pop, 1)) (k : jj_R cc nL own nm sx fr lo nc sc (pc + 1, L, st, lay, S) cE) : jj_R cc nL own nm sx fr lo nc sc (pc, L, v :: st, lay, S) cE :=
  jj_pure (fun ls al hx hb hown hts hl kk => lv_pop hx hb hdg (by rw [jj_v_cat]; exact hc) kk) (fun n hL hs => by exact jj_ws_tl hs) k
theorem js_goto {off : Int} (tgt : Nat) (hdg : decode cc pc = .ok (.goto off, 3)) (ht : (pc : Int) + off = (tgt : Int)) (k : jj_R cc nL own nm sx fr lo nc sc (tgt, L, st, lay, S) cE) : jj_R cc nL own nm sx fr lo nc sc (pc, L, st, lay, S) cE :=
  jj_pure (fun ls al hx hb hown hts hl kk => lv_goto hx hb hdg ht kk) (fun n hL hs => by exact hs) k
theorem js_if_eq {x : Int32} {off : Int} (tgt : Nat) (hdg : decode cc pc = .ok (.ifCond .eq off, 3)) (ht : (pc : Int) + off = (tgt : Int)) (kt : x = 0 → jj_R cc nL own nm sx fr lo nc sc (tgt, L, st, lay, S) cE) (kf : ¬ x = 0 → jj_R cc nL own nm sx fr lo nc sc (pc + 3, L, st, lay, S) cE) : jj_R cc nL own nm sx fr lo nc sc (pc, L, .int x :: st, lay, S) cE := by
  intro p l e R s m args below meth cd D g A al0 n0 s0 Q hC hf hl hc hs hE
  have hkt := fun q => kt q p l e R s m args below meth cd D g A al0 n0 s0 Q hC hf hl hc hs hE
  have hkf := fun q => kf q p l e R s m args below meth cd D g A al0 n0 s0 Q hC hf hl hc hs hE
  intro al t H locs ls cells slots h1 h2 hR
  obtain ⟨hx, hb, hml, hown, hnm, hts, hN, hK, hA, hX⟩ := hC
  obtain ⟨e1, e2, e3, e4, e5, e6, e7, e8⟩ := hR
  exact lv_if_eq hx hb hdg ht (fun q => hkt q al t H locs ls cells slots h1 h2 ⟨e1, e2, e3, e4, e5, e6, jj_ws_tl e7, e8⟩) (fun q => hkf q al t H locs ls cells slots h1 h2 ⟨e1, e2, e3, e4, e5, e6, jj_ws_tl e7, e8⟩)
theorem js_icmp_eq {x y : Int32} {off : Int} (tgt : Nat) (hdg : decode cc pc = .ok (.if_icmp .eq off, 3)) (ht : (pc : Int) + off = (tgt : Int)) (kt : x = y → jj_R cc nL own nm sx fr lo nc sc (tgt, L, st, lay, S) cE) (kf : ¬ x = y → jj_R cc nL own nm sx fr lo nc sc (pc + 3, L, st, lay, S) cE) : jj_R cc nL own nm sx fr lo nc sc (pc, L, .int y :: .int x :: st, lay, S) cE := by
  intro p l e R s m args below meth cd D g A al0 n0 s0 Q hC hf hl hc hs hE
  have hkt := fun q => kt q p l e R s m args below meth cd D g A al0 n0 s0 Q hC hf hl hc hs hE
  have hkf := fun q => kf q p l e R s m args below meth cd D g A al0 n0 s0 Q hC hf hl hc hs hE
  intro al t H locs ls cells slots h1 h2 hR
  obtain ⟨hx, hb, hml, hown, hnm, hts, hN, hK, hA, hX⟩ := hC
  obtain ⟨e1, e2, e3, e4, e5, e6, e7, e8⟩ := hR
  exact lv_icmp_eq hx hb hdg ht (fun q => hkt q al t H locs ls cells slots h1 h2 ⟨e1, e2, e3, e4, e5, e6, jj_ws_tl (jj_ws_tl e7), e8⟩) (fun q => hkf q al t H locs ls cells slots h1 h2 ⟨e1, e2, e3, e4, e5, e6, jj_ws_tl (jj_ws_tl e7), e8⟩)
theorem js_if_ne {x : Int32} {off : Int} (tgt : Nat) (hdg : decode cc pc = .ok (.ifCond .ne off, 3)) (ht : (pc : Int) + off = (tgt : Int)) (kt : ¬ x = 0 → jj_R cc nL own nm sx fr lo nc sc (tgt, L, st, lay, S) cE) (kf : x = 0 → jj_R cc nL own nm sx fr lo nc sc (pc + 3, L, st, lay, S) cE) : jj_R cc nL own nm sx fr lo nc sc (pc, L, .int x :: st, lay, S) cE := by
  intro p l e R s m args below meth cd D g A al0 n0 s0 Q hC hf hl hc hs hE
  have hkt := fun q => kt q p l e R s m args below meth cd D g A al0 n0 s0 Q hC hf hl hc hs hE
  have hkf := fun q => kf q p l e R s m args below meth cd D g A al0 n0 s0 Q hC hf hl hc hs hE
  intro al t H locs ls cells slots h1 h2 hR
  obtain ⟨hx, hb, hml, hown, hnm, hts, hN, hK, hA, hX⟩ := hC
  obtain ⟨e1, e2, e3, e4, e5, e6, e7, e8⟩ := hR
  exact lv_if_ne hx hb hdg ht (fun q => hkt q al t H locs ls cells slots h1 h2 ⟨e1, e2, e3, e4, e5, e6, jj_ws_tl e7, e8⟩) (fun q => hkf q al t H locs ls cells slots h1 h2 ⟨e1, e2, e3, e4, e5, e6, jj_ws_tl e7, e8⟩)
theorem js_icmp_ne {x y : Int32} {off : Int} (tgt : Nat) (hdg : decode cc pc = .ok (.if_icmp .ne off, 3)) (ht : (pc : Int) + off = (tgt : Int)) (kt : ¬ x = y → jj_R cc nL own nm sx fr lo nc sc (tgt, L, st, lay, S) cE) (kf : x = y → jj_R cc nL own nm sx fr lo nc sc (pc + 3, L, st, lay, S) cE) : jj_R cc nL own nm sx fr lo nc sc (pc, L, .int y :: .int x :: st, lay, S) cE := by
  intro p l e R s m args below meth cd D g A al0 n0 s0 Q hC hf hl hc hs hE
  have hkt := fun q => kt q p l e R s m args below meth cd D g A al0 n0 s0 Q hC hf hl hc hs hE
  have hkf := fun q => kf q p l e R s m args below meth cd D g A al0 n0 s0 Q hC hf hl hc hs hE
  intro al t H locs ls cells slots h1 h2 hR
  obtain ⟨hx, hb, hml, hown, hnm, hts, hN, hK, hA, hX⟩ := hC
  obtain ⟨e1, e2, e3, e4, e5, e6, e7, e8⟩ := hR
  exact lv_icmp_ne hx hb hdg ht (fun q => hkt q al t H locs ls cells slots h1 h2 ⟨e1, e2, e3, e4, e5, e6, jj_ws_tl (jj_ws_tl e7), e8⟩) (fun q => hkf q al t H locs ls cells slots h1 h2 ⟨e1, e2, e3, e4, e5, e6, jj_ws_tl (jj_ws_tl e7), e8⟩)
theorem js_if_lt {x : Int32} {off : Int} (tgt : Nat) (hdg : decode cc pc = .ok (.ifCond .lt off, 3)) (ht : (pc : Int) + off = (tgt : Int)) (kt : x < 0 → jj_R cc nL own nm sx fr lo nc sc (tgt, L, st, lay, S) cE) (kf : ¬ x < 0 → jj_R cc nL own nm sx fr lo nc sc (pc + 3, L, st, lay, S) cE) : jj_R cc nL own nm sx fr lo nc sc (pc, L, .int x :: st, lay, S) cE := by
  intro p l e R s m args below meth cd D g A al0 n0 s0 Q hC hf hl hc hs hE
  have hkt := fun q => kt q p l e R s m args below meth cd D g A al0 n0 s0 Q hC hf hl hc hs hE
  have hkf := fun q => kf q p l e R s m args below meth cd D g A al0 n0 s0 Q hC hf hl hc hs hE
  intro al t H locs ls cells slots h1 h2 hR
  obtain ⟨hx, hb, hml, hown, hnm, hts, hN, hK, hA, hX⟩ := hC
  obtain ⟨e1, e2, e3, e4, e5, e6, e7, e8⟩ := hR
  exact lv_if_lt hx hb hdg ht (fun q => hkt q al t H locs ls cells slots h1 h2 ⟨e1, e2, e3, e4, e5, e6, jj_ws_tl e7, e8⟩) (fun q => hkf q al t H locs ls cells slots h1 h2 ⟨e1, e2, e3, e4, e5, e6, jj_ws_tl e7, e8⟩)
theorem js_icmp_lt {x y : Int32} {off : Int} (tgt : Nat) (hdg : decode cc pc = .ok (.if_icmp .lt off, 3)) (ht : (pc : Int) + off = (tgt : Int)) (kt : x < y → jj_R cc nL own nm sx fr lo nc sc (tgt, L, st, lay, S) cE) (kf : ¬ x < y → jj_R cc nL own nm sx fr lo nc sc (pc + 3, L, st, lay, S) cE) : jj_R cc nL own nm sx fr lo nc sc (pc, L, .int y :: .int x :: st, lay, S) cE := by
  intro p l e R s m args below meth cd D g A al0 n0 s0 Q hC hf hl hc hs hE
  have hkt := fun q => kt q p l e R s m args below meth cd D g A al0 n0 s0 Q hC hf hl hc hs hE
  have hkf := fun q => kf q p l e R s m args below meth cd D g A al0 n0 s0 Q hC hf hl hc hs hE
  intro al t H locs ls cells slots h1 h2 hR
  obtain ⟨hx, hb, hml, hown, hnm, hts, hN, hK, hA, hX⟩ := hC
  obtain ⟨e1, e2, e3, e4, e5, e6, e7, e8⟩ := hR
  exact lv_icmp_lt hx hb hdg ht (fun q => hkt q al t H locs ls cells slots h1 h2 ⟨e1, e2, e3, e4, e5, e6, jj_ws_tl (jj_ws_tl e7), e8⟩) (fun q => hkf q al t H locs ls cells slots h1 h2 ⟨e1, e2, e3, e4, e5, e6, jj_ws_tl (jj_ws_tl e7), e8⟩)
theorem js_if_ge {x : Int32} {off : Int} (tgt : Nat) (hdg : decode cc pc = .ok (.ifCond .ge off, 3)) (ht : (pc : Int) + off = (tgt : Int)) (kt : 0 ≤ x → jj_R cc nL own nm sx fr lo nc sc (tgt, L, st, lay, S) cE) (kf : ¬ 0 ≤ x → jj_R cc nL own nm sx fr lo nc sc (pc + 3, L, st, lay, S) cE) : jj_R cc nL own nm sx fr lo nc sc (pc, L, .int x :: st, lay, S) cE := by
  intro p l e R s m args below meth cd D g A al0 n0 s0 Q hC hf hl hc hs hE
  have hkt := fun q => kt q p l e R s m args below meth cd D g A al0 n0 s0 Q hC hf hl hc hs hE
  have hkf := fun q => kf q p l e R s m args below meth cd D g A al0 n0 s0 Q hC hf hl hc hs hE
  intro al t H locs ls cells slots h1 h2 hR
  obtain ⟨hx, hb, hml, hown, hnm, hts, hN, hK, hA, hX⟩ := hC
  obtain ⟨e1, e2, e3, e4, e5, e6, e7, e8⟩ := hR
  exact lv_if_ge hx hb hdg ht (fun q => hkt q al t H locs ls cells slots h1 h2 ⟨e1, e2, e3, e4, e5, e6, jj_ws_tl e7, e8⟩) (fun q => hkf q al t H locs ls cells slots h1 h2 ⟨e1, e2, e3, e4, e5, e6, jj_ws_tl e7, e8⟩)
theorem js_icmp_ge {x y : Int32} {off : Int} (tgt : Nat) (hdg : decode cc pc = .ok (.if_icmp .ge off, 3)) (ht : (pc : Int) + off = (tgt : Int)) (kt : y ≤ x → jj_R cc nL own nm sx fr lo nc sc (tgt, L, st, lay, S) cE) (kf : ¬ y ≤ x → jj_R cc nL own nm sx fr lo nc sc (pc + 3, L, st, lay, S) cE) : jj_R cc nL own nm sx fr lo nc sc (pc, L, .int y :: .int x :: st, lay, S) cE := by
  intro p l e R s m args below meth cd D g A al0 n0 s0 Q hC hf hl hc hs hE
  have hkt := fun q => kt q p l e R s m args below meth cd D g A al0 n0 s0 Q hC hf hl hc hs hE
  have hkf := fun q => kf q p l e R s m args below meth cd D g A al0 n0 s0 Q hC hf hl hc hs hE
  intro al t H locs ls cells slots h1 h2 hR
  obtain ⟨hx, hb, hml, hown, hnm, hts, hN, hK, hA, hX⟩ := hC
  obtain ⟨e1, e2, e3, e4, e5, e6, e7, e8⟩ := hR
  exact lv_icmp_ge hx hb hdg ht (fun q => hkt q al t H locs ls cells slots h1 h2 ⟨e1, e2, e3, e4, e5, e6, jj_ws_tl (jj_ws_tl e7), e8⟩) (fun q => hkf q al t H locs ls cells slots h1 h2 ⟨e1, e2, e3, e4, e5, e6, jj_ws_tl (jj_ws_tl e7), e8⟩)
theorem js_if_gt {x : Int32} {off : Int} (tgt : Nat) (hdg : decode cc pc = .ok (.ifCond .gt off, 3)) (ht : (pc : Int) + off = (tgt : Int)) (kt : 0 < x → jj_R cc nL own nm sx fr lo nc sc (tgt, L, st, lay, S) cE) (kf : ¬ 0 < x → jj_R cc nL own nm sx fr lo nc sc (pc + 3, L, st, lay, S) cE) : jj_R cc nL own nm sx fr lo nc sc (pc, L, .int x :: st, lay, S) cE := by
  intro p l e R s m args below meth cd D g A al0 n0 s0 Q hC hf hl hc hs hE
  have hkt := fun q => kt q p l e R s m args below meth cd D g A al0 n0 s0 Q hC hf hl hc hs hE
  have hkf := fun q => kf q p l e R s m args below meth cd D g A al0 n0 s0 Q hC hf hl hc hs hE
  intro al t H locs ls cells slots h1 h2 hR
  obtain ⟨hx, hb, hml, hown, hnm, hts, hN, hK, hA, hX⟩ := hC
  obtain ⟨e1, e2, e3, e4, e5, e6, e7, e8⟩ := hR
  exact lv_if_gt hx hb hdg ht (fun q => hkt q al t H locs ls cells slots h1 h2 ⟨e1, e2, e3, e4, e5, e6, jj_ws_tl e7, e8⟩) (fun q => hkf q al t H locs ls cells slots h1 h2 ⟨e1, e2, e3, e4, e5, e6, jj_ws_tl e7, e8⟩)
theorem js_icmp_gt {x y : Int32} {off : Int} (tgt : Nat) (hdg : decode cc pc = .ok (.if_icmp .gt off, 3)) (ht : (pc : Int) + off = (tgt : Int)) (kt : y < x → jj_R cc nL own nm sx fr lo nc sc (tgt, L, st, lay, S) cE) (kf : ¬ y < x → jj_R cc nL own nm sx fr lo nc sc (pc + 3, L, st, lay, S) cE) : jj_R cc nL own nm sx fr lo nc sc (pc, L, .int y :: .int x :: st, lay, S) cE := by
  intro p l e R s m args below meth cd D g A al0 n0 s0 Q hC hf hl hc hs hE
  have hkt := fun q => kt q p l e R s m args below meth cd D g A al0 n0 s0 Q hC hf hl hc hs hE
  have hkf := fun q => kf q p l e R s m args below meth cd D g A al0 n0 s0 Q hC hf hl hc hs hE
  intro al t H locs ls cells slots h1 h2 hR
  obtain ⟨hx, hb, hml, hown, hnm, hts, hN, hK, hA, hX⟩ := hC
  obtain ⟨e1, e2, e3, e4, e5, e6, e7, e8⟩ := hR
  exact lv_icmp_gt hx hb hdg ht (fun q => hkt q al t H locs ls cells slots h1 h2 ⟨e1, e2, e3, e4, e5, e6, jj_ws_tl (jj_ws_tl e7), e8⟩) (fun q => hkf q al t H locs ls cells slots h1 h2 ⟨e1, e2, e3, e4, e5, e6, jj_ws_tl (jj_ws_tl e7), e8⟩)
theorem js_if_le {x : Int32} {off : Int} (tgt : Nat) (hdg : decode cc pc = .ok (.ifCond .le off, 3)) (ht : (pc : Int) + off = (tgt : Int)) (kt : x ≤ 0 → jj_R cc nL own nm sx fr lo nc sc (tgt, L, st, lay, S) cE) (kf : ¬ x ≤ 0 → jj_R cc nL own nm sx fr lo nc sc (pc + 3, L, st, lay, S) cE) : jj_R cc nL own nm sx fr lo nc sc (pc, L, .int x :: st, lay, S) cE := by
  intro p l e R s m args below meth cd D g A al0 n0 s0 Q hC hf hl hc hs hE
  have hkt := fun q => kt q p l e R s m args below meth cd D g A al0 n0 s0 Q hC hf hl hc hs hE
  have hkf := fun q => kf q p l e R s m args below meth cd D g A al0 n0 s0 Q hC hf hl hc hs hE
  intro al t H locs ls cells slots h1 h2 hR
  obtain ⟨hx, hb, hml, hown, hnm, hts, hN, hK, hA, hX⟩ := hC
  obtain ⟨e1, e2, e3, e4, e5, e6, e7, e8⟩ := hR
  exact lv_if_le hx hb hdg ht (fun q => hkt q al t H locs ls cells slots h1 h2 ⟨e1, e2, e3, e4, e5, e6, jj_ws_tl e7, e8⟩) (fun q => hkf q al t H locs ls cells slots h1 h2 ⟨e1, e2, e3, e4, e5, e6, jj_ws_tl e7, e8⟩)
theorem js_icmp_le {x y : Int32} {off : Int} (tgt : Nat) (hdg : decode cc pc = .ok (.if_icmp .le off, 3)) (ht : (pc : Int) + off = (tgt : Int)) (kt : x ≤ y → jj_R cc nL own nm sx fr lo nc sc (tgt, L, st, lay, S) cE) (kf : ¬ x ≤ y → jj_R cc nL own nm sx fr lo nc sc (pc + 3, L, st, lay, S) cE) : jj_R cc nL own nm sx fr lo nc sc (pc, L, .int y :: .int x :: st, lay, S) cE := by
  intro p l e R s m args below meth cd D g A al0 n0 s0 Q hC hf hl hc hs hE
  have hkt := fun q => kt q p l e R s m args below meth cd D g A al0 n0 s0 Q hC hf hl hc hs hE
  have hkf := fun q => kf q p l e R s m args below meth cd D g A al0 n0 s0 Q hC hf hl hc hs hE
  intro al t H locs ls cells slots h1 h2 hR
  obtain ⟨hx, hb, hml, hown, hnm, hts, hN, hK, hA, hX⟩ := hC
  obtain ⟨e1, e2, e3, e4, e5, e6, e7, e8⟩ := hR
  exact lv_icmp_le hx hb hdg ht (fun q => hkt q al t H locs ls cells slots h1 h2 ⟨e1, e2, e3, e4, e5, e6, jj_ws_tl (jj_ws_tl e7), e8⟩) (fun q => hkf q al t H locs ls cells slots h1 h2 ⟨e1, e2, e3, e4, e5, e6, jj_ws_tl (jj_ws_tl e7), e8⟩)
theorem js_tabOut {dflt la ha2 : Int} {offs : Array Int} {len : Nat} {x : Int32} (tgt : Nat) (hdg : decode cc pc = .ok (.tableswitch dflt la ha2 offs, len)) (h : x.toInt < la ∨ ha2 < x.toInt) (ht : (pc : Int) + dflt = (tgt : Int)) (k : jj_R cc nL own nm sx fr lo nc sc (tgt, L, st, lay, S) cE) : jj_R cc nL own nm sx fr lo nc sc (pc, L, .int x :: st, lay, S) cE := by
  intro p l e R s m args below meth cd D g A al0 n0 s0 Q hC hf hl hc hs hE
  have hk := k p l e R s m args below meth cd D g A al0 n0 s0 Q hC hf hl hc hs hE
  intro al t H locs ls cells slots h1 h2 hR
  obtain ⟨hx, hb, hml, hown, hnm, hts, hN, hK, hA, hX⟩ := hC
  obtain ⟨e1, e2, e3, e4, e5, e6, e7, e8, e9⟩ := hR
  exact lv_tableOut hx hb hdg h ht (hk al t H locs ls cells slots h1 h2 ⟨e1, e2, e3, e4, e5, e6, jj_ws_tl e7, e8, e9⟩)
theorem js_tabIn {dflt la ha2 : Int} {offs : Array Int} {len : Nat} {x : Int32} {off : Int} (tgt : Nat) (hdg : decode cc pc = .ok (.tableswitch dflt la ha2 offs, len)) (ha : ¬ x.toInt < la) (hz : ¬ ha2 < x.toInt) (ho : offs[(x.toInt - la).toNat]? = some off) (ht : (pc : Int) + off = (tgt : Int)) (k : jj_R cc nL own nm sx fr lo nc sc (tgt, L, st, lay, S) cE) : jj_R cc nL own nm sx fr lo nc sc (pc, L, .int x :: st, lay, S) cE := by
  intro p l e R s m args below meth cd D g A al0 n0 s0 Q hC hf hl hc hs hE
  have hk := k p l e R s m args below meth cd D g A al0 n0 s0 Q hC hf hl hc hs hE
  intro al t H locs ls cells slots h1 h2 hR
  obtain ⟨hx, hb, hml, hown, hnm, hts, hN, hK, hA, hX⟩ := hC
  obtain ⟨e1, e2, e3, e4, e5, e6, e7, e8, e9⟩ := hR
  exact lv_tableIn hx hb hdg ha hz ho ht (hk al t H locs ls cells slots h1 h2 ⟨e1, e2, e3, e4, e5, e6, jj_ws_tl e7, e8, e9⟩)
theorem js_lookup {dflt : Int} {ps : Array (Int × Int)} {len : Nat} {x : Int32} {off : Int} (tgt : Nat) (hdg : decode cc pc = .ok (.lookupswitch dflt ps, len)) (hp : (ps.toList.zip (ps.toList.drop 1)).all (fun (a, next) => a.1 < next.1) = true) (ho : Op.lookupswitch.offset ps.toList dflt x.toInt = off) (ht : (pc : Int) + off = (tgt : Int)) (k : jj_R cc nL own nm sx fr lo nc sc (tgt, L, st, lay, S) cE) : jj_R cc nL own nm sx fr lo nc sc (pc, L, .int x :: st, lay, S) cE := by
  intro p l e R s m args below meth cd D g A al0 n0 s0 Q hC hf hl hc hs hE
  have hk := k p l e R s m args below meth cd D g A al0 n0 s0 Q hC hf hl hc hs hE
  intro al t H locs ls cells slots h1 h2 hR
  obtain ⟨hx, hb, hml, hown, hnm, hts, hN, hK, hA, hX⟩ := hC
  obtain ⟨e1, e2, e3, e4, e5, e6, e7, e8, e9⟩ := hR
  exact lv_lookup hx hb hdg hp ho ht (hk al t H locs ls cells slots h1 h2 ⟨e1, e2, e3, e4, e5, e6, jj_ws_tl e7, e8, e9⟩)
theorem jj_cell_o {g : jj_G} {al : Nat → Nat} {t : Nat → Int32} {ci n : Nat} {rs : List (Option (Option Nat))} (h : ci < 7) : jj_cell g al t (ci, n, rs) = .inr (ci, (List.range n).map (jj_fld al t rs)) := by
  unfold jj_cell
  rw [if_neg (by show ¬ ci = 20; omega), if_neg (by show ¬ ci = 21; omega), if_neg (by show ¬ ci = 22; omega)]
theorem jj_cell_i {g : jj_G} {al : Nat → Nat} {t : Nat → Int32} {n : Nat} {rs : List (Option (Option Nat))} : jj_cell g al t (20, n, rs) = .inl (g.1, n, .inl t) := rfl
theorem jj_cell_z {g : jj_G} {al : Nat → Nat} {t : Nat → Int32} {n : Nat} {rs : List (Option (Option Nat))} : jj_cell g al t (21, n, rs) = .inl (g.2.1, n, .inl t) := rfl
theorem jj_cell_q {g : jj_G} {al : Nat → Nat} {t : Nat → Int32} {n : Nat} {rs : List (Option (Option Nat))} : jj_cell g al t (22, n, rs) = .inl (g.2.2, n, .inr (.inr (.inr (.inr (jj_el al rs))))) := rfl
theorem jj_fat {al : Nat → Nat} {t : Nat → Int32} {rs : List (Option (Option Nat))} {n k : Nat} (hk : k < n) : ((List.range n).map (jj_fld al t rs))[k]? = some (jj_fld al t rs k) := by
  rw [List.getElem?_map, List.getElem?_range hk]
  rfl
theorem jj_fld_i {al : Nat → Nat} {t : Nat → Int32} {rs : List (Option (Option Nat))} {k : Nat} (h : rs[k]? = some none) : jj_fld al t rs k = .int (t k) := by unfold jj_fld; rw [h]
theorem jj_fld_r {al : Nat → Nat} {t : Nat → Int32} {rs : List (Option (Option Nat))} {k q : Nat} (h : rs[k]? = some (some (some q))) : jj_fld al t rs k = .ref (al (q + 1)) := by unfold jj_fld; rw [h]; rfl
/-- a field, by the class's place ci, the slot k -/
def jj_lkF (own : String) (ix : Nat) (T : u_T) (k : Nat) : Prop := Cond.fieldLink own ix (T k).1 (T k).2.1 (T k).2.2.1 ∈ jj_gW
def jj_lkN (own : String) (ix : Nat) (T : u_T) (k : Nat) (host : String) : Prop := Cond.fieldLinkNest own ix (T k).1 (T k).2.1 (T k).2.2.1 host ∈ jj_nW
theorem jj_fset {al : Nat → Nat} {f : Nat → Int32} {rs : List (Option (Option Nat))} {n z : Nat} {x : Int32} (h : rs[z]? = some none) : ((List.range n).map (jj_fld al f rs)).set z (.int x) = (List.range n).map (jj_fld al (upd f z x) rs) := by
  apply List.ext_getElem?
  intro q
  rw [List.getElem?_set, List.length_map, List.length_range]
  by_cases hq : q < n
  · rw [jj_fat hq, jj_fat hq]
    by_cases e : z = q
    · subst e
      rw [if_pos rfl, if_pos hq, jj_fld_i h]
      unfold upd
      rw [if_pos rfl]
    · rw [if_neg e]
      congr 1
      unfold jj_fld
      split <;> first | rfl | (unfold upd; rw [if_neg (fun w => e w.symm)])
  · have h1 : ∀ u : Nat → Value, ((List.range n).map u)[q]? = none := fun u => List.getElem?_eq_none (by rw [List.length_map, List.length_range]; omega)
    rw [h1, h1]
    by_cases e : z = q
    · rw [if_pos e, if_neg (by omega)]
    · rw [if_neg e]
theorem js_geti {ix a ci n : Nat} {rs : List (Option (Option Nat))} {C : String} {T : u_T} (z : Nat) (hlk : jj_lkF own ix T z) (ha : lay[a]? = some (ci, n, rs)) (hcl : vwCl[ci]? = some (C, T, n)) (hz : z < n) {x : Int32} (hr : rs[z]? = some none) (hx0 : S a z = some x) (hdg : decode cc pc = .ok (.getfield ix, 3)) (k : jj_R cc nL own nm sx fr lo nc sc (pc + 3, L, .int x :: st, lay, S) cE) : jj_R cc nL own nm sx fr lo nc sc (pc, L, .ref a :: st, lay, S) cE := by
  intro p l e R s m args below meth cd D g A al0 n0 s0 Q hC hf hl hc hs hE
  have hk := k p l e R s m args below meth cd D g A al0 n0 s0 Q hC hf hl hc hs hE
  intro al t H locs ls cells slots h1 h2 hR
  obtain ⟨hx, hb, hml, hown, hnm, hts, hN, hK, hA, hX⟩ := hC
  obtain ⟨e1, e2, e3, e4, e5, e6, e7, e8, e9⟩ := hR
  obtain ⟨c1, c2, c3, c4⟩ := jj_cls hcl
  have he := jj_W_at (g := g) (al := al) (t := t) ha
  rw [jj_cell_o c4] at he
  refine va_get (v := .int (t a z)) hx hb hts c1 hown hK e2 a he hcl _ hz (hts _ hlk) (fun _ h9 => h9) (by rw [jj_fat hz, jj_fld_i hr]) hdg ?_
  have h9 := e1 a _ x hx0
  rw [h9]
  exact hk al t H locs ls cells slots h1 h2 ⟨e1, e2, e3, e4, e5, e6, jj_ws_cons trivial (jj_ws_tl e7), e8, e9⟩
theorem js_getr {ix a ci n : Nat} {rs : List (Option (Option Nat))} {C : String} {T : u_T} (z : Nat) (hlk : jj_lkF own ix T z) (ha : lay[a]? = some (ci, n, rs)) (hcl : vwCl[ci]? = some (C, T, n)) (hz : z < n) {q : Nat} (hr : rs[z]? = some (some (some q))) (hdg : decode cc pc = .ok (.getfield ix, 3)) (k : jj_R cc nL own nm sx fr lo nc sc (pc + 3, L, .ref q :: st, lay, S) cE) : jj_R cc nL own nm sx fr lo nc sc (pc, L, .ref a :: st, lay, S) cE := by
  intro p l e R s m args below meth cd D g A al0 n0 s0 Q hC hf hl hc hs hE
  have hk := k p l e R s m args below meth cd D g A al0 n0 s0 Q hC hf hl hc hs hE
  intro al t H locs ls cells slots h1 h2 hR
  obtain ⟨hx, hb, hml, hown, hnm, hts, hN, hK, hA, hX⟩ := hC
  obtain ⟨e1, e2, e3, e4, e5, e6, e7, e8, e9⟩ := hR
  obtain ⟨c1, c2, c3, c4⟩ := jj_cls hcl
  have he := jj_W_at (g := g) (al := al) (t := t) ha
  rw [jj_cell_o c4] at he
  refine va_get (v := .ref (al (q + 1))) hx hb hts c1 hown hK e2 a he hcl _ hz (hts _ hlk) (fun _ h9 => h9) (by rw [jj_fat hz, jj_fld_r hr]) hdg ?_
  exact hk al t H locs ls cells slots h1 h2 ⟨e1, e2, e3, e4, e5, e6, jj_ws_cons (v := .ref q) (e8 _ (List.mem_of_getElem? ha) q (List.mem_of_getElem? hr)) (jj_ws_tl e7), e8, e9⟩
theorem js_put {ix a ci n : Nat} {rs : List (Option (Option Nat))} {C : String} {T : u_T} {x : Int32} (z : Nat) (hlk : jj_lkF own ix T z) (ha : lay[a]? = some (ci, n, rs)) (hcl : vwCl[ci]? = some (C, T, n)) (hz : z < n) (hr : rs[z]? = some none) (hfin : (T z).2.2.2 = false) (hd : parseFieldDescriptor (T z).2.2.1 = some .int) (hdg : decode cc pc = .ok (.putfield ix, 3)) (k : jj_R cc nL own nm sx fr lo nc sc (pc + 3, L, st, lay, jj_w S a z x) cE) : jj_R cc nL own nm sx fr lo nc sc (pc, L, .int x :: .ref a :: st, lay, S) cE := by
  intro p l e R s m args below meth cd D g A al0 n0 s0 Q hC hf hl hc hs hE
  have hk := k p l e R s m args below meth cd D g A al0 n0 s0 Q hC hf hl hc hs hE
  intro al t H locs ls cells slots h1 h2 hR
  obtain ⟨hx, hb, hml, hown, hnm, hts, hN, hK, hA, hX⟩ := hC
  obtain ⟨e1, e2, e3, e4, e5, e6, e7, e8, e9⟩ := hR
  obtain ⟨c1, c2, c3, c4⟩ := jj_cls hcl
  have he := jj_W_at (g := g) (al := al) (t := t) ha
  rw [jj_cell_o c4] at he
  have hset : (jj_W g al t lay).set a (al (a + 1), .inr (ci, ((List.range n).map (jj_fld al (t a) rs)).set z (.int x))) = jj_W g al (jj_u2 t a z x) lay := by
    have h9 := jj_W_set (g := g) (al := al) (t := t) (t' := jj_u2 t a z x) (c' := (ci, n, rs)) (List.getElem?_eq_some_iff.mp ha).1 (fun q hq => jj_u2_ne t q hq)
    rw [jj_set_same ha, jj_cell_o c4, jj_u2_at, ← jj_fset hr] at h9
    exact h9
  refine va_put hx hb hts c1 (jj_ty ci) c2 c3 hown hK e2 e3 e4 a he hcl z hz (hts _ hlk) (fun _ h9 => h9) hfin hd rfl rfl (by rw [List.length_map, List.length_range]; exact hz) hdg (fun H1 locs1 hP hD hS => ?_)
  have hP : va_P D vwCl (jj_W g al (jj_u2 t a z x) lay) H1 := by rw [← hset]; exact hP
  have hD : va_D A (jj_W g al (jj_u2 t a z x) lay) := by rw [← hset]; exact hD
  exact hk al (jj_u2 t a z x) H1 locs1 ls cells slots h1 h2 ⟨jj_ext_w e1, hP, hD, hS, e5, e6, jj_ws_tl (jj_ws_tl e7), e8, e9⟩
theorem js_getNi {ix a ci n : Nat} {rs : List (Option (Option Nat))} {C : String} {T : u_T} (z : Nat) {host : String} (hlk : jj_lkN own ix T z host) (ha : lay[a]? = some (ci, n, rs)) (hcl : vwCl[ci]? = some (C, T, n)) (hz : z < n) {x : Int32} (hr : rs[z]? = some none) (hx0 : S a z = some x) (hdg : decode cc pc = .ok (.getfield ix, 3)) (k : jj_R cc nL own nm sx fr lo nc sc (pc + 3, L, .int x :: st, lay, S) cE) : jj_R cc nL own nm sx fr lo nc sc (pc, L, .ref a :: st, lay, S) cE := by
  intro p l e R s m args below meth cd D g A al0 n0 s0 Q hC hf hl hc hs hE
  have hk := k p l e R s m args below meth cd D g A al0 n0 s0 Q hC hf hl hc hs hE
  intro al t H locs ls cells slots h1 h2 hR
  obtain ⟨hx, hb, hml, hown, hnm, hts, hN, hK, hA, hX⟩ := hC
  obtain ⟨e1, e2, e3, e4, e5, e6, e7, e8, e9⟩ := hR
  obtain ⟨c1, c2, c3, c4⟩ := jj_cls hcl
  have he := jj_W_at (g := g) (al := al) (t := t) ha
  rw [jj_cell_o c4] at he
  refine va_getN (v := .int (t a z)) hx hb hts c1 hown hK e2 a he hcl _ hz (va_Nw.use rfl (hN _ hlk)) (fun _ h9 => h9) (by rw [jj_fat hz, jj_fld_i hr]) hdg ?_
  have h9 := e1 a _ x hx0
  rw [h9]
  exact hk al t H locs ls cells slots h1 h2 ⟨e1, e2, e3, e4, e5, e6, jj_ws_cons trivial (jj_ws_tl e7), e8, e9⟩
theorem js_getNr {ix a ci n : Nat} {rs : List (Option (Option Nat))} {C : String} {T : u_T} (z : Nat) {host : String} (hlk : jj_lkN own ix T z host) (ha : lay[a]? = some (ci, n, rs)) (hcl : vwCl[ci]? = some (C, T, n)) (hz : z < n) {q : Nat} (hr : rs[z]? = some (some (some q))) (hdg : decode cc pc = .ok (.getfield ix, 3)) (k : jj_R cc nL own nm sx fr lo nc sc (pc + 3, L, .ref q :: st, lay, S) cE) : jj_R cc nL own nm sx fr lo nc sc (pc, L, .ref a :: st, lay, S) cE := by
  intro p l e R s m args below meth cd D g A al0 n0 s0 Q hC hf hl hc hs hE
  have hk := k p l e R s m args below meth cd D g A al0 n0 s0 Q hC hf hl hc hs hE
  intro al t H locs ls cells slots h1 h2 hR
  obtain ⟨hx, hb, hml, hown, hnm, hts, hN, hK, hA, hX⟩ := hC
  obtain ⟨e1, e2, e3, e4, e5, e6, e7, e8, e9⟩ := hR
  obtain ⟨c1, c2, c3, c4⟩ := jj_cls hcl
  have he := jj_W_at (g := g) (al := al) (t := t) ha
  rw [jj_cell_o c4] at he
  refine va_getN (v := .ref (al (q + 1))) hx hb hts c1 hown hK e2 a he hcl _ hz (va_Nw.use rfl (hN _ hlk)) (fun _ h9 => h9) (by rw [jj_fat hz, jj_fld_r hr]) hdg ?_
  exact hk al t H locs ls cells slots h1 h2 ⟨e1, e2, e3, e4, e5, e6, jj_ws_cons (v := .ref q) (e8 _ (List.mem_of_getElem? ha) q (List.mem_of_getElem? hr)) (jj_ws_tl e7), e8, e9⟩
theorem js_putN {ix a ci n : Nat} {rs : List (Option (Option Nat))} {C : String} {T : u_T} {x : Int32} (z : Nat) {host : String} (hlk : jj_lkN own ix T z host) (ha : lay[a]? = some (ci, n, rs)) (hcl : vwCl[ci]? = some (C, T, n)) (hz : z < n) (hr : rs[z]? = some none) (hfin : (T z).2.2.2 = false) (hd : parseFieldDescriptor (T z).2.2.1 = some .int) (hdg : decode cc pc = .ok (.putfield ix, 3)) (k : jj_R cc nL own nm sx fr lo nc sc (pc + 3, L, st, lay, jj_w S a z x) cE) : jj_R cc nL own nm sx fr lo nc sc (pc, L, .int x :: .ref a :: st, lay, S) cE := by
  intro p l e R s m args below meth cd D g A al0 n0 s0 Q hC hf hl hc hs hE
  have hk := k p l e R s m args below meth cd D g A al0 n0 s0 Q hC hf hl hc hs hE
  intro al t H locs ls cells slots h1 h2 hR
  obtain ⟨hx, hb, hml, hown, hnm, hts, hN, hK, hA, hX⟩ := hC
  obtain ⟨e1, e2, e3, e4, e5, e6, e7, e8, e9⟩ := hR
  obtain ⟨c1, c2, c3, c4⟩ := jj_cls hcl
  have he := jj_W_at (g := g) (al := al) (t := t) ha
  rw [jj_cell_o c4] at he
  have hset : (jj_W g al t lay).set a (al (a + 1), .inr (ci, ((List.range n).map (jj_fld al (t a) rs)).set z (.int x))) = jj_W g al (jj_u2 t a z x) lay := by
    have h9 := jj_W_set (g := g) (al := al) (t := t) (t' := jj_u2 t a z x) (c' := (ci, n, rs)) (List.getElem?_eq_some_iff.mp ha).1 (fun q hq => jj_u2_ne t q hq)
    rw [jj_set_same ha, jj_cell_o c4, jj_u2_at, ← jj_fset hr] at h9
    exact h9
  refine va_putN hx hb hts c1 (jj_ty ci) c2 c3 hown hK e2 e3 e4 a he hcl z hz (va_Nw.use rfl (hN _ hlk)) (fun _ h9 => h9) hfin hd rfl rfl (by rw [List.length_map, List.length_range]; exact hz) hdg (fun H1 locs1 hP hD hS => ?_)
  have hP : va_P D vwCl (jj_W g al (jj_u2 t a z x) lay) H1 := by rw [← hset]; exact hP
  have hD : va_D A (jj_W g al (jj_u2 t a z x) lay) := by rw [← hset]; exact hD
  exact hk al (jj_u2 t a z x) H1 locs1 ls cells slots h1 h2 ⟨jj_ext_w e1, hP, hD, hS, e5, e6, jj_ws_tl (jj_ws_tl e7), e8, e9⟩
theorem jj_nI_in {i : Int32} {j n : Nat} (h : i = nI j) (hj : j < n) (hn : n < 2 ^ 31) : vp_in i n ∧ i.toNatClampNeg = j := by
  subst h
  exact ⟨vp_in_nI hj hn, nI_clamp (by omega)⟩
theorem js_iald {a n : Nat} {rs : List (Option (Option Nat))} {i x : Int32} (j : Nat) (hi : i = nI j) (ha : lay[a]? = some (20, n, rs)) (hj : j < n) (hn : n < 2 ^ 31) (hx0 : S a j = some x) (hdg : decode cc pc = .ok (.iaload, 1)) (k : jj_R cc nL own nm sx fr lo nc sc (pc + 1, L, .int x :: st, lay, S) cE) : jj_R cc nL own nm sx fr lo nc sc (pc, L, .int i :: .ref a :: st, lay, S) cE := by
  intro p l e R s m args below meth cd D g A al0 n0 s0 Q hC hf hl hc hs hE
  have hk := k p l e R s m args below meth cd D g A al0 n0 s0 Q hC hf hl hc hs hE
  intro al t H locs ls cells slots h1 h2 hR
  obtain ⟨hx, hb, hml, hown, hnm, hts, hN, hK, hA, hX⟩ := hC
  obtain ⟨e1, e2, e3, e4, e5, e6, e7, e8, e9⟩ := hR
  obtain ⟨i1, i2⟩ := jj_nI_in hi hj hn
  have he := jj_W_at (g := g) (al := al) (t := t) ha
  rw [jj_cell_i] at he
  refine va_iald hx hb hK e2 a 0 he rfl i1 hdg ?_
  rw [i2, e1 a _ x hx0]
  exact hk al t H locs ls cells slots h1 h2 ⟨e1, e2, e3, e4, e5, e6, jj_ws_cons trivial (jj_ws_tl (jj_ws_tl e7)), e8, e9⟩
theorem js_zald {a n : Nat} {rs : List (Option (Option Nat))} {i x : Int32} (j : Nat) (hi : i = nI j) (ha : lay[a]? = some (21, n, rs)) (hj : j < n) (hn : n < 2 ^ 31) (hx0 : S a j = some x) (hdg : decode cc pc = .ok (.baload, 1)) (k : jj_R cc nL own nm sx fr lo nc sc (pc + 1, L, .int x :: st, lay, S) cE) : jj_R cc nL own nm sx fr lo nc sc (pc, L, .int i :: .ref a :: st, lay, S) cE := by
  intro p l e R s m args below meth cd D g A al0 n0 s0 Q hC hf hl hc hs hE
  have hk := k p l e R s m args below meth cd D g A al0 n0 s0 Q hC hf hl hc hs hE
  intro al t H locs ls cells slots h1 h2 hR
  obtain ⟨hx, hb, hml, hown, hnm, hts, hN, hK, hA, hX⟩ := hC
  obtain ⟨e1, e2, e3, e4, e5, e6, e7, e8, e9⟩ := hR
  obtain ⟨i1, i2⟩ := jj_nI_in hi hj hn
  have he := jj_W_at (g := g) (al := al) (t := t) ha
  rw [jj_cell_z] at he
  refine va_zald hx hb hK e2 a 1 he rfl i1 hdg ?_
  rw [i2, e1 a _ x hx0]
  exact hk al t H locs ls cells slots h1 h2 ⟨e1, e2, e3, e4, e5, e6, jj_ws_cons trivial (jj_ws_tl (jj_ws_tl e7)), e8, e9⟩
theorem js_iast {a n : Nat} {rs : List (Option (Option Nat))} {i x : Int32} (j : Nat) (hi : i = nI j) (ha : lay[a]? = some (20, n, rs)) (hj : j < n) (hn : n < 2 ^ 31) (hdg : decode cc pc = .ok (.iastore, 1)) (k : jj_R cc nL own nm sx fr lo nc sc (pc + 1, L, st, lay, jj_w S a j x) cE) : jj_R cc nL own nm sx fr lo nc sc (pc, L, .int x :: .int i :: .ref a :: st, lay, S) cE := by
  intro p l e R s m args below meth cd D g A al0 n0 s0 Q hC hf hl hc hs hE
  have hk := k p l e R s m args below meth cd D g A al0 n0 s0 Q hC hf hl hc hs hE
  intro al t H locs ls cells slots h1 h2 hR
  obtain ⟨hx, hb, hml, hown, hnm, hts, hN, hK, hA, hX⟩ := hC
  obtain ⟨e1, e2, e3, e4, e5, e6, e7, e8, e9⟩ := hR
  obtain ⟨i1, i2⟩ := jj_nI_in hi hj hn
  have he := jj_W_at (g := g) (al := al) (t := t) ha
  rw [jj_cell_i] at he
  have hset : (jj_W g al t lay).set a (al (a + 1), .inl (g.1, n, .inl (upd (t a) j x))) = jj_W g al (jj_u2 t a j x) lay := by
    have h9 := jj_W_set (g := g) (al := al) (t := t) (t' := jj_u2 t a j x) (c' := (20, n, rs)) (List.getElem?_eq_some_iff.mp ha).1 (fun q hq => jj_u2_ne t q hq)
    rw [jj_set_same ha, jj_cell_i, jj_u2_at] at h9
    exact h9
  refine va_iast hx hb hK e2 e3 e4 a 0 he rfl i1 hdg (fun H1 locs1 hP hD hS => ?_)
  rw [i2, hset] at hP hD
  exact hk al (jj_u2 t a j x) H1 locs1 ls cells slots h1 h2 ⟨jj_ext_w e1, hP, hD, hS, e5, e6, jj_ws_tl (jj_ws_tl (jj_ws_tl e7)), e8, e9⟩
theorem js_zast {a n : Nat} {rs : List (Option (Option Nat))} {i x : Int32} (j : Nat) (hi : i = nI j) (ha : lay[a]? = some (21, n, rs)) (hj : j < n) (hn : n < 2 ^ 31) (hnar : vp_nar .boolean x = x) (hdg : decode cc pc = .ok (.bastore, 1)) (k : jj_R cc nL own nm sx fr lo nc sc (pc + 1, L, st, lay, jj_w S a j x) cE) : jj_R cc nL own nm sx fr lo nc sc (pc, L, .int x :: .int i :: .ref a :: st, lay, S) cE := by
  intro p l e R s m args below meth cd D g A al0 n0 s0 Q hC hf hl hc hs hE
  have hk := k p l e R s m args below meth cd D g A al0 n0 s0 Q hC hf hl hc hs hE
  intro al t H locs ls cells slots h1 h2 hR
  obtain ⟨hx, hb, hml, hown, hnm, hts, hN, hK, hA, hX⟩ := hC
  obtain ⟨e1, e2, e3, e4, e5, e6, e7, e8, e9⟩ := hR
  obtain ⟨i1, i2⟩ := jj_nI_in hi hj hn
  have he := jj_W_at (g := g) (al := al) (t := t) ha
  rw [jj_cell_z] at he
  have hset : (jj_W g al t lay).set a (al (a + 1), .inl (g.2.1, n, .inl (upd (t a) j x))) = jj_W g al (jj_u2 t a j x) lay := by
    have h9 := jj_W_set (g := g) (al := al) (t := t) (t' := jj_u2 t a j x) (c' := (21, n, rs)) (List.getElem?_eq_some_iff.mp ha).1 (fun q hq => jj_u2_ne t q hq)
    rw [jj_set_same ha, jj_cell_z, jj_u2_at] at h9
    exact h9
  refine va_zast hx hb hK e2 e3 e4 a 1 he rfl i1 hdg (fun H1 locs1 hP hD hS => ?_)
  rw [i2, hnar, hset] at hP hD
  exact hk al (jj_u2 t a j x) H1 locs1 ls cells slots h1 h2 ⟨jj_ext_w e1, hP, hD, hS, e5, e6, jj_ws_tl (jj_ws_tl (jj_ws_tl e7)), e8, e9⟩
theorem js_aald {a n q : Nat} {rs : List (Option (Option Nat))} {i : Int32} (j : Nat) (hi : i = nI j) (ha : lay[a]? = some (22, n, rs)) (hj : j < n) (hn : n < 2 ^ 31) (hr : rs[j]? = some (some (some q))) (hdg : decode cc pc = .ok (.aaload, 1)) (k : jj_R cc nL own nm sx fr lo nc sc (pc + 1, L, .ref q :: st, lay, S) cE) : jj_R cc nL own nm sx fr lo nc sc (pc, L, .int i :: .ref a :: st, lay, S) cE := by
  intro p l e R s m args below meth cd D g A al0 n0 s0 Q hC hf hl hc hs hE
  have hk := k p l e R s m args below meth cd D g A al0 n0 s0 Q hC hf hl hc hs hE
  intro al t H locs ls cells slots h1 h2 hR
  obtain ⟨hx, hb, hml, hown, hnm, hts, hN, hK, hA, hX⟩ := hC
  obtain ⟨e1, e2, e3, e4, e5, e6, e7, e8, e9⟩ := hR
  obtain ⟨i1, i2⟩ := jj_nI_in hi hj hn
  have he := jj_W_at (g := g) (al := al) (t := t) ha
  rw [jj_cell_q] at he
  have hel : jj_el al rs j = some (al (q + 1)) := by unfold jj_el; rw [hr]; rfl
  refine W.aald (v := .ref (al (q + 1))) (ty := .array .int) hx hb (e2 a _ he) ((hK.2 2 _ rfl).1 n (fun j => va_rf (jj_el al rs j))) rfl (fun z => by cases z) (by show ¬ (i < 0 ∨ (arrV _ _ _).slots.size ≤ _); rw [arrV_size]; exact i1) (by show (arrV _ _ _).slots[_]? = _; rw [i2, arrV_read _ _ hj, hel]; rfl) rfl rfl hdg ?_
  exact hk al t H locs ls cells slots h1 h2 ⟨e1, e2, e3, e4, e5, e6, jj_ws_cons (v := .ref q) (e8 _ (List.mem_of_getElem? ha) q (List.mem_of_getElem? hr)) (jj_ws_tl (jj_ws_tl e7)), e8, e9⟩
theorem js_alen {a n kd : Nat} {rs : List (Option (Option Nat))} {v : Int32} (ha : lay[a]? = some (kd, n, rs)) (hkd : kd = 20 ∨ kd = 21 ∨ kd = 22) (hv : nI n = v) (hdg : decode cc pc = .ok (.arraylength, 1)) (k : jj_R cc nL own nm sx fr lo nc sc (pc + 1, L, .int v :: st, lay, S) cE) : jj_R cc nL own nm sx fr lo nc sc (pc, L, .ref a :: st, lay, S) cE := by
  intro p l e R s m args below meth cd D g A al0 n0 s0 Q hC hf hl hc hs hE
  have hk := k p l e R s m args below meth cd D g A al0 n0 s0 Q hC hf hl hc hs hE
  intro al t H locs ls cells slots h1 h2 hR
  obtain ⟨hx, hb, hml, hown, hnm, hts, hN, hK, hA, hX⟩ := hC
  obtain ⟨e1, e2, e3, e4, e5, e6, e7, e8, e9⟩ := hR
  have he := jj_W_at (g := g) (al := al) (t := t) ha
  have hk2 := hk al t H locs ls cells slots h1 h2 ⟨e1, e2, e3, e4, e5, e6, jj_ws_cons trivial (jj_ws_tl e7), e8, e9⟩
  rcases hkd with rfl | rfl | rfl
  · exact va_alen hx hb hK e2 a 0 he rfl hv hdg hk2
  · exact va_alen hx hb hK e2 a 1 he rfl hv hdg hk2
  · exact va_alen hx hb hK e2 a 2 he rfl hv hdg hk2
theorem js_sald {x : Nat} {i : Int32} {Ls : Nat} {xs : Nat → Int32} (hsx : sx = some (Ls, xs)) (hin : vp_in i Ls) (hdg : decode cc pc = .ok (.iaload, 1)) (k : jj_R cc nL own nm sx fr lo nc sc (pc + 1, L, .int (xs i.toNatClampNeg) :: st, lay, S) cE) : jj_R cc nL own nm sx fr lo nc sc (pc, L, .int i :: .retAddr x :: st, lay, S) cE := by
  intro p l e R s m args below meth cd D g A al0 n0 s0 Q hC hf hl hc hs hE
  have hk := k p l e R s m args below meth cd D g A al0 n0 s0 Q hC hf hl hc hs hE
  intro al t H locs ls cells slots h1 h2 hR
  obtain ⟨hx, hb, hml, hown, hnm, hts, hN, hK, hA, hX⟩ := hC
  obtain ⟨e1, e2, e3, e4, e5, e6, e7, e8, e9⟩ := hR
  obtain ⟨x1, x2, x3⟩ := hX _ hsx
  have e0 : al 0 = al0 0 := e9.2.1
  rw [← e0] at x1 x2 x3
  exact va_sld hx hb x1 x2 x3 e4 hin hdg (hk al t H locs ls cells slots h1 h2 ⟨e1, e2, e3, e4, e5, e6, jj_ws_cons trivial (jj_ws_tl (jj_ws_tl e7)), e8, e9⟩)
theorem js_slen {x : Nat} {Ls : Nat} {xs : Nat → Int32} (hsx : sx = some (Ls, xs)) (hdg : decode cc pc = .ok (.arraylength, 1)) (k : jj_R cc nL own nm sx fr lo nc sc (pc + 1, L, .int (nI Ls) :: st, lay, S) cE) : jj_R cc nL own nm sx fr lo nc sc (pc, L, .retAddr x :: st, lay, S) cE := by
  intro p l e R s m args below meth cd D g A al0 n0 s0 Q hC hf hl hc hs hE
  have hk := k p l e R s m args below meth cd D g A al0 n0 s0 Q hC hf hl hc hs hE
  intro al t H locs ls cells slots h1 h2 hR
  obtain ⟨hx, hb, hml, hown, hnm, hts, hN, hK, hA, hX⟩ := hC
  obtain ⟨e1, e2, e3, e4, e5, e6, e7, e8, e9⟩ := hR
  obtain ⟨x1, x2, x3⟩ := hX _ hsx
  have e0 : al 0 = al0 0 := e9.2.1
  rw [← e0] at x1 x2 x3
  exact va_slen hx hb x1 x2 x3 e4 hdg (hk al t H locs ls cells slots h1 h2 ⟨e1, e2, e3, e4, e5, e6, jj_ws_cons trivial (jj_ws_tl e7), e8, e9⟩)
end JR

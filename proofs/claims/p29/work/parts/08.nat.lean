/-! The same rules over numbers nI n, and forgetting. -/
theorem jj_inc (i : Nat) : nI i + Int32.ofInt 1 = nI (i + 1) := nI_1 i
theorem jj_dec (i : Nat) : nI (i + 1) + Int32.ofInt (-1) = nI i := pk_m1 i
def jj_le : List (Option Value) → List (Option Value) → Prop
  | [], [] => True
  | none :: r', _ :: r => jj_le r' r
  | some v :: r', some w :: r => v = w ∧ jj_le r' r
  | _, _ => False
theorem jj_le_at : ∀ {L' L : List (Option Value)}, jj_le L' L → L'.length = L.length ∧ ∀ (i : Nat) (v : Value), L'[i]? = some (some v) → L[i]? = some (some v)
  | [], [], _ => ⟨rfl, fun i v h => by simp at h⟩
  | [], _ :: _, h => absurd h (by simp [jj_le])
  | none :: r', [], h => absurd h (by simp [jj_le])
  | some v :: r', [], h => absurd h (by simp [jj_le])
  | none :: r', b :: r, h => by
    have h : jj_le r' r := by cases b <;> exact h
    obtain ⟨q1, q2⟩ := jj_le_at h
    refine ⟨by rw [List.length_cons, List.length_cons, q1], fun i v hv => ?_⟩
    cases i with
    | zero => simp at hv
    | succ i => simpa using q2 i v (by simpa using hv)
  | some v :: r', none :: r, h => absurd h (by simp [jj_le])
  | some v :: r', some w :: r, h => by
    obtain ⟨h0, h⟩ := h
    obtain ⟨q1, q2⟩ := jj_le_at h
    refine ⟨by rw [List.length_cons, List.length_cons, q1], fun i u hu => ?_⟩
    cases i with
    | zero => rw [h0] at hu; exact hu
    | succ i => simpa using q2 i u (by simpa using hu)
section JN
variable {cc : ByteArray} {nL : Nat} {own nm : String} {sx : jj_X} {fr lo nc sc : Nat} {cE : jj_C} {pc : Nat} {L : List (Option Value)} {st : List Value} {lay : jj_Lay} {S : jj_Mem}
/-- less is known of the locals -/
theorem js_fgL {L' : List (Option Value)} (h : jj_le L' L) (k : jj_R cc nL own nm sx fr lo nc sc (pc, L', st, lay, S) cE) : jj_R cc nL own nm sx fr lo nc sc (pc, L, st, lay, S) cE := by
  intro p l e R s m args below meth cd D g A al0 n0 s0 Q hC hf hl hc hs hE
  have hk := k p l e R s m args below meth cd D g A al0 n0 s0 Q hC hf hl hc hs hE
  intro al t H locs ls cells slots h1 h2 hR
  obtain ⟨e1, e2, e3, e4, e5, e6, e7, e8, e9, e10⟩ := hR
  obtain ⟨q1, q2⟩ := jj_le_at h
  refine hk al t H locs ls cells slots h1 h2 ⟨e1, e2, e3, e4, jj_lsub e5 (fun q hq => ?_), fun v hv => ?_, e7, e8, q1.trans e9, e10⟩
  · obtain ⟨j, v, hj, rfl⟩ := jj_asg_mem.mp hq
    exact jj_asg_mem.mpr ⟨j, v, q2 j v hj, rfl⟩
  · obtain ⟨j, hj⟩ := List.getElem?_of_mem hv
    exact e6 v (List.mem_of_getElem? (q2 j v hj))
/-- less is known of the memory -/
theorem js_fgS {S' : jj_Mem} (h : ∀ p j x, S' p j = some x → S p j = some x) (k : jj_R cc nL own nm sx fr lo nc sc (pc, L, st, lay, S') cE) : jj_R cc nL own nm sx fr lo nc sc (pc, L, st, lay, S) cE := by
  intro p l e R s m args below meth cd D g A al0 n0 s0 Q hC hf hl hc hs hE
  have hk := k p l e R s m args below meth cd D g A al0 n0 s0 Q hC hf hl hc hs hE
  intro al t H locs ls cells slots h1 h2 hR
  obtain ⟨e1, e2⟩ := hR
  exact hk al t H locs ls cells slots h1 h2 ⟨fun p9 j x hx => e1 p9 j x (h p9 j x hx), e2⟩
/-- from here on by cases -/
theorem js_ex {P : Prop} (h : P → jj_R cc nL own nm sx fr lo nc sc (pc, L, st, lay, S) cE) (hp : P) : jj_R cc nL own nm sx fr lo nc sc (pc, L, st, lay, S) cE := h hp
theorem jn_if_eq {a : Nat} {off : Int} (tgt : Nat) (ha : a < 2 ^ 31) (hdg : decode cc pc = .ok (.ifCond .eq off, 3)) (ht : (pc : Int) + off = (tgt : Int)) (kt : a = 0 → jj_R cc nL own nm sx fr lo nc sc (tgt, L, st, lay, S) cE) (kf : a ≠ 0 → jj_R cc nL own nm sx fr lo nc sc (pc + 3, L, st, lay, S) cE) : jj_R cc nL own nm sx fr lo nc sc (pc, L, .int (nI a) :: st, lay, S) cE :=
  js_if_eq tgt hdg ht (fun q => kt ((nI_eq (a := a) (b := 0) ha (by decide)).mp q)) (fun q => kf (fun w => q ((nI_eq (a := a) (b := 0) ha (by decide)).mpr w)))
theorem jn_icmp_eq {a b : Nat} {off : Int} (tgt : Nat) (ha : a < 2 ^ 31) (hb : b < 2 ^ 31) (hdg : decode cc pc = .ok (.if_icmp .eq off, 3)) (ht : (pc : Int) + off = (tgt : Int)) (kt : a = b → jj_R cc nL own nm sx fr lo nc sc (tgt, L, st, lay, S) cE) (kf : a ≠ b → jj_R cc nL own nm sx fr lo nc sc (pc + 3, L, st, lay, S) cE) : jj_R cc nL own nm sx fr lo nc sc (pc, L, .int (nI b) :: .int (nI a) :: st, lay, S) cE :=
  js_icmp_eq tgt hdg ht (fun q => kt ((nI_eq (a := a) (b := b) ha hb).mp q)) (fun q => kf (fun w => q ((nI_eq (a := a) (b := b) ha hb).mpr w)))
theorem jn_if_ne {a : Nat} {off : Int} (tgt : Nat) (ha : a < 2 ^ 31) (hdg : decode cc pc = .ok (.ifCond .ne off, 3)) (ht : (pc : Int) + off = (tgt : Int)) (kt : a ≠ 0 → jj_R cc nL own nm sx fr lo nc sc (tgt, L, st, lay, S) cE) (kf : a = 0 → jj_R cc nL own nm sx fr lo nc sc (pc + 3, L, st, lay, S) cE) : jj_R cc nL own nm sx fr lo nc sc (pc, L, .int (nI a) :: st, lay, S) cE :=
  js_if_ne tgt hdg ht (fun q => kt (fun w => q ((nI_eq (a := a) (b := 0) ha (by decide)).mpr w))) (fun q => kf ((nI_eq (a := a) (b := 0) ha (by decide)).mp q))
theorem jn_icmp_ne {a b : Nat} {off : Int} (tgt : Nat) (ha : a < 2 ^ 31) (hb : b < 2 ^ 31) (hdg : decode cc pc = .ok (.if_icmp .ne off, 3)) (ht : (pc : Int) + off = (tgt : Int)) (kt : a ≠ b → jj_R cc nL own nm sx fr lo nc sc (tgt, L, st, lay, S) cE) (kf : a = b → jj_R cc nL own nm sx fr lo nc sc (pc + 3, L, st, lay, S) cE) : jj_R cc nL own nm sx fr lo nc sc (pc, L, .int (nI b) :: .int (nI a) :: st, lay, S) cE :=
  js_icmp_ne tgt hdg ht (fun q => kt (fun w => q ((nI_eq (a := a) (b := b) ha hb).mpr w))) (fun q => kf ((nI_eq (a := a) (b := b) ha hb).mp q))
theorem jn_if_lt {a : Nat} {off : Int} (tgt : Nat) (ha : a < 2 ^ 31) (hdg : decode cc pc = .ok (.ifCond .lt off, 3)) (ht : (pc : Int) + off = (tgt : Int)) (kt : a < 0 → jj_R cc nL own nm sx fr lo nc sc (tgt, L, st, lay, S) cE) (kf : 0 ≤ a → jj_R cc nL own nm sx fr lo nc sc (pc + 3, L, st, lay, S) cE) : jj_R cc nL own nm sx fr lo nc sc (pc, L, .int (nI a) :: st, lay, S) cE :=
  js_if_lt tgt hdg ht (fun q => kt ((nI_ltI (a := a) (b := 0) ha (by decide)).mp q)) (fun q => kf (Nat.le_of_not_lt (fun z => q ((nI_ltI (a := a) (b := 0) ha (by decide)).mpr z))))
theorem jn_icmp_lt {a b : Nat} {off : Int} (tgt : Nat) (ha : a < 2 ^ 31) (hb : b < 2 ^ 31) (hdg : decode cc pc = .ok (.if_icmp .lt off, 3)) (ht : (pc : Int) + off = (tgt : Int)) (kt : a < b → jj_R cc nL own nm sx fr lo nc sc (tgt, L, st, lay, S) cE) (kf : b ≤ a → jj_R cc nL own nm sx fr lo nc sc (pc + 3, L, st, lay, S) cE) : jj_R cc nL own nm sx fr lo nc sc (pc, L, .int (nI b) :: .int (nI a) :: st, lay, S) cE :=
  js_icmp_lt tgt hdg ht (fun q => kt ((nI_ltI (a := a) (b := b) ha hb).mp q)) (fun q => kf (Nat.le_of_not_lt (fun z => q ((nI_ltI (a := a) (b := b) ha hb).mpr z))))
theorem jn_if_ge {a : Nat} {off : Int} (tgt : Nat) (ha : a < 2 ^ 31) (hdg : decode cc pc = .ok (.ifCond .ge off, 3)) (ht : (pc : Int) + off = (tgt : Int)) (kt : 0 ≤ a → jj_R cc nL own nm sx fr lo nc sc (tgt, L, st, lay, S) cE) (kf : a < 0 → jj_R cc nL own nm sx fr lo nc sc (pc + 3, L, st, lay, S) cE) : jj_R cc nL own nm sx fr lo nc sc (pc, L, .int (nI a) :: st, lay, S) cE :=
  js_if_ge tgt hdg ht (fun q => kt ((nI_leI (a := 0) (b := a) (by decide) ha).mp q)) (fun q => kf (Nat.lt_of_not_le (fun z => q ((nI_leI (a := 0) (b := a) (by decide) ha).mpr z))))
theorem jn_icmp_ge {a b : Nat} {off : Int} (tgt : Nat) (ha : a < 2 ^ 31) (hb : b < 2 ^ 31) (hdg : decode cc pc = .ok (.if_icmp .ge off, 3)) (ht : (pc : Int) + off = (tgt : Int)) (kt : b ≤ a → jj_R cc nL own nm sx fr lo nc sc (tgt, L, st, lay, S) cE) (kf : a < b → jj_R cc nL own nm sx fr lo nc sc (pc + 3, L, st, lay, S) cE) : jj_R cc nL own nm sx fr lo nc sc (pc, L, .int (nI b) :: .int (nI a) :: st, lay, S) cE :=
  js_icmp_ge tgt hdg ht (fun q => kt ((nI_leI (a := b) (b := a) hb ha).mp q)) (fun q => kf (Nat.lt_of_not_le (fun z => q ((nI_leI (a := b) (b := a) hb ha).mpr z))))
theorem jn_if_gt {a : Nat} {off : Int} (tgt : Nat) (ha : a < 2 ^ 31) (hdg : decode cc pc = .ok (.ifCond .gt off, 3)) (ht : (pc : Int) + off = (tgt : Int)) (kt : 0 < a → jj_R cc nL own nm sx fr lo nc sc (tgt, L, st, lay, S) cE) (kf : a ≤ 0 → jj_R cc nL own nm sx fr lo nc sc (pc + 3, L, st, lay, S) cE) : jj_R cc nL own nm sx fr lo nc sc (pc, L, .int (nI a) :: st, lay, S) cE :=
  js_if_gt tgt hdg ht (fun q => kt ((nI_ltI (a := 0) (b := a) (by decide) ha).mp q)) (fun q => kf (Nat.le_of_not_lt (fun z => q ((nI_ltI (a := 0) (b := a) (by decide) ha).mpr z))))
theorem jn_icmp_gt {a b : Nat} {off : Int} (tgt : Nat) (ha : a < 2 ^ 31) (hb : b < 2 ^ 31) (hdg : decode cc pc = .ok (.if_icmp .gt off, 3)) (ht : (pc : Int) + off = (tgt : Int)) (kt : b < a → jj_R cc nL own nm sx fr lo nc sc (tgt, L, st, lay, S) cE) (kf : a ≤ b → jj_R cc nL own nm sx fr lo nc sc (pc + 3, L, st, lay, S) cE) : jj_R cc nL own nm sx fr lo nc sc (pc, L, .int (nI b) :: .int (nI a) :: st, lay, S) cE :=
  js_icmp_gt tgt hdg ht (fun q => kt ((nI_ltI (a := b) (b := a) hb ha).mp q)) (fun q => kf (Nat.le_of_not_lt (fun z => q ((nI_ltI (a := b) (b := a) hb ha).mpr z))))
theorem jn_if_le {a : Nat} {off : Int} (tgt : Nat) (ha : a < 2 ^ 31) (hdg : decode cc pc = .ok (.ifCond .le off, 3)) (ht : (pc : Int) + off = (tgt : Int)) (kt : a ≤ 0 → jj_R cc nL own nm sx fr lo nc sc (tgt, L, st, lay, S) cE) (kf : 0 < a → jj_R cc nL own nm sx fr lo nc sc (pc + 3, L, st, lay, S) cE) : jj_R cc nL own nm sx fr lo nc sc (pc, L, .int (nI a) :: st, lay, S) cE :=
  js_if_le tgt hdg ht (fun q => kt ((nI_leI (a := a) (b := 0) ha (by decide)).mp q)) (fun q => kf (Nat.lt_of_not_le (fun z => q ((nI_leI (a := a) (b := 0) ha (by decide)).mpr z))))
theorem jn_icmp_le {a b : Nat} {off : Int} (tgt : Nat) (ha : a < 2 ^ 31) (hb : b < 2 ^ 31) (hdg : decode cc pc = .ok (.if_icmp .le off, 3)) (ht : (pc : Int) + off = (tgt : Int)) (kt : a ≤ b → jj_R cc nL own nm sx fr lo nc sc (tgt, L, st, lay, S) cE) (kf : b < a → jj_R cc nL own nm sx fr lo nc sc (pc + 3, L, st, lay, S) cE) : jj_R cc nL own nm sx fr lo nc sc (pc, L, .int (nI b) :: .int (nI a) :: st, lay, S) cE :=
  js_icmp_le tgt hdg ht (fun q => kt ((nI_leI (a := a) (b := b) ha hb).mp q)) (fun q => kf (Nat.lt_of_not_le (fun z => q ((nI_leI (a := a) (b := b) ha hb).mpr z))))
theorem jn_iadd {x y : Nat} (hdg : decode cc pc = .ok (.iadd, 1)) (k : jj_R cc nL own nm sx fr lo nc sc (pc + 1, L, .int (nI (x + y)) :: st, lay, S) cE) : jj_R cc nL own nm sx fr lo nc sc (pc, L, .int (nI y) :: .int (nI x) :: st, lay, S) cE := js_iadd hdg (by rw [nI_add]; exact k)
theorem jn_imul {x y : Nat} (hdg : decode cc pc = .ok (.imul, 1)) (k : jj_R cc nL own nm sx fr lo nc sc (pc + 1, L, .int (nI (x * y)) :: st, lay, S) cE) : jj_R cc nL own nm sx fr lo nc sc (pc, L, .int (nI y) :: .int (nI x) :: st, lay, S) cE := js_imul hdg (by rw [pk_mul]; exact k)
theorem jn_isub {x y : Nat} (h : y ≤ x) (hdg : decode cc pc = .ok (.isub, 1)) (k : jj_R cc nL own nm sx fr lo nc sc (pc + 1, L, .int (nI (x - y)) :: st, lay, S) cE) : jj_R cc nL own nm sx fr lo nc sc (pc, L, .int (nI y) :: .int (nI x) :: st, lay, S) cE := js_isub hdg (by rw [pk_sub h]; exact k)
theorem jn_idiv {x y : Nat} (hx : x < 2 ^ 31) (h0 : 0 < y) (hy : y < 2 ^ 31) (hdg : decode cc pc = .ok (.idiv, 1)) (k : jj_R cc nL own nm sx fr lo nc sc (pc + 1, L, .int (nI (x / y)) :: st, lay, S) cE) : jj_R cc nL own nm sx fr lo nc sc (pc, L, .int (nI y) :: .int (nI x) :: st, lay, S) cE := js_idiv hdg (nI_ne0 h0 hy) (by rw [pk_div hx h0 hy]; exact k)
theorem jn_irem {x y : Nat} (hx : x < 2 ^ 31) (h0 : 0 < y) (hy : y < 2 ^ 31) (hdg : decode cc pc = .ok (.irem, 1)) (k : jj_R cc nL own nm sx fr lo nc sc (pc + 1, L, .int (nI (x % y)) :: st, lay, S) cE) : jj_R cc nL own nm sx fr lo nc sc (pc, L, .int (nI y) :: .int (nI x) :: st, lay, S) cE := js_irem hdg (nI_ne0 h0 hy) (by rw [pk_rem hx h0 hy]; exact k)
/-- another name for the top of the stack -/
theorem js_top {x y : Int32} (h : x = y) (k : jj_R cc nL own nm sx fr lo nc sc (pc, L, .int y :: st, lay, S) cE) : jj_R cc nL own nm sx fr lo nc sc (pc, L, .int x :: st, lay, S) cE := by rw [h]; exact k
end JN
/-- sums -/
def jj_sm (f : Nat → Nat) : Nat → Nat
  | 0 => 0
  | n + 1 => jj_sm f n + f n
theorem jj_sm_congr {f g : Nat → Nat} : ∀ {n : Nat}, (∀ j, j < n → f j = g j) → jj_sm f n = jj_sm g n
  | 0, _ => rfl
  | n + 1, h => by
    show jj_sm f n + f n = jj_sm g n + g n
    rw [jj_sm_congr (fun j hj => h j (by omega)), h n (by omega)]
theorem jj_sm_le {f g : Nat → Nat} : ∀ {n : Nat}, (∀ j, j < n → f j ≤ g j) → jj_sm f n ≤ jj_sm g n
  | 0, _ => Nat.le_refl _
  | n + 1, h => Nat.add_le_add (jj_sm_le (fun j hj => h j (by omega))) (h n (by omega))
theorem jj_sm_add (f g : Nat → Nat) : ∀ n : Nat, jj_sm (fun j => f j + g j) n = jj_sm f n + jj_sm g n
  | 0 => rfl
  | n + 1 => by
    show jj_sm (fun j => f j + g j) n + (f n + g n) = (jj_sm f n + f n) + (jj_sm g n + g n)
    rw [jj_sm_add f g n]; omega
theorem jj_sm_mul (c : Nat) (f : Nat → Nat) : ∀ n : Nat, jj_sm (fun j => c * f j) n = c * jj_sm f n
  | 0 => rfl
  | n + 1 => by
    show jj_sm (fun j => c * f j) n + c * f n = c * (jj_sm f n + f n)
    rw [jj_sm_mul c f n, Nat.mul_add]
theorem jj_sm_at {f : Nat → Nat} : ∀ {n j : Nat}, j < n → f j ≤ jj_sm f n
  | 0, j, h => absurd h (by omega)
  | n + 1, j, h => by
    show f j ≤ jj_sm f n + f n
    by_cases e : j = n
    · subst e; omega
    · have := jj_sm_at (f := f) (n := n) (j := j) (by omega)
      omega
theorem jj_sm_mono {f : Nat → Nat} : ∀ {k n : Nat}, k ≤ n → jj_sm f k ≤ jj_sm f n
  | k, 0, h => by rw [show k = 0 by omega]; exact Nat.le_refl _
  | k, n + 1, h => by
    by_cases e : k = n + 1
    · rw [e]; exact Nat.le_refl _
    · exact Nat.le_trans (jj_sm_mono (f := f) (k := k) (n := n) (by omega)) (Nat.le_add_right _ _)
def jj_up (f : Nat → Nat) (i x : Nat) : Nat → Nat := fun j => if j = i then x else f j
theorem jj_up_at (f : Nat → Nat) (i x : Nat) : jj_up f i x i = x := if_pos rfl
theorem jj_up_ne (f : Nat → Nat) {i x j : Nat} (h : j ≠ i) : jj_up f i x j = f j := if_neg h
theorem jj_sm_up_out {f : Nat → Nat} {i x : Nat} : ∀ {n : Nat}, n ≤ i → jj_sm (jj_up f i x) n = jj_sm f n := fun h => jj_sm_congr (fun j hj => jj_up_ne f (by omega))
theorem jj_sm_up {f : Nat → Nat} {i x : Nat} : ∀ {n : Nat}, i < n → jj_sm (jj_up f i x) n + f i = jj_sm f n + x
  | 0, h => absurd h (by omega)
  | n + 1, h => by
    show (jj_sm (jj_up f i x) n + jj_up f i x n) + f i = (jj_sm f n + f n) + x
    by_cases e : i = n
    · subst e
      rw [jj_sm_up_out (Nat.le_refl _), jj_up_at]; omega
    · have := jj_sm_up (f := f) (i := i) (x := x) (n := n) (by omega)
      rw [jj_up_ne f (by omega)]; omega
/-- the body comes to a return with v -/
def jj_RR (cc : ByteArray) (nL : Nat) (own nm : String) (sx : jj_X) (fr lo nc sc : Nat) (c : jj_C) (v : Option Value) (ins : Instr) (lay' : jj_Lay) (S' : jj_Mem) : Prop :=
  ∃ (pc' : Nat) (L' : List (Option Value)), decode cc pc' = .ok (ins, 1) ∧ jj_R cc nL own nm sx fr lo nc sc c (pc', L', v.toList, lay', S')
section JO
variable {y : MethodName} {cc : ByteArray} {nL : Nat} {own nm : String} {sx : jj_X} {fr lo nc sc : Nat} {av : List Value} {lay : jj_Lay} {S S' : jj_Mem} {L : List (Option Value)} {pc : Nat} {st : List Value} {cE : jj_C}
theorem js_st {st' : List Value} (h : st = st') (k : jj_R cc nL own nm sx fr lo nc sc (pc, L, st', lay, S) cE) : jj_R cc nL own nm sx fr lo nc sc (pc, L, st, lay, S) cE := h ▸ k
theorem jj_mkI {x : Int32} (own : String) (ret0 : FieldType) (hpl : plainName y.cls = true) (hown : own = y.cls) (hL : jj_ent av ++ List.replicate (nL - (jj_ent av).length) none = L) (hlen : L.length = nL) (hn : narrow ret0 (.int x) = .int x)
    (hR : jj_RR cc nL own y.name sx fr lo lay.length (jj_sl lay) (0, L, [], lay, S) (some (.int x)) .ireturn lay S') : jj_CT y (.code y cc nL (some ret0)) sx fr lo av lay S (some (.int x)) lay S' := by
  obtain ⟨pc', L', hd, h⟩ := hR
  exact jj_mk own hpl hown hL hlen ⟨⟨ret0, rfl, hn⟩, rfl⟩ hd (Nat.le_refl _) (Nat.le_refl _) id (fun _ _ w h => by cases h; trivial) h
theorem jj_mkL {x : Int64} (own : String) (hpl : plainName y.cls = true) (hown : own = y.cls) (hL : jj_ent av ++ List.replicate (nL - (jj_ent av).length) none = L) (hlen : L.length = nL)
    (hR : jj_RR cc nL own y.name sx fr lo lay.length (jj_sl lay) (0, L, [], lay, S) (some (.long x)) .lreturn lay S') : jj_CT y (.code y cc nL (some .long)) sx fr lo av lay S (some (.long x)) lay S' := by
  obtain ⟨pc', L', hd, h⟩ := hR
  exact jj_mk own hpl hown hL hlen ⟨rfl, rfl⟩ hd (Nat.le_refl _) (Nat.le_refl _) id (fun _ _ w h => by cases h; trivial) h
theorem jj_mkV (own : String) (hpl : plainName y.cls = true) (hown : own = y.cls) (hL : jj_ent av ++ List.replicate (nL - (jj_ent av).length) none = L) (hlen : L.length = nL)
    (hR : jj_RR cc nL own y.name sx fr lo lay.length (jj_sl lay) (0, L, [], lay, S) none .return_ lay S') : jj_CT y (.code y cc nL none) sx fr lo av lay S none lay S' := by
  obtain ⟨pc', L', hd, h⟩ := hR
  exact jj_mk own hpl hown hL hlen ⟨rfl, rfl⟩ hd (Nat.le_refl _) (Nat.le_refl _) id (fun _ _ w h => by cases h) h
theorem jj_RRs {c c1 : jj_C} {v : Option Value} {ins : Instr} {lay' : jj_Lay} (h : jj_R cc nL own nm sx fr lo nc sc c c1) (k : jj_RR cc nL own nm sx fr lo nc sc c1 v ins lay' S') : jj_RR cc nL own nm sx fr lo nc sc c v ins lay' S' := by
  obtain ⟨pc', L', hd, hk⟩ := k
  exact ⟨pc', L', hd, jj_tr h hk⟩
end JO

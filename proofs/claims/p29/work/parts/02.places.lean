/-! PLACES. The cells that a run reaches are numbered 0, 1, .. : each has a kind (0..6: the class by its place in vwCl; 20 int[]; 21 boolean[]; 22 int[][]), a length, and its references (none: a whole number stands there). The whole numbers lie in a memory that may leave places open ('none': nothing is known, nothing may be read). A real heap holds such a picture at addresses al (k + 1); al 0 is the law's script. -/
abbrev jj_Sh : Type := Nat × Nat × List (Option (Option Nat))
abbrev jj_Lay : Type := List jj_Sh
abbrev jj_Mem : Type := Nat → Nat → Option Int32
abbrev jj_C : Type := Nat × List (Option Value) × List Value × jj_Lay × jj_Mem
abbrev jj_G : Type := ClassId × ClassId × ClassId
def jj_v (al : Nat → Nat) : Value → Value
  | .ref p => .ref (al (p + 1))
  | .int x => .int x
  | .long x => .long x
  | .float x => .float x
  | .double x => .double x
  | .null => .null
  | .retAddr _ => .ref (al 0)
theorem jj_v_cat (al : Nat → Nat) (v : Value) : (jj_v al v).category = v.category := by cases v <;> rfl
def jj_fld (al : Nat → Nat) (t : Nat → Int32) (rs : List (Option (Option Nat))) (j : Nat) : Value :=
  match rs[j]? with
  | some (some r) => va_rf (r.map fun q => al (q + 1))
  | _ => .int (t j)
def jj_el (al : Nat → Nat) (rs : List (Option (Option Nat))) (j : Nat) : Option Nat :=
  match rs[j]? with
  | some (some r) => r.map fun q => al (q + 1)
  | _ => none
def jj_cell (g : jj_G) (al : Nat → Nat) (t : Nat → Int32) (c : jj_Sh) : va_E :=
  if c.1 = 20 then .inl (g.1, c.2.1, .inl t)
  else if c.1 = 21 then .inl (g.2.1, c.2.1, .inl t)
  else if c.1 = 22 then .inl (g.2.2, c.2.1, .inr (.inr (.inr (.inr (jj_el al c.2.2)))))
  else .inr (c.1, (List.range c.2.1).map (jj_fld al t c.2.2))
def jj_W (g : jj_G) (al : Nat → Nat) (t : Nat → Nat → Int32) (lay : jj_Lay) : va_W := lay.mapIdx (fun k c => (al (k + 1), jj_cell g al (t k) c))
theorem jj_W_at {g : jj_G} {al : Nat → Nat} {t : Nat → Nat → Int32} {lay : jj_Lay} {k : Nat} {c : jj_Sh} (h : lay[k]? = some c) : (jj_W g al t lay)[k]? = some (al (k + 1), jj_cell g al (t k) c) := by
  unfold jj_W
  rw [List.getElem?_mapIdx, h]
  rfl
theorem jj_W_inv {g : jj_G} {al : Nat → Nat} {t : Nat → Nat → Int32} {lay : jj_Lay} {k : Nat} {q : Nat × va_E} (h : (jj_W g al t lay)[k]? = some q) : ∃ c, lay[k]? = some c ∧ q = (al (k + 1), jj_cell g al (t k) c) := by
  unfold jj_W at h
  rw [List.getElem?_mapIdx] at h
  cases hc : lay[k]? with
  | none => rw [hc] at h; cases h
  | some c => rw [hc] at h; cases h; exact ⟨c, rfl, rfl⟩
theorem jj_W_set {g : jj_G} {al : Nat → Nat} {t t' : Nat → Nat → Int32} {lay : jj_Lay} {k : Nat} {c' : jj_Sh} (hk : k < lay.length) (ht : ∀ q, q ≠ k → t' q = t q) : (jj_W g al t lay).set k (al (k + 1), jj_cell g al (t' k) c') = jj_W g al t' (lay.set k c') := by
  apply List.ext_getElem?
  intro q
  simp only [jj_W, List.getElem?_set, List.getElem?_mapIdx, List.length_mapIdx]
  by_cases h : k = q
  · subst h
    simp [hk]
  · simp only [if_neg h]
    rw [ht q (Ne.symm h)]
theorem jj_set_same {α : Type} {lay : List α} {k : Nat} {c : α} (h : lay[k]? = some c) : lay.set k c = lay := by
  apply List.ext_getElem?
  intro q
  rw [List.getElem?_set]
  by_cases e : k = q
  · subst e
    rw [if_pos rfl, if_pos (List.getElem?_eq_some_iff.mp h).1, h]
  · rw [if_neg e]
/-- one place of the memory anew -/
def jj_w (S : jj_Mem) (k i : Nat) (x : Int32) : jj_Mem := fun q j => if q = k ∧ j = i then some x else S q j
def jj_u2 (t : Nat → Nat → Int32) (k i : Nat) (x : Int32) : Nat → Nat → Int32 := fun q j => if q = k ∧ j = i then x else t q j
def jj_ext (S : jj_Mem) (t : Nat → Nat → Int32) : Prop := ∀ (p j : Nat) (x : Int32), S p j = some x → t p j = x
theorem jj_ext_w {S : jj_Mem} {t : Nat → Nat → Int32} {k i : Nat} {x : Int32} (h : jj_ext S t) : jj_ext (jj_w S k i x) (jj_u2 t k i x) := by
  intro p j y hy
  unfold jj_w at hy
  unfold jj_u2
  by_cases e : p = k ∧ j = i
  · rw [if_pos e] at hy ⊢
    exact Option.some.inj hy
  · rw [if_neg e] at hy ⊢
    exact h p j y hy
theorem jj_u2_at (t : Nat → Nat → Int32) (k i : Nat) (x : Int32) : jj_u2 t k i x k = upd (t k) i x := by
  funext j
  unfold jj_u2 upd
  by_cases e : j = i
  · rw [if_pos ⟨rfl, e⟩, if_pos e]
  · rw [if_neg (fun q => e q.2), if_neg e]
theorem jj_u2_ne (t : Nat → Nat → Int32) {k i : Nat} {x : Int32} (q : Nat) (h : q ≠ k) : jj_u2 t k i x q = t q := by
  funext j
  unfold jj_u2
  rw [if_neg (fun e => h e.1)]
theorem jj_w_at (S : jj_Mem) (k i : Nat) (x : Int32) : jj_w S k i x k i = some x := if_pos ⟨rfl, rfl⟩
theorem jj_w_neP {S : jj_Mem} {k i : Nat} {x : Int32} {q j : Nat} (h : q ≠ k) : jj_w S k i x q j = S q j := if_neg (fun e => h e.1)
theorem jj_w_neI {S : jj_Mem} {k i : Nat} {x : Int32} {q j : Nat} (h : j ≠ i) : jj_w S k i x q j = S q j := if_neg (fun e => h e.2)
/-- the slots of all cells -/
def jj_sl : jj_Lay → Nat
  | [] => 0
  | c :: r => c.2.1 + jj_sl r
theorem jj_sl_app (a b : jj_Lay) : jj_sl (a ++ b) = jj_sl a + jj_sl b := by
  induction a with
  | nil => show jj_sl b = 0 + jj_sl b; omega
  | cons c r ih => show c.2.1 + jj_sl (r ++ b) = (c.2.1 + jj_sl r) + jj_sl b; rw [ih]; omega
-- locals: a list of the frame's places; none: nothing is known of it
def jj_asg (al : Nat → Nat) : Nat → List (Option Value) → List (Nat × Value)
  | _, [] => []
  | i, none :: r => jj_asg al (i + 1) r
  | i, some v :: r => (i, jj_v al v) :: jj_asg al (i + 1) r
theorem jj_asg_mem {al : Nat → Nat} {L : List (Option Value)} {q : Nat × Value} : ∀ {i : Nat}, q ∈ jj_asg al i L ↔ ∃ (j : Nat) (v : Value), L[j]? = some (some v) ∧ q = (i + j, jj_v al v) := by
  induction L with
  | nil => intro i; simp [jj_asg]
  | cons a r ih =>
    intro i
    cases a with
    | none =>
      show q ∈ jj_asg al (i + 1) r ↔ _
      rw [ih]
      constructor
      · rintro ⟨j, v, h, e⟩
        exact ⟨j + 1, v, by simpa using h, by rw [e, show i + 1 + j = i + (j + 1) by omega]⟩
      · rintro ⟨j, v, h, e⟩
        cases j with
        | zero => simp at h
        | succ j => exact ⟨j, v, by simpa using h, by rw [e, show i + 1 + j = i + (j + 1) by omega]⟩
    | some w =>
      show q ∈ (i, jj_v al w) :: jj_asg al (i + 1) r ↔ _
      rw [List.mem_cons, ih]
      constructor
      · rintro (h | ⟨j, v, h, e⟩)
        · exact ⟨0, w, rfl, h⟩
        · exact ⟨j + 1, v, by simpa using h, by rw [e, show i + 1 + j = i + (j + 1) by omega]⟩
      · rintro ⟨j, v, h, e⟩
        cases j with
        | zero => left; simp at h; rw [e, h]; rfl
        | succ j => exact Or.inr ⟨j, v, by simpa using h, by rw [e, show i + 1 + j = i + (j + 1) by omega]⟩
def jj_clr1 (L : List (Option Value)) (i : Nat) : List (Option Value) := match L[i]? with
  | some (some v) => if v.category = 2 then L.set i none else L
  | _ => L
def jj_clr (L : List (Option Value)) : Nat → List (Option Value)
  | 0 => L
  | i + 1 => jj_clr1 L i
def jj_st1 (L : List (Option Value)) (i : Nat) (v : Value) : List (Option Value) := (jj_clr L i).set i (some v)
def jj_st2 (L : List (Option Value)) (i : Nat) (v : Value) : List (Option Value) := ((jj_clr L i).set i (some v)).set (i + 1) none
theorem jj_clr_len (L : List (Option Value)) (i : Nat) : (jj_clr L i).length = L.length := by
  cases i with
  | zero => rfl
  | succ i =>
    show (jj_clr1 L i).length = L.length
    unfold jj_clr1
    split
    · split
      · rw [List.length_set]
      · rfl
    · rfl
/-- what stands behind the clearing stood there before, and is no long that reaches into i -/
theorem jj_clr_at {L : List (Option Value)} {i j : Nat} {v : Value} (h : (jj_clr L i)[j]? = some (some v)) : L[j]? = some (some v) ∧ ¬ (j + 1 = i ∧ v.category = 2) := by
  cases i with
  | zero => exact ⟨h, fun q => by omega⟩
  | succ i =>
    replace h : (jj_clr1 L i)[j]? = some (some v) := h
    unfold jj_clr1 at h
    split at h
    · rename_i w hw
      split at h
      · rename_i hc
        rw [List.getElem?_set] at h
        by_cases e : i = j
        · rw [if_pos e] at h
          split at h <;> cases h
        · rw [if_neg e] at h
          exact ⟨h, fun q => e (by omega)⟩
      · rename_i hc
        refine ⟨h, fun q => ?_⟩
        have : j = i := by omega
        subst this
        rw [hw] at h
        cases h
        exact hc q.2
    · rename_i hn
      refine ⟨h, fun q => ?_⟩
      have : j = i := by omega
      subst this
      exact hn v h
theorem jj_st1_sub {al : Nat → Nat} {L : List (Option Value)} {i : Nat} {v : Value} {q : Nat × Value} (h : q ∈ jj_asg al 0 (jj_st1 L i v)) : q ∈ (i, jj_v al v) :: (jj_asg al 0 L).filter (fun q => !(q.1 == i) && !(q.1 + 1 == i && q.2.category == 2)) := by
  obtain ⟨j, w, hj, rfl⟩ := jj_asg_mem.mp h
  unfold jj_st1 at hj
  rw [List.getElem?_set] at hj
  by_cases e : i = j
  · rw [if_pos e] at hj
    split at hj
    · cases hj
      subst e
      rw [Nat.zero_add]
      exact List.mem_cons_self
    · cases hj
  · rw [if_neg e] at hj
    obtain ⟨h1, h2⟩ := jj_clr_at hj
    refine List.mem_cons_of_mem _ (List.mem_filter.mpr ⟨jj_asg_mem.mpr ⟨j, w, h1, rfl⟩, ?_⟩)
    show (!(0 + j == i) && !(0 + j + 1 == i && (jj_v al w).category == 2)) = true
    rw [jj_v_cat, Nat.zero_add]
    simp only [Bool.and_eq_true, Bool.not_eq_true', beq_eq_false_iff_ne, Bool.and_eq_false_iff]
    refine ⟨fun q => e q.symm, ?_⟩
    by_cases c : j + 1 = i
    · exact Or.inr (fun q => h2 ⟨c, q⟩)
    · exact Or.inl c
theorem jj_st2_sub {al : Nat → Nat} {L : List (Option Value)} {i : Nat} {v : Value} {q : Nat × Value} (h : q ∈ jj_asg al 0 (jj_st2 L i v)) : q ∈ (i, jj_v al v) :: (jj_asg al 0 L).filter (fun q => !(q.1 == i) && (!(q.1 == i + 1) && !(q.1 + 1 == i && q.2.category == 2))) := by
  obtain ⟨j, w, hj, rfl⟩ := jj_asg_mem.mp h
  unfold jj_st2 at hj
  rw [List.getElem?_set] at hj
  by_cases e2 : i + 1 = j
  · rw [if_pos e2] at hj
    split at hj <;> cases hj
  · rw [if_neg e2, List.getElem?_set] at hj
    by_cases e : i = j
    · rw [if_pos e] at hj
      split at hj
      · cases hj
        subst e
        rw [Nat.zero_add]
        exact List.mem_cons_self
      · cases hj
    · rw [if_neg e] at hj
      obtain ⟨h1, h2⟩ := jj_clr_at hj
      refine List.mem_cons_of_mem _ (List.mem_filter.mpr ⟨jj_asg_mem.mpr ⟨j, w, h1, rfl⟩, ?_⟩)
      show (!(0 + j == i) && (!(0 + j == i + 1) && !(0 + j + 1 == i && (jj_v al w).category == 2))) = true
      rw [jj_v_cat, Nat.zero_add]
      simp only [Bool.and_eq_true, Bool.not_eq_true', beq_eq_false_iff_ne, Bool.and_eq_false_iff]
      refine ⟨fun q => e q.symm, fun q => e2 q.symm, ?_⟩
      by_cases c : j + 1 = i
      · exact Or.inr (fun q => h2 ⟨c, q⟩)
      · exact Or.inl c
-- references point at places that are there
def jj_wv (n : Nat) : Value → Prop
  | .ref p => p < n
  | _ => True
def jj_wl (n : Nat) (L : List (Option Value)) : Prop := ∀ v, some v ∈ L → jj_wv n v
def jj_ws (n : Nat) (st : List Value) : Prop := ∀ v ∈ st, jj_wv n v
def jj_wy (lay : jj_Lay) : Prop := ∀ c ∈ lay, ∀ q, some (some q) ∈ c.2.2 → q < lay.length
theorem jj_ws_cons {n : Nat} {v : Value} {st : List Value} (h : jj_wv n v) (hs : jj_ws n st) : jj_ws n (v :: st) := fun w hw => (List.mem_cons.mp hw).elim (fun e => e ▸ h) (hs w)
theorem jj_ws_tl {n : Nat} {v : Value} {st : List Value} (hs : jj_ws n (v :: st)) : jj_ws n st := fun w hw => hs w (List.mem_cons_of_mem _ hw)
theorem jj_ws_hd {n : Nat} {v : Value} {st : List Value} (hs : jj_ws n (v :: st)) : jj_wv n v := hs v List.mem_cons_self
theorem jj_wv_mono {n k : Nat} (h : n ≤ k) {v : Value} (hv : jj_wv n v) : jj_wv k v := by
  cases v <;> first | exact trivial | exact Nat.lt_of_lt_of_le hv h
theorem jj_wl_set {n : Nat} {L : List (Option Value)} {i : Nat} {x : Option Value} (h : jj_wl n L) (hx : ∀ v, x = some v → jj_wv n v) : jj_wl n (L.set i x) := fun v hv => by
  rcases List.mem_or_eq_of_mem_set hv with q | q
  · exact h v q
  · exact hx v q.symm
theorem jj_wl_clr {n : Nat} {L : List (Option Value)} {i : Nat} (h : jj_wl n L) : jj_wl n (jj_clr L i) := by
  cases i with
  | zero => exact h
  | succ i =>
    show jj_wl n (jj_clr1 L i)
    unfold jj_clr1
    split
    · split
      · exact jj_wl_set h (fun v q => by cases q)
      · exact h
    · exact h
theorem jj_wl_st1 {n : Nat} {L : List (Option Value)} {i : Nat} {v : Value} (h : jj_wl n L) (hv : jj_wv n v) : jj_wl n (jj_st1 L i v) := jj_wl_set (jj_wl_clr h) (fun w q => by cases q; exact hv)
theorem jj_wl_st2 {n : Nat} {L : List (Option Value)} {i : Nat} {v : Value} (h : jj_wl n L) (hv : jj_wv n v) : jj_wl n (jj_st2 L i v) := jj_wl_set (jj_wl_set (jj_wl_clr h) (fun w q => by cases q; exact hv)) (fun w q => by cases q)
theorem jj_st1_len (L : List (Option Value)) (i : Nat) (v : Value) : (jj_st1 L i v).length = L.length := by unfold jj_st1; rw [List.length_set, jj_clr_len]
theorem jj_st2_len (L : List (Option Value)) (i : Nat) (v : Value) : (jj_st2 L i v).length = L.length := by unfold jj_st2; rw [List.length_set, List.length_set, jj_clr_len]
-- the tables' words: those that stay good everywhere, and the links between nest mates
def jj_gW : List Cond := lw_tbl.filter goodWord
def jj_isN : Cond → Bool
  | .fieldLinkNest .. => true
  | .methodLinkNest .. => true
  | .arrayOver _ => true
  | _ => false
def jj_nW : List Cond := lw_tbl.filter jj_isN
theorem jj_gW_good : ∀ w ∈ jj_gW, (w.onTables && w.keeps) = true ∨ ∃ ty, w = .arrayClass ty := fun _ h => good_of_word (List.mem_filter.mp h).2
theorem jj_gW_in (i : Nat) {w : Cond} (h : lw_tbl[i]? = some w) (hg : goodWord w = true) : w ∈ jj_gW := List.mem_filter.mpr ⟨List.mem_of_getElem? h, hg⟩
theorem jj_nW_in (i : Nat) {w : Cond} (h : lw_tbl[i]? = some w) (hg : jj_isN w = true) : w ∈ jj_nW := List.mem_filter.mpr ⟨List.mem_of_getElem? h, hg⟩
theorem jj_ao_vm {ty : FieldType} {A B : Array Value} {u U : State} (h : u.vm = U.vm) (hz : (Cond.arrayOver ty).before A u = true) : (Cond.arrayOver ty).before B U = true := by
  unfold Cond.before Cond.holds at hz ⊢
  simp only [Cond.value] at hz ⊢
  rw [← h]
  exact hz
theorem jj_nW_warm {s U : State} (hW : s.WarmedH U.vm) (h : ∀ w ∈ jj_nW, va_Nw w s) : ∀ w ∈ jj_nW, va_Nw w U := by
  intro w hw
  have hn := (List.mem_filter.mp hw).2
  have h1 := h w hw
  cases w <;> first | exact va_Nw.warmF hW h1 | exact va_Nw.warmM hW h1 | (rename_i ty; exact jj_ao_vm (u := s.setVm U.vm) (U := U) (A := #[]) rfl (by rw [Cond.arrayOver_setVmC hW.alike]; exact h1)) | cases hn
def jj_ty (ci : Nat) : Nat → FieldType := match ci with
  | 0 => tyX0 | 1 => tyX1 | 2 => tyX2 | 3 => tyX3 | 4 => tyX4 | 5 => tyX5 | _ => tyX6
theorem jj_u0 : ∀ w ∈ u_ws RX0 TX0 7, w ∈ jj_gW := by decide +kernel
theorem jj_u1 : ∀ w ∈ u_ws RX1 TX1 12, w ∈ jj_gW := by decide +kernel
theorem jj_u2w : ∀ w ∈ u_ws RX2 TX2 8, w ∈ jj_gW := by decide +kernel
theorem jj_u3 : ∀ w ∈ u_ws RX3 TX3 3, w ∈ jj_gW := by decide +kernel
theorem jj_u4 : ∀ w ∈ u_ws RX4 TX4 7, w ∈ jj_gW := by decide +kernel
theorem jj_u5 : ∀ w ∈ u_ws RX5 TX5 1, w ∈ jj_gW := by decide +kernel
theorem jj_u6 : ∀ w ∈ u_ws RX6 TX6 11, w ∈ jj_gW := by decide +kernel
theorem jj_cls {ci : Nat} {C : String} {T : u_T} {N : Nat} (h : vwCl[ci]? = some (C, T, N)) : (∀ w ∈ u_ws C T N, w ∈ jj_gW) ∧ (∀ k, k < N → parseFieldDescriptor (T k).2.2.1 = some (jj_ty ci k)) ∧ (∀ a, a < N → ∀ b, b < N → a ≠ b → (T a).2.1 ≠ (T b).2.1) ∧ ci < 7 := by
  match ci, h with
  | 0, h => cases h; exact ⟨jj_u0, tyX0_ok, nmX0, by decide⟩
  | 1, h => cases h; exact ⟨jj_u1, tyX1_ok, nmX1, by decide⟩
  | 2, h => cases h; exact ⟨jj_u2w, tyX2_ok, nmX2, by decide⟩
  | 3, h => cases h; exact ⟨jj_u3, tyX3_ok, nmX3, by decide⟩
  | 4, h => cases h; exact ⟨jj_u4, tyX4_ok, nmX4, by decide⟩
  | 5, h => cases h; exact ⟨jj_u5, tyX5_ok, nmX5, by decide⟩
  | 6, h => cases h; exact ⟨jj_u6, tyX6_ok, nmX6, by decide⟩
  | k + 7, h => simp [vwCl] at h

/-! THE SMALL METHODS: sums, fills, copies, places; what a method needs. -/
set_option maxRecDepth 100000 in
set_option maxHeartbeats 4000000 in
theorem ct_X6_monthOf {lay : jj_Lay} {S : jj_Mem} {m : Nat} (hm : m < 2 ^ 31) : jj_CT yX6_monthOf (.code yX6_monthOf cX6_monthOf 1 (some .int)) none 0 0 [.int (nI m)] lay S (some (.int (nI (m / 14400)))) lay S := by
  refine jj_mkI RX6 .int (by decide) rfl (L := [some (.int (nI m))]) rfl rfl rfl ⟨5, [some (.int (nI m))], dX6_monthOf_5, ?_⟩
  refine js_iload_n 0 rfl dX6_monthOf_0 rfl ?_
  refine js_sipush (v := nI 14400) dX6_monthOf_1 (by decide) ?_
  refine jn_idiv (by omega) (by decide) (by omega) dX6_monthOf_4 ?_
  exact jj_refl
set_option maxRecDepth 100000 in
set_option maxHeartbeats 4000000 in
theorem ct_X6_dayOf {lay : jj_Lay} {S : jj_Mem} {m : Nat} (hm : m < 2 ^ 31) : jj_CT yX6_dayOf (.code yX6_dayOf cX6_dayOf 1 (some .int)) none 0 0 [.int (nI m)] lay S (some (.int (nI (m / 1440)))) lay S := by
  refine jj_mkI RX6 .int (by decide) rfl (L := [some (.int (nI m))]) rfl rfl rfl ⟨5, [some (.int (nI m))], dX6_dayOf_5, ?_⟩
  refine js_iload_n 0 rfl dX6_dayOf_0 rfl ?_
  refine js_sipush (v := nI 1440) dX6_dayOf_1 (by decide) ?_
  refine jn_idiv (by omega) (by decide) (by omega) dX6_dayOf_4 ?_
  exact jj_refl
set_option maxRecDepth 100000 in
set_option maxHeartbeats 4000000 in
theorem lp_X6_sumOf {lay : jj_Lay} {S : jj_Mem} {p n : Nat} {rs : List (Option (Option Nat))} {f : Nat → Nat} (hp : lay[p]? = some (20, n, rs)) (hn : n ≤ 200) (hf : ∀ j, j < n → S p j = some (nI (f j))) : ∀ (k e : Nat), e + k = n → jj_RR cX6_sumOf 6 RX6 yX6_sumOf.name none 0 0 lay.length (jj_sl lay) (10, [some (.ref p), some (.int (nI (jj_sm f e))), some (.ref p), some (.int (nI n)), some (.int (nI e)), none], [], lay, S) (some (.int (nI (jj_sm f n)))) .ireturn lay S := by
  intro k
  induction k with
  | zero =>
    intro e he
    refine ⟨34, [some (.ref p), some (.int (nI (jj_sm f e))), some (.ref p), some (.int (nI n)), some (.int (nI e)), none], dX6_sumOf_34, ?_⟩
    have he : e = n := by omega
    subst he
    refine js_iload dX6_sumOf_10 rfl ?_
    refine js_iload_n 3 rfl dX6_sumOf_12 rfl ?_
    refine jn_icmp_ge 33 (by omega) (by omega) dX6_sumOf_13 (by decide) (fun _ => ?_) (fun h9 => absurd h9 (by omega))
    refine js_iload_n 1 rfl dX6_sumOf_33 rfl ?_
    exact jj_refl
  | succ k ih =>
    intro e he
    refine jj_RRs ?_ (ih (e + 1) (by omega))
    refine js_iload dX6_sumOf_10 rfl ?_
    refine js_iload_n 3 rfl dX6_sumOf_12 rfl ?_
    refine jn_icmp_ge 33 (by omega) (by omega) dX6_sumOf_13 (by decide) (fun h9 => absurd h9 (by omega)) (fun _ => ?_)
    refine js_aload_n 2 rfl dX6_sumOf_16 rfl ?_
    refine js_iload dX6_sumOf_17 rfl ?_
    refine js_iald e rfl hp (by omega) (by omega) (hf e (by omega)) dX6_sumOf_19 ?_
    refine js_istore (L' := [some (.ref p), some (.int (nI (jj_sm f e))), some (.ref p), some (.int (nI n)), some (.int (nI e)), some (.int (nI (f e)))]) dX6_sumOf_20 rfl (Nat.le_of_ble_eq_true rfl) ?_
    refine js_iload_n 1 rfl dX6_sumOf_22 rfl ?_
    refine js_iload dX6_sumOf_23 rfl ?_
    refine jn_iadd dX6_sumOf_25 ?_
    refine js_istore_n (L' := [some (.ref p), some (.int (nI (((jj_sm f e)) + ((f e))))), some (.ref p), some (.int (nI n)), some (.int (nI e)), some (.int (nI (f e)))]) 1 rfl dX6_sumOf_26 rfl (Nat.le_of_ble_eq_true rfl) ?_
    refine js_iinc (v := nI (e + 1)) (L' := [some (.ref p), some (.int (nI (((jj_sm f e)) + ((f e))))), some (.ref p), some (.int (nI n)), some (.int (nI (e + 1))), some (.int (nI (f e)))]) dX6_sumOf_27 rfl (jj_inc _) rfl ?_
    refine js_goto 10 dX6_sumOf_30 (by decide) ?_
    refine js_fgL (L' := [some (.ref p), some (.int (nI (jj_sm f (e + 1)))), some (.ref p), some (.int (nI n)), some (.int (nI (e + 1))), none]) (by simp [jj_le, jj_sm]) ?_
    exact jj_refl
set_option maxRecDepth 100000 in
set_option maxHeartbeats 4000000 in
theorem ct_X6_sumOf {lay : jj_Lay} {S : jj_Mem} {p n : Nat} {rs : List (Option (Option Nat))} {f : Nat → Nat} (hp : lay[p]? = some (20, n, rs)) (hn : n ≤ 200) (hf : ∀ j, j < n → S p j = some (nI (f j))) : jj_CT yX6_sumOf (.code yX6_sumOf cX6_sumOf 6 (some .int)) none 0 0 [.ref p] lay S (some (.int (nI (jj_sm f n)))) lay S := by
  refine jj_mkI RX6 .int (by decide) rfl (L := [some (.ref p), none, none, none, none, none]) rfl rfl rfl ?_
  refine jj_RRs ?_ (lp_X6_sumOf (f := f) hp hn hf n 0 (by omega))
  refine js_iconst (v := nI 0) dX6_sumOf_0 (by decide) ?_
  refine js_istore_n (L' := [some (.ref p), some (.int (nI 0)), none, none, none, none]) 1 rfl dX6_sumOf_1 rfl (Nat.le_of_ble_eq_true rfl) ?_
  refine js_aload_n 0 rfl dX6_sumOf_2 rfl ?_
  refine js_astore_n (L' := [some (.ref p), some (.int (nI 0)), some (.ref p), none, none, none]) 2 rfl dX6_sumOf_3 rfl (Nat.le_of_ble_eq_true rfl) ?_
  refine js_aload_n 2 rfl dX6_sumOf_4 rfl ?_
  refine js_alen hp (Or.inl rfl) rfl dX6_sumOf_5 ?_
  refine js_istore_n (L' := [some (.ref p), some (.int (nI 0)), some (.ref p), some (.int (nI n)), none, none]) 3 rfl dX6_sumOf_6 rfl (Nat.le_of_ble_eq_true rfl) ?_
  refine js_iconst (v := nI 0) dX6_sumOf_7 (by decide) ?_
  refine js_istore (L' := [some (.ref p), some (.int (nI 0)), some (.ref p), some (.int (nI n)), some (.int (nI 0)), none]) dX6_sumOf_8 rfl (Nat.le_of_ble_eq_true rfl) ?_
  exact jj_refl
/-- a row of the memory anew, by numbers -/
def jj_row (S : jj_Mem) (p n : Nat) (h : Nat → Nat) : jj_Mem := fun q j => if q = p ∧ j < n then some (nI (h j)) else S q j
theorem jj_row_0 (S : jj_Mem) (p : Nat) (h : Nat → Nat) : jj_row S p 0 h = S := funext fun q => funext fun j => if_neg (fun w => by omega)
theorem jj_row_s (S : jj_Mem) (p n : Nat) (h : Nat → Nat) {x : Int32} (hx : x = nI (h n)) : jj_w (jj_row S p n h) p n x = jj_row S p (n + 1) h := by
  funext q j
  unfold jj_w jj_row
  by_cases c : q = p
  · by_cases d : j = n
    · rw [if_pos ⟨c, d⟩, if_pos ⟨c, by omega⟩, hx, d]
    · rw [if_neg (fun w => d w.2)]
      by_cases e : j < n
      · rw [if_pos ⟨c, e⟩, if_pos ⟨c, by omega⟩]
      · rw [if_neg (fun w => e w.2), if_neg (fun w => by omega)]
  · rw [if_neg (fun w => c w.1), if_neg (fun w => c w.1), if_neg (fun w => c w.1)]
theorem jj_row_at {S : jj_Mem} {p n : Nat} {h : Nat → Nat} {j : Nat} (hj : j < n) : jj_row S p n h p j = some (nI (h j)) := if_pos ⟨rfl, hj⟩
theorem jj_row_neP {S : jj_Mem} {p n : Nat} {h : Nat → Nat} {q j : Nat} (hq : q ≠ p) : jj_row S p n h q j = S q j := if_neg (fun w => hq w.1)
theorem jj_row_hi {S : jj_Mem} {p n : Nat} {h : Nat → Nat} {q j : Nat} (hj : n ≤ j) : jj_row S p n h q j = S q j := if_neg (fun w => by omega)
theorem jj_row_congr {S : jj_Mem} {p n : Nat} {h h' : Nat → Nat} (e : ∀ j, j < n → h j = h' j) : jj_row S p n h = jj_row S p n h' := by
  funext q j
  unfold jj_row
  by_cases c : q = p ∧ j < n
  · rw [if_pos c, if_pos c, e j c.2]
  · rw [if_neg c, if_neg c]
theorem jj_row_row {S : jj_Mem} {p n : Nat} {h h' : Nat → Nat} : jj_row (jj_row S p n h) p n h' = jj_row S p n h' := by
  funext q j
  unfold jj_row
  by_cases c : q = p ∧ j < n
  · rw [if_pos c, if_pos c]
  · rw [if_neg c, if_neg c, if_neg c]
theorem jj_cp_row {S : jj_Mem} {a b n : Nat} {h : Nat → Nat} (hh : ∀ j, j < n → S a j = some (nI (h j))) : jj_cp S a 0 b 0 n = jj_row S b n h := by
  funext q j
  unfold jj_cp jj_row
  by_cases c : q = b ∧ j < n
  · rw [if_pos ⟨c.1, by omega, by omega⟩, if_pos c, show 0 + (j - 0) = j by omega, hh j c.2]
  · rw [if_neg (fun w => c ⟨w.1, by omega⟩), if_neg c]
def jj_b (b : Bool) : Nat := if b then 1 else 0
theorem jw_minC : Cond.code Lib.Math.min.name Lib.Math.min.code 2 (some .int) ∈ jj_gW := List.mem_filter.mpr ⟨by decide +kernel, rfl⟩
theorem jw_minS : Cond.static Lib.Math.min.name ∈ jj_gW := List.mem_filter.mpr ⟨by decide +kernel, rfl⟩
theorem jw_minI : Cond.initialized "java/lang/Math" ∈ jj_gW := List.mem_filter.mpr ⟨by decide +kernel, rfl⟩
section JMIN
variable {cc : ByteArray} {nL : Nat} {own nm : String} {sx : jj_X} {fr lo nc sc : Nat} {cE : jj_C} {pc : Nat} {L : List (Option Value)} {st : List Value} {lay : jj_Lay} {S : jj_Mem}
theorem jn_min {ix a b : Nat} (ha : a < 2 ^ 31) (hb : b < 2 ^ 31) (hlk : Cond.methodLink own ix Lib.Math.min.name ∈ jj_gW) (hfr : 1 ≤ fr) (hlo : (st.map fun v => v.category).sum + 13 ≤ lo) (hnc : lay.length ≤ nc) (hsc : jj_sl lay ≤ sc) (hdg : decode cc pc = .ok (.invokestatic ix, 3)) (k : jj_R cc nL own nm sx fr lo nc sc (pc + 3, L, .int (nI (min a b)) :: st, lay, S) cE) : jj_R cc nL own nm sx fr lo nc sc (pc, L, .int (nI b) :: .int (nI a) :: st, lay, S) cE := by
  intro p l e R s m args below meth cd D g A al0 n0 s0 Q hC hf hl hc hs hE
  have hk := k p l e R s m args below meth cd D g A al0 n0 s0 Q hC hf hl hc hs hE
  intro al t H locs ls cells slots h1 h2 hR
  obtain ⟨hx, hb9, hml, hown, hnm, hts, hN, hK, hA, hX⟩ := hC
  obtain ⟨e1, e2, e3, e4, e5, e6, e7, e8, e9⟩ := hR
  have hcat : ((st.map (jj_v al)).map fun v => v.category).sum = (st.map fun v => v.category).sum := by
    rw [List.map_map]
    exact congrArg List.sum (List.map_congr_left fun v _ => jj_v_cat al v)
  have z1 : n0 + cells = lay.length := h1
  have z2 : s0 + slots = jj_sl lay := h2
  refine va_mmin hx hb9 (by rw [hml]; exact e5.1.symm) hown (hts _ hlk) (hts _ jw_minS) (hts _ jw_minI) (hts _ jw_minC) (by omega) (by rw [hcat]; omega) (by omega) (by omega) hdg ?_
  have e : (if nI b < nI a then nI b else nI a) = nI (min a b) := by
    by_cases c : b < a
    · rw [if_pos ((nI_ltI hb ha).mpr c), show min a b = b by omega]
    · rw [if_neg (fun w => c ((nI_ltI hb ha).mp w)), show min a b = a by omega]
  rw [e]
  exact hk al t H locs ls cells slots h1 h2 ⟨e1, e2, e3, e4, e5, e6, jj_ws_cons trivial (jj_ws_tl (jj_ws_tl e7)), e8, e9⟩
end JMIN
set_option maxRecDepth 100000 in
set_option maxHeartbeats 4000000 in
theorem lp_J7_fill_53178 {lay : jj_Lay} {S : jj_Mem} {p n c : Nat} {rs : List (Option (Option Nat))} (hp : lay[p]? = some (20, n, rs)) (hn : n ≤ 200) : ∀ (k e : Nat), e + k = n → jj_RR cJ7_fill_53178 4 RJ7 yJ7_fill_53178.name none 0 0 lay.length (jj_sl lay) (5, [some (.ref p), some (.int (nI c)), some (.int (nI e)), some (.int (nI n))], [], lay, (jj_row S p e (fun _ => c))) none .return_ lay (jj_row S p n (fun _ => c)) := by
  intro k
  induction k with
  | zero =>
    intro e he
    refine ⟨20, [some (.ref p), some (.int (nI c)), some (.int (nI e)), some (.int (nI n))], dJ7_fill_53178_20, ?_⟩
    have he : e = n := by omega
    subst he
    refine js_iload_n 2 rfl dJ7_fill_53178_5 rfl ?_
    refine js_iload_n 3 rfl dJ7_fill_53178_6 rfl ?_
    refine jn_icmp_ge 20 (by omega) (by omega) dJ7_fill_53178_7 (by decide) (fun _ => ?_) (fun h9 => absurd h9 (by omega))
    exact jj_refl
  | succ k ih =>
    intro e he
    refine jj_RRs ?_ (ih (e + 1) (by omega))
    refine js_iload_n 2 rfl dJ7_fill_53178_5 rfl ?_
    refine js_iload_n 3 rfl dJ7_fill_53178_6 rfl ?_
    refine jn_icmp_ge 20 (by omega) (by omega) dJ7_fill_53178_7 (by decide) (fun h9 => absurd h9 (by omega)) (fun _ => ?_)
    refine js_aload_n 0 rfl dJ7_fill_53178_10 rfl ?_
    refine js_iload_n 2 rfl dJ7_fill_53178_11 rfl ?_
    refine js_iload_n 1 rfl dJ7_fill_53178_12 rfl ?_
    refine js_iast e rfl hp (by omega) (by omega) dJ7_fill_53178_13 ?_
    rw [jj_row_s S p e (fun _ => c) rfl]
    refine js_iinc (v := nI (e + 1)) (L' := [some (.ref p), some (.int (nI c)), some (.int (nI (e + 1))), some (.int (nI n))]) dJ7_fill_53178_14 rfl (jj_inc _) rfl ?_
    refine js_goto 5 dJ7_fill_53178_17 (by decide) ?_
    exact jj_refl
set_option maxRecDepth 100000 in
set_option maxHeartbeats 4000000 in
theorem ct_J7_fill_53178 {lay : jj_Lay} {S : jj_Mem} {p n c : Nat} {rs : List (Option (Option Nat))} (hp : lay[p]? = some (20, n, rs)) (hn : n ≤ 200) : jj_CT yJ7_fill_53178 (.code yJ7_fill_53178 cJ7_fill_53178 4 none) none 0 0 [.ref p, .int (nI c)] lay S none lay (jj_row S p n (fun _ => c)) := by
  refine jj_mkV RJ7 (by decide) rfl (L := [some (.ref p), some (.int (nI c)), none, none]) rfl rfl ?_
  have h0 := lp_J7_fill_53178 (S := S) (c := c) hp hn n 0 (by omega)
  rw [jj_row_0] at h0
  refine jj_RRs ?_ h0
  refine js_iconst (v := nI 0) dJ7_fill_53178_0 (by decide) ?_
  refine js_istore_n (L' := [some (.ref p), some (.int (nI c)), some (.int (nI 0)), none]) 2 rfl dJ7_fill_53178_1 rfl (Nat.le_of_ble_eq_true rfl) ?_
  refine js_aload_n 0 rfl dJ7_fill_53178_2 rfl ?_
  refine js_alen hp (Or.inl rfl) rfl dJ7_fill_53178_3 ?_
  refine js_istore_n (L' := [some (.ref p), some (.int (nI c)), some (.int (nI 0)), some (.int (nI n))]) 3 rfl dJ7_fill_53178_4 rfl (Nat.le_of_ble_eq_true rfl) ?_
  exact jj_refl
set_option maxRecDepth 100000 in
set_option maxHeartbeats 4000000 in
theorem ct_X6_copyAll {lay : jj_Lay} {S : jj_Mem} {a b n : Nat} {ra rb : List (Option (Option Nat))} {h : Nat → Nat} (ha : lay[a]? = some (20, n, ra)) (hb : lay[b]? = some (20, n, rb)) (hn : n ≤ 200) (hh : ∀ j, j < n → S a j = some (nI (h j))) : jj_CT yX6_copyAll (.code yX6_copyAll cX6_copyAll 2 none) none 1 40 [.ref a, .ref b] lay S none lay (jj_row S b n h) := by
  rw [← jj_cp_row hh]
  refine jj_mkV RX6 (by decide) rfl (L := [some (.ref a), some (.ref b)]) rfl rfl ⟨14, [some (.ref a), some (.ref b)], dX6_copyAll_14, ?_⟩
  refine js_aload_n 0 rfl dX6_copyAll_0 rfl ?_
  refine js_iconst (v := nI 0) dX6_copyAll_1 (by decide) ?_
  refine js_aload_n 1 rfl dX6_copyAll_2 rfl ?_
  refine js_iconst (v := nI 0) dX6_copyAll_3 (by decide) ?_
  refine js_aload_n 0 rfl dX6_copyAll_4 rfl ?_
  refine js_alen ha (Or.inl rfl) rfl dX6_copyAll_5 ?_
  refine js_aload_n 1 rfl dX6_copyAll_6 rfl ?_
  refine js_alen hb (Or.inl rfl) rfl dX6_copyAll_7 ?_
  refine jn_min (by omega) (by omega) jw_m_RX6_449 (Nat.le_of_ble_eq_true rfl) (Nat.le_of_ble_eq_true rfl) (Nat.le_refl _) (Nat.le_refl _) dX6_copyAll_8 ?_
  refine js_top (y := nI n) (by rw [Nat.min_self]) ?_
  refine js_copyi 0 0 n rfl rfl rfl ha hb (by omega) (by omega) (by omega) (by omega) jw_m_RX6_454 jw_an jw_as jw_ai (Nat.le_of_ble_eq_true rfl) (Nat.le_of_ble_eq_true rfl) dX6_copyAll_11 ?_
  exact jj_refl
/-- n rows of ten behind p are 0 -/
def jj_cl (S : jj_Mem) (p n : Nat) : jj_Mem := fun q j => if p + 1 ≤ q ∧ q < p + 1 + n ∧ j < 10 then some (nI 0) else S q j
theorem jj_cl_0 (S : jj_Mem) (p : Nat) : jj_cl S p 0 = S := funext fun q => funext fun j => if_neg (fun w => by omega)
theorem jj_cl_s (S : jj_Mem) (p n : Nat) : jj_row (jj_cl S p n) (p + 1 + n) 10 (fun _ => 0) = jj_cl S p (n + 1) := by
  funext q j
  unfold jj_row jj_cl
  by_cases c : q = p + 1 + n ∧ j < 10
  · rw [if_pos c, if_pos (by omega)]
  · rw [if_neg c]
    by_cases d : p + 1 ≤ q ∧ q < p + 1 + n ∧ j < 10
    · rw [if_pos d, if_pos (by omega)]
    · rw [if_neg d, if_neg (by omega)]
set_option maxRecDepth 100000 in
set_option maxHeartbeats 4000000 in
theorem lp_X6_clearRows {lay : jj_Lay} {S : jj_Mem} {p n : Nat} {rs : List (Option (Option Nat))} (hp : lay[p]? = some (22, n, rs)) (hn : n ≤ 200) (hr : ∀ j, j < n → rs[j]? = some (some (some (p + 1 + j))) ∧ lay[p + 1 + j]? = some (20, 10, [])) : ∀ (k e : Nat), e + k = n → jj_RR cX6_clearRows 2 RX6 yX6_clearRows.name none 1 23 lay.length (jj_sl lay) (2, [some (.ref p), some (.int (nI e))], [], lay, (jj_cl S p e)) none .return_ lay (jj_cl S p n) := by
  intro k
  induction k with
  | zero =>
    intro e he
    refine ⟨21, [some (.ref p), some (.int (nI e))], dX6_clearRows_21, ?_⟩
    have he : e = n := by omega
    subst he
    refine js_iload_n 1 rfl dX6_clearRows_2 rfl ?_
    refine js_aload_n 0 rfl dX6_clearRows_3 rfl ?_
    refine js_alen hp (Or.inr (Or.inr rfl)) rfl dX6_clearRows_4 ?_
    refine jn_icmp_ge 21 (by omega) (by omega) dX6_clearRows_5 (by decide) (fun _ => ?_) (fun h9 => absurd h9 (by omega))
    exact jj_refl
  | succ k ih =>
    intro e he
    refine jj_RRs ?_ (ih (e + 1) (by omega))
    refine js_iload_n 1 rfl dX6_clearRows_2 rfl ?_
    refine js_aload_n 0 rfl dX6_clearRows_3 rfl ?_
    refine js_alen hp (Or.inr (Or.inr rfl)) rfl dX6_clearRows_4 ?_
    refine jn_icmp_ge 21 (by omega) (by omega) dX6_clearRows_5 (by decide) (fun h9 => absurd h9 (by omega)) (fun _ => ?_)
    refine js_aload_n 0 rfl dX6_clearRows_8 rfl ?_
    refine js_iload_n 1 rfl dX6_clearRows_9 rfl ?_
    refine js_aald e rfl hp (by omega) (by omega) (hr e (by omega)).1 dX6_clearRows_10 ?_
    refine js_iconst (v := nI 0) dX6_clearRows_11 (by decide) ?_
    refine js_callS (av := [.ref (p + 1 + e), .int (nI 0)]) (st := []) (ct_J7_fill_53178 (c := 0) (hr e (by omega)).2 (by omega)) (Or.inl rfl) jw_c_J7_fill_53178 jw_i_RJ7 jw_m_RX6_413 jw_s_J7_fill_53178 jw_y_J7_fill_53178 rfl ⟨(Nat.le_of_ble_eq_true rfl), (Nat.le_of_ble_eq_true rfl), (Nat.le_refl _), (Nat.le_refl _), (Nat.le_of_ble_eq_true rfl)⟩ dX6_clearRows_12 ?_
    refine js_st (st' := []) rfl ?_
    rw [jj_cl_s]
    refine js_iinc (v := nI (e + 1)) (L' := [some (.ref p), some (.int (nI (e + 1)))]) dX6_clearRows_15 rfl (jj_inc _) rfl ?_
    refine js_goto 2 dX6_clearRows_18 (by decide) ?_
    exact jj_refl
set_option maxRecDepth 100000 in
set_option maxHeartbeats 4000000 in
theorem ct_X6_clearRows {lay : jj_Lay} {S : jj_Mem} {p n : Nat} {rs : List (Option (Option Nat))} (hp : lay[p]? = some (22, n, rs)) (hn : n ≤ 200) (hr : ∀ j, j < n → rs[j]? = some (some (some (p + 1 + j))) ∧ lay[p + 1 + j]? = some (20, 10, [])) : jj_CT yX6_clearRows (.code yX6_clearRows cX6_clearRows 2 none) none 1 23 [.ref p] lay S none lay (jj_cl S p n) := by
  refine jj_mkV RX6 (by decide) rfl (L := [some (.ref p), none]) rfl rfl ?_
  have h0 := lp_X6_clearRows (S := S) hp hn hr n 0 (by omega)
  rw [jj_cl_0] at h0
  refine jj_RRs ?_ h0
  refine js_iconst (v := nI 0) dX6_clearRows_0 (by decide) ?_
  refine js_istore_n (L' := [some (.ref p), some (.int (nI 0))]) 1 rfl dX6_clearRows_1 rfl (Nat.le_of_ble_eq_true rfl) ?_
  exact jj_refl
set_option maxRecDepth 100000 in
set_option maxHeartbeats 4000000 in
theorem lp_X6_addTimes {lay : jj_Lay} {S : jj_Mem} {p q n c : Nat} {rs rt : List (Option (Option Nat))} {f g : Nat → Nat} (hp : lay[p]? = some (20, n, rs)) (hq : lay[q]? = some (20, n, rt)) (hn : n ≤ 200) (hpq : p ≠ q) (hf : ∀ j, j < n → S p j = some (nI (f j))) (hg : ∀ j, j < n → S q j = some (nI (g j))) : ∀ (k e : Nat), e + k = n → jj_RR cX6_addTimes 4 RX6 yX6_addTimes.name none 0 0 lay.length (jj_sl lay) (2, [some (.ref p), some (.ref q), some (.int (nI c)), some (.int (nI e))], [], lay, (jj_row S p e (fun j => f j + g j * c))) none .return_ lay (jj_row S p n (fun j => f j + g j * c)) := by
  intro k
  induction k with
  | zero =>
    intro e he
    refine ⟨31, [some (.ref p), some (.ref q), some (.int (nI c)), some (.int (nI e))], dX6_addTimes_31, ?_⟩
    have he : e = n := by omega
    subst he
    refine js_iload_n 3 rfl dX6_addTimes_2 rfl ?_
    refine js_aload_n 0 rfl dX6_addTimes_3 rfl ?_
    refine js_alen hp (Or.inl rfl) rfl dX6_addTimes_4 ?_
    refine jn_icmp_ge 31 (by omega) (by omega) dX6_addTimes_5 (by decide) (fun _ => ?_) (fun h9 => absurd h9 (by omega))
    exact jj_refl
  | succ k ih =>
    intro e he
    refine jj_RRs ?_ (ih (e + 1) (by omega))
    refine js_iload_n 3 rfl dX6_addTimes_2 rfl ?_
    refine js_aload_n 0 rfl dX6_addTimes_3 rfl ?_
    refine js_alen hp (Or.inl rfl) rfl dX6_addTimes_4 ?_
    refine jn_icmp_ge 31 (by omega) (by omega) dX6_addTimes_5 (by decide) (fun h9 => absurd h9 (by omega)) (fun _ => ?_)
    refine js_iload_n 3 rfl dX6_addTimes_8 rfl ?_
    refine js_aload_n 1 rfl dX6_addTimes_9 rfl ?_
    refine js_alen hq (Or.inl rfl) rfl dX6_addTimes_10 ?_
    refine jn_icmp_ge 31 (by omega) (by omega) dX6_addTimes_11 (by decide) (fun h9 => absurd h9 (by omega)) (fun _ => ?_)
    refine js_aload_n 0 rfl dX6_addTimes_14 rfl ?_
    refine js_iload_n 3 rfl dX6_addTimes_15 rfl ?_
    refine js_dup2 rfl rfl dX6_addTimes_16 ?_
    refine js_iald e rfl hp (by omega) (by omega) ((jj_row_hi (Nat.le_refl _)).trans (hf e (by omega))) dX6_addTimes_17 ?_
    refine js_aload_n 1 rfl dX6_addTimes_18 rfl ?_
    refine js_iload_n 3 rfl dX6_addTimes_19 rfl ?_
    refine js_iald e rfl hq (by omega) (by omega) ((jj_row_neP (Ne.symm hpq)).trans (hg e (by omega))) dX6_addTimes_20 ?_
    refine js_iload_n 2 rfl dX6_addTimes_21 rfl ?_
    refine jn_imul dX6_addTimes_22 ?_
    refine jn_iadd dX6_addTimes_23 ?_
    refine js_iast e rfl hp (by omega) (by omega) dX6_addTimes_24 ?_
    rw [jj_row_s S p e (fun j => f j + g j * c) rfl]
    refine js_iinc (v := nI (e + 1)) (L' := [some (.ref p), some (.ref q), some (.int (nI c)), some (.int (nI (e + 1)))]) dX6_addTimes_25 rfl (jj_inc _) rfl ?_
    refine js_goto 2 dX6_addTimes_28 (by decide) ?_
    exact jj_refl
set_option maxRecDepth 100000 in
set_option maxHeartbeats 4000000 in
theorem ct_X6_addTimes {lay : jj_Lay} {S : jj_Mem} {p q n c : Nat} {rs rt : List (Option (Option Nat))} {f g : Nat → Nat} (hp : lay[p]? = some (20, n, rs)) (hq : lay[q]? = some (20, n, rt)) (hn : n ≤ 200) (hpq : p ≠ q) (hf : ∀ j, j < n → S p j = some (nI (f j))) (hg : ∀ j, j < n → S q j = some (nI (g j))) : jj_CT yX6_addTimes (.code yX6_addTimes cX6_addTimes 4 none) none 0 0 [.ref p, .ref q, .int (nI c)] lay S none lay (jj_row S p n (fun j => f j + g j * c)) := by
  refine jj_mkV RX6 (by decide) rfl (L := [some (.ref p), some (.ref q), some (.int (nI c)), none]) rfl rfl ?_
  have h0 := lp_X6_addTimes (S := S) (c := c) hp hq hn hpq hf hg n 0 (by omega)
  rw [jj_row_0] at h0
  refine jj_RRs ?_ h0
  refine js_iconst (v := nI 0) dX6_addTimes_0 (by decide) ?_
  refine js_istore_n (L' := [some (.ref p), some (.ref q), some (.int (nI c)), some (.int (nI 0))]) 3 rfl dX6_addTimes_1 rfl (Nat.le_of_ble_eq_true rfl) ?_
  exact jj_refl
/-- the places ahead of place w among the first n -/
def jj_pl (f : Nat → Nat) (w : Nat) : Nat → Nat
  | 0 => 0
  | n + 1 => if f w < f n ∨ (f n = f w ∧ n < w) then jj_pl f w n + 1 else jj_pl f w n
set_option maxRecDepth 100000 in
set_option maxHeartbeats 4000000 in
theorem lp_X6_placeOf {lay : jj_Lay} {S : jj_Mem} {p n w : Nat} {rs : List (Option (Option Nat))} {f : Nat → Nat} (hp : lay[p]? = some (20, n, rs)) (hn : n ≤ 200) (hw : w < n) (hf : ∀ j, j < n → S p j = some (nI (f j))) (hb : ∀ j, j < n → f j < 2 ^ 31) : ∀ (k e : Nat), e + k = n → jj_RR cX6_placeOf 4 RX6 yX6_placeOf.name none 0 0 lay.length (jj_sl lay) (4, [some (.ref p), some (.int (nI w)), some (.int (nI (jj_pl f w e))), some (.int (nI e))], [], lay, S) (some (.int (nI (jj_pl f w n)))) .ireturn lay S := by
  intro k
  induction k with
  | zero =>
    intro e he
    refine ⟨53, [some (.ref p), some (.int (nI w)), some (.int (nI (jj_pl f w e))), some (.int (nI e))], dX6_placeOf_53, ?_⟩
    have he : e = n := by omega
    subst he
    have hw1 := hb w hw
    refine js_iload_n 1 rfl dX6_placeOf_4 rfl ?_
    refine jn_if_lt 52 (by omega) dX6_placeOf_5 (by decide) (fun h9 => absurd h9 (by omega)) (fun _ => ?_)
    refine js_iload_n 1 rfl dX6_placeOf_8 rfl ?_
    refine js_aload_n 0 rfl dX6_placeOf_9 rfl ?_
    refine js_alen hp (Or.inl rfl) rfl dX6_placeOf_10 ?_
    refine jn_icmp_ge 52 (by omega) (by omega) dX6_placeOf_11 (by decide) (fun h9 => absurd h9 (by omega)) (fun _ => ?_)
    refine js_iload_n 3 rfl dX6_placeOf_14 rfl ?_
    refine js_aload_n 0 rfl dX6_placeOf_15 rfl ?_
    refine js_alen hp (Or.inl rfl) rfl dX6_placeOf_16 ?_
    refine jn_icmp_ge 52 (by omega) (by omega) dX6_placeOf_17 (by decide) (fun _ => ?_) (fun h9 => absurd h9 (by omega))
    refine js_iload_n 2 rfl dX6_placeOf_52 rfl ?_
    exact jj_refl
  | succ k ih =>
    intro e he
    refine jj_RRs ?_ (ih (e + 1) (by omega))
    have hw1 := hb w hw
    have he1 := hb e (by omega)
    refine js_iload_n 1 rfl dX6_placeOf_4 rfl ?_
    refine jn_if_lt 52 (by omega) dX6_placeOf_5 (by decide) (fun h9 => absurd h9 (by omega)) (fun _ => ?_)
    refine js_iload_n 1 rfl dX6_placeOf_8 rfl ?_
    refine js_aload_n 0 rfl dX6_placeOf_9 rfl ?_
    refine js_alen hp (Or.inl rfl) rfl dX6_placeOf_10 ?_
    refine jn_icmp_ge 52 (by omega) (by omega) dX6_placeOf_11 (by decide) (fun h9 => absurd h9 (by omega)) (fun _ => ?_)
    refine js_iload_n 3 rfl dX6_placeOf_14 rfl ?_
    refine js_aload_n 0 rfl dX6_placeOf_15 rfl ?_
    refine js_alen hp (Or.inl rfl) rfl dX6_placeOf_16 ?_
    refine jn_icmp_ge 52 (by omega) (by omega) dX6_placeOf_17 (by decide) (fun h9 => absurd h9 (by omega)) (fun _ => ?_)
    refine js_aload_n 0 rfl dX6_placeOf_20 rfl ?_
    refine js_iload_n 3 rfl dX6_placeOf_21 rfl ?_
    refine js_iald e rfl hp (by omega) (by omega) (hf e (by omega)) dX6_placeOf_22 ?_
    refine js_aload_n 0 rfl dX6_placeOf_23 rfl ?_
    refine js_iload_n 1 rfl dX6_placeOf_24 rfl ?_
    refine js_iald w rfl hp (by omega) (by omega) (hf w (by omega)) dX6_placeOf_25 ?_
    refine jn_icmp_gt 43 (by omega) (by omega) dX6_placeOf_26 (by decide) (fun h5 => ?_) (fun h5 => ?_)
    · refine js_iinc (v := nI ((jj_pl f w e) + 1)) (L' := [some (.ref p), some (.int (nI w)), some (.int (nI ((jj_pl f w e) + 1))), some (.int (nI e))]) dX6_placeOf_43 rfl (jj_inc _) rfl ?_
      refine js_iinc (v := nI (e + 1)) (L' := [some (.ref p), some (.int (nI w)), some (.int (nI ((jj_pl f w e) + 1))), some (.int (nI (e + 1)))]) dX6_placeOf_46 rfl (jj_inc _) rfl ?_
      refine js_goto 4 dX6_placeOf_49 (by decide) ?_
      have h7 : jj_pl f w (e + 1) = jj_pl f w e + 1 := if_pos (by omega)
      rw [h7]
      exact jj_refl
    · refine js_aload_n 0 rfl dX6_placeOf_29 rfl ?_
      refine js_iload_n 3 rfl dX6_placeOf_30 rfl ?_
      refine js_iald e rfl hp (by omega) (by omega) (hf e (by omega)) dX6_placeOf_31 ?_
      refine js_aload_n 0 rfl dX6_placeOf_32 rfl ?_
      refine js_iload_n 1 rfl dX6_placeOf_33 rfl ?_
      refine js_iald w rfl hp (by omega) (by omega) (hf w (by omega)) dX6_placeOf_34 ?_
      refine jn_icmp_ne 46 (by omega) (by omega) dX6_placeOf_35 (by decide) (fun h6 => ?_) (fun h6 => ?_)
      · refine js_iinc (v := nI (e + 1)) (L' := [some (.ref p), some (.int (nI w)), some (.int (nI (jj_pl f w e))), some (.int (nI (e + 1)))]) dX6_placeOf_46 rfl (jj_inc _) rfl ?_
        refine js_goto 4 dX6_placeOf_49 (by decide) ?_
        have h7 : jj_pl f w (e + 1) = jj_pl f w e := if_neg (by omega)
        rw [h7]
        exact jj_refl
      · refine js_iload_n 3 rfl dX6_placeOf_38 rfl ?_
        refine js_iload_n 1 rfl dX6_placeOf_39 rfl ?_
        refine jn_icmp_ge 46 (by omega) (by omega) dX6_placeOf_40 (by decide) (fun h8 => ?_) (fun h8 => ?_)
        · refine js_iinc (v := nI (e + 1)) (L' := [some (.ref p), some (.int (nI w)), some (.int (nI (jj_pl f w e))), some (.int (nI (e + 1)))]) dX6_placeOf_46 rfl (jj_inc _) rfl ?_
          refine js_goto 4 dX6_placeOf_49 (by decide) ?_
          have h7 : jj_pl f w (e + 1) = jj_pl f w e := if_neg (by omega)
          rw [h7]
          exact jj_refl
        · refine js_iinc (v := nI ((jj_pl f w e) + 1)) (L' := [some (.ref p), some (.int (nI w)), some (.int (nI ((jj_pl f w e) + 1))), some (.int (nI e))]) dX6_placeOf_43 rfl (jj_inc _) rfl ?_
          refine js_iinc (v := nI (e + 1)) (L' := [some (.ref p), some (.int (nI w)), some (.int (nI ((jj_pl f w e) + 1))), some (.int (nI (e + 1)))]) dX6_placeOf_46 rfl (jj_inc _) rfl ?_
          refine js_goto 4 dX6_placeOf_49 (by decide) ?_
          have h7 : jj_pl f w (e + 1) = jj_pl f w e + 1 := if_pos (by omega)
          rw [h7]
          exact jj_refl
set_option maxRecDepth 100000 in
set_option maxHeartbeats 4000000 in
theorem ct_X6_placeOf {lay : jj_Lay} {S : jj_Mem} {p n w : Nat} {rs : List (Option (Option Nat))} {f : Nat → Nat} (hp : lay[p]? = some (20, n, rs)) (hn : n ≤ 200) (hw : w < n) (hf : ∀ j, j < n → S p j = some (nI (f j))) (hb : ∀ j, j < n → f j < 2 ^ 31) : jj_CT yX6_placeOf (.code yX6_placeOf cX6_placeOf 4 (some .int)) none 0 0 [.ref p, .int (nI w)] lay S (some (.int (nI (jj_pl f w n)))) lay S := by
  refine jj_mkI RX6 .int (by decide) rfl (L := [some (.ref p), some (.int (nI w)), none, none]) rfl rfl rfl ?_
  refine jj_RRs ?_ (lp_X6_placeOf (f := f) hp hn hw hf hb n 0 (by omega))
  refine js_iconst (v := nI 0) dX6_placeOf_0 (by decide) ?_
  refine js_istore_n (L' := [some (.ref p), some (.int (nI w)), some (.int (nI 0)), none]) 2 rfl dX6_placeOf_1 rfl (Nat.le_of_ble_eq_true rfl) ?_
  refine js_iconst (v := nI 0) dX6_placeOf_2 (by decide) ?_
  refine js_istore_n (L' := [some (.ref p), some (.int (nI w)), some (.int (nI 0)), some (.int (nI 0))]) 3 rfl dX6_placeOf_3 rfl (Nat.le_of_ble_eq_true rfl) ?_
  exact jj_refl
set_option maxRecDepth 100000 in
set_option maxHeartbeats 4000000 in
theorem lp_X6_columnSum {lay : jj_Lay} {S : jj_Mem} {p n w : Nat} {rs : List (Option (Option Nat))} {g : Nat → Nat → Nat} (hp : lay[p]? = some (22, n, rs)) (hn : n ≤ 200) (hr : ∀ j, j < n → rs[j]? = some (some (some (p + 1 + j))) ∧ lay[p + 1 + j]? = some (20, 10, [])) (hw : w < 10) (hg : ∀ j, j < n → S (p + 1 + j) w = some (nI (g j w))) : ∀ (k e : Nat), e + k = n → jj_RR cX6_columnSum 4 RX6 yX6_columnSum.name none 0 0 lay.length (jj_sl lay) (4, [some (.ref p), some (.int (nI w)), some (.int (nI (jj_sm (fun j => g j w) e))), some (.int (nI e))], [], lay, S) (some (.int (nI (jj_sm (fun j => g j w) n)))) .ireturn lay S := by
  intro k
  induction k with
  | zero =>
    intro e he
    refine ⟨37, [some (.ref p), some (.int (nI w)), some (.int (nI (jj_sm (fun j => g j w) e))), some (.int (nI e))], dX6_columnSum_37, ?_⟩
    have he : e = n := by omega
    subst he
    refine js_iload_n 3 rfl dX6_columnSum_4 rfl ?_
    refine js_aload_n 0 rfl dX6_columnSum_5 rfl ?_
    refine js_alen hp (Or.inr (Or.inr rfl)) rfl dX6_columnSum_6 ?_
    refine jn_icmp_ge 36 (by omega) (by omega) dX6_columnSum_7 (by decide) (fun _ => ?_) (fun h9 => absurd h9 (by omega))
    refine js_iload_n 2 rfl dX6_columnSum_36 rfl ?_
    exact jj_refl
  | succ k ih =>
    intro e he
    refine jj_RRs ?_ (ih (e + 1) (by omega))
    refine js_iload_n 3 rfl dX6_columnSum_4 rfl ?_
    refine js_aload_n 0 rfl dX6_columnSum_5 rfl ?_
    refine js_alen hp (Or.inr (Or.inr rfl)) rfl dX6_columnSum_6 ?_
    refine jn_icmp_ge 36 (by omega) (by omega) dX6_columnSum_7 (by decide) (fun h9 => absurd h9 (by omega)) (fun _ => ?_)
    refine js_iload_n 1 rfl dX6_columnSum_10 rfl ?_
    refine jn_if_lt 30 (by omega) dX6_columnSum_11 (by decide) (fun h9 => absurd h9 (by omega)) (fun _ => ?_)
    refine js_iload_n 1 rfl dX6_columnSum_14 rfl ?_
    refine js_aload_n 0 rfl dX6_columnSum_15 rfl ?_
    refine js_iload_n 3 rfl dX6_columnSum_16 rfl ?_
    refine js_aald e rfl hp (by omega) (by omega) (hr e (by omega)).1 dX6_columnSum_17 ?_
    refine js_alen (hr e (by omega)).2 (Or.inl rfl) rfl dX6_columnSum_18 ?_
    refine jn_icmp_ge 30 (by omega) (by omega) dX6_columnSum_19 (by decide) (fun h9 => absurd h9 (by omega)) (fun _ => ?_)
    refine js_iload_n 2 rfl dX6_columnSum_22 rfl ?_
    refine js_aload_n 0 rfl dX6_columnSum_23 rfl ?_
    refine js_iload_n 3 rfl dX6_columnSum_24 rfl ?_
    refine js_aald e rfl hp (by omega) (by omega) (hr e (by omega)).1 dX6_columnSum_25 ?_
    refine js_iload_n 1 rfl dX6_columnSum_26 rfl ?_
    refine js_iald w rfl (hr e (by omega)).2 (by omega) (by decide) (hg e (by omega)) dX6_columnSum_27 ?_
    refine jn_iadd dX6_columnSum_28 ?_
    refine js_istore_n (L' := [some (.ref p), some (.int (nI w)), some (.int (nI (((jj_sm (fun j => g j w) e)) + ((g e w))))), some (.int (nI e))]) 2 rfl dX6_columnSum_29 rfl (Nat.le_of_ble_eq_true rfl) ?_
    refine js_iinc (v := nI (e + 1)) (L' := [some (.ref p), some (.int (nI w)), some (.int (nI (((jj_sm (fun j => g j w) e)) + ((g e w))))), some (.int (nI (e + 1)))]) dX6_columnSum_30 rfl (jj_inc _) rfl ?_
    refine js_goto 4 dX6_columnSum_33 (by decide) ?_
    exact jj_refl
set_option maxRecDepth 100000 in
set_option maxHeartbeats 4000000 in
theorem ct_X6_columnSum {lay : jj_Lay} {S : jj_Mem} {p n w : Nat} {rs : List (Option (Option Nat))} {g : Nat → Nat → Nat} (hp : lay[p]? = some (22, n, rs)) (hn : n ≤ 200) (hr : ∀ j, j < n → rs[j]? = some (some (some (p + 1 + j))) ∧ lay[p + 1 + j]? = some (20, 10, [])) (hw : w < 10) (hg : ∀ j, j < n → S (p + 1 + j) w = some (nI (g j w))) : jj_CT yX6_columnSum (.code yX6_columnSum cX6_columnSum 4 (some .int)) none 0 0 [.ref p, .int (nI w)] lay S (some (.int (nI (jj_sm (fun j => g j w) n)))) lay S := by
  refine jj_mkI RX6 .int (by decide) rfl (L := [some (.ref p), some (.int (nI w)), none, none]) rfl rfl rfl ?_
  refine jj_RRs ?_ (lp_X6_columnSum (g := g) hp hn hr hw hg n 0 (by omega))
  refine js_iconst (v := nI 0) dX6_columnSum_0 (by decide) ?_
  refine js_istore_n (L' := [some (.ref p), some (.int (nI w)), some (.int (nI 0)), none]) 2 rfl dX6_columnSum_1 rfl (Nat.le_of_ble_eq_true rfl) ?_
  refine js_iconst (v := nI 0) dX6_columnSum_2 (by decide) ?_
  refine js_istore_n (L' := [some (.ref p), some (.int (nI w)), some (.int (nI 0)), some (.int (nI 0))]) 3 rfl dX6_columnSum_3 rfl (Nat.le_of_ble_eq_true rfl) ?_
  exact jj_refl
set_option maxRecDepth 100000 in
set_option maxHeartbeats 4000000 in
theorem ct_X6_needRecording {lay : jj_Lay} {S : jj_Mem} {a : Nat} (ha : a < 10) : jj_CT yX6_needRecording (.code yX6_needRecording cX6_needRecording 1 none) none 0 0 [.int (nI a)] lay S none lay S := by
  refine jj_mkV RX6 (by decide) rfl (L := [some (.int (nI a))]) rfl rfl ⟨21, [some (.int (nI a))], dX6_needRecording_21, ?_⟩
  refine js_iload_n 0 rfl dX6_needRecording_0 rfl ?_
  refine jn_if_lt 10 (by omega) dX6_needRecording_1 (by decide) (fun h9 => absurd h9 (by omega)) (fun _ => ?_)
  refine js_iload_n 0 rfl dX6_needRecording_4 rfl ?_
  refine js_bipush (v := nI 10) dX6_needRecording_5 (by decide) ?_
  refine jn_icmp_lt 21 (by omega) (by omega) dX6_needRecording_7 (by decide) (fun _ => ?_) (fun h9 => absurd h9 (by omega))
  exact jj_refl
set_option maxRecDepth 100000 in
set_option maxHeartbeats 4000000 in
theorem ct_X6_needParty {lay : jj_Lay} {S : jj_Mem} {a : Nat} (ha : a < 5) : jj_CT yX6_needParty (.code yX6_needParty cX6_needParty 1 none) none 0 0 [.int (nI a)] lay S none lay S := by
  refine jj_mkV RX6 (by decide) rfl (L := [some (.int (nI a))]) rfl rfl ⟨20, [some (.int (nI a))], dX6_needParty_20, ?_⟩
  refine js_iload_n 0 rfl dX6_needParty_0 rfl ?_
  refine jn_if_lt 9 (by omega) dX6_needParty_1 (by decide) (fun h9 => absurd h9 (by omega)) (fun _ => ?_)
  refine js_iload_n 0 rfl dX6_needParty_4 rfl ?_
  refine js_iconst (v := nI 5) dX6_needParty_5 (by decide) ?_
  refine jn_icmp_lt 20 (by omega) (by omega) dX6_needParty_6 (by decide) (fun _ => ?_) (fun h9 => absurd h9 (by omega))
  exact jj_refl
set_option maxRecDepth 100000 in
set_option maxHeartbeats 4000000 in
theorem ct_X6_needLand {lay : jj_Lay} {S : jj_Mem} {a : Nat} (ha : a < 4) : jj_CT yX6_needLand (.code yX6_needLand cX6_needLand 1 none) none 0 0 [.int (nI a)] lay S none lay S := by
  refine jj_mkV RX6 (by decide) rfl (L := [some (.int (nI a))]) rfl rfl ⟨20, [some (.int (nI a))], dX6_needLand_20, ?_⟩
  refine js_iload_n 0 rfl dX6_needLand_0 rfl ?_
  refine jn_if_lt 9 (by omega) dX6_needLand_1 (by decide) (fun h9 => absurd h9 (by omega)) (fun _ => ?_)
  refine js_iload_n 0 rfl dX6_needLand_4 rfl ?_
  refine js_iconst (v := nI 4) dX6_needLand_5 (by decide) ?_
  refine jn_icmp_lt 20 (by omega) (by omega) dX6_needLand_6 (by decide) (fun _ => ?_) (fun h9 => absurd h9 (by omega))
  exact jj_refl
set_option maxRecDepth 100000 in
set_option maxHeartbeats 4000000 in
theorem ct_X6_needPlan {lay : jj_Lay} {S : jj_Mem} {a : Nat} (ha : a < 3) : jj_CT yX6_needPlan (.code yX6_needPlan cX6_needPlan 1 none) none 0 0 [.int (nI a)] lay S none lay S := by
  refine jj_mkV RX6 (by decide) rfl (L := [some (.int (nI a))]) rfl rfl ⟨20, [some (.int (nI a))], dX6_needPlan_20, ?_⟩
  refine js_iload_n 0 rfl dX6_needPlan_0 rfl ?_
  refine jn_if_lt 9 (by omega) dX6_needPlan_1 (by decide) (fun h9 => absurd h9 (by omega)) (fun _ => ?_)
  refine js_iload_n 0 rfl dX6_needPlan_4 rfl ?_
  refine js_iconst (v := nI 3) dX6_needPlan_5 (by decide) ?_
  refine jn_icmp_lt 20 (by omega) (by omega) dX6_needPlan_6 (by decide) (fun _ => ?_) (fun h9 => absurd h9 (by omega))
  exact jj_refl
set_option maxRecDepth 100000 in
set_option maxHeartbeats 4000000 in
theorem ct_X6_needRule {lay : jj_Lay} {S : jj_Mem} {a : Nat} (ha : a < 2) : jj_CT yX6_needRule (.code yX6_needRule cX6_needRule 1 none) none 0 0 [.int (nI a)] lay S none lay S := by
  refine jj_mkV RX6 (by decide) rfl (L := [some (.int (nI a))]) rfl rfl ⟨20, [some (.int (nI a))], dX6_needRule_20, ?_⟩
  refine js_iload_n 0 rfl dX6_needRule_0 rfl ?_
  refine jn_if_lt 9 (by omega) dX6_needRule_1 (by decide) (fun h9 => absurd h9 (by omega)) (fun _ => ?_)
  refine js_iload_n 0 rfl dX6_needRule_4 rfl ?_
  refine js_iconst (v := nI 2) dX6_needRule_5 (by decide) ?_
  refine jn_icmp_lt 20 (by omega) (by omega) dX6_needRule_6 (by decide) (fun _ => ?_) (fun h9 => absurd h9 (by omega))
  exact jj_refl
set_option maxRecDepth 100000 in
set_option maxHeartbeats 4000000 in
theorem ct_X6_needTrack {lay : jj_Lay} {S : jj_Mem} {a n : Nat} (hB : jj_pp lay) (ha : a < n) (hn : n < 2 ^ 31) (hS : S 1 0 = some (nI n)) : jj_CT yX6_needTrack (.code yX6_needTrack cX6_needTrack 2 none) none 0 0 [.ref 0, .int (nI a)] lay S none lay S := by
  refine jj_mkV RX6 (by decide) rfl (L := [some (.ref 0), some (.int (nI a))]) rfl rfl ⟨26, [some (.ref 0), some (.int (nI a))], dX6_needTrack_26, ?_⟩
  refine js_iload_n 1 rfl dX6_needTrack_0 rfl ?_
  refine jn_if_lt 15 (by omega) dX6_needTrack_1 (by decide) (fun h9 => absurd h9 (by omega)) (fun _ => ?_)
  refine js_iload_n 1 rfl dX6_needTrack_4 rfl ?_
  refine js_aload_n 0 rfl dX6_needTrack_5 rfl ?_
  refine js_getr 0 jw_f_RX6_12 (jl_0 hB) rfl (Nat.le_of_ble_eq_true rfl) rfl dX6_needTrack_6 ?_
  refine js_getNi 0 jw_n_RX6_72 (jl_1 hB) rfl (Nat.le_of_ble_eq_true rfl) rfl (hS) dX6_needTrack_9 ?_
  refine jn_icmp_lt 26 (by omega) (by omega) dX6_needTrack_12 (by decide) (fun _ => ?_) (fun h9 => absurd h9 (by omega))
  exact jj_refl
set_option maxRecDepth 100000 in
set_option maxHeartbeats 4000000 in
theorem ct_X6_needListener {lay : jj_Lay} {S : jj_Mem} {a n : Nat} (hB : jj_pp lay) (ha : a < n) (hn : n < 2 ^ 31) (hS : S 20 0 = some (nI n)) : jj_CT yX6_needListener (.code yX6_needListener cX6_needListener 2 none) none 0 0 [.ref 0, .int (nI a)] lay S none lay S := by
  refine jj_mkV RX6 (by decide) rfl (L := [some (.ref 0), some (.int (nI a))]) rfl rfl ⟨26, [some (.ref 0), some (.int (nI a))], dX6_needListener_26, ?_⟩
  refine js_iload_n 1 rfl dX6_needListener_0 rfl ?_
  refine jn_if_lt 15 (by omega) dX6_needListener_1 (by decide) (fun h9 => absurd h9 (by omega)) (fun _ => ?_)
  refine js_iload_n 1 rfl dX6_needListener_4 rfl ?_
  refine js_aload_n 0 rfl dX6_needListener_5 rfl ?_
  refine js_getr 2 jw_f_RX6_26 (jl_0 hB) rfl (Nat.le_of_ble_eq_true rfl) rfl dX6_needListener_6 ?_
  refine js_getNi 0 jw_n_RX6_144 (jl_20 hB) rfl (Nat.le_of_ble_eq_true rfl) rfl (hS) dX6_needListener_9 ?_
  refine jn_icmp_lt 26 (by omega) (by omega) dX6_needListener_12 (by decide) (fun _ => ?_) (fun h9 => absurd h9 (by omega))
  exact jj_refl
set_option maxRecDepth 100000 in
set_option maxHeartbeats 4000000 in
theorem ct_X6_isClosed {lay : jj_Lay} {S : jj_Mem} {m t : Nat} (hB : jj_pp lay) (hm : m < 2 ^ 31) (ht : t < 2 ^ 31) (hS : S 0 9 = some (nI t)) : jj_CT yX6_isClosed (.code yX6_isClosed cX6_isClosed 2 (some .boolean)) none 1 20 [.ref 0, .int (nI m)] lay S (some (.int (nI (jj_b (decide (m / 14400 < t / 14400)))))) lay S := by
  by_cases h : m / 14400 < t / 14400
  · rw [show jj_b (decide (m / 14400 < t / 14400)) = 1 by simp [jj_b, h]]
    refine jj_mkI RX6 .boolean (by decide) rfl (L := [some (.ref 0), some (.int (nI m))]) rfl rfl rfl ⟨19, [some (.ref 0), some (.int (nI m))], dX6_isClosed_19, ?_⟩
    refine js_iload_n 1 rfl dX6_isClosed_0 rfl ?_
    refine js_callS (av := [.int (nI m)]) (st := []) (ct_X6_monthOf hm) (Or.inl rfl) jw_c_X6_monthOf jw_i_RX6 jw_m_RX6_207 jw_s_X6_monthOf jw_y_X6_monthOf rfl ⟨(Nat.le_of_ble_eq_true rfl), (Nat.le_of_ble_eq_true rfl), (Nat.le_refl _), (Nat.le_refl _), (Nat.le_of_ble_eq_true rfl)⟩ dX6_isClosed_1 ?_
    refine js_st (st' := [.int (nI (m / 14400))]) rfl ?_
    refine js_aload_n 0 rfl dX6_isClosed_4 rfl ?_
    refine js_geti 9 jw_f_RX6_61 (jl_0 hB) rfl (Nat.le_of_ble_eq_true rfl) rfl (hS) dX6_isClosed_5 ?_
    refine js_callS (av := [.int (nI t)]) (st := [.int (nI (m / 14400))]) (ct_X6_monthOf ht) (Or.inl rfl) jw_c_X6_monthOf jw_i_RX6 jw_m_RX6_207 jw_s_X6_monthOf jw_y_X6_monthOf rfl ⟨(Nat.le_of_ble_eq_true rfl), (Nat.le_of_ble_eq_true rfl), (Nat.le_refl _), (Nat.le_refl _), (Nat.le_of_ble_eq_true rfl)⟩ dX6_isClosed_8 ?_
    refine js_st (st' := [.int (nI (t / 14400)), .int (nI (m / 14400))]) rfl ?_
    refine jn_icmp_ge 18 (by omega) (by omega) dX6_isClosed_11 (by decide) (fun h9 => absurd h9 (by omega)) (fun _ => ?_)
    refine js_iconst (v := nI 1) dX6_isClosed_14 (by decide) ?_
    refine js_goto 19 dX6_isClosed_15 (by decide) ?_
    exact jj_refl
  · rw [show jj_b (decide (m / 14400 < t / 14400)) = 0 by simp [jj_b, h]]
    refine jj_mkI RX6 .boolean (by decide) rfl (L := [some (.ref 0), some (.int (nI m))]) rfl rfl rfl ⟨19, [some (.ref 0), some (.int (nI m))], dX6_isClosed_19, ?_⟩
    refine js_iload_n 1 rfl dX6_isClosed_0 rfl ?_
    refine js_callS (av := [.int (nI m)]) (st := []) (ct_X6_monthOf hm) (Or.inl rfl) jw_c_X6_monthOf jw_i_RX6 jw_m_RX6_207 jw_s_X6_monthOf jw_y_X6_monthOf rfl ⟨(Nat.le_of_ble_eq_true rfl), (Nat.le_of_ble_eq_true rfl), (Nat.le_refl _), (Nat.le_refl _), (Nat.le_of_ble_eq_true rfl)⟩ dX6_isClosed_1 ?_
    refine js_st (st' := [.int (nI (m / 14400))]) rfl ?_
    refine js_aload_n 0 rfl dX6_isClosed_4 rfl ?_
    refine js_geti 9 jw_f_RX6_61 (jl_0 hB) rfl (Nat.le_of_ble_eq_true rfl) rfl (hS) dX6_isClosed_5 ?_
    refine js_callS (av := [.int (nI t)]) (st := [.int (nI (m / 14400))]) (ct_X6_monthOf ht) (Or.inl rfl) jw_c_X6_monthOf jw_i_RX6 jw_m_RX6_207 jw_s_X6_monthOf jw_y_X6_monthOf rfl ⟨(Nat.le_of_ble_eq_true rfl), (Nat.le_of_ble_eq_true rfl), (Nat.le_refl _), (Nat.le_refl _), (Nat.le_of_ble_eq_true rfl)⟩ dX6_isClosed_8 ?_
    refine js_st (st' := [.int (nI (t / 14400)), .int (nI (m / 14400))]) rfl ?_
    refine jn_icmp_ge 18 (by omega) (by omega) dX6_isClosed_11 (by decide) (fun _ => ?_) (fun h9 => absurd h9 (by omega))
    refine js_iconst (v := nI 0) dX6_isClosed_18 (by decide) ?_
    exact jj_refl

/-! CHANGES: track, window, claim, listener, flag, play, pass. -/
theorem jj_bs_mono {S S' : jj_Mem} {b h x : Nat} {ca ge he du pa ad re : Nat → Nat} (q : jj_bs S b h x ca ge he du pa ad re) (e : ∀ p, b ≤ p → p ≤ b + 7 → ∀ j, S' p j = S p j) : jj_bs S' b h x ca ge he du pa ad re := by
  obtain ⟨b0, b1, b2, b3, b4, b5, b6, b7, b8⟩ := q
  exact ⟨(e _ (by omega) (by omega) _).trans b0, (e _ (by omega) (by omega) _).trans b1, fun j hj => (e _ (by omega) (by omega) _).trans (b2 j hj), fun j hj => (e _ (by omega) (by omega) _).trans (b3 j hj), fun j hj => (e _ (by omega) (by omega) _).trans (b4 j hj), fun j hj => (e _ (by omega) (by omega) _).trans (b5 j hj), fun j hj => (e _ (by omega) (by omega) _).trans (b6 j hj), fun j hj => (e _ (by omega) (by omega) _).trans (b7 j hj), fun j hj => (e _ (by omega) (by omega) _).trans (b8 j hj)⟩
/-- what a PlayPool holds, by numbers -/

def jj_P : Type := Nat × Nat × Nat × Nat × Nat × Nat × Nat × (Nat → Nat) × (Nat → Nat) × (Nat → Nat) × (Nat → Nat) × (Nat → Nat) × (Nat → Nat) × (Nat → Nat) × (Nat → Nat) × (Nat → Nat) × (Nat → Nat) × (Nat → Nat) × (Nat → Nat) × (Nat → Nat) × (Nat → Nat) × (Nat → Nat) × (Nat → Nat) × (Nat → Int32) × (Nat → Int32) × (Nat → Int32) × (Nat → Int32) × (Nat → Int32) × (Nat → Nat → Nat) × (Nat → Nat → Nat) × (Nat → Nat → Nat) × (Nat → Nat → Nat)
abbrev jj_P.n (P : jj_P) : Nat := P.1
abbrev jj_P.t (P : jj_P) : Nat := P.2.1
abbrev jj_P.nt (P : jj_P) : Nat := P.2.2.1
abbrev jj_P.wn (P : jj_P) : Nat := P.2.2.2.1
abbrev jj_P.cnt (P : jj_P) : Nat := P.2.2.2.2.1
abbrev jj_P.h (P : jj_P) : Nat := P.2.2.2.2.2.1
abbrev jj_P.x (P : jj_P) : Nat := P.2.2.2.2.2.2.1
abbrev jj_P.li (P : jj_P) : Nat → Nat := P.2.2.2.2.2.2.2.1
abbrev jj_P.tr (P : jj_P) : Nat → Nat := P.2.2.2.2.2.2.2.2.1
abbrev jj_P.mi (P : jj_P) : Nat → Nat := P.2.2.2.2.2.2.2.2.2.1
abbrev jj_P.rs (P : jj_P) : Nat → Nat := P.2.2.2.2.2.2.2.2.2.2.1
abbrev jj_P.rc (P : jj_P) : Nat → Nat := P.2.2.2.2.2.2.2.2.2.2.2.1
abbrev jj_P.ld (P : jj_P) : Nat → Nat := P.2.2.2.2.2.2.2.2.2.2.2.2.1
abbrev jj_P.pl (P : jj_P) : Nat → Nat := P.2.2.2.2.2.2.2.2.2.2.2.2.2.1
abbrev jj_P.fl (P : jj_P) : Nat → Nat := P.2.2.2.2.2.2.2.2.2.2.2.2.2.2.1
abbrev jj_P.ca (P : jj_P) : Nat → Nat := P.2.2.2.2.2.2.2.2.2.2.2.2.2.2.2.1
abbrev jj_P.ge (P : jj_P) : Nat → Nat := P.2.2.2.2.2.2.2.2.2.2.2.2.2.2.2.2.1
abbrev jj_P.he (P : jj_P) : Nat → Nat := P.2.2.2.2.2.2.2.2.2.2.2.2.2.2.2.2.2.1
abbrev jj_P.du (P : jj_P) : Nat → Nat := P.2.2.2.2.2.2.2.2.2.2.2.2.2.2.2.2.2.2.1
abbrev jj_P.pa (P : jj_P) : Nat → Nat := P.2.2.2.2.2.2.2.2.2.2.2.2.2.2.2.2.2.2.2.1
abbrev jj_P.ad (P : jj_P) : Nat → Nat := P.2.2.2.2.2.2.2.2.2.2.2.2.2.2.2.2.2.2.2.2.1
abbrev jj_P.re (P : jj_P) : Nat → Nat := P.2.2.2.2.2.2.2.2.2.2.2.2.2.2.2.2.2.2.2.2.2.1
abbrev jj_P.pe (P : jj_P) : Nat → Nat := P.2.2.2.2.2.2.2.2.2.2.2.2.2.2.2.2.2.2.2.2.2.2.1
abbrev jj_P.se (P : jj_P) : Nat → Int32 := P.2.2.2.2.2.2.2.2.2.2.2.2.2.2.2.2.2.2.2.2.2.2.2.1
abbrev jj_P.w0 (P : jj_P) : Nat → Int32 := P.2.2.2.2.2.2.2.2.2.2.2.2.2.2.2.2.2.2.2.2.2.2.2.2.1
abbrev jj_P.w1 (P : jj_P) : Nat → Int32 := P.2.2.2.2.2.2.2.2.2.2.2.2.2.2.2.2.2.2.2.2.2.2.2.2.2.1
abbrev jj_P.w2 (P : jj_P) : Nat → Int32 := P.2.2.2.2.2.2.2.2.2.2.2.2.2.2.2.2.2.2.2.2.2.2.2.2.2.2.1
abbrev jj_P.w3 (P : jj_P) : Nat → Int32 := P.2.2.2.2.2.2.2.2.2.2.2.2.2.2.2.2.2.2.2.2.2.2.2.2.2.2.2.1
abbrev jj_P.ev (P : jj_P) : Nat → Nat → Nat := P.2.2.2.2.2.2.2.2.2.2.2.2.2.2.2.2.2.2.2.2.2.2.2.2.2.2.2.2.1
abbrev jj_P.im (P : jj_P) : Nat → Nat → Nat := P.2.2.2.2.2.2.2.2.2.2.2.2.2.2.2.2.2.2.2.2.2.2.2.2.2.2.2.2.2.1
abbrev jj_P.od (P : jj_P) : Nat → Nat → Nat := P.2.2.2.2.2.2.2.2.2.2.2.2.2.2.2.2.2.2.2.2.2.2.2.2.2.2.2.2.2.2.1
abbrev jj_P.cl (P : jj_P) : Nat → Nat → Nat := P.2.2.2.2.2.2.2.2.2.2.2.2.2.2.2.2.2.2.2.2.2.2.2.2.2.2.2.2.2.2.2
abbrev jj_mkP (n : Nat) (t : Nat) (nt : Nat) (wn : Nat) (cnt : Nat) (h : Nat) (x : Nat) (li : Nat → Nat) (tr : Nat → Nat) (mi : Nat → Nat) (rs : Nat → Nat) (rc : Nat → Nat) (ld : Nat → Nat) (pl : Nat → Nat) (fl : Nat → Nat) (ca : Nat → Nat) (ge : Nat → Nat) (he : Nat → Nat) (du : Nat → Nat) (pa : Nat → Nat) (ad : Nat → Nat) (re : Nat → Nat) (pe : Nat → Nat) (se : Nat → Int32) (w0 : Nat → Int32) (w1 : Nat → Int32) (w2 : Nat → Int32) (w3 : Nat → Int32) (ev : Nat → Nat → Nat) (im : Nat → Nat → Nat) (od : Nat → Nat → Nat) (cl : Nat → Nat → Nat) : jj_P := (n, t, nt, wn, cnt, h, x, li, tr, mi, rs, rc, ld, pl, fl, ca, ge, he, du, pa, ad, re, pe, se, w0, w1, w2, w3, ev, im, od, cl)
def jj_J (S : jj_Mem) (P : jj_P) : Prop := (jj_lg S P.n P.li P.tr P.mi P.rs P.se) ∧ (jj_tk S P.nt P.rc) ∧ (jj_wi S P.wn P.w0 P.w1 P.w2 P.w3) ∧ (jj_au S P.cnt P.ld P.pl) ∧ (∀ j, j < 8 → S 23 j = some (nI (P.fl j)) ∧ P.fl j ≤ 1) ∧ (S 0 9 = some (nI P.t)) ∧ (S 0 10 = some (nI 0)) ∧ (jj_rw8 S 44 P.ev) ∧ (jj_rw8 S 53 P.im) ∧ (jj_rw8 S 62 P.od) ∧ (jj_cm S P.cl) ∧ (jj_bs S 70 P.h P.x P.ca P.ge P.he P.du P.pa P.ad P.re) ∧ (∀ j, j < 8 → S 24 j = some (nI (P.pe j))) ∧ (∀ j, j < 8 → S 25 j = some (nI 0)) ∧ (∀ j, P.n ≤ j → j < 130 → S 40 j = some (nI 0)) ∧ (P.t < 100000) ∧ (∀ k, k < P.n → P.li k < P.cnt) ∧ (∀ k, k < P.n → P.tr k < P.nt) ∧ (∀ k, k < P.n → P.mi k ≤ P.t) ∧ (∀ a b, a ≤ b → b < P.n → P.mi a ≤ P.mi b) ∧ (∀ j, j < P.n → P.rs j ≤ 5) ∧ (∀ j, P.ad j = 0)
theorem jj_J.lg {S : jj_Mem} {P : jj_P} (h : jj_J S P) : jj_lg S P.n P.li P.tr P.mi P.rs P.se := h.1
theorem jj_J.tk {S : jj_Mem} {P : jj_P} (h : jj_J S P) : jj_tk S P.nt P.rc := h.2.1
theorem jj_J.wi {S : jj_Mem} {P : jj_P} (h : jj_J S P) : jj_wi S P.wn P.w0 P.w1 P.w2 P.w3 := h.2.2.1
theorem jj_J.au {S : jj_Mem} {P : jj_P} (h : jj_J S P) : jj_au S P.cnt P.ld P.pl := h.2.2.2.1
theorem jj_J.fl {S : jj_Mem} {P : jj_P} (h : jj_J S P) : ∀ j, j < 8 → S 23 j = some (nI (P.fl j)) ∧ P.fl j ≤ 1 := h.2.2.2.2.1
theorem jj_J.now {S : jj_Mem} {P : jj_P} (h : jj_J S P) : S 0 9 = some (nI P.t) := h.2.2.2.2.2.1
theorem jj_J.ru {S : jj_Mem} {P : jj_P} (h : jj_J S P) : S 0 10 = some (nI 0) := h.2.2.2.2.2.2.1
theorem jj_J.ev {S : jj_Mem} {P : jj_P} (h : jj_J S P) : jj_rw8 S 44 P.ev := h.2.2.2.2.2.2.2.1
theorem jj_J.im {S : jj_Mem} {P : jj_P} (h : jj_J S P) : jj_rw8 S 53 P.im := h.2.2.2.2.2.2.2.2.1
theorem jj_J.od {S : jj_Mem} {P : jj_P} (h : jj_J S P) : jj_rw8 S 62 P.od := h.2.2.2.2.2.2.2.2.2.1
theorem jj_J.cm {S : jj_Mem} {P : jj_P} (h : jj_J S P) : jj_cm S P.cl := h.2.2.2.2.2.2.2.2.2.2.1
theorem jj_J.bs {S : jj_Mem} {P : jj_P} (h : jj_J S P) : jj_bs S 70 P.h P.x P.ca P.ge P.he P.du P.pa P.ad P.re := h.2.2.2.2.2.2.2.2.2.2.2.1
theorem jj_J.pe {S : jj_Mem} {P : jj_P} (h : jj_J S P) : ∀ j, j < 8 → S 24 j = some (nI (P.pe j)) := h.2.2.2.2.2.2.2.2.2.2.2.2.1
theorem jj_J.kc {S : jj_Mem} {P : jj_P} (h : jj_J S P) : ∀ j, j < 8 → S 25 j = some (nI 0) := h.2.2.2.2.2.2.2.2.2.2.2.2.2.1
theorem jj_J.z40 {S : jj_Mem} {P : jj_P} (h : jj_J S P) : ∀ j, P.n ≤ j → j < 130 → S 40 j = some (nI 0) := h.2.2.2.2.2.2.2.2.2.2.2.2.2.2.1
theorem jj_J.ht {S : jj_Mem} {P : jj_P} (h : jj_J S P) : P.t < 100000 := h.2.2.2.2.2.2.2.2.2.2.2.2.2.2.2.1
theorem jj_J.hli {S : jj_Mem} {P : jj_P} (h : jj_J S P) : ∀ k, k < P.n → P.li k < P.cnt := h.2.2.2.2.2.2.2.2.2.2.2.2.2.2.2.2.1
theorem jj_J.htr {S : jj_Mem} {P : jj_P} (h : jj_J S P) : ∀ k, k < P.n → P.tr k < P.nt := h.2.2.2.2.2.2.2.2.2.2.2.2.2.2.2.2.2.1
theorem jj_J.hmt {S : jj_Mem} {P : jj_P} (h : jj_J S P) : ∀ k, k < P.n → P.mi k ≤ P.t := h.2.2.2.2.2.2.2.2.2.2.2.2.2.2.2.2.2.2.1
theorem jj_J.hmo {S : jj_Mem} {P : jj_P} (h : jj_J S P) : ∀ a b, a ≤ b → b < P.n → P.mi a ≤ P.mi b := h.2.2.2.2.2.2.2.2.2.2.2.2.2.2.2.2.2.2.2.1
theorem jj_J.r5 {S : jj_Mem} {P : jj_P} (h : jj_J S P) : ∀ j, j < P.n → P.rs j ≤ 5 := h.2.2.2.2.2.2.2.2.2.2.2.2.2.2.2.2.2.2.2.2.1
theorem jj_J.ad0 {S : jj_Mem} {P : jj_P} (h : jj_J S P) : ∀ j, P.ad j = 0 := h.2.2.2.2.2.2.2.2.2.2.2.2.2.2.2.2.2.2.2.2.2
def jj_K (P : jj_P) : Prop := (∀ l, l < 8 → ∀ u, u < 10 → P.ev l u ≤ P.n) ∧ jj_sm (fun l => jj_sm (P.im l) 10) 8 ≤ P.n ∧ (∀ l u d, jj_ct (jj_pd P.li P.tr P.mi P.rs P.rc l u d) P.n ≤ 5)
def jj_T (P : jj_P) : Prop := jj_tot P.h P.x P.ca P.he P.du P.pa P.re = P.t / 14400 * jj_sm (fun l => jj_fee (P.pl l)) P.cnt
/-- plays stay, and those of closed months keep their reason -/
def jj_E (P P' : jj_P) : Prop := P.n ≤ P'.n ∧ P.t ≤ P'.t ∧ (∀ j, j < P.n → P'.mi j = P.mi j) ∧ (∀ j, j < P.n → P.mi j / 14400 < P.t / 14400 → P'.rs j = P.rs j)
theorem jj_E_refl (P : jj_P) : jj_E P P := ⟨Nat.le_refl _, Nat.le_refl _, fun _ _ => rfl, fun _ _ _ => rfl⟩
theorem jj_E_trans {P Q R : jj_P} (h : jj_E P Q) (k : jj_E Q R) : jj_E P R :=
  ⟨Nat.le_trans h.1 k.1, Nat.le_trans h.2.1 k.2.1, fun j hj => (k.2.2.1 j (Nat.lt_of_lt_of_le hj h.1)).trans (h.2.2.1 j hj), fun j hj hc => (k.2.2.2 j (Nat.lt_of_lt_of_le hj h.1) (by rw [h.2.2.1 j hj]; have := h.2.1; have := Nat.div_le_div_right (c := 14400) h.2.1; omega)).trans (h.2.2.2 j hj hc)⟩
theorem jj_J_eq {S S' : jj_Mem} {P : jj_P} (h : jj_J S P) (e : ∀ p, p < 81 → ∀ j, S' p j = S p j) : jj_J S' P :=
  ⟨jj_lg_mono h.lg (fun p h1 h2 j => e p (by omega) j), jj_tk_mono h.tk (fun p h1 h2 j => e p (by omega) j), jj_wi_mono h.wi (fun p h1 h2 j => e p (by omega) j), ⟨h.au.1, (e 20 (by omega) 0).trans h.au.2.1, fun j hj => ⟨(e 21 (by omega) j).trans (h.au.2.2.1 j hj).1, (h.au.2.2.1 j hj).2⟩, fun j hj => ⟨(e 22 (by omega) j).trans (h.au.2.2.2 j hj).1, (h.au.2.2.2 j hj).2⟩⟩, fun j hj => ⟨(e 23 (by omega) j).trans (h.fl j hj).1, (h.fl j hj).2⟩, (e 0 (by omega) 9).trans h.now, (e 0 (by omega) 10).trans h.ru, jj_rw8_mono h.ev (fun p h1 h2 j => e p (by omega) j), jj_rw8_mono h.im (fun p h1 h2 j => e p (by omega) j), jj_rw8_mono h.od (fun p h1 h2 j => e p (by omega) j), fun a ha j hj => ⟨(e (10 + a) (by omega) j).trans (h.cm a ha j hj).1, (h.cm a ha j hj).2⟩, jj_bs_mono h.bs (fun p h1 h2 j => e p (by omega) j), fun j hj => (e 24 (by omega) j).trans (h.pe j hj), fun j hj => (e 25 (by omega) j).trans (h.kc j hj), fun j a1 a2 => (e 40 (by omega) j).trans (h.z40 j a1 a2), h.ht, h.hli, h.htr, h.hmt, h.hmo, h.r5, h.ad0⟩
set_option maxRecDepth 100000 in
set_option maxHeartbeats 4000000 in
theorem J_judge {lay : jj_Lay} {S : jj_Mem} {P : jj_P} (hB : jj_pp lay) (h : jj_J S P) (hold : ∀ l u d, d / 10 < P.t / 14400 → jj_ct (jj_pd P.li P.tr P.mi P.rs P.rc l u d) P.n ≤ 5) :
    ∃ (rs' : Nat → Nat) (ev' im' od' : Nat → Nat → Nat) (S' : jj_Mem), jj_CT yX6_judgePlays (.code yX6_judgePlays cX6_judgePlays 6 none) none 3 68 [.ref 0] lay S none lay S' ∧ jj_J S' (jj_mkP P.n P.t P.nt P.wn P.cnt P.h P.x P.li P.tr P.mi rs' P.rc P.ld P.pl P.fl P.ca P.ge P.he P.du P.pa P.ad P.re P.pe P.se P.w0 P.w1 P.w2 P.w3 ev' im' od' P.cl) ∧ jj_K (jj_mkP P.n P.t P.nt P.wn P.cnt P.h P.x P.li P.tr P.mi rs' P.rc P.ld P.pl P.fl P.ca P.ge P.he P.du P.pa P.ad P.re P.pe P.se P.w0 P.w1 P.w2 P.w3 ev' im' od' P.cl) ∧ (∀ j, j < P.n → P.mi j / 14400 < P.t / 14400 → rs' j = P.rs j) ∧ (∀ p, p < 35 ∨ 69 < p → ∀ j, S' p j = S p j) := by
  obtain ⟨rs', ev', im', od', S', hct, p1, p2, p3, p4, p5, p6, p7, p8, p9, p10, p11⟩ := ct_X6_judgePlays (lay := lay) hB h.ht h.lg.1 h.hli h.htr h.hmt h.hmo hold h.lg h.tk h.wi h.au (fun j hj => h.fl j (by have := h.au.1; omega)) h.now h.od (fun j hj _ => h.r5 j hj)
  have F : ∀ p, p ≠ 40 ∧ (p < 44 ∨ (51 < p ∧ p < 53) ∨ (60 < p ∧ p < 62) ∨ 69 < p) → ∀ j, S' p j = S p j := fun p hp j => p10 p hp.1 hp.2 j
  exact ⟨rs', ev', im', od', S', hct, ⟨p1, jj_tk_mono h.tk (fun p h1 h2 j => F p (by omega) j), jj_wi_mono h.wi (fun p h1 h2 j => F p (by omega) j), ⟨h.au.1, (F 20 (by omega) 0).trans h.au.2.1, fun j hj => ⟨(F 21 (by omega) j).trans (h.au.2.2.1 j hj).1, (h.au.2.2.1 j hj).2⟩, fun j hj => ⟨(F 22 (by omega) j).trans (h.au.2.2.2 j hj).1, (h.au.2.2.2 j hj).2⟩⟩, fun j hj => ⟨(F 23 (by omega) j).trans (h.fl j hj).1, (h.fl j hj).2⟩, (F 0 (by omega) 9).trans h.now, (F 0 (by omega) 10).trans h.ru, p2, p3, p4, fun a ha j hj => ⟨(F (10 + a) (by omega) j).trans (h.cm a ha j hj).1, (h.cm a ha j hj).2⟩, jj_bs_mono h.bs (fun p h1 h2 j => F p (by omega) j), fun j hj => (F 24 (by omega) j).trans (h.pe j hj), fun j hj => (F 25 (by omega) j).trans (h.kc j hj), fun j a1 a2 => (p11 j a1).trans (h.z40 j a1 a2), h.ht, h.hli, h.htr, h.hmt, h.hmo, p9, h.ad0⟩, ⟨p5, p6, p7⟩, p8, fun p hp j => F p (by omega) j⟩
set_option maxRecDepth 100000 in
set_option maxHeartbeats 4000000 in
theorem ct_X2_addTrack {lay : jj_Lay} {S : jj_Mem} (hB : jj_pp lay) {n u : Nat} (hn : S 1 0 = some (nI n)) (h14 : n < 14) : jj_CT yX2_addTrack (.code yX2_addTrack cX2_addTrack 3 (some .int)) none 0 0 [.ref 1, .int (nI u)] lay S (some (.int (nI n))) lay (jj_w (jj_w (jj_w S 2 n (nI u)) 3 n ((-1))) 1 0 (nI (n + 1))) := by
  refine jj_mkI RX2 .int (by decide) rfl (L := [some (.ref 1), some (.int (nI u)), none]) rfl rfl rfl ⟨36, [some (.ref 1), some (.int (nI u)), some (.int (nI n))], dX2_addTrack_36, ?_⟩
  refine js_aload_n 0 rfl dX2_addTrack_0 rfl ?_
  refine js_geti 0 jw_f_RX2_9 (jl_1 hB) rfl (Nat.le_of_ble_eq_true rfl) rfl (hn) dX2_addTrack_1 ?_
  refine js_istore_n (L' := [some (.ref 1), some (.int (nI u)), some (.int (nI n))]) 2 rfl dX2_addTrack_4 rfl (Nat.le_of_ble_eq_true rfl) ?_
  refine js_iload_n 2 rfl dX2_addTrack_5 rfl ?_
  refine js_bipush (v := nI 14) dX2_addTrack_6 (by decide) ?_
  refine jn_icmp_ge 35 (by omega) (by omega) dX2_addTrack_8 (by decide) (fun h9 => absurd h9 (by omega)) (fun _ => ?_)
  refine js_aload_n 0 rfl dX2_addTrack_11 rfl ?_
  refine js_getr 1 jw_f_RX2_15 (jl_1 hB) rfl (Nat.le_of_ble_eq_true rfl) rfl dX2_addTrack_12 ?_
  refine js_iload_n 2 rfl dX2_addTrack_15 rfl ?_
  refine js_iload_n 1 rfl dX2_addTrack_16 rfl ?_
  refine js_iast n rfl (jl_2 hB) (by omega) (by decide) dX2_addTrack_17 ?_
  refine js_aload_n 0 rfl dX2_addTrack_18 rfl ?_
  refine js_getr 2 jw_f_RX2_19 (jl_1 hB) rfl (Nat.le_of_ble_eq_true rfl) rfl dX2_addTrack_19 ?_
  refine js_iload_n 2 rfl dX2_addTrack_22 rfl ?_
  refine js_iconst (v := -1) dX2_addTrack_23 (by decide) ?_
  refine js_iast n rfl (jl_3 hB) (by omega) (by decide) dX2_addTrack_24 ?_
  refine js_aload_n 0 rfl dX2_addTrack_25 rfl ?_
  refine js_dup rfl dX2_addTrack_26 ?_
  refine js_geti 0 jw_f_RX2_9 (jl_1 hB) rfl (Nat.le_of_ble_eq_true rfl) rfl ((jj_w_neP (by decide)).trans ((jj_w_neP (by decide)).trans (hn))) dX2_addTrack_27 ?_
  refine js_iconst (v := nI 1) dX2_addTrack_30 (by decide) ?_
  refine jn_iadd dX2_addTrack_31 ?_
  refine js_put 0 jw_f_RX2_9 (jl_1 hB) rfl (Nat.le_of_ble_eq_true rfl) rfl rfl (by decide +kernel) dX2_addTrack_32 ?_
  refine js_iload_n 2 rfl dX2_addTrack_35 rfl ?_
  exact jj_refl
set_option maxRecDepth 100000 in
set_option maxHeartbeats 4000000 in
theorem ct_X2_addWindow {lay : jj_Lay} {S : jj_Mem} (hB : jj_pp lay) {n : Nat} {x y a c : Int32} (hn : S 1 3 = some (nI n)) (h30 : n < 30) : jj_CT yX2_addWindow (.code yX2_addWindow cX2_addWindow 5 none) none 0 0 [.ref 1, .int x, .int y, .int a, .int c] lay S none lay (jj_w (jj_w (jj_w (jj_w (jj_w S 4 n (x)) 5 n (y)) 6 n (a)) 7 n (c)) 1 3 (nI (n + 1))) := by
  refine jj_mkV RX2 (by decide) rfl (L := [some (.ref 1), some (.int x), some (.int y), some (.int a), some (.int c)]) rfl rfl ⟨60, [some (.ref 1), some (.int x), some (.int y), some (.int a), some (.int c)], dX2_addWindow_60, ?_⟩
  refine js_aload_n 0 rfl dX2_addWindow_0 rfl ?_
  refine js_geti 3 jw_f_RX2_22 (jl_1 hB) rfl (Nat.le_of_ble_eq_true rfl) rfl (hn) dX2_addWindow_1 ?_
  refine js_bipush (v := nI 30) dX2_addWindow_4 (by decide) ?_
  refine jn_icmp_ge 60 (by omega) (by omega) dX2_addWindow_6 (by decide) (fun h9 => absurd h9 (by omega)) (fun _ => ?_)
  refine js_aload_n 0 rfl dX2_addWindow_9 rfl ?_
  refine js_getr 4 jw_f_RX2_25 (jl_1 hB) rfl (Nat.le_of_ble_eq_true rfl) rfl dX2_addWindow_10 ?_
  refine js_aload_n 0 rfl dX2_addWindow_13 rfl ?_
  refine js_geti 3 jw_f_RX2_22 (jl_1 hB) rfl (Nat.le_of_ble_eq_true rfl) rfl (hn) dX2_addWindow_14 ?_
  refine js_iload_n 1 rfl dX2_addWindow_17 rfl ?_
  refine js_iast n rfl (jl_4 hB) (by omega) (by decide) dX2_addWindow_18 ?_
  refine js_aload_n 0 rfl dX2_addWindow_19 rfl ?_
  refine js_getr 5 jw_f_RX2_28 (jl_1 hB) rfl (Nat.le_of_ble_eq_true rfl) rfl dX2_addWindow_20 ?_
  refine js_aload_n 0 rfl dX2_addWindow_23 rfl ?_
  refine js_geti 3 jw_f_RX2_22 (jl_1 hB) rfl (Nat.le_of_ble_eq_true rfl) rfl ((jj_w_neP (by decide)).trans (hn)) dX2_addWindow_24 ?_
  refine js_iload_n 2 rfl dX2_addWindow_27 rfl ?_
  refine js_iast n rfl (jl_5 hB) (by omega) (by decide) dX2_addWindow_28 ?_
  refine js_aload_n 0 rfl dX2_addWindow_29 rfl ?_
  refine js_getr 6 jw_f_RX2_31 (jl_1 hB) rfl (Nat.le_of_ble_eq_true rfl) rfl dX2_addWindow_30 ?_
  refine js_aload_n 0 rfl dX2_addWindow_33 rfl ?_
  refine js_geti 3 jw_f_RX2_22 (jl_1 hB) rfl (Nat.le_of_ble_eq_true rfl) rfl ((jj_w_neP (by decide)).trans ((jj_w_neP (by decide)).trans (hn))) dX2_addWindow_34 ?_
  refine js_iload_n 3 rfl dX2_addWindow_37 rfl ?_
  refine js_iast n rfl (jl_6 hB) (by omega) (by decide) dX2_addWindow_38 ?_
  refine js_aload_n 0 rfl dX2_addWindow_39 rfl ?_
  refine js_getr 7 jw_f_RX2_34 (jl_1 hB) rfl (Nat.le_of_ble_eq_true rfl) rfl dX2_addWindow_40 ?_
  refine js_aload_n 0 rfl dX2_addWindow_43 rfl ?_
  refine js_geti 3 jw_f_RX2_22 (jl_1 hB) rfl (Nat.le_of_ble_eq_true rfl) rfl ((jj_w_neP (by decide)).trans ((jj_w_neP (by decide)).trans ((jj_w_neP (by decide)).trans (hn)))) dX2_addWindow_44 ?_
  refine js_iload dX2_addWindow_47 rfl ?_
  refine js_iast n rfl (jl_7 hB) (by omega) (by decide) dX2_addWindow_49 ?_
  refine js_aload_n 0 rfl dX2_addWindow_50 rfl ?_
  refine js_dup rfl dX2_addWindow_51 ?_
  refine js_geti 3 jw_f_RX2_22 (jl_1 hB) rfl (Nat.le_of_ble_eq_true rfl) rfl ((jj_w_neP (by decide)).trans ((jj_w_neP (by decide)).trans ((jj_w_neP (by decide)).trans ((jj_w_neP (by decide)).trans (hn))))) dX2_addWindow_52 ?_
  refine js_iconst (v := nI 1) dX2_addWindow_55 (by decide) ?_
  refine jn_iadd dX2_addWindow_56 ?_
  refine js_put 3 jw_f_RX2_22 (jl_1 hB) rfl (Nat.le_of_ble_eq_true rfl) rfl rfl (by decide +kernel) dX2_addWindow_57 ?_
  exact jj_refl
set_option maxRecDepth 100000 in
set_option maxHeartbeats 4000000 in
theorem ct_X0_add {lay : jj_Lay} {S : jj_Mem} (hB : jj_pp lay) {n u v : Nat} (hn : S 20 0 = some (nI n)) (h8 : n < 8) : jj_CT yX0_add (.code yX0_add cX0_add 4 (some .int)) none 0 0 [.ref 20, .int (nI u), .int (nI v)] lay S (some (.int (nI n))) lay (jj_w (jj_w (jj_w S 21 n (nI u)) 22 n (nI v)) 20 0 (nI (n + 1))) := by
  refine jj_mkI RX0 .int (by decide) rfl (L := [some (.ref 20), some (.int (nI u)), some (.int (nI v)), none]) rfl rfl rfl ⟨36, [some (.ref 20), some (.int (nI u)), some (.int (nI v)), some (.int (nI n))], dX0_add_36, ?_⟩
  refine js_aload_n 0 rfl dX0_add_0 rfl ?_
  refine js_geti 0 jw_f_RX0_9 (jl_20 hB) rfl (Nat.le_of_ble_eq_true rfl) rfl (hn) dX0_add_1 ?_
  refine js_istore_n (L' := [some (.ref 20), some (.int (nI u)), some (.int (nI v)), some (.int (nI n))]) 3 rfl dX0_add_4 rfl (Nat.le_of_ble_eq_true rfl) ?_
  refine js_iload_n 3 rfl dX0_add_5 rfl ?_
  refine js_bipush (v := nI 8) dX0_add_6 (by decide) ?_
  refine jn_icmp_ge 35 (by omega) (by omega) dX0_add_8 (by decide) (fun h9 => absurd h9 (by omega)) (fun _ => ?_)
  refine js_aload_n 0 rfl dX0_add_11 rfl ?_
  refine js_getr 1 jw_f_RX0_15 (jl_20 hB) rfl (Nat.le_of_ble_eq_true rfl) rfl dX0_add_12 ?_
  refine js_iload_n 3 rfl dX0_add_15 rfl ?_
  refine js_iload_n 1 rfl dX0_add_16 rfl ?_
  refine js_iast n rfl (jl_21 hB) (by omega) (by decide) dX0_add_17 ?_
  refine js_aload_n 0 rfl dX0_add_18 rfl ?_
  refine js_getr 2 jw_f_RX0_19 (jl_20 hB) rfl (Nat.le_of_ble_eq_true rfl) rfl dX0_add_19 ?_
  refine js_iload_n 3 rfl dX0_add_22 rfl ?_
  refine js_iload_n 2 rfl dX0_add_23 rfl ?_
  refine js_iast n rfl (jl_22 hB) (by omega) (by decide) dX0_add_24 ?_
  refine js_aload_n 0 rfl dX0_add_25 rfl ?_
  refine js_dup rfl dX0_add_26 ?_
  refine js_geti 0 jw_f_RX0_9 (jl_20 hB) rfl (Nat.le_of_ble_eq_true rfl) rfl ((jj_w_neP (by decide)).trans ((jj_w_neP (by decide)).trans (hn))) dX0_add_27 ?_
  refine js_iconst (v := nI 1) dX0_add_30 (by decide) ?_
  refine jn_iadd dX0_add_31 ?_
  refine js_put 0 jw_f_RX0_9 (jl_20 hB) rfl (Nat.le_of_ble_eq_true rfl) rfl rfl (by decide +kernel) dX0_add_32 ?_
  refine js_iload_n 3 rfl dX0_add_35 rfl ?_
  exact jj_refl
set_option maxRecDepth 100000 in
set_option maxHeartbeats 4000000 in
theorem ct_X4_putInOrder {lay : jj_Lay} {S : jj_Mem} (hB : jj_pp lay) {n : Nat} {m : Nat → Nat} (h130 : n < 130) (hby : ∀ j, j < n → S 41 j = some (nI j)) (hmi : ∀ j, j < n + 1 → S 38 j = some (nI (m j)) ∧ m j < 2 ^ 31) (hmo : m (n - 1) ≤ m n) : jj_CT yX4_putInOrder (.code yX4_putInOrder cX4_putInOrder 3 none) none 0 0 [.ref 35, .int (nI n)] lay S none lay (jj_w S 41 n (nI n)) := by
  by_cases hc : n = 0
  · subst hc
    refine jj_mkV RX4 (by decide) rfl (L := [some (.ref 35), some (.int (nI 0)), none]) rfl rfl ⟨55, [some (.ref 35), some (.int (nI 0)), some (.int (nI 0))], dX4_putInOrder_55, ?_⟩
    refine js_iload_n 1 rfl dX4_putInOrder_0 rfl ?_
    refine js_istore_n (L' := [some (.ref 35), some (.int (nI 0)), some (.int (nI 0))]) 2 rfl dX4_putInOrder_1 rfl (Nat.le_of_ble_eq_true rfl) ?_
    refine js_iload_n 2 rfl dX4_putInOrder_2 rfl ?_
    refine jn_if_le 48 (by omega) dX4_putInOrder_3 (by decide) (fun _ => ?_) (fun h9 => absurd h9 (by omega))
    refine js_aload_n 0 rfl dX4_putInOrder_48 rfl ?_
    refine js_getr 6 jw_f_RX4_31 (jl_35 hB) rfl (Nat.le_of_ble_eq_true rfl) rfl dX4_putInOrder_49 ?_
    refine js_iload_n 2 rfl dX4_putInOrder_52 rfl ?_
    refine js_iload_n 1 rfl dX4_putInOrder_53 rfl ?_
    refine js_iast 0 rfl (jl_41 hB) (by omega) (by decide) dX4_putInOrder_54 ?_
    exact jj_refl
  · refine jj_mkV RX4 (by decide) rfl (L := [some (.ref 35), some (.int (nI n)), none]) rfl rfl ⟨55, [some (.ref 35), some (.int (nI n)), some (.int (nI n))], dX4_putInOrder_55, ?_⟩
    refine js_iload_n 1 rfl dX4_putInOrder_0 rfl ?_
    refine js_istore_n (L' := [some (.ref 35), some (.int (nI n)), some (.int (nI n))]) 2 rfl dX4_putInOrder_1 rfl (Nat.le_of_ble_eq_true rfl) ?_
    refine js_iload_n 2 rfl dX4_putInOrder_2 rfl ?_
    have h1 := (hmi (n - 1) (by omega)).2
    have h2 := (hmi n (by omega)).2
    refine jn_if_le 48 (by omega) dX4_putInOrder_3 (by decide) (fun h9 => absurd h9 (by omega)) (fun _ => ?_)
    refine js_aload_n 0 rfl dX4_putInOrder_6 rfl ?_
    refine js_getr 3 jw_f_RX4_22 (jl_35 hB) rfl (Nat.le_of_ble_eq_true rfl) rfl dX4_putInOrder_7 ?_
    refine js_aload_n 0 rfl dX4_putInOrder_10 rfl ?_
    refine js_getr 6 jw_f_RX4_31 (jl_35 hB) rfl (Nat.le_of_ble_eq_true rfl) rfl dX4_putInOrder_11 ?_
    refine js_iload_n 2 rfl dX4_putInOrder_14 rfl ?_
    refine js_iconst (v := nI 1) dX4_putInOrder_15 (by decide) ?_
    refine jn_isub (by omega) dX4_putInOrder_16 ?_
    refine js_iald ((n - 1)) rfl (jl_41 hB) (by omega) (by decide) ((hby ((n - 1)) (by omega))) dX4_putInOrder_17 ?_
    refine js_iald (((n - 1))) rfl (jl_38 hB) (by omega) (by decide) ((hmi (((n - 1))) (by omega)).1) dX4_putInOrder_18 ?_
    refine js_aload_n 0 rfl dX4_putInOrder_19 rfl ?_
    refine js_getr 3 jw_f_RX4_22 (jl_35 hB) rfl (Nat.le_of_ble_eq_true rfl) rfl dX4_putInOrder_20 ?_
    refine js_iload_n 1 rfl dX4_putInOrder_23 rfl ?_
    refine js_iald n rfl (jl_38 hB) (by omega) (by decide) ((hmi n (by omega)).1) dX4_putInOrder_24 ?_
    refine jn_icmp_le 48 (by omega) (by omega) dX4_putInOrder_25 (by decide) (fun _ => ?_) (fun h9 => absurd h9 (by omega))
    refine js_aload_n 0 rfl dX4_putInOrder_48 rfl ?_
    refine js_getr 6 jw_f_RX4_31 (jl_35 hB) rfl (Nat.le_of_ble_eq_true rfl) rfl dX4_putInOrder_49 ?_
    refine js_iload_n 2 rfl dX4_putInOrder_52 rfl ?_
    refine js_iload_n 1 rfl dX4_putInOrder_53 rfl ?_
    refine js_iast n rfl (jl_41 hB) (by omega) (by decide) dX4_putInOrder_54 ?_
    exact jj_refl
set_option maxRecDepth 100000 in
set_option maxHeartbeats 4000000 in
theorem ct_X4_add {lay : jj_Lay} {S : jj_Mem} (hB : jj_pp lay) {n l u t : Nat} {z : Int32} {m : Nat → Nat} (h130 : n < 130) (hn : S 35 0 = some (nI n)) (hby : ∀ j, j < n → S 41 j = some (nI j)) (hmi : ∀ j, j < n → S 38 j = some (nI (m j)) ∧ m j ≤ t) (ht : t < 2 ^ 31) : jj_CT yX4_add (.code yX4_add cX4_add 6 (some .int)) none 1 22 [.ref 35, .int (nI l), .int (nI u), .int (nI t), .int z] lay S (some (.int (nI n))) lay (jj_w (jj_w (jj_w (jj_w (jj_w (jj_w S 36 n (nI l)) 37 n (nI u)) 38 n (nI t)) 39 n (z)) 41 n (nI n)) 35 0 (nI (n + 1))) := by
  have hb4 : ∀ j, j < n → (jj_w (jj_w (jj_w (jj_w S 36 n (nI l)) 37 n (nI u)) 38 n (nI t)) 39 n (z)) 41 j = some (nI j) := fun j hj => (jj_w_neP (by omega)).trans ((jj_w_neP (by omega)).trans ((jj_w_neP (by omega)).trans ((jj_w_neP (by omega)).trans (hby j hj))))
  have hm4 : ∀ j, j < n + 1 → (jj_w (jj_w (jj_w (jj_w S 36 n (nI l)) 37 n (nI u)) 38 n (nI t)) 39 n (z)) 38 j = some (nI (jj_up m n t j)) ∧ jj_up m n t j < 2 ^ 31 := fun j hj => by
    by_cases c : j = n
    · rw [c, jj_up_at]
      exact ⟨(jj_w_neP (by omega)).trans (jj_w_at _ _ _ _), ht⟩
    · rw [jj_up_ne m c]
      exact ⟨(jj_w_neP (by omega)).trans ((jj_w_neI c).trans ((jj_w_neP (by omega)).trans ((jj_w_neP (by omega)).trans (hmi j (by omega)).1))), by have := (hmi j (by omega)).2; omega⟩
  have hmo4 : jj_up m n t (n - 1) ≤ jj_up m n t n := by
    rw [jj_up_at]
    by_cases c : n = 0
    · rw [c]; show jj_up m 0 t 0 ≤ t; rw [jj_up_at]; exact Nat.le_refl _
    · rw [jj_up_ne m (by omega)]; exact (hmi (n - 1) (by omega)).2
  refine jj_mkI RX4 .int (by decide) rfl (L := [some (.ref 35), some (.int (nI l)), some (.int (nI u)), some (.int (nI t)), some (.int z), none]) rfl rfl rfl ⟨65, [some (.ref 35), some (.int (nI l)), some (.int (nI u)), some (.int (nI t)), some (.int z), some (.int (nI n))], dX4_add_65, ?_⟩
  refine js_aload_n 0 rfl dX4_add_0 rfl ?_
  refine js_geti 0 jw_f_RX4_9 (jl_35 hB) rfl (Nat.le_of_ble_eq_true rfl) rfl (hn) dX4_add_1 ?_
  refine js_istore (L' := [some (.ref 35), some (.int (nI l)), some (.int (nI u)), some (.int (nI t)), some (.int z), some (.int (nI n))]) dX4_add_4 rfl (Nat.le_of_ble_eq_true rfl) ?_
  refine js_iload dX4_add_6 rfl ?_
  refine js_sipush (v := nI 130) dX4_add_8 (by decide) ?_
  refine jn_icmp_ge 63 (by omega) (by omega) dX4_add_11 (by decide) (fun h9 => absurd h9 (by omega)) (fun _ => ?_)
  refine js_aload_n 0 rfl dX4_add_14 rfl ?_
  refine js_getr 1 jw_f_RX4_15 (jl_35 hB) rfl (Nat.le_of_ble_eq_true rfl) rfl dX4_add_15 ?_
  refine js_iload dX4_add_18 rfl ?_
  refine js_iload_n 1 rfl dX4_add_20 rfl ?_
  refine js_iast n rfl (jl_36 hB) (by omega) (by decide) dX4_add_21 ?_
  refine js_aload_n 0 rfl dX4_add_22 rfl ?_
  refine js_getr 2 jw_f_RX4_19 (jl_35 hB) rfl (Nat.le_of_ble_eq_true rfl) rfl dX4_add_23 ?_
  refine js_iload dX4_add_26 rfl ?_
  refine js_iload_n 2 rfl dX4_add_28 rfl ?_
  refine js_iast n rfl (jl_37 hB) (by omega) (by decide) dX4_add_29 ?_
  refine js_aload_n 0 rfl dX4_add_30 rfl ?_
  refine js_getr 3 jw_f_RX4_22 (jl_35 hB) rfl (Nat.le_of_ble_eq_true rfl) rfl dX4_add_31 ?_
  refine js_iload dX4_add_34 rfl ?_
  refine js_iload_n 3 rfl dX4_add_36 rfl ?_
  refine js_iast n rfl (jl_38 hB) (by omega) (by decide) dX4_add_37 ?_
  refine js_aload_n 0 rfl dX4_add_38 rfl ?_
  refine js_getr 4 jw_f_RX4_25 (jl_35 hB) rfl (Nat.le_of_ble_eq_true rfl) rfl dX4_add_39 ?_
  refine js_iload dX4_add_42 rfl ?_
  refine js_iload dX4_add_44 rfl ?_
  refine js_iast n rfl (jl_39 hB) (by omega) (by decide) dX4_add_46 ?_
  refine js_aload_n 0 rfl dX4_add_47 rfl ?_
  refine js_iload dX4_add_48 rfl ?_
  refine js_callV (av := [.int (nI n)]) (st := []) (b := 35) (ct_X4_putInOrder (m := jj_up m n t) hB h130 hb4 hm4 hmo4) (Or.inl rfl) jw_c_X4_putInOrder jw_i_RX4 jw_m_RX4_34 jw_s_X4_putInOrder jw_e_X4_putInOrder (jl_35 hB) rfl jw_y_X4_putInOrder rfl ⟨(Nat.le_of_ble_eq_true rfl), (Nat.le_of_ble_eq_true rfl), (Nat.le_refl _), (Nat.le_refl _), (Nat.le_of_ble_eq_true rfl)⟩ dX4_add_50 ?_
  refine js_st (st' := []) rfl ?_
  refine js_aload_n 0 rfl dX4_add_53 rfl ?_
  refine js_dup rfl dX4_add_54 ?_
  refine js_geti 0 jw_f_RX4_9 (jl_35 hB) rfl (Nat.le_of_ble_eq_true rfl) rfl ((jj_w_neP (by decide)).trans ((jj_w_neP (by decide)).trans ((jj_w_neP (by decide)).trans ((jj_w_neP (by decide)).trans ((jj_w_neP (by decide)).trans (hn)))))) dX4_add_55 ?_
  refine js_iconst (v := nI 1) dX4_add_58 (by decide) ?_
  refine jn_iadd dX4_add_59 ?_
  refine js_put 0 jw_f_RX4_9 (jl_35 hB) rfl (Nat.le_of_ble_eq_true rfl) rfl rfl (by decide +kernel) dX4_add_60 ?_
  refine js_iload dX4_add_63 rfl ?_
  exact jj_refl
def jj_ux (f : Nat → Int32) (i : Nat) (x : Int32) : Nat → Int32 := fun j => if j = i then x else f j
theorem jj_ux_at (f : Nat → Int32) (i : Nat) (x : Int32) : jj_ux f i x i = x := if_pos rfl
theorem jj_ux_ne (f : Nat → Int32) {i j : Nat} {x : Int32} (h : j ≠ i) : jj_ux f i x j = f j := if_neg h
set_option maxRecDepth 100000 in
set_option maxHeartbeats 4000000 in
theorem J_track {lay : jj_Lay} {S : jj_Mem} {P : jj_P} (hB : jj_pp lay) (h : jj_J S P) (hK : jj_K P) (hT : jj_T P) {u : Nat} (hn : P.n = 0) (h14 : P.nt < 14) (hu : u < 10) :
    ∃ (S' : jj_Mem) (P' : jj_P), jj_CT yX6_track (.code yX6_track cX6_track 2 (some .int)) none 1 22 [.ref 0, .int (nI u)] lay S (some (.int (nI P.nt))) lay S' ∧ jj_J S' P' ∧ jj_K P' ∧ jj_T P' ∧ P'.n = 0 ∧ P'.t = P.t ∧ P'.nt = P.nt + 1 ∧ P'.wn = P.wn ∧ P'.cnt = P.cnt ∧ (∀ j, j < P.nt → P'.rc j = P.rc j) ∧ P'.rc P.nt = u ∧ (∀ p, 103 < p → ∀ j, S' p j = S p j) := by
  have F : ∀ p, p = 0 ∨ 3 < p → ∀ j, (jj_w (jj_w (jj_w S 2 P.nt (nI u)) 3 P.nt ((-1))) 1 0 (nI (P.nt + 1))) p j = S p j := fun p hp j => (jj_w_neP (by omega)).trans ((jj_w_neP (by omega)).trans (jj_w_neP (by omega)))
  refine ⟨(jj_w (jj_w (jj_w S 2 P.nt (nI u)) 3 P.nt ((-1))) 1 0 (nI (P.nt + 1))), (jj_mkP P.n P.t (P.nt + 1) P.wn P.cnt P.h P.x P.li P.tr P.mi P.rs (jj_up P.rc P.nt u) P.ld P.pl P.fl P.ca P.ge P.he P.du P.pa P.ad P.re P.pe P.se P.w0 P.w1 P.w2 P.w3 P.ev P.im P.od P.cl), ?_, ⟨jj_lg_mono h.lg (fun p h1 h2 j => F p (by omega) j), ⟨(show P.nt + 1 ≤ 14 by omega), jj_w_at _ _ _ _, fun j hj => ?_⟩, ⟨h.wi.1, (jj_w_neI (by omega)).trans ((jj_w_neP (by omega)).trans ((jj_w_neP (by omega)).trans h.wi.2.1)), fun j hj => ⟨(F 4 (by omega) j).trans (h.wi.2.2 j hj).1, (F 5 (by omega) j).trans (h.wi.2.2 j hj).2.1, (F 6 (by omega) j).trans (h.wi.2.2 j hj).2.2.1, (F 7 (by omega) j).trans (h.wi.2.2 j hj).2.2.2⟩⟩, ⟨h.au.1, (F 20 (by omega) 0).trans h.au.2.1, fun j hj => ⟨(F 21 (by omega) j).trans (h.au.2.2.1 j hj).1, (h.au.2.2.1 j hj).2⟩, fun j hj => ⟨(F 22 (by omega) j).trans (h.au.2.2.2 j hj).1, (h.au.2.2.2 j hj).2⟩⟩, fun j hj => ⟨(F 23 (by omega) j).trans (h.fl j hj).1, (h.fl j hj).2⟩, (F 0 (by omega) 9).trans h.now, (F 0 (by omega) 10).trans h.ru, jj_rw8_mono h.ev (fun p h1 h2 j => F p (by omega) j), jj_rw8_mono h.im (fun p h1 h2 j => F p (by omega) j), jj_rw8_mono h.od (fun p h1 h2 j => F p (by omega) j), fun a ha j hj => ⟨(F (10 + a) (by omega) j).trans (h.cm a ha j hj).1, (h.cm a ha j hj).2⟩, jj_bs_mono h.bs (fun p h1 h2 j => F p (by omega) j), fun j hj => (F 24 (by omega) j).trans (h.pe j hj), fun j hj => (F 25 (by omega) j).trans (h.kc j hj), fun j a1 a2 => (F 40 (by omega) j).trans (h.z40 j a1 a2), h.ht, h.hli, fun k hk => Nat.lt_succ_of_lt (h.htr k hk), h.hmt, h.hmo, h.r5, h.ad0⟩, ⟨hK.1, hK.2.1, fun l u d => ?_⟩, hT, hn, rfl, rfl, rfl, rfl, fun j hj => jj_up_ne P.rc (Nat.ne_of_lt hj), jj_up_at P.rc P.nt u, fun p hp j => F p (by omega) j⟩
  · refine jj_mkI RX6 .int (by decide) rfl (L := [some (.ref 0), some (.int (nI u))]) rfl rfl rfl ⟨34, [some (.ref 0), some (.int (nI u))], dX6_track_34, ?_⟩
    refine js_iload_n 1 rfl dX6_track_0 rfl ?_
    refine js_callS (av := [.int (nI u)]) (st := []) (ct_X6_needRecording hu) (Or.inl rfl) jw_c_X6_needRecording jw_i_RX6 jw_m_RX6_68 jw_s_X6_needRecording jw_y_X6_needRecording rfl ⟨(Nat.le_of_ble_eq_true rfl), (Nat.le_of_ble_eq_true rfl), (Nat.le_refl _), (Nat.le_refl _), (Nat.le_of_ble_eq_true rfl)⟩ dX6_track_1 ?_
    refine js_st (st' := []) rfl ?_
    refine js_aload_n 0 rfl dX6_track_4 rfl ?_
    refine js_getr 0 jw_f_RX6_12 (jl_0 hB) rfl (Nat.le_of_ble_eq_true rfl) rfl dX6_track_5 ?_
    refine js_getNi 0 jw_n_RX6_72 (jl_1 hB) rfl (Nat.le_of_ble_eq_true rfl) rfl (h.tk.2.1) dX6_track_8 ?_
    refine js_bipush (v := nI 14) dX6_track_11 (by decide) ?_
    refine jn_icmp_lt 26 (by omega) (by omega) dX6_track_13 (by decide) (fun _ => ?_) (fun h9 => absurd h9 (by omega))
    refine js_aload_n 0 rfl dX6_track_26 rfl ?_
    refine js_getr 0 jw_f_RX6_12 (jl_0 hB) rfl (Nat.le_of_ble_eq_true rfl) rfl dX6_track_27 ?_
    refine js_iload_n 1 rfl dX6_track_30 rfl ?_
    refine js_callVN (av := [.int (nI u)]) (st := []) (b := 1) (ct_X2_addTrack hB h.tk.2.1 h14) (Or.inl rfl) jw_c_X2_addTrack jw_i_RX2 jw_h_RX6_82 jw_s_X2_addTrack jw_e_X2_addTrack (jl_1 hB) rfl jw_y_X2_addTrack rfl ⟨(Nat.le_of_ble_eq_true rfl), (Nat.le_of_ble_eq_true rfl), (Nat.le_refl _), (Nat.le_refl _), (Nat.le_of_ble_eq_true rfl)⟩ dX6_track_31 ?_
    refine js_st (st' := [.int (nI P.nt)]) rfl ?_
    exact jj_refl
  · by_cases c : j = P.nt
    · subst c
      refine ⟨?_, ?_, ?_⟩
      · show _ = some (nI (jj_up P.rc P.nt u P.nt))
        rw [jj_up_at]
        exact (jj_w_neP (by omega)).trans ((jj_w_neP (by omega)).trans (jj_w_at _ _ _ _))
      · show jj_up P.rc P.nt u P.nt < 10
        rw [jj_up_at]; exact hu
      · exact (jj_w_neP (by omega)).trans (jj_w_at _ _ _ _)
    · have hj2 : j < P.nt := by have : j < P.nt + 1 := hj; omega
      refine ⟨?_, ?_, ?_⟩
      · show _ = some (nI (jj_up P.rc P.nt u j))
        rw [jj_up_ne P.rc c]
        exact (jj_w_neP (by omega)).trans ((jj_w_neP (by omega)).trans ((jj_w_neI c).trans (h.tk.2.2 j hj2).1))
      · show jj_up P.rc P.nt u j < 10
        rw [jj_up_ne P.rc c]; exact (h.tk.2.2 j hj2).2.1
      · exact (jj_w_neP (by omega)).trans ((jj_w_neI c).trans ((jj_w_neP (by omega)).trans (h.tk.2.2 j hj2).2.2))
  · show jj_ct _ P.n ≤ 5
    rw [hn]; exact Nat.zero_le _
set_option maxRecDepth 100000 in
set_option maxHeartbeats 4000000 in
theorem J_listener {lay : jj_Lay} {S : jj_Mem} {P : jj_P} (hB : jj_pp lay) (h : jj_J S P) (hK : jj_K P) (hT : jj_T P) {u v : Nat} (ht0 : P.t = 0) (h8 : P.cnt < 8) (hu : u < 4) (hv : v < 3) :
    ∃ (S' : jj_Mem) (P' : jj_P), jj_CT yX6_listener (.code yX6_listener cX6_listener 3 (some .int)) none 1 23 [.ref 0, .int (nI u), .int (nI v)] lay S (some (.int (nI P.cnt))) lay S' ∧ jj_J S' P' ∧ jj_K P' ∧ jj_T P' ∧ P'.n = P.n ∧ P'.t = P.t ∧ P'.nt = P.nt ∧ P'.wn = P.wn ∧ P'.cnt = P.cnt + 1 ∧ P'.rc = P.rc ∧ (∀ p, 103 < p → ∀ j, S' p j = S p j) := by
  have F : ∀ p, p < 20 ∨ 22 < p → ∀ j, (jj_w (jj_w (jj_w S 21 P.cnt (nI u)) 22 P.cnt (nI v)) 20 0 (nI (P.cnt + 1))) p j = S p j := fun p hp j => (jj_w_neP (by omega)).trans ((jj_w_neP (by omega)).trans (jj_w_neP (by omega)))
  refine ⟨(jj_w (jj_w (jj_w S 21 P.cnt (nI u)) 22 P.cnt (nI v)) 20 0 (nI (P.cnt + 1))), (jj_mkP P.n P.t P.nt P.wn (P.cnt + 1) P.h P.x P.li P.tr P.mi P.rs P.rc (jj_up P.ld P.cnt u) (jj_up P.pl P.cnt v) P.fl P.ca P.ge P.he P.du P.pa P.ad P.re P.pe P.se P.w0 P.w1 P.w2 P.w3 P.ev P.im P.od P.cl), ?_, ⟨jj_lg_mono h.lg (fun p h1 h2 j => F p (by omega) j), jj_tk_mono h.tk (fun p h1 h2 j => F p (by omega) j), jj_wi_mono h.wi (fun p h1 h2 j => F p (by omega) j), ⟨(show P.cnt + 1 ≤ 8 by omega), jj_w_at _ _ _ _, fun j hj => ?_, fun j hj => ?_⟩, fun j hj => ⟨(F 23 (by omega) j).trans (h.fl j hj).1, (h.fl j hj).2⟩, (F 0 (by omega) 9).trans h.now, (F 0 (by omega) 10).trans h.ru, jj_rw8_mono h.ev (fun p h1 h2 j => F p (by omega) j), jj_rw8_mono h.im (fun p h1 h2 j => F p (by omega) j), jj_rw8_mono h.od (fun p h1 h2 j => F p (by omega) j), fun a ha j hj => ⟨(F (10 + a) (by omega) j).trans (h.cm a ha j hj).1, (h.cm a ha j hj).2⟩, jj_bs_mono h.bs (fun p h1 h2 j => F p (by omega) j), fun j hj => (F 24 (by omega) j).trans (h.pe j hj), fun j hj => (F 25 (by omega) j).trans (h.kc j hj), fun j a1 a2 => (F 40 (by omega) j).trans (h.z40 j a1 a2), h.ht, fun k hk => Nat.lt_succ_of_lt (h.hli k hk), h.htr, h.hmt, h.hmo, h.r5, h.ad0⟩, hK, ?_, rfl, rfl, rfl, rfl, rfl, rfl, fun p hp j => F p (by omega) j⟩
  · refine jj_mkI RX6 .int (by decide) rfl (L := [some (.ref 0), some (.int (nI u)), some (.int (nI v))]) rfl rfl rfl ⟨39, [some (.ref 0), some (.int (nI u)), some (.int (nI v))], dX6_listener_39, ?_⟩
    refine js_iload_n 1 rfl dX6_listener_0 rfl ?_
    refine js_callS (av := [.int (nI u)]) (st := []) (ct_X6_needLand hu) (Or.inl rfl) jw_c_X6_needLand jw_i_RX6 jw_m_RX6_89 jw_s_X6_needLand jw_y_X6_needLand rfl ⟨(Nat.le_of_ble_eq_true rfl), (Nat.le_of_ble_eq_true rfl), (Nat.le_refl _), (Nat.le_refl _), (Nat.le_of_ble_eq_true rfl)⟩ dX6_listener_1 ?_
    refine js_st (st' := []) rfl ?_
    refine js_iload_n 2 rfl dX6_listener_4 rfl ?_
    refine js_callS (av := [.int (nI v)]) (st := []) (ct_X6_needPlan hv) (Or.inl rfl) jw_c_X6_needPlan jw_i_RX6 jw_m_RX6_141 jw_s_X6_needPlan jw_y_X6_needPlan rfl ⟨(Nat.le_of_ble_eq_true rfl), (Nat.le_of_ble_eq_true rfl), (Nat.le_refl _), (Nat.le_refl _), (Nat.le_of_ble_eq_true rfl)⟩ dX6_listener_5 ?_
    refine js_st (st' := []) rfl ?_
    refine js_aload_n 0 rfl dX6_listener_8 rfl ?_
    refine js_getr 2 jw_f_RX6_26 (jl_0 hB) rfl (Nat.le_of_ble_eq_true rfl) rfl dX6_listener_9 ?_
    refine js_getNi 0 jw_n_RX6_144 (jl_20 hB) rfl (Nat.le_of_ble_eq_true rfl) rfl (h.au.2.1) dX6_listener_12 ?_
    refine js_bipush (v := nI 8) dX6_listener_15 (by decide) ?_
    refine jn_icmp_lt 30 (by omega) (by omega) dX6_listener_17 (by decide) (fun _ => ?_) (fun h9 => absurd h9 (by omega))
    refine js_aload_n 0 rfl dX6_listener_30 rfl ?_
    refine js_getr 2 jw_f_RX6_26 (jl_0 hB) rfl (Nat.le_of_ble_eq_true rfl) rfl dX6_listener_31 ?_
    refine js_iload_n 1 rfl dX6_listener_34 rfl ?_
    refine js_iload_n 2 rfl dX6_listener_35 rfl ?_
    refine js_callVN (av := [.int (nI u), .int (nI v)]) (st := []) (b := 20) (ct_X0_add hB h.au.2.1 h8) (Or.inl rfl) jw_c_X0_add jw_i_RX0 jw_h_RX6_149 jw_s_X0_add jw_e_X0_add (jl_20 hB) rfl jw_y_X0_add rfl ⟨(Nat.le_of_ble_eq_true rfl), (Nat.le_of_ble_eq_true rfl), (Nat.le_refl _), (Nat.le_refl _), (Nat.le_of_ble_eq_true rfl)⟩ dX6_listener_36 ?_
    refine js_st (st' := [.int (nI P.cnt)]) rfl ?_
    exact jj_refl
  · show _ = some (nI (jj_up P.ld P.cnt u j)) ∧ jj_up P.ld P.cnt u j < 4
    by_cases c : j = P.cnt
    · subst c
      rw [jj_up_at]
      exact ⟨(jj_w_neP (by omega)).trans ((jj_w_neP (by omega)).trans (jj_w_at _ _ _ _)), hu⟩
    · have hj2 : j < P.cnt := by have : j < P.cnt + 1 := hj; omega
      rw [jj_up_ne P.ld c]
      exact ⟨(jj_w_neP (by omega)).trans ((jj_w_neP (by omega)).trans ((jj_w_neI c).trans (h.au.2.2.1 j hj2).1)), (h.au.2.2.1 j hj2).2⟩
  · show _ = some (nI (jj_up P.pl P.cnt v j)) ∧ jj_up P.pl P.cnt v j < 3
    by_cases c : j = P.cnt
    · subst c
      rw [jj_up_at]
      exact ⟨(jj_w_neP (by omega)).trans (jj_w_at _ _ _ _), hv⟩
    · have hj2 : j < P.cnt := by have : j < P.cnt + 1 := hj; omega
      rw [jj_up_ne P.pl c]
      exact ⟨(jj_w_neP (by omega)).trans ((jj_w_neI c).trans ((jj_w_neP (by omega)).trans (h.au.2.2.2 j hj2).1)), (h.au.2.2.2 j hj2).2⟩
  · have h9 : jj_tot P.h P.x P.ca P.he P.du P.pa P.re = P.t / 14400 * jj_sm (fun l => jj_fee (P.pl l)) P.cnt := hT
    show jj_tot P.h P.x P.ca P.he P.du P.pa P.re = P.t / 14400 * _
    rw [h9, ht0]
    simp
set_option maxRecDepth 100000 in
set_option maxHeartbeats 4000000 in
theorem J_claim {lay : jj_Lay} {S : jj_Mem} {P : jj_P} (hB : jj_pp lay) (h : jj_J S P) (hK : jj_K P) (hT : jj_T P) {u q y : Nat} (hu : u < 10) (hq : q < 5) (hy : y ≤ 100) :
    ∃ (v : Int32) (S' : jj_Mem) (P' : jj_P), jj_CT yX6_claim (.code yX6_claim cX6_claim 4 (some .int)) none 2 46 [.ref 0, .int (nI u), .int (nI q), .int (nI y)] lay S (some (.int v)) lay S' ∧ jj_J S' P' ∧ jj_K P' ∧ jj_T P' ∧ jj_E P P' ∧ P'.n = P.n ∧ P'.t = P.t ∧ P'.nt = P.nt ∧ P'.wn = P.wn ∧ P'.cnt = P.cnt ∧ P'.pl = P.pl ∧ P'.rc = P.rc ∧ (∀ p, 103 < p → ∀ j, S' p j = S p j) := by
  have F : ∀ p, p < 10 ∨ 19 < p → ∀ j, (jj_w S (10 + u) q (nI y)) p j = S p j := fun p hp j => jj_w_neP (by omega)
  have hcm : jj_cm (jj_w S (10 + u) q (nI y)) (jj_um P.cl u q y) := fun a ha j hj => by
    unfold jj_um jj_w
    by_cases c : a = u ∧ j = q
    · rw [if_pos ⟨by omega, c.2⟩, if_pos c]; exact ⟨rfl, hy⟩
    · rw [if_neg (fun w => c ⟨by omega, w.2⟩), if_neg c]; exact h.cm a ha j hj
  refine ⟨nI (jj_sm (fun q1 => jj_um P.cl u q y u q1) 5), (jj_w S (10 + u) q (nI y)), (jj_mkP P.n P.t P.nt P.wn P.cnt P.h P.x P.li P.tr P.mi P.rs P.rc P.ld P.pl P.fl P.ca P.ge P.he P.du P.pa P.ad P.re P.pe P.se P.w0 P.w1 P.w2 P.w3 P.ev P.im P.od (jj_um P.cl u q y)), ?_, ⟨jj_lg_mono h.lg (fun p h1 h2 j => F p (by omega) j), jj_tk_mono h.tk (fun p h1 h2 j => F p (by omega) j), jj_wi_mono h.wi (fun p h1 h2 j => F p (by omega) j), ⟨h.au.1, (F 20 (by omega) 0).trans h.au.2.1, fun j hj => ⟨(F 21 (by omega) j).trans (h.au.2.2.1 j hj).1, (h.au.2.2.1 j hj).2⟩, fun j hj => ⟨(F 22 (by omega) j).trans (h.au.2.2.2 j hj).1, (h.au.2.2.2 j hj).2⟩⟩, fun j hj => ⟨(F 23 (by omega) j).trans (h.fl j hj).1, (h.fl j hj).2⟩, (F 0 (by omega) 9).trans h.now, (F 0 (by omega) 10).trans h.ru, jj_rw8_mono h.ev (fun p h1 h2 j => F p (by omega) j), jj_rw8_mono h.im (fun p h1 h2 j => F p (by omega) j), jj_rw8_mono h.od (fun p h1 h2 j => F p (by omega) j), hcm, jj_bs_mono h.bs (fun p h1 h2 j => F p (by omega) j), fun j hj => (F 24 (by omega) j).trans (h.pe j hj), fun j hj => (F 25 (by omega) j).trans (h.kc j hj), fun j a1 a2 => (F 40 (by omega) j).trans (h.z40 j a1 a2), h.ht, h.hli, h.htr, h.hmt, h.hmo, h.r5, h.ad0⟩, hK, hT, jj_E_refl P, rfl, rfl, rfl, rfl, rfl, rfl, rfl, fun p hp j => F p (by omega) j⟩
  refine jj_mkI RX6 .int (by decide) rfl (L := [some (.ref 0), some (.int (nI u)), some (.int (nI q)), some (.int (nI y))]) rfl rfl rfl ⟨48, [some (.ref 0), some (.int (nI u)), some (.int (nI q)), some (.int (nI y))], dX6_claim_48, ?_⟩
  refine js_iload_n 1 rfl dX6_claim_0 rfl ?_
  refine js_callS (av := [.int (nI u)]) (st := []) (ct_X6_needRecording hu) (Or.inl rfl) jw_c_X6_needRecording jw_i_RX6 jw_m_RX6_68 jw_s_X6_needRecording jw_y_X6_needRecording rfl ⟨(Nat.le_of_ble_eq_true rfl), (Nat.le_of_ble_eq_true rfl), (Nat.le_refl _), (Nat.le_refl _), (Nat.le_of_ble_eq_true rfl)⟩ dX6_claim_1 ?_
  refine js_st (st' := []) rfl ?_
  refine js_iload_n 2 rfl dX6_claim_4 rfl ?_
  refine js_callS (av := [.int (nI q)]) (st := []) (ct_X6_needParty hq) (Or.inl rfl) jw_c_X6_needParty jw_i_RX6 jw_m_RX6_121 jw_s_X6_needParty jw_y_X6_needParty rfl ⟨(Nat.le_of_ble_eq_true rfl), (Nat.le_of_ble_eq_true rfl), (Nat.le_refl _), (Nat.le_refl _), (Nat.le_of_ble_eq_true rfl)⟩ dX6_claim_5 ?_
  refine js_st (st' := []) rfl ?_
  refine js_iload_n 3 rfl dX6_claim_8 rfl ?_
  refine jn_if_lt 18 (by omega) dX6_claim_9 (by decide) (fun h9 => absurd h9 (by omega)) (fun _ => ?_)
  refine js_iload_n 3 rfl dX6_claim_12 rfl ?_
  refine js_bipush (v := nI 100) dX6_claim_13 (by decide) ?_
  refine jn_icmp_le 28 (by omega) (by omega) dX6_claim_15 (by decide) (fun _ => ?_) (fun h9 => absurd h9 (by omega))
  refine js_aload_n 0 rfl dX6_claim_28 rfl ?_
  refine js_getr 1 jw_f_RX6_19 (jl_0 hB) rfl (Nat.le_of_ble_eq_true rfl) rfl dX6_claim_29 ?_
  refine js_getNr 0 jw_n_RX6_126 (jl_8 hB) rfl (Nat.le_of_ble_eq_true rfl) rfl dX6_claim_32 ?_
  refine js_iload_n 1 rfl dX6_claim_35 rfl ?_
  refine js_aald u rfl (jl_9 hB) (by omega) (by decide) (jr_cl u hu) dX6_claim_36 ?_
  refine js_iload_n 2 rfl dX6_claim_37 rfl ?_
  refine js_iload_n 3 rfl dX6_claim_38 rfl ?_
  refine js_iast q rfl (jl_cl hB u hu) (by omega) (by decide) dX6_claim_39 ?_
  refine js_aload_n 0 rfl dX6_claim_40 rfl ?_
  refine js_getr 1 jw_f_RX6_19 (jl_0 hB) rfl (Nat.le_of_ble_eq_true rfl) rfl dX6_claim_41 ?_
  refine js_iload_n 1 rfl dX6_claim_44 rfl ?_
  refine js_callVN (av := [.int (nI u)]) (st := []) (b := 8) (ct_X5_claimsOf hB hu hcm) (Or.inl rfl) jw_c_X5_claimsOf jw_i_RX5 jw_h_RX6_130 jw_s_X5_claimsOf jw_e_X5_claimsOf (jl_8 hB) rfl jw_y_X5_claimsOf rfl ⟨(Nat.le_of_ble_eq_true rfl), (Nat.le_of_ble_eq_true rfl), (Nat.le_refl _), (Nat.le_refl _), (Nat.le_of_ble_eq_true rfl)⟩ dX6_claim_45 ?_
  refine js_st (st' := [.int (nI (jj_sm (fun q1 => jj_um P.cl u q y u q1) 5))]) rfl ?_
  exact jj_refl

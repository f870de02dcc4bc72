/-! CLOSING A MONTH. -/
theorem jj_sm_zero : ∀ n : Nat, jj_sm (fun _ => 0) n = 0 := fun n => by rw [jj_sm_const, Nat.mul_zero]
theorem jj_sm_pick {f : Nat → Nat} {k : Nat} : ∀ n : Nat, k < n → jj_sm (fun j => if k = j then f j else 0) n = f k
  | 0, h => absurd h (by omega)
  | n + 1, h => by
    show jj_sm _ n + (if k = n then f n else 0) = f k
    by_cases e : k = n
    · subst e
      rw [if_pos rfl, jj_sm_congr (g := fun _ => 0) (fun j hj => if_neg (by omega)), jj_sm_zero]
      omega
    · rw [if_neg e, jj_sm_pick n (by omega)]
      rfl
/-- land by land, or at once -/
theorem jj_lands {ld v : Nat → Nat} : ∀ cnt : Nat, (∀ l, l < cnt → ld l < 4) → jj_sm (fun land => jj_sm (fun l => if ld l = land then v l else 0) cnt) 4 = jj_sm v cnt
  | 0, _ => jj_sm_zero 4
  | n + 1, h => by
    have h1 := jj_lands (v := v) n (fun l hl => h l (by omega))
    have h2 : jj_sm (fun land => jj_sm (fun l => if ld l = land then v l else 0) (n + 1)) 4 = jj_sm (fun land => jj_sm (fun l => if ld l = land then v l else 0) n) 4 + jj_sm (fun land => if ld n = land then v n else 0) 4 := jj_sm_add _ _ 4
    rw [h2, h1, jj_sm_pick (f := fun _ => v n) 4 (h n (by omega))]
    rfl
theorem jj_swap (f : Nat → Nat → Nat) (m : Nat) : ∀ n : Nat, jj_sm (fun j => jj_sm (fun l => f l j) m) n = jj_sm (fun l => jj_sm (f l) n) m
  | 0 => (jj_sm_zero m).symm
  | n + 1 => by
    show jj_sm _ n + jj_sm (fun l => f l n) m = _
    rw [jj_swap f m n]
    exact (jj_sm_add (fun l => jj_sm (f l) n) (fun l => f l n) m).symm
theorem jj_wg_le {ld : Nat → Nat} {im : Nat → Nat → Nat} {land cnt : Nat} : jj_sm (jj_wg ld im land cnt) 10 ≤ jj_sm (fun l => jj_sm (im l) 10) cnt := by
  have h : jj_sm (jj_wg ld im land cnt) 10 = jj_sm (fun l => jj_sm (fun j => if ld l = land then im l j else 0) 10) cnt := jj_swap (fun l j => if ld l = land then im l j else 0) cnt 10
  rw [h]
  refine jj_sm_le (fun l _ => jj_sm_le (fun j _ => ?_))
  by_cases c : ld l = land
  · rw [if_pos c]; exact Nat.le_refl _
  · rw [if_neg c]; exact Nat.zero_le _
/-- what a Books object holds -/
def jj_bs (S : jj_Mem) (b h x : Nat) (ca ge he du pa ad re : Nat → Nat) : Prop :=
  S b 0 = some (nI h) ∧ S b 1 = some (nI x) ∧ (∀ j, j < 4 → S (b + 1) j = some (nI (ca j))) ∧ (∀ j, j < 10 → S (b + 2) j = some (nI (ge j))) ∧ (∀ j, j < 10 → S (b + 3) j = some (nI (he j))) ∧ (∀ j, j < 5 → S (b + 4) j = some (nI (du j))) ∧ (∀ j, j < 5 → S (b + 5) j = some (nI (pa j))) ∧ (∀ j, j < 5 → S (b + 6) j = some (nI (ad j))) ∧ (∀ j, j < 5 → S (b + 7) j = some (nI (re j)))
def jj_tot (h x : Nat) (ca he du pa re : Nat → Nat) : Nat := h + x + jj_sm ca 4 + jj_sm he 10 + jj_sm du 5 + jj_sm pa 5 + jj_sm re 5
set_option maxRecDepth 100000 in
set_option maxHeartbeats 4000000 in
theorem la_X1_close {lay : jj_Lay} (hB : jj_pp lay) {cnt : Nat} {ld pl : Nat → Nat} {b rule : Nat} {im : Nat → Nat → Nat} (hK : jj_bk lay b) (hrule : rule < 2) (him2 : ∀ l, l < cnt → jj_sm (im l) 10 ≤ 1000) (him3 : jj_sm (fun l => jj_sm (im l) 10) cnt ≤ 1000) {B : Nat} (hBd : B ≤ 1000000) : ∀ (k e : Nat), e + k = 4 → ∀ (S : jj_Mem) (ca g : Nat → Nat), jj_au S cnt ld pl → jj_im S cnt im → (∀ j, j < 4 → S (b + 1) j = some (nI (ca j))) → (∀ j, j < 10 → S (b + 8) j = some (nI (g j))) → jj_sm ca 4 + jj_sm g 10 + jj_sm (fun land => jj_po ld pl land cnt) 4 ≤ B + jj_sm (fun land => jj_po ld pl land cnt) e →
    ∃ (ca' g' : Nat → Nat) (S' : jj_Mem), jj_R cX1_close 6 RX1 yX1_close.name none 4 93 lay.length (jj_sl lay) (16, [some (.ref b), some (.int (nI rule)), some (.ref 20), some (.ref 42), some (.ref 8), some (.int (nI e))], [], lay, S) (103, [some (.ref b), some (.int (nI rule)), some (.ref 20), some (.ref 42), some (.ref 8), some (.int (nI 4))], [], lay, S') ∧ (∀ j, j < 4 → S' (b + 1) j = some (nI (ca' j))) ∧ (∀ j, j < 10 → S' (b + 8) j = some (nI (g' j))) ∧ jj_sm ca' 4 + jj_sm g' 10 + jj_sm (fun land => jj_po ld pl land cnt) e = jj_sm ca 4 + jj_sm g 10 + jj_sm (fun land => jj_po ld pl land cnt) 4 ∧ (∀ p, p ≠ b + 1 → p ≠ b + 8 → p ≠ b + 9 → p ≠ b + 10 → ∀ j, S' p j = S p j) := by
  intro k
  induction k with
  | zero =>
    intro e he S ca g hau him hca hg hbd
    have he : e = 4 := by omega
    subst he
    refine ⟨ca, g, S, ?_, hca, hg, rfl, fun _ _ _ _ _ _ => rfl⟩
    refine js_iload dX1_close_16 rfl ?_
    refine js_iconst (v := nI 4) dX1_close_18 (by decide) ?_
    refine jn_icmp_ge 103 (by omega) (by omega) dX1_close_19 (by decide) (fun _ => ?_) (fun h9 => absurd h9 (by omega))
    exact jj_refl
  | succ k ih =>
    intro e he S ca g hau him hca hg hbd
    have hb := jk_b hK
    have hc8 := hau.1
    have he4 : e < 4 := by omega
    have hpo : jj_sm (fun land => jj_po ld pl land cnt) (e + 1) = jj_sm (fun land => jj_po ld pl land cnt) e + jj_po ld pl e cnt := rfl
    have hpm := jj_sm_mono (f := (fun land => jj_po ld pl land cnt)) (show e + 1 ≤ 4 by omega)
    have hcl := jj_sm_at (f := ca) he4
    have hwl := jj_wg_le (ld := ld) (im := im) (land := e) (cnt := cnt)
    have hau1 : jj_au (jj_row S (b + 9) 10 (jj_wg ld im e cnt)) cnt ld pl := jj_au_mono hau (fun p hp j => jj_row_neP (by omega))
    by_cases h0 : rule = 0
    · obtain ⟨rv, g1, S1, hct, q1, q2, q3, q4⟩ := ct_X1_split_x (lay := lay) (S := jj_row S (b + 9) 10 (jj_wg ld im e cnt)) (b := b) (q := b + 9) (a := ca e + jj_po ld pl e cnt) (g := g) (w := jj_wg ld im e cnt) hK (jk_9 hK) (by omega) (by omega) (fun j hj => (jj_row_neP (by omega)).trans (hg j hj)) (fun j hj => jj_row_at hj) (by omega) (by omega)
      have hf1 : ∀ p, p ≠ b + 1 → p ≠ b + 8 → p ≠ b + 9 → p ≠ b + 10 → ∀ j, jj_w S1 (b + 1) e (nI rv) p j = S p j := fun p h1 h8 h9 h10 j => (jj_w_neP h1).trans ((q4 p h8 h10 j).trans (jj_row_neP h9))
      have hsu := jj_sm_up (f := ca) (i := e) (x := rv) (n := 4) he4
      obtain ⟨ca', g', S', hR, p1, p2, p3, p4⟩ := ih (e + 1) (by omega) (jj_w S1 (b + 1) e (nI rv)) (jj_up ca e rv) g1 (jj_au_mono hau (fun p hp j => hf1 p (by omega) (by omega) (by omega) (by omega) j)) (jj_im_mono hc8 him (fun p hp j => hf1 p (by omega) (by omega) (by omega) (by omega) j))
        (jj_row_upd (fun j hj => (q4 (b + 1) (by omega) (by omega) j).trans ((jj_row_neP (by omega)).trans (hca j hj)))) (fun j hj => (jj_w_neP (by omega)).trans (q1 j hj)) (by omega)
      refine ⟨ca', g', S', jj_tr ?_ hR, p1, p2, by omega, fun p h1 h8 h9 h10 j => (p4 p h1 h8 h9 h10 j).trans (hf1 p h1 h8 h9 h10 j)⟩
      refine js_iload dX1_close_16 rfl ?_
      refine js_iconst (v := nI 4) dX1_close_18 (by decide) ?_
      refine jn_icmp_ge 103 (by omega) (by omega) dX1_close_19 (by decide) (fun h9 => absurd h9 (by omega)) (fun _ => ?_)
      refine js_aload_n 0 rfl dX1_close_22 rfl ?_
      refine js_iload dX1_close_23 rfl ?_
      refine js_aload_n 2 rfl dX1_close_25 rfl ?_
      refine js_aload_n 3 rfl dX1_close_26 rfl ?_
      refine js_callV (av := [.int (nI e), .ref 20, .ref 42]) (st := []) (b := b) (ct_X1_weighLand hB hau hK he4 him) (Or.inl rfl) jw_c_X1_weighLand jw_i_RX1 jw_m_RX1_63 jw_s_X1_weighLand jw_e_X1_weighLand (jk_0 hK) rfl jw_y_X1_weighLand rfl ⟨(Nat.le_of_ble_eq_true rfl), (Nat.le_of_ble_eq_true rfl), (Nat.le_refl _), (Nat.le_refl _), (Nat.le_of_ble_eq_true rfl)⟩ dX1_close_27 ?_
      refine js_st (st' := []) rfl ?_
      refine js_iload_n 1 rfl dX1_close_30 rfl ?_
      refine jn_if_ne 67 (by omega) dX1_close_31 (by decide) (fun h9 => absurd h9 (by omega)) (fun _ => ?_)
      refine js_aload_n 0 rfl dX1_close_34 rfl ?_
      refine js_getr 2 jw_f_RX1_18 (jk_0 hK) rfl (Nat.le_of_ble_eq_true rfl) rfl dX1_close_35 ?_
      refine js_iload dX1_close_38 rfl ?_
      refine js_aload_n 0 rfl dX1_close_40 rfl ?_
      refine js_aload_n 0 rfl dX1_close_41 rfl ?_
      refine js_getr 2 jw_f_RX1_18 (jk_0 hK) rfl (Nat.le_of_ble_eq_true rfl) rfl dX1_close_42 ?_
      refine js_iload dX1_close_45 rfl ?_
      refine js_iald e rfl (jk_1 hK) (by omega) (by decide) ((jj_row_neP (by omega)).trans (hca e (by omega))) dX1_close_47 ?_
      refine js_aload_n 0 rfl dX1_close_48 rfl ?_
      refine js_iload dX1_close_49 rfl ?_
      refine js_aload_n 2 rfl dX1_close_51 rfl ?_
      refine js_callV (av := [.int (nI e), .ref 20]) (st := [.int (nI (ca e)), .ref b, .int (nI e), .ref (b + 1)]) (b := b) (ct_X1_poolOf (b := b) hB (jj_au_mono hau (fun p hp j => jj_row_neP (by omega))) he4) (Or.inl rfl) jw_c_X1_poolOf jw_i_RX1 jw_m_RX1_67 jw_s_X1_poolOf jw_e_X1_poolOf (jk_0 hK) rfl jw_y_X1_poolOf rfl ⟨(Nat.le_of_ble_eq_true rfl), (Nat.le_of_ble_eq_true rfl), (Nat.le_refl _), (Nat.le_refl _), (Nat.le_of_ble_eq_true rfl)⟩ dX1_close_52 ?_
      refine js_st (st' := [.int (nI (jj_po ld pl e cnt)), .int (nI (ca e)), .ref b, .int (nI e), .ref (b + 1)]) rfl ?_
      refine jn_iadd dX1_close_55 ?_
      refine js_aload_n 0 rfl dX1_close_56 rfl ?_
      refine js_getr 10 jw_f_RX1_43 (jk_0 hK) rfl (Nat.le_of_ble_eq_true rfl) rfl dX1_close_57 ?_
      refine js_callV (av := [.int (nI (((ca e)) + ((jj_po ld pl e cnt)))), .ref (b + 9)]) (st := [.int (nI e), .ref (b + 1)]) (b := b) hct (Or.inl rfl) jw_c_X1_split jw_i_RX1 jw_m_RX1_71 jw_s_X1_split jw_e_X1_split (jk_0 hK) rfl jw_y_X1_split rfl ⟨(Nat.le_of_ble_eq_true rfl), (Nat.le_of_ble_eq_true rfl), (Nat.le_refl _), (Nat.le_refl _), (Nat.le_of_ble_eq_true rfl)⟩ dX1_close_60 ?_
      refine js_st (st' := [.int (nI rv), .int (nI e), .ref (b + 1)]) rfl ?_
      refine js_iast e rfl (jk_1 hK) (by omega) (by decide) dX1_close_63 ?_
      refine js_goto 97 dX1_close_64 (by decide) ?_
      refine js_iinc (v := nI (e + 1)) (L' := [some (.ref b), some (.int (nI rule)), some (.ref 20), some (.ref 42), some (.ref 8), some (.int (nI (e + 1)))]) dX1_close_97 rfl (jj_inc _) rfl ?_
      refine js_goto 16 dX1_close_100 (by decide) ?_
      exact jj_refl
    · obtain ⟨rv, g1, S1, hct, q1, q2, q3, q4⟩ := ct_X1_split_x (lay := lay) (S := jj_row S (b + 9) 10 (jj_wg ld im e cnt)) (b := b) (q := b + 9) (a := ca e) (g := g) (w := jj_wg ld im e cnt) hK (jk_9 hK) (by omega) (by omega) (fun j hj => (jj_row_neP (by omega)).trans (hg j hj)) (fun j hj => jj_row_at hj) (by omega) (by omega)
      have hf1 : ∀ p, p ≠ b + 1 → p ≠ b + 8 → p ≠ b + 9 → p ≠ b + 10 → ∀ j, jj_w S1 (b + 1) e (nI rv) p j = S p j := fun p h1 h8 h9 h10 j => (jj_w_neP h1).trans ((q4 p h8 h10 j).trans (jj_row_neP h9))
      have hsu := jj_sm_up (f := ca) (i := e) (x := rv) (n := 4) he4
      obtain ⟨ca2, g2, S2, hct2, r1, r2, r3, r4, r5, r6⟩ := ct_X1_splitByListener (lay := lay) (land := e) hB hK he4 him2 (S := jj_w S1 (b + 1) e (nI rv)) (ca := jj_up ca e rv) (g := g1) (jj_au_mono hau (fun p hp j => hf1 p (by omega) (by omega) (by omega) (by omega) j)) (jj_im_mono hc8 him (fun p hp j => hf1 p (by omega) (by omega) (by omega) (by omega) j))
        (jj_row_upd (fun j hj => (q4 (b + 1) (by omega) (by omega) j).trans ((jj_row_neP (by omega)).trans (hca j hj)))) (fun j hj => (jj_w_neP (by omega)).trans (q1 j hj))
      have hf2 : ∀ p, p ≠ b + 1 → p ≠ b + 8 → p ≠ b + 9 → p ≠ b + 10 → ∀ j, S2 p j = S p j := fun p h1 h8 h9 h10 j => (r6 p h1 h8 h10 j).trans (hf1 p h1 h8 h9 h10 j)
      have hz : jj_po ld pl e 0 = 0 := rfl
      have hs2 : jj_sm ca2 4 + jj_up ca e rv e = jj_sm (jj_up ca e rv) 4 + ca2 e := by
        have t1 := jj_sm_up (f := jj_up ca e rv) (i := e) (x := ca2 e) (n := 4) he4
        have t2 : jj_sm (jj_up (jj_up ca e rv) e (ca2 e)) 4 = jj_sm ca2 4 := jj_sm_congr (fun j hj => by
          unfold jj_up
          by_cases c : j = e
          · rw [if_pos c, c]
          · rw [if_neg c]; exact (r3 j c).symm)
        omega
      rw [jj_up_at] at hs2 r4
      obtain ⟨ca', g', S', hR, p1, p2, p3, p4⟩ := ih (e + 1) (by omega) S2 ca2 g2 (jj_au_mono hau (fun p hp j => hf2 p (by omega) (by omega) (by omega) (by omega) j)) (jj_im_mono hc8 him (fun p hp j => hf2 p (by omega) (by omega) (by omega) (by omega) j)) r1 r2 (by omega)
      refine ⟨ca', g', S', jj_tr ?_ hR, p1, p2, by omega, fun p h1 h8 h9 h10 j => (p4 p h1 h8 h9 h10 j).trans (hf2 p h1 h8 h9 h10 j)⟩
      refine js_iload dX1_close_16 rfl ?_
      refine js_iconst (v := nI 4) dX1_close_18 (by decide) ?_
      refine jn_icmp_ge 103 (by omega) (by omega) dX1_close_19 (by decide) (fun h9 => absurd h9 (by omega)) (fun _ => ?_)
      refine js_aload_n 0 rfl dX1_close_22 rfl ?_
      refine js_iload dX1_close_23 rfl ?_
      refine js_aload_n 2 rfl dX1_close_25 rfl ?_
      refine js_aload_n 3 rfl dX1_close_26 rfl ?_
      refine js_callV (av := [.int (nI e), .ref 20, .ref 42]) (st := []) (b := b) (ct_X1_weighLand hB hau hK he4 him) (Or.inl rfl) jw_c_X1_weighLand jw_i_RX1 jw_m_RX1_63 jw_s_X1_weighLand jw_e_X1_weighLand (jk_0 hK) rfl jw_y_X1_weighLand rfl ⟨(Nat.le_of_ble_eq_true rfl), (Nat.le_of_ble_eq_true rfl), (Nat.le_refl _), (Nat.le_refl _), (Nat.le_of_ble_eq_true rfl)⟩ dX1_close_27 ?_
      refine js_st (st' := []) rfl ?_
      refine js_iload_n 1 rfl dX1_close_30 rfl ?_
      refine jn_if_ne 67 (by omega) dX1_close_31 (by decide) (fun _ => ?_) (fun h9 => absurd h9 (by omega))
      refine js_aload_n 0 rfl dX1_close_67 rfl ?_
      refine js_getr 2 jw_f_RX1_18 (jk_0 hK) rfl (Nat.le_of_ble_eq_true rfl) rfl dX1_close_68 ?_
      refine js_iload dX1_close_71 rfl ?_
      refine js_aload_n 0 rfl dX1_close_73 rfl ?_
      refine js_aload_n 0 rfl dX1_close_74 rfl ?_
      refine js_getr 2 jw_f_RX1_18 (jk_0 hK) rfl (Nat.le_of_ble_eq_true rfl) rfl dX1_close_75 ?_
      refine js_iload dX1_close_78 rfl ?_
      refine js_iald e rfl (jk_1 hK) (by omega) (by decide) ((jj_row_neP (by omega)).trans (hca e (by omega))) dX1_close_80 ?_
      refine js_aload_n 0 rfl dX1_close_81 rfl ?_
      refine js_getr 10 jw_f_RX1_43 (jk_0 hK) rfl (Nat.le_of_ble_eq_true rfl) rfl dX1_close_82 ?_
      refine js_callV (av := [.int (nI (ca e)), .ref (b + 9)]) (st := [.int (nI e), .ref (b + 1)]) (b := b) hct (Or.inl rfl) jw_c_X1_split jw_i_RX1 jw_m_RX1_71 jw_s_X1_split jw_e_X1_split (jk_0 hK) rfl jw_y_X1_split rfl ⟨(Nat.le_of_ble_eq_true rfl), (Nat.le_of_ble_eq_true rfl), (Nat.le_refl _), (Nat.le_refl _), (Nat.le_of_ble_eq_true rfl)⟩ dX1_close_85 ?_
      refine js_st (st' := [.int (nI rv), .int (nI e), .ref (b + 1)]) rfl ?_
      refine js_iast e rfl (jk_1 hK) (by omega) (by decide) dX1_close_88 ?_
      refine js_aload_n 0 rfl dX1_close_89 rfl ?_
      refine js_iload dX1_close_90 rfl ?_
      refine js_aload_n 2 rfl dX1_close_92 rfl ?_
      refine js_aload_n 3 rfl dX1_close_93 rfl ?_
      refine js_callV (av := [.int (nI e), .ref 20, .ref 42]) (st := []) (b := b) hct2 (Or.inl rfl) jw_c_X1_splitByListener jw_i_RX1 jw_m_RX1_75 jw_s_X1_splitByListener jw_e_X1_splitByListener (jk_0 hK) rfl jw_y_X1_splitByListener rfl ⟨(Nat.le_of_ble_eq_true rfl), (Nat.le_of_ble_eq_true rfl), (Nat.le_refl _), (Nat.le_refl _), (Nat.le_of_ble_eq_true rfl)⟩ dX1_close_94 ?_
      refine js_st (st' := []) rfl ?_
      refine js_iinc (v := nI (e + 1)) (L' := [some (.ref b), some (.int (nI rule)), some (.ref 20), some (.ref 42), some (.ref 8), some (.int (nI (e + 1)))]) dX1_close_97 rfl (jj_inc _) rfl ?_
      refine js_goto 16 dX1_close_100 (by decide) ?_
      exact jj_refl
set_option maxRecDepth 100000 in
set_option maxHeartbeats 4000000 in
theorem lb_X1_close {lay : jj_Lay} (hB : jj_pp lay) {b rule : Nat} {cl : Nat → Nat → Nat} (hK : jj_bk lay b) {g : Nat → Nat} : ∀ (k e : Nat), e + k = 10 → ∀ (S : jj_Mem) (x : Nat) (ge he du : Nat → Nat), jj_cm S cl → (∀ j, j < 10 → S (b + 8) j = some (nI (g j))) → (∀ j, j < 10 → S (b + 2) j = some (nI (ge j))) → (∀ j, j < 10 → S (b + 3) j = some (nI (he j))) → (∀ j, j < 5 → S (b + 4) j = some (nI (du j))) → S b 1 = some (nI x) → (∀ j, e ≤ j → j < 10 → g j + he j ≤ 1000000) →
    ∃ (x' : Nat) (ge' he' du' : Nat → Nat) (S' : jj_Mem), jj_R cX1_close 6 RX1 yX1_close.name none 4 93 lay.length (jj_sl lay) (106, [some (.ref b), some (.int (nI rule)), some (.ref 20), some (.ref 42), some (.ref 8), some (.int (nI e))], [], lay, S) (144, [some (.ref b), some (.int (nI rule)), some (.ref 20), some (.ref 42), some (.ref 8), some (.int (nI 10))], [], lay, S') ∧ (∀ j, j < 10 → S' (b + 2) j = some (nI (ge' j))) ∧ (∀ j, j < 10 → S' (b + 3) j = some (nI (he' j))) ∧ (∀ j, j < 5 → S' (b + 4) j = some (nI (du' j))) ∧ S' b 1 = some (nI x') ∧ x' + jj_sm he' 10 + jj_sm du' 5 + jj_sm g e = x + jj_sm he 10 + jj_sm du 5 + jj_sm g 10 ∧ (∀ j, j < 10 → ge' j = ge j + (if e ≤ j then g j else 0)) ∧ S' b 0 = S b 0 ∧ (∀ p, p ≠ b → p ≠ b + 2 → p ≠ b + 3 → p ≠ b + 4 → ∀ j, S' p j = S p j) := by
  intro k
  induction k with
  | zero =>
    intro e he9 S x ge he du hcm hg hge hhe hdu hx hbd
    have he9 : e = 10 := by omega
    subst he9
    refine ⟨x, ge, he, du, S, ?_, hge, hhe, hdu, hx, rfl, fun j hj => by rw [if_neg (by omega), Nat.add_zero], rfl, fun _ _ _ _ _ _ => rfl⟩
    refine js_iload dX1_close_106 rfl ?_
    refine js_bipush (v := nI 10) dX1_close_108 (by decide) ?_
    refine jn_icmp_ge 144 (by omega) (by omega) dX1_close_110 (by decide) (fun _ => ?_) (fun h9 => absurd h9 (by omega))
    exact jj_refl
  | succ k ih =>
    intro e he9 S x ge he du hcm hg hge hhe hdu hx hbd
    have hb := jk_b hK
    have h10 : e < 10 := by omega
    obtain ⟨he1, du1, x1, S1, hct, q1, q2, q3, q4, q5, q6, q7⟩ := ct_X1_share (lay := lay) (S := jj_w S (b + 2) e (nI (ge e + g e))) (u := e) (cl := cl) (g := g) (he := he) (du := du) (x := x) hB hK h10 (jj_cm_mono hcm (fun p hp j => jj_w_neP (by omega))) (fun j hj => (jj_w_neP (by omega)).trans (hg j hj)) (fun j hj => (jj_w_neP (by omega)).trans (hhe j hj)) (fun j hj => (jj_w_neP (by omega)).trans (hdu j hj)) ((jj_w_neP (by omega)).trans hx) (hbd e (Nat.le_refl _) h10)
    have hf : ∀ p, p ≠ b → p ≠ b + 2 → p ≠ b + 3 → p ≠ b + 4 → ∀ j, S1 p j = S p j := fun p h0 h2 h3 h4 j => (q7 p h0 h3 h4 j).trans (jj_w_neP h2)
    obtain ⟨x', ge', he', du', S', hR, p1, p2, p3, p4, p5, p6, p7, p8⟩ := ih (e + 1) (by omega) S1 x1 (jj_up ge e (ge e + g e)) he1 du1 (jj_cm_mono hcm (fun p hp j => hf p (by omega) (by omega) (by omega) (by omega) j)) (fun j hj => (hf (b + 8) (by omega) (by omega) (by omega) (by omega) j).trans (hg j hj)) (fun j hj => (q7 (b + 2) (by omega) (by omega) (by omega) j).trans (jj_row_upd hge j hj)) q1 q2 q3 (fun j h1 h2 => by rw [q5 j (by omega)]; exact hbd j (by omega) h2)
    have hse : jj_sm g (e + 1) = jj_sm g e + g e := rfl
    refine ⟨x', ge', he', du', S', jj_tr ?_ hR, p1, p2, p3, p4, by omega, fun j hj => ?_, p7.trans (q6.trans (jj_w_neP (by omega))), fun p h0 h2 h3 h4 j => (p8 p h0 h2 h3 h4 j).trans (hf p h0 h2 h3 h4 j)⟩
    · refine js_iload dX1_close_106 rfl ?_
      refine js_bipush (v := nI 10) dX1_close_108 (by decide) ?_
      refine jn_icmp_ge 144 (by omega) (by omega) dX1_close_110 (by decide) (fun h9 => absurd h9 (by omega)) (fun _ => ?_)
      refine js_aload_n 0 rfl dX1_close_113 rfl ?_
      refine js_getr 3 jw_f_RX1_22 (jk_0 hK) rfl (Nat.le_of_ble_eq_true rfl) rfl dX1_close_114 ?_
      refine js_iload dX1_close_117 rfl ?_
      refine js_dup2 rfl rfl dX1_close_119 ?_
      refine js_iald e rfl (jk_2 hK) (by omega) (by decide) (hge e (by omega)) dX1_close_120 ?_
      refine js_aload_n 0 rfl dX1_close_121 rfl ?_
      refine js_getr 9 jw_f_RX1_40 (jk_0 hK) rfl (Nat.le_of_ble_eq_true rfl) rfl dX1_close_122 ?_
      refine js_iload dX1_close_125 rfl ?_
      refine js_iald e rfl (jk_8 hK) (by omega) (by decide) (hg e (by omega)) dX1_close_127 ?_
      refine jn_iadd dX1_close_128 ?_
      refine js_iast e rfl (jk_2 hK) (by omega) (by decide) dX1_close_129 ?_
      refine js_aload_n 0 rfl dX1_close_130 rfl ?_
      refine js_iload dX1_close_131 rfl ?_
      refine js_aload dX1_close_133 rfl ?_
      refine js_callV (av := [.int (nI e), .ref 8]) (st := []) (b := b) hct (Or.inl rfl) jw_c_X1_share jw_i_RX1 jw_m_RX1_78 jw_s_X1_share jw_e_X1_share (jk_0 hK) rfl jw_y_X1_share rfl ⟨(Nat.le_of_ble_eq_true rfl), (Nat.le_of_ble_eq_true rfl), (Nat.le_refl _), (Nat.le_refl _), (Nat.le_of_ble_eq_true rfl)⟩ dX1_close_135 ?_
      refine js_st (st' := []) rfl ?_
      refine js_iinc (v := nI (e + 1)) (L' := [some (.ref b), some (.int (nI rule)), some (.ref 20), some (.ref 42), some (.ref 8), some (.int (nI (e + 1)))]) dX1_close_138 rfl (jj_inc _) rfl ?_
      refine js_goto 106 dX1_close_141 (by decide) ?_
      exact jj_refl
    · rw [p6 j hj]
      by_cases c : j = e
      · rw [c, jj_up_at, if_neg (by omega), if_pos (Nat.le_refl _), Nat.add_zero]
      · rw [jj_up_ne ge c]
        by_cases d : e ≤ j
        · rw [if_pos d, if_pos (by omega)]
        · rw [if_neg d, if_neg (by omega)]
set_option maxRecDepth 100000 in
set_option maxHeartbeats 4000000 in
theorem lc_X1_close {lay : jj_Lay} {b rule : Nat} (hK : jj_bk lay b) : ∀ (k e : Nat), e + k = 5 → ∀ (S : jj_Mem) (du pa ad re : Nat → Nat), (∀ j, j < 5 → S (b + 4) j = some (nI (du j))) → (∀ j, j < 5 → S (b + 5) j = some (nI (pa j))) → (∀ j, j < 5 → S (b + 6) j = some (nI (ad j))) → (∀ j, j < 5 → S (b + 7) j = some (nI (re j))) → (∀ j, j < 5 → ad j < 2 ^ 31) → jj_sm du 5 + jj_sm pa 5 + jj_sm re 5 ≤ 1000000 →
    ∃ (du' pa' ad' re' : Nat → Nat) (S' : jj_Mem), jj_RR cX1_close 6 RX1 yX1_close.name none 4 93 lay.length (jj_sl lay) (147, [some (.ref b), some (.int (nI rule)), some (.ref 20), some (.ref 42), some (.ref 8), some (.int (nI e))], [], lay, S) none .return_ lay S' ∧ (∀ j, j < 5 → S' (b + 4) j = some (nI (du' j))) ∧ (∀ j, j < 5 → S' (b + 5) j = some (nI (pa' j))) ∧ (∀ j, j < 5 → S' (b + 6) j = some (nI (ad' j))) ∧ (∀ j, j < 5 → S' (b + 7) j = some (nI (re' j))) ∧ jj_sm du' 5 + jj_sm pa' 5 + jj_sm re' 5 = jj_sm du 5 + jj_sm pa 5 + jj_sm re 5 ∧ (∀ j, pa j ≤ pa' j) ∧ (∀ j, ad' j ≤ ad j) ∧ (∀ p, p ≠ b + 4 → p ≠ b + 5 → p ≠ b + 6 → p ≠ b + 7 → ∀ j, S' p j = S p j) := by
  intro k
  induction k with
  | zero =>
    intro e he S du pa ad re hdu hpa had hre hb1 hb2
    have he : e = 5 := by omega
    subst he
    refine ⟨du, pa, ad, re, S, ⟨171, [some (.ref b), some (.int (nI rule)), some (.ref 20), some (.ref 42), some (.ref 8), some (.int (nI 5))], dX1_close_171, ?_⟩, hdu, hpa, had, hre, rfl, fun _ => Nat.le_refl _, fun _ => Nat.le_refl _, fun _ _ _ _ _ _ => rfl⟩
    refine js_iload dX1_close_147 rfl ?_
    refine js_iconst (v := nI 5) dX1_close_149 (by decide) ?_
    refine jn_icmp_ge 171 (by omega) (by omega) dX1_close_150 (by decide) (fun _ => ?_) (fun h9 => absurd h9 (by omega))
    exact jj_refl
  | succ k ih =>
    intro e he S du pa ad re hdu hpa had hre hb1 hb2
    have hb := jk_b hK
    have h5 : e < 5 := by omega
    have hd1 := jj_sm_at (f := du) h5
    obtain ⟨du1, ad1, re1, S1, hct, q1, q2, q3, q4, q5, q6⟩ := ct_X1_recoup (lay := lay) (S := S) (u := e) hK h5 hdu had hre (by omega) (hb1 e h5)
    have hd2 := jj_sm_at (f := du1) h5
    obtain ⟨du2, pa2, S2, hct2, r1, r2, r3, r4, r5⟩ := ct_X1_payOut (lay := lay) (S := S1) (u := e) hK h5 q1 (fun j hj => (q6 (b + 5) (by omega) (by omega) (by omega) j).trans (hpa j hj)) (by omega)
    obtain ⟨du', pa', ad', re', S', hR, p1, p2, p3, p4, p5, p6, p7, p8⟩ := ih (e + 1) (by omega) S2 du2 pa2 ad1 re1 r1 r2 (fun j hj => (r5 (b + 6) (by omega) (by omega) j).trans (q2 j hj)) (fun j hj => (r5 (b + 7) (by omega) (by omega) j).trans (q3 j hj)) (fun j hj => Nat.lt_of_le_of_lt (q5 j) (hb1 j hj)) (by omega)
    refine ⟨du', pa', ad', re', S', jj_RRs ?_ hR, p1, p2, p3, p4, by omega, fun j => Nat.le_trans (r4 j) (p6 j), fun j => Nat.le_trans (p7 j) (q5 j), fun p h4 h5 h6 h7 j => (p8 p h4 h5 h6 h7 j).trans ((r5 p h4 h5 j).trans (q6 p h4 h6 h7 j))⟩
    refine js_iload dX1_close_147 rfl ?_
    refine js_iconst (v := nI 5) dX1_close_149 (by decide) ?_
    refine jn_icmp_ge 171 (by omega) (by omega) dX1_close_150 (by decide) (fun h9 => absurd h9 (by omega)) (fun _ => ?_)
    refine js_aload_n 0 rfl dX1_close_153 rfl ?_
    refine js_iload dX1_close_154 rfl ?_
    refine js_callV (av := [.int (nI e)]) (st := []) (b := b) hct (Or.inl rfl) jw_c_X1_recoup jw_i_RX1 jw_m_RX1_82 jw_s_X1_recoup jw_e_X1_recoup (jk_0 hK) rfl jw_y_X1_recoup rfl ⟨(Nat.le_of_ble_eq_true rfl), (Nat.le_of_ble_eq_true rfl), (Nat.le_refl _), (Nat.le_refl _), (Nat.le_of_ble_eq_true rfl)⟩ dX1_close_156 ?_
    refine js_st (st' := []) rfl ?_
    refine js_aload_n 0 rfl dX1_close_159 rfl ?_
    refine js_iload dX1_close_160 rfl ?_
    refine js_callV (av := [.int (nI e)]) (st := []) (b := b) hct2 (Or.inl rfl) jw_c_X1_payOut jw_i_RX1 jw_m_RX1_86 jw_s_X1_payOut jw_e_X1_payOut (jk_0 hK) rfl jw_y_X1_payOut rfl ⟨(Nat.le_of_ble_eq_true rfl), (Nat.le_of_ble_eq_true rfl), (Nat.le_refl _), (Nat.le_refl _), (Nat.le_of_ble_eq_true rfl)⟩ dX1_close_162 ?_
    refine js_st (st' := []) rfl ?_
    refine js_iinc (v := nI (e + 1)) (L' := [some (.ref b), some (.int (nI rule)), some (.ref 20), some (.ref 42), some (.ref 8), some (.int (nI (e + 1)))]) dX1_close_165 rfl (jj_inc _) rfl ?_
    refine js_goto 147 dX1_close_168 (by decide) ?_
    exact jj_refl
set_option maxRecDepth 100000 in
set_option maxHeartbeats 4000000 in
theorem ct_X1_close {lay : jj_Lay} {S : jj_Mem} (hB : jj_pp lay) {cnt : Nat} {ld pl : Nat → Nat} {b rule : Nat} {im cl : Nat → Nat → Nat} (hK : jj_bk lay b) {h x : Nat} {ca ge he du pa ad re : Nat → Nat} (hrule : rule < 2) (hau : jj_au S cnt ld pl) (him : jj_im S cnt im) (hcm : jj_cm S cl) (him2 : ∀ l, l < cnt → jj_sm (im l) 10 ≤ 1000) (him3 : jj_sm (fun l => jj_sm (im l) 10) cnt ≤ 1000) (hbs : jj_bs S b h x ca ge he du pa ad re) (had9 : ∀ j, j < 5 → ad j < 2 ^ 31) (hT : jj_tot h x ca he du pa re + jj_sm (fun l => jj_fee (pl l)) cnt ≤ 1000000) :
    ∃ (h' x' : Nat) (ca' ge' he' du' pa' ad' re' : Nat → Nat) (S' : jj_Mem), jj_CT yX1_close (.code yX1_close cX1_close 6 none) none 4 93 [.ref b, .int (nI rule), .ref 20, .ref 42, .ref 8] lay S none lay S' ∧ jj_bs S' b h' x' ca' ge' he' du' pa' ad' re' ∧ jj_tot h' x' ca' he' du' pa' re' = jj_tot h x ca he du pa re + jj_sm (fun l => jj_fee (pl l)) cnt ∧ (∀ j, j < 10 → ge j ≤ ge' j ∧ ge' j ≤ ge j + 1000000) ∧ (∀ j, pa j ≤ pa' j) ∧ (∀ j, ad' j ≤ ad j) ∧ (∀ p, p < b ∨ b + 10 < p → ∀ j, S' p j = S p j) := by
  obtain ⟨b0, b1, b2, b3, b4, b5, b6, b7, b8⟩ := hbs
  have hb := jk_b hK
  have hc8 := hau.1
  have hfp : jj_sm (fun l => jj_fee (pl l) - jj_pool (pl l)) cnt + jj_sm (fun l => jj_pool (pl l)) cnt = jj_sm (fun l => jj_fee (pl l)) cnt := by
    rw [← jj_sm_add]
    exact jj_sm_congr (fun l _ => by have := jj_pool_le (pl l); omega)
  have hpo : jj_sm (fun land => jj_po ld pl land cnt) 4 = jj_sm (fun l => jj_pool (pl l)) cnt := jj_lands cnt (fun l hl => (hau.2.2.1 l hl).2)
  unfold jj_tot at hT
  have hct1 := ct_X1_takeHouseParts (lay := lay) (S := jj_row S (b + 8) 10 (fun _ => 0)) (b := b) (h := h) hB (jj_au_mono hau (fun p hp j => jj_row_neP (by omega))) hK ((jj_row_neP (by omega)).trans b0)
  obtain ⟨h1, hh1⟩ : ∃ h1, h1 = h + jj_sm (fun l => jj_fee (pl l) - jj_pool (pl l)) cnt := ⟨_, rfl⟩
  rw [← hh1] at hct1
  obtain ⟨S1, hS1⟩ : ∃ S1, S1 = jj_w (jj_row S (b + 8) 10 (fun _ => 0)) b 0 (nI h1) := ⟨_, rfl⟩
  rw [← hS1] at hct1
  have f1 : ∀ p, p ≠ b → p ≠ b + 8 → ∀ j, S1 p j = S p j := fun p h0 h8 j => by rw [hS1]; exact (jj_w_neP h0).trans (jj_row_neP h8)
  have f10 : S1 b 0 = some (nI h1) := by rw [hS1]; exact jj_w_at _ _ _ _
  have f11 : S1 b 1 = some (nI x) := by rw [hS1]; exact (jj_w_neI (by omega)).trans ((jj_row_neP (by omega)).trans b1)
  obtain ⟨ca', g', S2, hR2, p1, p2, p3, p4⟩ := la_X1_close (lay := lay) hB hK hrule him2 him3 (B := 1000000) (Nat.le_refl _) 4 0 (by omega) S1 ca (fun _ => 0) (jj_au_mono hau (fun p hp j => f1 p (by omega) (by omega) j)) (jj_im_mono hc8 him (fun p hp j => f1 p (by omega) (by omega) j)) (fun j hj => (f1 (b + 1) (by omega) (by omega) j).trans (b2 j hj)) (fun j hj => by rw [hS1]; exact (jj_w_neP (by omega)).trans (jj_row_at hj)) (by rw [jj_sm_zero]; omega)
  have hz0 : jj_sm (fun land => jj_po ld pl land cnt) 0 = 0 := rfl
  rw [jj_sm_zero] at p3
  have f2 : ∀ p, p < b ∨ (b + 1 < p ∧ p < b + 8) ∨ b + 10 < p → ∀ j, S2 p j = S p j := fun p hp j => (p4 p (by omega) (by omega) (by omega) (by omega) j).trans (f1 p (by omega) (by omega) j)
  have hghe : ∀ j, 0 ≤ j → j < 10 → g' j + he j ≤ 1000000 := fun j _ hj => by
    have := jj_sm_at (f := g') hj
    have := jj_sm_at (f := he) hj
    omega
  obtain ⟨x', ge', he', du1, S3, hR3, q1, q2, q3, q4, q5, q6, q7, q8⟩ := lb_X1_close (lay := lay) (rule := rule) (cl := cl) hB hK (g := g') 10 0 (by omega) S2 x ge he du (jj_cm_mono hcm (fun p hp j => f2 p (by omega) j)) p2 (fun j hj => (f2 (b + 2) (by omega) j).trans (b3 j hj)) (fun j hj => (f2 (b + 3) (by omega) j).trans (b4 j hj)) (fun j hj => (f2 (b + 4) (by omega) j).trans (b5 j hj)) ((p4 b (by omega) (by omega) (by omega) (by omega) 1).trans f11) hghe
  have hz1 : jj_sm g' 0 = 0 := rfl
  have f3 : ∀ p, p < b ∨ (b + 4 < p ∧ p < b + 8) ∨ b + 10 < p → ∀ j, S3 p j = S p j := fun p hp j => (q8 p (by omega) (by omega) (by omega) (by omega) j).trans (f2 p (by omega) j)
  obtain ⟨du', pa', ad', re', S4, hR4, r1, r2, r3, r4, r5, r6, r7, r8⟩ := lc_X1_close (lay := lay) (rule := rule) hK 5 0 (by omega) S3 du1 pa ad re q3 (fun j hj => (f3 (b + 5) (by omega) j).trans (b6 j hj)) (fun j hj => (f3 (b + 6) (by omega) j).trans (b7 j hj)) (fun j hj => (f3 (b + 7) (by omega) j).trans (b8 j hj)) had9 (by omega)
  refine ⟨h1, x', ca', ge', he', du', pa', ad', re', S4, ?_, ⟨?_, ?_, ?_, ?_, ?_, r1, r2, r3, r4⟩, ?_, ?_, r6, r7, ?_⟩
  · refine jj_mkV RX1 (by decide) rfl (L := [some (.ref b), some (.int (nI rule)), some (.ref 20), some (.ref 42), some (.ref 8), none]) rfl rfl ?_
    refine jj_RRs (jj_tr (jj_tr ?_ hR2) (jj_tr (jj_tr ?_ hR3) ?_)) hR4
    · refine js_aload_n 0 rfl dX1_close_0 rfl ?_
      refine js_getr 9 jw_f_RX1_40 (jk_0 hK) rfl (Nat.le_of_ble_eq_true rfl) rfl dX1_close_1 ?_
      refine js_iconst (v := nI 0) dX1_close_4 (by decide) ?_
      refine js_callS (av := [.ref (b + 8), .int (nI 0)]) (st := []) (ct_J7_fill_53178 (c := 0) (jk_8 hK) (by omega)) (Or.inl rfl) jw_c_J7_fill_53178 jw_i_RJ7 jw_m_RX1_53 jw_s_J7_fill_53178 jw_y_J7_fill_53178 rfl ⟨(Nat.le_of_ble_eq_true rfl), (Nat.le_of_ble_eq_true rfl), (Nat.le_refl _), (Nat.le_refl _), (Nat.le_of_ble_eq_true rfl)⟩ dX1_close_5 ?_
      refine js_st (st' := []) rfl ?_
      refine js_aload_n 0 rfl dX1_close_8 rfl ?_
      refine js_aload_n 2 rfl dX1_close_9 rfl ?_
      refine js_callV (av := [.ref 20]) (st := []) (b := b) hct1 (Or.inl rfl) jw_c_X1_takeHouseParts jw_i_RX1 jw_m_RX1_59 jw_s_X1_takeHouseParts jw_e_X1_takeHouseParts (jk_0 hK) rfl jw_y_X1_takeHouseParts rfl ⟨(Nat.le_of_ble_eq_true rfl), (Nat.le_of_ble_eq_true rfl), (Nat.le_refl _), (Nat.le_refl _), (Nat.le_of_ble_eq_true rfl)⟩ dX1_close_10 ?_
      refine js_st (st' := []) rfl ?_
      refine js_iconst (v := nI 0) dX1_close_13 (by decide) ?_
      refine js_istore (L' := [some (.ref b), some (.int (nI rule)), some (.ref 20), some (.ref 42), some (.ref 8), some (.int (nI 0))]) dX1_close_14 rfl (Nat.le_of_ble_eq_true rfl) ?_
      exact jj_refl
    · refine js_iconst (v := nI 0) dX1_close_103 (by decide) ?_
      refine js_istore (L' := [some (.ref b), some (.int (nI rule)), some (.ref 20), some (.ref 42), some (.ref 8), some (.int (nI 0))]) dX1_close_104 rfl (Nat.le_of_ble_eq_true rfl) ?_
      exact jj_refl
    · refine js_iconst (v := nI 0) dX1_close_144 (by decide) ?_
      refine js_istore (L' := [some (.ref b), some (.int (nI rule)), some (.ref 20), some (.ref 42), some (.ref 8), some (.int (nI 0))]) dX1_close_145 rfl (Nat.le_of_ble_eq_true rfl) ?_
      exact jj_refl
  · exact (r8 b (by omega) (by omega) (by omega) (by omega) 0).trans (q7.trans ((p4 b (by omega) (by omega) (by omega) (by omega) 0).trans f10))
  · exact (r8 b (by omega) (by omega) (by omega) (by omega) 1).trans q4
  · exact fun j hj => (r8 (b + 1) (by omega) (by omega) (by omega) (by omega) j).trans ((q8 (b + 1) (by omega) (by omega) (by omega) (by omega) j).trans (p1 j hj))
  · exact fun j hj => (r8 (b + 2) (by omega) (by omega) (by omega) (by omega) j).trans (q1 j hj)
  · exact fun j hj => (r8 (b + 3) (by omega) (by omega) (by omega) (by omega) j).trans (q2 j hj)
  · unfold jj_tot; omega
  · intro j hj
    have h9 := q6 j hj
    rw [if_pos (Nat.zero_le _)] at h9
    have := jj_sm_at (f := g') hj
    omega
  · exact fun p hp j => (r8 p (by omega) (by omega) (by omega) (by omega) j).trans (f3 p (by omega) j)

/-! THE CATALOGUE, THE COUNTS, THE LOG: what is asked. -/
/-- the tracks: how many, of which recordings; none is down -/
def jj_tk (S : jj_Mem) (n : Nat) (rc : Nat → Nat) : Prop := n ≤ 14 ∧ S 1 0 = some (nI n) ∧ ∀ j, j < n → S 2 j = some (nI (rc j)) ∧ rc j < 10 ∧ S 3 j = some (-1)
/-- the windows -/
def jj_wi (S : jj_Mem) (wn : Nat) (w0 w1 w2 w3 : Nat → Int32) : Prop := wn ≤ 30 ∧ S 1 3 = some (nI wn) ∧ ∀ j, j < wn → S 4 j = some (w0 j) ∧ S 5 j = some (w1 j) ∧ S 6 j = some (w2 j) ∧ S 7 j = some (w3 j)
/-- the log: how many plays, and what each is -/
def jj_lg (S : jj_Mem) (n : Nat) (li tr mi rs : Nat → Nat) (se : Nat → Int32) : Prop := n ≤ 130 ∧ S 35 0 = some (nI n) ∧ ∀ k, k < n → S 36 k = some (nI (li k)) ∧ S 37 k = some (nI (tr k)) ∧ S 38 k = some (nI (mi k)) ∧ S 39 k = some (se k) ∧ S 40 k = some (nI (rs k)) ∧ S 41 k = some (nI k)
/-- eight rows of ten behind p -/
def jj_rw8 (S : jj_Mem) (p : Nat) (f : Nat → Nat → Nat) : Prop := ∀ l, l < 8 → ∀ j, j < 10 → S (p + l) j = some (nI (f l j))
theorem jj_tk_mono {S S' : jj_Mem} {n : Nat} {rc : Nat → Nat} (h : jj_tk S n rc) (e : ∀ q, 1 ≤ q → q ≤ 3 → ∀ j, S' q j = S q j) : jj_tk S' n rc :=
  ⟨h.1, (e 1 (by omega) (by omega) 0).trans h.2.1, fun j hj => ⟨(e 2 (by omega) (by omega) j).trans (h.2.2 j hj).1, (h.2.2 j hj).2.1, (e 3 (by omega) (by omega) j).trans (h.2.2 j hj).2.2⟩⟩
theorem jj_wi_mono {S S' : jj_Mem} {wn : Nat} {w0 w1 w2 w3 : Nat → Int32} (h : jj_wi S wn w0 w1 w2 w3) (e : ∀ q, 1 ≤ q → q ≤ 7 → ∀ j, S' q j = S q j) : jj_wi S' wn w0 w1 w2 w3 :=
  ⟨h.1, (e 1 (by omega) (by omega) 3).trans h.2.1, fun j hj => ⟨(e 4 (by omega) (by omega) j).trans (h.2.2 j hj).1, (e 5 (by omega) (by omega) j).trans (h.2.2 j hj).2.1, (e 6 (by omega) (by omega) j).trans (h.2.2 j hj).2.2.1, (e 7 (by omega) (by omega) j).trans (h.2.2 j hj).2.2.2⟩⟩
theorem jj_lg_mono {S S' : jj_Mem} {n : Nat} {li tr mi rs : Nat → Nat} {se : Nat → Int32} (h : jj_lg S n li tr mi rs se) (e : ∀ q, 35 ≤ q → q ≤ 41 → ∀ j, S' q j = S q j) : jj_lg S' n li tr mi rs se :=
  ⟨h.1, (e 35 (by omega) (by omega) 0).trans h.2.1, fun j hj => by
    obtain ⟨h1, h2, h3, h4, h5, h6⟩ := h.2.2 j hj
    exact ⟨(e 36 (by omega) (by omega) j).trans h1, (e 37 (by omega) (by omega) j).trans h2, (e 38 (by omega) (by omega) j).trans h3, (e 39 (by omega) (by omega) j).trans h4, (e 40 (by omega) (by omega) j).trans h5, (e 41 (by omega) (by omega) j).trans h6⟩⟩
theorem jj_rw8_mono {S S' : jj_Mem} {p : Nat} {f : Nat → Nat → Nat} (h : jj_rw8 S p f) (e : ∀ q, p ≤ q → q < p + 8 → ∀ j, S' q j = S q j) : jj_rw8 S' p f := fun l hl j hj => (e (p + l) (by omega) (by omega) j).trans (h l hl j hj)
set_option maxRecDepth 100000 in
set_option maxHeartbeats 4000000 in
theorem ct_X2_isDown {lay : jj_Lay} {S : jj_Mem} (hB : jj_pp lay) {n u : Nat} {rc : Nat → Nat} (htk : jj_tk S n rc) (hu : u < n) : jj_CT yX2_isDown (.code yX2_isDown cX2_isDown 2 (some .boolean)) none 0 0 [.ref 1, .int (nI u)] lay S (some (.int (nI 0))) lay S := by
  refine jj_mkI RX2 .boolean (by decide) rfl (L := [some (.ref 1), some (.int (nI u))]) rfl rfl rfl ⟨15, [some (.ref 1), some (.int (nI u))], dX2_isDown_15, ?_⟩
  have h14 := htk.1
  refine js_aload_n 0 rfl dX2_isDown_0 rfl ?_
  refine js_getr 2 jw_f_RX2_19 (jl_1 hB) rfl (Nat.le_of_ble_eq_true rfl) rfl dX2_isDown_1 ?_
  refine js_iload_n 1 rfl dX2_isDown_4 rfl ?_
  refine js_iald u rfl (jl_3 hB) (by omega) (by decide) ((htk.2.2 u hu).2.2) dX2_isDown_5 ?_
  refine js_iconst (v := -1) dX2_isDown_6 (by decide) ?_
  refine js_icmp_eq 14 dX2_isDown_7 (by decide) (fun _ => ?_) (fun h9 => absurd h9 (fun q => q rfl))
  refine js_iconst (v := nI 0) dX2_isDown_14 (by decide) ?_
  exact jj_refl
set_option maxRecDepth 100000 in
set_option maxHeartbeats 4000000 in
theorem ct_X2_isDownIn {lay : jj_Lay} {S : jj_Mem} (hB : jj_pp lay) {n u : Nat} {rc : Nat → Nat} {z : Int32} (htk : jj_tk S n rc) (hu : u < n) : jj_CT yX2_isDownIn (.code yX2_isDownIn cX2_isDownIn 3 (some .boolean)) none 1 21 [.ref 1, .int (nI u), .int z] lay S (some (.int (nI 0))) lay S := by
  refine jj_mkI RX2 .boolean (by decide) rfl (L := [some (.ref 1), some (.int (nI u)), some (.int z)]) rfl rfl rfl ⟨23, [some (.ref 1), some (.int (nI u)), some (.int z)], dX2_isDownIn_23, ?_⟩
  refine js_aload_n 0 rfl dX2_isDownIn_0 rfl ?_
  refine js_iload_n 1 rfl dX2_isDownIn_1 rfl ?_
  refine js_callV (av := [.int (nI u)]) (st := []) (b := 1) (ct_X2_isDown hB htk hu) (Or.inl rfl) jw_c_X2_isDown jw_i_RX2 jw_m_RX2_37 jw_s_X2_isDown jw_e_X2_isDown (jl_1 hB) rfl jw_y_X2_isDown rfl ⟨(Nat.le_of_ble_eq_true rfl), (Nat.le_of_ble_eq_true rfl), (Nat.le_refl _), (Nat.le_refl _), (Nat.le_of_ble_eq_true rfl)⟩ dX2_isDownIn_2 ?_
  refine js_st (st' := [.int (nI 0)]) rfl ?_
  refine jn_if_eq 22 (by omega) dX2_isDownIn_5 (by decide) (fun _ => ?_) (fun h9 => absurd h9 (by omega))
  refine js_iconst (v := nI 0) dX2_isDownIn_22 (by decide) ?_
  exact jj_refl
set_option maxRecDepth 100000 in
set_option maxHeartbeats 4000000 in
theorem lp_X2_isAllowed {lay : jj_Lay} {S : jj_Mem} (hB : jj_pp lay) {wn : Nat} {w0 w1 w2 w3 : Nat → Int32} (hwi : jj_wi S wn w0 w1 w2 w3) {x y z : Int32} : ∀ (k e : Nat), e + k = wn → ∃ r : Nat, jj_RR cX2_isAllowed 5 RX2 yX2_isAllowed.name none 0 0 lay.length (jj_sl lay) (3, [some (.ref 1), some (.int x), some (.int y), some (.int z), some (.int (nI e))], [], lay, S) (some (.int (nI r))) .ireturn lay S ∧ r ≤ 1 := by
  intro k
  induction k with
  | zero =>
    intro e he 
    have h30 := hwi.1
    refine ⟨0, ⟨65, [some (.ref 1), some (.int x), some (.int y), some (.int z), some (.int (nI e))], dX2_isAllowed_65, ?_⟩, by omega⟩
    refine js_iload dX2_isAllowed_3 rfl ?_
    refine js_aload_n 0 rfl dX2_isAllowed_5 rfl ?_
    refine js_geti 3 jw_f_RX2_22 (jl_1 hB) rfl (Nat.le_of_ble_eq_true rfl) rfl (hwi.2.1) dX2_isAllowed_6 ?_
    refine jn_icmp_ge 64 (by omega) (by omega) dX2_isAllowed_9 (by decide) (fun _ => ?_) (fun h9 => absurd h9 (by omega))
    refine js_iconst (v := nI 0) dX2_isAllowed_64 (by decide) ?_
    exact jj_refl
  | succ k ih =>
    intro e he 
    have h30 := hwi.1
    by_cases hc0 : (w0 e) = x
    · by_cases hc1 : (w1 e) = y
      · by_cases hc2 : z < (w2 e)
        · obtain ⟨r, hR, hr⟩ := ih (e + 1) (by omega) 
          refine ⟨r, jj_RRs ?_ hR, hr⟩
          refine js_iload dX2_isAllowed_3 rfl ?_
          refine js_aload_n 0 rfl dX2_isAllowed_5 rfl ?_
          refine js_geti 3 jw_f_RX2_22 (jl_1 hB) rfl (Nat.le_of_ble_eq_true rfl) rfl (hwi.2.1) dX2_isAllowed_6 ?_
          refine jn_icmp_ge 64 (by omega) (by omega) dX2_isAllowed_9 (by decide) (fun h9 => absurd h9 (by omega)) (fun _ => ?_)
          refine js_aload_n 0 rfl dX2_isAllowed_12 rfl ?_
          refine js_getr 4 jw_f_RX2_25 (jl_1 hB) rfl (Nat.le_of_ble_eq_true rfl) rfl dX2_isAllowed_13 ?_
          refine js_iload dX2_isAllowed_16 rfl ?_
          refine js_iald e rfl (jl_4 hB) (by omega) (by decide) ((hwi.2.2 e (by omega)).1) dX2_isAllowed_18 ?_
          refine js_iload_n 1 rfl dX2_isAllowed_19 rfl ?_
          refine js_icmp_ne 58 dX2_isAllowed_20 (by decide) (fun h9 => absurd h9 (fun q => q hc0)) (fun _ => ?_)
          refine js_aload_n 0 rfl dX2_isAllowed_23 rfl ?_
          refine js_getr 5 jw_f_RX2_28 (jl_1 hB) rfl (Nat.le_of_ble_eq_true rfl) rfl dX2_isAllowed_24 ?_
          refine js_iload dX2_isAllowed_27 rfl ?_
          refine js_iald e rfl (jl_5 hB) (by omega) (by decide) ((hwi.2.2 e (by omega)).2.1) dX2_isAllowed_29 ?_
          refine js_iload_n 2 rfl dX2_isAllowed_30 rfl ?_
          refine js_icmp_ne 58 dX2_isAllowed_31 (by decide) (fun h9 => absurd h9 (fun q => q hc1)) (fun _ => ?_)
          refine js_aload_n 0 rfl dX2_isAllowed_34 rfl ?_
          refine js_getr 6 jw_f_RX2_31 (jl_1 hB) rfl (Nat.le_of_ble_eq_true rfl) rfl dX2_isAllowed_35 ?_
          refine js_iload dX2_isAllowed_38 rfl ?_
          refine js_iald e rfl (jl_6 hB) (by omega) (by decide) ((hwi.2.2 e (by omega)).2.2.1) dX2_isAllowed_40 ?_
          refine js_iload_n 3 rfl dX2_isAllowed_41 rfl ?_
          refine js_icmp_gt 58 dX2_isAllowed_42 (by decide) (fun _ => ?_) (fun h9 => absurd h9 (fun q => q hc2))
          refine js_iinc (v := nI (e + 1)) (L' := [some (.ref 1), some (.int x), some (.int y), some (.int z), some (.int (nI (e + 1)))]) dX2_isAllowed_58 rfl (jj_inc _) rfl ?_
          refine js_goto 3 dX2_isAllowed_61 (by decide) ?_
          exact jj_refl
        · by_cases hc3 : (w3 e) < z
          · obtain ⟨r, hR, hr⟩ := ih (e + 1) (by omega) 
            refine ⟨r, jj_RRs ?_ hR, hr⟩
            refine js_iload dX2_isAllowed_3 rfl ?_
            refine js_aload_n 0 rfl dX2_isAllowed_5 rfl ?_
            refine js_geti 3 jw_f_RX2_22 (jl_1 hB) rfl (Nat.le_of_ble_eq_true rfl) rfl (hwi.2.1) dX2_isAllowed_6 ?_
            refine jn_icmp_ge 64 (by omega) (by omega) dX2_isAllowed_9 (by decide) (fun h9 => absurd h9 (by omega)) (fun _ => ?_)
            refine js_aload_n 0 rfl dX2_isAllowed_12 rfl ?_
            refine js_getr 4 jw_f_RX2_25 (jl_1 hB) rfl (Nat.le_of_ble_eq_true rfl) rfl dX2_isAllowed_13 ?_
            refine js_iload dX2_isAllowed_16 rfl ?_
            refine js_iald e rfl (jl_4 hB) (by omega) (by decide) ((hwi.2.2 e (by omega)).1) dX2_isAllowed_18 ?_
            refine js_iload_n 1 rfl dX2_isAllowed_19 rfl ?_
            refine js_icmp_ne 58 dX2_isAllowed_20 (by decide) (fun h9 => absurd h9 (fun q => q hc0)) (fun _ => ?_)
            refine js_aload_n 0 rfl dX2_isAllowed_23 rfl ?_
            refine js_getr 5 jw_f_RX2_28 (jl_1 hB) rfl (Nat.le_of_ble_eq_true rfl) rfl dX2_isAllowed_24 ?_
            refine js_iload dX2_isAllowed_27 rfl ?_
            refine js_iald e rfl (jl_5 hB) (by omega) (by decide) ((hwi.2.2 e (by omega)).2.1) dX2_isAllowed_29 ?_
            refine js_iload_n 2 rfl dX2_isAllowed_30 rfl ?_
            refine js_icmp_ne 58 dX2_isAllowed_31 (by decide) (fun h9 => absurd h9 (fun q => q hc1)) (fun _ => ?_)
            refine js_aload_n 0 rfl dX2_isAllowed_34 rfl ?_
            refine js_getr 6 jw_f_RX2_31 (jl_1 hB) rfl (Nat.le_of_ble_eq_true rfl) rfl dX2_isAllowed_35 ?_
            refine js_iload dX2_isAllowed_38 rfl ?_
            refine js_iald e rfl (jl_6 hB) (by omega) (by decide) ((hwi.2.2 e (by omega)).2.2.1) dX2_isAllowed_40 ?_
            refine js_iload_n 3 rfl dX2_isAllowed_41 rfl ?_
            refine js_icmp_gt 58 dX2_isAllowed_42 (by decide) (fun h9 => absurd h9 hc2) (fun _ => ?_)
            refine js_iload_n 3 rfl dX2_isAllowed_45 rfl ?_
            refine js_aload_n 0 rfl dX2_isAllowed_46 rfl ?_
            refine js_getr 7 jw_f_RX2_34 (jl_1 hB) rfl (Nat.le_of_ble_eq_true rfl) rfl dX2_isAllowed_47 ?_
            refine js_iload dX2_isAllowed_50 rfl ?_
            refine js_iald e rfl (jl_7 hB) (by omega) (by decide) ((hwi.2.2 e (by omega)).2.2.2) dX2_isAllowed_52 ?_
            refine js_icmp_gt 58 dX2_isAllowed_53 (by decide) (fun _ => ?_) (fun h9 => absurd h9 (fun q => q hc3))
            refine js_iinc (v := nI (e + 1)) (L' := [some (.ref 1), some (.int x), some (.int y), some (.int z), some (.int (nI (e + 1)))]) dX2_isAllowed_58 rfl (jj_inc _) rfl ?_
            refine js_goto 3 dX2_isAllowed_61 (by decide) ?_
            exact jj_refl
          · refine ⟨1, ⟨57, [some (.ref 1), some (.int x), some (.int y), some (.int z), some (.int (nI e))], dX2_isAllowed_57, ?_⟩, by omega⟩
            refine js_iload dX2_isAllowed_3 rfl ?_
            refine js_aload_n 0 rfl dX2_isAllowed_5 rfl ?_
            refine js_geti 3 jw_f_RX2_22 (jl_1 hB) rfl (Nat.le_of_ble_eq_true rfl) rfl (hwi.2.1) dX2_isAllowed_6 ?_
            refine jn_icmp_ge 64 (by omega) (by omega) dX2_isAllowed_9 (by decide) (fun h9 => absurd h9 (by omega)) (fun _ => ?_)
            refine js_aload_n 0 rfl dX2_isAllowed_12 rfl ?_
            refine js_getr 4 jw_f_RX2_25 (jl_1 hB) rfl (Nat.le_of_ble_eq_true rfl) rfl dX2_isAllowed_13 ?_
            refine js_iload dX2_isAllowed_16 rfl ?_
            refine js_iald e rfl (jl_4 hB) (by omega) (by decide) ((hwi.2.2 e (by omega)).1) dX2_isAllowed_18 ?_
            refine js_iload_n 1 rfl dX2_isAllowed_19 rfl ?_
            refine js_icmp_ne 58 dX2_isAllowed_20 (by decide) (fun h9 => absurd h9 (fun q => q hc0)) (fun _ => ?_)
            refine js_aload_n 0 rfl dX2_isAllowed_23 rfl ?_
            refine js_getr 5 jw_f_RX2_28 (jl_1 hB) rfl (Nat.le_of_ble_eq_true rfl) rfl dX2_isAllowed_24 ?_
            refine js_iload dX2_isAllowed_27 rfl ?_
            refine js_iald e rfl (jl_5 hB) (by omega) (by decide) ((hwi.2.2 e (by omega)).2.1) dX2_isAllowed_29 ?_
            refine js_iload_n 2 rfl dX2_isAllowed_30 rfl ?_
            refine js_icmp_ne 58 dX2_isAllowed_31 (by decide) (fun h9 => absurd h9 (fun q => q hc1)) (fun _ => ?_)
            refine js_aload_n 0 rfl dX2_isAllowed_34 rfl ?_
            refine js_getr 6 jw_f_RX2_31 (jl_1 hB) rfl (Nat.le_of_ble_eq_true rfl) rfl dX2_isAllowed_35 ?_
            refine js_iload dX2_isAllowed_38 rfl ?_
            refine js_iald e rfl (jl_6 hB) (by omega) (by decide) ((hwi.2.2 e (by omega)).2.2.1) dX2_isAllowed_40 ?_
            refine js_iload_n 3 rfl dX2_isAllowed_41 rfl ?_
            refine js_icmp_gt 58 dX2_isAllowed_42 (by decide) (fun h9 => absurd h9 hc2) (fun _ => ?_)
            refine js_iload_n 3 rfl dX2_isAllowed_45 rfl ?_
            refine js_aload_n 0 rfl dX2_isAllowed_46 rfl ?_
            refine js_getr 7 jw_f_RX2_34 (jl_1 hB) rfl (Nat.le_of_ble_eq_true rfl) rfl dX2_isAllowed_47 ?_
            refine js_iload dX2_isAllowed_50 rfl ?_
            refine js_iald e rfl (jl_7 hB) (by omega) (by decide) ((hwi.2.2 e (by omega)).2.2.2) dX2_isAllowed_52 ?_
            refine js_icmp_gt 58 dX2_isAllowed_53 (by decide) (fun h9 => absurd h9 hc3) (fun _ => ?_)
            refine js_iconst (v := nI 1) dX2_isAllowed_56 (by decide) ?_
            exact jj_refl
      · obtain ⟨r, hR, hr⟩ := ih (e + 1) (by omega) 
        refine ⟨r, jj_RRs ?_ hR, hr⟩
        refine js_iload dX2_isAllowed_3 rfl ?_
        refine js_aload_n 0 rfl dX2_isAllowed_5 rfl ?_
        refine js_geti 3 jw_f_RX2_22 (jl_1 hB) rfl (Nat.le_of_ble_eq_true rfl) rfl (hwi.2.1) dX2_isAllowed_6 ?_
        refine jn_icmp_ge 64 (by omega) (by omega) dX2_isAllowed_9 (by decide) (fun h9 => absurd h9 (by omega)) (fun _ => ?_)
        refine js_aload_n 0 rfl dX2_isAllowed_12 rfl ?_
        refine js_getr 4 jw_f_RX2_25 (jl_1 hB) rfl (Nat.le_of_ble_eq_true rfl) rfl dX2_isAllowed_13 ?_
        refine js_iload dX2_isAllowed_16 rfl ?_
        refine js_iald e rfl (jl_4 hB) (by omega) (by decide) ((hwi.2.2 e (by omega)).1) dX2_isAllowed_18 ?_
        refine js_iload_n 1 rfl dX2_isAllowed_19 rfl ?_
        refine js_icmp_ne 58 dX2_isAllowed_20 (by decide) (fun h9 => absurd h9 (fun q => q hc0)) (fun _ => ?_)
        refine js_aload_n 0 rfl dX2_isAllowed_23 rfl ?_
        refine js_getr 5 jw_f_RX2_28 (jl_1 hB) rfl (Nat.le_of_ble_eq_true rfl) rfl dX2_isAllowed_24 ?_
        refine js_iload dX2_isAllowed_27 rfl ?_
        refine js_iald e rfl (jl_5 hB) (by omega) (by decide) ((hwi.2.2 e (by omega)).2.1) dX2_isAllowed_29 ?_
        refine js_iload_n 2 rfl dX2_isAllowed_30 rfl ?_
        refine js_icmp_ne 58 dX2_isAllowed_31 (by decide) (fun _ => ?_) (fun h9 => absurd h9 hc1)
        refine js_iinc (v := nI (e + 1)) (L' := [some (.ref 1), some (.int x), some (.int y), some (.int z), some (.int (nI (e + 1)))]) dX2_isAllowed_58 rfl (jj_inc _) rfl ?_
        refine js_goto 3 dX2_isAllowed_61 (by decide) ?_
        exact jj_refl
    · obtain ⟨r, hR, hr⟩ := ih (e + 1) (by omega) 
      refine ⟨r, jj_RRs ?_ hR, hr⟩
      refine js_iload dX2_isAllowed_3 rfl ?_
      refine js_aload_n 0 rfl dX2_isAllowed_5 rfl ?_
      refine js_geti 3 jw_f_RX2_22 (jl_1 hB) rfl (Nat.le_of_ble_eq_true rfl) rfl (hwi.2.1) dX2_isAllowed_6 ?_
      refine jn_icmp_ge 64 (by omega) (by omega) dX2_isAllowed_9 (by decide) (fun h9 => absurd h9 (by omega)) (fun _ => ?_)
      refine js_aload_n 0 rfl dX2_isAllowed_12 rfl ?_
      refine js_getr 4 jw_f_RX2_25 (jl_1 hB) rfl (Nat.le_of_ble_eq_true rfl) rfl dX2_isAllowed_13 ?_
      refine js_iload dX2_isAllowed_16 rfl ?_
      refine js_iald e rfl (jl_4 hB) (by omega) (by decide) ((hwi.2.2 e (by omega)).1) dX2_isAllowed_18 ?_
      refine js_iload_n 1 rfl dX2_isAllowed_19 rfl ?_
      refine js_icmp_ne 58 dX2_isAllowed_20 (by decide) (fun _ => ?_) (fun h9 => absurd h9 hc0)
      refine js_iinc (v := nI (e + 1)) (L' := [some (.ref 1), some (.int x), some (.int y), some (.int z), some (.int (nI (e + 1)))]) dX2_isAllowed_58 rfl (jj_inc _) rfl ?_
      refine js_goto 3 dX2_isAllowed_61 (by decide) ?_
      exact jj_refl
set_option maxRecDepth 100000 in
set_option maxHeartbeats 4000000 in
theorem ct_X2_isAllowed {lay : jj_Lay} {S : jj_Mem} (hB : jj_pp lay) {wn : Nat} {w0 w1 w2 w3 : Nat → Int32} (hwi : jj_wi S wn w0 w1 w2 w3) {x y z : Int32} : ∃ r : Nat, jj_CT yX2_isAllowed (.code yX2_isAllowed cX2_isAllowed 5 (some .boolean)) none 0 0 [.ref 1, .int x, .int y, .int z] lay S (some (.int (nI r))) lay S ∧ r ≤ 1 := by
  obtain ⟨r, hR, hr⟩ := lp_X2_isAllowed (lay := lay) (S := S) (x := x) (y := y) (z := z) hB hwi wn 0 (by omega) 
  refine ⟨r, ?_, hr⟩
  refine jj_mkI RX2 .boolean (by decide) rfl (L := [some (.ref 1), some (.int x), some (.int y), some (.int z), none]) rfl rfl (by rcases (show r = 0 ∨ r = 1 by omega) with rfl | rfl <;> rfl) ?_
  refine jj_RRs ?_ hR
  refine js_iconst (v := nI 0) dX2_isAllowed_0 (by decide) ?_
  refine js_istore (L' := [some (.ref 1), some (.int x), some (.int y), some (.int z), some (.int (nI 0))]) dX2_isAllowed_1 rfl (Nat.le_of_ble_eq_true rfl) ?_
  exact jj_refl
/-! landsAllowing, isHearable -/
set_option maxRecDepth 100000 in
set_option maxHeartbeats 4000000 in
theorem lp_X2_landsAllowing {lay : jj_Lay} {S : jj_Mem} (hB : jj_pp lay) {wn : Nat} {w0 w1 w2 w3 : Nat → Int32} (hwi : jj_wi S wn w0 w1 w2 w3) {x z : Int32} : ∀ (k e : Nat), e + k = 4 → ∀ a : Int32, ∃ r : Int32, jj_RR cX2_landsAllowing 5 RX2 yX2_landsAllowing.name none 1 24 lay.length (jj_sl lay) (5, [some (.ref 1), some (.int x), some (.int z), some (.int a), some (.int (nI e))], [], lay, S) (some (.int r)) .ireturn lay S := by
  intro k
  induction k with
  | zero =>
    intro e he a
    have he : e = 4 := by omega
    subst he
    refine ⟨a, ⟨36, [some (.ref 1), some (.int x), some (.int z), some (.int a), some (.int (nI 4))], dX2_landsAllowing_36, ?_⟩⟩
    refine js_iload dX2_landsAllowing_5 rfl ?_
    refine js_iconst (v := nI 4) dX2_landsAllowing_7 (by decide) ?_
    refine jn_icmp_ge 35 (by omega) (by omega) dX2_landsAllowing_8 (by decide) (fun _ => ?_) (fun h9 => absurd h9 (by omega))
    refine js_iload_n 3 rfl dX2_landsAllowing_35 rfl ?_
    exact jj_refl
  | succ k ih =>
    intro e he a
    obtain ⟨q, hct, hq⟩ := ct_X2_isAllowed (lay := lay) (S := S) (x := x) (y := nI e) (z := z) hB hwi
    by_cases hc : q = 0
    · obtain ⟨r, hR⟩ := ih (e + 1) (by omega) a
      refine ⟨r, jj_RRs ?_ hR⟩
      refine js_iload dX2_landsAllowing_5 rfl ?_
      refine js_iconst (v := nI 4) dX2_landsAllowing_7 (by decide) ?_
      refine jn_icmp_ge 35 (by omega) (by omega) dX2_landsAllowing_8 (by decide) (fun h9 => absurd h9 (by omega)) (fun _ => ?_)
      refine js_aload_n 0 rfl dX2_landsAllowing_11 rfl ?_
      refine js_iload_n 1 rfl dX2_landsAllowing_12 rfl ?_
      refine js_iload dX2_landsAllowing_13 rfl ?_
      refine js_iload_n 2 rfl dX2_landsAllowing_15 rfl ?_
      refine js_callV (av := [.int x, .int (nI e), .int z]) (st := []) (b := 1) hct (Or.inl rfl) jw_c_X2_isAllowed jw_i_RX2 jw_m_RX2_41 jw_s_X2_isAllowed jw_e_X2_isAllowed (jl_1 hB) rfl jw_y_X2_isAllowed rfl ⟨(Nat.le_of_ble_eq_true rfl), (Nat.le_of_ble_eq_true rfl), (Nat.le_refl _), (Nat.le_refl _), (Nat.le_of_ble_eq_true rfl)⟩ dX2_landsAllowing_16 ?_
      refine js_st (st' := [.int (nI q)]) rfl ?_
      refine jn_if_eq 29 (by omega) dX2_landsAllowing_19 (by decide) (fun _ => ?_) (fun h9 => absurd h9 (by omega))
      refine js_iinc (v := nI (e + 1)) (L' := [some (.ref 1), some (.int x), some (.int z), some (.int a), some (.int (nI (e + 1)))]) dX2_landsAllowing_29 rfl (jj_inc _) rfl ?_
      refine js_goto 5 dX2_landsAllowing_32 (by decide) ?_
      exact jj_refl
    · obtain ⟨r, hR⟩ := ih (e + 1) (by omega) (a ||| ((nI 1) <<< ((nI e) &&& 31)))
      refine ⟨r, jj_RRs ?_ hR⟩
      refine js_iload dX2_landsAllowing_5 rfl ?_
      refine js_iconst (v := nI 4) dX2_landsAllowing_7 (by decide) ?_
      refine jn_icmp_ge 35 (by omega) (by omega) dX2_landsAllowing_8 (by decide) (fun h9 => absurd h9 (by omega)) (fun _ => ?_)
      refine js_aload_n 0 rfl dX2_landsAllowing_11 rfl ?_
      refine js_iload_n 1 rfl dX2_landsAllowing_12 rfl ?_
      refine js_iload dX2_landsAllowing_13 rfl ?_
      refine js_iload_n 2 rfl dX2_landsAllowing_15 rfl ?_
      refine js_callV (av := [.int x, .int (nI e), .int z]) (st := []) (b := 1) hct (Or.inl rfl) jw_c_X2_isAllowed jw_i_RX2 jw_m_RX2_41 jw_s_X2_isAllowed jw_e_X2_isAllowed (jl_1 hB) rfl jw_y_X2_isAllowed rfl ⟨(Nat.le_of_ble_eq_true rfl), (Nat.le_of_ble_eq_true rfl), (Nat.le_refl _), (Nat.le_refl _), (Nat.le_of_ble_eq_true rfl)⟩ dX2_landsAllowing_16 ?_
      refine js_st (st' := [.int (nI q)]) rfl ?_
      refine jn_if_eq 29 (by omega) dX2_landsAllowing_19 (by decide) (fun h9 => absurd h9 (by omega)) (fun _ => ?_)
      refine js_iload_n 3 rfl dX2_landsAllowing_22 rfl ?_
      refine js_iconst (v := nI 1) dX2_landsAllowing_23 (by decide) ?_
      refine js_iload dX2_landsAllowing_24 rfl ?_
      refine js_ishl dX2_landsAllowing_26 ?_
      refine js_ior dX2_landsAllowing_27 ?_
      refine js_istore_n (L' := [some (.ref 1), some (.int x), some (.int z), some (.int (a ||| ((nI 1) <<< ((nI e) &&& 31)))), some (.int (nI e))]) 3 rfl dX2_landsAllowing_28 rfl (Nat.le_of_ble_eq_true rfl) ?_
      refine js_iinc (v := nI (e + 1)) (L' := [some (.ref 1), some (.int x), some (.int z), some (.int (a ||| ((nI 1) <<< ((nI e) &&& 31)))), some (.int (nI (e + 1)))]) dX2_landsAllowing_29 rfl (jj_inc _) rfl ?_
      refine js_goto 5 dX2_landsAllowing_32 (by decide) ?_
      exact jj_refl
set_option maxRecDepth 100000 in
set_option maxHeartbeats 4000000 in
theorem ct_X2_landsAllowing {lay : jj_Lay} {S : jj_Mem} (hB : jj_pp lay) {wn : Nat} {w0 w1 w2 w3 : Nat → Int32} (hwi : jj_wi S wn w0 w1 w2 w3) {x z : Int32} : ∃ r : Int32, jj_CT yX2_landsAllowing (.code yX2_landsAllowing cX2_landsAllowing 5 (some .int)) none 1 24 [.ref 1, .int x, .int z] lay S (some (.int r)) lay S := by
  obtain ⟨r, hR⟩ := lp_X2_landsAllowing (lay := lay) (S := S) (x := x) (z := z) hB hwi 4 0 (by omega) (nI 0)
  refine ⟨r, ?_⟩
  refine jj_mkI RX2 .int (by decide) rfl (L := [some (.ref 1), some (.int x), some (.int z), none, none]) rfl rfl rfl ?_
  refine jj_RRs ?_ hR
  refine js_iconst (v := nI 0) dX2_landsAllowing_0 (by decide) ?_
  refine js_istore_n (L' := [some (.ref 1), some (.int x), some (.int z), some (.int (nI 0)), none]) 3 rfl dX2_landsAllowing_1 rfl (Nat.le_of_ble_eq_true rfl) ?_
  refine js_iconst (v := nI 0) dX2_landsAllowing_2 (by decide) ?_
  refine js_istore (L' := [some (.ref 1), some (.int x), some (.int z), some (.int (nI 0)), some (.int (nI 0))]) dX2_landsAllowing_3 rfl (Nat.le_of_ble_eq_true rfl) ?_
  exact jj_refl
set_option maxRecDepth 100000 in
set_option maxHeartbeats 4000000 in
theorem lp_X2_tracksOf {lay : jj_Lay} {S : jj_Mem} (hB : jj_pp lay) {n : Nat} {rc : Nat → Nat} (htk : jj_tk S n rc) {u : Int32} : ∀ (k e : Nat), e + k = n → ∀ (a : Int32), ∃ r : Int32, jj_RR cX2_tracksOf 4 RX2 yX2_tracksOf.name none 0 0 lay.length (jj_sl lay) (4, [some (.ref 1), some (.int u), some (.int a), some (.int (nI e))], [], lay, S) (some (.int r)) .ireturn lay S := by
  intro k
  induction k with
  | zero =>
    intro e he a
    have h14 := htk.1
    refine ⟨a, ⟨32, [some (.ref 1), some (.int u), some (.int a), some (.int (nI e))], dX2_tracksOf_32, ?_⟩⟩
    refine js_iload_n 3 rfl dX2_tracksOf_4 rfl ?_
    refine js_aload_n 0 rfl dX2_tracksOf_5 rfl ?_
    refine js_geti 0 jw_f_RX2_9 (jl_1 hB) rfl (Nat.le_of_ble_eq_true rfl) rfl (htk.2.1) dX2_tracksOf_6 ?_
    refine jn_icmp_ge 31 (by omega) (by omega) dX2_tracksOf_9 (by decide) (fun _ => ?_) (fun h9 => absurd h9 (by omega))
    refine js_iload_n 2 rfl dX2_tracksOf_31 rfl ?_
    exact jj_refl
  | succ k ih =>
    intro e he a
    have h14 := htk.1
    by_cases hc0 : (nI (rc e)) = u
    · obtain ⟨r, hR⟩ := ih (e + 1) (by omega) (a + Int32.ofInt (1))
      refine ⟨r, jj_RRs ?_ hR⟩
      refine js_iload_n 3 rfl dX2_tracksOf_4 rfl ?_
      refine js_aload_n 0 rfl dX2_tracksOf_5 rfl ?_
      refine js_geti 0 jw_f_RX2_9 (jl_1 hB) rfl (Nat.le_of_ble_eq_true rfl) rfl (htk.2.1) dX2_tracksOf_6 ?_
      refine jn_icmp_ge 31 (by omega) (by omega) dX2_tracksOf_9 (by decide) (fun h9 => absurd h9 (by omega)) (fun _ => ?_)
      refine js_aload_n 0 rfl dX2_tracksOf_12 rfl ?_
      refine js_getr 1 jw_f_RX2_15 (jl_1 hB) rfl (Nat.le_of_ble_eq_true rfl) rfl dX2_tracksOf_13 ?_
      refine js_iload_n 3 rfl dX2_tracksOf_16 rfl ?_
      refine js_iald e rfl (jl_2 hB) (by omega) (by decide) ((htk.2.2 e (by omega)).1) dX2_tracksOf_17 ?_
      refine js_iload_n 1 rfl dX2_tracksOf_18 rfl ?_
      refine js_icmp_ne 25 dX2_tracksOf_19 (by decide) (fun h9 => absurd h9 (fun q => q hc0)) (fun _ => ?_)
      refine js_iinc (v := a + Int32.ofInt (1)) (L' := [some (.ref 1), some (.int u), some (.int (a + Int32.ofInt (1))), some (.int (nI e))]) dX2_tracksOf_22 rfl rfl rfl ?_
      refine js_iinc (v := nI (e + 1)) (L' := [some (.ref 1), some (.int u), some (.int (a + Int32.ofInt (1))), some (.int (nI (e + 1)))]) dX2_tracksOf_25 rfl (jj_inc _) rfl ?_
      refine js_goto 4 dX2_tracksOf_28 (by decide) ?_
      exact jj_refl
    · obtain ⟨r, hR⟩ := ih (e + 1) (by omega) a
      refine ⟨r, jj_RRs ?_ hR⟩
      refine js_iload_n 3 rfl dX2_tracksOf_4 rfl ?_
      refine js_aload_n 0 rfl dX2_tracksOf_5 rfl ?_
      refine js_geti 0 jw_f_RX2_9 (jl_1 hB) rfl (Nat.le_of_ble_eq_true rfl) rfl (htk.2.1) dX2_tracksOf_6 ?_
      refine jn_icmp_ge 31 (by omega) (by omega) dX2_tracksOf_9 (by decide) (fun h9 => absurd h9 (by omega)) (fun _ => ?_)
      refine js_aload_n 0 rfl dX2_tracksOf_12 rfl ?_
      refine js_getr 1 jw_f_RX2_15 (jl_1 hB) rfl (Nat.le_of_ble_eq_true rfl) rfl dX2_tracksOf_13 ?_
      refine js_iload_n 3 rfl dX2_tracksOf_16 rfl ?_
      refine js_iald e rfl (jl_2 hB) (by omega) (by decide) ((htk.2.2 e (by omega)).1) dX2_tracksOf_17 ?_
      refine js_iload_n 1 rfl dX2_tracksOf_18 rfl ?_
      refine js_icmp_ne 25 dX2_tracksOf_19 (by decide) (fun _ => ?_) (fun h9 => absurd h9 hc0)
      refine js_iinc (v := nI (e + 1)) (L' := [some (.ref 1), some (.int u), some (.int a), some (.int (nI (e + 1)))]) dX2_tracksOf_25 rfl (jj_inc _) rfl ?_
      refine js_goto 4 dX2_tracksOf_28 (by decide) ?_
      exact jj_refl
set_option maxRecDepth 100000 in
set_option maxHeartbeats 4000000 in
theorem ct_X2_tracksOf {lay : jj_Lay} {S : jj_Mem} (hB : jj_pp lay) {n : Nat} {rc : Nat → Nat} (htk : jj_tk S n rc) {u : Int32} : ∃ r : Int32, jj_CT yX2_tracksOf (.code yX2_tracksOf cX2_tracksOf 4 (some .int)) none 0 0 [.ref 1, .int u] lay S (some (.int r)) lay S := by
  obtain ⟨r, hR⟩ := lp_X2_tracksOf (lay := lay) (S := S) (u := u) hB htk n 0 (by omega) (nI 0)
  refine ⟨r, ?_⟩
  refine jj_mkI RX2 .int (by decide) rfl (L := [some (.ref 1), some (.int u), none, none]) rfl rfl rfl ?_
  refine jj_RRs ?_ hR
  refine js_iconst (v := nI 0) dX2_tracksOf_0 (by decide) ?_
  refine js_istore_n (L' := [some (.ref 1), some (.int u), some (.int (nI 0)), none]) 2 rfl dX2_tracksOf_1 rfl (Nat.le_of_ble_eq_true rfl) ?_
  refine js_iconst (v := nI 0) dX2_tracksOf_2 (by decide) ?_
  refine js_istore_n (L' := [some (.ref 1), some (.int u), some (.int (nI 0)), some (.int (nI 0))]) 3 rfl dX2_tracksOf_3 rfl (Nat.le_of_ble_eq_true rfl) ?_
  exact jj_refl
set_option maxRecDepth 100000 in
set_option maxHeartbeats 4000000 in
theorem lp_X2_isHearable {lay : jj_Lay} {S : jj_Mem} (hB : jj_pp lay) {wn : Nat} {w0 w1 w2 w3 : Nat → Int32} (hwi : jj_wi S wn w0 w1 w2 w3) {n : Nat} {rc : Nat → Nat} (htk : jj_tk S n rc) {u : Nat} {y z : Int32} (hu : u < 2 ^ 31) : ∀ (k e : Nat), e + k = n → ∃ r : Nat, jj_RR cX2_isHearable 5 RX2 yX2_isHearable.name none 1 24 lay.length (jj_sl lay) (3, [some (.ref 1), some (.int (nI u)), some (.int y), some (.int z), some (.int (nI e))], [], lay, S) (some (.int (nI r))) .ireturn lay S ∧ r ≤ 1 := by
  intro k
  induction k with
  | zero =>
    intro e he 
    have h14 := htk.1
    obtain ⟨q, hct, hq⟩ := ct_X2_isAllowed (lay := lay) (S := S) (x := nI e) (y := y) (z := z) hB hwi
    have hrc : e < n → rc e < 10 := fun h => (htk.2.2 e h).2.1
    refine ⟨0, ⟨52, [some (.ref 1), some (.int (nI u)), some (.int y), some (.int z), some (.int (nI e))], dX2_isHearable_52, ?_⟩, by omega⟩
    refine js_iload dX2_isHearable_3 rfl ?_
    refine js_aload_n 0 rfl dX2_isHearable_5 rfl ?_
    refine js_geti 0 jw_f_RX2_9 (jl_1 hB) rfl (Nat.le_of_ble_eq_true rfl) rfl (htk.2.1) dX2_isHearable_6 ?_
    refine jn_icmp_ge 51 (by omega) (by omega) dX2_isHearable_9 (by decide) (fun _ => ?_) (fun h9 => absurd h9 (by omega))
    refine js_iconst (v := nI 0) dX2_isHearable_51 (by decide) ?_
    exact jj_refl
  | succ k ih =>
    intro e he 
    have h14 := htk.1
    obtain ⟨q, hct, hq⟩ := ct_X2_isAllowed (lay := lay) (S := S) (x := nI e) (y := y) (z := z) hB hwi
    have hrc : e < n → rc e < 10 := fun h => (htk.2.2 e h).2.1
    by_cases hc0 : ((rc e)) = u
    · by_cases hc1 : q = 0
      · obtain ⟨r, hR, hr⟩ := ih (e + 1) (by omega) 
        refine ⟨r, jj_RRs ?_ hR, hr⟩
        refine js_iload dX2_isHearable_3 rfl ?_
        refine js_aload_n 0 rfl dX2_isHearable_5 rfl ?_
        refine js_geti 0 jw_f_RX2_9 (jl_1 hB) rfl (Nat.le_of_ble_eq_true rfl) rfl (htk.2.1) dX2_isHearable_6 ?_
        refine jn_icmp_ge 51 (by omega) (by omega) dX2_isHearable_9 (by decide) (fun h9 => absurd h9 (by omega)) (fun _ => ?_)
        refine js_aload_n 0 rfl dX2_isHearable_12 rfl ?_
        refine js_getr 1 jw_f_RX2_15 (jl_1 hB) rfl (Nat.le_of_ble_eq_true rfl) rfl dX2_isHearable_13 ?_
        refine js_iload dX2_isHearable_16 rfl ?_
        refine js_iald e rfl (jl_2 hB) (by omega) (by decide) ((htk.2.2 e (by omega)).1) dX2_isHearable_18 ?_
        refine js_iload_n 1 rfl dX2_isHearable_19 rfl ?_
        refine jn_icmp_ne 45 (by omega) (by omega) dX2_isHearable_20 (by decide) (fun h9 => absurd h9 (by omega)) (fun _ => ?_)
        refine js_aload_n 0 rfl dX2_isHearable_23 rfl ?_
        refine js_iload dX2_isHearable_24 rfl ?_
        refine js_callV (av := [.int (nI e)]) (st := []) (b := 1) (ct_X2_isDown hB htk (by omega)) (Or.inl rfl) jw_c_X2_isDown jw_i_RX2 jw_m_RX2_37 jw_s_X2_isDown jw_e_X2_isDown (jl_1 hB) rfl jw_y_X2_isDown rfl ⟨(Nat.le_of_ble_eq_true rfl), (Nat.le_of_ble_eq_true rfl), (Nat.le_refl _), (Nat.le_refl _), (Nat.le_of_ble_eq_true rfl)⟩ dX2_isHearable_26 ?_
        refine js_st (st' := [.int (nI 0)]) rfl ?_
        refine jn_if_ne 45 (by omega) dX2_isHearable_29 (by decide) (fun h9 => absurd h9 (by omega)) (fun _ => ?_)
        refine js_aload_n 0 rfl dX2_isHearable_32 rfl ?_
        refine js_iload dX2_isHearable_33 rfl ?_
        refine js_iload_n 2 rfl dX2_isHearable_35 rfl ?_
        refine js_iload_n 3 rfl dX2_isHearable_36 rfl ?_
        refine js_callV (av := [.int (nI e), .int y, .int z]) (st := []) (b := 1) hct (Or.inl rfl) jw_c_X2_isAllowed jw_i_RX2 jw_m_RX2_41 jw_s_X2_isAllowed jw_e_X2_isAllowed (jl_1 hB) rfl jw_y_X2_isAllowed rfl ⟨(Nat.le_of_ble_eq_true rfl), (Nat.le_of_ble_eq_true rfl), (Nat.le_refl _), (Nat.le_refl _), (Nat.le_of_ble_eq_true rfl)⟩ dX2_isHearable_37 ?_
        refine js_st (st' := [.int (nI q)]) rfl ?_
        refine jn_if_eq 45 (by omega) dX2_isHearable_40 (by decide) (fun _ => ?_) (fun h9 => absurd h9 (by omega))
        refine js_iinc (v := nI (e + 1)) (L' := [some (.ref 1), some (.int (nI u)), some (.int y), some (.int z), some (.int (nI (e + 1)))]) dX2_isHearable_45 rfl (jj_inc _) rfl ?_
        refine js_goto 3 dX2_isHearable_48 (by decide) ?_
        exact jj_refl
      · refine ⟨1, ⟨44, [some (.ref 1), some (.int (nI u)), some (.int y), some (.int z), some (.int (nI e))], dX2_isHearable_44, ?_⟩, by omega⟩
        refine js_iload dX2_isHearable_3 rfl ?_
        refine js_aload_n 0 rfl dX2_isHearable_5 rfl ?_
        refine js_geti 0 jw_f_RX2_9 (jl_1 hB) rfl (Nat.le_of_ble_eq_true rfl) rfl (htk.2.1) dX2_isHearable_6 ?_
        refine jn_icmp_ge 51 (by omega) (by omega) dX2_isHearable_9 (by decide) (fun h9 => absurd h9 (by omega)) (fun _ => ?_)
        refine js_aload_n 0 rfl dX2_isHearable_12 rfl ?_
        refine js_getr 1 jw_f_RX2_15 (jl_1 hB) rfl (Nat.le_of_ble_eq_true rfl) rfl dX2_isHearable_13 ?_
        refine js_iload dX2_isHearable_16 rfl ?_
        refine js_iald e rfl (jl_2 hB) (by omega) (by decide) ((htk.2.2 e (by omega)).1) dX2_isHearable_18 ?_
        refine js_iload_n 1 rfl dX2_isHearable_19 rfl ?_
        refine jn_icmp_ne 45 (by omega) (by omega) dX2_isHearable_20 (by decide) (fun h9 => absurd h9 (by omega)) (fun _ => ?_)
        refine js_aload_n 0 rfl dX2_isHearable_23 rfl ?_
        refine js_iload dX2_isHearable_24 rfl ?_
        refine js_callV (av := [.int (nI e)]) (st := []) (b := 1) (ct_X2_isDown hB htk (by omega)) (Or.inl rfl) jw_c_X2_isDown jw_i_RX2 jw_m_RX2_37 jw_s_X2_isDown jw_e_X2_isDown (jl_1 hB) rfl jw_y_X2_isDown rfl ⟨(Nat.le_of_ble_eq_true rfl), (Nat.le_of_ble_eq_true rfl), (Nat.le_refl _), (Nat.le_refl _), (Nat.le_of_ble_eq_true rfl)⟩ dX2_isHearable_26 ?_
        refine js_st (st' := [.int (nI 0)]) rfl ?_
        refine jn_if_ne 45 (by omega) dX2_isHearable_29 (by decide) (fun h9 => absurd h9 (by omega)) (fun _ => ?_)
        refine js_aload_n 0 rfl dX2_isHearable_32 rfl ?_
        refine js_iload dX2_isHearable_33 rfl ?_
        refine js_iload_n 2 rfl dX2_isHearable_35 rfl ?_
        refine js_iload_n 3 rfl dX2_isHearable_36 rfl ?_
        refine js_callV (av := [.int (nI e), .int y, .int z]) (st := []) (b := 1) hct (Or.inl rfl) jw_c_X2_isAllowed jw_i_RX2 jw_m_RX2_41 jw_s_X2_isAllowed jw_e_X2_isAllowed (jl_1 hB) rfl jw_y_X2_isAllowed rfl ⟨(Nat.le_of_ble_eq_true rfl), (Nat.le_of_ble_eq_true rfl), (Nat.le_refl _), (Nat.le_refl _), (Nat.le_of_ble_eq_true rfl)⟩ dX2_isHearable_37 ?_
        refine js_st (st' := [.int (nI q)]) rfl ?_
        refine jn_if_eq 45 (by omega) dX2_isHearable_40 (by decide) (fun h9 => absurd h9 (by omega)) (fun _ => ?_)
        refine js_iconst (v := nI 1) dX2_isHearable_43 (by decide) ?_
        exact jj_refl
    · obtain ⟨r, hR, hr⟩ := ih (e + 1) (by omega) 
      refine ⟨r, jj_RRs ?_ hR, hr⟩
      refine js_iload dX2_isHearable_3 rfl ?_
      refine js_aload_n 0 rfl dX2_isHearable_5 rfl ?_
      refine js_geti 0 jw_f_RX2_9 (jl_1 hB) rfl (Nat.le_of_ble_eq_true rfl) rfl (htk.2.1) dX2_isHearable_6 ?_
      refine jn_icmp_ge 51 (by omega) (by omega) dX2_isHearable_9 (by decide) (fun h9 => absurd h9 (by omega)) (fun _ => ?_)
      refine js_aload_n 0 rfl dX2_isHearable_12 rfl ?_
      refine js_getr 1 jw_f_RX2_15 (jl_1 hB) rfl (Nat.le_of_ble_eq_true rfl) rfl dX2_isHearable_13 ?_
      refine js_iload dX2_isHearable_16 rfl ?_
      refine js_iald e rfl (jl_2 hB) (by omega) (by decide) ((htk.2.2 e (by omega)).1) dX2_isHearable_18 ?_
      refine js_iload_n 1 rfl dX2_isHearable_19 rfl ?_
      refine jn_icmp_ne 45 (by omega) (by omega) dX2_isHearable_20 (by decide) (fun _ => ?_) (fun h9 => absurd h9 (by omega))
      refine js_iinc (v := nI (e + 1)) (L' := [some (.ref 1), some (.int (nI u)), some (.int y), some (.int z), some (.int (nI (e + 1)))]) dX2_isHearable_45 rfl (jj_inc _) rfl ?_
      refine js_goto 3 dX2_isHearable_48 (by decide) ?_
      exact jj_refl
set_option maxRecDepth 100000 in
set_option maxHeartbeats 4000000 in
theorem ct_X2_isHearable {lay : jj_Lay} {S : jj_Mem} (hB : jj_pp lay) {wn : Nat} {w0 w1 w2 w3 : Nat → Int32} (hwi : jj_wi S wn w0 w1 w2 w3) {n : Nat} {rc : Nat → Nat} (htk : jj_tk S n rc) {u : Nat} {y z : Int32} (hu : u < 2 ^ 31) : ∃ r : Nat, jj_CT yX2_isHearable (.code yX2_isHearable cX2_isHearable 5 (some .boolean)) none 1 24 [.ref 1, .int (nI u), .int y, .int z] lay S (some (.int (nI r))) lay S ∧ r ≤ 1 := by
  obtain ⟨r, hR, hr⟩ := lp_X2_isHearable (lay := lay) (S := S) (y := y) (z := z) hB hwi htk hu n 0 (by omega) 
  refine ⟨r, ?_, hr⟩
  refine jj_mkI RX2 .boolean (by decide) rfl (L := [some (.ref 1), some (.int (nI u)), some (.int y), some (.int z), none]) rfl rfl (by rcases (show r = 0 ∨ r = 1 by omega) with rfl | rfl <;> rfl) ?_
  refine jj_RRs ?_ hR
  refine js_iconst (v := nI 0) dX2_isHearable_0 (by decide) ?_
  refine js_istore (L' := [some (.ref 1), some (.int (nI u)), some (.int y), some (.int z), some (.int (nI 0))]) dX2_isHearable_1 rfl (Nat.le_of_ble_eq_true rfl) ?_
  exact jj_refl
set_option maxRecDepth 100000 in
set_option maxHeartbeats 4000000 in
theorem lp_X4_countWithReason {lay : jj_Lay} {S : jj_Mem} (hB : jj_pp lay) {n : Nat} {li tr mi rs : Nat → Nat} {se : Nat → Int32} (hlg : jj_lg S n li tr mi rs se) {u : Int32} : ∀ (k e : Nat), e + k = n → ∀ (a : Int32), ∃ r : Int32, jj_RR cX4_countWithReason 4 RX4 yX4_countWithReason.name none 0 0 lay.length (jj_sl lay) (4, [some (.ref 35), some (.int u), some (.int a), some (.int (nI e))], [], lay, S) (some (.int r)) .ireturn lay S := by
  intro k
  induction k with
  | zero =>
    intro e he a
    have h130 := hlg.1
    refine ⟨a, ⟨32, [some (.ref 35), some (.int u), some (.int a), some (.int (nI e))], dX4_countWithReason_32, ?_⟩⟩
    refine js_iload_n 3 rfl dX4_countWithReason_4 rfl ?_
    refine js_aload_n 0 rfl dX4_countWithReason_5 rfl ?_
    refine js_geti 0 jw_f_RX4_9 (jl_35 hB) rfl (Nat.le_of_ble_eq_true rfl) rfl (hlg.2.1) dX4_countWithReason_6 ?_
    refine jn_icmp_ge 31 (by omega) (by omega) dX4_countWithReason_9 (by decide) (fun _ => ?_) (fun h9 => absurd h9 (by omega))
    refine js_iload_n 2 rfl dX4_countWithReason_31 rfl ?_
    exact jj_refl
  | succ k ih =>
    intro e he a
    have h130 := hlg.1
    by_cases hc0 : (nI (rs e)) = u
    · obtain ⟨r, hR⟩ := ih (e + 1) (by omega) (a + Int32.ofInt (1))
      refine ⟨r, jj_RRs ?_ hR⟩
      refine js_iload_n 3 rfl dX4_countWithReason_4 rfl ?_
      refine js_aload_n 0 rfl dX4_countWithReason_5 rfl ?_
      refine js_geti 0 jw_f_RX4_9 (jl_35 hB) rfl (Nat.le_of_ble_eq_true rfl) rfl (hlg.2.1) dX4_countWithReason_6 ?_
      refine jn_icmp_ge 31 (by omega) (by omega) dX4_countWithReason_9 (by decide) (fun h9 => absurd h9 (by omega)) (fun _ => ?_)
      refine js_aload_n 0 rfl dX4_countWithReason_12 rfl ?_
      refine js_getr 5 jw_f_RX4_28 (jl_35 hB) rfl (Nat.le_of_ble_eq_true rfl) rfl dX4_countWithReason_13 ?_
      refine js_iload_n 3 rfl dX4_countWithReason_16 rfl ?_
      refine js_iald e rfl (jl_40 hB) (by omega) (by decide) ((hlg.2.2 e (by omega)).2.2.2.2.1) dX4_countWithReason_17 ?_
      refine js_iload_n 1 rfl dX4_countWithReason_18 rfl ?_
      refine js_icmp_ne 25 dX4_countWithReason_19 (by decide) (fun h9 => absurd h9 (fun q => q hc0)) (fun _ => ?_)
      refine js_iinc (v := a + Int32.ofInt (1)) (L' := [some (.ref 35), some (.int u), some (.int (a + Int32.ofInt (1))), some (.int (nI e))]) dX4_countWithReason_22 rfl rfl rfl ?_
      refine js_iinc (v := nI (e + 1)) (L' := [some (.ref 35), some (.int u), some (.int (a + Int32.ofInt (1))), some (.int (nI (e + 1)))]) dX4_countWithReason_25 rfl (jj_inc _) rfl ?_
      refine js_goto 4 dX4_countWithReason_28 (by decide) ?_
      exact jj_refl
    · obtain ⟨r, hR⟩ := ih (e + 1) (by omega) a
      refine ⟨r, jj_RRs ?_ hR⟩
      refine js_iload_n 3 rfl dX4_countWithReason_4 rfl ?_
      refine js_aload_n 0 rfl dX4_countWithReason_5 rfl ?_
      refine js_geti 0 jw_f_RX4_9 (jl_35 hB) rfl (Nat.le_of_ble_eq_true rfl) rfl (hlg.2.1) dX4_countWithReason_6 ?_
      refine jn_icmp_ge 31 (by omega) (by omega) dX4_countWithReason_9 (by decide) (fun h9 => absurd h9 (by omega)) (fun _ => ?_)
      refine js_aload_n 0 rfl dX4_countWithReason_12 rfl ?_
      refine js_getr 5 jw_f_RX4_28 (jl_35 hB) rfl (Nat.le_of_ble_eq_true rfl) rfl dX4_countWithReason_13 ?_
      refine js_iload_n 3 rfl dX4_countWithReason_16 rfl ?_
      refine js_iald e rfl (jl_40 hB) (by omega) (by decide) ((hlg.2.2 e (by omega)).2.2.2.2.1) dX4_countWithReason_17 ?_
      refine js_iload_n 1 rfl dX4_countWithReason_18 rfl ?_
      refine js_icmp_ne 25 dX4_countWithReason_19 (by decide) (fun _ => ?_) (fun h9 => absurd h9 hc0)
      refine js_iinc (v := nI (e + 1)) (L' := [some (.ref 35), some (.int u), some (.int a), some (.int (nI (e + 1)))]) dX4_countWithReason_25 rfl (jj_inc _) rfl ?_
      refine js_goto 4 dX4_countWithReason_28 (by decide) ?_
      exact jj_refl
set_option maxRecDepth 100000 in
set_option maxHeartbeats 4000000 in
theorem ct_X4_countWithReason {lay : jj_Lay} {S : jj_Mem} (hB : jj_pp lay) {n : Nat} {li tr mi rs : Nat → Nat} {se : Nat → Int32} (hlg : jj_lg S n li tr mi rs se) {u : Int32} : ∃ r : Int32, jj_CT yX4_countWithReason (.code yX4_countWithReason cX4_countWithReason 4 (some .int)) none 0 0 [.ref 35, .int u] lay S (some (.int r)) lay S := by
  obtain ⟨r, hR⟩ := lp_X4_countWithReason (lay := lay) (S := S) (u := u) hB hlg n 0 (by omega) (nI 0)
  refine ⟨r, ?_⟩
  refine jj_mkI RX4 .int (by decide) rfl (L := [some (.ref 35), some (.int u), none, none]) rfl rfl rfl ?_
  refine jj_RRs ?_ hR
  refine js_iconst (v := nI 0) dX4_countWithReason_0 (by decide) ?_
  refine js_istore_n (L' := [some (.ref 35), some (.int u), some (.int (nI 0)), none]) 2 rfl dX4_countWithReason_1 rfl (Nat.le_of_ble_eq_true rfl) ?_
  refine js_iconst (v := nI 0) dX4_countWithReason_2 (by decide) ?_
  refine js_istore_n (L' := [some (.ref 35), some (.int u), some (.int (nI 0)), some (.int (nI 0))]) 3 rfl dX4_countWithReason_3 rfl (Nat.le_of_ble_eq_true rfl) ?_
  exact jj_refl
set_option maxRecDepth 100000 in
set_option maxHeartbeats 4000000 in
theorem lp_X4_playsOfListener {lay : jj_Lay} {S : jj_Mem} (hB : jj_pp lay) {n : Nat} {li tr mi rs : Nat → Nat} {se : Nat → Int32} (hlg : jj_lg S n li tr mi rs se) {u : Int32} : ∀ (k e : Nat), e + k = n → ∀ (a : Int32), ∃ r : Int32, jj_RR cX4_playsOfListener 4 RX4 yX4_playsOfListener.name none 0 0 lay.length (jj_sl lay) (4, [some (.ref 35), some (.int u), some (.int a), some (.int (nI e))], [], lay, S) (some (.int r)) .ireturn lay S := by
  intro k
  induction k with
  | zero =>
    intro e he a
    have h130 := hlg.1
    refine ⟨a, ⟨32, [some (.ref 35), some (.int u), some (.int a), some (.int (nI e))], dX4_playsOfListener_32, ?_⟩⟩
    refine js_iload_n 3 rfl dX4_playsOfListener_4 rfl ?_
    refine js_aload_n 0 rfl dX4_playsOfListener_5 rfl ?_
    refine js_geti 0 jw_f_RX4_9 (jl_35 hB) rfl (Nat.le_of_ble_eq_true rfl) rfl (hlg.2.1) dX4_playsOfListener_6 ?_
    refine jn_icmp_ge 31 (by omega) (by omega) dX4_playsOfListener_9 (by decide) (fun _ => ?_) (fun h9 => absurd h9 (by omega))
    refine js_iload_n 2 rfl dX4_playsOfListener_31 rfl ?_
    exact jj_refl
  | succ k ih =>
    intro e he a
    have h130 := hlg.1
    by_cases hc0 : (nI (li e)) = u
    · obtain ⟨r, hR⟩ := ih (e + 1) (by omega) (a + Int32.ofInt (1))
      refine ⟨r, jj_RRs ?_ hR⟩
      refine js_iload_n 3 rfl dX4_playsOfListener_4 rfl ?_
      refine js_aload_n 0 rfl dX4_playsOfListener_5 rfl ?_
      refine js_geti 0 jw_f_RX4_9 (jl_35 hB) rfl (Nat.le_of_ble_eq_true rfl) rfl (hlg.2.1) dX4_playsOfListener_6 ?_
      refine jn_icmp_ge 31 (by omega) (by omega) dX4_playsOfListener_9 (by decide) (fun h9 => absurd h9 (by omega)) (fun _ => ?_)
      refine js_aload_n 0 rfl dX4_playsOfListener_12 rfl ?_
      refine js_getr 1 jw_f_RX4_15 (jl_35 hB) rfl (Nat.le_of_ble_eq_true rfl) rfl dX4_playsOfListener_13 ?_
      refine js_iload_n 3 rfl dX4_playsOfListener_16 rfl ?_
      refine js_iald e rfl (jl_36 hB) (by omega) (by decide) ((hlg.2.2 e (by omega)).1) dX4_playsOfListener_17 ?_
      refine js_iload_n 1 rfl dX4_playsOfListener_18 rfl ?_
      refine js_icmp_ne 25 dX4_playsOfListener_19 (by decide) (fun h9 => absurd h9 (fun q => q hc0)) (fun _ => ?_)
      refine js_iinc (v := a + Int32.ofInt (1)) (L' := [some (.ref 35), some (.int u), some (.int (a + Int32.ofInt (1))), some (.int (nI e))]) dX4_playsOfListener_22 rfl rfl rfl ?_
      refine js_iinc (v := nI (e + 1)) (L' := [some (.ref 35), some (.int u), some (.int (a + Int32.ofInt (1))), some (.int (nI (e + 1)))]) dX4_playsOfListener_25 rfl (jj_inc _) rfl ?_
      refine js_goto 4 dX4_playsOfListener_28 (by decide) ?_
      exact jj_refl
    · obtain ⟨r, hR⟩ := ih (e + 1) (by omega) a
      refine ⟨r, jj_RRs ?_ hR⟩
      refine js_iload_n 3 rfl dX4_playsOfListener_4 rfl ?_
      refine js_aload_n 0 rfl dX4_playsOfListener_5 rfl ?_
      refine js_geti 0 jw_f_RX4_9 (jl_35 hB) rfl (Nat.le_of_ble_eq_true rfl) rfl (hlg.2.1) dX4_playsOfListener_6 ?_
      refine jn_icmp_ge 31 (by omega) (by omega) dX4_playsOfListener_9 (by decide) (fun h9 => absurd h9 (by omega)) (fun _ => ?_)
      refine js_aload_n 0 rfl dX4_playsOfListener_12 rfl ?_
      refine js_getr 1 jw_f_RX4_15 (jl_35 hB) rfl (Nat.le_of_ble_eq_true rfl) rfl dX4_playsOfListener_13 ?_
      refine js_iload_n 3 rfl dX4_playsOfListener_16 rfl ?_
      refine js_iald e rfl (jl_36 hB) (by omega) (by decide) ((hlg.2.2 e (by omega)).1) dX4_playsOfListener_17 ?_
      refine js_iload_n 1 rfl dX4_playsOfListener_18 rfl ?_
      refine js_icmp_ne 25 dX4_playsOfListener_19 (by decide) (fun _ => ?_) (fun h9 => absurd h9 hc0)
      refine js_iinc (v := nI (e + 1)) (L' := [some (.ref 35), some (.int u), some (.int a), some (.int (nI (e + 1)))]) dX4_playsOfListener_25 rfl (jj_inc _) rfl ?_
      refine js_goto 4 dX4_playsOfListener_28 (by decide) ?_
      exact jj_refl
set_option maxRecDepth 100000 in
set_option maxHeartbeats 4000000 in
theorem ct_X4_playsOfListener {lay : jj_Lay} {S : jj_Mem} (hB : jj_pp lay) {n : Nat} {li tr mi rs : Nat → Nat} {se : Nat → Int32} (hlg : jj_lg S n li tr mi rs se) {u : Int32} : ∃ r : Int32, jj_CT yX4_playsOfListener (.code yX4_playsOfListener cX4_playsOfListener 4 (some .int)) none 0 0 [.ref 35, .int u] lay S (some (.int r)) lay S := by
  obtain ⟨r, hR⟩ := lp_X4_playsOfListener (lay := lay) (S := S) (u := u) hB hlg n 0 (by omega) (nI 0)
  refine ⟨r, ?_⟩
  refine jj_mkI RX4 .int (by decide) rfl (L := [some (.ref 35), some (.int u), none, none]) rfl rfl rfl ?_
  refine jj_RRs ?_ hR
  refine js_iconst (v := nI 0) dX4_playsOfListener_0 (by decide) ?_
  refine js_istore_n (L' := [some (.ref 35), some (.int u), some (.int (nI 0)), none]) 2 rfl dX4_playsOfListener_1 rfl (Nat.le_of_ble_eq_true rfl) ?_
  refine js_iconst (v := nI 0) dX4_playsOfListener_2 (by decide) ?_
  refine js_istore_n (L' := [some (.ref 35), some (.int u), some (.int (nI 0)), some (.int (nI 0))]) 3 rfl dX4_playsOfListener_3 rfl (Nat.le_of_ble_eq_true rfl) ?_
  exact jj_refl
set_option maxRecDepth 100000 in
set_option maxHeartbeats 4000000 in
theorem lp_X4_countedOfTrack {lay : jj_Lay} {S : jj_Mem} (hB : jj_pp lay) {n : Nat} {li tr mi rs : Nat → Nat} {se : Nat → Int32} (hlg : jj_lg S n li tr mi rs se) {u : Int32} (hrs : ∀ k, k < n → rs k < 10) : ∀ (k e : Nat), e + k = n → ∀ (a : Int32), ∃ r : Int32, jj_RR cX4_countedOfTrack 4 RX4 yX4_countedOfTrack.name none 0 0 lay.length (jj_sl lay) (4, [some (.ref 35), some (.int u), some (.int a), some (.int (nI e))], [], lay, S) (some (.int r)) .ireturn lay S := by
  intro k
  induction k with
  | zero =>
    intro e he a
    have h130 := hlg.1
    have hr9 : e < n → rs e < 10 := fun h => hrs e h
    refine ⟨a, ⟨41, [some (.ref 35), some (.int u), some (.int a), some (.int (nI e))], dX4_countedOfTrack_41, ?_⟩⟩
    refine js_iload_n 3 rfl dX4_countedOfTrack_4 rfl ?_
    refine js_aload_n 0 rfl dX4_countedOfTrack_5 rfl ?_
    refine js_geti 0 jw_f_RX4_9 (jl_35 hB) rfl (Nat.le_of_ble_eq_true rfl) rfl (hlg.2.1) dX4_countedOfTrack_6 ?_
    refine jn_icmp_ge 40 (by omega) (by omega) dX4_countedOfTrack_9 (by decide) (fun _ => ?_) (fun h9 => absurd h9 (by omega))
    refine js_iload_n 2 rfl dX4_countedOfTrack_40 rfl ?_
    exact jj_refl
  | succ k ih =>
    intro e he a
    have h130 := hlg.1
    have hr9 : e < n → rs e < 10 := fun h => hrs e h
    by_cases hc0 : (nI (tr e)) = u
    · by_cases hc1 : ((rs e)) = 0
      · obtain ⟨r, hR⟩ := ih (e + 1) (by omega) (a + Int32.ofInt (1))
        refine ⟨r, jj_RRs ?_ hR⟩
        refine js_iload_n 3 rfl dX4_countedOfTrack_4 rfl ?_
        refine js_aload_n 0 rfl dX4_countedOfTrack_5 rfl ?_
        refine js_geti 0 jw_f_RX4_9 (jl_35 hB) rfl (Nat.le_of_ble_eq_true rfl) rfl (hlg.2.1) dX4_countedOfTrack_6 ?_
        refine jn_icmp_ge 40 (by omega) (by omega) dX4_countedOfTrack_9 (by decide) (fun h9 => absurd h9 (by omega)) (fun _ => ?_)
        refine js_aload_n 0 rfl dX4_countedOfTrack_12 rfl ?_
        refine js_getr 2 jw_f_RX4_19 (jl_35 hB) rfl (Nat.le_of_ble_eq_true rfl) rfl dX4_countedOfTrack_13 ?_
        refine js_iload_n 3 rfl dX4_countedOfTrack_16 rfl ?_
        refine js_iald e rfl (jl_37 hB) (by omega) (by decide) ((hlg.2.2 e (by omega)).2.1) dX4_countedOfTrack_17 ?_
        refine js_iload_n 1 rfl dX4_countedOfTrack_18 rfl ?_
        refine js_icmp_ne 34 dX4_countedOfTrack_19 (by decide) (fun h9 => absurd h9 (fun q => q hc0)) (fun _ => ?_)
        refine js_aload_n 0 rfl dX4_countedOfTrack_22 rfl ?_
        refine js_getr 5 jw_f_RX4_28 (jl_35 hB) rfl (Nat.le_of_ble_eq_true rfl) rfl dX4_countedOfTrack_23 ?_
        refine js_iload_n 3 rfl dX4_countedOfTrack_26 rfl ?_
        refine js_iald e rfl (jl_40 hB) (by omega) (by decide) ((hlg.2.2 e (by omega)).2.2.2.2.1) dX4_countedOfTrack_27 ?_
        refine jn_if_ne 34 (by omega) dX4_countedOfTrack_28 (by decide) (fun h9 => absurd h9 (by omega)) (fun _ => ?_)
        refine js_iinc (v := a + Int32.ofInt (1)) (L' := [some (.ref 35), some (.int u), some (.int (a + Int32.ofInt (1))), some (.int (nI e))]) dX4_countedOfTrack_31 rfl rfl rfl ?_
        refine js_iinc (v := nI (e + 1)) (L' := [some (.ref 35), some (.int u), some (.int (a + Int32.ofInt (1))), some (.int (nI (e + 1)))]) dX4_countedOfTrack_34 rfl (jj_inc _) rfl ?_
        refine js_goto 4 dX4_countedOfTrack_37 (by decide) ?_
        exact jj_refl
      · obtain ⟨r, hR⟩ := ih (e + 1) (by omega) a
        refine ⟨r, jj_RRs ?_ hR⟩
        refine js_iload_n 3 rfl dX4_countedOfTrack_4 rfl ?_
        refine js_aload_n 0 rfl dX4_countedOfTrack_5 rfl ?_
        refine js_geti 0 jw_f_RX4_9 (jl_35 hB) rfl (Nat.le_of_ble_eq_true rfl) rfl (hlg.2.1) dX4_countedOfTrack_6 ?_
        refine jn_icmp_ge 40 (by omega) (by omega) dX4_countedOfTrack_9 (by decide) (fun h9 => absurd h9 (by omega)) (fun _ => ?_)
        refine js_aload_n 0 rfl dX4_countedOfTrack_12 rfl ?_
        refine js_getr 2 jw_f_RX4_19 (jl_35 hB) rfl (Nat.le_of_ble_eq_true rfl) rfl dX4_countedOfTrack_13 ?_
        refine js_iload_n 3 rfl dX4_countedOfTrack_16 rfl ?_
        refine js_iald e rfl (jl_37 hB) (by omega) (by decide) ((hlg.2.2 e (by omega)).2.1) dX4_countedOfTrack_17 ?_
        refine js_iload_n 1 rfl dX4_countedOfTrack_18 rfl ?_
        refine js_icmp_ne 34 dX4_countedOfTrack_19 (by decide) (fun h9 => absurd h9 (fun q => q hc0)) (fun _ => ?_)
        refine js_aload_n 0 rfl dX4_countedOfTrack_22 rfl ?_
        refine js_getr 5 jw_f_RX4_28 (jl_35 hB) rfl (Nat.le_of_ble_eq_true rfl) rfl dX4_countedOfTrack_23 ?_
        refine js_iload_n 3 rfl dX4_countedOfTrack_26 rfl ?_
        refine js_iald e rfl (jl_40 hB) (by omega) (by decide) ((hlg.2.2 e (by omega)).2.2.2.2.1) dX4_countedOfTrack_27 ?_
        refine jn_if_ne 34 (by omega) dX4_countedOfTrack_28 (by decide) (fun _ => ?_) (fun h9 => absurd h9 (by omega))
        refine js_iinc (v := nI (e + 1)) (L' := [some (.ref 35), some (.int u), some (.int a), some (.int (nI (e + 1)))]) dX4_countedOfTrack_34 rfl (jj_inc _) rfl ?_
        refine js_goto 4 dX4_countedOfTrack_37 (by decide) ?_
        exact jj_refl
    · obtain ⟨r, hR⟩ := ih (e + 1) (by omega) a
      refine ⟨r, jj_RRs ?_ hR⟩
      refine js_iload_n 3 rfl dX4_countedOfTrack_4 rfl ?_
      refine js_aload_n 0 rfl dX4_countedOfTrack_5 rfl ?_
      refine js_geti 0 jw_f_RX4_9 (jl_35 hB) rfl (Nat.le_of_ble_eq_true rfl) rfl (hlg.2.1) dX4_countedOfTrack_6 ?_
      refine jn_icmp_ge 40 (by omega) (by omega) dX4_countedOfTrack_9 (by decide) (fun h9 => absurd h9 (by omega)) (fun _ => ?_)
      refine js_aload_n 0 rfl dX4_countedOfTrack_12 rfl ?_
      refine js_getr 2 jw_f_RX4_19 (jl_35 hB) rfl (Nat.le_of_ble_eq_true rfl) rfl dX4_countedOfTrack_13 ?_
      refine js_iload_n 3 rfl dX4_countedOfTrack_16 rfl ?_
      refine js_iald e rfl (jl_37 hB) (by omega) (by decide) ((hlg.2.2 e (by omega)).2.1) dX4_countedOfTrack_17 ?_
      refine js_iload_n 1 rfl dX4_countedOfTrack_18 rfl ?_
      refine js_icmp_ne 34 dX4_countedOfTrack_19 (by decide) (fun _ => ?_) (fun h9 => absurd h9 hc0)
      refine js_iinc (v := nI (e + 1)) (L' := [some (.ref 35), some (.int u), some (.int a), some (.int (nI (e + 1)))]) dX4_countedOfTrack_34 rfl (jj_inc _) rfl ?_
      refine js_goto 4 dX4_countedOfTrack_37 (by decide) ?_
      exact jj_refl
set_option maxRecDepth 100000 in
set_option maxHeartbeats 4000000 in
theorem ct_X4_countedOfTrack {lay : jj_Lay} {S : jj_Mem} (hB : jj_pp lay) {n : Nat} {li tr mi rs : Nat → Nat} {se : Nat → Int32} (hlg : jj_lg S n li tr mi rs se) {u : Int32} (hrs : ∀ k, k < n → rs k < 10) : ∃ r : Int32, jj_CT yX4_countedOfTrack (.code yX4_countedOfTrack cX4_countedOfTrack 4 (some .int)) none 0 0 [.ref 35, .int u] lay S (some (.int r)) lay S := by
  obtain ⟨r, hR⟩ := lp_X4_countedOfTrack (lay := lay) (S := S) (u := u) hB hlg hrs n 0 (by omega) (nI 0)
  refine ⟨r, ?_⟩
  refine jj_mkI RX4 .int (by decide) rfl (L := [some (.ref 35), some (.int u), none, none]) rfl rfl rfl ?_
  refine jj_RRs ?_ hR
  refine js_iconst (v := nI 0) dX4_countedOfTrack_0 (by decide) ?_
  refine js_istore_n (L' := [some (.ref 35), some (.int u), some (.int (nI 0)), none]) 2 rfl dX4_countedOfTrack_1 rfl (Nat.le_of_ble_eq_true rfl) ?_
  refine js_iconst (v := nI 0) dX4_countedOfTrack_2 (by decide) ?_
  refine js_istore_n (L' := [some (.ref 35), some (.int u), some (.int (nI 0)), some (.int (nI 0))]) 3 rfl dX4_countedOfTrack_3 rfl (Nat.le_of_ble_eq_true rfl) ?_
  exact jj_refl
set_option maxRecDepth 100000 in
set_option maxHeartbeats 4000000 in
theorem lp_X3_hearersOfBoth {lay : jj_Lay} {S : jj_Mem} (hB : jj_pp lay) {ev : Nat → Nat → Nat} (hev : jj_rw8 S 44 ev) (hev2 : ∀ l, l < 8 → ∀ j, j < 10 → ev l j < 2 ^ 31) {u v : Nat} (hu : u < 10) (hv : v < 10) : ∀ (k e : Nat), e + k = 8 → ∀ (a : Int32), ∃ r : Int32, jj_RR cX3_hearersOfBoth 5 RX3 yX3_hearersOfBoth.name none 0 0 lay.length (jj_sl lay) (5, [some (.ref 42), some (.int (nI u)), some (.int (nI v)), some (.int a), some (.int (nI e))], [], lay, S) (some (.int r)) .ireturn lay S := by
  intro k
  induction k with
  | zero =>
    intro e he a
    have hb1 : e < 8 → ev e u < 2 ^ 31 := fun h => hev2 e h u hu
    have hb2 : e < 8 → ev e v < 2 ^ 31 := fun h => hev2 e h v hv
    refine ⟨a, ⟨46, [some (.ref 42), some (.int (nI u)), some (.int (nI v)), some (.int a), some (.int (nI e))], dX3_hearersOfBoth_46, ?_⟩⟩
    refine js_iload dX3_hearersOfBoth_5 rfl ?_
    refine js_bipush (v := nI 8) dX3_hearersOfBoth_7 (by decide) ?_
    refine jn_icmp_ge 45 (by omega) (by omega) dX3_hearersOfBoth_9 (by decide) (fun _ => ?_) (fun h9 => absurd h9 (by omega))
    refine js_iload_n 3 rfl dX3_hearersOfBoth_45 rfl ?_
    exact jj_refl
  | succ k ih =>
    intro e he a
    have hb1 : e < 8 → ev e u < 2 ^ 31 := fun h => hev2 e h u hu
    have hb2 : e < 8 → ev e v < 2 ^ 31 := fun h => hev2 e h v hv
    by_cases hc0 : ((ev e u)) ≤ 0
    · obtain ⟨r, hR⟩ := ih (e + 1) (by omega) a
      refine ⟨r, jj_RRs ?_ hR⟩
      refine js_iload dX3_hearersOfBoth_5 rfl ?_
      refine js_bipush (v := nI 8) dX3_hearersOfBoth_7 (by decide) ?_
      refine jn_icmp_ge 45 (by omega) (by omega) dX3_hearersOfBoth_9 (by decide) (fun h9 => absurd h9 (by omega)) (fun _ => ?_)
      refine js_aload_n 0 rfl dX3_hearersOfBoth_12 rfl ?_
      refine js_getr 0 jw_f_RX3_11 (jl_42 hB) rfl (Nat.le_of_ble_eq_true rfl) rfl dX3_hearersOfBoth_13 ?_
      refine js_iload dX3_hearersOfBoth_16 rfl ?_
      refine js_aald e rfl (jl_43 hB) (by omega) (by decide) (jr_ev e (by omega)) dX3_hearersOfBoth_18 ?_
      refine js_iload_n 1 rfl dX3_hearersOfBoth_19 rfl ?_
      refine js_iald u rfl (jl_ev hB e (by omega)) (by omega) (by decide) (hev e (by omega) u hu) dX3_hearersOfBoth_20 ?_
      refine jn_if_le 39 (by omega) dX3_hearersOfBoth_21 (by decide) (fun _ => ?_) (fun h9 => absurd h9 (by omega))
      refine js_iinc (v := nI (e + 1)) (L' := [some (.ref 42), some (.int (nI u)), some (.int (nI v)), some (.int a), some (.int (nI (e + 1)))]) dX3_hearersOfBoth_39 rfl (jj_inc _) rfl ?_
      refine js_goto 5 dX3_hearersOfBoth_42 (by decide) ?_
      exact jj_refl
    · by_cases hc1 : ((ev e v)) ≤ 0
      · obtain ⟨r, hR⟩ := ih (e + 1) (by omega) a
        refine ⟨r, jj_RRs ?_ hR⟩
        refine js_iload dX3_hearersOfBoth_5 rfl ?_
        refine js_bipush (v := nI 8) dX3_hearersOfBoth_7 (by decide) ?_
        refine jn_icmp_ge 45 (by omega) (by omega) dX3_hearersOfBoth_9 (by decide) (fun h9 => absurd h9 (by omega)) (fun _ => ?_)
        refine js_aload_n 0 rfl dX3_hearersOfBoth_12 rfl ?_
        refine js_getr 0 jw_f_RX3_11 (jl_42 hB) rfl (Nat.le_of_ble_eq_true rfl) rfl dX3_hearersOfBoth_13 ?_
        refine js_iload dX3_hearersOfBoth_16 rfl ?_
        refine js_aald e rfl (jl_43 hB) (by omega) (by decide) (jr_ev e (by omega)) dX3_hearersOfBoth_18 ?_
        refine js_iload_n 1 rfl dX3_hearersOfBoth_19 rfl ?_
        refine js_iald u rfl (jl_ev hB e (by omega)) (by omega) (by decide) (hev e (by omega) u hu) dX3_hearersOfBoth_20 ?_
        refine jn_if_le 39 (by omega) dX3_hearersOfBoth_21 (by decide) (fun h9 => absurd h9 (by omega)) (fun _ => ?_)
        refine js_aload_n 0 rfl dX3_hearersOfBoth_24 rfl ?_
        refine js_getr 0 jw_f_RX3_11 (jl_42 hB) rfl (Nat.le_of_ble_eq_true rfl) rfl dX3_hearersOfBoth_25 ?_
        refine js_iload dX3_hearersOfBoth_28 rfl ?_
        refine js_aald e rfl (jl_43 hB) (by omega) (by decide) (jr_ev e (by omega)) dX3_hearersOfBoth_30 ?_
        refine js_iload_n 2 rfl dX3_hearersOfBoth_31 rfl ?_
        refine js_iald v rfl (jl_ev hB e (by omega)) (by omega) (by decide) (hev e (by omega) v hv) dX3_hearersOfBoth_32 ?_
        refine jn_if_le 39 (by omega) dX3_hearersOfBoth_33 (by decide) (fun _ => ?_) (fun h9 => absurd h9 (by omega))
        refine js_iinc (v := nI (e + 1)) (L' := [some (.ref 42), some (.int (nI u)), some (.int (nI v)), some (.int a), some (.int (nI (e + 1)))]) dX3_hearersOfBoth_39 rfl (jj_inc _) rfl ?_
        refine js_goto 5 dX3_hearersOfBoth_42 (by decide) ?_
        exact jj_refl
      · obtain ⟨r, hR⟩ := ih (e + 1) (by omega) (a + Int32.ofInt (1))
        refine ⟨r, jj_RRs ?_ hR⟩
        refine js_iload dX3_hearersOfBoth_5 rfl ?_
        refine js_bipush (v := nI 8) dX3_hearersOfBoth_7 (by decide) ?_
        refine jn_icmp_ge 45 (by omega) (by omega) dX3_hearersOfBoth_9 (by decide) (fun h9 => absurd h9 (by omega)) (fun _ => ?_)
        refine js_aload_n 0 rfl dX3_hearersOfBoth_12 rfl ?_
        refine js_getr 0 jw_f_RX3_11 (jl_42 hB) rfl (Nat.le_of_ble_eq_true rfl) rfl dX3_hearersOfBoth_13 ?_
        refine js_iload dX3_hearersOfBoth_16 rfl ?_
        refine js_aald e rfl (jl_43 hB) (by omega) (by decide) (jr_ev e (by omega)) dX3_hearersOfBoth_18 ?_
        refine js_iload_n 1 rfl dX3_hearersOfBoth_19 rfl ?_
        refine js_iald u rfl (jl_ev hB e (by omega)) (by omega) (by decide) (hev e (by omega) u hu) dX3_hearersOfBoth_20 ?_
        refine jn_if_le 39 (by omega) dX3_hearersOfBoth_21 (by decide) (fun h9 => absurd h9 (by omega)) (fun _ => ?_)
        refine js_aload_n 0 rfl dX3_hearersOfBoth_24 rfl ?_
        refine js_getr 0 jw_f_RX3_11 (jl_42 hB) rfl (Nat.le_of_ble_eq_true rfl) rfl dX3_hearersOfBoth_25 ?_
        refine js_iload dX3_hearersOfBoth_28 rfl ?_
        refine js_aald e rfl (jl_43 hB) (by omega) (by decide) (jr_ev e (by omega)) dX3_hearersOfBoth_30 ?_
        refine js_iload_n 2 rfl dX3_hearersOfBoth_31 rfl ?_
        refine js_iald v rfl (jl_ev hB e (by omega)) (by omega) (by decide) (hev e (by omega) v hv) dX3_hearersOfBoth_32 ?_
        refine jn_if_le 39 (by omega) dX3_hearersOfBoth_33 (by decide) (fun h9 => absurd h9 (by omega)) (fun _ => ?_)
        refine js_iinc (v := a + Int32.ofInt (1)) (L' := [some (.ref 42), some (.int (nI u)), some (.int (nI v)), some (.int (a + Int32.ofInt (1))), some (.int (nI e))]) dX3_hearersOfBoth_36 rfl rfl rfl ?_
        refine js_iinc (v := nI (e + 1)) (L' := [some (.ref 42), some (.int (nI u)), some (.int (nI v)), some (.int (a + Int32.ofInt (1))), some (.int (nI (e + 1)))]) dX3_hearersOfBoth_39 rfl (jj_inc _) rfl ?_
        refine js_goto 5 dX3_hearersOfBoth_42 (by decide) ?_
        exact jj_refl
set_option maxRecDepth 100000 in
set_option maxHeartbeats 4000000 in
theorem ct_X3_hearersOfBoth {lay : jj_Lay} {S : jj_Mem} (hB : jj_pp lay) {ev : Nat → Nat → Nat} (hev : jj_rw8 S 44 ev) (hev2 : ∀ l, l < 8 → ∀ j, j < 10 → ev l j < 2 ^ 31) {u v : Nat} (hu : u < 10) (hv : v < 10) : ∃ r : Int32, jj_CT yX3_hearersOfBoth (.code yX3_hearersOfBoth cX3_hearersOfBoth 5 (some .int)) none 0 0 [.ref 42, .int (nI u), .int (nI v)] lay S (some (.int r)) lay S := by
  obtain ⟨r, hR⟩ := lp_X3_hearersOfBoth (lay := lay) (S := S) hB hev hev2 hu hv 8 0 (by omega) (nI 0)
  refine ⟨r, ?_⟩
  refine jj_mkI RX3 .int (by decide) rfl (L := [some (.ref 42), some (.int (nI u)), some (.int (nI v)), none, none]) rfl rfl rfl ?_
  refine jj_RRs ?_ hR
  refine js_iconst (v := nI 0) dX3_hearersOfBoth_0 (by decide) ?_
  refine js_istore_n (L' := [some (.ref 42), some (.int (nI u)), some (.int (nI v)), some (.int (nI 0)), none]) 3 rfl dX3_hearersOfBoth_1 rfl (Nat.le_of_ble_eq_true rfl) ?_
  refine js_iconst (v := nI 0) dX3_hearersOfBoth_2 (by decide) ?_
  refine js_istore (L' := [some (.ref 42), some (.int (nI u)), some (.int (nI v)), some (.int (nI 0)), some (.int (nI 0))]) dX3_hearersOfBoth_3 rfl (Nat.le_of_ble_eq_true rfl) ?_
  exact jj_refl

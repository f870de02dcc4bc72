/-! NUMBERS: a split goes out whole. -/
/-- how many below n -/
def jj_ct (P : Nat → Bool) : Nat → Nat
  | 0 => 0
  | n + 1 => jj_ct P n + jj_b (P n)
theorem jj_ct_le {P Q : Nat → Bool} : ∀ {n : Nat}, (∀ j, j < n → P j = true → Q j = true) → jj_ct P n ≤ jj_ct Q n
  | 0, _ => Nat.le_refl _
  | n + 1, h => by
    have h1 := jj_ct_le (P := P) (Q := Q) (n := n) (fun j hj => h j (by omega))
    have h2 := h n (by omega)
    show jj_ct P n + jj_b (P n) ≤ jj_ct Q n + jj_b (Q n)
    cases hp : P n <;> cases hq : Q n <;> simp [jj_b] <;> first | omega | (rw [hp, hq] at h2; simp at h2)
theorem jj_ct_lt {P Q : Nat → Bool} {i : Nat} (hi : P i = false) (hq : Q i = true) : ∀ {n : Nat}, i < n → (∀ j, j < n → P j = true → Q j = true) → jj_ct P n < jj_ct Q n
  | 0, h, _ => absurd h (by omega)
  | n + 1, h, hh => by
    show jj_ct P n + jj_b (P n) < jj_ct Q n + jj_b (Q n)
    by_cases e : i = n
    · subst e
      have h1 := jj_ct_le (P := P) (Q := Q) (n := i) (fun j hj => hh j (by omega))
      rw [hi, hq]
      simp [jj_b]
      omega
    · have h1 := jj_ct_lt hi hq (n := n) (by omega) (fun j hj => hh j (by omega))
      have h2 := hh n (by omega)
      cases hp : P n <;> cases hq : Q n <;> simp [jj_b] <;> first | omega | (rw [hp, hq] at h2; simp at h2)
theorem jj_ct_max (P : Nat → Bool) : ∀ n : Nat, jj_ct P n ≤ n
  | 0 => Nat.le_refl _
  | n + 1 => by
    have := jj_ct_max P n
    show jj_ct P n + jj_b (P n) ≤ n + 1
    cases P n <;> simp [jj_b] <;> omega
theorem jj_ct_all {P : Nat → Bool} : ∀ {n : Nat}, (∀ j, j < n → P j = true) → jj_ct P n = n
  | 0, _ => rfl
  | n + 1, h => by
    show jj_ct P n + jj_b (P n) = n + 1
    rw [jj_ct_all (fun j hj => h j (by omega)), h n (by omega)]
    rfl
theorem jj_ct_one {P : Nat → Bool} : ∀ {n : Nat}, (∀ i j, i < n → j < n → P i = true → P j = true → i = j) → jj_ct P n ≤ 1
  | 0, _ => by show 0 ≤ 1; omega
  | n + 1, h => by
    show jj_ct P n + jj_b (P n) ≤ 1
    cases hp : P n with
    | false => have := jj_ct_one (P := P) (n := n) (fun i j hi hj => h i j (by omega) (by omega)); simp [jj_b]; exact this
    | true =>
      have h0 : jj_ct P n = jj_ct (fun _ => false) n := Nat.le_antisymm (jj_ct_le (fun j hj hq => by have := h j n (by omega) (by omega) hq hp; omega)) (jj_ct_le (fun j hj hq => by cases hq))
      have h1 : ∀ k : Nat, jj_ct (fun _ => false) k = 0 := fun k => by
        induction k with
        | zero => rfl
        | succ k ih => show jj_ct (fun _ => false) k + 0 = 0; rw [ih]
      rw [h0, h1]
      simp [jj_b]
theorem jj_ct_split {r : Nat → Nat} {L : Nat} : ∀ n : Nat, jj_ct (fun j => decide (r j < L + 1)) n = jj_ct (fun j => decide (r j < L)) n + jj_ct (fun j => decide (r j = L)) n
  | 0 => rfl
  | n + 1 => by
    show jj_ct _ n + jj_b (decide (r n < L + 1)) = (jj_ct _ n + jj_b (decide (r n < L))) + (jj_ct _ n + jj_b (decide (r n = L)))
    rw [jj_ct_split n]
    by_cases a : r n < L
    · have b : r n < L + 1 := by omega
      have c : ¬ r n = L := by omega
      simp [jj_b, a, b, c]; omega
    · by_cases c : r n = L
      · simp [jj_b, c]; omega
      · have b : ¬ r n < L + 1 := by omega
        simp [jj_b, a, b, c]
/-- an injection of n places into n: L of them lie below L -/
theorem jj_ct_perm {r : Nat → Nat} {n : Nat} (hr : ∀ j, j < n → r j < n) (hi : ∀ i j, i < n → j < n → r i = r j → i = j) {L : Nat} (hL : L ≤ n) : jj_ct (fun j => decide (r j < L)) n = L := by
  have h1 : ∀ L, jj_ct (fun j => decide (r j = L)) n ≤ 1 := fun L => jj_ct_one (fun i j a b p q => hi i j a b (by simp at p q; omega))
  have h2 : ∀ L, jj_ct (fun j => decide (r j < L)) n ≤ L := fun L => by
    induction L with
    | zero => exact Nat.le_trans (jj_ct_le (Q := fun _ => false) (fun j _ h => by simp at h)) (by
        have h1 : ∀ k : Nat, jj_ct (fun _ => false) k = 0 := fun k => by
          induction k with
          | zero => rfl
          | succ k ih => show jj_ct (fun _ => false) k + 0 = 0; rw [ih]
        rw [h1]; omega)
    | succ L ih => have := h1 L; rw [jj_ct_split]; omega
  have h3 : ∀ d, d ≤ n → jj_ct (fun j => decide (r j < n)) n ≤ jj_ct (fun j => decide (r j < n - d)) n + d := fun d => by
    induction d with
    | zero => intro _; exact Nat.le_refl _
    | succ d ih =>
      intro hd
      have h4 := ih (by omega)
      have h5 := jj_ct_split (r := r) (L := n - (d + 1)) n
      rw [show n - (d + 1) + 1 = n - d by omega] at h5
      have h6 := h1 (n - (d + 1))
      omega
  have h4 := h3 (n - L) (by omega)
  rw [jj_ct_all (fun j hj => by simp [hr j hj]), show n - (n - L) = L by omega] at h4
  have := h2 L
  omega
/-- s is ahead of w -/
def jj_ah (f : Nat → Nat) (w s : Nat) : Bool := decide (f w < f s ∨ (f s = f w ∧ s < w))
theorem jj_pl_ct (f : Nat → Nat) (w : Nat) : ∀ n : Nat, jj_pl f w n = jj_ct (jj_ah f w) n
  | 0 => rfl
  | n + 1 => by
    show (if f w < f n ∨ (f n = f w ∧ n < w) then jj_pl f w n + 1 else jj_pl f w n) = jj_ct (jj_ah f w) n + jj_b (jj_ah f w n)
    rw [jj_pl_ct f w n]
    by_cases h : f w < f n ∨ (f n = f w ∧ n < w)
    · rw [if_pos h]; simp [jj_b, jj_ah, h]
    · rw [if_neg h]; simp [jj_b, jj_ah, h]
theorem jj_pl_lt {f : Nat → Nat} {n w : Nat} (hw : w < n) : jj_pl f w n < n := by
  rw [jj_pl_ct]
  have h := jj_ct_lt (P := jj_ah f w) (Q := fun _ => true) (i := w) (by simp [jj_ah]) rfl hw (fun _ _ _ => rfl)
  rw [jj_ct_all (P := fun _ => true) (fun _ _ => rfl)] at h
  exact h
theorem jj_pl_inj {f : Nat → Nat} {n i j : Nat} (hi : i < n) (hj : j < n) (h : jj_pl f i n = jj_pl f j n) : i = j := by
  rw [jj_pl_ct, jj_pl_ct] at h
  have key : ∀ a b, a < n → jj_ah f b a = true → jj_ct (jj_ah f a) n < jj_ct (jj_ah f b) n := fun a b ha hab =>
    jj_ct_lt (i := a) (by simp [jj_ah]) hab ha (fun s _ hs => by
      simp only [jj_ah, decide_eq_true_eq] at hs hab ⊢
      omega)
  by_cases e : i = j
  · exact e
  · have : jj_ah f j i = true ∨ jj_ah f i j = true := by
      simp only [jj_ah, decide_eq_true_eq]
      omega
    rcases this with q | q
    · have := key i j hi q; omega
    · have := key j i hj q; omega
theorem jj_sm_b (P : Nat → Bool) : ∀ n : Nat, jj_sm (fun j => jj_b (P j)) n = jj_ct P n
  | 0 => rfl
  | n + 1 => by show jj_sm _ n + _ = _; rw [jj_sm_b P n]; rfl
/-- one each for the first L places -/
theorem jj_bonus {f : Nat → Nat} {n L : Nat} (hL : L ≤ n) : jj_sm (fun j => jj_b (decide (jj_pl f j n < L))) n = L := by
  rw [jj_sm_b]
  exact jj_ct_perm (r := fun j => jj_pl f j n) (fun j hj => jj_pl_lt hj) (fun i j hi hj h => jj_pl_inj hi hj h) hL
theorem jj_shares {a W : Nat} {w : Nat → Nat} (hW : 0 < W) : ∀ n : Nat, jj_sm (fun j => a * w j / W) n * W + jj_sm (fun j => a * w j % W) n = a * jj_sm w n
  | 0 => by show 0 * W + 0 = a * 0; rw [Nat.zero_mul, Nat.mul_zero]
  | n + 1 => by
    have h := jj_shares (a := a) (w := w) hW n
    show (jj_sm _ n + a * w n / W) * W + (jj_sm _ n + a * w n % W) = a * (jj_sm w n + w n)
    have h2 := Nat.div_add_mod (a * w n) W
    rw [Nat.add_mul, Nat.mul_add, ← h]
    rw [Nat.mul_comm W] at h2
    omega
theorem jj_sm_const (c : Nat) : ∀ n : Nat, jj_sm (fun _ => c) n = n * c
  | 0 => by rw [Nat.zero_mul]; rfl
  | n + 1 => by show jj_sm _ n + c = (n + 1) * c; rw [jj_sm_const c n, Nat.succ_mul]
/-- what is left of the division is no more than the places -/
theorem jj_left {a W n : Nat} {w : Nat → Nat} (hW : 0 < W) (hs : jj_sm w n = W) : jj_sm (fun j => a * w j / W) n ≤ a ∧ a - jj_sm (fun j => a * w j / W) n ≤ n := by
  have h := jj_shares (a := a) (w := w) hW n
  rw [hs] at h
  have h1 : jj_sm (fun j => a * w j / W) n ≤ a := Nat.le_of_mul_le_mul_right (by omega) hW
  refine ⟨h1, ?_⟩
  have h2 : jj_sm (fun j => a * w j % W) n ≤ n * W := by
    rw [← jj_sm_const W n]
    exact jj_sm_le (fun j _ => Nat.le_of_lt (Nat.mod_lt _ hW))
  have h3 : (a - jj_sm (fun j => a * w j / W) n) * W ≤ n * W := by
    rw [Nat.sub_mul]
    omega
  exact Nat.le_of_mul_le_mul_right h3 hW
/-- what each gets -/
def jj_g2 (g w : Nat → Nat) (a W : Nat) (j : Nat) : Nat := g j + a * w j / W + jj_b (decide (jj_pl (fun k => a * w k % W) j 10 < a - jj_sm (fun k => a * w k / W) 10))
theorem jj_g2_sum {g w : Nat → Nat} {a W : Nat} (hW : 0 < W) (hs : jj_sm w 10 = W) : jj_sm (jj_g2 g w a W) 10 = jj_sm g 10 + a := by
  obtain ⟨h1, h2⟩ := jj_left (a := a) hW hs
  have h3 := jj_bonus (f := fun k => a * w k % W) h2
  have h4 : jj_sm (jj_g2 g w a W) 10 = jj_sm (fun j => g j + a * w j / W) 10 + jj_sm (fun j => jj_b (decide (jj_pl (fun k => a * w k % W) j 10 < a - jj_sm (fun k => a * w k / W) 10))) 10 := jj_sm_add (fun j => g j + a * w j / W) _ 10
  rw [h4, jj_sm_add g (fun j => a * w j / W) 10, h3]
  omega
theorem jj_parts {a : Nat} {c : Nat → Nat} {n : Nat} (h : jj_sm c n ≤ 100) : jj_sm (fun j => a * c j / 100) n ≤ a := by
  have h1 := jj_shares (a := a) (w := c) (W := 100) (by omega) n
  have h2 : a * jj_sm c n ≤ a * 100 := Nat.mul_le_mul_left a h
  omega

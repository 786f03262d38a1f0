theorem td_sw (w : Int32) : w = nI 0 ∨ w = nI 1 ∨ w = nI 2 ∨ w = nI 3 ∨ w = nI 4 ∨ (w.toInt < 0 ∨ (5 : Nat) - 1 < w.toInt) := by
  rcases j_sw 5 (by decide) w with ⟨k, h, rfl⟩ | h
  · rcases (show k = 0 ∨ k = 1 ∨ k = 2 ∨ k = 3 ∨ k = 4 by omega) with rfl | rfl | rfl | rfl | rfl <;> simp
  · exact Or.inr (Or.inr (Or.inr (Or.inr (Or.inr h))))
theorem nrs_0 {f : Nat → Nat} : ∀ k, mx f k = 0 → nrs f k = 0
  | 0, _ => rfl
  | k + 1, h => by
    rw [mx] at h
    rw [nrs, if_neg (by omega), nrs_0 k (by omega)]
theorem ct_p {la lm lw : Nat} {T : Nat → Nat} {n p : Nat} (hp : p ≤ 511) : ct (mt la lm lw T n p) 511 = ct (mt la lm lw T n p) p := ct_to hp (fun d h1 h2 => mt_far (by omega))
theorem pt_split {v m : Nat} (hv : v < 2 ^ m) : ∀ (c : Nat) (w : Nat → Nat) (b : Nat), pt v (c + m) w b = pt v m (pt 0 c w b) (b + c)
  | 0, w, b => by rw [Nat.zero_add, Nat.add_zero]; rfl
  | c + 1, w, b => by
    have h1 : v / 2 ^ (c + m) = 0 := Nat.div_eq_of_lt (Nat.lt_of_lt_of_le hv (Nat.pow_le_pow_right (by decide) (by omega)))
    rw [show c + 1 + m = (c + m) + 1 by omega, pt, h1, pt_split hv c, pt, Nat.zero_div, show b + 1 + c = b + (c + 1) by omega]
theorem lg_lt (v : Nat) : v < 2 ^ (v.log2 + 1) := by
  rcases Nat.eq_zero_or_pos v with z | z
  · subst z; decide
  · exact (lg_self z).2
/-- the answer of written, by the bits -/
def wrA (w : Nat → Nat) (wz : Nat) (i r : Int32) : Prop := (∃ j, j < wz ∧ i = nI j ∧ r = nI (bv w j 8)) ∨ ((∀ j, j < wz → i ≠ nI j) ∧ r = (-1))
/-- bits filled up with 0 to whole bytes -/
def pad8 (w : Nat → Nat) (b : Nat) : Nat → Nat := pt 0 ((8 - b % 8) % 8) w b
theorem pad_step {w : Nat → Nat} {b : Nat} (h : 0 < b % 8) : pad8 (up w b (0 / 2 ^ 0 % 2)) (b + 1) = pad8 w b := by
  rw [pad8, pad8, show (8 - b % 8) % 8 = ((8 - (b + 1) % 8) % 8) + 1 by omega, pt, Nat.zero_div, Nat.zero_div]
theorem pad_done {w : Nat → Nat} {b : Nat} (h : b % 8 = 0) : pad8 w b = w := by
  rw [pad8, show (8 - b % 8) % 8 = 0 by omega]; rfl
theorem pt_le1 {v : Nat} : ∀ (k : Nat) (w : Nat → Nat) (b : Nat), (∀ j, w j ≤ 1) → ∀ j, pt v k w b j ≤ 1
  | 0, w, b, h, j => h j
  | k + 1, w, b, h, j => pt_le1 k _ _ (fun i => by
      by_cases e : i = b
      · subst e; rw [up_s]; omega
      · rw [up_n e]; exact h i) j

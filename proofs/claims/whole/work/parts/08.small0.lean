/-! classes of numbers -/
theorem cl_ge {n i : Nat} (h : 0 < n / 2 ^ i) : 2 ^ (i + 1 - 1) ≤ n := by
  rw [Nat.add_sub_cancel]
  exact Nat.le_of_not_lt (fun q => by rw [Nat.div_eq_of_lt q] at h; omega)
theorem cl_lt {n i : Nat} (h : n / 2 ^ i = 0) : n < 2 ^ i := by
  rcases Nat.div_eq_zero_iff.mp h with q | q
  · have := Nat.two_pow_pos i; omega
  · exact q
theorem cl_eq {n i h : Nat} (h1 : 1 ≤ i) (h2 : h + 1 = i) (h3 : i = 1 ∨ 2 ^ (i - 1) ≤ n) (h4 : n < 2 ^ i) : h = n.log2 := by
  subst h2
  rcases Nat.eq_zero_or_pos n with z | z
  · subst z
    rcases h3 with q | q
    · rw [Nat.log2_zero]; omega
    · have := Nat.two_pow_pos (h + 1 - 1); omega
  · refine ((Nat.log2_eq_iff (by omega)).mpr ⟨?_, h4⟩).symm
    rcases h3 with q | q
    · rw [show h = 0 by omega, Nat.pow_zero]; exact z
    · exact q
/-! limits -/
def lim_rel (la lm lw : Nat) (a m w r : Int32) (la2 lm2 lw2 : Nat) : Prop :=
  (2 ≤ la2 ∧ la2 ≤ 16 ∧ la2 ≤ lm2 ∧ lm2 ≤ 255 ∧ 1 ≤ lw2 ∧ lw2 ≤ 500 ∧ a = nI la2 ∧ m = nI lm2 ∧ w = nI lw2 ∧ r = nI 1) ∨
  ((∀ x y z, 2 ≤ x → x ≤ 16 → x ≤ y → y ≤ 255 → 1 ≤ z → z ≤ 500 → ¬ (a = nI x ∧ m = nI y ∧ w = nI z)) ∧ r = nI 0 ∧ la2 = la ∧ lm2 = lm ∧ lw2 = lw)
theorem nI_ltZ {x b : Nat} (hx : x < 2147483648) (hb : b < 2147483648) (h : nI x < nI b) : x < b := (nI_ltI (by omega) (by omega)).mp h
theorem nI_inj {x y : Nat} (hx : x < 2147483648) (hy : y < 2147483648) (h : nI x = nI y) : x = y := (nI_eq (by omega) (by omega)).mp h
theorem lm_no1 {a m w : Int32} (h : a < nI 2) : ∀ x y z, 2 ≤ x → x ≤ 16 → x ≤ y → y ≤ 255 → 1 ≤ z → z ≤ 500 → ¬ (a = nI x ∧ m = nI y ∧ w = nI z) := by
  rintro x y z h1 h2 h3 h4 h5 h6 ⟨rfl, rfl, rfl⟩
  have := nI_ltZ (by omega) (by omega) h; omega
theorem lm_no2 {j : Nat} {m w : Int32} (h : 16 < j ∧ j < 2147483648) : ∀ x y z, 2 ≤ x → x ≤ 16 → x ≤ y → y ≤ 255 → 1 ≤ z → z ≤ 500 → ¬ (nI j = nI x ∧ m = nI y ∧ w = nI z) := by
  rintro x y z h1 h2 h3 h4 h5 h6 ⟨e, rfl, rfl⟩
  have := nI_inj (by omega) (by omega) e; omega
theorem lm_no3 {j : Nat} {m w : Int32} (h : m < nI j) (hj : 2 ≤ j ∧ j ≤ 16) : ∀ x y z, 2 ≤ x → x ≤ 16 → x ≤ y → y ≤ 255 → 1 ≤ z → z ≤ 500 → ¬ (nI j = nI x ∧ m = nI y ∧ w = nI z) := by
  rintro x y z h1 h2 h3 h4 h5 h6 ⟨e, rfl, rfl⟩
  have := nI_inj (by omega) (by omega) e
  have := nI_ltZ (by omega) (by omega) h; omega
theorem lm_no4 {i j : Nat} {w : Int32} (h : 255 < j ∧ j < 2147483648) : ∀ x y z, 2 ≤ x → x ≤ 16 → x ≤ y → y ≤ 255 → 1 ≤ z → z ≤ 500 → ¬ (nI i = nI x ∧ nI j = nI y ∧ w = nI z) := by
  rintro x y z h1 h2 h3 h4 h5 h6 ⟨-, e, rfl⟩
  have := nI_inj (by omega) (by omega) e; omega
theorem lm_no5 {i j : Nat} {w : Int32} (h : w < nI 1) : ∀ x y z, 2 ≤ x → x ≤ 16 → x ≤ y → y ≤ 255 → 1 ≤ z → z ≤ 500 → ¬ (nI i = nI x ∧ nI j = nI y ∧ w = nI z) := by
  rintro x y z h1 h2 h3 h4 h5 h6 ⟨-, -, rfl⟩
  have := nI_ltZ (by omega) (by omega) h; omega
theorem lm_no6 {i j k : Nat} (h : 500 < k ∧ k < 2147483648) : ∀ x y z, 2 ≤ x → x ≤ 16 → x ≤ y → y ≤ 255 → 1 ≤ z → z ≤ 500 → ¬ (nI i = nI x ∧ nI j = nI y ∧ nI k = nI z) := by
  rintro x y z h1 h2 h3 h4 h5 h6 ⟨-, -, e⟩
  have := nI_inj (by omega) (by omega) e; omega
/-! bits in bytes -/
/-- the number of the first e bits of byte k -/
def bv (w : Nat → Nat) (k : Nat) : Nat → Nat
  | 0 => 0
  | e + 1 => 2 * bv w k e + w (8 * k + e)
theorem bv_congr {w w2 : Nat → Nat} {k : Nat} : ∀ e, (∀ j, j < e → w (8 * k + j) = w2 (8 * k + j)) → bv w k e = bv w2 k e
  | 0, _ => rfl
  | e + 1, h => by rw [bv, bv, bv_congr e (fun j hj => h j (by omega)), h e (by omega)]
/-- the row f holds the b bits w -/
def bwOK (f : Nat → Nat) (b : Nat) (w : Nat → Nat) : Prop := (∀ j, j < b → w j ≤ 1) ∧ ∀ k, k < (b + 7) / 8 → f k = bv w k (min 8 (b - 8 * k)) * 2 ^ (8 - min 8 (b - 8 * k))
/-- k bits of v more -/
def pt (v : Nat) : Nat → (Nat → Nat) → Nat → (Nat → Nat)
  | 0, w, _ => w
  | k + 1, w, b => pt v k (up w b (v / 2 ^ k % 2)) (b + 1)
theorem bv_lt {w : Nat → Nat} {k : Nat} : ∀ e, (∀ j, j < e → w (8 * k + j) ≤ 1) → bv w k e < 2 ^ e
  | 0, _ => by simp [bv]
  | e + 1, h => by
    have h1 := bv_lt e (fun j hj => h j (by omega))
    have h2 := h e (by omega)
    rw [bv, Nat.pow_succ]; omega
theorem bw_sh {v i : Nat} (hv : v ≤ 1) : v * 2 ^ (7 - i % 8) < 4294967296 := by
  have h1 : 2 ^ (7 - i % 8) ≤ 2 ^ 7 := Nat.pow_le_pow_right (by decide) (by omega)
  have h2 : v * 2 ^ (7 - i % 8) ≤ 1 * 2 ^ (7 - i % 8) := Nat.mul_le_mul_right _ hv
  omega
theorem lor_add {x v s : Nat} (hv : v < 2 ^ s) : (x * 2 ^ s) ||| v = x * 2 ^ s + v := by
  have := Nat.two_pow_add_eq_or_of_lt hv x
  rw [Nat.mul_comm x, ← this]
theorem bw_putc {f g w : Nat → Nat} {b v : Nat} (hb0 : b < 4520) (hv : v ≤ 1) (hw : bwOK f b w) (h1 : g (b / 8) = bv w (b / 8) (b % 8) * 2 ^ (8 - b % 8) ||| v * 2 ^ (7 - b % 8)) (h2 : ∀ k, k ≠ b / 8 → g k = f k) : bwOK g (b + 1) (up w b v) := by
  refine ⟨fun j hj => ?_, fun k hk => ?_⟩
  · by_cases e : j = b
    · subst e; rw [up_s]; exact hv
    · rw [up_n e]; exact hw.1 j (by omega)
  · by_cases e : k = b / 8
    · subst e
      have hm : min 8 (b + 1 - 8 * (b / 8)) = b % 8 + 1 := by omega
      rw [hm, bv, h1]
      have e1 : 8 * (b / 8) + b % 8 = b := by omega
      rw [e1, up_s, bv_congr (w2 := w) (b % 8) (fun j hj => up_n (by omega))]
      have e2 : 8 - b % 8 = (7 - b % 8) + 1 := by omega
      have e3 : 8 - (b % 8 + 1) = 7 - b % 8 := by omega
      have h3 : v * 2 ^ (7 - b % 8) < 2 ^ (8 - b % 8) := by
        rw [e2, Nat.pow_succ]
        have : 0 < 2 ^ (7 - b % 8) := Nat.two_pow_pos _
        have : v * 2 ^ (7 - b % 8) ≤ 1 * 2 ^ (7 - b % 8) := Nat.mul_le_mul_right _ hv
        omega
      rw [lor_add h3, e3, e2, Nat.pow_succ, Nat.add_mul, Nat.mul_comm 2, Nat.mul_assoc, Nat.mul_comm 2 (2 ^ (7 - b % 8))]
    · have hk2 : k < b / 8 := by omega
      rw [h2 k e, hw.2 k (by omega)]
      have hm : min 8 (b + 1 - 8 * k) = 8 := by omega
      have hm2 : min 8 (b - 8 * k) = 8 := by omega
      rw [hm, hm2, bv_congr (w2 := w) 8 (fun j hj => up_n (by omega))]
theorem bw_put1 {f w : Nat → Nat} {b v : Nat} (hb0 : b < 4520) (hv : v ≤ 1) (hw : bwOK f b w) (c : b % 8 ≠ 0) : bwOK (up f (b / 8) (f (b / 8) ||| v * 2 ^ (7 - b % 8))) (b + 1) (up w b v) := by
  refine bw_putc hb0 hv hw ?_ (fun k hk => up_n hk)
  rw [up_s, hw.2 (b / 8) (by omega), show min 8 (b - 8 * (b / 8)) = b % 8 by omega]
theorem bw_put2 {f w : Nat → Nat} {b v : Nat} (hb0 : b < 4520) (hv : v ≤ 1) (hw : bwOK f b w) (c : b % 8 = 0) : bwOK (up (up f (b / 8) 0) (b / 8) (up f (b / 8) 0 (b / 8) ||| v * 2 ^ (7 - b % 8))) (b + 1) (up w b v) := by
  refine bw_putc hb0 hv hw ?_ (fun k hk => by rw [up_n hk, up_n hk])
  rw [up_s, up_s, c]
  simp [bv]
theorem bw_0 (f w : Nat → Nat) : bwOK f 0 w := ⟨fun j hj => by omega, fun k hk => by omega⟩

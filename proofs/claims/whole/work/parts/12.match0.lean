/-! matches of a text T of n bytes, by the limits la, lm, lw -/
/-- how many of k bytes from p on are the same as those d places before -/
def lc (T : Nat → Nat) (d : Nat) : Nat → Nat → Nat
  | _, 0 => 0
  | p, k + 1 => if T p = T (p - d) then lc T d (p + 1) k + 1 else 0
theorem lc_le (T : Nat → Nat) (d : Nat) : ∀ k p, lc T d p k ≤ k
  | 0, _ => Nat.le_refl _
  | k + 1, p => by
    rw [lc]; split
    · have := lc_le T d k (p + 1); omega
    · omega
theorem lc_eq {T : Nat → Nat} {d p n : Nat} (hp : p < n) (h : T (p - d) = T p) : lc T d p (n - p) = lc T d (p + 1) (n - (p + 1)) + 1 := by
  rw [show n - p = (n - (p + 1)) + 1 by omega, lc, if_pos h.symm]
theorem lc_ne {T : Nat → Nat} {d p n : Nat} (hp : p < n) (h : T (p - d) ≠ T p) : lc T d p (n - p) = 0 := by
  rw [show n - p = (n - (p + 1)) + 1 by omega, lc, if_neg (fun q => h q.symm)]
/-- the longest match at p of distance d, or 0 -/
def mt (la lm lw : Nat) (T : Nat → Nat) (n p d : Nat) : Nat := if 1 ≤ d ∧ d ≤ lw ∧ d ≤ p then (if min (lc T d p (n - p)) lm < la then 0 else min (lc T d p (n - p)) lm) else 0
theorem mt_le {la lm lw : Nat} {T : Nat → Nat} {n p d : Nat} : mt la lm lw T n p d ≤ lm := by
  rw [mt]; split
  · split
    · omega
    · exact Nat.min_le_right _ _
  · omega
theorem mt_far {la lm lw : Nat} {T : Nat → Nat} {n p d : Nat} (h : p < d ∨ lw < d) : mt la lm lw T n p d = 0 := by
  rw [mt, if_neg (by omega)]
theorem mt_short {la lm lw : Nat} {T : Nat → Nat} {n p d : Nat} (h : lc T d p (n - p) < la) : mt la lm lw T n p d = 0 := by
  rw [mt]; split
  · rw [if_pos (by omega)]
  · rfl
theorem mt_in {la lm lw : Nat} {T : Nat → Nat} {n p d : Nat} (h1 : 1 ≤ d ∧ d ≤ lw ∧ d ≤ p) (h : la ≤ lc T d p (n - p)) (hl : la ≤ lm) : mt la lm lw T n p d = min (lc T d p (n - p)) lm := by
  rw [mt, if_pos h1, if_neg (by omega)]
/-- the greatest of f 1 .. f k, the first place of it (0 when all are 0), how many are not 0 -/
def mx (f : Nat → Nat) : Nat → Nat
  | 0 => 0
  | k + 1 => max (mx f k) (f (k + 1))
def nrs (f : Nat → Nat) : Nat → Nat
  | 0 => 0
  | k + 1 => if mx f k < f (k + 1) then k + 1 else nrs f k
def ct (f : Nat → Nat) : Nat → Nat
  | 0 => 0
  | k + 1 => ct f k + (if f (k + 1) = 0 then 0 else 1)
/-- the greatest of f lo .. f (lo + k - 1) -/
def rx (f : Nat → Nat) (lo : Nat) : Nat → Nat
  | 0 => 0
  | k + 1 => max (rx f lo k) (f (lo + k))
theorem mx_le {f : Nat → Nat} {B : Nat} (h : ∀ d, f d ≤ B) : ∀ k, mx f k ≤ B
  | 0 => Nat.zero_le _
  | k + 1 => by have := mx_le h k; have := h (k + 1); rw [mx]; omega
theorem rx_le {f : Nat → Nat} {B lo : Nat} (h : ∀ d, f d ≤ B) : ∀ k, rx f lo k ≤ B
  | 0 => Nat.zero_le _
  | k + 1 => by have := rx_le (lo := lo) h k; have := h (lo + k); rw [rx]; omega
theorem ct_le {f : Nat → Nat} : ∀ k, ct f k ≤ k
  | 0 => Nat.le_refl _
  | k + 1 => by have := ct_le (f := f) k; rw [ct]; split <;> omega
theorem nrs_le {f : Nat → Nat} : ∀ k, nrs f k ≤ k
  | 0 => Nat.le_refl _
  | k + 1 => by have := nrs_le (f := f) k; rw [nrs]; split <;> omega
theorem mx_skip {f : Nat → Nat} {a : Nat} : ∀ k, (∀ d, a < d → d ≤ a + k → f d = 0) → mx f (a + k) = mx f a
  | 0, _ => rfl
  | k + 1, h => by rw [← Nat.add_assoc, mx, h _ (by omega) (by omega), mx_skip k (fun d h1 h2 => h d h1 (by omega))]; omega
theorem nrs_skip {f : Nat → Nat} {a : Nat} : ∀ k, (∀ d, a < d → d ≤ a + k → f d = 0) → nrs f (a + k) = nrs f a
  | 0, _ => rfl
  | k + 1, h => by rw [← Nat.add_assoc, nrs, h _ (by omega) (by omega), if_neg (by omega), nrs_skip k (fun d h1 h2 => h d h1 (by omega))]
theorem ct_skip {f : Nat → Nat} {a : Nat} : ∀ k, (∀ d, a < d → d ≤ a + k → f d = 0) → ct f (a + k) = ct f a
  | 0, _ => rfl
  | k + 1, h => by rw [← Nat.add_assoc, ct, h _ (by omega) (by omega), if_pos rfl, ct_skip k (fun d h1 h2 => h d h1 (by omega))]; omega
theorem rx_skip {f : Nat → Nat} {lo a : Nat} : ∀ k, (∀ d, lo + a ≤ d → d < lo + a + k → f d = 0) → rx f lo (a + k) = rx f lo a
  | 0, _ => rfl
  | k + 1, h => by rw [← Nat.add_assoc, rx, h _ (by omega) (by omega), rx_skip k (fun d h1 h2 => h d h1 (by omega))]; omega
theorem mx_to {f : Nat → Nat} {a b : Nat} (hab : a ≤ b) (h : ∀ d, a < d → d ≤ b → f d = 0) : mx f b = mx f a := by
  have := mx_skip (f := f) (a := a) (b - a) (fun d h1 h2 => h d h1 (by omega)); rwa [show a + (b - a) = b by omega] at this
theorem nrs_to {f : Nat → Nat} {a b : Nat} (hab : a ≤ b) (h : ∀ d, a < d → d ≤ b → f d = 0) : nrs f b = nrs f a := by
  have := nrs_skip (f := f) (a := a) (b - a) (fun d h1 h2 => h d h1 (by omega)); rwa [show a + (b - a) = b by omega] at this
theorem ct_to {f : Nat → Nat} {a b : Nat} (hab : a ≤ b) (h : ∀ d, a < d → d ≤ b → f d = 0) : ct f b = ct f a := by
  have := ct_skip (f := f) (a := a) (b - a) (fun d h1 h2 => h d h1 (by omega)); rwa [show a + (b - a) = b by omega] at this
theorem rx_to {f : Nat → Nat} {lo a b : Nat} (hab : a ≤ b) (h : ∀ d, lo + a ≤ d → d < lo + b → f d = 0) : rx f lo b = rx f lo a := by
  have := rx_skip (f := f) (lo := lo) (a := a) (b - a) (fun d h1 h2 => h d h1 (by omega)); rwa [show a + (b - a) = b by omega] at this
theorem mx_at {f : Nat → Nat} {D : Nat} (h : 1 ≤ D) : mx f (D + 1 - 1) = max (mx f (D - 1)) (f D) := by
  obtain ⟨k, rfl⟩ : ∃ k, D = k + 1 := ⟨D - 1, by omega⟩
  rw [show k + 1 + 1 - 1 = k + 1 by omega, show k + 1 - 1 = k by omega, mx]
theorem nrs_at {f : Nat → Nat} {D : Nat} (h : 1 ≤ D) : nrs f (D + 1 - 1) = if mx f (D - 1) < f D then D else nrs f (D - 1) := by
  obtain ⟨k, rfl⟩ : ∃ k, D = k + 1 := ⟨D - 1, by omega⟩
  rw [show k + 1 + 1 - 1 = k + 1 by omega, show k + 1 - 1 = k by omega, nrs]
theorem ct_at {f : Nat → Nat} {D : Nat} (h : 1 ≤ D) : ct f (D + 1 - 1) = ct f (D - 1) + (if f D = 0 then 0 else 1) := by
  obtain ⟨k, rfl⟩ : ∃ k, D = k + 1 := ⟨D - 1, by omega⟩
  rw [show k + 1 + 1 - 1 = k + 1 by omega, show k + 1 - 1 = k by omega, ct]
theorem rx_at {f : Nat → Nat} {lo D : Nat} (h : lo ≤ D) : rx f lo (D + 1 - lo) = max (rx f lo (D - lo)) (f D) := by
  rw [show D + 1 - lo = (D - lo) + 1 by omega, rx, show lo + (D - lo) = D by omega]
/-- what the tables say of a place -/
def mOK (la lm lw : Nat) (T : Nat → Nat) (n : Nat) (g1 g2 g3 g4 : Nat → Nat) (p : Nat) : Prop :=
  g1 p = mx (mt la lm lw T n p) 511 ∧ g2 p = nrs (mt la lm lw T n p) 511 ∧ g3 p = ct (mt la lm lw T n p) 511 ∧ ∀ c, c < 9 → g4 (p * 9 + c) = rx (mt la lm lw T n p) (2 ^ c) (2 ^ c)
theorem tp_lt {c : Nat} (h : c < 9) : 2 ^ c ≤ 256 := by
  have := Nat.pow_le_pow_right (n := 2) (by decide) (show c ≤ 8 by omega); omega
theorem nc_same {T e g5 : Nat → Nat} {lo D p n y : Nat} (k : ∀ d, (lo ≤ d ∧ d < D → e d = lc T d p (n - p)) ∧ (¬ (lo ≤ d ∧ d < D) → e d = g5 d)) (hy : y = lc T D p (n - p)) (hD : lo ≤ D) :
    ∀ d, (lo ≤ d ∧ d < D + 1 → up e D y d = lc T d p (n - p)) ∧ (¬ (lo ≤ d ∧ d < D + 1) → up e D y d = g5 d) := by
  intro d
  by_cases e1 : d = D
  · subst e1; rw [up_s]; exact ⟨fun _ => hy, fun h => by omega⟩
  · rw [up_n e1]; exact ⟨fun h => (k d).1 (by omega), fun h => (k d).2 (by omega)⟩
theorem lc_iff (T : Nat → Nat) (d : Nat) : ∀ K p k, k ≤ K → (k ≤ lc T d p K ↔ ∀ j, j < k → T (p + j) = T (p + j - d))
  | 0, p, k, h => ⟨fun _ j hj => by omega, fun _ => by omega⟩
  | K + 1, p, 0, h => ⟨fun _ j hj => by omega, fun _ => Nat.zero_le _⟩
  | K + 1, p, k + 1, h => by
    have ih := lc_iff T d K (p + 1) k (by omega)
    rw [lc]
    split
    · rename_i e
      constructor
      · intro q j hj
        rcases Nat.eq_zero_or_pos j with z | z
        · subst z; exact e
        · have := ih.mp (by omega) (j - 1) (by omega)
          rwa [show p + 1 + (j - 1) = p + j by omega] at this
      · intro q
        have := ih.mpr (fun j hj => by have := q (j + 1) (by omega); rwa [show p + (j + 1) = p + 1 + j by omega] at this)
        omega
    · rename_i e
      exact ⟨fun q => by omega, fun q => absurd (q 0 (by omega)) e⟩
theorem lc_large {T : Nat → Nat} {d p n k : Nat} (h : p + k ≤ n) (q : ∀ j, j < k → T (p + j) = T (p + j - d)) : k ≤ lc T d p (n - p) := (lc_iff T d (n - p) p k (by omega)).mpr q
theorem lc_small {T : Nat → Nat} {d p n k : Nat} (h : p + k ≤ n) (q : ¬ ∀ j, j < k → T (p + j) = T (p + j - d)) : lc T d p (n - p) < k := Nat.lt_of_not_le (fun z => q ((lc_iff T d (n - p) p k (by omega)).mp z))
theorem bd_next {la lm lw n j : Nat} {T e1 e2 e3 e4 : Nat → Nat} (hm : ∀ p, j + 1 ≤ p → p < n → mOK la lm lw T n e1 e2 e3 e4 p) (k1 : e1 j = mx (mt la lm lw T n j) (2 ^ 9 - 1)) (k2 : e2 j = nrs (mt la lm lw T n j) (2 ^ 9 - 1)) (k3 : e3 j = ct (mt la lm lw T n j) (2 ^ 9 - 1)) (k4 : ∀ c2, c2 < 9 → e4 (j * 9 + c2) = rx (mt la lm lw T n j) (2 ^ c2) (2 ^ c2)) (hj : j < n) : ∀ p, j ≤ p → p < n → mOK la lm lw T n e1 e2 e3 e4 p := by
  intro p h1 h2
  by_cases e : p = j
  · subst e; exact ⟨k1, k2, k3, k4⟩
  · exact hm p (by omega) h2
theorem bd_off {la lm lw n j p : Nat} {T e1 e2 e3 e4 : Nat → Nat} {x y z : Nat} (h : mOK la lm lw T n e1 e2 e3 e4 p) (hp : p ≠ j) : mOK la lm lw T n (up e1 j x) (up e2 j y) (up e3 j z) e4 p := by
  obtain ⟨h1, h2, h3, h4⟩ := h
  exact ⟨by rw [up_n hp, h1], by rw [up_n hp, h2], by rw [up_n hp, h3], h4⟩
theorem bd_keep {la lm lw n j p c x : Nat} {T y1 y2 y3 y4 e1 e2 e3 e4 : Nat → Nat} (h : mOK la lm lw T n y1 y2 y3 y4 p) (ho : ∀ i, i ≠ j → e1 i = y1 i ∧ e2 i = y2 i ∧ e3 i = y3 i) (h4 : e4 = up y4 (j * 9 + c) x) (hp : p ≠ j) (hc : c < 9) : mOK la lm lw T n e1 e2 e3 e4 p := by
  obtain ⟨k1, k2, k3, k4⟩ := h
  obtain ⟨o1, o2, o3⟩ := ho p hp
  exact ⟨o1.trans k1, o2.trans k2, o3.trans k3, fun c2 hc2 => by rw [h4, up_n (by omega)]; exact k4 c2 hc2⟩
theorem bd_k4 {la lm lw n j c : Nat} {T y4 e4 : Nat → Nat} (k4 : ∀ c2, c2 < c → y4 (j * 9 + c2) = rx (mt la lm lw T n j) (2 ^ c2) (2 ^ c2)) (h4 : e4 = up y4 (j * 9 + c) (rx (mt la lm lw T n j) (2 ^ c) (2 ^ c))) : ∀ c2, c2 < c + 1 → e4 (j * 9 + c2) = rx (mt la lm lw T n j) (2 ^ c2) (2 ^ c2) := by
  intro c2 h
  by_cases e : c2 = c
  · subst e; rw [h4, up_s]
  · rw [h4, up_n (by omega)]; exact k4 c2 (by omega)
theorem bd_k5 {lw n j c : Nat} {T y5 e5 : Nat → Nat} (k5 : ∀ d, 1 ≤ d → d ≤ j → d ≤ lw → (d < 2 ^ c → y5 d = lc T d j (n - j)) ∧ (2 ^ c ≤ d → y5 d = lc T d (j + 1) (n - (j + 1)))) (h : ∀ d, d ≤ j → d ≤ lw → (2 ^ c ≤ d ∧ d < 2 ^ (c + 1) → e5 d = lc T d j (n - j)) ∧ (¬ (2 ^ c ≤ d ∧ d < 2 ^ (c + 1)) → e5 d = y5 d)) :
    ∀ d, 1 ≤ d → d ≤ j → d ≤ lw → (d < 2 ^ (c + 1) → e5 d = lc T d j (n - j)) ∧ (2 ^ (c + 1) ≤ d → e5 d = lc T d (j + 1) (n - (j + 1))) := by
  intro d h1 h2 h3
  have hp : 2 ^ c ≤ 2 ^ (c + 1) := Nat.pow_le_pow_right (by decide) (by omega)
  refine ⟨fun q => ?_, fun q => ?_⟩
  · rcases Nat.lt_or_ge d (2 ^ c) with z | z
    · rw [(h d h2 h3).2 (by omega)]; exact (k5 d h1 h2 h3).1 z
    · exact (h d h2 h3).1 ⟨z, q⟩
  · rw [(h d h2 h3).2 (by omega)]; exact (k5 d h1 h2 h3).2 (by omega)

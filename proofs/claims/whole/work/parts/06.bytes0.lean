/-! the texts as functions -/
def gt (f : Nat → Nat) (n : Nat) (k : Int32) : Int32 := if 0 ≤ k ∧ k < nI n then nI (f k.toNatClampNeg) else (-1)
theorem gt_in {f : Nat → Nat} {n j : Nat} (h : j < n) (hn : n < 2147483648) : gt f n (nI j) = nI (f j) := by
  rw [gt, if_pos ⟨nI_ge0 (by omega), (nI_ltI (by omega) (by omega)).mpr h⟩, nI_clamp (by omega)]
theorem gt_ge {f : Nat → Nat} {n j : Nat} (h : n ≤ j) (hn : j < 2147483648) : gt f n (nI j) = (-1) := by
  rw [gt, if_neg (fun q => by have := (nI_ltI (by omega) (by omega)).mp q.2; omega)]
theorem gt_neg {f : Nat → Nat} {n : Nat} {k : Int32} (h : k < 0) : gt f n k = (-1) := by
  rw [gt, if_neg (fun q => absurd h (Int32.not_lt.mpr q.1))]
/-- byte k of a long -/
def lb (x : Int64) (k : Nat) : Nat := x.toBitVec.toNat / 2 ^ (8 * k) % 256
/-- the k lowest bytes of x more, the highest of them first -/
def low (x : Int64) : Nat → (Nat → Nat) → Nat → (Nat → Nat)
  | 0, f, _ => f
  | k + 1, f, n => low x k (up f n (lb x k)) (n + 1)
/-- k times b more -/
def rep (b : Nat) : Nat → (Nat → Nat) → Nat → (Nat → Nat)
  | 0, f, _ => f
  | k + 1, f, n => rep b k (up f n b) (n + 1)
/-- k bytes more, each as the one d places before -/
def agn (d : Nat) : Nat → (Nat → Nat) → Nat → (Nat → Nat)
  | 0, f, _ => f
  | k + 1, f, n => agn d k (up f n (f (n - d))) (n + 1)
theorem up_lt {f : Nat → Nat} {n x B : Nat} (h : ∀ j, j < n → f j < B) (hx : x < B) : ∀ j, j < n + 1 → up f n x j < B := by
  intro j hj
  by_cases e : j = n
  · subst e; rw [up_s]; exact hx
  · rw [up_n e]; exact h j (by omega)
theorem lb_lt (x : Int64) (k : Nat) : lb x k < 256 := Nat.mod_lt _ (by decide)
theorem low_lt (x : Int64) : ∀ (k : Nat) (f : Nat → Nat) (n : Nat), (∀ j, j < n → f j < 256) → ∀ j, j < n + k → low x k f n j < 256
  | 0, f, n, h, j, hj => h j (by omega)
  | k + 1, f, n, h, j, hj => low_lt x k _ (n + 1) (up_lt h (lb_lt x k)) j (by omega)
theorem rep_lt {b : Nat} (hb : b < 256) : ∀ (k : Nat) (f : Nat → Nat) (n : Nat), (∀ j, j < n → f j < 256) → ∀ j, j < n + k → rep b k f n j < 256
  | 0, f, n, h, j, hj => h j (by omega)
  | k + 1, f, n, h, j, hj => rep_lt hb k _ (n + 1) (up_lt h hb) j (by omega)
theorem agn_lt {d : Nat} : ∀ (k : Nat) (f : Nat → Nat) (n : Nat), 1 ≤ d → d ≤ n → (∀ j, j < n → f j < 256) → ∀ j, j < n + k → agn d k f n j < 256
  | 0, f, n, h1, h2, h, j, hj => h j (by omega)
  | k + 1, f, n, h1, h2, h, j, hj => agn_lt k _ (n + 1) h1 (by omega) (up_lt h (h _ (by omega))) j (by omega)
/-- the lowest byte of a long moved to the right -/
theorem by8_i64 (y : Int64) : by8 y.toInt32 = y.toBitVec.toNat % 256 := by
  show (y.toBitVec.signExtend 32).toNat % 256 = _
  rw [BitVec.signExtend_eq_setWidth_of_le _ (by decide), BitVec.toNat_setWidth]
  exact Nat.mod_mod_of_dvd _ (by decide)
theorem sh63 : ∀ k, k < 64 → ((nI k).toInt64.toUInt64 &&& Int64.toUInt64 63) = UInt64.ofNat k := by decide +kernel
theorem sh63n : ∀ k, k < 64 → (UInt64.ofNat k).toNat % 64 = k := by decide +kernel
theorem sh63s : ∀ k, k < 64 → (((nI k).toInt64 &&& 63).toBitVec.smod 64).toNat = k := by decide +kernel
theorem by8_ushr {x : Int64} {k : Nat} (hk : k < 8) : by8 (x.toUInt64 >>> ((nI (8 * k)).toInt64.toUInt64 &&& Int64.toUInt64 63)).toInt64.toInt32 = lb x k := by
  rw [by8_i64, sh63 _ (by omega)]
  show (x.toUInt64 >>> UInt64.ofNat (8 * k)).toNat % 256 = x.toUInt64.toNat / 2 ^ (8 * k) % 256
  rw [UInt64.toNat_shiftRight, sh63n _ (by omega), Nat.shiftRight_eq_div_pow]
theorem lb_int (x : Int64) {k : Nat} (hk : k < 8) : ((lb x k : Nat) : Int) = x.toInt / 2 ^ (8 * k) % 256 := by
  have h1 : x.toInt = if 2 * x.toBitVec.toNat < 2 ^ 64 then (x.toBitVec.toNat : Int) else (x.toBitVec.toNat : Int) - (2 ^ 64 : Nat) := BitVec.toInt_eq_toNat_cond _
  rw [lb, h1]
  generalize x.toBitVec.toNat = n
  have h8 : k = 0 ∨ k = 1 ∨ k = 2 ∨ k = 3 ∨ k = 4 ∨ k = 5 ∨ k = 6 ∨ k = 7 := by omega
  rcases h8 with rfl | rfl | rfl | rfl | rfl | rfl | rfl | rfl <;> simp only [Nat.reduceMul, Nat.reducePow, Int.reducePow] <;> split <;> omega
theorem and255L (y : Int64) : (y &&& 255).toInt32 = nI (y.toBitVec.toNat % 256) := by
  apply Int32.toBitVec_inj.mp
  apply BitVec.eq_of_toNat_eq
  show ((y.toBitVec &&& 255#64).signExtend 32).toNat = (BitVec.ofNat 32 _).toNat
  rw [BitVec.signExtend_eq_setWidth_of_le _ (by decide), BitVec.toNat_setWidth, BitVec.toNat_and, BitVec.toNat_ofNat]
  have : (255 % 2 ^ 64 : Nat) = 2 ^ 8 - 1 := rfl
  rw [this, Nat.and_two_pow_sub_one_eq_mod, BitVec.toNat_ofNat]
theorem lb_sshr {x : Int64} {k : Nat} (hk : k < 8) : ((x >>> ((nI (8 * k)).toInt64 &&& 63)) &&& 255).toInt32 = nI (lb x k) := by
  rw [and255L]
  congr 1
  have h2 : (x >>> ((nI (8 * k)).toInt64 &&& 63)).toInt = x.toInt >>> (8 * k) := by
    have e : (x >>> ((nI (8 * k)).toInt64 &&& 63)).toBitVec = x.toBitVec.sshiftRight (((nI (8 * k)).toInt64 &&& 63).toBitVec.smod 64).toNat := rfl
    show (x >>> ((nI (8 * k)).toInt64 &&& 63)).toBitVec.toInt = _
    rw [e, sh63s _ (by omega), BitVec.toInt_sshiftRight]
    rfl
  have h3 : (x >>> ((nI (8 * k)).toInt64 &&& 63)).toInt = if 2 * (x >>> ((nI (8 * k)).toInt64 &&& 63)).toBitVec.toNat < 2 ^ 64 then ((x >>> ((nI (8 * k)).toInt64 &&& 63)).toBitVec.toNat : Int) else ((x >>> ((nI (8 * k)).toInt64 &&& 63)).toBitVec.toNat : Int) - (2 ^ 64 : Nat) := BitVec.toInt_eq_toNat_cond _
  have h4 := lb_int x hk
  rw [Int.shiftRight_eq_div_pow] at h2
  rw [h2] at h3
  generalize (x >>> ((nI (8 * k)).toInt64 &&& 63)).toBitVec.toNat = q at h3
  have h5 : ((2 ^ (8 * k) : Nat) : Int) = (2 : Int) ^ (8 * k) := by simp
  rw [h5] at h3
  rw [h3] at h4
  split at h4 <;> omega
theorem rp_step {f : Nat → Nat} {p d i : Nat} (hs : ∀ j, j < i - p → f (p + j) = f (p + j - d)) (hp : p ≤ i) (c : f i = f (i - d)) : ∀ j, j < i + 1 - p → f (p + j) = f (p + j - d) := by
  intro j hj
  by_cases e : j < i - p
  · exact hs j e
  · rw [show p + j = i by omega]; exact c
theorem rp_no {f : Nat → Nat} {p d i k : Nat} (hp : p ≤ i) (hk : i < p + k) (c : f i ≠ f (i - d)) : 0 = 1 ↔ ∀ j, j < k → f (p + j) = f (p + j - d) :=
  ⟨fun h => by omega, fun h => by have := h (i - p) (by omega); rw [show p + (i - p) = i by omega] at this; exact absurd this c⟩
/-- what adding some bytes does, and that it is refused else -/
def ad_low (R : Nat) (f : Nat → Nat) (n : Nat) (x : Int64) (k r : Int32) (f2 : Nat → Nat) (n2 : Nat) : Prop :=
  (∃ j, 1 ≤ j ∧ j ≤ 8 ∧ n + j ≤ R ∧ k = nI j ∧ r = nI (n + j) ∧ f2 = low x j f n ∧ n2 = n + j) ∨ ((∀ j, 1 ≤ j → j ≤ 8 → n + j ≤ R → k ≠ nI j) ∧ r = (-1) ∧ f2 = f ∧ n2 = n)
def ad_rep (R : Nat) (f : Nat → Nat) (n : Nat) (v k r : Int32) (f2 : Nat → Nat) (n2 : Nat) : Prop :=
  (∃ j, 1 ≤ j ∧ n + j ≤ R ∧ k = nI j ∧ r = nI (n + j) ∧ f2 = rep (by8 v) j f n ∧ n2 = n + j) ∨ ((∀ j, 1 ≤ j → n + j ≤ R → k ≠ nI j) ∧ r = (-1) ∧ f2 = f ∧ n2 = n)
theorem ad_no1 {k : Int32} (h : k < nI 1) {n R : Nat} : (∀ j, 1 ≤ j → j ≤ 8 → n + j ≤ R → k ≠ nI j) := by
  intro j h1 h2 h3 e
  rw [e] at h
  have := (nI_ltI (by omega) (by omega)).mp h
  omega
theorem ad_no2 {i n R : Nat} (h : i < 2147483648 ∧ (8 < i ∨ R < n + i)) : (∀ j, 1 ≤ j → j ≤ 8 → n + j ≤ R → nI i ≠ nI j) := by
  intro j h1 h2 h3 e
  have := (nI_eq (by omega) (by omega)).mp e
  omega
theorem ad_no3 {k : Int32} (h : k < nI 1) {n R : Nat} (hR : R ≤ 700) : (∀ j, 1 ≤ j → n + j ≤ R → k ≠ nI j) := by
  intro j h1 h3 e
  rw [e] at h
  have := (nI_ltI (by omega) (by omega)).mp h
  omega
theorem ad_no4 {i n R : Nat} (hR : R ≤ 700) (h : i < 2147483648 ∧ R < n + i) : (∀ j, 1 ≤ j → n + j ≤ R → nI i ≠ nI j) := by
  intro j h1 h3 e
  have := (nI_eq (by omega) (by omega)).mp e
  omega

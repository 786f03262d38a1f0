/-! reading bits -/
def bitAt (L : Nat → Nat) (j : Nat) : Nat := L (j / 8) / 2 ^ (7 - j % 8) % 2
/-- the number of k bits from b on -/
def nb (L : Nat → Nat) (b : Nat) : Nat → Nat
  | 0 => 0
  | k + 1 => 2 * nb L b k + bitAt L (b + k)
theorem bitAt_le (L : Nat → Nat) (j : Nat) : bitAt L j ≤ 1 := by rw [bitAt]; omega
theorem nb_lt (L : Nat → Nat) (b : Nat) : ∀ k, nb L b k < 2 ^ k
  | 0 => by simp [nb]
  | k + 1 => by have := nb_lt L b k; have := bitAt_le L (b + k); rw [nb, Nat.pow_succ]; omega
/-- how many 0 come from b on, at most k -/
def zer (L : Nat → Nat) : Nat → Nat → Nat
  | _, 0 => 0
  | b, k + 1 => if bitAt L b = 0 then zer L (b + 1) k + 1 else 0
theorem zer_le (L : Nat → Nat) : ∀ k b, zer L b k ≤ k
  | 0, _ => Nat.le_refl _
  | k + 1, b => by rw [zer]; split; have := zer_le L k (b + 1); omega; omega
theorem zer_0 {L : Nat → Nat} : ∀ {k b i : Nat}, i < zer L b k → bitAt L (b + i) = 0
  | 0, b, i, h => by simp [zer] at h
  | k + 1, b, i, h => by
    rw [zer] at h
    split at h
    · rename_i e
      cases i with
      | zero => exact e
      | succ i => have := zer_0 (L := L) (k := k) (b := b + 1) (i := i) (by omega); rwa [show b + (i + 1) = b + 1 + i by omega]
    · omega
theorem zer_1 {L : Nat → Nat} : ∀ {k b : Nat}, zer L b k < k → bitAt L (b + zer L b k) = 1
  | 0, b, h => by omega
  | k + 1, b, h => by
    rw [zer] at h ⊢
    split
    · rename_i e
      rw [if_pos e] at h
      have := zer_1 (L := L) (k := k) (b := b + 1) (by omega)
      rwa [show b + (zer L (b + 1) k + 1) = b + 1 + zer L (b + 1) k by omega]
    · rename_i e
      have := bitAt_le L b
      show bitAt L (b + 0) = 1
      rw [Nat.add_zero]; omega
theorem zer_is {L : Nat → Nat} {k b z : Nat} (hz : z ≤ k) (h0 : ∀ i, i < z → bitAt L (b + i) = 0) (h1 : z = k ∨ bitAt L (b + z) ≠ 0) : zer L b k = z := by
  have h2 := zer_le L k b
  rcases Nat.lt_trichotomy (zer L b k) z with q | q | q
  · have := zer_1 (L := L) (k := k) (b := b) (by omega); have := h0 _ q; omega
  · exact q
  · rcases h1 with e | e
    · omega
    · exact absurd (zer_0 q) e
/-- what comes of a match to be read: fault, place of bits, bytes made, text -/
def rdM (L : Nat → Nat) (e la lm lw all b m : Nat) (f : Nat → Nat) : Nat × Nat × Nat × (Nat → Nat) :=
  if zer L b (min 9 (e - b)) = 9 then (3, b, m, f)
  else if zer L b (min 9 (e - b)) = min 9 (e - b) then (1, b, m, f)
  else if e < b + zer L b (min 9 (e - b)) + 1 + zer L b (min 9 (e - b)) then (1, b, m, f)
  else if lm < 2 ^ zer L b (min 9 (e - b)) + nb L (b + zer L b (min 9 (e - b)) + 1) (zer L b (min 9 (e - b))) - 1 + la ∨ all - m < 2 ^ zer L b (min 9 (e - b)) + nb L (b + zer L b (min 9 (e - b)) + 1) (zer L b (min 9 (e - b))) - 1 + la then (3, b, m, f)
  else if e < b + zer L b (min 9 (e - b)) + 1 + zer L b (min 9 (e - b)) + 4 then (1, b, m, f)
  else if e < b + zer L b (min 9 (e - b)) + 1 + zer L b (min 9 (e - b)) + 4 + nb L (b + zer L b (min 9 (e - b)) + 1 + zer L b (min 9 (e - b))) 4 then (1, b, m, f)
  else if lw < 2 ^ nb L (b + zer L b (min 9 (e - b)) + 1 + zer L b (min 9 (e - b))) 4 + nb L (b + zer L b (min 9 (e - b)) + 1 + zer L b (min 9 (e - b)) + 4) (nb L (b + zer L b (min 9 (e - b)) + 1 + zer L b (min 9 (e - b))) 4) ∨ m < 2 ^ nb L (b + zer L b (min 9 (e - b)) + 1 + zer L b (min 9 (e - b))) 4 + nb L (b + zer L b (min 9 (e - b)) + 1 + zer L b (min 9 (e - b)) + 4) (nb L (b + zer L b (min 9 (e - b)) + 1 + zer L b (min 9 (e - b))) 4) then (4, b, m, f)
  else (0, b + zer L b (min 9 (e - b)) + 1 + zer L b (min 9 (e - b)) + 4 + nb L (b + zer L b (min 9 (e - b)) + 1 + zer L b (min 9 (e - b))) 4, m + (2 ^ zer L b (min 9 (e - b)) + nb L (b + zer L b (min 9 (e - b)) + 1) (zer L b (min 9 (e - b))) - 1 + la), agn (2 ^ nb L (b + zer L b (min 9 (e - b)) + 1 + zer L b (min 9 (e - b))) 4 + nb L (b + zer L b (min 9 (e - b)) + 1 + zer L b (min 9 (e - b)) + 4) (nb L (b + zer L b (min 9 (e - b)) + 1 + zer L b (min 9 (e - b))) 4)) (2 ^ zer L b (min 9 (e - b)) + nb L (b + zer L b (min 9 (e - b)) + 1) (zer L b (min 9 (e - b))) - 1 + la) f m)
/-- the same, its parts named -/
theorem rdM_of {L : Nat → Nat} {e la lm lw all b m : Nat} {f : Nat → Nat} {z : Nat} (hz : zer L b (min 9 (e - b)) = z) : rdM L e la lm lw all b m f =
    if z = 9 then (3, b, m, f) else if z = min 9 (e - b) then (1, b, m, f) else if e < b + z + 1 + z then (1, b, m, f)
    else if lm < 2 ^ z + nb L (b + z + 1) z - 1 + la ∨ all - m < 2 ^ z + nb L (b + z + 1) z - 1 + la then (3, b, m, f)
    else if e < b + z + 1 + z + 4 then (1, b, m, f)
    else if e < b + z + 1 + z + 4 + nb L (b + z + 1 + z) 4 then (1, b, m, f)
    else if lw < 2 ^ nb L (b + z + 1 + z) 4 + nb L (b + z + 1 + z + 4) (nb L (b + z + 1 + z) 4) ∨ m < 2 ^ nb L (b + z + 1 + z) 4 + nb L (b + z + 1 + z + 4) (nb L (b + z + 1 + z) 4) then (4, b, m, f)
    else (0, b + z + 1 + z + 4 + nb L (b + z + 1 + z) 4, m + (2 ^ z + nb L (b + z + 1) z - 1 + la), agn (2 ^ nb L (b + z + 1 + z) 4 + nb L (b + z + 1 + z + 4) (nb L (b + z + 1 + z) 4)) (2 ^ z + nb L (b + z + 1) z - 1 + la) f m) := by
  subst hz; rfl
/-- one step to be read -/
def rdS (L : Nat → Nat) (e la lm lw all b m : Nat) (f : Nat → Nat) : Nat × Nat × Nat × (Nat → Nat) :=
  if e < b + 1 then (1, b, m, f) else if bitAt L b = 0 then (if e < b + 1 + 8 then (1, b, m, f) else (0, b + 1 + 8, m + 1, up f m (nb L (b + 1) 8))) else rdM L e la lm lw all (b + 1) m f
/-- all steps -/
def rdL (L : Nat → Nat) (e la lm lw all : Nat) : Nat → Nat → Nat → (Nat → Nat) → Nat × Nat × Nat × (Nat → Nat)
  | 0, b, m, f => (0, b, m, f)
  | k + 1, b, m, f => if m < all then (if (rdS L e la lm lw all b m f).1 = 0 then rdL L e la lm lw all k (rdS L e la lm lw all b m f).2.1 (rdS L e la lm lw all b m f).2.2.1 (rdS L e la lm lw all b m f).2.2.2 else rdS L e la lm lw all b m f) else (0, b, m, f)
/-- what is behind -/
def rdB (L : Nat → Nat) (e b : Nat) : Nat := if e - b < 8 ∧ nb L b (e - b) = 0 then 0 else 5
/-- the whole reading, over a draft f: fault and text -/
def rdT (L : Nat → Nat) (e la lm lw : Nat) (f : Nat → Nat) : Nat × (Nat → Nat) :=
  if e < 16 then (1, f) else if 500 < nb L 0 16 then (2, f)
  else if (rdL L e la lm lw (nb L 0 16) 500 16 0 f).1 = 0 then (rdB L e (rdL L e la lm lw (nb L 0 16) 500 16 0 f).2.1, (rdL L e la lm lw (nb L 0 16) 500 16 0 f).2.2.2)
  else ((rdL L e la lm lw (nb L 0 16) 500 16 0 f).1, f)
theorem nI_m1 {a : Nat} (h : a < 2147483648) : ¬ nI a = (-1) := fun e => by
  have h1 : (nI a).toInt = (-1 : Int32).toInt := by rw [e]
  rw [nI_toInt (by omega)] at h1
  have : (-1 : Int32).toInt = -1 := rfl
  omega
theorem bit_val {x k : Nat} : x / 2 ^ k % 2 = x / 2 ^ k % 2 := rfl
theorem zc_lt {L : Nat → Nat} {b K z i : Nat} (hz : zer L b K = z) (h : z < K) (hi : i ≤ z) (h0 : bitAt L (b + i) = 0) : i < z := by
  rcases Nat.lt_or_ge i z with q | q
  · exact q
  · have e1 : i = z := by omega
    subst e1
    have := zer_1 (L := L) (k := K) (b := b) (by omega)
    rw [hz] at this; omega
theorem zr3 (L : Nat → Nat) {b e : Nat} (hb : b ≤ e) : (∃ z, zer L b (min 9 (e - b)) = z ∧ z < min 9 (e - b)) ∨ (∃ z, zer L b (min 9 (e - b)) = z ∧ z = e - b ∧ z < 9) ∨ (∃ z, zer L b (min 9 (e - b)) = z ∧ z = 9) := by
  have := zer_le L (min 9 (e - b)) b
  rcases Nat.lt_or_ge (zer L b (min 9 (e - b))) (min 9 (e - b)) with q | q
  · exact Or.inl ⟨_, rfl, q⟩
  · rcases Nat.lt_or_ge (zer L b (min 9 (e - b))) 9 with q2 | q2
    · exact Or.inr (Or.inl ⟨_, rfl, by omega, q2⟩)
    · exact Or.inr (Or.inr ⟨_, rfl, by omega⟩)
theorem rdL_done {L : Nat → Nat} {e la lm lw all b m : Nat} {f : Nat → Nat} (h : all ≤ m) : ∀ k, rdL L e la lm lw all k b m f = (0, b, m, f)
  | 0 => rfl
  | k + 1 => by rw [rdL, if_neg (by omega)]
theorem rdL_go {L : Nat → Nat} {e la lm lw all b m k : Nat} {f : Nat → Nat} (h : m < all) (hk : 0 < k) (h0 : (rdS L e la lm lw all b m f).1 = 0) : rdL L e la lm lw all k b m f = rdL L e la lm lw all (k - 1) (rdS L e la lm lw all b m f).2.1 (rdS L e la lm lw all b m f).2.2.1 (rdS L e la lm lw all b m f).2.2.2 := by
  obtain ⟨i, rfl⟩ : ∃ i, k = i + 1 := ⟨k - 1, by omega⟩
  rw [rdL, if_pos h, if_pos h0, Nat.add_sub_cancel]
theorem rdL_bad {L : Nat → Nat} {e la lm lw all b m k : Nat} {f : Nat → Nat} (h : m < all) (hk : 0 < k) (h0 : (rdS L e la lm lw all b m f).1 ≠ 0) : rdL L e la lm lw all k b m f = rdS L e la lm lw all b m f := by
  obtain ⟨i, rfl⟩ : ∃ i, k = i + 1 := ⟨k - 1, by omega⟩
  rw [rdL, if_pos h, if_neg h0]
theorem nb_1 (L : Nat → Nat) (b : Nat) : nb L b 1 = bitAt L b := by rw [nb, nb, Nat.add_zero]; omega
theorem fst_lt {L : Nat → Nat} {e la lm lw all b m : Nat} {f : Nat → Nat} : (rdM L e la lm lw all b m f).1 ≤ 5 := by
  rw [rdM_of rfl]; repeat' split
  all_goals simp
theorem fstS_lt {L : Nat → Nat} {e la lm lw all b m : Nat} {f : Nat → Nat} : (rdS L e la lm lw all b m f).1 ≤ 5 := by
  rw [rdS]; split
  · simp
  · split
    · split <;> simp
    · exact fst_lt
theorem rdM_grow {L : Nat → Nat} {e la lm lw all b m m2 : Nat} {f : Nat → Nat} (hla : 1 ≤ la) (h : (rdM L e la lm lw all b m f).1 = 0) (h2 : m2 = (rdM L e la lm lw all b m f).2.2.1) : m < m2 := by
  rw [h2]
  rw [rdM_of rfl] at h ⊢
  repeat' split at h
  all_goals first | (simp at h; done) | skip
  rename_i q1 q2 q3 q4 q5 q6 q7
  rw [if_neg q1, if_neg q2, if_neg q3, if_neg q4, if_neg q5, if_neg q6, if_neg q7]
  show m < m + (_ - 1 + la)
  omega

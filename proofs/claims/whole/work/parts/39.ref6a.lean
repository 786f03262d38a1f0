theorem nb_zero {L : Nat → Nat} {b : Nat} : ∀ k, nb L b k = 0 ↔ ∀ j, j < k → bitAt L (b + j) = 0
  | 0 => ⟨fun _ j h => by omega, fun _ => rfl⟩
  | k + 1 => by
    rw [nb]
    constructor
    · intro h j hj
      by_cases e : j = k
      · subst e; omega
      · exact (nb_zero k).mp (by omega) j (by omega)
    · intro h
      have h1 := (nb_zero (L := L) (b := b) k).mpr (fun j hj => h j (by omega))
      have h2 := h k (by omega)
      omega
theorem rdB_0 {L : Nat → Nat} {e b : Nat} (h1 : e - b < 8) (h2 : ∀ j, j < e - b → bitAt L (b + j) = 0) : rdB L e b = 0 := by rw [rdB, if_pos ⟨h1, (nb_zero _).mpr h2⟩]
theorem rdB_far {L : Nat → Nat} {e b : Nat} (h1 : 8 ≤ e - b) : rdB L e b = 5 := by rw [rdB, if_neg (fun h => by omega)]
theorem rdB_bit {L : Nat → Nat} {e b j : Nat} (h1 : j < e - b) (h2 : bitAt L (b + j) ≠ 0) : rdB L e b = 5 := by rw [rdB, if_neg (fun h => h2 ((nb_zero _).mp h.2 j h1))]
theorem rdT_good {L : Nat → Nat} {e la lm lw K b m : Nat} {f f2 : Nat → Nat} (h1 : 16 ≤ e) (h2 : nb L 0 16 ≤ 500) (hx : rdL L e la lm lw (nb L 0 16) K b m f2 = rdL L e la lm lw (nb L 0 16) 500 16 0 f) (hm : nb L 0 16 ≤ m) : rdT L e la lm lw f = (rdB L e b, f2) := by
  rw [rdL_done hm] at hx
  rw [rdT, if_neg (by omega), if_neg (by omega), ← hx, if_pos rfl]
theorem rdT_bad {L : Nat → Nat} {e la lm lw K b m : Nat} {f f2 : Nat → Nat} (h1 : 16 ≤ e) (h2 : nb L 0 16 ≤ 500) (hx : rdL L e la lm lw (nb L 0 16) K b m f2 = rdL L e la lm lw (nb L 0 16) 500 16 0 f) (hm : m < nb L 0 16) (hK : 0 < K) (h0 : (rdS L e la lm lw (nb L 0 16) b m f2).1 ≠ 0) : (rdT L e la lm lw f).1 = (rdS L e la lm lw (nb L 0 16) b m f2).1 := by
  rw [rdL_bad hm hK h0] at hx
  rw [rdT, if_neg (by omega), if_neg (by omega), ← hx, if_neg h0]

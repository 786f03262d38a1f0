/-! a parse: its steps, and what is written of it -/
def pos (ln : Nat → Nat) : Nat → Nat
  | 0 => 0
  | i + 1 => pos ln i + ln i
/-- the k steps go through the text P of pn bytes -/
def stp1 (P : Nat → Nat) (q : Nat) (pl ln ds : Nat → Nat) (i : Nat) : Prop := pl i = pos ln i ∧ ((ds i = 0 ∧ ln i = 1) ∨ (1 ≤ ds i ∧ ds i ≤ pl i ∧ q ≤ ln i ∧ ln i ≤ 255 ∧ ∀ j, j < ln i → P (pl i + j) = P (pl i + j - ds i)))
def tile (P : Nat → Nat) (q : Nat) (pl ln ds : Nat → Nat) (k pn : Nat) : Prop := pos ln k = pn ∧ (0 < k → 2 ≤ q) ∧ (0 < k → q ≤ 16) ∧ ∀ i, i < k → stp1 P q pl ln ds i
theorem pos_le {ln : Nat → Nat} {a : Nat} : ∀ k, pos ln a ≤ pos ln (a + k)
  | 0 => Nat.le_refl _
  | k + 1 => by have := pos_le (ln := ln) (a := a) k; rw [← Nat.add_assoc, pos]; omega
theorem pos_in {ln : Nat → Nat} {i k : Nat} (h : i < k) : pos ln i + ln i ≤ pos ln k := by
  have := pos_le (ln := ln) (a := i + 1) (k - (i + 1))
  rw [show i + 1 + (k - (i + 1)) = k by omega, pos] at this
  exact this
theorem tile_i {P : Nat → Nat} {q : Nat} {pl ln ds : Nat → Nat} {k pn i : Nat} (h : tile P q pl ln ds k pn) (hi : i < k) : stp1 P q pl ln ds i ∧ pl i + ln i ≤ pn ∧ 1 ≤ ln i ∧ pl i = pos ln i := by
  obtain ⟨h1, h2, h3, h4⟩ := h
  have h5 := h4 i hi
  have h6 := pos_in (ln := ln) hi
  refine ⟨h5, by rw [h5.1]; omega, ?_, h5.1⟩
  rcases h5.2 with z | z <;> omega
/-- what one step writes behind b bits w -/
def wst (P : Nat → Nat) (q : Nat) (pl ln ds : Nat → Nat) (i : Nat) (x : (Nat → Nat) × Nat) : (Nat → Nat) × Nat :=
  if ds i = 0 then (pt (P (pl i)) 8 (pt 0 1 x.1 x.2) (x.2 + 1), x.2 + 9)
  else (pt (ds i) (ds i).log2 (pt (ds i).log2 4 (pt (ln i - q + 1) (2 * (ln i - q + 1).log2 + 1) (pt 1 1 x.1 x.2) (x.2 + 1)) (x.2 + 1 + (2 * (ln i - q + 1).log2 + 1))) (x.2 + 1 + (2 * (ln i - q + 1).log2 + 1) + 4), x.2 + 1 + (2 * (ln i - q + 1).log2 + 1) + 4 + (ds i).log2)
def wal (P : Nat → Nat) (q : Nat) (pl ln ds : Nat → Nat) (x0 : (Nat → Nat) × Nat) : Nat → (Nat → Nat) × Nat
  | 0 => x0
  | i + 1 => wst P q pl ln ds i (wal P q pl ln ds x0 i)
theorem lg_half (n : Nat) : n.log2 ≤ n / 2 := by
  rcases Nat.lt_or_ge n 2 with h | h
  · have : n = 0 ∨ n = 1 := by omega
    rcases this with rfl | rfl <;> decide
  · obtain ⟨l1, l2⟩ := lg_self (d := n) (by omega)
    have h3 : ∀ k, 2 * k ≤ 2 ^ k ∨ k = 1 ∨ k = 0 ∨ 2 * k ≤ 2 ^ k := fun k => by
      induction k with
      | zero => exact Or.inr (Or.inr (Or.inl rfl))
      | succ k ih => rw [Nat.pow_succ]; rcases ih with z | z | z | z <;> first | omega | (subst z; simp)
    rcases h3 n.log2 with z | z | z | z <;> omega
theorem wst_le {P : Nat → Nat} {q : Nat} {pl ln ds : Nat → Nat} {i : Nat} {x : (Nat → Nat) × Nat} (h : stp1 P q pl ln ds i) (hq : 2 ≤ q) (hp : pl i < 500) : (wst P q pl ln ds i x).2 ≤ x.2 + 9 * ln i ∧ x.2 ≤ (wst P q pl ln ds i x).2 := by
  rw [wst]
  rcases h.2 with ⟨z1, z2⟩ | ⟨z1, z2, z3, z4, -⟩
  · rw [if_pos z1, z2]; exact ⟨by omega, by omega⟩
  · rw [if_neg (by omega)]
    have h1 : (ds i).log2 ≤ 8 := lg_le (k := 8) (by omega)
    have h2 := lg_half (ln i - q + 1)
    constructor
    · show x.2 + 1 + (2 * (ln i - q + 1).log2 + 1) + 4 + (ds i).log2 ≤ x.2 + 9 * ln i
      omega
    · show x.2 ≤ x.2 + 1 + (2 * (ln i - q + 1).log2 + 1) + 4 + (ds i).log2
      omega
theorem wal_le {P : Nat → Nat} {q : Nat} {pl ln ds : Nat → Nat} {x : (Nat → Nat) × Nat} {k pn : Nat} (h : tile P q pl ln ds k pn) (hp : pn ≤ 500) : ∀ i, i ≤ k → (wal P q pl ln ds x i).2 ≤ x.2 + 9 * pos ln i
  | 0, _ => by rw [wal, pos]; omega
  | i + 1, hi => by
    obtain ⟨h1, h2, h3, h4⟩ := tile_i h (show i < k by omega)
    have h5 := wal_le (x := x) h hp i (by omega)
    have h6 := (wst_le (x := wal P q pl ln ds x i) h1 (h.2.1 (by omega)) (by omega)).1
    rw [wal, pos]; omega
/-- byte i of a text made by steps -/
theorem agn_get {d : Nat} : ∀ (k : Nat) (f : Nat → Nat) (n : Nat) (P : Nat → Nat), 1 ≤ d → d ≤ n → (∀ j, j < n → f j = P j) → (∀ j, j < k → P (n + j) = P (n + j - d)) → ∀ j, j < n + k → agn d k f n j = P j
  | 0, f, n, P, _, _, h, _, j, hj => h j (by omega)
  | k + 1, f, n, P, h1, h2, h, hk, j, hj => by
    rw [agn]
    refine agn_get k _ (n + 1) P h1 (by omega) (fun i hi => ?_) (fun i hi => ?_) j (by omega)
    · by_cases e : i = n
      · subst e; rw [up_s, h _ (by omega)]; have := hk 0 (by omega); simpa using this.symm
      · rw [up_n e]; exact h i (by omega)
    · have := hk (i + 1) (by omega)
      rwa [show n + (i + 1) = n + 1 + i by omega] at this
/-- how many steps are matches -/
def mcn (ds : Nat → Nat) : Nat → Nat
  | 0 => 0
  | i + 1 => if 0 < ds i then mcn ds i + 1 else mcn ds i
theorem z01 {v : Nat} (h : v ≤ 1) : narrow .boolean (.int (nI v)) = .int (nI v) := by
  rcases (show v = 0 ∨ v = 1 by omega) with rfl | rfl <;> rfl
theorem mk_next {e P : Nat → Nat} {m x : Nat} (he : ∀ j, j < m → e j = P j) (hx : x = P m) : ∀ j, j < m + 1 → up e m x j = P j := by
  intro j hj
  by_cases q : j = m
  · subst q; rw [up_s]; exact hx
  · rw [up_n q]; exact he j (by omega)

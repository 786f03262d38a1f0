theorem lg_le {n k : Nat} (h : n < 2 ^ (k + 1)) : n.log2 ≤ k := by
  rcases Nat.eq_zero_or_pos n with z | z
  · subst z; rw [Nat.log2_zero]; omega
  · have := (Nat.log2_lt (n := n) (k := k + 1) (by omega)).mpr h
    omega
/-- a price told, or refused -/
def pr_rel (pb pa pl pd : Nat → Nat) (w k v r : Int32) (pb2 pa2 pl2 pd2 : Nat → Nat) : Prop :=
  (∃ j x, 1 ≤ x ∧ x ≤ 1000 ∧ k = nI j ∧ v = nI x ∧ r = nI 1 ∧ ((w = nI 0 ∧ j < 8 ∧ pb2 = up pb j x ∧ pa2 = pa ∧ pl2 = pl ∧ pd2 = pd) ∨ (w = nI 1 ∧ j < 1 ∧ pb2 = pb ∧ pa2 = up pa j x ∧ pl2 = pl ∧ pd2 = pd) ∨ (w = nI 2 ∧ j < 8 ∧ pb2 = pb ∧ pa2 = pa ∧ pl2 = up pl j x ∧ pd2 = pd) ∨ (w = nI 3 ∧ j < 9 ∧ pb2 = pb ∧ pa2 = pa ∧ pl2 = pl ∧ pd2 = up pd j x))) ∨
  ((∀ j x, 1 ≤ x → x ≤ 1000 → k = nI j → v = nI x → ¬ ((w = nI 0 ∧ j < 8) ∨ (w = nI 1 ∧ j < 1) ∨ (w = nI 2 ∧ j < 8) ∨ (w = nI 3 ∧ j < 9))) ∧ r = nI 0 ∧ pb2 = pb ∧ pa2 = pa ∧ pl2 = pl ∧ pd2 = pd)
theorem pr_sw (w : Int32) : w = nI 0 ∨ w = nI 1 ∨ w = nI 2 ∨ w = nI 3 ∨ (w.toInt < 0 ∨ (4 : Nat) - 1 < w.toInt) := by
  rcases j_sw 4 (by decide) w with ⟨k, h, rfl⟩ | h
  · rcases (show k = 0 ∨ k = 1 ∨ k = 2 ∨ k = 3 by omega) with rfl | rfl | rfl | rfl
    · exact Or.inl rfl
    · exact Or.inr (Or.inl rfl)
    · exact Or.inr (Or.inr (Or.inl rfl))
    · exact Or.inr (Or.inr (Or.inr (Or.inl rfl)))
  · exact Or.inr (Or.inr (Or.inr (Or.inr h)))
theorem nI_ne {a b : Nat} (ha : a < 2147483648) (hb : b < 2147483648) (h : a ≠ b) : nI a ≠ nI b := fun e => h (nI_inj ha hb e)
theorem pr_no1 {w k v : Int32} (h : k < 0) : ∀ j x, 1 ≤ x → x ≤ 1000 → k = nI j → v = nI x → ¬ ((w = nI 0 ∧ j < 8) ∨ (w = nI 1 ∧ j < 1) ∨ (w = nI 2 ∧ j < 8) ∨ (w = nI 3 ∧ j < 9)) := by
  rintro j x h1 h2 rfl rfl h3
  exact absurd h (nI_lt0 (by omega))
theorem pr_noN {i B : Nat} {k : Nat} {v : Int32} (hi : i < 4) (hB : (i = 0 → B = 8) ∧ (i = 1 → B = 1) ∧ (i = 2 → B = 8) ∧ (i = 3 → B = 9)) (h : B ≤ k ∧ k < 2147483648) : ∀ j x, 1 ≤ x → x ≤ 1000 → nI k = nI j → v = nI x → ¬ ((nI i = nI 0 ∧ j < 8) ∨ (nI i = nI 1 ∧ j < 1) ∨ (nI i = nI 2 ∧ j < 8) ∨ (nI i = nI 3 ∧ j < 9)) := by
  rintro j x h1 h2 e rfl h3
  rcases h3 with ⟨a, b⟩ | ⟨a, b⟩ | ⟨a, b⟩ | ⟨a, b⟩ <;> have e1 := nI_inj (by omega) (by omega) a <;> have e2 := nI_inj (by omega) (by omega) e <;> omega
theorem pr_no02 {k : Nat} {v : Int32} (h : 8 ≤ k ∧ k < 2147483648) : ∀ j x, 1 ≤ x → x ≤ 1000 → nI k = nI j → v = nI x → ¬ ((nI 0 = nI 0 ∧ j < 8) ∨ (nI 0 = nI 1 ∧ j < 1) ∨ (nI 0 = nI 2 ∧ j < 8) ∨ (nI 0 = nI 3 ∧ j < 9)) := pr_noN (by omega) (by omega) h
theorem pr_no12 {k : Nat} {v : Int32} (h : 1 ≤ k ∧ k < 2147483648) : ∀ j x, 1 ≤ x → x ≤ 1000 → nI k = nI j → v = nI x → ¬ ((nI 1 = nI 0 ∧ j < 8) ∨ (nI 1 = nI 1 ∧ j < 1) ∨ (nI 1 = nI 2 ∧ j < 8) ∨ (nI 1 = nI 3 ∧ j < 9)) := pr_noN (by omega) (by omega) h
theorem pr_no22 {k : Nat} {v : Int32} (h : 8 ≤ k ∧ k < 2147483648) : ∀ j x, 1 ≤ x → x ≤ 1000 → nI k = nI j → v = nI x → ¬ ((nI 2 = nI 0 ∧ j < 8) ∨ (nI 2 = nI 1 ∧ j < 1) ∨ (nI 2 = nI 2 ∧ j < 8) ∨ (nI 2 = nI 3 ∧ j < 9)) := pr_noN (by omega) (by omega) h
theorem pr_no32 {k : Nat} {v : Int32} (h : 9 ≤ k ∧ k < 2147483648) : ∀ j x, 1 ≤ x → x ≤ 1000 → nI k = nI j → v = nI x → ¬ ((nI 3 = nI 0 ∧ j < 8) ∨ (nI 3 = nI 1 ∧ j < 1) ∨ (nI 3 = nI 2 ∧ j < 8) ∨ (nI 3 = nI 3 ∧ j < 9)) := pr_noN (by omega) (by omega) h
theorem pr_no3 {w k v : Int32} (h : v < nI 1) : ∀ j x, 1 ≤ x → x ≤ 1000 → k = nI j → v = nI x → ¬ ((w = nI 0 ∧ j < 8) ∨ (w = nI 1 ∧ j < 1) ∨ (w = nI 2 ∧ j < 8) ∨ (w = nI 3 ∧ j < 9)) := by
  rintro j x h1 h2 rfl rfl h3
  have := nI_ltZ (by omega) (by omega) h; omega
theorem pr_no5 {w k : Int32} {i : Nat} (h : 1000 < i ∧ i < 2147483648) : ∀ j x, 1 ≤ x → x ≤ 1000 → k = nI j → nI i = nI x → ¬ ((w = nI 0 ∧ j < 8) ∨ (w = nI 1 ∧ j < 1) ∨ (w = nI 2 ∧ j < 8) ∨ (w = nI 3 ∧ j < 9)) := by
  rintro j x h1 h2 rfl e h3
  have := nI_inj (by omega) (by omega) e; omega
theorem pr_no6 {w k v : Int32} (h : w.toInt < 0 ∨ (4 : Nat) - 1 < w.toInt) : ∀ j x, 1 ≤ x → x ≤ 1000 → k = nI j → v = nI x → ¬ ((w = nI 0 ∧ j < 8) ∨ (w = nI 1 ∧ j < 1) ∨ (w = nI 2 ∧ j < 8) ∨ (w = nI 3 ∧ j < 9)) := by
  rintro j x h1 h2 rfl rfl h3
  rcases h3 with ⟨rfl, -⟩ | ⟨rfl, -⟩ | ⟨rfl, -⟩ | ⟨rfl, -⟩ <;> revert h <;> decide

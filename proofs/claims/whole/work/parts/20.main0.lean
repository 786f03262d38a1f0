/-! the ways of a parse -/
def grR (la lm lw : Nat) (T : Nat → Nat) (n p L d : Nat) : Prop := (mx (mt la lm lw T n p) 511 = 0 ∧ L = 1 ∧ d = 0) ∨ (0 < mx (mt la lm lw T n p) 511 ∧ L = mx (mt la lm lw T n p) 511 ∧ d = nrs (mt la lm lw T n p) 511)
/-- the longest match at p, 0 behind the text -/
def lgA (la lm lw : Nat) (T : Nat → Nat) (n p : Nat) : Nat := if p < n then mx (mt la lm lw T n p) 511 else 0
/-- a step of length L and distance d (0 for a byte alone) is what the way takes at p -/
def stepR (way la lm lw : Nat) (T : Nat → Nat) (n : Nat) (pb pa pl pd C : Nat → Nat) (p L d : Nat) : Prop :=
  (way = 0 ∧ ((L = 1 ∧ d = 0 ∧ C p = pb (T p / 32) + C (p + 1) ∧ ∀ len c, cok la lm lw T n p len c → C p < cmt pa pl pd C p len c) ∨
    (la ≤ L ∧ ∃ D, (∃ c, c < 9 ∧ L ≤ rxc la lm lw T n p c ∧ pd c = D) ∧ C p = pa 0 + pl L.log2 + D + C (p + L) ∧ (∀ len c, cok la lm lw T n p len c → L < len → C p < cmt pa pl pd C p len c) ∧ isD la lm lw T n pd p L D d))) ∨
  (way = 1 ∧ grR la lm lw T n p L d) ∨
  (way = 2 ∧ ((lgA la lm lw T n p < lgA la lm lw T n (p + 1) ∧ L = 1 ∧ d = 0) ∨ (lgA la lm lw T n (p + 1) ≤ lgA la lm lw T n p ∧ grR la lm lw T n p L d)))
def pri (T pb pa pl pd : Nat → Nat) (p L d : Nat) : Nat := if d = 0 then pb (T p / 32) else pa 0 + pl L.log2 + pd d.log2
def bts (q L d : Nat) : Nat := if d = 0 then 9 else 1 + (2 * (L - q + 1).log2 + 1) + 4 + d.log2
def cTab (la lm lw : Nat) (T : Nat → Nat) (n : Nat) (pb pa pl pd C : Nat → Nat) : Prop := C n = 0 ∧ (∀ p, p < n → isC la lm lw T n pb pa pl pd C p (C p)) ∧ ∀ i, i ≤ n → C i ≤ 1000 * (n - i)
theorem mx_mt {la lm lw : Nat} {T : Nat → Nat} {n p : Nat} (h : 0 < mx (mt la lm lw T n p) 511) : ∃ d, 1 ≤ d ∧ d ≤ p ∧ d ≤ lw ∧ mt la lm lw T n p d = mx (mt la lm lw T n p) 511 ∧ la ≤ mx (mt la lm lw T n p) 511 := by
  obtain ⟨d, h1, h2, h3⟩ := mx_has 511 h
  have h4 : ¬ (p < d ∨ lw < d) := fun q => by rw [mt_far q] at h3; omega
  rcases mt_0 (la := la) (lm := lm) (lw := lw) (T := T) (n := n) (p := p) (d := d) with z | z
  · omega
  · exact ⟨d, h1, by omega, by omega, h3, by omega⟩
theorem nrs_has {f : Nat → Nat} : ∀ k, 0 < mx f k → 1 ≤ nrs f k ∧ nrs f k ≤ k ∧ f (nrs f k) = mx f k ∧ ∀ x, 1 ≤ x → x < nrs f k → f x < mx f k
  | 0, h => by simp [mx] at h
  | k + 1, h => by
    rw [mx] at h ⊢
    rw [nrs]
    split
    · rename_i q
      refine ⟨by omega, by omega, by omega, fun x h1 h2 => ?_⟩
      have := mx_ge (f := f) (d := x) (k := k) h1 (by omega); omega
    · rename_i q
      obtain ⟨a, b, c, d⟩ := nrs_has (f := f) k (by omega)
      exact ⟨a, by omega, by omega, fun x h1 h2 => by have := d x h1 h2; omega⟩
/-- what a step by any way is: a byte alone, or a match -/
theorem stepR_ok {way la lm lw : Nat} {T : Nat → Nat} {n : Nat} {pb pa pl pd C : Nat → Nat} {p L d : Nat} (hl : 2 ≤ la ∧ la ≤ lm ∧ lm ≤ 255) (h : stepR way la lm lw T n pb pa pl pd C p L d) :
    (L = 1 ∧ d = 0) ∨ (1 ≤ d ∧ d ≤ p ∧ la ≤ L ∧ L ≤ 255 ∧ L ≤ n - p ∧ L ≤ mt la lm lw T n p d) := by
  have key : ∀ x, L ≤ mt la lm lw T n p x → la ≤ L → 1 ≤ x ∧ x ≤ p ∧ L ≤ 255 ∧ L ≤ n - p := fun x h1 h2 => by
    have h3 : ¬ (p < x ∨ lw < x) := fun q => by rw [mt_far q] at h1; omega
    have h4 : mt la lm lw T n p x ≤ lm := mt_le
    have h5 : mt la lm lw T n p x ≤ n - p := mt_n
    have h6 : x ≠ 0 := fun q => by subst q; rw [mt, if_neg (by omega)] at h1; omega
    omega
  have kg : grR la lm lw T n p L d → (L = 1 ∧ d = 0) ∨ (1 ≤ d ∧ d ≤ p ∧ la ≤ L ∧ L ≤ 255 ∧ L ≤ n - p ∧ L ≤ mt la lm lw T n p d) := fun q => by
    rcases q with ⟨-, a, b⟩ | ⟨a, b, c⟩
    · exact Or.inl ⟨a, b⟩
    · obtain ⟨x, x1, x2, x3, x4, x5⟩ := mx_mt a
      obtain ⟨y1, y2, y3, -⟩ := nrs_has 511 a
      have := key d (by rw [b, c, y3]; omega) (by omega)
      exact Or.inr ⟨by omega, by omega, by omega, by omega, by omega, by rw [b, c, y3]; omega⟩
  rcases h with ⟨-, ⟨a, b, -⟩ | ⟨a, D, -, -, -, hD⟩⟩ | ⟨-, q⟩ | ⟨-, ⟨-, a, b⟩ | ⟨-, q⟩⟩
  · exact Or.inl ⟨a, b⟩
  · have := key d hD.2.1 a
    exact Or.inr ⟨by omega, by omega, a, by omega, by omega, hD.2.1⟩
  · exact kg q
  · exact Or.inl ⟨a, b⟩
  · exact kg q
/-- a match is a repetition -/
theorem mt_rep {la lm lw : Nat} {T : Nat → Nat} {n p d L : Nat} (h : L ≤ mt la lm lw T n p d) (hn : L ≤ n - p) : ∀ j, j < L → T (p + j) = T (p + j - d) :=
  (lc_iff T d (n - p) p L hn).mp (Nat.le_trans h mt_lc)
def sm (f : Nat → Nat) : Nat → Nat
  | 0 => 0
  | i + 1 => sm f i + f i
/-- the first i steps of a parse of T by a way -/
def runR (way la lm lw : Nat) (T : Nat → Nat) (n : Nat) (pb pa pl pd C : Nat → Nat) (sp sl sd : Nat → Nat) (k : Nat) : Prop := ∀ i, i < k → sp i = pos sl i ∧ pos sl i < n ∧ stepR way la lm lw T n pb pa pl pd C (pos sl i) (sl i) (sd i)
theorem pos_up {sl : Nat → Nat} {k x : Nat} : ∀ i, i ≤ k → pos (up sl k x) i = pos sl i
  | 0, _ => rfl
  | i + 1, h => by rw [pos, pos, pos_up i (by omega), up_n (by omega)]
theorem sm_up {f g : Nat → Nat} : ∀ k, (∀ i, i < k → f i = g i) → sm f k = sm g k
  | 0, _ => rfl
  | k + 1, h => by rw [sm, sm, sm_up k (fun i hi => h i (by omega)), h k (by omega)]
theorem mcn_up {sd : Nat → Nat} {k x : Nat} : ∀ i, i ≤ k → mcn (up sd k x) i = mcn sd i
  | 0, _ => rfl
  | i + 1, h => by rw [mcn, mcn, mcn_up i (by omega), up_n (by omega)]
theorem runR_up {way la lm lw : Nat} {T : Nat → Nat} {n : Nat} {pb pa pl pd C sp sl sd : Nat → Nat} {k p L d : Nat} (h : runR way la lm lw T n pb pa pl pd C sp sl sd k) (hp : p = pos sl k) (hn : p < n) (hs : stepR way la lm lw T n pb pa pl pd C p L d) : runR way la lm lw T n pb pa pl pd C (up sp k p) (up sl k L) (up sd k d) (k + 1) := by
  intro i hi
  by_cases e : i = k
  · subst e
    rw [pos_up _ (Nat.le_refl _), up_s, up_s, up_s, ← hp]
    exact ⟨rfl, hn, hs⟩
  · rw [pos_up _ (by omega), up_n e, up_n e, up_n e]
    exact h i (by omega)
theorem pr_two {pb pa pl pd : Nat → Nat} {w k v r : Int32} {pb2 pa2 pl2 pd2 : Nat → Nat} (h : pr_rel pb pa pl pd w k v r pb2 pa2 pl2 pd2) : (r = nI 1 ∧ pr_rel pb pa pl pd w k v (nI 1) pb2 pa2 pl2 pd2) ∨ ((∀ j x, 1 ≤ x → x ≤ 1000 → k = nI j → v = nI x → ¬ ((w = nI 0 ∧ j < 8) ∨ (w = nI 1 ∧ j < 1) ∨ (w = nI 2 ∧ j < 8) ∨ (w = nI 3 ∧ j < 9))) ∧ r = nI 0 ∧ pb2 = pb ∧ pa2 = pa ∧ pl2 = pl ∧ pd2 = pd) := by
  rcases h with h | h
  · obtain ⟨j, x, h1, h2, h3, h4, h5, h6⟩ := h
    exact Or.inl ⟨h5, Or.inl ⟨j, x, h1, h2, h3, h4, rfl, h6⟩⟩
  · exact Or.inr h
theorem ws_match {w la lm lw : Nat} {T : Nat → Nat} {n : Nat} {pb pa pl pd C : Nat → Nat} {p L d : Nat} (hw : w = 1 ∨ w = 2) (hL : 0 < mx (mt la lm lw T n p) 511 ∧ L = mx (mt la lm lw T n p) 511) (hd : d = nrs (mt la lm lw T n p) 511) (h : ¬ (w = 2 ∧ lgA la lm lw T n p < lgA la lm lw T n (p + 1))) : stepR w la lm lw T n pb pa pl pd C p L d := by
  have g : grR la lm lw T n p L d := Or.inr ⟨hL.1, hL.2, hd⟩
  rcases hw with e | e
  · exact Or.inr (Or.inl ⟨e, g⟩)
  · exact Or.inr (Or.inr ⟨e, Or.inr ⟨by omega, g⟩⟩)
theorem ws_byte {w la lm lw : Nat} {T : Nat → Nat} {n : Nat} {pb pa pl pd C : Nat → Nat} {p : Nat} (hw : w = 1 ∨ w = 2) (h : mx (mt la lm lw T n p) 511 = 0 ∨ (w = 2 ∧ lgA la lm lw T n p < lgA la lm lw T n (p + 1))) : stepR w la lm lw T n pb pa pl pd C p 1 0 := by
  by_cases q : w = 2 ∧ lgA la lm lw T n p < lgA la lm lw T n (p + 1)
  · exact Or.inr (Or.inr ⟨q.1, Or.inl ⟨q.2, rfl, rfl⟩⟩)
  · have g : grR la lm lw T n p 1 0 := Or.inl ⟨by rcases h with z | z; exact z; exact absurd z q, rfl, rfl⟩
    rcases hw with e | e
    · exact Or.inr (Or.inl ⟨e, g⟩)
    · exact Or.inr (Or.inr ⟨e, Or.inr ⟨by omega, g⟩⟩)

theorem mx_p {la lm lw : Nat} {T : Nat → Nat} {n p : Nat} (hp : p ≤ 511) : mx (mt la lm lw T n p) 511 = mx (mt la lm lw T n p) p := mx_to hp (fun d h1 h2 => mt_far (by omega))
theorem nrs_uniq {f : Nat → Nat} {k d : Nat} (h : 0 < mx f k) (h1 : 1 ≤ d) (h2 : f d = mx f k) (h3 : ∀ x, 1 ≤ x → x < d → f x ≠ mx f k) : d = nrs f k := by
  obtain ⟨a, b, c, e⟩ := nrs_has k h
  rcases Nat.lt_trichotomy d (nrs f k) with q | q | q
  · have := e d h1 q; omega
  · exact q
  · exact absurd c (h3 _ a q)
theorem gr_byte {w la lm lw : Nat} {T : Nat → Nat} {n : Nat} {pb pa pl pd C : Nat → Nat} {p : Nat} (hp : p < n) (hw : w = 1 ∨ w = 2) (h : lgA la lm lw T n p = 0 ∨ (w = 2 ∧ lgA la lm lw T n p < lgA la lm lw T n (p + 1))) : stepR w la lm lw T n pb pa pl pd C p 1 0 :=
  ws_byte hw (h.imp (fun z => by rw [lgA, if_pos hp] at z; exact z) id)
theorem pos_lt {ln : Nat → Nat} : ∀ k, (∀ i, i < k → 1 ≤ ln i) → k ≤ pos ln k
  | 0, _ => Nat.le_refl _
  | k + 1, h => by have := pos_lt k (fun i hi => h i (by omega)); have := h k (by omega); rw [pos]; omega
theorem bts_eq {q L d : Nat} (h : d ≠ 0) : bts q L d = 1 + 2 * (L - q + 1).log2 + 1 + 4 + d.log2 := by rw [bts, if_neg h]; omega
theorem sc_many {la lm lw : Nat} {T : Nat → Nat} {n : Nat} {pb pa pl pd C : Nat → Nat} {p b c0 d : Nat} (e1 : la ≤ b) (ec : okc la lm lw T n pa pl pd C p b c0) (e2 : ∀ len c, cok la lm lw T n p len c → b < len → C p < cmt pa pl pd C p len c) (h1 : 1 ≤ d) (h2 : b ≤ mt la lm lw T n p d) (h3 : pa 0 + pl b.log2 + pd d.log2 + C (p + b) = C p) (h4 : ∀ y, 1 ≤ y → y < d → ¬ (b ≤ mt la lm lw T n p y ∧ pa 0 + pl b.log2 + pd y.log2 + C (p + b) = C p)) : stepR 0 la lm lw T n pb pa pl pd C p b d := by
  obtain ⟨a1, a2, a3⟩ := ec
  rw [cmt] at a3
  exact Or.inl ⟨rfl, Or.inr ⟨e1, pd c0, ⟨c0, a1, a2, rfl⟩, a3.symm, e2, h1, h2, by omega, fun y y1 y2 z => h4 y y1 y2 ⟨z.1, by have := z.2; omega⟩⟩⟩
theorem sg_match {w la lm lw : Nat} {T : Nat → Nat} {n : Nat} {pb pa pl pd C : Nat → Nat} {p d : Nat} (hp : p < n) (hw : w = 1 ∨ w = 2) (h0 : 0 < lgA la lm lw T n p) (hd : 1 ≤ d ∧ d ≤ p ∧ mt la lm lw T n p d = lgA la lm lw T n p) (hx : ∀ x, 1 ≤ x → x < d → mt la lm lw T n p x ≠ lgA la lm lw T n p) (h : ¬ (w = 2 ∧ lgA la lm lw T n p < lgA la lm lw T n (p + 1))) : stepR w la lm lw T n pb pa pl pd C p (lgA la lm lw T n p) d := by
  have e : lgA la lm lw T n p = mx (mt la lm lw T n p) 511 := if_pos hp
  exact ws_match hw ⟨by omega, e⟩ (nrs_uniq (by omega) hd.1 (by rw [← e]; exact hd.2.2) (fun x a b => by rw [← e]; exact hx x a b)) h

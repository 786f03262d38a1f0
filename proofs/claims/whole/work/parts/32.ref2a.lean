/-- the reference's table of common bytes at p -/
def cmO (T : Nat → Nat) (n : Nat) (cm : Nat → Nat) (p : Nat) : Prop := ∀ d, 1 ≤ d → d ≤ p → cm (501 * p + p - d) = lc T d p (n - p)
theorem cmO_next {T cm : Nat → Nat} {n p x v : Nat} (h : ∀ q, p + 1 ≤ q → q < n → cmO T n cm q) (hx : x < p) (hp : p < 500) : ∀ q, p + 1 ≤ q → q < n → cmO T n (up cm (501 * p + x) v) q := by
  intro q h1 h2 d h3 h4
  rw [up_n (by omega)]
  exact h q h1 h2 d h3 h4
theorem cmr_next {T cm : Nat → Nat} {n p x v : Nat} (h : ∀ y, y < x → cm (501 * p + y) = lc T (p - y) p (n - p)) (hv : v = lc T (p - x) p (n - p)) : ∀ y, y < x + 1 → up cm (501 * p + x) v (501 * p + y) = lc T (p - y) p (n - p) := by
  intro y hy
  by_cases e : y = x
  · subst e; rw [up_s, hv]
  · rw [up_n (by omega)]; exact h y (by omega)
theorem cmO_done {T cm : Nat → Nat} {n p x : Nat} (hx : p ≤ x) (h : ∀ y, y < x → cm (501 * p + y) = lc T (p - y) p (n - p)) : cmO T n cm p := by
  intro d h1 h2
  have := h (p - d) (by omega)
  rw [show p - (p - d) = d by omega] at this
  rw [← this]; congr 1; omega
theorem cmO_all {T cm : Nat → Nat} {n p : Nat} (h : ∀ q, p + 1 ≤ q → q < n → cmO T n cm q) (h1 : cmO T n cm p) : ∀ q, p ≤ q → q < n → cmO T n cm q := by
  intro q h2 h3
  by_cases e : q = p
  · subst e; exact h1
  · exact h q (by omega) h3
theorem lc_end (T : Nat → Nat) {d p n : Nat} (h : n ≤ p) : lc T d p (n - p) = 0 := by rw [show n - p = 0 by omega]; rfl
/-- the running least price over classes below c, and lengths below x of class c -/
def kbI (la lm lw : Nat) (T : Nat → Nat) (n : Nat) (pb pa pl pd C : Nat → Nat) (p c x v : Nat) : Prop :=
  (v = pb (T p / 32) + C (p + 1) ∨ ∃ len c2, cok la lm lw T n p len c2 ∧ v = cmt pa pl pd C p len c2) ∧ v ≤ pb (T p / 32) + C (p + 1) ∧ (∀ len c2, c2 < c → cok la lm lw T n p len c2 → v ≤ cmt pa pl pd C p len c2) ∧ ∀ len, len < x → cok la lm lw T n p len c → v ≤ cmt pa pl pd C p len c
theorem kb_0 {la lm lw : Nat} {T : Nat → Nat} {n : Nat} {pb pa pl pd C : Nat → Nat} {p : Nat} : kbI la lm lw T n pb pa pl pd C p 0 la (pb (T p / 32) + C (p + 1)) :=
  ⟨Or.inl rfl, Nat.le_refl _, fun _ _ h => by omega, fun len h ho => absurd ho.2.1 (by omega)⟩
theorem kb_c {la lm lw : Nat} {T : Nat → Nat} {n : Nat} {pb pa pl pd C : Nat → Nat} {p c x v : Nat} (h : kbI la lm lw T n pb pa pl pd C p c x v) (hx : rxc la lm lw T n p c < x) : kbI la lm lw T n pb pa pl pd C p (c + 1) la v := by
  obtain ⟨a, b, c1, d⟩ := h
  refine ⟨a, b, fun len c2 h1 ho => ?_, fun len h ho => absurd ho.2.1 (by omega)⟩
  by_cases e : c2 = c
  · subst e; exact d len (by have := ho.2.2; omega) ho
  · exact c1 len c2 (by omega) ho
theorem kb_x {la lm lw : Nat} {T : Nat → Nat} {n : Nat} {pb pa pl pd C : Nat → Nat} {p c x v v2 : Nat} (h : kbI la lm lw T n pb pa pl pd C p c x v) (hc : c < 9) (hx : la ≤ x ∧ x ≤ rxc la lm lw T n p c) (h2 : (cmt pa pl pd C p x c < v ∧ v2 = cmt pa pl pd C p x c) ∨ (v ≤ cmt pa pl pd C p x c ∧ v2 = v)) : kbI la lm lw T n pb pa pl pd C p c (x + 1) v2 := by
  obtain ⟨a, b, c1, d⟩ := h
  rcases h2 with ⟨q, rfl⟩ | ⟨q, rfl⟩
  · refine ⟨Or.inr ⟨x, c, ⟨hc, hx⟩, rfl⟩, by omega, fun len c2 h1 ho => by have := c1 len c2 h1 ho; omega, fun len h1 ho => ?_⟩
    by_cases e : len = x
    · subst e; omega
    · have := d len (by omega) ho; omega
  · refine ⟨a, b, c1, fun len h1 ho => ?_⟩
    by_cases e : len = x
    · subst e; exact q
    · exact d len (by omega) ho
theorem kb_end {la lm lw : Nat} {T : Nat → Nat} {n : Nat} {pb pa pl pd C : Nat → Nat} {p c x v : Nat} (h : kbI la lm lw T n pb pa pl pd C p c x v) (hc : 9 ≤ c) : isC la lm lw T n pb pa pl pd C p v :=
  ⟨h.1, h.2.1, fun len c2 ho => h.2.2.1 len c2 (by have := ho.1; omega) ho⟩
theorem isC_up {la lm lw : Nat} {T : Nat → Nat} {n : Nat} {pb pa pl pd C : Nat → Nat} {p v : Nat} (hp : p < n) (hla : 1 ≤ la) (h1 : isC la lm lw T n pb pa pl pd C p v) (hk : ∀ q, p + 1 ≤ q → q < n → isC la lm lw T n pb pa pl pd C q (C q)) : ∀ q, p ≤ q → q < n → isC la lm lw T n pb pa pl pd (up C p v) q (up C p v q) := by
  intro q q1 q2
  have hc : ∀ j, q < j → j ≤ n → C j = up C p v j := fun j a b => (up_n (by omega)).symm
  by_cases e : q = p
  · subst e; rw [up_s]; exact isC_congr hp hla hc h1
  · rw [up_n e]; exact isC_congr q2 hla hc (hk q (by omega) q2)
theorem ppOK {pp : Nat → Nat} (h : ∀ j, j < 26 → 1 ≤ pp j ∧ pp j ≤ 1000) : prOK pp (ppA pp) (ppL pp) (ppD pp) :=
  ⟨fun j hj => h j (by omega), h 8 (by omega), fun j hj => h (9 + j) (by omega), fun j hj => h (17 + j) (by omega)⟩
theorem lg_tp (c : Nat) : (2 ^ c).log2 = c := Nat.log2_two_pow
theorem cpy_up (f g : Nat → Nat) (i : Nat) : cpy f g (i + 1) = up (cpy f g i) i (f i) := by
  funext j
  simp only [cpy, up]
  by_cases e : j = i
  · subst e; simp
  · rw [if_neg e]
    by_cases h : j < i
    · rw [if_pos h, if_pos (by omega)]
    · rw [if_neg h, if_neg (by omega)]
theorem cpy_0 (f g : Nat → Nat) : cpy f g 0 = g := by funext j; simp [cpy]
/-- a length and a class by which C p is reached -/
def okc (la lm lw : Nat) (T : Nat → Nat) (n : Nat) (pa pl pd C : Nat → Nat) (p len c : Nat) : Prop := c < 9 ∧ len ≤ rxc la lm lw T n p c ∧ cmt pa pl pd C p len c = C p
def chI (la lm lw : Nat) (T : Nat → Nat) (n : Nat) (pa pl pd C : Nat → Nat) (p x c b : Nat) : Prop :=
  (b = 1 ∧ (∀ len c2, la ≤ len → len < x → ¬ okc la lm lw T n pa pl pd C p len c2) ∧ ∀ c2, c2 < c → ¬ okc la lm lw T n pa pl pd C p x c2) ∨
  (la ≤ b ∧ b ≤ x ∧ (∃ c2, okc la lm lw T n pa pl pd C p b c2) ∧ (b < x → ∀ c2, c2 < c → ¬ okc la lm lw T n pa pl pd C p x c2) ∧ ∀ len c2, b < len → len < x → ¬ okc la lm lw T n pa pl pd C p len c2)
theorem ch_0 {la lm lw : Nat} {T : Nat → Nat} {n : Nat} {pa pl pd C : Nat → Nat} {p : Nat} : chI la lm lw T n pa pl pd C p la 0 1 := Or.inl ⟨rfl, fun len c2 h1 h2 => by omega, fun c2 h => by omega⟩
theorem ch_no {la lm lw : Nat} {T : Nat → Nat} {n : Nat} {pa pl pd C : Nat → Nat} {p x c b : Nat} (h : chI la lm lw T n pa pl pd C p x c b) (h1 : ¬ okc la lm lw T n pa pl pd C p x c) : chI la lm lw T n pa pl pd C p x (c + 1) b := by
  rcases h with ⟨a, b1, c1⟩ | ⟨a, b1, c1, d, e⟩
  · exact Or.inl ⟨a, b1, no_next c1 h1⟩
  · exact Or.inr ⟨a, b1, c1, fun q => no_next (d q) h1, e⟩
theorem ch_yes {la lm lw : Nat} {T : Nat → Nat} {n : Nat} {pa pl pd C : Nat → Nat} {p x c : Nat} (hx : la ≤ x) (h1 : okc la lm lw T n pa pl pd C p x c) : chI la lm lw T n pa pl pd C p x (c + 1) x :=
  Or.inr ⟨hx, Nat.le_refl _, ⟨c, h1⟩, fun q => by omega, fun len c2 h2 h3 => by omega⟩
theorem ch_x {la lm lw : Nat} {T : Nat → Nat} {n : Nat} {pa pl pd C : Nat → Nat} {p x c b : Nat} (h : chI la lm lw T n pa pl pd C p x c b) (hc : 9 ≤ c) : chI la lm lw T n pa pl pd C p (x + 1) 0 b := by
  have hn : ∀ c2, (∀ c3, c3 < c → ¬ okc la lm lw T n pa pl pd C p x c3) → ¬ okc la lm lw T n pa pl pd C p x c2 := fun c2 q z => q c2 (by have := z.1; omega) z
  rcases h with ⟨a, b1, c1⟩ | ⟨a, b1, c1, d, e⟩
  · refine Or.inl ⟨a, fun len c2 h1 h2 => ?_, fun c2 h => by omega⟩
    by_cases q : len = x
    · subst q; exact hn c2 c1
    · exact b1 len c2 h1 (by omega)
  · refine Or.inr ⟨a, by omega, c1, fun q c2 h => by omega, fun len c2 h1 h2 => ?_⟩
    by_cases q : len = x
    · subst q; exact hn c2 (d (by omega))
    · exact e len c2 h1 (by omega)
theorem ch_end {la lm lw : Nat} {T : Nat → Nat} {n : Nat} {pb pa pl pd C : Nat → Nat} {p x b : Nat} (h : chI la lm lw T n pa pl pd C p x 0 b) (hx : lm < x ∨ n < p + x) (hp : p < n) (hla : la ≤ lm) (hC : isC la lm lw T n pb pa pl pd C p (C p)) :
    (b = 1 ∧ C p = pb (T p / 32) + C (p + 1) ∧ ∀ len c, cok la lm lw T n p len c → C p < cmt pa pl pd C p len c) ∨ (la ≤ b ∧ b ≤ lm ∧ p + b ≤ n ∧ (∃ c, okc la lm lw T n pa pl pd C p b c) ∧ ∀ len c, cok la lm lw T n p len c → b < len → C p < cmt pa pl pd C p len c) := by
  have big : ∀ len c, c < 9 → len ≤ rxc la lm lw T n p c → len ≤ lm ∧ p + len ≤ n := fun len c h1 h2 => by
    have h3 := rxc_mx (la := la) (lm := lm) (lw := lw) (T := T) (n := n) (p := p) h1
    have h4 : mx (mt la lm lw T n p) 511 ≤ n - p := mx_le (fun d => mt_n) _
    have h5 : mx (mt la lm lw T n p) 511 ≤ lm := mx_le (fun d => mt_le) _
    omega
  have lt : ∀ len c, cok la lm lw T n p len c → ¬ okc la lm lw T n pa pl pd C p len c → C p < cmt pa pl pd C p len c := fun len c ho hn => by
    have := hC.2.2 len c ho
    rcases Nat.lt_or_ge (C p) (cmt pa pl pd C p len c) with q | q
    · exact q
    · exact absurd ⟨ho.1, ho.2.2, by omega⟩ hn
  rcases h with ⟨rfl, b1, -⟩ | ⟨a, b1, ⟨c0, c1⟩, -, e⟩
  · have all : ∀ len c, cok la lm lw T n p len c → C p < cmt pa pl pd C p len c := fun len c ho => lt len c ho (b1 len c ho.2.1 (by have := big len c ho.1 ho.2.2; omega))
    refine Or.inl ⟨rfl, ?_, all⟩
    rcases hC.1 with q | ⟨len, c, ho, q⟩
    · exact q
    · have := all len c ho; omega
  · have hb := big b c0 c1.1 c1.2.1
    exact Or.inr ⟨a, hb.1, hb.2, ⟨c0, c1⟩, fun len c ho hl => lt len c ho (e len c hl (by have := big len c ho.1 ho.2.2; omega))⟩
/-- there is a distance of the wanted price -/
theorem ok_dist {la lm lw : Nat} {T : Nat → Nat} {n : Nat} {pa pl pd C : Nat → Nat} {p b c : Nat} (h : okc la lm lw T n pa pl pd C p b c) (hb : 1 ≤ b) : ∃ d, 1 ≤ d ∧ d ≤ p ∧ b ≤ mt la lm lw T n p d ∧ pa 0 + pl b.log2 + pd d.log2 + C (p + b) = C p := by
  obtain ⟨d, d1, d2, d3⟩ := rx_has (f := mt la lm lw T n p) (lo := 2 ^ c) (2 ^ c) (by have := h.2.1; rw [rxc] at this; omega)
  have h2p := Nat.two_pow_pos c
  have h4 : b ≤ mt la lm lw T n p d := by rw [d3]; exact h.2.1
  have h5 : ¬ (p < d ∨ lw < d) := fun q => by rw [mt_far q] at h4; omega
  refine ⟨d, by omega, by omega, h4, ?_⟩
  rw [lg_cls d1 (by rw [Nat.pow_succ]; omega)]
  exact h.2.2
theorem ff_next {la lm lw : Nat} {T : Nat → Nat} {n p c : Nat} {g : Nat → Nat} (hk : ∀ i, i < c → g i = rxc la lm lw T n p i) (h : g c = rxc la lm lw T n p c) : ∀ i, i < c + 1 → g i = rxc la lm lw T n p i := by
  intro i hi
  by_cases e : i = c
  · subst e; exact h
  · exact hk i (by omega)

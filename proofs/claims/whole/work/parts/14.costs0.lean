/-! prices and the cheapest way -/
theorem mx_mono {f : Nat → Nat} {a : Nat} : ∀ k, mx f a ≤ mx f (a + k)
  | 0 => Nat.le_refl _
  | k + 1 => by have := mx_mono (f := f) (a := a) k; rw [← Nat.add_assoc, mx]; omega
theorem mx_ge {f : Nat → Nat} {d k : Nat} (h1 : 1 ≤ d) (h2 : d ≤ k) : f d ≤ mx f k := by
  have := mx_mono (f := f) (a := d) (k - d)
  rw [show d + (k - d) = k by omega] at this
  obtain ⟨i, rfl⟩ : ∃ i, d = i + 1 := ⟨d - 1, by omega⟩
  rw [mx] at this; omega
theorem mx_has {f : Nat → Nat} : ∀ k, 0 < mx f k → ∃ d, 1 ≤ d ∧ d ≤ k ∧ f d = mx f k
  | 0, h => by simp [mx] at h
  | k + 1, h => by
    rw [mx] at h ⊢
    rcases Nat.lt_or_ge (mx f k) (f (k + 1)) with q | q
    · exact ⟨k + 1, by omega, by omega, by omega⟩
    · obtain ⟨d, h1, h2, h3⟩ := mx_has (f := f) k (by omega)
      exact ⟨d, h1, by omega, by omega⟩
theorem rx_ge {f : Nat → Nat} {lo : Nat} : ∀ k d, lo ≤ d → d < lo + k → f d ≤ rx f lo k
  | 0, d, h1, h2 => by omega
  | k + 1, d, h1, h2 => by
    rw [rx]
    by_cases e : d = lo + k
    · subst e; omega
    · have := rx_ge (f := f) (lo := lo) k d h1 (by omega); omega
theorem rx_has {f : Nat → Nat} {lo : Nat} : ∀ k, 0 < rx f lo k → ∃ d, lo ≤ d ∧ d < lo + k ∧ f d = rx f lo k
  | 0, h => by simp [rx] at h
  | k + 1, h => by
    rw [rx] at h ⊢
    rcases Nat.lt_or_ge (rx f lo k) (f (lo + k)) with q | q
    · exact ⟨lo + k, by omega, by omega, by omega⟩
    · obtain ⟨d, h1, h2, h3⟩ := rx_has (f := f) (lo := lo) k (by omega)
      exact ⟨d, h1, by omega, by omega⟩
/-- the longest match of distances of class c -/
def rxc (la lm lw : Nat) (T : Nat → Nat) (n p c : Nat) : Nat := rx (mt la lm lw T n p) (2 ^ c) (2 ^ c)
theorem rxc_mx {la lm lw : Nat} {T : Nat → Nat} {n p c : Nat} (hc : c < 9) : rxc la lm lw T n p c ≤ mx (mt la lm lw T n p) 511 := by
  rw [rxc]
  rcases Nat.eq_zero_or_pos (rx (mt la lm lw T n p) (2 ^ c) (2 ^ c)) with z | z
  · omega
  · obtain ⟨d, h1, h2, h3⟩ := rx_has _ z
    have h4 : 2 ^ c ≤ 256 := tp_lt hc
    have h5 := Nat.two_pow_pos c
    rw [← h3]; exact mx_ge (by omega) (by omega)
theorem mt_n {la lm lw : Nat} {T : Nat → Nat} {n p d : Nat} : mt la lm lw T n p d ≤ n - p := by
  rw [mt]; split
  · split
    · omega
    · have := lc_le T d (n - p) p; omega
  · omega
theorem mt_0 {la lm lw : Nat} {T : Nat → Nat} {n p d : Nat} : mt la lm lw T n p d = 0 ∨ la ≤ mt la lm lw T n p d := by
  rw [mt]; split
  · split <;> omega
  · omega
/-- the price of a match of length len and a distance of class c at p, and of all that follows by C -/
def cmt (pa pl pd C : Nat → Nat) (p len c : Nat) : Nat := pa 0 + pl len.log2 + pd c + C (p + len)
def cok (la lm lw : Nat) (T : Nat → Nat) (n p len c : Nat) : Prop := c < 9 ∧ la ≤ len ∧ len ≤ rxc la lm lw T n p c
/-- v is the least price from p on, by C behind it -/
def isC (la lm lw : Nat) (T : Nat → Nat) (n : Nat) (pb pa pl pd C : Nat → Nat) (p v : Nat) : Prop :=
  (v = pb (T p / 32) + C (p + 1) ∨ ∃ len c, cok la lm lw T n p len c ∧ v = cmt pa pl pd C p len c) ∧ v ≤ pb (T p / 32) + C (p + 1) ∧ ∀ len c, cok la lm lw T n p len c → v ≤ cmt pa pl pd C p len c
/-- L is the longest step of price v, D its distance's price -/
def isS (la lm lw : Nat) (T : Nat → Nat) (n : Nat) (pb pa pl pd C : Nat → Nat) (p v L D : Nat) : Prop :=
  (L = 1 ∧ v = pb (T p / 32) + C (p + 1) ∧ ∀ len c, cok la lm lw T n p len c → v < cmt pa pl pd C p len c) ∨
  (la ≤ L ∧ (∃ c, c < 9 ∧ L ≤ rxc la lm lw T n p c ∧ pd c = D) ∧ v = pa 0 + pl L.log2 + D + C (p + L) ∧ ∀ len c, cok la lm lw T n p len c → L < len → v < cmt pa pl pd C p len c)
def prOK (pb pa pl pd : Nat → Nat) : Prop := (∀ j, j < 8 → 1 ≤ pb j ∧ pb j ≤ 1000) ∧ (1 ≤ pa 0 ∧ pa 0 ≤ 1000) ∧ (∀ j, j < 8 → 1 ≤ pl j ∧ pl j ≤ 1000) ∧ ∀ j, j < 9 → 1 ≤ pd j ∧ pd j ≤ 1000
/-- the cheapest distance of those that reach just so far -/
def srt (la lm lw : Nat) (T : Nat → Nat) (n p : Nat) (pd pr : Nat → Nat) (c0 x : Nat) : Prop := (∀ c, c < c0 → rxc la lm lw T n p c = x → pr x ≤ pd c) ∧ (pr x = 1000000000 ∨ ∃ c, c < c0 ∧ rxc la lm lw T n p c = x ∧ pr x = pd c)
theorem srt_step {la lm lw : Nat} {T : Nat → Nat} {n p : Nat} {pd pr : Nat → Nat} {c x : Nat} (h : srt la lm lw T n p pd pr c x) : srt la lm lw T n p pd (up pr (rxc la lm lw T n p c) (min (pr (rxc la lm lw T n p c)) (pd c))) (c + 1) x := by
  by_cases e : x = rxc la lm lw T n p c
  · subst e
    refine ⟨fun c2 h1 h2 => ?_, ?_⟩
    · rw [up_s]
      by_cases e2 : c2 = c
      · subst e2; omega
      · have := h.1 c2 (by omega) h2; omega
    · rw [up_s]
      rcases Nat.lt_or_ge (pd c) (pr (rxc la lm lw T n p c)) with q | q
      · exact Or.inr ⟨c, by omega, rfl, by omega⟩
      · rw [Nat.min_eq_left (by omega)]
        rcases h.2 with z | ⟨c2, z1, z2, z3⟩
        · exact Or.inl z
        · exact Or.inr ⟨c2, by omega, z2, z3⟩
  · refine ⟨fun c2 h1 h2 => ?_, ?_⟩
    · rw [up_n e]
      exact h.1 c2 (by rcases Nat.lt_or_ge c2 c with q | q; exact q; exact absurd (by rw [show c = c2 by omega]; exact h2.symm) e) h2
    · rw [up_n e]
      rcases h.2 with z | ⟨c2, z1, z2, z3⟩
      · exact Or.inl z
      · exact Or.inr ⟨c2, by omega, z2, z3⟩
/-- the running least distance price of the lengths above len -/
def dpI (la lm lw : Nat) (T : Nat → Nat) (n p : Nat) (pd : Nat → Nat) (len dp : Nat) : Prop := (∀ c, c < 9 → len < rxc la lm lw T n p c → dp ≤ pd c) ∧ (dp = 1000000000 ∨ ∃ c, c < 9 ∧ len < rxc la lm lw T n p c ∧ dp = pd c)
theorem dp_step {la lm lw : Nat} {T : Nat → Nat} {n p : Nat} {pd pr : Nat → Nat} {len dp : Nat} (h : dpI la lm lw T n p pd len dp) (hs : srt la lm lw T n p pd pr 9 len) (h1 : 1 ≤ len) : dpI la lm lw T n p pd (len - 1) (min dp (pr len)) := by
  refine ⟨fun c hc hx => ?_, ?_⟩
  · by_cases e : rxc la lm lw T n p c = len
    · have := hs.1 c hc e; omega
    · have := h.1 c hc (by omega); omega
  · rcases Nat.lt_or_ge (pr len) dp with q | q
    · rcases hs.2 with z | ⟨c, z1, z2, z3⟩
      · exact Or.inl (by omega)
      · exact Or.inr ⟨c, z1, by omega, by omega⟩
    · rcases h.2 with z | ⟨c, z1, z2, z3⟩
      · exact Or.inl (by omega)
      · exact Or.inr ⟨c, z1, by omega, by omega⟩
/-- the running best of the lengths above len -/
def bsI (la lm lw : Nat) (T : Nat → Nat) (n p : Nat) (pa pl pd C : Nat → Nat) (len best L D : Nat) : Prop :=
  (∀ x c, cok la lm lw T n p x c → len < x → best ≤ cmt pa pl pd C p x c) ∧ ((best = 1000000000 ∧ L = 1 ∧ D = 0) ∨ (best < 1000000000 ∧ la ≤ L ∧ L ≤ 255 ∧ D ≤ 1000 ∧ (∃ c, c < 9 ∧ L ≤ rxc la lm lw T n p c ∧ pd c = D) ∧ best = pa 0 + pl L.log2 + D + C (p + L) ∧ ∀ x c, cok la lm lw T n p x c → L < x → best < cmt pa pl pd C p x c))
theorem bs_skip {la lm lw : Nat} {T : Nat → Nat} {n p : Nat} {pa pl pd C : Nat → Nat} {len best L D dp : Nat} (h : bsI la lm lw T n p pa pl pd C len best L D) (hd : dpI la lm lw T n p pd (len - 1) dp) (h1 : 1 ≤ len) (hc : best ≤ pa 0 + pl len.log2 + dp + C (p + len)) : bsI la lm lw T n p pa pl pd C (len - 1) best L D := by
  refine ⟨fun x c ho hx => ?_, h.2⟩
  by_cases e : x = len
  · subst e
    have := hd.1 c ho.1 (by have := ho.2.2; omega)
    rw [cmt]; omega
  · exact h.1 x c ho (by omega)
theorem bs_take {la lm lw : Nat} {T : Nat → Nat} {n p : Nat} {pa pl pd C : Nat → Nat} {len best L D dp : Nat} (h : bsI la lm lw T n p pa pl pd C len best L D) (hd : dpI la lm lw T n p pd (len - 1) dp) (h1 : 1 ≤ la ∧ la ≤ len ∧ len ≤ 255) (hpd : ∀ j, j < 9 → 1 ≤ pd j ∧ pd j ≤ 1000) (hc : pa 0 + pl len.log2 + dp + C (p + len) < best) : bsI la lm lw T n p pa pl pd C (len - 1) (pa 0 + pl len.log2 + dp + C (p + len)) len dp := by
  have hb : best ≤ 1000000000 := by rcases h.2 with z | z <;> omega
  have hdp : ∃ c, c < 9 ∧ len - 1 < rxc la lm lw T n p c ∧ dp = pd c := by
    rcases hd.2 with z | z
    · omega
    · exact z
  obtain ⟨c0, q1, q2, q3⟩ := hdp
  refine ⟨fun x c ho hx => ?_, Or.inr ⟨by omega, h1.2.1, h1.2.2, by have := hpd c0 q1; omega, ⟨c0, q1, by omega, q3.symm⟩, rfl, fun x c ho hx => ?_⟩⟩
  · by_cases e : x = len
    · subst e
      have := hd.1 c ho.1 (by have := ho.2.2; omega)
      rw [cmt]; omega
    · have := h.1 x c ho (by omega); omega
  · have := h.1 x c ho hx; omega
theorem bs_end {la lm lw : Nat} {T : Nat → Nat} {n p : Nat} {pb pa pl pd C : Nat → Nat} {len best L D : Nat} (h : bsI la lm lw T n p pa pl pd C len best L D) (hlen : len < la) (hb : best ≤ pb (T p / 32) + C (p + 1)) (hs : pb (T p / 32) + C (p + 1) < 1000000000) : isC la lm lw T n pb pa pl pd C p best ∧ isS la lm lw T n pb pa pl pd C p best L D := by
  rcases h.2 with z | ⟨z0, z1, z2, z3, ⟨c, z4, z5, z6⟩, z7, z8⟩
  · omega
  · exact ⟨⟨Or.inr ⟨L, c, ⟨z4, z1, z5⟩, by rw [cmt, z6]; exact z7⟩, hb, fun x c ho => h.1 x c ho (by have := ho.2.1; omega)⟩, Or.inr ⟨z1, ⟨c, z4, z5, z6⟩, z7, z8⟩⟩
theorem bs_alone {la lm lw : Nat} {T : Nat → Nat} {n p : Nat} {pb pa pl pd C : Nat → Nat} {len best L D : Nat} (h : bsI la lm lw T n p pa pl pd C len best L D) (hlen : len < la) (hb : pb (T p / 32) + C (p + 1) < best) : isC la lm lw T n pb pa pl pd C p (pb (T p / 32) + C (p + 1)) ∧ isS la lm lw T n pb pa pl pd C p (pb (T p / 32) + C (p + 1)) 1 0 := by
  have h2 : ∀ x c, cok la lm lw T n p x c → pb (T p / 32) + C (p + 1) < cmt pa pl pd C p x c := fun x c ho => by have := h.1 x c ho (by have := ho.2.1; omega); omega
  exact ⟨⟨Or.inl rfl, Nat.le_refl _, fun x c ho => Nat.le_of_lt (h2 x c ho)⟩, Or.inl ⟨rfl, rfl, h2⟩⟩
/-- C behind p decides -/
theorem isC_congr {la lm lw : Nat} {T : Nat → Nat} {n : Nat} {pb pa pl pd C C2 : Nat → Nat} {p v : Nat} (hp : p < n) (hla : 1 ≤ la) (h : ∀ j, p < j → j ≤ n → C j = C2 j) (q : isC la lm lw T n pb pa pl pd C p v) : isC la lm lw T n pb pa pl pd C2 p v := by
  have hr : ∀ len c, cok la lm lw T n p len c → cmt pa pl pd C p len c = cmt pa pl pd C2 p len c := fun len c ho => by
    have h1 := rxc_mx (la := la) (lm := lm) (lw := lw) (T := T) (n := n) (p := p) ho.1
    have h2 : mx (mt la lm lw T n p) 511 ≤ n - p := mx_le (fun d => mt_n) _
    have h3 := ho.2.2; have h4 := ho.2.1
    rw [cmt, cmt, h _ (by omega) (by omega)]
  obtain ⟨q1, q2, q3⟩ := q
  rw [h _ (by omega) (by omega)] at q1 q2
  exact ⟨q1.imp id (fun ⟨len, c, a, b⟩ => ⟨len, c, a, b.trans (hr len c a)⟩), q2, fun len c ho => by rw [← hr len c ho]; exact q3 len c ho⟩
theorem isS_congr {la lm lw : Nat} {T : Nat → Nat} {n : Nat} {pb pa pl pd C C2 : Nat → Nat} {p v L D : Nat} (hp : p < n) (hla : 1 ≤ la) (h : ∀ j, p < j → j ≤ n → C j = C2 j) (q : isS la lm lw T n pb pa pl pd C p v L D) : isS la lm lw T n pb pa pl pd C2 p v L D := by
  have hx : ∀ len c, cok la lm lw T n p len c → p + len ≤ n ∧ 1 ≤ len := fun len c ho => by
    have h1 := rxc_mx (la := la) (lm := lm) (lw := lw) (T := T) (n := n) (p := p) ho.1
    have h2 : mx (mt la lm lw T n p) 511 ≤ n - p := mx_le (fun d => mt_n) _
    have h3 := ho.2.2; have h4 := ho.2.1
    omega
  have hr : ∀ len c, cok la lm lw T n p len c → cmt pa pl pd C p len c = cmt pa pl pd C2 p len c := fun len c ho => by
    have := hx len c ho
    rw [cmt, cmt, h _ (by omega) (by omega)]
  rcases q with ⟨q1, q2, q3⟩ | ⟨q1, ⟨c, q2, q3, q4⟩, q5, q6⟩
  · exact Or.inl ⟨q1, by rw [← h _ (by omega) (by omega)]; exact q2, fun len c ho => by rw [← hr len c ho]; exact q3 len c ho⟩
  · have := hx L c ⟨q2, q1, q3⟩
    exact Or.inr ⟨q1, ⟨c, q2, q3, q4⟩, by rw [← h _ (by omega) (by omega)]; exact q5, fun len c ho hl => by rw [← hr len c ho]; exact q6 len c ho hl⟩
/-- the whole table -/
def cOK (la lm lw : Nat) (T : Nat → Nat) (n : Nat) (pb pa pl pd C s1 s2 : Nat → Nat) (p : Nat) : Prop := isC la lm lw T n pb pa pl pd C p (C p) ∧ isS la lm lw T n pb pa pl pd C p (C p) (s1 p) (s2 p)
theorem co_bound {la lm lw : Nat} {T : Nat → Nat} {n : Nat} {pb pa pl pd C : Nat → Nat} {p v : Nat} (h : isC la lm lw T n pb pa pl pd C p v) (hp : p < n) (hpb : pb (T p / 32) ≤ 1000) (hb : ∀ i, p + 1 ≤ i → i ≤ n → C i ≤ 1000 * (n - i)) : ∀ i, p ≤ i → i ≤ n → up C p v i ≤ 1000 * (n - i) := by
  intro i h1 h2
  by_cases e : i = p
  · subst e; rw [up_s]; have h3 := h.2.1; have h4 := hb (i + 1) (by omega) (by omega)
    have h5 : 1000 * (n - i) = 1000 * (n - (i + 1)) + 1000 := by omega
    omega
  · rw [up_n e]; exact hb i (by omega) h2
theorem co_next {la lm lw : Nat} {T : Nat → Nat} {n : Nat} {pb pa pl pd C s1 s2 : Nat → Nat} {p v L D : Nat} (hp : p < n) (hla : 1 ≤ la) (h1 : isC la lm lw T n pb pa pl pd C p v) (h2 : isS la lm lw T n pb pa pl pd C p v L D) (hk : ∀ q, p + 1 ≤ q → q < n → cOK la lm lw T n pb pa pl pd C s1 s2 q) : ∀ q, p ≤ q → q < n → cOK la lm lw T n pb pa pl pd (up C p v) (up s1 p L) (up s2 p D) q := by
  intro q q1 q2
  by_cases e : q = p
  · subst e
    have hc : ∀ j, q < j → j ≤ n → C j = up C q v j := fun j a b => (up_n (by omega)).symm
    exact ⟨by rw [up_s]; exact isC_congr hp hla hc h1, by rw [up_s, up_s, up_s]; exact isS_congr hp hla hc h2⟩
  · have hc : ∀ j, q < j → j ≤ n → C j = up C p v j := fun j a b => (up_n (by omega)).symm
    obtain ⟨a, b⟩ := hk q (by omega) q2
    exact ⟨by rw [up_n e]; exact isC_congr q2 hla hc a, by rw [up_n e, up_n e, up_n e]; exact isS_congr q2 hla hc b⟩
theorem lg_cls {c d : Nat} (h1 : 2 ^ c ≤ d) (h2 : d < 2 ^ (c + 1)) : d.log2 = c := by
  have := Nat.two_pow_pos c
  exact (Nat.log2_eq_iff (by omega)).mpr ⟨h1, h2⟩
theorem lg_self {d : Nat} (h : 1 ≤ d) : 2 ^ d.log2 ≤ d ∧ d < 2 ^ (d.log2 + 1) := (Nat.log2_eq_iff (by omega)).mp rfl
/-- d is the nearest distance of a match of length L whose class has the price D -/
def isD (la lm lw : Nat) (T : Nat → Nat) (n : Nat) (pd : Nat → Nat) (p L D d : Nat) : Prop := 1 ≤ d ∧ L ≤ mt la lm lw T n p d ∧ pd d.log2 = D ∧ ∀ x, 1 ≤ x → x < d → ¬ (L ≤ mt la lm lw T n p x ∧ pd x.log2 = D)
theorem mt_lc {la lm lw : Nat} {T : Nat → Nat} {n p d : Nat} : mt la lm lw T n p d ≤ lc T d p (n - p) := by
  rw [mt]; split
  · split
    · omega
    · exact Nat.min_le_left _ _
  · omega
theorem isD_of {la lm lw : Nat} {T : Nat → Nat} {n : Nat} {pd : Nat → Nat} {p L D c d : Nat} (hla : 1 ≤ la ∧ la ≤ lm) (hc : c < 9) (hL : la ≤ L ∧ L ≤ rxc la lm lw T n p c) (hD : pd c = D) (hno : ∀ c2, c2 < c → ¬ (pd c2 = D ∧ L ≤ rxc la lm lw T n p c2))
    (h : (d = 0 ∧ ∀ x, 2 ^ c ≤ x → x ≤ min (2 * 2 ^ c - 1) (min p lw) → lc T x p (n - p) < L) ∨ (2 ^ c ≤ d ∧ d ≤ min (2 * 2 ^ c - 1) (min p lw) ∧ L ≤ lc T d p (n - p) ∧ ∀ x, 2 ^ c ≤ x → x < d → lc T x p (n - p) < L)) : isD la lm lw T n pd p L D d := by
  have h2p := Nat.two_pow_pos c
  have h2s : 2 ^ (c + 1) = 2 * 2 ^ c := by rw [Nat.pow_succ]; omega
  have hLm : L ≤ lm := Nat.le_trans hL.2 (rx_le (fun d => mt_le) _)
  rcases h with ⟨-, h⟩ | ⟨h1, h2, h3, h4⟩
  · obtain ⟨x, x1, x2, x3⟩ := rx_has (f := mt la lm lw T n p) (lo := 2 ^ c) (2 ^ c) (by have := hL.2; rw [rxc] at this; omega)
    have x4 : L ≤ mt la lm lw T n p x := by rw [x3]; exact hL.2
    have x5 : ¬ (p < x ∨ lw < x) := fun q => by rw [mt_far q] at x4; omega
    have := h x x1 (by omega)
    have := mt_lc (la := la) (lm := lm) (lw := lw) (T := T) (n := n) (p := p) (d := x)
    omega
  · refine ⟨by omega, by rw [mt_in (by omega) (by omega) hla.2]; omega, by rw [lg_cls h1 (by omega)]; exact hD, fun x x1 x2 x3 => ?_⟩
    rcases Nat.lt_or_ge x (2 ^ c) with q | q
    · obtain ⟨l1, l2⟩ := lg_self x1
      have l3 : x.log2 < c := Nat.lt_of_not_le (fun z => by have := Nat.pow_le_pow_right (n := 2) (by decide) z; omega)
      have h2t : 2 ^ (x.log2 + 1) = 2 ^ x.log2 + 2 ^ x.log2 := by rw [Nat.pow_succ]; omega
      exact hno x.log2 l3 ⟨x3.2, Nat.le_trans x3.1 (rx_ge _ x l1 (by omega))⟩
    · have := h4 x q x2
      have := mt_lc (la := la) (lm := lm) (lw := lw) (T := T) (n := n) (p := p) (d := x)
      omega
theorem no_next {P : Nat → Prop} {c : Nat} (h : ∀ c2, c2 < c → ¬ P c2) (h1 : ¬ P c) : ∀ c2, c2 < c + 1 → ¬ P c2 := by
  intro c2 h2
  by_cases e : c2 = c
  · subst e; exact h1
  · exact h c2 (by omega)

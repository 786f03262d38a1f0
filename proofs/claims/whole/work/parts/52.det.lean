/-! what the class and the reference answer is one and the same -/
theorem ad_low_det {R : Nat} {f : Nat → Nat} {n : Nat} {x : Int64} {k r1 r2 : Int32} {f1 f2 : Nat → Nat} {n1 n2 : Nat} (h1 : ad_low R f n x k r1 f1 n1) (h2 : ad_low R f n x k r2 f2 n2) : r1 = r2 ∧ f1 = f2 ∧ n1 = n2 := by
  rcases h1 with ⟨j, a1, a2, a3, a4, a5, a6, a7⟩ | ⟨a1, a2, a3, a4⟩ <;> rcases h2 with ⟨i, b1, b2, b3, b4, b5, b6, b7⟩ | ⟨b1, b2, b3, b4⟩
  · have e : j = i := nI_inj (by omega) (by omega) (a4.symm.trans b4)
    subst e
    exact ⟨a5.trans b5.symm, a6.trans b6.symm, a7.trans b7.symm⟩
  · exact absurd a4 (b1 j a1 a2 a3)
  · exact absurd b4 (a1 i b1 b2 b3)
  · exact ⟨a2.trans b2.symm, a3.trans b3.symm, a4.trans b4.symm⟩
theorem ad_rep_det {R : Nat} (hR : R ≤ 700) {f : Nat → Nat} {n : Nat} {x k r1 r2 : Int32} {f1 f2 : Nat → Nat} {n1 n2 : Nat} (h1 : ad_rep R f n x k r1 f1 n1) (h2 : ad_rep R f n x k r2 f2 n2) : r1 = r2 ∧ f1 = f2 ∧ n1 = n2 := by
  rcases h1 with ⟨j, a1, a3, a4, a5, a6, a7⟩ | ⟨a1, a2, a3, a4⟩ <;> rcases h2 with ⟨i, b1, b3, b4, b5, b6, b7⟩ | ⟨b1, b2, b3, b4⟩
  · have e : j = i := nI_inj (by omega) (by omega) (a4.symm.trans b4)
    subst e
    exact ⟨a5.trans b5.symm, a6.trans b6.symm, a7.trans b7.symm⟩
  · exact absurd a4 (b1 j a1 a3)
  · exact absurd b4 (a1 i b1 b3)
  · exact ⟨a2.trans b2.symm, a3.trans b3.symm, a4.trans b4.symm⟩
theorem ad_low_ok {R : Nat} {f : Nat → Nat} {n : Nat} {x : Int64} {k r : Int32} {f1 : Nat → Nat} {n1 : Nat} (h : ad_low R f n x k r f1 n1) (hn : n ≤ R) (hf : ∀ j, j < n → f j < 256) : n1 ≤ R ∧ ∀ j, j < n1 → f1 j < 256 := by
  rcases h with ⟨j, a1, a2, a3, a4, a5, a6, a7⟩ | ⟨a1, a2, a3, a4⟩
  · rw [a6, a7]; exact ⟨a3, low_lt x j f n hf⟩
  · rw [a3, a4]; exact ⟨hn, hf⟩
theorem ad_rep_ok {R : Nat} {f : Nat → Nat} {n : Nat} {x k r : Int32} {f1 : Nat → Nat} {n1 : Nat} (h : ad_rep R f n x k r f1 n1) (hn : n ≤ R) (hf : ∀ j, j < n → f j < 256) : n1 ≤ R ∧ ∀ j, j < n1 → f1 j < 256 := by
  rcases h with ⟨j, a1, a3, a4, a5, a6, a7⟩ | ⟨a1, a2, a3, a4⟩
  · rw [a6, a7]; exact ⟨a3, rep_lt (by8_lt x) j f n hf⟩
  · rw [a3, a4]; exact ⟨hn, hf⟩
theorem lim_det {la lm lw : Nat} {a m w r1 r2 : Int32} {x1 y1 z1 x2 y2 z2 : Nat} (h1 : lim_rel la lm lw a m w r1 x1 y1 z1) (h2 : lim_rel la lm lw a m w r2 x2 y2 z2) : r1 = r2 ∧ x1 = x2 ∧ y1 = y2 ∧ z1 = z2 := by
  rcases h1 with ⟨a1, a2, a3, a4, a5, a6, a7, a8, a9, a0⟩ | ⟨a1, a2, a3, a4, a5⟩ <;> rcases h2 with ⟨b1, b2, b3, b4, b5, b6, b7, b8, b9, b0⟩ | ⟨b1, b2, b3, b4, b5⟩
  · exact ⟨a0.trans b0.symm, nI_inj (by omega) (by omega) (a7.symm.trans b7), nI_inj (by omega) (by omega) (a8.symm.trans b8), nI_inj (by omega) (by omega) (a9.symm.trans b9)⟩
  · exact absurd ⟨a7, a8, a9⟩ (b1 _ _ _ a1 a2 a3 a4 a5 a6)
  · exact absurd ⟨b7, b8, b9⟩ (a1 _ _ _ b1 b2 b3 b4 b5 b6)
  · exact ⟨a2.trans b2.symm, a3.trans b3.symm, a4.trans b4.symm, a5.trans b5.symm⟩
theorem lim_ok {la lm lw : Nat} {a m w r : Int32} {x y z : Nat} (h : lim_rel la lm lw a m w r x y z) (h0 : 2 ≤ la ∧ la ≤ lm ∧ lm ≤ 255 ∧ 1 ≤ lw ∧ lw ≤ 500 ∧ la ≤ 16) : 2 ≤ x ∧ x ≤ y ∧ y ≤ 255 ∧ 1 ≤ z ∧ z ≤ 500 ∧ x ≤ 16 := by
  rcases h with ⟨a1, a2, a3, a4, a5, a6, -⟩ | ⟨-, -, a3, a4, a5⟩ <;> omega
/-- four rows of prices, and one -/
def ppR (pb pa pl pd pp : Nat → Nat) : Prop := (∀ j, j < 8 → pb j = pp j) ∧ pa 0 = pp 8 ∧ (∀ j, j < 8 → pl j = pp (9 + j)) ∧ ∀ j, j < 9 → pd j = pp (17 + j)
theorem ppR_ok {pb pa pl pd pp : Nat → Nat} (h : ppR pb pa pl pd pp) (h2 : ∀ j, j < 26 → 1 ≤ pp j ∧ pp j ≤ 1000) : prOK pb pa pl pd :=
  ⟨fun j hj => by rw [h.1 j hj]; exact h2 j (by omega), by rw [h.2.1]; exact h2 8 (by omega), fun j hj => by rw [h.2.2.1 j hj]; exact h2 _ (by omega), fun j hj => by rw [h.2.2.2 j hj]; exact h2 _ (by omega)⟩
theorem pr_det {pb pa pl pd pp : Nat → Nat} {w k v r1 r2 : Int32} {pb2 pa2 pl2 pd2 pp2 : Nat → Nat} (h1 : pr_rel pb pa pl pd w k v r1 pb2 pa2 pl2 pd2) (h2 : pr_rel2 pp w k v r2 pp2) (hp : ppR pb pa pl pd pp) (hq : ∀ j, j < 26 → 1 ≤ pp j ∧ pp j ≤ 1000) : r1 = r2 ∧ ppR pb2 pa2 pl2 pd2 pp2 ∧ ∀ j, j < 26 → 1 ≤ pp2 j ∧ pp2 j ≤ 1000 := by
  have hup : ∀ {i x : Nat}, 1 ≤ x ∧ x ≤ 1000 → ∀ j, j < 26 → 1 ≤ up pp i x j ∧ up pp i x j ≤ 1000 := fun {i x} hx j hj => by
    by_cases e : j = i
    · subst e; rw [up_s]; exact hx
    · rw [up_n e]; exact hq j hj
  rcases h1 with ⟨j, x, a1, a2, a3, a4, a5, a6⟩ | ⟨a1, a2, a3, a4, a5, a6⟩ <;> rcases h2 with ⟨i, j2, x2, b1, b2, b3, b4, b5, b6, b7, b8⟩ | ⟨b1, b2, b3⟩
  · have ex : x = x2 := nI_inj (by omega) (by omega) (a4.symm.trans b4)
    have hj : j < 9 := by rcases a6 with z | z | z | z <;> omega
    have ej : j = j2 := nI_inj (by omega) (by rcases b7 with z | z | z | z <;> omega) (a3.symm.trans b3)
    subst ex; subst ej
    refine ⟨a5.trans b5.symm, ?_, by rw [b8]; exact hup ⟨a1, a2⟩⟩
    have ei : ∀ c, c < 4 → w = nI c → i = c := fun c hc e => nI_inj (by rcases b7 with z | z | z | z <;> omega) (by omega) (b6.symm.trans e)
    obtain ⟨p1, p2, p3, p4⟩ := hp
    rcases a6 with ⟨e, hb, rfl, rfl, rfl, rfl⟩ | ⟨e, hb, rfl, rfl, rfl, rfl⟩ | ⟨e, hb, rfl, rfl, rfl, rfl⟩ | ⟨e, hb, rfl, rfl, rfl, rfl⟩
    · rw [b8, ei 0 (by omega) e, show ppB 0 = 0 from rfl, Nat.zero_add]
      refine ⟨fun y hy => ?_, by rw [up_n (by omega)]; exact p2, fun y hy => by rw [up_n (by omega)]; exact p3 y hy, fun y hy => by rw [up_n (by omega)]; exact p4 y hy⟩
      by_cases q : y = j
      · subst q; rw [up_s, up_s]
      · rw [up_n q, up_n q]; exact p1 y hy
    · rw [b8, ei 1 (by omega) e, show ppB 1 = 8 from rfl, show j = 0 by omega]
      exact ⟨fun y hy => by rw [up_n (by omega)]; exact p1 y hy, by rw [up_s, up_s], fun y hy => by rw [up_n (by omega)]; exact p3 y hy, fun y hy => by rw [up_n (by omega)]; exact p4 y hy⟩
    · rw [b8, ei 2 (by omega) e, show ppB 2 = 9 from rfl]
      refine ⟨fun y hy => by rw [up_n (by omega)]; exact p1 y hy, by rw [up_n (by omega)]; exact p2, fun y hy => ?_, fun y hy => by rw [up_n (by omega)]; exact p4 y hy⟩
      by_cases q : y = j
      · subst q; rw [up_s, up_s]
      · rw [up_n q, up_n (by omega)]; exact p3 y hy
    · rw [b8, ei 3 (by omega) e, show ppB 3 = 17 from rfl]
      refine ⟨fun y hy => by rw [up_n (by omega)]; exact p1 y hy, by rw [up_n (by omega)]; exact p2, fun y hy => by rw [up_n (by omega)]; exact p3 y hy, fun y hy => ?_⟩
      by_cases q : y = j
      · subst q; rw [up_s, up_s]
      · rw [up_n q, up_n (by omega)]; exact p4 y hy
  · exact absurd (by rcases a6 with z | z | z | z; exact Or.inl ⟨z.1, z.2.1⟩; exact Or.inr (Or.inl ⟨z.1, z.2.1⟩); exact Or.inr (Or.inr (Or.inl ⟨z.1, z.2.1⟩)); exact Or.inr (Or.inr (Or.inr ⟨z.1, z.2.1⟩))) (b1 j x a1 a2 a3 a4)
  · exact absurd (by rcases b7 with ⟨z, z2⟩ | ⟨z, z2⟩ | ⟨z, z2⟩ | ⟨z, z2⟩; exact Or.inl ⟨by rw [b6, z], z2⟩; exact Or.inr (Or.inl ⟨by rw [b6, z], z2⟩); exact Or.inr (Or.inr (Or.inl ⟨by rw [b6, z], z2⟩)); exact Or.inr (Or.inr (Or.inr ⟨by rw [b6, z], z2⟩))) (a1 j2 x2 b1 b2 b3 b4)
  · exact ⟨a2.trans b2.symm, by rw [a3, a4, a5, a6, b3]; exact hp, by rw [b3]; exact hq⟩
/-! the table of least prices is one -/
theorem isC_uniq {la lm lw : Nat} {T : Nat → Nat} {n : Nat} {pb pa pl pd C : Nat → Nat} {p v v2 : Nat} (h : isC la lm lw T n pb pa pl pd C p v) (h2 : isC la lm lw T n pb pa pl pd C p v2) : v = v2 := by
  have le : ∀ {x y}, isC la lm lw T n pb pa pl pd C p x → isC la lm lw T n pb pa pl pd C p y → x ≤ y := fun {x y} a b => by
    rcases b.1 with q | ⟨len, c, ho, q⟩
    · rw [q]; exact a.2.1
    · rw [q]; exact a.2.2 len c ho
  exact Nat.le_antisymm (le h h2) (le h2 h)
theorem cmt_pp {la lm lw : Nat} {T : Nat → Nat} {n : Nat} {pb pa pl pd pp C : Nat → Nat} {p len c : Nat} (h : ppR pb pa pl pd pp) (hl : lm ≤ 255) (ho : cok la lm lw T n p len c) : cmt pa pl pd C p len c = cmt (ppA pp) (ppL pp) (ppD pp) C p len c := by
  have h1 : rxc la lm lw T n p c ≤ lm := rx_le (fun d => mt_le) _
  have h2 : len.log2 ≤ 7 := lg_le (k := 7) (by have := ho.2.2; omega)
  show pa 0 + pl len.log2 + pd c + C (p + len) = pp 8 + pp (9 + len.log2) + pp (17 + c) + C (p + len)
  rw [h.2.1, h.2.2.1 _ (by omega), h.2.2.2 _ ho.1]
theorem isC_pp {la lm lw : Nat} {T : Nat → Nat} {n : Nat} {pb pa pl pd pp C : Nat → Nat} {p v : Nat} (h : ppR pb pa pl pd pp) (hl : lm ≤ 255) (hT : T p < 256) (q : isC la lm lw T n pb pa pl pd C p v) : isC la lm lw T n pp (ppA pp) (ppL pp) (ppD pp) C p v := by
  obtain ⟨q1, q2, q3⟩ := q
  rw [h.1 _ (by omega)] at q1 q2
  exact ⟨q1.imp id (fun ⟨len, c, a, b⟩ => ⟨len, c, a, by rw [← cmt_pp h hl a]; exact b⟩), q2, fun len c ho => by rw [← cmt_pp h hl ho]; exact q3 len c ho⟩
theorem cTab_det {la lm lw : Nat} {T : Nat → Nat} {n : Nat} {pb pa pl pd C C2 : Nat → Nat} (hla : 1 ≤ la) (h : cTab la lm lw T n pb pa pl pd C) (h2 : cTab la lm lw T n pb pa pl pd C2) : ∀ p, p ≤ n → C p = C2 p := by
  have key : ∀ k p, p + k = n → C p = C2 p := by
    intro k
    induction k using Nat.strongRecOn with
    | _ k ih =>
      intro p hp
      rcases Nat.eq_zero_or_pos k with z | z
      · subst z; rw [show p = n by omega, h.1, h2.1]
      · have hc : ∀ j, p < j → j ≤ n → C j = C2 j := fun j a b => ih (n - j) (by omega) j (by omega)
        exact isC_uniq (isC_congr (by omega) hla hc (h.2.1 p (by omega))) (h2.2.1 p (by omega))
  intro p hp
  exact key (n - p) p (by omega)
theorem cTab_pp {la lm lw : Nat} {T : Nat → Nat} {n : Nat} {pb pa pl pd pp C : Nat → Nat} (h : ppR pb pa pl pd pp) (hl : lm ≤ 255) (hT : ∀ j, j < n → T j < 256) (q : cTab la lm lw T n pb pa pl pd C) : cTab la lm lw T n pp (ppA pp) (ppL pp) (ppD pp) C := ⟨q.1, fun p hp => isC_pp h hl (hT p hp) (q.2.1 p hp), q.2.2⟩
/-! the step is one -/
theorem isD_uniq {la lm lw : Nat} {T : Nat → Nat} {n : Nat} {pd : Nat → Nat} {p L D d d2 : Nat} (h : isD la lm lw T n pd p L D d) (h2 : isD la lm lw T n pd p L D d2) : d = d2 := by
  rcases Nat.lt_trichotomy d d2 with q | q | q
  · exact absurd ⟨h.2.1, h.2.2.1⟩ (h2.2.2.2 d h.1 q)
  · exact q
  · exact absurd ⟨h2.2.1, h2.2.2.1⟩ (h.2.2.2 d2 h2.1 q)
theorem grR_uniq {la lm lw : Nat} {T : Nat → Nat} {n p L d L2 d2 : Nat} (h : grR la lm lw T n p L d) (h2 : grR la lm lw T n p L2 d2) : L = L2 ∧ d = d2 := by
  rcases h with ⟨a, b, c⟩ | ⟨a, b, c⟩ <;> rcases h2 with ⟨a2, b2, c2⟩ | ⟨a2, b2, c2⟩ <;> omega
theorem stepR_uniq {w la lm lw : Nat} {T : Nat → Nat} {n : Nat} {pb pa pl pd C : Nat → Nat} {p L d L2 d2 : Nat} (hla : 2 ≤ la) (h : stepR w la lm lw T n pb pa pl pd C p L d) (h2 : stepR w la lm lw T n pb pa pl pd C p L2 d2) : L = L2 ∧ d = d2 := by
  have no : ∀ {x y : Nat}, (∀ len c, cok la lm lw T n p len c → x < len → C p < cmt pa pl pd C p len c) → la ≤ y → (∃ D, (∃ c, c < 9 ∧ y ≤ rxc la lm lw T n p c ∧ pd c = D) ∧ C p = pa 0 + pl y.log2 + D + C (p + y)) → ¬ x < y := fun {x y} q1 q2 q3 q4 => by
    obtain ⟨D, ⟨c, c1, c2, c3⟩, e⟩ := q3
    have := q1 y c ⟨c1, q2, c2⟩ q4
    rw [cmt, c3] at this; omega
  rcases h with ⟨w0, h⟩ | ⟨w1, h⟩ | ⟨w2, h⟩ <;> rcases h2 with ⟨v0, h2⟩ | ⟨v1, h2⟩ | ⟨v2, h2⟩ <;> first | (exfalso; omega) | skip
  · rcases h with ⟨a1, a2, a3, a4⟩ | ⟨a1, D, a2, a3, a4, a5⟩ <;> rcases h2 with ⟨b1, b2, b3, b4⟩ | ⟨b1, D2, b2, b3, b4, b5⟩
    · omega
    · exact absurd (show 0 < L2 by omega) (no (fun len c ho _ => a4 len c ho) b1 ⟨D2, b2, b3⟩)
    · exact absurd (show 0 < L by omega) (no (fun len c ho _ => b4 len c ho) a1 ⟨D, a2, a3⟩)
    · have e : L = L2 := by
        rcases Nat.lt_trichotomy L L2 with q | q | q
        · exact absurd q (no a4 b1 ⟨D2, b2, b3⟩)
        · exact q
        · exact absurd q (no b4 a1 ⟨D, a2, a3⟩)
      subst e
      have eD : D = D2 := by omega
      subst eD
      exact ⟨rfl, isD_uniq a5 b5⟩
  · exact grR_uniq h h2
  · rcases h with ⟨a1, a2, a3⟩ | ⟨a1, a2⟩ <;> rcases h2 with ⟨b1, b2, b3⟩ | ⟨b1, b2⟩ <;> first | (exfalso; omega) | omega | exact grR_uniq a2 b2
theorem stepR_pp {w la lm lw : Nat} {T : Nat → Nat} {n : Nat} {pb pa pl pd pp C : Nat → Nat} {p L d : Nat} (h : ppR pb pa pl pd pp) (hl : 2 ≤ la ∧ la ≤ lm ∧ lm ≤ 255) (hn : p < n ∧ n ≤ 500) (hT : T p < 256) (q : stepR w la lm lw T n pb pa pl pd C p L d) : stepR w la lm lw T n pp (ppA pp) (ppL pp) (ppD pp) C p L d := by
  rcases q with ⟨w0, q⟩ | q | q
  · refine Or.inl ⟨w0, ?_⟩
    rcases q with ⟨a1, a2, a3, a4⟩ | ⟨a1, D, ⟨c, c1, c2, c3⟩, a3, a4, a5⟩
    · exact Or.inl ⟨a1, a2, by rw [← h.1 _ (by omega)]; exact a3, fun len c ho => by rw [← cmt_pp h hl.2.2 ho]; exact a4 len c ho⟩
    · have e := cmt_pp (C := C) h hl.2.2 (⟨c1, a1, c2⟩ : cok la lm lw T n p L c)
      have hlm : L ≤ lm := Nat.le_trans c2 (rx_le (fun d => mt_le) _)
      have h7 : L.log2 ≤ 7 := lg_le (k := 7) (by omega)
      have hpd : ∀ x, x < 512 → pd x.log2 = ppD pp x.log2 := fun x hx => h.2.2.2 _ (by have := lg_le (n := x) (k := 8) hx; omega)
      have far : ∀ x, L ≤ mt la lm lw T n p x → x < 512 := fun x hx => by
        have : ¬ (p < x ∨ lw < x) := fun z => by rw [mt_far z] at hx; omega
        omega
      refine Or.inr ⟨a1, D, ⟨c, c1, c2, by rw [← c3]; exact (h.2.2.2 c c1).symm⟩, ?_, fun len c ho hx => by rw [← cmt_pp h hl.2.2 ho]; exact a4 len c ho hx, a5.1, a5.2.1, by rw [← hpd d (far d a5.2.1)]; exact a5.2.2.1, fun x x1 x2 z => a5.2.2.2 x x1 x2 ⟨z.1, by rw [hpd x (far x z.1)]; exact z.2⟩⟩
      show C p = pp 8 + pp (9 + L.log2) + D + C (p + L)
      rw [← h.2.1, ← h.2.2.1 _ (by omega)]; exact a3
  · exact Or.inr (Or.inl q)
  · exact Or.inr (Or.inr q)
theorem stepR_C {w la lm lw : Nat} {T : Nat → Nat} {n : Nat} {pb pa pl pd C C2 : Nat → Nat} {p L d : Nat} (hla : 1 ≤ la) (hp : p < n) (hC : w = 0 → ∀ j, p ≤ j → j ≤ n → C j = C2 j) (q : stepR w la lm lw T n pb pa pl pd C p L d) : stepR w la lm lw T n pb pa pl pd C2 p L d := by
  rcases q with ⟨w0, q⟩ | q | q
  · have hC := hC w0
    have hx : ∀ len c, c < 9 → la ≤ len → len ≤ rxc la lm lw T n p c → p ≤ p + len ∧ p + len ≤ n := fun len c h1 h2 h3 => by
      have h4 := rxc_mx (la := la) (lm := lm) (lw := lw) (T := T) (n := n) (p := p) h1
      have h5 : mx (mt la lm lw T n p) 511 ≤ n - p := mx_le (fun d => mt_n) _
      omega
    have hr : ∀ len c, cok la lm lw T n p len c → cmt pa pl pd C p len c = cmt pa pl pd C2 p len c := fun len c ho => by
      have := hx len c ho.1 ho.2.1 ho.2.2
      rw [cmt, cmt, hC _ (by omega) (by omega)]
    have hp0 := hC p (Nat.le_refl _) (by omega)
    refine Or.inl ⟨w0, ?_⟩
    rcases q with ⟨a1, a2, a3, a4⟩ | ⟨a1, D, ⟨c, c1, c2, c3⟩, a3, a4, a5⟩
    · exact Or.inl ⟨a1, a2, by rw [← hp0, ← hC (p + 1) (by omega) (by omega)]; exact a3, fun len c ho => by rw [← hp0, ← hr len c ho]; exact a4 len c ho⟩
    · have := hx L c c1 a1 c2
      exact Or.inr ⟨a1, D, ⟨c, c1, c2, c3⟩, by rw [← hp0, ← hC (p + L) (by omega) (by omega)]; exact a3, fun len c ho hl => by rw [← hp0, ← hr len c ho]; exact a4 len c ho hl, a5⟩
  · exact Or.inr (Or.inl q)
  · exact Or.inr (Or.inr q)
/-! a whole parse is one -/
theorem runR_det {w la lm lw : Nat} {T : Nat → Nat} {n : Nat} {pb pa pl pd C : Nat → Nat} {sp sl sd sp2 sl2 sd2 o1 o2 o3 : Nat → Nat} {k k2 : Nat} (hla : 2 ≤ la) (h : runR w la lm lw T n pb pa pl pd C sp sl sd k) (h2 : runR w la lm lw T n pb pa pl pd C sp2 sl2 sd2 k2) (e : pos sl k = n) (e2 : pos sl2 k2 = n) (ho : ∀ j, k ≤ j → sp j = o1 j ∧ sl j = o2 j ∧ sd j = o3 j) (ho2 : ∀ j, k2 ≤ j → sp2 j = o1 j ∧ sl2 j = o2 j ∧ sd2 j = o3 j) : k = k2 ∧ sp = sp2 ∧ sl = sl2 ∧ sd = sd2 := by
  have key : ∀ i, i ≤ k → i ≤ k2 → pos sl i = pos sl2 i ∧ ∀ j, j < i → sp j = sp2 j ∧ sl j = sl2 j ∧ sd j = sd2 j := by
    intro i
    induction i with
    | zero => exact fun _ _ => ⟨rfl, fun j hj => by omega⟩
    | succ i ih =>
      intro h3 h4
      obtain ⟨a, b⟩ := ih (by omega) (by omega)
      obtain ⟨c1, c2, c3⟩ := h i (by omega)
      obtain ⟨d1, d2, d3⟩ := h2 i (by omega)
      rw [← a] at d1 d3
      obtain ⟨u1, u2⟩ := stepR_uniq hla c3 d3
      refine ⟨by rw [pos, pos, a, u1], fun j hj => ?_⟩
      by_cases q : j = i
      · subst q; exact ⟨c1.trans d1.symm, u1, u2⟩
      · exact b j (by omega)
  have ek : k = k2 := by
    rcases Nat.lt_trichotomy k k2 with q | q | q
    · have := (key k (Nat.le_refl _) (by omega)).1; have := (h2 k q).2.1; omega
    · exact q
    · have := (key k2 (by omega) (Nat.le_refl _)).1; have := (h k2 q).2.1; omega
  subst ek
  have all := (key k (Nat.le_refl _) (Nat.le_refl _)).2
  refine ⟨rfl, funext fun j => ?_, funext fun j => ?_, funext fun j => ?_⟩ <;> rcases Nat.lt_or_ge j k with q | q
  · exact (all j q).1
  · exact (ho j q).1.trans (ho2 j q).1.symm
  · exact (all j q).2.1
  · exact (ho j q).2.1.trans (ho2 j q).2.1.symm
  · exact (all j q).2.2
  · exact (ho j q).2.2.trans (ho2 j q).2.2.symm
theorem runR_to {w la lm lw : Nat} {T : Nat → Nat} {n : Nat} {pb pa pl pd pp C C2 : Nat → Nat} {sp sl sd : Nat → Nat} {k : Nat} (hp : ppR pb pa pl pd pp) (hl : 2 ≤ la ∧ la ≤ lm ∧ lm ≤ 255) (hn : n ≤ 500) (hT : ∀ j, j < n → T j < 256) (hC : w = 0 → ∀ j, j ≤ n → C j = C2 j) (h : runR w la lm lw T n pb pa pl pd C sp sl sd k) : runR w la lm lw T n pp (ppA pp) (ppL pp) (ppD pp) C2 sp sl sd k := by
  intro i hi
  obtain ⟨a, b, c⟩ := h i hi
  exact ⟨a, b, stepR_C (by omega) b (fun w0 j h1 h2 => hC w0 j h2) (stepR_pp hp hl ⟨b, hn⟩ (hT _ b) c)⟩
theorem pri_pp {w la lm lw : Nat} {T : Nat → Nat} {n : Nat} {pb pa pl pd pp C : Nat → Nat} {sp sl sd : Nat → Nat} {k : Nat} (hp : ppR pb pa pl pd pp) (hl : 2 ≤ la ∧ la ≤ lm ∧ lm ≤ 255) (hn : n ≤ 500) (hT : ∀ j, j < n → T j < 256) (h : runR w la lm lw T n pb pa pl pd C sp sl sd k) : sm (fun j => pri T pb pa pl pd (pos sl j) (sl j) (sd j)) k = sm (fun j => pri T pp (ppA pp) (ppL pp) (ppD pp) (pos sl j) (sl j) (sd j)) k := by
  refine sm_up k (fun i hi => ?_)
  obtain ⟨a, b, c⟩ := h i hi
  have hTp := hT _ b
  show pri T pb pa pl pd (pos sl i) (sl i) (sd i) = pri T pp (ppA pp) (ppL pp) (ppD pp) (pos sl i) (sl i) (sd i)
  rcases stepR_ok hl c with ⟨e1, e2⟩ | ⟨e1, e2, e3, e4, e5, -⟩
  · rw [pri, pri, if_pos e2, if_pos e2]; exact hp.1 _ (by omega)
  · rw [pri, pri, if_neg (by omega), if_neg (by omega)]
    show pa 0 + pl (sl i).log2 + pd (sd i).log2 = pp 8 + pp (9 + (sl i).log2) + pp (17 + (sd i).log2)
    have h7 : (sl i).log2 ≤ 7 := lg_le (k := 7) (by omega)
    have h8 : (sd i).log2 ≤ 8 := lg_le (k := 8) (by omega)
    rw [hp.2.1, hp.2.2.1 _ (by omega), hp.2.2.2 _ (by omega)]
theorem run_tile {w la lm lw : Nat} {T P : Nat → Nat} {n : Nat} {pb pa pl pd C : Nat → Nat} {sp sl sd : Nat → Nat} {k : Nat} (hl : 2 ≤ la ∧ la ≤ lm ∧ lm ≤ 255) (ha : la ≤ 16) (h : runR w la lm lw T n pb pa pl pd C sp sl sd k) (e : pos sl k = n) : tile (cpy T P n) la sp sl sd k n := by
  refine ⟨e, fun _ => hl.1, fun _ => ha, fun i hi => ?_⟩
  obtain ⟨a, b, c⟩ := h i hi
  refine ⟨a, ?_⟩
  rcases stepR_ok hl c with ⟨e1, e2⟩ | ⟨e1, e2, e3, e4, e5, e6⟩
  · exact Or.inl ⟨e2, e1⟩
  · refine Or.inr ⟨e1, by rw [a]; exact e2, e3, e4, fun j hj => ?_⟩
    have := mt_rep e6 e5 j hj
    rw [a]
    simp only [cpy]
    rw [if_pos (by omega), if_pos (by omega)]
    exact this
/-! answers -/
theorem stA_det {P sp sl sd : Nat → Nat} {k : Nat} {i w r r2 : Int32} (hk : k ≤ 500) (h : stA P sp sl sd k i w r) (h2 : stA P sp sl sd k i w r2) : r = r2 := by
  rcases h with ⟨j, a1, a2, a3⟩ | ⟨a1, a2⟩ <;> rcases h2 with ⟨j2, b1, b2, b3⟩ | ⟨b1, b2⟩
  · have e : j = j2 := nI_inj (by omega) (by omega) (a2.symm.trans b2)
    subst e
    have ne : ∀ x y, x < 4 → y < 4 → w = nI x → w = nI y → x = y := fun x y hx hy e1 e2 => nI_inj (by omega) (by omega) (e1.symm.trans e2)
    rcases a3 with ⟨a4, rfl⟩ | ⟨a4, rfl⟩ | ⟨a4, rfl⟩ | ⟨a4, a5, rfl⟩ | ⟨a4, a5, rfl⟩ | ⟨a4, rfl⟩ <;> rcases b3 with ⟨b4, rfl⟩ | ⟨b4, rfl⟩ | ⟨b4, rfl⟩ | ⟨b4, b5, rfl⟩ | ⟨b4, b5, rfl⟩ | ⟨b4, rfl⟩ <;> first | rfl | (exact absurd (ne _ _ (by decide) (by decide) a4 b4) (by decide)) | (exact absurd a5 b5) | (exact absurd b5 a5) | (exact absurd a4 (b4 _ (by decide))) | (exact absurd b4 (a4 _ (by decide)))
  · exact absurd a2 (b1 j a1)
  · exact absurd b2 (a1 j2 b1)
  · exact a2.trans b2.symm
theorem tdA_det {k mc wp bt pn : Nat} {w r r2 : Int32} (h : tdA k mc wp bt pn w r) (h2 : tdA k mc wp bt pn w r2) : r = r2 := by
  have ne : ∀ x y, x < 5 → y < 5 → w = nI x → w = nI y → x = y := fun x y hx hy e1 e2 => nI_inj (by omega) (by omega) (e1.symm.trans e2)
  rcases h with ⟨a4, rfl⟩ | ⟨a4, rfl⟩ | ⟨a4, rfl⟩ | ⟨a4, rfl⟩ | ⟨a4, rfl⟩ | ⟨a4, rfl⟩ <;> rcases h2 with ⟨b4, rfl⟩ | ⟨b4, rfl⟩ | ⟨b4, rfl⟩ | ⟨b4, rfl⟩ | ⟨b4, rfl⟩ | ⟨b4, rfl⟩ <;> first | rfl | (exact absurd (ne _ _ (by decide) (by decide) a4 b4) (by decide)) | (exact absurd a4 (b4 _ (by decide))) | (exact absurd b4 (a4 _ (by decide)))
theorem atA_det {la lm lw : Nat} {T : Nat → Nat} {n : Nat} {pb pa pl pd pp : Nat → Nat} {p w r r2 : Int32} (hp : ppR pb pa pl pd pp) (hl : 2 ≤ la ∧ la ≤ lm ∧ lm ≤ 255) (hn : n ≤ 500) (hT : ∀ j, j < n → T j < 256) (h : atA la lm lw T n pb pa pl pd p w r) (h2 : atA la lm lw T n pp (ppA pp) (ppL pp) (ppD pp) p w r2) : r = r2 := by
  have ne : ∀ x y, x < 4 → y < 4 → w = nI x → w = nI y → x = y := fun x y hx hy e1 e2 => nI_inj (by omega) (by omega) (e1.symm.trans e2)
  have pe : ∀ i j, i ≤ n → j ≤ n → p = nI i → p = nI j → i = j := fun i j hi hj e1 e2 => nI_inj (by omega) (by omega) (e1.symm.trans e2)
  rcases h with ⟨j, a1, a2, a3, Y, a4, rfl⟩ | ⟨j, a1, a2, a3⟩ | ⟨a1, a2, rfl⟩ <;> rcases h2 with ⟨j2, b1, b2, b3, Y2, b4, rfl⟩ | ⟨j2, b1, b2, b3⟩ | ⟨b1, b2, rfl⟩
  · have e := pe j j2 a1 b1 a2 b2
    subst e
    rw [cTab_det (by omega) (cTab_pp hp hl.2.2 hT a4) b4 j a1]
  · rcases b3 with ⟨b4, -⟩ | ⟨b4, -⟩ | ⟨b4, -⟩ <;> exact absurd (ne _ _ (by decide) (by decide) a3 b4) (by decide)
  · exact absurd ⟨a2, a3⟩ (b1 j a1)
  · rcases a3 with ⟨a4, -⟩ | ⟨a4, -⟩ | ⟨a4, -⟩ <;> exact absurd (ne _ _ (by decide) (by decide) a4 b3) (by decide)
  · have e := pe j j2 (by omega) (by omega) a2 b2
    subst e
    rcases a3 with ⟨a4, rfl⟩ | ⟨a4, rfl⟩ | ⟨a4, rfl⟩ <;> rcases b3 with ⟨b4, rfl⟩ | ⟨b4, rfl⟩ | ⟨b4, rfl⟩ <;> first | (exact absurd (ne _ _ (by decide) (by decide) a4 b4) (by decide)) | rfl
  · rcases a3 with ⟨a4, -⟩ | ⟨a4, -⟩ | ⟨a4, -⟩ <;> exact absurd a4 (b2 j a1 a2 _ (by decide))
  · exact absurd ⟨b2, b3⟩ (a1 j2 b1)
  · rcases b3 with ⟨b4, -⟩ | ⟨b4, -⟩ | ⟨b4, -⟩ <;> exact absurd b4 (a2 j2 b1 b2 _ (by decide))
  · rfl
/-! bytes written, bits written -/
theorem pt_out {v : Nat} : ∀ (k : Nat) (w : Nat → Nat) (b j : Nat), j < b → pt v k w b j = w j
  | 0, w, b, j, _ => rfl
  | k + 1, w, b, j, h => by rw [pt, pt_out k _ _ j (by omega), up_n (by omega)]
theorem pt_in0 : ∀ (k : Nat) (w : Nat → Nat) (b j : Nat), b ≤ j → j < b + k → pt 0 k w b j = 0
  | 0, w, b, j, h1, h2 => by omega
  | k + 1, w, b, j, h1, h2 => by
    rw [pt]
    by_cases e : j = b
    · subst e; rw [pt_out _ _ _ _ (by omega), up_s, Nat.zero_div]
    · exact pt_in0 k _ _ j (by omega) (by omega)
theorem bv_pad {w : Nat → Nat} {k e : Nat} : ∀ m, (∀ i, e ≤ i → i < e + m → w (8 * k + i) = 0) → bv w k (e + m) = bv w k e * 2 ^ m
  | 0, _ => by rw [Nat.add_zero, Nat.pow_zero, Nat.mul_one]
  | m + 1, h => by rw [← Nat.add_assoc, bv, bv_pad m (fun i h1 h2 => h i h1 (by omega)), h _ (by omega) (by omega), Nat.pow_succ, Nat.add_zero, Nat.mul_comm 2, Nat.mul_assoc]
theorem wr_pad {f w : Nat → Nat} {b : Nat} (h : bwOK f b w) : ∀ k, k < (b + 7) / 8 → f k = bv (pad8 w b) k 8 := by
  intro k hk
  rw [h.2 k hk]
  have e : min 8 (b - 8 * k) + (8 - min 8 (b - 8 * k)) = 8 := by omega
  have h1 := bv_pad (w := pad8 w b) (k := k) (e := min 8 (b - 8 * k)) (8 - min 8 (b - 8 * k)) (fun i a c => pt_in0 _ _ _ _ (by omega) (by omega))
  rw [e] at h1
  have h2 : bv (pad8 w b) k (min 8 (b - 8 * k)) = bv w k (min 8 (b - 8 * k)) := bv_congr _ (fun j hj => pt_out _ _ _ _ (by omega))
  rw [h1, h2]
theorem wrA_det {f w : Nat → Nat} {wz : Nat} {i r : Int32} (hz : wz ≤ 700) (h : ∀ j, j < wz → f j = bv w j 8) (h2 : wrA w wz i r) : gt f wz i = r := by
  rcases h2 with ⟨j, a1, rfl, rfl⟩ | ⟨a1, rfl⟩
  · rw [gt_in a1 (by omega), h j a1]
  · rw [gt, if_neg]
    intro q
    obtain ⟨j, h1, rfl⟩ := nI_of (x := i) (Int32.not_lt.mpr q.1)
    exact a1 j ((nI_ltI (by omega) (by omega)).mp q.2) rfl
theorem wal_le1 {P : Nat → Nat} {q : Nat} {pl ln ds : Nat → Nat} {x : (Nat → Nat) × Nat} (h : ∀ j, x.1 j ≤ 1) : ∀ k j, (wal P q pl ln ds x k).1 j ≤ 1
  | 0, j => h j
  | k + 1, j => by
    have ih := wal_le1 (P := P) (q := q) (pl := pl) (ln := ln) (ds := ds) h k
    rw [wal, wst]
    split
    · exact pt_le1 _ _ _ (pt_le1 _ _ _ ih) j
    · exact pt_le1 _ _ _ (pt_le1 _ _ _ (pt_le1 _ _ _ (pt_le1 _ _ _ ih))) j
/-! reading over any draft -/
theorem agn_congr {d : Nat} : ∀ (k : Nat) (f g : Nat → Nat) (n : Nat), 1 ≤ d → d ≤ n → (∀ j, j < n → f j = g j) → ∀ j, j < n + k → agn d k f n j = agn d k g n j
  | 0, f, g, n, _, _, h, j, hj => h j (by omega)
  | k + 1, f, g, n, h1, h2, h, j, hj => by
    rw [agn, agn]
    refine agn_congr k _ _ (n + 1) h1 (by omega) (fun i hi => ?_) j (by omega)
    by_cases e : i = n
    · subst e; rw [up_s, up_s, h _ (by omega)]
    · rw [up_n e, up_n e]; exact h i (by omega)
def sameR (x y : Nat × Nat × Nat × (Nat → Nat)) : Prop := x.1 = y.1 ∧ x.2.1 = y.2.1 ∧ x.2.2.1 = y.2.2.1 ∧ ∀ j, j < x.2.2.1 → x.2.2.2 j = y.2.2.2 j
theorem rdM_same {L : Nat → Nat} {e la lm lw all b m : Nat} {f g : Nat → Nat} (h : ∀ j, j < m → f j = g j) : sameR (rdM L e la lm lw all b m f) (rdM L e la lm lw all b m g) := by
  have s0 : ∀ c, sameR (c, b, m, f) (c, b, m, g) := fun c => ⟨rfl, rfl, rfl, h⟩
  rw [rdM_of rfl, rdM_of rfl]
  repeat' split
  all_goals first | exact s0 _ | skip
  rename_i q1 q2 q3 q4 q5 q6 q7
  refine ⟨rfl, rfl, rfl, agn_congr _ _ _ _ ?_ (by omega) h⟩
  have := Nat.two_pow_pos (nb L (b + zer L b (min 9 (e - b)) + 1 + zer L b (min 9 (e - b))) 4)
  omega
theorem rdS_same {L : Nat → Nat} {e la lm lw all b m : Nat} {f g : Nat → Nat} (h : ∀ j, j < m → f j = g j) : sameR (rdS L e la lm lw all b m f) (rdS L e la lm lw all b m g) := by
  rw [rdS, rdS]
  split
  · exact ⟨rfl, rfl, rfl, h⟩
  · split
    · split
      · exact ⟨rfl, rfl, rfl, h⟩
      · refine ⟨rfl, rfl, rfl, fun j hj => ?_⟩
        show up f m _ j = up g m _ j
        by_cases q : j = m
        · subst q; rw [up_s, up_s]
        · rw [up_n q, up_n q]; exact h j (by show j < m; have : j < m + 1 := hj; omega)
    · exact rdM_same h
theorem rdL_same {L : Nat → Nat} {e la lm lw all : Nat} : ∀ (k b m : Nat) (f g : Nat → Nat), (∀ j, j < m → f j = g j) → sameR (rdL L e la lm lw all k b m f) (rdL L e la lm lw all k b m g)
  | 0, b, m, f, g, h => ⟨rfl, rfl, rfl, h⟩
  | k + 1, b, m, f, g, h => by
    obtain ⟨s1, s2, s3, s4⟩ := rdS_same (L := L) (e := e) (la := la) (lm := lm) (lw := lw) (all := all) (b := b) h
    rw [rdL, rdL]
    split
    · rw [← s1]
      split
      · rw [← s2, ← s3]; exact rdL_same k _ _ _ _ s4
      · exact ⟨s1, s2, s3, s4⟩
    · exact ⟨rfl, rfl, rfl, h⟩
theorem rdL_size {L : Nat → Nat} {e la lm lw all : Nat} (hla : 1 ≤ la) : ∀ (k b m : Nat) (f : Nat → Nat), m ≤ all → all ≤ m + k → (rdL L e la lm lw all k b m f).1 = 0 → all ≤ (rdL L e la lm lw all k b m f).2.2.1
  | 0, b, m, f, h1, h2, h3 => by show all ≤ m; omega
  | k + 1, b, m, f, h1, h2, h3 => by
    rw [rdL] at h3 ⊢
    split
    · rename_i q
      rw [if_pos q] at h3
      split
      · rename_i q2
        rw [if_pos q2] at h3
        have hg : m < (rdS L e la lm lw all b m f).2.2.1 := by
          rw [rdS] at q2 ⊢
          split
          · rename_i z; rw [if_pos z] at q2; simp at q2
          · rename_i z; rw [if_neg z] at q2
            split
            · rename_i z2; rw [if_pos z2] at q2
              split
              · rename_i z3; rw [if_pos z3] at q2; simp at q2
              · show m < m + 1; omega
            · rename_i z2; rw [if_neg z2] at q2
              exact rdM_grow hla q2 rfl
        rcases Nat.lt_or_ge all (rdS L e la lm lw all b m f).2.2.1 with z | z
        · rw [rdL_done (by omega)]; show all ≤ (rdS L e la lm lw all b m f).2.2.1; omega
        · exact rdL_size hla k _ _ _ z (by omega) h3
      · rename_i q2; rw [if_neg q2] at h3; exact absurd h3 q2
    · rename_i q; show all ≤ m; omega
theorem rdT_same {L : Nat → Nat} {e la lm lw : Nat} {f g RR : Nat → Nat} (hla : 1 ≤ la) : (rdT L e la lm lw f).1 = (rdT L e la lm lw g).1 ∧ ((rdT L e la lm lw f).1 = 0 → cpy (rdT L e la lm lw f).2 RR (nb L 0 16) = cpy (rdT L e la lm lw g).2 RR (nb L 0 16)) := by
  obtain ⟨s1, s2, s3, s4⟩ := rdL_same (L := L) (e := e) (la := la) (lm := lm) (lw := lw) (all := nb L 0 16) 500 16 0 f g (fun j hj => by omega)
  rw [rdT, rdT]
  split
  · exact ⟨rfl, fun h => by simp at h⟩
  · split
    · exact ⟨rfl, fun h => by simp at h⟩
    · rw [← s1]
      split
      · rename_i q1 q2 q3
        rw [← s2]
        refine ⟨rfl, fun _ => funext fun j => ?_⟩
        have hz := rdL_size (L := L) (e := e) (la := la) (lm := lm) (lw := lw) (all := nb L 0 16) hla 500 16 0 f (by omega) (by omega) q3
        simp only [cpy]
        split
        · rename_i q; exact s4 j (by omega)
        · rfl
      · rename_i q1 q2 q3
        exact ⟨rfl, fun h => absurd h q3⟩

section
/-! the law: rows of the script, and what the two answers have in common -/
section JS
variable {p : Program} {l : Launch} {e : Env} {R : Room} {s : State} {m : MethodId} {args : Array Value} {below : List Frame} {meth : Method} {c : Code} {H : Heap} {locs : List Loc} {cells slots : Nat} {Q : State → Prop}
variable {cc : ByteArray} {own nm : String} {Ts : List Cond} {nL pc : Nat} {ret : Option FieldType} {ls : Array Slot} {rest : List Value} {G : jG} {A : Nat → Prop} {ws : va_W}
theorem j_sld (hC : jC p s m args meth c cc own Ts nL ret nm) {b N : Nat} {xs : Nat → Int32} (hX : va_X b N xs s s.heap) (hbl : b < s.heap.size) (hbA : ¬ A b) (hI : jI G A s ws H locs) {i : Nat} (hi : i < N) (hN : N ≤ 2048) {v : Int32} (hv : xs i = v) (hdg : decode cc pc = .ok (.iaload, 1))
    (kk : W p l e R s m args below meth c H locs cells slots Q (F0 m (pc + 1) ls (.int v :: rest))) : W p l e R s m args below meth c H locs cells slots Q (F0 m pc ls (.int (nI i) :: .ref b :: rest)) := by
  refine va_sld hC.1 hC.2.1 hX hbl hbA hI.2.2.2.1 (vp_in_nI hi (by omega)) hdg ?_
  rw [nI_clamp (by omega), hv]
  exact kk
theorem j_slen (hC : jC p s m args meth c cc own Ts nL ret nm) {b N : Nat} {xs : Nat → Int32} (hX : va_X b N xs s s.heap) (hbl : b < s.heap.size) (hbA : ¬ A b) (hI : jI G A s ws H locs) (hdg : decode cc pc = .ok (.arraylength, 1))
    (kk : W p l e R s m args below meth c H locs cells slots Q (F0 m (pc + 1) ls (.int (nI N) :: rest))) : W p l e R s m args below meth c H locs cells slots Q (F0 m pc ls (.ref b :: rest)) :=
  va_slen hC.1 hC.2.1 hX hbl hbA hI.2.2.2.1 hdg kk
theorem j_and15 (hC : jC p s m args meth c cc own Ts nL ret nm) {x : Int32} (hdg : decode cc pc = .ok (.iand, 1))
    (kk : ∀ k, k < 16 → W p l e R s m args below meth c H locs cells slots Q (F0 m (pc + 1) ls (.int (nI k) :: rest))) : W p l e R s m args below meth c H locs cells slots Q (F0 m pc ls (.int (nI 15) :: .int x :: rest)) :=
  lv_iand hC.1 hC.2.1 hdg (by rw [pk_and x 4 (by decide)]; exact kk _ (Nat.mod_lt _ (by decide)))
end JS
theorem lw_ge {N i : Nat} (hN : N ≤ 2048) (hi : i ≤ 3000) (h : ¬ (nI N - nI 4 < nI i)) : i + 4 ≤ N := by
  rcases Nat.lt_or_ge N 4 with q | q
  · have h1 : nI N - nI 4 < 0 := by rcases (show N = 0 ∨ N = 1 ∨ N = 2 ∨ N = 3 by omega) with rfl | rfl | rfl | rfl <;> decide
    exact absurd (Int32.lt_of_lt_of_le h1 (nI_ge0 (by omega))) h
  · rw [pk_sub q] at h
    exact Nat.le_of_not_lt (fun z => h ((nI_ltI (by omega) (by omega)).mpr (by omega)))
theorem lw_way (x : Int32) : x = nI 0 ∨ x = nI 1 ∨ x = nI 2 ∨ (x ≠ nI 0 ∧ x ≠ nI 1 ∧ x ≠ nI 2) := by
  by_cases h0 : x = nI 0
  · exact Or.inl h0
  · by_cases h1 : x = nI 1
    · exact Or.inr (Or.inl h1)
    · by_cases h2 : x = nI 2
      · exact Or.inr (Or.inr (Or.inl h2))
      · exact Or.inr (Or.inr (Or.inr ⟨h0, h1, h2⟩))
theorem lw_md {md k bb : Nat} (h : md ≤ 1 ∧ (md = 0 → k = 0 ∧ bb = 0)) : (md = 0 ∧ k = 0 ∧ bb = 0) ∨ md = 1 := by
  rcases (show md = 0 ∨ md = 1 by omega) with q | q
  · exact Or.inl ⟨q, (h.2 q).1, (h.2 q).2⟩
  · exact Or.inr q
theorem tile_ok {P : Nat → Nat} {q : Nat} {sp sl sd : Nat → Nat} {k pn : Nat} (h : tile P q sp sl sd k pn) (hn : pn ≤ 500) : ∀ j, j < k → sp j < pn ∧ sd j < 1000 := by
  intro j hj
  obtain ⟨z1, z2, z3, z4⟩ := tile_i h hj
  rcases z1.2 with z | z <;> omega
theorem par_det {w la lm lw : Nat} {T : Nat → Nat} {n : Nat} {pb pa pl pd pp C C2 : Nat → Nat} {s1 s2 s3 t1 t2 t3 o1 o2 o3 : Nat → Nat} {k k2 wp wp2 bt bt2 : Nat} (hp : ppR pb pa pl pd pp) (hl : 2 ≤ la ∧ la ≤ lm ∧ lm ≤ 255) (hn : n ≤ 500) (hT : ∀ j, j < n → T j < 256) (hC : w = 0 → ∀ j, j ≤ n → C j = C2 j)
    (h : runR w la lm lw T n pb pa pl pd C s1 s2 s3 k) (h2 : runR w la lm lw T n pp (ppA pp) (ppL pp) (ppD pp) C2 t1 t2 t3 k2) (e : pos s2 k = n) (e2 : pos t2 k2 = n) (ho : ∀ j, k ≤ j → s1 j = o1 j ∧ s2 j = o2 j ∧ s3 j = o3 j) (ho2 : ∀ j, k2 ≤ j → t1 j = o1 j ∧ t2 j = o2 j ∧ t3 j = o3 j)
    (hw : wp = sm (fun j => pri T pb pa pl pd (pos s2 j) (s2 j) (s3 j)) k) (hw2 : wp2 = sm (fun j => pri T pp (ppA pp) (ppL pp) (ppD pp) (pos t2 j) (t2 j) (t3 j)) k2) (hb : bt = 16 + sm (fun j => bts la (s2 j) (s3 j)) k) (hb2 : bt2 = 16 + sm (fun j => bts la (t2 j) (t3 j)) k2) :
    k = k2 ∧ s1 = t1 ∧ s2 = t2 ∧ s3 = t3 ∧ wp = wp2 ∧ bt = bt2 := by
  obtain ⟨rfl, rfl, rfl, rfl⟩ := runR_det hl.1 (runR_to hp hl hn hT hC h) h2 e e2 ho ho2
  exact ⟨rfl, rfl, rfl, rfl, by rw [hw, hw2, pri_pp hp hl hn hT h], by rw [hb, hb2]⟩
theorem rd_det {L : Nat → Nat} {e la lm lw : Nat} {g dr RR R1 R2 : Nat → Nat} {ar rn ar2 rn2 : Nat} {tz tz2 : Int32} (hla : 1 ≤ la) (h0 : (ar = 0 ∧ tz = -1) ∨ (ar = 1 ∧ tz = nI rn ∧ rn ≤ 500))
    (h1 : ((rdT L e la lm lw g).1 = 0 ∧ nb L 0 16 ≤ 500 ∧ ar2 = 1 ∧ rn2 = nb L 0 16 ∧ R1 = cpy (rdT L e la lm lw g).2 RR (nb L 0 16)) ∨ ((rdT L e la lm lw g).1 ≠ 0 ∧ ar2 = ar ∧ rn2 = rn ∧ R1 = RR))
    (h2 : ((rdT L e la lm lw dr).1 = 0 ∧ nb L 0 16 ≤ 500 ∧ tz2 = nI (nb L 0 16) ∧ R2 = cpy (rdT L e la lm lw dr).2 RR (nb L 0 16)) ∨ ((rdT L e la lm lw dr).1 ≠ 0 ∧ tz2 = tz ∧ R2 = RR)) :
    (rdT L e la lm lw g).1 = (rdT L e la lm lw dr).1 ∧ R1 = R2 ∧ ((ar2 = 0 ∧ tz2 = -1) ∨ (ar2 = 1 ∧ tz2 = nI rn2 ∧ rn2 ≤ 500)) := by
  obtain ⟨s1, s2⟩ := rdT_same (L := L) (e := e) (la := la) (lm := lm) (lw := lw) (f := g) (g := dr) (RR := RR) hla
  refine ⟨s1, ?_⟩
  rcases h1 with ⟨a1, a2, a3, a4, a5⟩ | ⟨a1, a3, a4, a5⟩ <;> rcases h2 with ⟨b1, b2, b3, b4⟩ | ⟨b1, b3, b4⟩
  · exact ⟨by rw [a5, b4]; exact s2 a1, Or.inr ⟨a3, by rw [b3, a4], by omega⟩⟩
  · exact absurd (s1.symm.trans a1) b1
  · exact absurd (s1.trans b1) a1
  · exact ⟨a5.trans b4.symm, by rw [a3, b3, a4]; exact h0⟩
end

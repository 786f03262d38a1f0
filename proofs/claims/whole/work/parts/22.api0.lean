theorem rn_mc {sd : Nat → Nat} {k d m m2 : Nat} (h : m = mcn sd k) (h2 : m2 = m + (if d = 0 then 0 else 1)) : m2 = mcn (up sd k d) (k + 1) := by
  rw [mcn, mcn_up _ (Nat.le_refl _), up_s, h2, h]
  by_cases e : d = 0
  · rw [if_pos e, if_neg (by omega)]; rfl
  · rw [if_neg e, if_pos (by omega)]
theorem rn_wp {T pb pa pl pd sl sd : Nat → Nat} {k p L d w w2 : Nat} (h : w = sm (fun j => pri T pb pa pl pd (pos sl j) (sl j) (sd j)) k) (hp : p = pos sl k) (h2 : w2 = w + pri T pb pa pl pd p L d) : w2 = sm (fun j => pri T pb pa pl pd (pos (up sl k L) j) (up sl k L j) (up sd k d j)) (k + 1) := by
  rw [sm, pos_up _ (Nat.le_refl _), up_s, up_s, ← hp, h2, h]
  congr 1
  exact sm_up k (fun i hi => by rw [pos_up _ (by omega), up_n (by omega), up_n (by omega)])
theorem rn_bt {sl sd : Nat → Nat} {q k L d w w2 : Nat} (h : w = 16 + sm (fun j => bts q (sl j) (sd j)) k) (h2 : w2 = w + bts q L d) : w2 = 16 + sm (fun j => bts q (up sl k L j) (up sd k d j)) (k + 1) := by
  have e : sm (fun j => bts q (up sl k L j) (up sd k d j)) k = sm (fun j => bts q (sl j) (sd j)) k := sm_up k (fun i hi => by show bts q (up sl k L i) (up sd k d i) = bts q (sl i) (sd i); rw [up_n (by omega), up_n (by omega)])
  rw [sm, up_s, up_s, e, h2, h]
  omega
theorem rn_pos {sl : Nat → Nat} {k L p : Nat} (h : p = pos sl k) : p + L = pos (up sl k L) (k + 1) := by
  rw [pos, pos_up _ (Nat.le_refl _), up_s, h]
theorem rn_old {e1 e2 e3 sp sl sd : Nat → Nat} {i a b c : Nat} (h : ∀ j, i ≤ j → e1 j = sp j ∧ e2 j = sl j ∧ e3 j = sd j) : ∀ j, i + 1 ≤ j → up e1 i a j = sp j ∧ up e2 i b j = sl j ∧ up e3 i c j = sd j := by
  intro j hj
  rw [up_n (by omega), up_n (by omega), up_n (by omega)]
  exact h j (by omega)
/-- the answer of step -/
def stA (P sp sl sd : Nat → Nat) (k : Nat) (i w r : Int32) : Prop :=
  (∃ j, j < k ∧ i = nI j ∧ ((w = nI 0 ∧ r = nI (sp j)) ∨ (w = nI 1 ∧ r = nI (sl j)) ∨ (w = nI 2 ∧ r = nI (sd j)) ∨ (w = nI 3 ∧ sd j = 0 ∧ r = nI (P (sp j))) ∨ (w = nI 3 ∧ sd j ≠ 0 ∧ r = (-1)) ∨ ((∀ x, x < 4 → w ≠ nI x) ∧ r = (-1)))) ∨ ((∀ j, j < k → i ≠ nI j) ∧ r = (-1))
theorem in_or (i : Int32) (k : Nat) : (∃ j, j < k ∧ i = nI j) ∨ (∀ j, j < k → i ≠ nI j) := by
  by_cases h : ∃ j, j < k ∧ i = nI j
  · exact Or.inl h
  · exact Or.inr (fun j hj e => h ⟨j, hj, e⟩)
theorem sw_no {w : Int32} {n : Nat} (hn : n < 100) (h : w.toInt < 0 ∨ (n : Int) - 1 < w.toInt) : ∀ x, x < n → w ≠ nI x := by
  rintro x hx rfl
  rw [nI_toInt (by omega)] at h; omega
/-- the answer of told -/
def tdA (k mc wp bt pn : Nat) (w r : Int32) : Prop := (w = nI 0 ∧ r = nI k) ∨ (w = nI 1 ∧ r = nI mc) ∨ (w = nI 2 ∧ r = nI wp) ∨ (w = nI 3 ∧ r = nI bt) ∨ (w = nI 4 ∧ r = nI pn) ∨ ((∀ x, x < 5 → w ≠ nI x) ∧ r = (-1))
/-- the answer of at -/
def atA (la lm lw : Nat) (T : Nat → Nat) (n : Nat) (pb pa pl pd : Nat → Nat) (p w r : Int32) : Prop :=
  (∃ j, j ≤ n ∧ p = nI j ∧ w = nI 3 ∧ ∃ Y, cTab la lm lw T n pb pa pl pd Y ∧ r = nI (Y j)) ∨
  (∃ j, j < n ∧ p = nI j ∧ ((w = nI 0 ∧ r = nI (mx (mt la lm lw T n j) 511)) ∨ (w = nI 1 ∧ r = nI (nrs (mt la lm lw T n j) 511)) ∨ (w = nI 2 ∧ r = nI (ct (mt la lm lw T n j) 511)))) ∨
  ((∀ j, j ≤ n → ¬ (p = nI j ∧ w = nI 3)) ∧ (∀ j, j < n → p = nI j → ∀ x, x < 3 → w ≠ nI x) ∧ r = (-1))
theorem fstL_lt {L : Nat → Nat} {e la lm lw all : Nat} : ∀ (k b m : Nat) (f : Nat → Nat), (rdL L e la lm lw all k b m f).1 ≤ 5
  | 0, b, m, f => by simp [rdL]
  | k + 1, b, m, f => by
    rw [rdL]; split
    · split
      · exact fstL_lt k _ _ _
      · exact fstS_lt
    · simp
theorem fstT_lt {L : Nat → Nat} {e la lm lw : Nat} {f : Nat → Nat} : (rdT L e la lm lw f).1 ≤ 5 := by
  rw [rdT]; split
  · simp
  · split
    · simp
    · split
      · show rdB L e _ ≤ 5
        rw [rdB]; split <;> omega
      · exact fstL_lt _ _ _ _
/-- the answer of taken -/
def tkA (RR : Nat → Nat) (rn : Nat) (k : Int32) : Int32 := if k = (-1) then nI rn else gt RR rn k

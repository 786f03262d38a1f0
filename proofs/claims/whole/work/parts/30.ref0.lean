/-! rows for arrays of short and boolean, of naturals -/
section JR2
variable {p : Program} {l : Launch} {e : Env} {R : Room} {s : State} {m : MethodId} {args : Array Value} {below : List Frame} {meth : Method} {c : Code} {H : Heap} {locs : List Loc} {cells slots : Nat} {Q : State → Prop}
variable {cc : ByteArray} {own nm : String} {Ts : List Cond} {nL pc : Nat} {ret : Option FieldType} {ls : Array Slot} {rest : List Value} {G : jG} {A : Nat → Prop} {ws : va_W}
theorem nar_s : ∀ x, x < 600 → vp_nar .short (nI x) = nI x := by decide +kernel
theorem i2s_s : ∀ x, x < 600 → (nI x).toInt16.toInt32 = nI x := by decide +kernel
theorem nar_z : ∀ x, x < 2 → vp_nar .boolean (nI x) = nI x := by decide +kernel
theorem j_sast (hC : jC p s m args meth c cc own Ts nL ret nm) (hI : jI G A s ws H locs) (q0 : Nat) {a n i x : Nat} {g : Nat → Nat} (ha : ws[q0]? = some (aS G a n g)) (hi : i < n) (hn : n < 2147483648) (hx : x < 600) (hdg : decode cc pc = .ok (.sastore, 1)) {w1 : va_W} (hw : ws.set q0 (aS G a n (up g i x)) = w1)
    (kk : ∀ (H1 : Heap) (locs1 : List Loc), jI G A s w1 H1 locs1 → W p l e R s m args below meth c H1 locs1 cells slots Q (F0 m (pc + 1) ls rest)) : W p l e R s m args below meth c H locs cells slots Q (F0 m pc ls (.int (nI x) :: .int (nI i) :: .ref a :: rest)) := by
  subst hw
  obtain ⟨hK, hP, hD, hS, hA, hN⟩ := hI
  refine va_sast hC.1 hC.2.1 hK hP hD hS q0 1 ha rfl (vp_in_nI hi (by omega)) hdg (fun H1 locs1 hP hD hS => ?_)
  rw [nI_clamp (by omega), nar_s x hx, nr_up] at hP hD
  exact kk H1 locs1 ⟨hK, hP, hD, hS, hA, hN⟩
theorem j_zast (hC : jC p s m args meth c cc own Ts nL ret nm) (hI : jI G A s ws H locs) (q0 : Nat) {a n i x : Nat} {g : Nat → Nat} (ha : ws[q0]? = some (aZ G a n g)) (hi : i < n) (hn : n < 2147483648) (hx : x < 2) (hdg : decode cc pc = .ok (.bastore, 1)) {w1 : va_W} (hw : ws.set q0 (aZ G a n (up g i x)) = w1)
    (kk : ∀ (H1 : Heap) (locs1 : List Loc), jI G A s w1 H1 locs1 → W p l e R s m args below meth c H1 locs1 cells slots Q (F0 m (pc + 1) ls rest)) : W p l e R s m args below meth c H locs cells slots Q (F0 m pc ls (.int (nI x) :: .int (nI i) :: .ref a :: rest)) := by
  subst hw
  obtain ⟨hK, hP, hD, hS, hA, hN⟩ := hI
  refine va_zast hC.1 hC.2.1 hK hP hD hS q0 2 ha rfl (vp_in_nI hi (by omega)) hdg (fun H1 locs1 hP hD hS => ?_)
  rw [nI_clamp (by omega), nar_z x hx, nr_up] at hP hD
  exact kk H1 locs1 ⟨hK, hP, hD, hS, hA, hN⟩
theorem j_i2s (hC : jC p s m args meth c cc own Ts nL ret nm) {x : Nat} (hx : x < 600) (hdg : decode cc pc = .ok (.i2s, 1))
    (kk : W p l e R s m args below meth c H locs cells slots Q (F0 m (pc + 1) ls (.int (nI x) :: rest))) : W p l e R s m args below meth c H locs cells slots Q (F0 m pc ls (.int (nI x) :: rest)) := lv_i2s hC.1 hC.2.1 hdg (i2s_s x hx) kk
theorem j_alenS (hC : jC p s m args meth c cc own Ts nL ret nm) (hI : jI G A s ws H locs) (q0 : Nat) {a n : Nat} {g : Nat → Nat} (ha : ws[q0]? = some (aS G a n g)) (hdg : decode cc pc = .ok (.arraylength, 1))
    (kk : W p l e R s m args below meth c H locs cells slots Q (F0 m (pc + 1) ls (.int (nI n) :: rest))) : W p l e R s m args below meth c H locs cells slots Q (F0 m pc ls (.ref a :: rest)) :=
  va_alen hC.1 hC.2.1 hI.1 hI.2.1 q0 1 ha rfl (v := nI n) rfl hdg kk
end JR2
/-- the reference's one row of prices as four -/
def ppA (pp : Nat → Nat) : Nat → Nat := fun _ => pp 8
def ppL (pp : Nat → Nat) : Nat → Nat := fun j => pp (9 + j)
def ppD (pp : Nat → Nat) : Nat → Nat := fun j => pp (17 + j)
theorem lg_2 {x : Nat} (h : 1 < x) : x.log2 = (x / 2).log2 + 1 := by
  obtain ⟨a, b⟩ := lg_self (d := x / 2) (by omega)
  refine (Nat.log2_eq_iff (by omega)).mpr ⟨?_, ?_⟩
  · rw [Nat.pow_succ]; omega
  · rw [Nat.pow_succ]; omega
theorem lg_1 {x : Nat} (h : x ≤ 1) : x.log2 = 0 := by
  rcases (show x = 0 ∨ x = 1 by omega) with rfl | rfl <;> decide
/-- a price told to the reference, or refused -/
def ppB (w : Nat) : Nat := if w = 0 then 0 else if w = 1 then 8 else if w = 2 then 9 else 17
def pr_rel2 (pp : Nat → Nat) (w k v r : Int32) (pp2 : Nat → Nat) : Prop :=
  (∃ i j x, 1 ≤ x ∧ x ≤ 1000 ∧ k = nI j ∧ v = nI x ∧ r = nI 1 ∧ w = nI i ∧ ((i = 0 ∧ j < 8) ∨ (i = 1 ∧ j < 1) ∨ (i = 2 ∧ j < 8) ∨ (i = 3 ∧ j < 9)) ∧ pp2 = up pp (ppB i + j) x) ∨
  ((∀ j x, 1 ≤ x → x ≤ 1000 → k = nI j → v = nI x → ¬ ((w = nI 0 ∧ j < 8) ∨ (w = nI 1 ∧ j < 1) ∨ (w = nI 2 ∧ j < 8) ∨ (w = nI 3 ∧ j < 9))) ∧ r = nI 0 ∧ pp2 = pp)

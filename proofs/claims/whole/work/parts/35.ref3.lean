theorem hin_X9_longestAt_X9 : ∀ w ∈ wsX90, w ∈ wsX9_longestAt := by decide +kernel
theorem hfl_X9_longestAt_68 : Cond.fieldLink RX9 68 "CheapParseModel" "length" "I" ∈ wsX9_longestAt := by decide +kernel
set_option maxHeartbeats 4000000 in
set_option maxRecDepth 100000 in
theorem c_X9_longestAt (zl : Launch) (G : jG) (y0 : Nat) (r1 : Nat) (r2 : Nat) (r3 : Nat) (r4 : Nat) (r5 : Nat) (r6 : Nat) (r7 : Nat) (r8 : Nat) (r9 : Nat) (r10 : Nat) (r11 : Nat) (r12 : Nat) (r13 : Nat) (n : Nat) (la : Nat) (lm : Nat) (lw : Nat) (kn : Nat) (k : Nat) (wp : Nat) (bt : Nat) (pn : Nat) (q : Nat) (th : Nat) (os : Nat) (wz : Nat) (sz : Nat) (ia : Nat) (ft : Nat) (tz : Int32) (T : Nat → Nat) (cm : Nat → Nat) (p : Nat) (hn : n ≤ 500) (hl0 : 2 ≤ la ∧ la ≤ lm ∧ lm ≤ 255 ∧ lw ≤ 500) (hp : p ≤ n) (hc : p < n → cmO T n cm p) : jMet zl yX9_longestAt wsX9_longestAt ({ frames := 1, cells := 0, slots := 0, locals := 23 }) G [oC y0 9 [.int (nI 0), .ref r1, .int (nI n), .int (nI la), .int (nI lm), .int (nI lw), .ref r2, .ref r3, .ref r4, .int (nI kn), .ref r5, .ref r6, .ref r7, .int (nI k), .int (nI wp), .int (nI bt), .ref r8, .int (nI pn), .int (nI q), .int (nI th), .ref r9, .int (nI os), .int (nI wz), .ref r10, .int (nI sz), .int (nI ia), .ref r11, .ref r12, .int tz, .ref r13, .int (nI ft)], aS G r3 251502 cm] [.ref y0, .int (nI p)] (jQi G (fun (r : Int32) (u : Unit) => (r = nI (lgA la lm lw T n p))) (fun (u : Unit) => [oC y0 9 [.int (nI 0), .ref r1, .int (nI n), .int (nI la), .int (nI lm), .int (nI lw), .ref r2, .ref r3, .ref r4, .int (nI kn), .ref r5, .ref r6, .ref r7, .int (nI k), .int (nI wp), .int (nI bt), .ref r8, .int (nI pn), .int (nI q), .int (nI th), .ref r9, .int (nI os), .int (nI wz), .ref r10, .int (nI sz), .int (nI ia), .ref r11, .ref r12, .int tz, .ref r13, .int (nI ft)], aS G r3 251502 cm])) 0 0 := by
  refine j_enter_i (cc := cX9_longestAt) (nL := 4) (nm := "longestAt") (own := RX9) (lv := [(0, .ref y0), (1, .int (nI p))]) (by decide) rfl (Nat.le_of_ble_eq_true rfl) rfl rfl rfl ?_
  intro zA zp ze zs zm zargs zbelow zmeth zc zQ ls hC hQ hI hl
  have zx := hC.1
  have zb := hC.2.1
  refine lv_iconst (v := nI 0) zx zb dX9_longestAt_0 (by decide) ?_
  refine lv_istore_n (lv' := [(2, .int (nI 0)), (0, .ref y0), (1, .int (nI p))]) zx zb dX9_longestAt_1 rfl hl (by decide) rfl (fun ls hl => ?_)
  refine lv_iconst (v := nI 1) zx zb dX9_longestAt_2 (by decide) ?_
  refine lv_istore_n (lv' := [(3, .int (nI 1)), (2, .int (nI 0)), (0, .ref y0), (1, .int (nI p))]) zx zb dX9_longestAt_3 rfl hl (by decide) rfl (fun ls hl => ?_)
  have loop4 : ∀ (zn4 : Nat) (d : Nat) (b : Nat), (1 ≤ d ∧ d ≤ p + 1 ∧ (p < n ∨ d = 1)) → (b = mx (mt la lm lw T n p) (d - 1)) → (p + 1 - d) < zn4 → ∀ (H : Heap) (locs : List Loc) (ls : Array Slot), jI G zA zs [oC y0 9 [.int (nI 0), .ref r1, .int (nI n), .int (nI la), .int (nI lm), .int (nI lw), .ref r2, .ref r3, .ref r4, .int (nI kn), .ref r5, .ref r6, .ref r7, .int (nI k), .int (nI wp), .int (nI bt), .ref r8, .int (nI pn), .int (nI q), .int (nI th), .ref r9, .int (nI os), .int (nI wz), .ref r10, .int (nI sz), .int (nI ia), .ref r11, .ref r12, .int tz, .ref r13, .int (nI ft)], aS G r3 251502 cm] H locs → lv_has ls 4 [(0, .ref y0), (1, .int (nI p)), (2, .int (nI b)), (3, .int (nI d))] → W zp zl ze ({ frames := 1, cells := 0, slots := 0, locals := 23 }) zs zm zargs zbelow zmeth zc H locs 0 0 zQ (F0 zm 4 ls []) := by
    intro zn4
    induction zn4 with
    | zero => intros; omega
    | succ zn4 ih4 =>
      intro d b hd hb zm4 H locs ls hI hl
      have hb1 : mx (mt la lm lw T n p) (d - 1) ≤ lm := mx_le (fun d => mt_le) _
      have hb2 : mt la lm lw T n p d ≤ lm := mt_le
      refine lv_iload_n zx zb dX9_longestAt_4 rfl (lv_at hl 3 rfl) ?_
      refine lv_iload_n zx zb dX9_longestAt_5 rfl (lv_at hl 1 rfl) ?_
      refine j_icmp_gt (tgt := 44) hC dX9_longestAt_6 (by decide) (by omega) (by omega) (fun c6 => ?_) (fun c6 => ?_)
      · refine lv_iload_n zx zb dX9_longestAt_44 rfl (lv_at hl 2 rfl) ?_
        exact hQ _ _ _ _ _ () dX9_longestAt_45 (hI.sub [0, 1] rfl rfl) (by rw [lgA]; split; rw [mx_p (by omega), hb, show d - 1 = p by omega]; rw [hb, show d - 1 = 0 by omega]; rfl)
      · refine lv_iload_n zx zb dX9_longestAt_9 rfl (lv_at hl 1 rfl) ?_
        refine lv_aload_n zx zb dX9_longestAt_10 rfl (lv_at hl 0 rfl) ?_
        refine j_get hC hI hin_X9_longestAt_X9 0 rfl rfl 2 (by decide) hfl_X9_longestAt_68 rfl rfl dX9_longestAt_11 ?_
        refine j_icmp_ge (tgt := 44) hC dX9_longestAt_14 (by decide) (by omega) (by omega) (fun c14 => ?_) (fun c14 => ?_)
        · refine lv_iload_n zx zb dX9_longestAt_44 rfl (lv_at hl 2 rfl) ?_
          exact hQ _ _ _ _ _ () dX9_longestAt_45 (hI.sub [0, 1] rfl rfl) (by rw [lgA, if_neg (by omega), hb, show d - 1 = 0 by omega]; rfl)
        · refine lv_aload_n zx zb dX9_longestAt_17 rfl (lv_at hl 0 rfl) ?_
          refine lv_iload_n zx zb dX9_longestAt_18 rfl (lv_at hl 1 rfl) ?_
          refine lv_iload_n zx zb dX9_longestAt_19 rfl (lv_at hl 3 rfl) ?_
          refine j_callVi (wr := []) hC hI (c_X9_longest zl G y0 r1 r2 r3 r4 r5 r6 r7 r8 r9 r10 r11 r12 r13 n la lm lw kn k wp bt pn q th os wz sz ia ft tz T cm p d (by omega) (by omega) (by omega) (by omega) (hc (by omega))) (cwV 2 hC.2.2.2.2.1 gX9_longestAt_X9_longest rfl rfl rfl (by decide +kernel) ⟨Nat.le_of_ble_eq_true rfl, Nat.le_of_ble_eq_true rfl⟩) [0, 1] [] rfl rfl rfl rfl rfl rfl (q0 := 0) rfl rfl rfl hl.1 (Nat.le_of_ble_eq_true rfl) dX9_longestAt_20 ⟨Nat.le_of_ble_eq_true rfl, Nat.le_of_ble_eq_true rfl⟩ (fun rv20 u20 H locs hp20 hI => ?_)
          have hI : jI G zA zs [oC y0 9 [.int (nI 0), .ref r1, .int (nI n), .int (nI la), .int (nI lm), .int (nI lw), .ref r2, .ref r3, .ref r4, .int (nI kn), .ref r5, .ref r6, .ref r7, .int (nI k), .int (nI wp), .int (nI bt), .ref r8, .int (nI pn), .int (nI q), .int (nI th), .ref r9, .int (nI os), .int (nI wz), .ref r10, .int (nI sz), .int (nI ia), .ref r11, .ref r12, .int tz, .ref r13, .int (nI ft)], aS G r3 251502 cm] H locs := hI
          subst hp20
          refine lv_iload_n zx zb dX9_longestAt_23 rfl (lv_at hl 2 rfl) ?_
          refine j_icmp_le (tgt := 36) hC dX9_longestAt_24 (by decide) (by omega) (by omega) (fun c24 => ?_) (fun c24 => ?_)
          · refine lv_iload_n zx zb dX9_longestAt_36 rfl (lv_at hl 2 rfl) ?_
            refine lv_istore_n (lv' := [(2, .int (nI b)), (0, .ref y0), (1, .int (nI p)), (3, .int (nI d))]) zx zb dX9_longestAt_37 rfl hl (by decide) rfl (fun ls hl => ?_)
            refine lv_iinc (v := nI (d + 1)) (lv' := [(3, .int (nI (d + 1))), (2, .int (nI b)), (0, .ref y0), (1, .int (nI p))]) zx zb dX9_longestAt_38 hl (k := 3) rfl (j_inc _ _ _ (by decide)) (by decide) rfl (fun ls hl => ?_)
            refine lv_goto (tgt := 4) zx zb dX9_longestAt_41 (by decide) ?_
            exact ih4 (d + 1) b (by omega) (by rw [mx_at (by omega), ← hb]; omega) (by omega) _ _ _ hI (lv_sub hl [2, 3, 1, 0] rfl)
          · refine lv_aload_n zx zb dX9_longestAt_27 rfl (lv_at hl 0 rfl) ?_
            refine lv_iload_n zx zb dX9_longestAt_28 rfl (lv_at hl 1 rfl) ?_
            refine lv_iload_n zx zb dX9_longestAt_29 rfl (lv_at hl 3 rfl) ?_
            refine j_callVi (wr := []) hC hI (c_X9_longest zl G y0 r1 r2 r3 r4 r5 r6 r7 r8 r9 r10 r11 r12 r13 n la lm lw kn k wp bt pn q th os wz sz ia ft tz T cm p d (by omega) (by omega) (by omega) (by omega) (hc (by omega))) (cwV 2 hC.2.2.2.2.1 gX9_longestAt_X9_longest rfl rfl rfl (by decide +kernel) ⟨Nat.le_of_ble_eq_true rfl, Nat.le_of_ble_eq_true rfl⟩) [0, 1] [] rfl rfl rfl rfl rfl rfl (q0 := 0) rfl rfl rfl hl.1 (Nat.le_of_ble_eq_true rfl) dX9_longestAt_30 ⟨Nat.le_of_ble_eq_true rfl, Nat.le_of_ble_eq_true rfl⟩ (fun rv30 u30 H locs hp30 hI => ?_)
            have hI : jI G zA zs [oC y0 9 [.int (nI 0), .ref r1, .int (nI n), .int (nI la), .int (nI lm), .int (nI lw), .ref r2, .ref r3, .ref r4, .int (nI kn), .ref r5, .ref r6, .ref r7, .int (nI k), .int (nI wp), .int (nI bt), .ref r8, .int (nI pn), .int (nI q), .int (nI th), .ref r9, .int (nI os), .int (nI wz), .ref r10, .int (nI sz), .int (nI ia), .ref r11, .ref r12, .int tz, .ref r13, .int (nI ft)], aS G r3 251502 cm] H locs := hI
            subst hp30
            refine lv_goto (tgt := 37) zx zb dX9_longestAt_33 (by decide) ?_
            refine lv_istore_n (lv' := [(2, .int (nI (mt la lm lw T n p d))), (0, .ref y0), (1, .int (nI p)), (3, .int (nI d))]) zx zb dX9_longestAt_37 rfl hl (by decide) rfl (fun ls hl => ?_)
            refine lv_iinc (v := nI (d + 1)) (lv' := [(3, .int (nI (d + 1))), (2, .int (nI (mt la lm lw T n p d))), (0, .ref y0), (1, .int (nI p))]) zx zb dX9_longestAt_38 hl (k := 3) rfl (j_inc _ _ _ (by decide)) (by decide) rfl (fun ls hl => ?_)
            refine lv_goto (tgt := 4) zx zb dX9_longestAt_41 (by decide) ?_
            exact ih4 (d + 1) (mt la lm lw T n p d) (by omega) (by rw [mx_at (by omega), ← hb]; omega) (by omega) _ _ _ hI (lv_sub hl [2, 3, 1, 0] rfl)
  exact loop4 _ 1 0 (by omega) rfl (Nat.lt_succ_self _) _ _ _ hI (lv_sub hl [2, 3, 1, 0] rfl)

set_option maxHeartbeats 4000000 in
set_option maxRecDepth 100000 in
theorem c_X9_nearestOf (zl : Launch) (G : jG) (y0 : Nat) (r1 : Nat) (r2 : Nat) (r3 : Nat) (r4 : Nat) (r5 : Nat) (r6 : Nat) (r7 : Nat) (r8 : Nat) (r9 : Nat) (r10 : Nat) (r11 : Nat) (r12 : Nat) (r13 : Nat) (n : Nat) (la : Nat) (lm : Nat) (lw : Nat) (kn : Nat) (k : Nat) (wp : Nat) (bt : Nat) (pn : Nat) (q : Nat) (th : Nat) (os : Nat) (wz : Nat) (sz : Nat) (ia : Nat) (ft : Nat) (tz : Int32) (T : Nat → Nat) (cm : Nat → Nat) (p : Nat) (v : Nat) (d0 : Nat) (hn : n ≤ 500) (hl0 : 2 ≤ la ∧ la ≤ lm ∧ lm ≤ 255 ∧ lw ≤ 500) (hp : p < n) (hc : cmO T n cm p) (hv : v ≤ 255) (h0 : 1 ≤ d0 ∧ d0 ≤ p ∧ mt la lm lw T n p d0 = v) : jMet zl yX9_nearestOf wsX9_nearestOf ({ frames := 1, cells := 0, slots := 0, locals := 23 }) G [oC y0 9 [.int (nI 0), .ref r1, .int (nI n), .int (nI la), .int (nI lm), .int (nI lw), .ref r2, .ref r3, .ref r4, .int (nI kn), .ref r5, .ref r6, .ref r7, .int (nI k), .int (nI wp), .int (nI bt), .ref r8, .int (nI pn), .int (nI q), .int (nI th), .ref r9, .int (nI os), .int (nI wz), .ref r10, .int (nI sz), .int (nI ia), .ref r11, .ref r12, .int tz, .ref r13, .int (nI ft)], aS G r3 251502 cm] [.ref y0, .int (nI p), .int (nI v)] (jQi G (fun (r : Int32) (u : Nat) => (r = nI u) ∧ (1 ≤ u ∧ u ≤ p ∧ mt la lm lw T n p u = v) ∧ (∀ x, 1 ≤ x → x < u → mt la lm lw T n p x ≠ v)) (fun (u : Nat) => [oC y0 9 [.int (nI 0), .ref r1, .int (nI n), .int (nI la), .int (nI lm), .int (nI lw), .ref r2, .ref r3, .ref r4, .int (nI kn), .ref r5, .ref r6, .ref r7, .int (nI k), .int (nI wp), .int (nI bt), .ref r8, .int (nI pn), .int (nI q), .int (nI th), .ref r9, .int (nI os), .int (nI wz), .ref r10, .int (nI sz), .int (nI ia), .ref r11, .ref r12, .int tz, .ref r13, .int (nI ft)], aS G r3 251502 cm])) 0 0 := by
  refine j_enter_i (cc := cX9_nearestOf) (nL := 4) (nm := "nearestOf") (own := RX9) (lv := [(0, .ref y0), (1, .int (nI p)), (2, .int (nI v))]) (by decide) rfl (Nat.le_of_ble_eq_true rfl) rfl rfl rfl ?_
  intro zA zp ze zs zm zargs zbelow zmeth zc zQ ls hC hQ hI hl
  have zx := hC.1
  have zb := hC.2.1
  refine lv_iconst (v := nI 1) zx zb dX9_nearestOf_0 (by decide) ?_
  refine lv_istore_n (lv' := [(3, .int (nI 1)), (0, .ref y0), (1, .int (nI p)), (2, .int (nI v))]) zx zb dX9_nearestOf_1 rfl hl (by decide) rfl (fun ls hl => ?_)
  have loop2 : ∀ (zn2 : Nat) (d : Nat), (1 ≤ d ∧ d ≤ d0) → (∀ x, 1 ≤ x → x < d → mt la lm lw T n p x ≠ v) → (d0 + 1 - d) < zn2 → ∀ (H : Heap) (locs : List Loc) (ls : Array Slot), jI G zA zs [oC y0 9 [.int (nI 0), .ref r1, .int (nI n), .int (nI la), .int (nI lm), .int (nI lw), .ref r2, .ref r3, .ref r4, .int (nI kn), .ref r5, .ref r6, .ref r7, .int (nI k), .int (nI wp), .int (nI bt), .ref r8, .int (nI pn), .int (nI q), .int (nI th), .ref r9, .int (nI os), .int (nI wz), .ref r10, .int (nI sz), .int (nI ia), .ref r11, .ref r12, .int tz, .ref r13, .int (nI ft)], aS G r3 251502 cm] H locs → lv_has ls 4 [(0, .ref y0), (1, .int (nI p)), (2, .int (nI v)), (3, .int (nI d))] → W zp zl ze ({ frames := 1, cells := 0, slots := 0, locals := 23 }) zs zm zargs zbelow zmeth zc H locs 0 0 zQ (F0 zm 2 ls []) := by
    intro zn2
    induction zn2 with
    | zero => intros; omega
    | succ zn2 ih2 =>
      intro d hd hx zm2 H locs ls hI hl
      have hb2 : mt la lm lw T n p d ≤ lm := mt_le
      refine lv_aload_n zx zb dX9_nearestOf_2 rfl (lv_at hl 0 rfl) ?_
      refine lv_iload_n zx zb dX9_nearestOf_3 rfl (lv_at hl 1 rfl) ?_
      refine lv_iload_n zx zb dX9_nearestOf_4 rfl (lv_at hl 3 rfl) ?_
      refine j_callVi (wr := []) hC hI (c_X9_longest zl G y0 r1 r2 r3 r4 r5 r6 r7 r8 r9 r10 r11 r12 r13 n la lm lw kn k wp bt pn q th os wz sz ia ft tz T cm p d (by omega) (by omega) (by omega) (by omega) hc) (cwV 2 hC.2.2.2.2.1 gX9_nearestOf_X9_longest rfl rfl rfl (by decide +kernel) ⟨Nat.le_of_ble_eq_true rfl, Nat.le_of_ble_eq_true rfl⟩) [0, 1] [] rfl rfl rfl rfl rfl rfl (q0 := 0) rfl rfl rfl hl.1 (Nat.le_of_ble_eq_true rfl) dX9_nearestOf_5 ⟨Nat.le_of_ble_eq_true rfl, Nat.le_of_ble_eq_true rfl⟩ (fun rv5 u5 H locs hp5 hI => ?_)
      have hI : jI G zA zs [oC y0 9 [.int (nI 0), .ref r1, .int (nI n), .int (nI la), .int (nI lm), .int (nI lw), .ref r2, .ref r3, .ref r4, .int (nI kn), .ref r5, .ref r6, .ref r7, .int (nI k), .int (nI wp), .int (nI bt), .ref r8, .int (nI pn), .int (nI q), .int (nI th), .ref r9, .int (nI os), .int (nI wz), .ref r10, .int (nI sz), .int (nI ia), .ref r11, .ref r12, .int tz, .ref r13, .int (nI ft)], aS G r3 251502 cm] H locs := hI
      subst hp5
      refine lv_iload_n zx zb dX9_nearestOf_8 rfl (lv_at hl 2 rfl) ?_
      refine j_icmp_eq (tgt := 18) hC dX9_nearestOf_9 (by decide) (by omega) (by omega) (fun c9 => ?_) (fun c9 => ?_)
      · refine lv_iload_n zx zb dX9_nearestOf_18 rfl (lv_at hl 3 rfl) ?_
        exact hQ _ _ _ _ _ d dX9_nearestOf_19 (hI.sub [0, 1] rfl rfl) ⟨(by first | rfl | (congr 1; omega) | omega), (by omega), hx⟩
      · refine lv_iinc (v := nI (d + 1)) (lv' := [(3, .int (nI (d + 1))), (0, .ref y0), (1, .int (nI p)), (2, .int (nI v))]) zx zb dX9_nearestOf_12 hl (k := 3) rfl (j_inc _ _ _ (by decide)) (by decide) rfl (fun ls hl => ?_)
        refine lv_goto (tgt := 2) zx zb dX9_nearestOf_15 (by decide) ?_
        exact ih2 (d + 1) (by rcases Nat.lt_or_ge d d0 with z | z; omega; exact absurd (by rw [show d = d0 by omega]; exact h0.2.2) c9) (fun x a b => by by_cases e : x = d; subst e; exact c9; exact hx x a (by omega)) (by omega) _ _ _ hI (lv_sub hl [1, 2, 3, 0] rfl)
  exact loop2 _ 1 (by omega) (fun x a b => by omega) (Nat.lt_succ_self _) _ _ _ hI (lv_sub hl [1, 2, 3, 0] rfl)

theorem hin_X9_goOn_X9 : ∀ w ∈ wsX90, w ∈ wsX9_goOn := by decide +kernel
theorem hfl_X9_goOn_34 : Cond.fieldLink RX9 34 "CheapParseModel" "places" "[I" ∈ wsX9_goOn := by decide +kernel
theorem hfl_X9_goOn_93 : Cond.fieldLink RX9 93 "CheapParseModel" "steps" "I" ∈ wsX9_goOn := by decide +kernel
theorem hfl_X9_goOn_37 : Cond.fieldLink RX9 37 "CheapParseModel" "lengths" "[I" ∈ wsX9_goOn := by decide +kernel
theorem hfl_X9_goOn_40 : Cond.fieldLink RX9 40 "CheapParseModel" "distances" "[I" ∈ wsX9_goOn := by decide +kernel
theorem hfl_X9_goOn_96 : Cond.fieldLink RX9 96 "CheapParseModel" "price" "I" ∈ wsX9_goOn := by decide +kernel
theorem hfl_X9_goOn_99 : Cond.fieldLink RX9 99 "CheapParseModel" "bits" "I" ∈ wsX9_goOn := by decide +kernel
set_option maxHeartbeats 4000000 in
set_option maxRecDepth 100000 in
theorem c_X9_goOn_b (zl : Launch) (G : jG) (y0 : Nat) (r1 : Nat) (r2 : Nat) (r3 : Nat) (r4 : Nat) (r5 : Nat) (r6 : Nat) (r7 : Nat) (r8 : Nat) (r9 : Nat) (r10 : Nat) (r11 : Nat) (r12 : Nat) (r13 : Nat) (n : Nat) (la : Nat) (lm : Nat) (lw : Nat) (kn : Nat) (k : Nat) (wp : Nat) (bt : Nat) (pn : Nat) (q : Nat) (th : Nat) (os : Nat) (wz : Nat) (sz : Nat) (ia : Nat) (ft : Nat) (tz : Int32) (T : Nat → Nat) (pp : Nat → Nat) (sp : Nat → Nat) (sl : Nat → Nat) (sd : Nat → Nat) (p : Nat) (hk : k < 500) (hp : p < 500) (hTp : T p < 256) : jMet zl yX9_goOn wsX9_goOn ({ frames := 1, cells := 0, slots := 0, locals := 23 }) G [oC y0 9 [.int (nI 0), .ref r1, .int (nI n), .int (nI la), .int (nI lm), .int (nI lw), .ref r2, .ref r3, .ref r4, .int (nI kn), .ref r5, .ref r6, .ref r7, .int (nI k), .int (nI wp), .int (nI bt), .ref r8, .int (nI pn), .int (nI q), .int (nI th), .ref r9, .int (nI os), .int (nI wz), .ref r10, .int (nI sz), .int (nI ia), .ref r11, .ref r12, .int tz, .ref r13, .int (nI ft)], aI G r1 500 T, aI G r2 26 pp, aI G r5 500 sp, aI G r6 500 sl, aI G r7 500 sd] [.ref y0, .int (nI p), .int (nI 1), .int (nI 0)] (jQv G (fun (u : Unit) => True) (fun (u : Unit) => [oC y0 9 [.int (nI 0), .ref r1, .int (nI n), .int (nI la), .int (nI lm), .int (nI lw), .ref r2, .ref r3, .ref r4, .int (nI kn), .ref r5, .ref r6, .ref r7, .int (nI (k + 1)), .int (nI (wp + pri T pp (ppA pp) (ppL pp) (ppD pp) p 1 0)), .int (nI (bt + bts la 1 0)), .ref r8, .int (nI pn), .int (nI q), .int (nI th), .ref r9, .int (nI os), .int (nI wz), .ref r10, .int (nI sz), .int (nI ia), .ref r11, .ref r12, .int tz, .ref r13, .int (nI ft)], aI G r1 500 T, aI G r2 26 pp, aI G r5 500 (up sp k p), aI G r6 500 (up sl k 1), aI G r7 500 (up sd k 0)])) 0 0 := by
  refine j_enter_v (cc := cX9_goOn) (nL := 4) (nm := "goOn") (own := RX9) (lv := [(0, .ref y0), (1, .int (nI p)), (2, .int (nI 1)), (3, .int (nI 0))]) (by decide) rfl (Nat.le_of_ble_eq_true rfl) rfl rfl rfl ?_
  intro zA zp ze zs zm zargs zbelow zmeth zc zQ ls hC hQ hI hl
  have zx := hC.1
  have zb := hC.2.1
  refine lv_aload_n zx zb dX9_goOn_0 rfl (lv_at hl 0 rfl) ?_
  refine j_get hC hI hin_X9_goOn_X9 0 rfl rfl 10 (by decide) hfl_X9_goOn_34 rfl rfl dX9_goOn_1 ?_
  refine lv_aload_n zx zb dX9_goOn_4 rfl (lv_at hl 0 rfl) ?_
  refine j_get hC hI hin_X9_goOn_X9 0 rfl rfl 13 (by decide) hfl_X9_goOn_93 rfl rfl dX9_goOn_5 ?_
  refine lv_iload_n zx zb dX9_goOn_8 rfl (lv_at hl 1 rfl) ?_
  refine j_iast (w1 := [oC y0 9 [.int (nI 0), .ref r1, .int (nI n), .int (nI la), .int (nI lm), .int (nI lw), .ref r2, .ref r3, .ref r4, .int (nI kn), .ref r5, .ref r6, .ref r7, .int (nI k), .int (nI wp), .int (nI bt), .ref r8, .int (nI pn), .int (nI q), .int (nI th), .ref r9, .int (nI os), .int (nI wz), .ref r10, .int (nI sz), .int (nI ia), .ref r11, .ref r12, .int tz, .ref r13, .int (nI ft)], aI G r1 500 T, aI G r2 26 pp, aI G r5 500 (up sp k p), aI G r6 500 sl, aI G r7 500 sd]) hC hI 3 rfl (by omega) (by omega) dX9_goOn_9 rfl (fun H locs hI => ?_)
  refine lv_aload_n zx zb dX9_goOn_10 rfl (lv_at hl 0 rfl) ?_
  refine j_get hC hI hin_X9_goOn_X9 0 rfl rfl 11 (by decide) hfl_X9_goOn_37 rfl rfl dX9_goOn_11 ?_
  refine lv_aload_n zx zb dX9_goOn_14 rfl (lv_at hl 0 rfl) ?_
  refine j_get hC hI hin_X9_goOn_X9 0 rfl rfl 13 (by decide) hfl_X9_goOn_93 rfl rfl dX9_goOn_15 ?_
  refine lv_iload_n zx zb dX9_goOn_18 rfl (lv_at hl 2 rfl) ?_
  refine j_iast (w1 := [oC y0 9 [.int (nI 0), .ref r1, .int (nI n), .int (nI la), .int (nI lm), .int (nI lw), .ref r2, .ref r3, .ref r4, .int (nI kn), .ref r5, .ref r6, .ref r7, .int (nI k), .int (nI wp), .int (nI bt), .ref r8, .int (nI pn), .int (nI q), .int (nI th), .ref r9, .int (nI os), .int (nI wz), .ref r10, .int (nI sz), .int (nI ia), .ref r11, .ref r12, .int tz, .ref r13, .int (nI ft)], aI G r1 500 T, aI G r2 26 pp, aI G r5 500 (up sp k p), aI G r6 500 (up sl k 1), aI G r7 500 sd]) hC hI 4 rfl (by omega) (by omega) dX9_goOn_19 rfl (fun H locs hI => ?_)
  refine lv_aload_n zx zb dX9_goOn_20 rfl (lv_at hl 0 rfl) ?_
  refine j_get hC hI hin_X9_goOn_X9 0 rfl rfl 12 (by decide) hfl_X9_goOn_40 rfl rfl dX9_goOn_21 ?_
  refine lv_aload_n zx zb dX9_goOn_24 rfl (lv_at hl 0 rfl) ?_
  refine j_get hC hI hin_X9_goOn_X9 0 rfl rfl 13 (by decide) hfl_X9_goOn_93 rfl rfl dX9_goOn_25 ?_
  refine lv_iload_n zx zb dX9_goOn_28 rfl (lv_at hl 3 rfl) ?_
  refine j_iast (w1 := [oC y0 9 [.int (nI 0), .ref r1, .int (nI n), .int (nI la), .int (nI lm), .int (nI lw), .ref r2, .ref r3, .ref r4, .int (nI kn), .ref r5, .ref r6, .ref r7, .int (nI k), .int (nI wp), .int (nI bt), .ref r8, .int (nI pn), .int (nI q), .int (nI th), .ref r9, .int (nI os), .int (nI wz), .ref r10, .int (nI sz), .int (nI ia), .ref r11, .ref r12, .int tz, .ref r13, .int (nI ft)], aI G r1 500 T, aI G r2 26 pp, aI G r5 500 (up sp k p), aI G r6 500 (up sl k 1), aI G r7 500 (up sd k 0)]) hC hI 5 rfl (by omega) (by omega) dX9_goOn_29 rfl (fun H locs hI => ?_)
  refine lv_aload_n zx zb dX9_goOn_30 rfl (lv_at hl 0 rfl) ?_
  refine lv_dup zx zb dX9_goOn_31 rfl ?_
  refine j_get hC hI hin_X9_goOn_X9 0 rfl rfl 13 (by decide) hfl_X9_goOn_93 rfl rfl dX9_goOn_32 ?_
  refine lv_iconst (v := nI 1) zx zb dX9_goOn_35 (by decide) ?_
  refine j_iadd hC dX9_goOn_36 ?_
  refine j_put (w1 := [oC y0 9 [.int (nI 0), .ref r1, .int (nI n), .int (nI la), .int (nI lm), .int (nI lw), .ref r2, .ref r3, .ref r4, .int (nI kn), .ref r5, .ref r6, .ref r7, .int (nI (k + 1)), .int (nI wp), .int (nI bt), .ref r8, .int (nI pn), .int (nI q), .int (nI th), .ref r9, .int (nI os), .int (nI wz), .ref r10, .int (nI sz), .int (nI ia), .ref r11, .ref r12, .int tz, .ref r13, .int (nI ft)], aI G r1 500 T, aI G r2 26 pp, aI G r5 500 (up sp k p), aI G r6 500 (up sl k 1), aI G r7 500 (up sd k 0)]) hC hI hin_X9_goOn_X9 tyX9 tyX9_ok nmX9 0 rfl rfl 13 (by decide) hfl_X9_goOn_93 rfl rfl rfl rfl (Nat.le_of_ble_eq_true rfl) dX9_goOn_37 rfl (fun H locs hI => ?_)
  refine lv_aload_n zx zb dX9_goOn_40 rfl (lv_at hl 0 rfl) ?_
  refine lv_aload_n zx zb dX9_goOn_41 rfl (lv_at hl 0 rfl) ?_
  refine j_get hC hI hin_X9_goOn_X9 0 rfl rfl 14 (by decide) hfl_X9_goOn_96 rfl rfl dX9_goOn_42 ?_
  refine lv_aload_n zx zb dX9_goOn_45 rfl (lv_at hl 0 rfl) ?_
  refine lv_iload_n zx zb dX9_goOn_46 rfl (lv_at hl 1 rfl) ?_
  refine lv_iload_n zx zb dX9_goOn_47 rfl (lv_at hl 2 rfl) ?_
  refine lv_iload_n zx zb dX9_goOn_48 rfl (lv_at hl 3 rfl) ?_
  refine j_callVi (wr := [aI G r5 500 (up sp k p), aI G r6 500 (up sl k 1), aI G r7 500 (up sd k 0)]) hC hI (c_X9_priceOf_b zl G y0 r1 r2 r3 r4 r5 r6 r7 r8 r9 r10 r11 r12 r13 n la lm lw kn (k + 1) wp bt pn q th os wz sz ia ft tz T pp p 1 (by omega) (by omega)) (cwV 3 hC.2.2.2.2.1 gX9_goOn_X9_priceOf rfl rfl rfl (by decide +kernel) ⟨Nat.le_of_ble_eq_true rfl, Nat.le_of_ble_eq_true rfl⟩) [0, 1, 2] [3, 4, 5] rfl rfl rfl rfl rfl rfl (q0 := 0) rfl rfl rfl hl.1 (Nat.le_of_ble_eq_true rfl) dX9_goOn_49 ⟨Nat.le_of_ble_eq_true rfl, Nat.le_of_ble_eq_true rfl⟩ (fun rv49 u49 H locs hp49 hI => ?_)
  have hI : jI G zA zs [aI G r5 500 (up sp k p), aI G r6 500 (up sl k 1), aI G r7 500 (up sd k 0), oC y0 9 [.int (nI 0), .ref r1, .int (nI n), .int (nI la), .int (nI lm), .int (nI lw), .ref r2, .ref r3, .ref r4, .int (nI kn), .ref r5, .ref r6, .ref r7, .int (nI (k + 1)), .int (nI wp), .int (nI bt), .ref r8, .int (nI pn), .int (nI q), .int (nI th), .ref r9, .int (nI os), .int (nI wz), .ref r10, .int (nI sz), .int (nI ia), .ref r11, .ref r12, .int tz, .ref r13, .int (nI ft)], aI G r1 500 T, aI G r2 26 pp] H locs := hI
  subst hp49
  refine j_iadd hC dX9_goOn_52 ?_
  refine j_put (w1 := [aI G r5 500 (up sp k p), aI G r6 500 (up sl k 1), aI G r7 500 (up sd k 0), oC y0 9 [.int (nI 0), .ref r1, .int (nI n), .int (nI la), .int (nI lm), .int (nI lw), .ref r2, .ref r3, .ref r4, .int (nI kn), .ref r5, .ref r6, .ref r7, .int (nI (k + 1)), .int (nI (wp + (pp (T p / 32)))), .int (nI bt), .ref r8, .int (nI pn), .int (nI q), .int (nI th), .ref r9, .int (nI os), .int (nI wz), .ref r10, .int (nI sz), .int (nI ia), .ref r11, .ref r12, .int tz, .ref r13, .int (nI ft)], aI G r1 500 T, aI G r2 26 pp]) hC hI hin_X9_goOn_X9 tyX9 tyX9_ok nmX9 3 rfl rfl 14 (by decide) hfl_X9_goOn_96 rfl rfl rfl rfl (Nat.le_of_ble_eq_true rfl) dX9_goOn_53 rfl (fun H locs hI => ?_)
  refine lv_aload_n zx zb dX9_goOn_56 rfl (lv_at hl 0 rfl) ?_
  refine lv_aload_n zx zb dX9_goOn_57 rfl (lv_at hl 0 rfl) ?_
  refine j_get hC hI hin_X9_goOn_X9 3 rfl rfl 15 (by decide) hfl_X9_goOn_99 rfl rfl dX9_goOn_58 ?_
  refine lv_iload_n zx zb dX9_goOn_61 rfl (lv_at hl 3 rfl) ?_
  refine j_if_ne (tgt := 70) hC dX9_goOn_62 (by decide) (by omega) (fun c62 => ?_) (fun c62 => ?_)
  · exact (by omega : False).elim
  · refine lv_bipush (v := nI 9) zx zb dX9_goOn_65 (by decide) ?_
    refine lv_goto (tgt := 94) zx zb dX9_goOn_67 (by decide) ?_
    refine j_iadd hC dX9_goOn_94 ?_
    refine j_put (w1 := [aI G r5 500 (up sp k p), aI G r6 500 (up sl k 1), aI G r7 500 (up sd k 0), oC y0 9 [.int (nI 0), .ref r1, .int (nI n), .int (nI la), .int (nI lm), .int (nI lw), .ref r2, .ref r3, .ref r4, .int (nI kn), .ref r5, .ref r6, .ref r7, .int (nI (k + 1)), .int (nI (wp + (pp (T p / 32)))), .int (nI (bt + 9)), .ref r8, .int (nI pn), .int (nI q), .int (nI th), .ref r9, .int (nI os), .int (nI wz), .ref r10, .int (nI sz), .int (nI ia), .ref r11, .ref r12, .int tz, .ref r13, .int (nI ft)], aI G r1 500 T, aI G r2 26 pp]) hC hI hin_X9_goOn_X9 tyX9 tyX9_ok nmX9 3 rfl rfl 15 (by decide) hfl_X9_goOn_99 rfl rfl rfl rfl (Nat.le_of_ble_eq_true rfl) dX9_goOn_95 rfl (fun H locs hI => ?_)
    exact hQ _ _ _ _ () dX9_goOn_98 (hI.sub [3, 4, 5, 0, 1, 2] rfl rfl) trivial

theorem hfl_X9_goOn_13 : Cond.fieldLink RX9 13 "CheapParseModel" "least" "I" ∈ wsX9_goOn := by decide +kernel
set_option maxHeartbeats 4000000 in
set_option maxRecDepth 100000 in
theorem c_X9_goOn_m (zl : Launch) (G : jG) (y0 : Nat) (r1 : Nat) (r2 : Nat) (r3 : Nat) (r4 : Nat) (r5 : Nat) (r6 : Nat) (r7 : Nat) (r8 : Nat) (r9 : Nat) (r10 : Nat) (r11 : Nat) (r12 : Nat) (r13 : Nat) (n : Nat) (la : Nat) (lm : Nat) (lw : Nat) (kn : Nat) (k : Nat) (wp : Nat) (bt : Nat) (pn : Nat) (q : Nat) (th : Nat) (os : Nat) (wz : Nat) (sz : Nat) (ia : Nat) (ft : Nat) (tz : Int32) (T : Nat → Nat) (pp : Nat → Nat) (sp : Nat → Nat) (sl : Nat → Nat) (sd : Nat → Nat) (p : Nat) (b : Nat) (d : Nat) (hk : k < 500) (hb : la ≤ b ∧ b ≤ 255) (hd : 1 ≤ d ∧ d < 512) : jMet zl yX9_goOn wsX9_goOn ({ frames := 2, cells := 0, slots := 0, locals := 45 }) G [oC y0 9 [.int (nI 0), .ref r1, .int (nI n), .int (nI la), .int (nI lm), .int (nI lw), .ref r2, .ref r3, .ref r4, .int (nI kn), .ref r5, .ref r6, .ref r7, .int (nI k), .int (nI wp), .int (nI bt), .ref r8, .int (nI pn), .int (nI q), .int (nI th), .ref r9, .int (nI os), .int (nI wz), .ref r10, .int (nI sz), .int (nI ia), .ref r11, .ref r12, .int tz, .ref r13, .int (nI ft)], aI G r1 500 T, aI G r2 26 pp, aI G r5 500 sp, aI G r6 500 sl, aI G r7 500 sd] [.ref y0, .int (nI p), .int (nI b), .int (nI d)] (jQv G (fun (u : Unit) => True) (fun (u : Unit) => [oC y0 9 [.int (nI 0), .ref r1, .int (nI n), .int (nI la), .int (nI lm), .int (nI lw), .ref r2, .ref r3, .ref r4, .int (nI kn), .ref r5, .ref r6, .ref r7, .int (nI (k + 1)), .int (nI (wp + pri T pp (ppA pp) (ppL pp) (ppD pp) p b d)), .int (nI (bt + bts la b d)), .ref r8, .int (nI pn), .int (nI q), .int (nI th), .ref r9, .int (nI os), .int (nI wz), .ref r10, .int (nI sz), .int (nI ia), .ref r11, .ref r12, .int tz, .ref r13, .int (nI ft)], aI G r1 500 T, aI G r2 26 pp, aI G r5 500 (up sp k p), aI G r6 500 (up sl k b), aI G r7 500 (up sd k d)])) 0 0 := by
  refine j_enter_v (cc := cX9_goOn) (nL := 4) (nm := "goOn") (own := RX9) (lv := [(0, .ref y0), (1, .int (nI p)), (2, .int (nI b)), (3, .int (nI d))]) (by decide) rfl (Nat.le_of_ble_eq_true rfl) rfl rfl rfl ?_
  intro zA zp ze zs zm zargs zbelow zmeth zc zQ ls hC hQ hI hl
  have zx := hC.1
  have zb := hC.2.1
  refine lv_aload_n zx zb dX9_goOn_0 rfl (lv_at hl 0 rfl) ?_
  refine j_get hC hI hin_X9_goOn_X9 0 rfl rfl 10 (by decide) hfl_X9_goOn_34 rfl rfl dX9_goOn_1 ?_
  refine lv_aload_n zx zb dX9_goOn_4 rfl (lv_at hl 0 rfl) ?_
  refine j_get hC hI hin_X9_goOn_X9 0 rfl rfl 13 (by decide) hfl_X9_goOn_93 rfl rfl dX9_goOn_5 ?_
  refine lv_iload_n zx zb dX9_goOn_8 rfl (lv_at hl 1 rfl) ?_
  refine j_iast (w1 := [oC y0 9 [.int (nI 0), .ref r1, .int (nI n), .int (nI la), .int (nI lm), .int (nI lw), .ref r2, .ref r3, .ref r4, .int (nI kn), .ref r5, .ref r6, .ref r7, .int (nI k), .int (nI wp), .int (nI bt), .ref r8, .int (nI pn), .int (nI q), .int (nI th), .ref r9, .int (nI os), .int (nI wz), .ref r10, .int (nI sz), .int (nI ia), .ref r11, .ref r12, .int tz, .ref r13, .int (nI ft)], aI G r1 500 T, aI G r2 26 pp, aI G r5 500 (up sp k p), aI G r6 500 sl, aI G r7 500 sd]) hC hI 3 rfl (by omega) (by omega) dX9_goOn_9 rfl (fun H locs hI => ?_)
  refine lv_aload_n zx zb dX9_goOn_10 rfl (lv_at hl 0 rfl) ?_
  refine j_get hC hI hin_X9_goOn_X9 0 rfl rfl 11 (by decide) hfl_X9_goOn_37 rfl rfl dX9_goOn_11 ?_
  refine lv_aload_n zx zb dX9_goOn_14 rfl (lv_at hl 0 rfl) ?_
  refine j_get hC hI hin_X9_goOn_X9 0 rfl rfl 13 (by decide) hfl_X9_goOn_93 rfl rfl dX9_goOn_15 ?_
  refine lv_iload_n zx zb dX9_goOn_18 rfl (lv_at hl 2 rfl) ?_
  refine j_iast (w1 := [oC y0 9 [.int (nI 0), .ref r1, .int (nI n), .int (nI la), .int (nI lm), .int (nI lw), .ref r2, .ref r3, .ref r4, .int (nI kn), .ref r5, .ref r6, .ref r7, .int (nI k), .int (nI wp), .int (nI bt), .ref r8, .int (nI pn), .int (nI q), .int (nI th), .ref r9, .int (nI os), .int (nI wz), .ref r10, .int (nI sz), .int (nI ia), .ref r11, .ref r12, .int tz, .ref r13, .int (nI ft)], aI G r1 500 T, aI G r2 26 pp, aI G r5 500 (up sp k p), aI G r6 500 (up sl k b), aI G r7 500 sd]) hC hI 4 rfl (by omega) (by omega) dX9_goOn_19 rfl (fun H locs hI => ?_)
  refine lv_aload_n zx zb dX9_goOn_20 rfl (lv_at hl 0 rfl) ?_
  refine j_get hC hI hin_X9_goOn_X9 0 rfl rfl 12 (by decide) hfl_X9_goOn_40 rfl rfl dX9_goOn_21 ?_
  refine lv_aload_n zx zb dX9_goOn_24 rfl (lv_at hl 0 rfl) ?_
  refine j_get hC hI hin_X9_goOn_X9 0 rfl rfl 13 (by decide) hfl_X9_goOn_93 rfl rfl dX9_goOn_25 ?_
  refine lv_iload_n zx zb dX9_goOn_28 rfl (lv_at hl 3 rfl) ?_
  refine j_iast (w1 := [oC y0 9 [.int (nI 0), .ref r1, .int (nI n), .int (nI la), .int (nI lm), .int (nI lw), .ref r2, .ref r3, .ref r4, .int (nI kn), .ref r5, .ref r6, .ref r7, .int (nI k), .int (nI wp), .int (nI bt), .ref r8, .int (nI pn), .int (nI q), .int (nI th), .ref r9, .int (nI os), .int (nI wz), .ref r10, .int (nI sz), .int (nI ia), .ref r11, .ref r12, .int tz, .ref r13, .int (nI ft)], aI G r1 500 T, aI G r2 26 pp, aI G r5 500 (up sp k p), aI G r6 500 (up sl k b), aI G r7 500 (up sd k d)]) hC hI 5 rfl (by omega) (by omega) dX9_goOn_29 rfl (fun H locs hI => ?_)
  refine lv_aload_n zx zb dX9_goOn_30 rfl (lv_at hl 0 rfl) ?_
  refine lv_dup zx zb dX9_goOn_31 rfl ?_
  refine j_get hC hI hin_X9_goOn_X9 0 rfl rfl 13 (by decide) hfl_X9_goOn_93 rfl rfl dX9_goOn_32 ?_
  refine lv_iconst (v := nI 1) zx zb dX9_goOn_35 (by decide) ?_
  refine j_iadd hC dX9_goOn_36 ?_
  refine j_put (w1 := [oC y0 9 [.int (nI 0), .ref r1, .int (nI n), .int (nI la), .int (nI lm), .int (nI lw), .ref r2, .ref r3, .ref r4, .int (nI kn), .ref r5, .ref r6, .ref r7, .int (nI (k + 1)), .int (nI wp), .int (nI bt), .ref r8, .int (nI pn), .int (nI q), .int (nI th), .ref r9, .int (nI os), .int (nI wz), .ref r10, .int (nI sz), .int (nI ia), .ref r11, .ref r12, .int tz, .ref r13, .int (nI ft)], aI G r1 500 T, aI G r2 26 pp, aI G r5 500 (up sp k p), aI G r6 500 (up sl k b), aI G r7 500 (up sd k d)]) hC hI hin_X9_goOn_X9 tyX9 tyX9_ok nmX9 0 rfl rfl 13 (by decide) hfl_X9_goOn_93 rfl rfl rfl rfl (Nat.le_of_ble_eq_true rfl) dX9_goOn_37 rfl (fun H locs hI => ?_)
  refine lv_aload_n zx zb dX9_goOn_40 rfl (lv_at hl 0 rfl) ?_
  refine lv_aload_n zx zb dX9_goOn_41 rfl (lv_at hl 0 rfl) ?_
  refine j_get hC hI hin_X9_goOn_X9 0 rfl rfl 14 (by decide) hfl_X9_goOn_96 rfl rfl dX9_goOn_42 ?_
  refine lv_aload_n zx zb dX9_goOn_45 rfl (lv_at hl 0 rfl) ?_
  refine lv_iload_n zx zb dX9_goOn_46 rfl (lv_at hl 1 rfl) ?_
  refine lv_iload_n zx zb dX9_goOn_47 rfl (lv_at hl 2 rfl) ?_
  refine lv_iload_n zx zb dX9_goOn_48 rfl (lv_at hl 3 rfl) ?_
  refine j_callVi (wr := [aI G r1 500 T, aI G r5 500 (up sp k p), aI G r6 500 (up sl k b), aI G r7 500 (up sd k d)]) hC hI (c_X9_priceOf_m zl G y0 r1 r2 r3 r4 r5 r6 r7 r8 r9 r10 r11 r12 r13 n la lm lw kn (k + 1) wp bt pn q th os wz sz ia ft tz pp p b d (by omega) (by omega)) (cwV 3 hC.2.2.2.2.1 gX9_goOn_X9_priceOf rfl rfl rfl (by decide +kernel) ⟨Nat.le_of_ble_eq_true rfl, Nat.le_of_ble_eq_true rfl⟩) [0, 2] [1, 3, 4, 5] rfl rfl rfl rfl rfl rfl (q0 := 0) rfl rfl rfl hl.1 (Nat.le_of_ble_eq_true rfl) dX9_goOn_49 ⟨Nat.le_of_ble_eq_true rfl, Nat.le_of_ble_eq_true rfl⟩ (fun rv49 u49 H locs hp49 hI => ?_)
  have hI : jI G zA zs [aI G r1 500 T, aI G r5 500 (up sp k p), aI G r6 500 (up sl k b), aI G r7 500 (up sd k d), oC y0 9 [.int (nI 0), .ref r1, .int (nI n), .int (nI la), .int (nI lm), .int (nI lw), .ref r2, .ref r3, .ref r4, .int (nI kn), .ref r5, .ref r6, .ref r7, .int (nI (k + 1)), .int (nI wp), .int (nI bt), .ref r8, .int (nI pn), .int (nI q), .int (nI th), .ref r9, .int (nI os), .int (nI wz), .ref r10, .int (nI sz), .int (nI ia), .ref r11, .ref r12, .int tz, .ref r13, .int (nI ft)], aI G r2 26 pp] H locs := hI
  subst hp49
  refine j_iadd hC dX9_goOn_52 ?_
  refine j_put (w1 := [aI G r1 500 T, aI G r5 500 (up sp k p), aI G r6 500 (up sl k b), aI G r7 500 (up sd k d), oC y0 9 [.int (nI 0), .ref r1, .int (nI n), .int (nI la), .int (nI lm), .int (nI lw), .ref r2, .ref r3, .ref r4, .int (nI kn), .ref r5, .ref r6, .ref r7, .int (nI (k + 1)), .int (nI (wp + (pp 8 + pp (9 + b.log2) + pp (17 + d.log2)))), .int (nI bt), .ref r8, .int (nI pn), .int (nI q), .int (nI th), .ref r9, .int (nI os), .int (nI wz), .ref r10, .int (nI sz), .int (nI ia), .ref r11, .ref r12, .int tz, .ref r13, .int (nI ft)], aI G r2 26 pp]) hC hI hin_X9_goOn_X9 tyX9 tyX9_ok nmX9 4 rfl rfl 14 (by decide) hfl_X9_goOn_96 rfl rfl rfl rfl (Nat.le_of_ble_eq_true rfl) dX9_goOn_53 rfl (fun H locs hI => ?_)
  refine lv_aload_n zx zb dX9_goOn_56 rfl (lv_at hl 0 rfl) ?_
  refine lv_aload_n zx zb dX9_goOn_57 rfl (lv_at hl 0 rfl) ?_
  refine j_get hC hI hin_X9_goOn_X9 4 rfl rfl 15 (by decide) hfl_X9_goOn_99 rfl rfl dX9_goOn_58 ?_
  refine lv_iload_n zx zb dX9_goOn_61 rfl (lv_at hl 3 rfl) ?_
  refine j_if_ne (tgt := 70) hC dX9_goOn_62 (by decide) (by omega) (fun c62 => ?_) (fun c62 => ?_)
  · refine lv_iconst (v := nI 1) zx zb dX9_goOn_70 (by decide) ?_
    refine lv_iconst (v := nI 2) zx zb dX9_goOn_71 (by decide) ?_
    refine lv_iload_n zx zb dX9_goOn_72 rfl (lv_at hl 2 rfl) ?_
    refine lv_aload_n zx zb dX9_goOn_73 rfl (lv_at hl 0 rfl) ?_
    refine j_get hC hI hin_X9_goOn_X9 4 rfl rfl 3 (by decide) hfl_X9_goOn_13 rfl rfl dX9_goOn_74 ?_
    refine j_isub hC (by omega) dX9_goOn_77 ?_
    refine lv_iconst (v := nI 1) zx zb dX9_goOn_78 (by decide) ?_
    refine j_iadd hC dX9_goOn_79 ?_
    refine j_callSi (wr := [aI G r1 500 T, aI G r5 500 (up sp k p), aI G r6 500 (up sl k b), aI G r7 500 (up sd k d), oC y0 9 [.int (nI 0), .ref r1, .int (nI n), .int (nI la), .int (nI lm), .int (nI lw), .ref r2, .ref r3, .ref r4, .int (nI kn), .ref r5, .ref r6, .ref r7, .int (nI (k + 1)), .int (nI (wp + (pp 8 + pp (9 + b.log2) + pp (17 + d.log2)))), .int (nI bt), .ref r8, .int (nI pn), .int (nI q), .int (nI th), .ref r9, .int (nI os), .int (nI wz), .ref r10, .int (nI sz), .int (nI ia), .ref r11, .ref r12, .int tz, .ref r13, .int (nI ft)], aI G r2 26 pp]) hC hI (c_X9_classOf zl G ((b - la) + 1) (by omega)) (cwS 1 hC.2.2.2.2.1 gX9_goOn_X9_classOf rfl rfl rfl (by decide +kernel) ⟨Nat.le_of_ble_eq_true rfl, Nat.le_of_ble_eq_true rfl⟩) [] [0, 1, 2, 3, 4, 5] rfl rfl rfl rfl rfl rfl rfl hl.1 (Nat.le_of_ble_eq_true rfl) dX9_goOn_80 ⟨Nat.le_of_ble_eq_true rfl, Nat.le_of_ble_eq_true rfl⟩ (fun rv80 u80 H locs hp80 hI => ?_)
    have hI : jI G zA zs [aI G r1 500 T, aI G r5 500 (up sp k p), aI G r6 500 (up sl k b), aI G r7 500 (up sd k d), oC y0 9 [.int (nI 0), .ref r1, .int (nI n), .int (nI la), .int (nI lm), .int (nI lw), .ref r2, .ref r3, .ref r4, .int (nI kn), .ref r5, .ref r6, .ref r7, .int (nI (k + 1)), .int (nI (wp + (pp 8 + pp (9 + b.log2) + pp (17 + d.log2)))), .int (nI bt), .ref r8, .int (nI pn), .int (nI q), .int (nI th), .ref r9, .int (nI os), .int (nI wz), .ref r10, .int (nI sz), .int (nI ia), .ref r11, .ref r12, .int tz, .ref r13, .int (nI ft)], aI G r2 26 pp] H locs := hI
    subst hp80
    refine j_imul hC dX9_goOn_83 ?_
    refine j_iadd hC dX9_goOn_84 ?_
    refine lv_iconst (v := nI 1) zx zb dX9_goOn_85 (by decide) ?_
    refine j_iadd hC dX9_goOn_86 ?_
    refine lv_iconst (v := nI 4) zx zb dX9_goOn_87 (by decide) ?_
    refine j_iadd hC dX9_goOn_88 ?_
    refine lv_iload_n zx zb dX9_goOn_89 rfl (lv_at hl 3 rfl) ?_
    refine j_callSi (wr := [aI G r1 500 T, aI G r5 500 (up sp k p), aI G r6 500 (up sl k b), aI G r7 500 (up sd k d), oC y0 9 [.int (nI 0), .ref r1, .int (nI n), .int (nI la), .int (nI lm), .int (nI lw), .ref r2, .ref r3, .ref r4, .int (nI kn), .ref r5, .ref r6, .ref r7, .int (nI (k + 1)), .int (nI (wp + (pp 8 + pp (9 + b.log2) + pp (17 + d.log2)))), .int (nI bt), .ref r8, .int (nI pn), .int (nI q), .int (nI th), .ref r9, .int (nI os), .int (nI wz), .ref r10, .int (nI sz), .int (nI ia), .ref r11, .ref r12, .int tz, .ref r13, .int (nI ft)], aI G r2 26 pp]) hC hI (c_X9_classOf zl G d (by omega)) (cwS 1 hC.2.2.2.2.1 gX9_goOn_X9_classOf rfl rfl rfl (by decide +kernel) ⟨Nat.le_of_ble_eq_true rfl, Nat.le_of_ble_eq_true rfl⟩) [] [0, 1, 2, 3, 4, 5] rfl rfl rfl rfl rfl rfl rfl hl.1 (Nat.le_of_ble_eq_true rfl) dX9_goOn_90 ⟨Nat.le_of_ble_eq_true rfl, Nat.le_of_ble_eq_true rfl⟩ (fun rv90 u90 H locs hp90 hI => ?_)
    have hI : jI G zA zs [aI G r1 500 T, aI G r5 500 (up sp k p), aI G r6 500 (up sl k b), aI G r7 500 (up sd k d), oC y0 9 [.int (nI 0), .ref r1, .int (nI n), .int (nI la), .int (nI lm), .int (nI lw), .ref r2, .ref r3, .ref r4, .int (nI kn), .ref r5, .ref r6, .ref r7, .int (nI (k + 1)), .int (nI (wp + (pp 8 + pp (9 + b.log2) + pp (17 + d.log2)))), .int (nI bt), .ref r8, .int (nI pn), .int (nI q), .int (nI th), .ref r9, .int (nI os), .int (nI wz), .ref r10, .int (nI sz), .int (nI ia), .ref r11, .ref r12, .int tz, .ref r13, .int (nI ft)], aI G r2 26 pp] H locs := hI
    subst hp90
    refine j_iadd hC dX9_goOn_93 ?_
    refine j_iadd hC dX9_goOn_94 ?_
    refine j_put (w1 := [aI G r1 500 T, aI G r5 500 (up sp k p), aI G r6 500 (up sl k b), aI G r7 500 (up sd k d), oC y0 9 [.int (nI 0), .ref r1, .int (nI n), .int (nI la), .int (nI lm), .int (nI lw), .ref r2, .ref r3, .ref r4, .int (nI kn), .ref r5, .ref r6, .ref r7, .int (nI (k + 1)), .int (nI (wp + (pp 8 + pp (9 + b.log2) + pp (17 + d.log2)))), .int (nI (bt + ((((1 + (2 * (((b - la) + 1).log2))) + 1) + 4) + d.log2))), .ref r8, .int (nI pn), .int (nI q), .int (nI th), .ref r9, .int (nI os), .int (nI wz), .ref r10, .int (nI sz), .int (nI ia), .ref r11, .ref r12, .int tz, .ref r13, .int (nI ft)], aI G r2 26 pp]) hC hI hin_X9_goOn_X9 tyX9 tyX9_ok nmX9 4 rfl rfl 15 (by decide) hfl_X9_goOn_99 rfl rfl rfl rfl (Nat.le_of_ble_eq_true rfl) dX9_goOn_95 rfl (fun H locs hI => ?_)
    exact hQ _ _ _ _ () dX9_goOn_98 (hI.sub [4, 0, 5, 1, 2, 3] rfl (by rw [bts_eq (by omega), pri, if_neg (by omega)]; rfl)) trivial
  · exact (by omega : False).elim

theorem hin_X9_stepCheaply_X9 : ∀ w ∈ wsX90, w ∈ wsX9_stepCheaply := by decide +kernel
theorem hfl_X9_stepCheaply_13 : Cond.fieldLink RX9 13 "CheapParseModel" "least" "I" ∈ wsX9_stepCheaply := by decide +kernel
theorem hfl_X9_stepCheaply_17 : Cond.fieldLink RX9 17 "CheapParseModel" "most" "I" ∈ wsX9_stepCheaply := by decide +kernel
theorem hfl_X9_stepCheaply_31 : Cond.fieldLink RX9 31 "CheapParseModel" "cheapest" "[I" ∈ wsX9_stepCheaply := by decide +kernel
theorem hfl_X9_stepCheaply_68 : Cond.fieldLink RX9 68 "CheapParseModel" "length" "I" ∈ wsX9_stepCheaply := by decide +kernel
theorem hfl_X9_stepCheaply_62 : Cond.fieldLink RX9 62 "CheapParseModel" "far" "[I" ∈ wsX9_stepCheaply := by decide +kernel
set_option maxHeartbeats 4000000 in
set_option maxRecDepth 100000 in
theorem c_X9_stepCheaply (zl : Launch) (G : jG) (y0 : Nat) (r1 : Nat) (r2 : Nat) (r3 : Nat) (r4 : Nat) (r5 : Nat) (r6 : Nat) (r7 : Nat) (r8 : Nat) (r9 : Nat) (r10 : Nat) (r11 : Nat) (r12 : Nat) (r13 : Nat) (n : Nat) (la : Nat) (lm : Nat) (lw : Nat) (kn : Nat) (k : Nat) (wp : Nat) (bt : Nat) (pn : Nat) (q : Nat) (th : Nat) (os : Nat) (wz : Nat) (sz : Nat) (ia : Nat) (ft : Nat) (tz : Int32) (T : Nat → Nat) (pp : Nat → Nat) (cm : Nat → Nat) (C : Nat → Nat) (sp : Nat → Nat) (sl : Nat → Nat) (sd : Nat → Nat) (fa : Nat → Nat) (p : Nat) (hn : n ≤ 500) (hl0 : 2 ≤ la ∧ la ≤ lm ∧ lm ≤ 255 ∧ lw ≤ 500) (hT : ∀ j, j < n → T j < 256) (hpp : ∀ j, j < 26 → 1 ≤ pp j ∧ pp j ≤ 1000) (hk : k < 500) (hp : p < n) (hc : ∀ p, p < n → cmO T n cm p) (hC0 : cTab la lm lw T n pp (ppA pp) (ppL pp) (ppD pp) C) : jMet zl yX9_stepCheaply wsX9_stepCheaply ({ frames := 3, cells := 0, slots := 0, locals := 68 }) G [oC y0 9 [.int (nI 0), .ref r1, .int (nI n), .int (nI la), .int (nI lm), .int (nI lw), .ref r2, .ref r3, .ref r4, .int (nI kn), .ref r5, .ref r6, .ref r7, .int (nI k), .int (nI wp), .int (nI bt), .ref r8, .int (nI pn), .int (nI q), .int (nI th), .ref r9, .int (nI os), .int (nI wz), .ref r10, .int (nI sz), .int (nI ia), .ref r11, .ref r12, .int tz, .ref r13, .int (nI ft)], aI G r1 500 T, aI G r2 26 pp, aS G r3 251502 cm, aI G r4 501 C, aI G r5 500 sp, aI G r6 500 sl, aI G r7 500 sd, aI G r13 9 fa] [.ref y0, .int (nI p)] (jQv G (fun (u : Nat × Nat × (Nat → Nat)) => (stepR 0 la lm lw T n pp (ppA pp) (ppL pp) (ppD pp) C p u.1 u.2.1)) (fun (u : Nat × Nat × (Nat → Nat)) => [oC y0 9 [.int (nI 0), .ref r1, .int (nI n), .int (nI la), .int (nI lm), .int (nI lw), .ref r2, .ref r3, .ref r4, .int (nI kn), .ref r5, .ref r6, .ref r7, .int (nI (k + 1)), .int (nI (wp + pri T pp (ppA pp) (ppL pp) (ppD pp) p u.1 u.2.1)), .int (nI (bt + bts la u.1 u.2.1)), .ref r8, .int (nI pn), .int (nI q), .int (nI th), .ref r9, .int (nI os), .int (nI wz), .ref r10, .int (nI sz), .int (nI ia), .ref r11, .ref r12, .int tz, .ref r13, .int (nI ft)], aI G r1 500 T, aI G r2 26 pp, aS G r3 251502 cm, aI G r4 501 C, aI G r5 500 (up sp k p), aI G r6 500 (up sl k u.1), aI G r7 500 (up sd k u.2.1), aI G r13 9 u.2.2])) 0 0 := by
  refine j_enter_v (cc := cX9_stepCheaply) (nL := 6) (nm := "stepCheaply") (own := RX9) (lv := [(0, .ref y0), (1, .int (nI p))]) (by decide) rfl (Nat.le_of_ble_eq_true rfl) rfl rfl rfl ?_
  intro zA zp ze zs zm zargs zbelow zmeth zc zQ ls hC hQ hI hl
  have zx := hC.1
  have zb := hC.2.1
  have hpp2 := hpp
  have hCp := hC0.2.2 p (by omega)
  have hTp := hT p hp
  have hmn : mx (mt la lm lw T n p) 511 ≤ n - p := mx_le (fun d => mt_n) _
  have hml : mx (mt la lm lw T n p) 511 ≤ lm := mx_le (fun d => mt_le) _
  refine lv_iconst (v := nI 1) zx zb dX9_stepCheaply_0 (by decide) ?_
  refine lv_istore_n (lv' := [(2, .int (nI 1)), (0, .ref y0), (1, .int (nI p))]) zx zb dX9_stepCheaply_1 rfl hl (by decide) rfl (fun ls hl => ?_)
  refine lv_aload_n zx zb dX9_stepCheaply_2 rfl (lv_at hl 1 rfl) ?_
  refine lv_iload_n zx zb dX9_stepCheaply_3 rfl (lv_at hl 2 rfl) ?_
  refine j_callVv (wr := [aI G r1 500 T, aI G r2 26 pp, aI G r4 501 C, aI G r5 500 sp, aI G r6 500 sl, aI G r7 500 sd]) hC hI (c_X9_findFar zl G y0 r1 r2 r3 r4 r5 r6 r7 r8 r9 r10 r11 r12 r13 n la lm lw kn k wp bt pn q th os wz sz ia ft tz T cm fa p (by omega) (by omega) (by omega) (hc p hp)) (cwV 1 hC.2.2.2.2.1 gX9_stepCheaply_X9_findFar rfl rfl rfl (by decide +kernel) ⟨Nat.le_of_ble_eq_true rfl, Nat.le_of_ble_eq_true rfl⟩) [0, 3, 8] [1, 2, 4, 5, 6, 7] rfl rfl rfl rfl rfl rfl (q0 := 0) rfl rfl rfl hl.1 (Nat.le_of_ble_eq_true rfl) dX9_stepCheaply_4 ⟨Nat.le_of_ble_eq_true rfl, Nat.le_of_ble_eq_true rfl⟩ (fun u4 H locs hp4 hI => ?_)
  obtain ⟨v4_0, rfl⟩ : ∃ z, z = u4 := ⟨_, rfl⟩
  have hI : jI G zA zs [aI G r1 500 T, aI G r2 26 pp, aI G r4 501 C, aI G r5 500 sp, aI G r6 500 sl, aI G r7 500 sd, oC y0 9 [.int (nI 0), .ref r1, .int (nI n), .int (nI la), .int (nI lm), .int (nI lw), .ref r2, .ref r3, .ref r4, .int (nI kn), .ref r5, .ref r6, .ref r7, .int (nI k), .int (nI wp), .int (nI bt), .ref r8, .int (nI pn), .int (nI q), .int (nI th), .ref r9, .int (nI os), .int (nI wz), .ref r10, .int (nI sz), .int (nI ia), .ref r11, .ref r12, .int tz, .ref r13, .int (nI ft)], aS G r3 251502 cm, aI G r13 9 v4_0] H locs := hI
  have f4_0 := hp4
  refine lv_aload_n zx zb dX9_stepCheaply_7 rfl (lv_at hl 1 rfl) ?_
  refine j_get hC hI hin_X9_stepCheaply_X9 6 rfl rfl 3 (by decide) hfl_X9_stepCheaply_13 rfl rfl dX9_stepCheaply_8 ?_
  refine lv_istore_n (lv' := [(3, .int (nI la)), (2, .int (nI 1)), (0, .ref y0), (1, .int (nI p))]) zx zb dX9_stepCheaply_11 rfl hl (by decide) rfl (fun ls hl => ?_)
  have loop12 : ∀ (zn12 : Nat) (x : Nat) (b : Nat), (la ≤ x ∧ x ≤ 256) → (chI la lm lw T n (ppA pp) (ppL pp) (ppD pp) C p x 0 b) → (b ≤ 256) → (300 - x) < zn12 → ∀ (H : Heap) (locs : List Loc) (ls : Array Slot), jI G zA zs [oC y0 9 [.int (nI 0), .ref r1, .int (nI n), .int (nI la), .int (nI lm), .int (nI lw), .ref r2, .ref r3, .ref r4, .int (nI kn), .ref r5, .ref r6, .ref r7, .int (nI k), .int (nI wp), .int (nI bt), .ref r8, .int (nI pn), .int (nI q), .int (nI th), .ref r9, .int (nI os), .int (nI wz), .ref r10, .int (nI sz), .int (nI ia), .ref r11, .ref r12, .int tz, .ref r13, .int (nI ft)], aI G r1 500 T, aI G r2 26 pp, aS G r3 251502 cm, aI G r4 501 C, aI G r5 500 sp, aI G r6 500 sl, aI G r7 500 sd, aI G r13 9 v4_0] H locs → lv_has ls 6 [(0, .ref y0), (1, .int (nI p)), (2, .int (nI b)), (3, .int (nI x))] → W zp zl ze ({ frames := 3, cells := 0, slots := 0, locals := 68 }) zs zm zargs zbelow zmeth zc H locs 0 0 zQ (F0 zm 12 ls []) := by
    intro zn12
    induction zn12 with
    | zero => intros; omega
    | succ zn12 ih12 =>
      intro x b hx hb hbb zm12 H locs ls hI hl
      refine lv_iload_n zx zb dX9_stepCheaply_12 rfl (lv_at hl 3 rfl) ?_
      refine lv_aload_n zx zb dX9_stepCheaply_13 rfl (lv_at hl 0 rfl) ?_
      refine j_get hC hI hin_X9_stepCheaply_X9 0 rfl rfl 4 (by decide) hfl_X9_stepCheaply_17 rfl rfl dX9_stepCheaply_14 ?_
      refine j_icmp_gt (tgt := 109) hC dX9_stepCheaply_17 (by decide) (by omega) (by omega) (fun c17 => ?_) (fun c17 => ?_)
      · rcases ch_end hb (by omega) hp (by omega) (hC0.2.1 p hp) with ⟨rfl, e1, e2⟩ | ⟨e1, e1b, e1c, ⟨c0, ec⟩, e2⟩
        · refine lv_iload_n zx zb dX9_stepCheaply_109 rfl (lv_at hl 2 rfl) ?_
          refine lv_iconst (v := nI 1) zx zb dX9_stepCheaply_110 (by decide) ?_
          refine j_icmp_ne (tgt := 118) hC dX9_stepCheaply_111 (by decide) (by omega) (by omega) (fun c111 => ?_) (fun c111 => ?_)
          · exact (by omega : False).elim
          · refine lv_iconst (v := nI 0) zx zb dX9_stepCheaply_114 (by decide) ?_
            refine lv_goto (tgt := 119) zx zb dX9_stepCheaply_115 (by decide) ?_
            refine lv_istore_n (lv' := [(3, .int (nI 0)), (0, .ref y0), (1, .int (nI p)), (2, .int (nI 1))]) zx zb dX9_stepCheaply_119 rfl hl (by decide) rfl (fun ls hl => ?_)
            refine lv_iload_n zx zb dX9_stepCheaply_120 rfl (lv_at hl 3 rfl) ?_
            refine lv_iconst (v := nI 1) zx zb dX9_stepCheaply_121 (by decide) ?_
            refine j_icmp_le (tgt := 166) hC dX9_stepCheaply_122 (by decide) (by omega) (by omega) (fun c122 => ?_) (fun c122 => ?_)
            · refine lv_aload_n zx zb dX9_stepCheaply_166 rfl (lv_at hl 1 rfl) ?_
              refine lv_iload_n zx zb dX9_stepCheaply_167 rfl (lv_at hl 2 rfl) ?_
              refine lv_iload_n zx zb dX9_stepCheaply_168 rfl (lv_at hl 3 rfl) ?_
              refine lv_iload_n zx zb dX9_stepCheaply_169 rfl (lv_at hl 0 rfl) ?_
              refine j_callVv (wr := [aS G r3 251502 cm, aI G r4 501 C, aI G r13 9 v4_0]) hC hI (c_X9_goOn_b zl G y0 r1 r2 r3 r4 r5 r6 r7 r8 r9 r10 r11 r12 r13 n la lm lw kn k wp bt pn q th os wz sz ia ft tz T pp sp sl sd p (by omega) (by omega) (by omega)) (cwV 3 hC.2.2.2.2.1 gX9_stepCheaply_X9_goOn rfl rfl rfl (by decide +kernel) ⟨Nat.le_of_ble_eq_true rfl, Nat.le_of_ble_eq_true rfl⟩) [0, 1, 2, 5, 6, 7] [3, 4, 8] rfl rfl rfl rfl rfl rfl (q0 := 0) rfl rfl rfl hl.1 (Nat.le_of_ble_eq_true rfl) dX9_stepCheaply_170 ⟨Nat.le_of_ble_eq_true rfl, Nat.le_of_ble_eq_true rfl⟩ (fun u170 H locs hp170 hI => ?_)
              have hI : jI G zA zs [aS G r3 251502 cm, aI G r4 501 C, aI G r13 9 v4_0, oC y0 9 [.int (nI 0), .ref r1, .int (nI n), .int (nI la), .int (nI lm), .int (nI lw), .ref r2, .ref r3, .ref r4, .int (nI kn), .ref r5, .ref r6, .ref r7, .int (nI (k + 1)), .int (nI (wp + pri T pp (ppA pp) (ppL pp) (ppD pp) p 1 0)), .int (nI (bt + bts la 1 0)), .ref r8, .int (nI pn), .int (nI q), .int (nI th), .ref r9, .int (nI os), .int (nI wz), .ref r10, .int (nI sz), .int (nI ia), .ref r11, .ref r12, .int tz, .ref r13, .int (nI ft)], aI G r1 500 T, aI G r2 26 pp, aI G r5 500 (up sp k p), aI G r6 500 (up sl k 1), aI G r7 500 (up sd k 0)] H locs := hI
              exact hQ _ _ _ _ ⟨1, 0, v4_0⟩ dX9_stepCheaply_173 (hI.sub [3, 4, 5, 0, 1, 6, 7, 8, 2] rfl rfl) (by (try dsimp only); exact (Or.inl ⟨rfl, Or.inl ⟨rfl, rfl, e1, e2⟩⟩))
            · exact (by omega : False).elim
        · obtain ⟨d0, e5, e6, e3, e4⟩ := ok_dist ec (by omega)
          have e4 : pp 8 + pp (9 + b.log2) + pp (17 + d0.log2) + C (p + b) = C p := e4
          have hx8 : b.log2 ≤ 7 := lg_le (k := 7) (by omega)
          have hq1 := hpp 8 (by omega)
          have hq2 := hpp (9 + b.log2) (by omega)
          have hq4 := hC0.2.2 (p + b) (by omega)
          refine lv_iload_n zx zb dX9_stepCheaply_109 rfl (lv_at hl 2 rfl) ?_
          refine lv_iconst (v := nI 1) zx zb dX9_stepCheaply_110 (by decide) ?_
          refine j_icmp_ne (tgt := 118) hC dX9_stepCheaply_111 (by decide) (by omega) (by omega) (fun c111 => ?_) (fun c111 => ?_)
          · refine lv_iconst (v := nI 1) zx zb dX9_stepCheaply_118 (by decide) ?_
            refine lv_istore_n (lv' := [(3, .int (nI 1)), (0, .ref y0), (1, .int (nI p)), (2, .int (nI b))]) zx zb dX9_stepCheaply_119 rfl hl (by decide) rfl (fun ls hl => ?_)
            have loop120 : ∀ (zn120 : Nat) (d : Nat), (1 ≤ d ∧ d ≤ d0) → (∀ y, 1 ≤ y → y < d → ¬ (b ≤ mt la lm lw T n p y ∧ pp (17 + y.log2) = pp (17 + d0.log2))) → (d0 + 1 - d) < zn120 → ∀ (H : Heap) (locs : List Loc) (ls : Array Slot), jI G zA zs [oC y0 9 [.int (nI 0), .ref r1, .int (nI n), .int (nI la), .int (nI lm), .int (nI lw), .ref r2, .ref r3, .ref r4, .int (nI kn), .ref r5, .ref r6, .ref r7, .int (nI k), .int (nI wp), .int (nI bt), .ref r8, .int (nI pn), .int (nI q), .int (nI th), .ref r9, .int (nI os), .int (nI wz), .ref r10, .int (nI sz), .int (nI ia), .ref r11, .ref r12, .int tz, .ref r13, .int (nI ft)], aI G r1 500 T, aI G r2 26 pp, aS G r3 251502 cm, aI G r4 501 C, aI G r5 500 sp, aI G r6 500 sl, aI G r7 500 sd, aI G r13 9 v4_0] H locs → lv_has ls 6 [(0, .ref y0), (1, .int (nI p)), (2, .int (nI b)), (3, .int (nI d))] → W zp zl ze ({ frames := 3, cells := 0, slots := 0, locals := 68 }) zs zm zargs zbelow zmeth zc H locs 0 0 zQ (F0 zm 120 ls []) := by
              intro zn120
              induction zn120 with
              | zero => intros; omega
              | succ zn120 ih120 =>
                intro d hd hx3 zm120 H locs ls hI hl
                have hm2 : mt la lm lw T n p d ≤ lm := mt_le
                have hmd : 1 ≤ d ∧ d < 512 := by omega
                refine lv_iload_n zx zb dX9_stepCheaply_120 rfl (lv_at hl 2 rfl) ?_
                refine lv_iconst (v := nI 1) zx zb dX9_stepCheaply_121 (by decide) ?_
                refine j_icmp_le (tgt := 166) hC dX9_stepCheaply_122 (by decide) (by omega) (by omega) (fun c122 => ?_) (fun c122 => ?_)
                · exact (by omega : False).elim
                · refine lv_aload_n zx zb dX9_stepCheaply_125 rfl (lv_at hl 0 rfl) ?_
                  refine lv_iload_n zx zb dX9_stepCheaply_126 rfl (lv_at hl 1 rfl) ?_
                  refine lv_iload_n zx zb dX9_stepCheaply_127 rfl (lv_at hl 3 rfl) ?_
                  refine j_callVi (wr := [aI G r1 500 T, aI G r2 26 pp, aI G r4 501 C, aI G r5 500 sp, aI G r6 500 sl, aI G r7 500 sd, aI G r13 9 v4_0]) hC hI (c_X9_longest zl G y0 r1 r2 r3 r4 r5 r6 r7 r8 r9 r10 r11 r12 r13 n la lm lw kn k wp bt pn q th os wz sz ia ft tz T cm p d (by omega) (by omega) (by omega) (by omega) (hc p hp)) (cwV 2 hC.2.2.2.2.1 gX9_stepCheaply_X9_longest rfl rfl rfl (by decide +kernel) ⟨Nat.le_of_ble_eq_true rfl, Nat.le_of_ble_eq_true rfl⟩) [0, 3] [1, 2, 4, 5, 6, 7, 8] rfl rfl rfl rfl rfl rfl (q0 := 0) rfl rfl rfl hl.1 (Nat.le_of_ble_eq_true rfl) dX9_stepCheaply_128 ⟨Nat.le_of_ble_eq_true rfl, Nat.le_of_ble_eq_true rfl⟩ (fun rv128 u128 H locs hp128 hI => ?_)
                  have hI : jI G zA zs [aI G r1 500 T, aI G r2 26 pp, aI G r4 501 C, aI G r5 500 sp, aI G r6 500 sl, aI G r7 500 sd, aI G r13 9 v4_0, oC y0 9 [.int (nI 0), .ref r1, .int (nI n), .int (nI la), .int (nI lm), .int (nI lw), .ref r2, .ref r3, .ref r4, .int (nI kn), .ref r5, .ref r6, .ref r7, .int (nI k), .int (nI wp), .int (nI bt), .ref r8, .int (nI pn), .int (nI q), .int (nI th), .ref r9, .int (nI os), .int (nI wz), .ref r10, .int (nI sz), .int (nI ia), .ref r11, .ref r12, .int tz, .ref r13, .int (nI ft)], aS G r3 251502 cm] H locs := hI
                  subst hp128
                  refine lv_iload_n zx zb dX9_stepCheaply_131 rfl (lv_at hl 2 rfl) ?_
                  refine j_icmp_lt (tgt := 160) hC dX9_stepCheaply_132 (by decide) (by omega) (by omega) (fun c132 => ?_) (fun c132 => ?_)
                  · refine lv_iinc (v := nI (d + 1)) (lv' := [(3, .int (nI (d + 1))), (0, .ref y0), (1, .int (nI p)), (2, .int (nI b))]) zx zb dX9_stepCheaply_160 hl (k := 3) rfl (j_inc _ _ _ (by decide)) (by decide) rfl (fun ls hl => ?_)
                    refine lv_goto (tgt := 120) zx zb dX9_stepCheaply_163 (by decide) ?_
                    exact ih120 (d + 1) (by rcases Nat.lt_or_ge d d0 with z | z; omega; exact absurd e3 (by rw [show d0 = d by omega]; omega)) (fun y a c2 => by by_cases e : y = d; subst e; omega; exact hx3 y a (by omega)) (by omega) _ _ _ (hI.sub [7, 0, 1, 8, 2, 3, 4, 5, 6] rfl rfl) (lv_sub hl [1, 2, 3, 0] rfl)
                  · refine lv_aload_n zx zb dX9_stepCheaply_135 rfl (lv_at hl 0 rfl) ?_
                    refine lv_iload_n zx zb dX9_stepCheaply_136 rfl (lv_at hl 1 rfl) ?_
                    refine lv_iload_n zx zb dX9_stepCheaply_137 rfl (lv_at hl 2 rfl) ?_
                    refine lv_iload_n zx zb dX9_stepCheaply_138 rfl (lv_at hl 3 rfl) ?_
                    refine j_callVi (wr := [aI G r1 500 T, aI G r4 501 C, aI G r5 500 sp, aI G r6 500 sl, aI G r7 500 sd, aI G r13 9 v4_0, aS G r3 251502 cm]) hC hI (c_X9_priceOf_m zl G y0 r1 r2 r3 r4 r5 r6 r7 r8 r9 r10 r11 r12 r13 n la lm lw kn k wp bt pn q th os wz sz ia ft tz pp p b d (by omega) (by omega)) (cwV 3 hC.2.2.2.2.1 gX9_stepCheaply_X9_priceOf rfl rfl rfl (by decide +kernel) ⟨Nat.le_of_ble_eq_true rfl, Nat.le_of_ble_eq_true rfl⟩) [7, 1] [0, 2, 3, 4, 5, 6, 8] rfl rfl rfl rfl rfl rfl (q0 := 0) rfl rfl rfl hl.1 (Nat.le_of_ble_eq_true rfl) dX9_stepCheaply_139 ⟨Nat.le_of_ble_eq_true rfl, Nat.le_of_ble_eq_true rfl⟩ (fun rv139 u139 H locs hp139 hI => ?_)
                    have hI : jI G zA zs [aI G r1 500 T, aI G r4 501 C, aI G r5 500 sp, aI G r6 500 sl, aI G r7 500 sd, aI G r13 9 v4_0, aS G r3 251502 cm, oC y0 9 [.int (nI 0), .ref r1, .int (nI n), .int (nI la), .int (nI lm), .int (nI lw), .ref r2, .ref r3, .ref r4, .int (nI kn), .ref r5, .ref r6, .ref r7, .int (nI k), .int (nI wp), .int (nI bt), .ref r8, .int (nI pn), .int (nI q), .int (nI th), .ref r9, .int (nI os), .int (nI wz), .ref r10, .int (nI sz), .int (nI ia), .ref r11, .ref r12, .int tz, .ref r13, .int (nI ft)], aI G r2 26 pp] H locs := hI
                    subst hp139
                    have hd8 : d.log2 ≤ 8 := lg_le (k := 8) (by omega)
                    have hq3 := hpp (17 + d.log2) (by omega)
                    refine lv_aload_n zx zb dX9_stepCheaply_142 rfl (lv_at hl 0 rfl) ?_
                    refine j_get hC hI hin_X9_stepCheaply_X9 7 rfl rfl 8 (by decide) hfl_X9_stepCheaply_31 rfl rfl dX9_stepCheaply_143 ?_
                    refine lv_iload_n zx zb dX9_stepCheaply_146 rfl (lv_at hl 1 rfl) ?_
                    refine lv_iload_n zx zb dX9_stepCheaply_147 rfl (lv_at hl 2 rfl) ?_
                    refine j_iadd hC dX9_stepCheaply_148 ?_
                    refine j_iald hC hI 1 rfl (by omega) (by omega) dX9_stepCheaply_149 ?_
                    refine j_iadd hC dX9_stepCheaply_150 ?_
                    refine lv_aload_n zx zb dX9_stepCheaply_151 rfl (lv_at hl 0 rfl) ?_
                    refine j_get hC hI hin_X9_stepCheaply_X9 7 rfl rfl 8 (by decide) hfl_X9_stepCheaply_31 rfl rfl dX9_stepCheaply_152 ?_
                    refine lv_iload_n zx zb dX9_stepCheaply_155 rfl (lv_at hl 1 rfl) ?_
                    refine j_iald hC hI 1 rfl (by omega) (by omega) dX9_stepCheaply_156 ?_
                    refine j_icmp_eq (tgt := 166) hC dX9_stepCheaply_157 (by decide) (by omega) (by omega) (fun c157 => ?_) (fun c157 => ?_)
                    · refine lv_aload_n zx zb dX9_stepCheaply_166 rfl (lv_at hl 0 rfl) ?_
                      refine lv_iload_n zx zb dX9_stepCheaply_167 rfl (lv_at hl 1 rfl) ?_
                      refine lv_iload_n zx zb dX9_stepCheaply_168 rfl (lv_at hl 2 rfl) ?_
                      refine lv_iload_n zx zb dX9_stepCheaply_169 rfl (lv_at hl 3 rfl) ?_
                      refine j_callVv (wr := [aI G r4 501 C, aI G r13 9 v4_0, aS G r3 251502 cm]) hC hI (c_X9_goOn_m zl G y0 r1 r2 r3 r4 r5 r6 r7 r8 r9 r10 r11 r12 r13 n la lm lw kn k wp bt pn q th os wz sz ia ft tz T pp sp sl sd p b d (by omega) (by omega) (by omega)) (cwV 3 hC.2.2.2.2.1 gX9_stepCheaply_X9_goOn rfl rfl rfl (by decide +kernel) ⟨Nat.le_of_ble_eq_true rfl, Nat.le_of_ble_eq_true rfl⟩) [7, 0, 8, 2, 3, 4] [1, 5, 6] rfl rfl rfl rfl rfl rfl (q0 := 0) rfl rfl rfl hl.1 (Nat.le_of_ble_eq_true rfl) dX9_stepCheaply_170 ⟨Nat.le_of_ble_eq_true rfl, Nat.le_of_ble_eq_true rfl⟩ (fun u170 H locs hp170 hI => ?_)
                      have hI : jI G zA zs [aI G r4 501 C, aI G r13 9 v4_0, aS G r3 251502 cm, oC y0 9 [.int (nI 0), .ref r1, .int (nI n), .int (nI la), .int (nI lm), .int (nI lw), .ref r2, .ref r3, .ref r4, .int (nI kn), .ref r5, .ref r6, .ref r7, .int (nI (k + 1)), .int (nI (wp + pri T pp (ppA pp) (ppL pp) (ppD pp) p b d)), .int (nI (bt + bts la b d)), .ref r8, .int (nI pn), .int (nI q), .int (nI th), .ref r9, .int (nI os), .int (nI wz), .ref r10, .int (nI sz), .int (nI ia), .ref r11, .ref r12, .int tz, .ref r13, .int (nI ft)], aI G r1 500 T, aI G r2 26 pp, aI G r5 500 (up sp k p), aI G r6 500 (up sl k b), aI G r7 500 (up sd k d)] H locs := hI
                      exact hQ _ _ _ _ ⟨b, d, v4_0⟩ dX9_stepCheaply_173 (hI.sub [3, 4, 5, 2, 0, 6, 7, 8, 1] rfl rfl) (by (try dsimp only); exact (sc_many e1 ec e2 hd.1 c132 c157 (fun y a c z => hx3 y a c ⟨z.1, by have z2 : pp 8 + pp (9 + b.log2) + pp (17 + y.log2) + C (p + b) = C p := z.2; omega⟩)))
                    · refine lv_iinc (v := nI (d + 1)) (lv' := [(3, .int (nI (d + 1))), (0, .ref y0), (1, .int (nI p)), (2, .int (nI b))]) zx zb dX9_stepCheaply_160 hl (k := 3) rfl (j_inc _ _ _ (by decide)) (by decide) rfl (fun ls hl => ?_)
                      refine lv_goto (tgt := 120) zx zb dX9_stepCheaply_163 (by decide) ?_
                      exact ih120 (d + 1) (by rcases Nat.lt_or_ge d d0 with z | z; omega; rw [show d0 = d by omega] at e4; omega) (fun y a c2 => by by_cases e : y = d; subst e; intro z; exact c157 (by omega); exact hx3 y a (by omega)) (by omega) _ _ _ (hI.sub [7, 0, 8, 6, 1, 2, 3, 4, 5] rfl rfl) (lv_sub hl [1, 2, 3, 0] rfl)
            exact loop120 _ 1 (by omega) (fun y a c => by omega) (Nat.lt_succ_self _) _ _ _ hI (lv_sub hl [1, 2, 3, 0] rfl)
          · exact (by omega : False).elim
      · refine lv_iload_n zx zb dX9_stepCheaply_20 rfl (lv_at hl 1 rfl) ?_
        refine lv_iload_n zx zb dX9_stepCheaply_21 rfl (lv_at hl 3 rfl) ?_
        refine j_iadd hC dX9_stepCheaply_22 ?_
        refine lv_aload_n zx zb dX9_stepCheaply_23 rfl (lv_at hl 0 rfl) ?_
        refine j_get hC hI hin_X9_stepCheaply_X9 0 rfl rfl 2 (by decide) hfl_X9_stepCheaply_68 rfl rfl dX9_stepCheaply_24 ?_
        refine j_icmp_gt (tgt := 109) hC dX9_stepCheaply_27 (by decide) (by omega) (by omega) (fun c27 => ?_) (fun c27 => ?_)
        · rcases ch_end hb (by omega) hp (by omega) (hC0.2.1 p hp) with ⟨rfl, e1, e2⟩ | ⟨e1, e1b, e1c, ⟨c0, ec⟩, e2⟩
          · refine lv_iload_n zx zb dX9_stepCheaply_109 rfl (lv_at hl 2 rfl) ?_
            refine lv_iconst (v := nI 1) zx zb dX9_stepCheaply_110 (by decide) ?_
            refine j_icmp_ne (tgt := 118) hC dX9_stepCheaply_111 (by decide) (by omega) (by omega) (fun c111 => ?_) (fun c111 => ?_)
            · exact (by omega : False).elim
            · refine lv_iconst (v := nI 0) zx zb dX9_stepCheaply_114 (by decide) ?_
              refine lv_goto (tgt := 119) zx zb dX9_stepCheaply_115 (by decide) ?_
              refine lv_istore_n (lv' := [(3, .int (nI 0)), (0, .ref y0), (1, .int (nI p)), (2, .int (nI 1))]) zx zb dX9_stepCheaply_119 rfl hl (by decide) rfl (fun ls hl => ?_)
              refine lv_iload_n zx zb dX9_stepCheaply_120 rfl (lv_at hl 3 rfl) ?_
              refine lv_iconst (v := nI 1) zx zb dX9_stepCheaply_121 (by decide) ?_
              refine j_icmp_le (tgt := 166) hC dX9_stepCheaply_122 (by decide) (by omega) (by omega) (fun c122 => ?_) (fun c122 => ?_)
              · refine lv_aload_n zx zb dX9_stepCheaply_166 rfl (lv_at hl 1 rfl) ?_
                refine lv_iload_n zx zb dX9_stepCheaply_167 rfl (lv_at hl 2 rfl) ?_
                refine lv_iload_n zx zb dX9_stepCheaply_168 rfl (lv_at hl 3 rfl) ?_
                refine lv_iload_n zx zb dX9_stepCheaply_169 rfl (lv_at hl 0 rfl) ?_
                refine j_callVv (wr := [aS G r3 251502 cm, aI G r4 501 C, aI G r13 9 v4_0]) hC hI (c_X9_goOn_b zl G y0 r1 r2 r3 r4 r5 r6 r7 r8 r9 r10 r11 r12 r13 n la lm lw kn k wp bt pn q th os wz sz ia ft tz T pp sp sl sd p (by omega) (by omega) (by omega)) (cwV 3 hC.2.2.2.2.1 gX9_stepCheaply_X9_goOn rfl rfl rfl (by decide +kernel) ⟨Nat.le_of_ble_eq_true rfl, Nat.le_of_ble_eq_true rfl⟩) [0, 1, 2, 5, 6, 7] [3, 4, 8] rfl rfl rfl rfl rfl rfl (q0 := 0) rfl rfl rfl hl.1 (Nat.le_of_ble_eq_true rfl) dX9_stepCheaply_170 ⟨Nat.le_of_ble_eq_true rfl, Nat.le_of_ble_eq_true rfl⟩ (fun u170 H locs hp170 hI => ?_)
                have hI : jI G zA zs [aS G r3 251502 cm, aI G r4 501 C, aI G r13 9 v4_0, oC y0 9 [.int (nI 0), .ref r1, .int (nI n), .int (nI la), .int (nI lm), .int (nI lw), .ref r2, .ref r3, .ref r4, .int (nI kn), .ref r5, .ref r6, .ref r7, .int (nI (k + 1)), .int (nI (wp + pri T pp (ppA pp) (ppL pp) (ppD pp) p 1 0)), .int (nI (bt + bts la 1 0)), .ref r8, .int (nI pn), .int (nI q), .int (nI th), .ref r9, .int (nI os), .int (nI wz), .ref r10, .int (nI sz), .int (nI ia), .ref r11, .ref r12, .int tz, .ref r13, .int (nI ft)], aI G r1 500 T, aI G r2 26 pp, aI G r5 500 (up sp k p), aI G r6 500 (up sl k 1), aI G r7 500 (up sd k 0)] H locs := hI
                exact hQ _ _ _ _ ⟨1, 0, v4_0⟩ dX9_stepCheaply_173 (hI.sub [3, 4, 5, 0, 1, 6, 7, 8, 2] rfl rfl) (by (try dsimp only); exact (Or.inl ⟨rfl, Or.inl ⟨rfl, rfl, e1, e2⟩⟩))
              · exact (by omega : False).elim
          · obtain ⟨d0, e5, e6, e3, e4⟩ := ok_dist ec (by omega)
            have e4 : pp 8 + pp (9 + b.log2) + pp (17 + d0.log2) + C (p + b) = C p := e4
            have hx8 : b.log2 ≤ 7 := lg_le (k := 7) (by omega)
            have hq1 := hpp 8 (by omega)
            have hq2 := hpp (9 + b.log2) (by omega)
            have hq4 := hC0.2.2 (p + b) (by omega)
            refine lv_iload_n zx zb dX9_stepCheaply_109 rfl (lv_at hl 2 rfl) ?_
            refine lv_iconst (v := nI 1) zx zb dX9_stepCheaply_110 (by decide) ?_
            refine j_icmp_ne (tgt := 118) hC dX9_stepCheaply_111 (by decide) (by omega) (by omega) (fun c111 => ?_) (fun c111 => ?_)
            · refine lv_iconst (v := nI 1) zx zb dX9_stepCheaply_118 (by decide) ?_
              refine lv_istore_n (lv' := [(3, .int (nI 1)), (0, .ref y0), (1, .int (nI p)), (2, .int (nI b))]) zx zb dX9_stepCheaply_119 rfl hl (by decide) rfl (fun ls hl => ?_)
              have loop120 : ∀ (zn120 : Nat) (d : Nat), (1 ≤ d ∧ d ≤ d0) → (∀ y, 1 ≤ y → y < d → ¬ (b ≤ mt la lm lw T n p y ∧ pp (17 + y.log2) = pp (17 + d0.log2))) → (d0 + 1 - d) < zn120 → ∀ (H : Heap) (locs : List Loc) (ls : Array Slot), jI G zA zs [oC y0 9 [.int (nI 0), .ref r1, .int (nI n), .int (nI la), .int (nI lm), .int (nI lw), .ref r2, .ref r3, .ref r4, .int (nI kn), .ref r5, .ref r6, .ref r7, .int (nI k), .int (nI wp), .int (nI bt), .ref r8, .int (nI pn), .int (nI q), .int (nI th), .ref r9, .int (nI os), .int (nI wz), .ref r10, .int (nI sz), .int (nI ia), .ref r11, .ref r12, .int tz, .ref r13, .int (nI ft)], aI G r1 500 T, aI G r2 26 pp, aS G r3 251502 cm, aI G r4 501 C, aI G r5 500 sp, aI G r6 500 sl, aI G r7 500 sd, aI G r13 9 v4_0] H locs → lv_has ls 6 [(0, .ref y0), (1, .int (nI p)), (2, .int (nI b)), (3, .int (nI d))] → W zp zl ze ({ frames := 3, cells := 0, slots := 0, locals := 68 }) zs zm zargs zbelow zmeth zc H locs 0 0 zQ (F0 zm 120 ls []) := by
                intro zn120
                induction zn120 with
                | zero => intros; omega
                | succ zn120 ih120 =>
                  intro d hd hx3 zm120 H locs ls hI hl
                  have hm2 : mt la lm lw T n p d ≤ lm := mt_le
                  have hmd : 1 ≤ d ∧ d < 512 := by omega
                  refine lv_iload_n zx zb dX9_stepCheaply_120 rfl (lv_at hl 2 rfl) ?_
                  refine lv_iconst (v := nI 1) zx zb dX9_stepCheaply_121 (by decide) ?_
                  refine j_icmp_le (tgt := 166) hC dX9_stepCheaply_122 (by decide) (by omega) (by omega) (fun c122 => ?_) (fun c122 => ?_)
                  · exact (by omega : False).elim
                  · refine lv_aload_n zx zb dX9_stepCheaply_125 rfl (lv_at hl 0 rfl) ?_
                    refine lv_iload_n zx zb dX9_stepCheaply_126 rfl (lv_at hl 1 rfl) ?_
                    refine lv_iload_n zx zb dX9_stepCheaply_127 rfl (lv_at hl 3 rfl) ?_
                    refine j_callVi (wr := [aI G r1 500 T, aI G r2 26 pp, aI G r4 501 C, aI G r5 500 sp, aI G r6 500 sl, aI G r7 500 sd, aI G r13 9 v4_0]) hC hI (c_X9_longest zl G y0 r1 r2 r3 r4 r5 r6 r7 r8 r9 r10 r11 r12 r13 n la lm lw kn k wp bt pn q th os wz sz ia ft tz T cm p d (by omega) (by omega) (by omega) (by omega) (hc p hp)) (cwV 2 hC.2.2.2.2.1 gX9_stepCheaply_X9_longest rfl rfl rfl (by decide +kernel) ⟨Nat.le_of_ble_eq_true rfl, Nat.le_of_ble_eq_true rfl⟩) [0, 3] [1, 2, 4, 5, 6, 7, 8] rfl rfl rfl rfl rfl rfl (q0 := 0) rfl rfl rfl hl.1 (Nat.le_of_ble_eq_true rfl) dX9_stepCheaply_128 ⟨Nat.le_of_ble_eq_true rfl, Nat.le_of_ble_eq_true rfl⟩ (fun rv128 u128 H locs hp128 hI => ?_)
                    have hI : jI G zA zs [aI G r1 500 T, aI G r2 26 pp, aI G r4 501 C, aI G r5 500 sp, aI G r6 500 sl, aI G r7 500 sd, aI G r13 9 v4_0, oC y0 9 [.int (nI 0), .ref r1, .int (nI n), .int (nI la), .int (nI lm), .int (nI lw), .ref r2, .ref r3, .ref r4, .int (nI kn), .ref r5, .ref r6, .ref r7, .int (nI k), .int (nI wp), .int (nI bt), .ref r8, .int (nI pn), .int (nI q), .int (nI th), .ref r9, .int (nI os), .int (nI wz), .ref r10, .int (nI sz), .int (nI ia), .ref r11, .ref r12, .int tz, .ref r13, .int (nI ft)], aS G r3 251502 cm] H locs := hI
                    subst hp128
                    refine lv_iload_n zx zb dX9_stepCheaply_131 rfl (lv_at hl 2 rfl) ?_
                    refine j_icmp_lt (tgt := 160) hC dX9_stepCheaply_132 (by decide) (by omega) (by omega) (fun c132 => ?_) (fun c132 => ?_)
                    · refine lv_iinc (v := nI (d + 1)) (lv' := [(3, .int (nI (d + 1))), (0, .ref y0), (1, .int (nI p)), (2, .int (nI b))]) zx zb dX9_stepCheaply_160 hl (k := 3) rfl (j_inc _ _ _ (by decide)) (by decide) rfl (fun ls hl => ?_)
                      refine lv_goto (tgt := 120) zx zb dX9_stepCheaply_163 (by decide) ?_
                      exact ih120 (d + 1) (by rcases Nat.lt_or_ge d d0 with z | z; omega; exact absurd e3 (by rw [show d0 = d by omega]; omega)) (fun y a c2 => by by_cases e : y = d; subst e; omega; exact hx3 y a (by omega)) (by omega) _ _ _ (hI.sub [7, 0, 1, 8, 2, 3, 4, 5, 6] rfl rfl) (lv_sub hl [1, 2, 3, 0] rfl)
                    · refine lv_aload_n zx zb dX9_stepCheaply_135 rfl (lv_at hl 0 rfl) ?_
                      refine lv_iload_n zx zb dX9_stepCheaply_136 rfl (lv_at hl 1 rfl) ?_
                      refine lv_iload_n zx zb dX9_stepCheaply_137 rfl (lv_at hl 2 rfl) ?_
                      refine lv_iload_n zx zb dX9_stepCheaply_138 rfl (lv_at hl 3 rfl) ?_
                      refine j_callVi (wr := [aI G r1 500 T, aI G r4 501 C, aI G r5 500 sp, aI G r6 500 sl, aI G r7 500 sd, aI G r13 9 v4_0, aS G r3 251502 cm]) hC hI (c_X9_priceOf_m zl G y0 r1 r2 r3 r4 r5 r6 r7 r8 r9 r10 r11 r12 r13 n la lm lw kn k wp bt pn q th os wz sz ia ft tz pp p b d (by omega) (by omega)) (cwV 3 hC.2.2.2.2.1 gX9_stepCheaply_X9_priceOf rfl rfl rfl (by decide +kernel) ⟨Nat.le_of_ble_eq_true rfl, Nat.le_of_ble_eq_true rfl⟩) [7, 1] [0, 2, 3, 4, 5, 6, 8] rfl rfl rfl rfl rfl rfl (q0 := 0) rfl rfl rfl hl.1 (Nat.le_of_ble_eq_true rfl) dX9_stepCheaply_139 ⟨Nat.le_of_ble_eq_true rfl, Nat.le_of_ble_eq_true rfl⟩ (fun rv139 u139 H locs hp139 hI => ?_)
                      have hI : jI G zA zs [aI G r1 500 T, aI G r4 501 C, aI G r5 500 sp, aI G r6 500 sl, aI G r7 500 sd, aI G r13 9 v4_0, aS G r3 251502 cm, oC y0 9 [.int (nI 0), .ref r1, .int (nI n), .int (nI la), .int (nI lm), .int (nI lw), .ref r2, .ref r3, .ref r4, .int (nI kn), .ref r5, .ref r6, .ref r7, .int (nI k), .int (nI wp), .int (nI bt), .ref r8, .int (nI pn), .int (nI q), .int (nI th), .ref r9, .int (nI os), .int (nI wz), .ref r10, .int (nI sz), .int (nI ia), .ref r11, .ref r12, .int tz, .ref r13, .int (nI ft)], aI G r2 26 pp] H locs := hI
                      subst hp139
                      have hd8 : d.log2 ≤ 8 := lg_le (k := 8) (by omega)
                      have hq3 := hpp (17 + d.log2) (by omega)
                      refine lv_aload_n zx zb dX9_stepCheaply_142 rfl (lv_at hl 0 rfl) ?_
                      refine j_get hC hI hin_X9_stepCheaply_X9 7 rfl rfl 8 (by decide) hfl_X9_stepCheaply_31 rfl rfl dX9_stepCheaply_143 ?_
                      refine lv_iload_n zx zb dX9_stepCheaply_146 rfl (lv_at hl 1 rfl) ?_
                      refine lv_iload_n zx zb dX9_stepCheaply_147 rfl (lv_at hl 2 rfl) ?_
                      refine j_iadd hC dX9_stepCheaply_148 ?_
                      refine j_iald hC hI 1 rfl (by omega) (by omega) dX9_stepCheaply_149 ?_
                      refine j_iadd hC dX9_stepCheaply_150 ?_
                      refine lv_aload_n zx zb dX9_stepCheaply_151 rfl (lv_at hl 0 rfl) ?_
                      refine j_get hC hI hin_X9_stepCheaply_X9 7 rfl rfl 8 (by decide) hfl_X9_stepCheaply_31 rfl rfl dX9_stepCheaply_152 ?_
                      refine lv_iload_n zx zb dX9_stepCheaply_155 rfl (lv_at hl 1 rfl) ?_
                      refine j_iald hC hI 1 rfl (by omega) (by omega) dX9_stepCheaply_156 ?_
                      refine j_icmp_eq (tgt := 166) hC dX9_stepCheaply_157 (by decide) (by omega) (by omega) (fun c157 => ?_) (fun c157 => ?_)
                      · refine lv_aload_n zx zb dX9_stepCheaply_166 rfl (lv_at hl 0 rfl) ?_
                        refine lv_iload_n zx zb dX9_stepCheaply_167 rfl (lv_at hl 1 rfl) ?_
                        refine lv_iload_n zx zb dX9_stepCheaply_168 rfl (lv_at hl 2 rfl) ?_
                        refine lv_iload_n zx zb dX9_stepCheaply_169 rfl (lv_at hl 3 rfl) ?_
                        refine j_callVv (wr := [aI G r4 501 C, aI G r13 9 v4_0, aS G r3 251502 cm]) hC hI (c_X9_goOn_m zl G y0 r1 r2 r3 r4 r5 r6 r7 r8 r9 r10 r11 r12 r13 n la lm lw kn k wp bt pn q th os wz sz ia ft tz T pp sp sl sd p b d (by omega) (by omega) (by omega)) (cwV 3 hC.2.2.2.2.1 gX9_stepCheaply_X9_goOn rfl rfl rfl (by decide +kernel) ⟨Nat.le_of_ble_eq_true rfl, Nat.le_of_ble_eq_true rfl⟩) [7, 0, 8, 2, 3, 4] [1, 5, 6] rfl rfl rfl rfl rfl rfl (q0 := 0) rfl rfl rfl hl.1 (Nat.le_of_ble_eq_true rfl) dX9_stepCheaply_170 ⟨Nat.le_of_ble_eq_true rfl, Nat.le_of_ble_eq_true rfl⟩ (fun u170 H locs hp170 hI => ?_)
                        have hI : jI G zA zs [aI G r4 501 C, aI G r13 9 v4_0, aS G r3 251502 cm, oC y0 9 [.int (nI 0), .ref r1, .int (nI n), .int (nI la), .int (nI lm), .int (nI lw), .ref r2, .ref r3, .ref r4, .int (nI kn), .ref r5, .ref r6, .ref r7, .int (nI (k + 1)), .int (nI (wp + pri T pp (ppA pp) (ppL pp) (ppD pp) p b d)), .int (nI (bt + bts la b d)), .ref r8, .int (nI pn), .int (nI q), .int (nI th), .ref r9, .int (nI os), .int (nI wz), .ref r10, .int (nI sz), .int (nI ia), .ref r11, .ref r12, .int tz, .ref r13, .int (nI ft)], aI G r1 500 T, aI G r2 26 pp, aI G r5 500 (up sp k p), aI G r6 500 (up sl k b), aI G r7 500 (up sd k d)] H locs := hI
                        exact hQ _ _ _ _ ⟨b, d, v4_0⟩ dX9_stepCheaply_173 (hI.sub [3, 4, 5, 2, 0, 6, 7, 8, 1] rfl rfl) (by (try dsimp only); exact (sc_many e1 ec e2 hd.1 c132 c157 (fun y a c z => hx3 y a c ⟨z.1, by have z2 : pp 8 + pp (9 + b.log2) + pp (17 + y.log2) + C (p + b) = C p := z.2; omega⟩)))
                      · refine lv_iinc (v := nI (d + 1)) (lv' := [(3, .int (nI (d + 1))), (0, .ref y0), (1, .int (nI p)), (2, .int (nI b))]) zx zb dX9_stepCheaply_160 hl (k := 3) rfl (j_inc _ _ _ (by decide)) (by decide) rfl (fun ls hl => ?_)
                        refine lv_goto (tgt := 120) zx zb dX9_stepCheaply_163 (by decide) ?_
                        exact ih120 (d + 1) (by rcases Nat.lt_or_ge d d0 with z | z; omega; rw [show d0 = d by omega] at e4; omega) (fun y a c2 => by by_cases e : y = d; subst e; intro z; exact c157 (by omega); exact hx3 y a (by omega)) (by omega) _ _ _ (hI.sub [7, 0, 8, 6, 1, 2, 3, 4, 5] rfl rfl) (lv_sub hl [1, 2, 3, 0] rfl)
              exact loop120 _ 1 (by omega) (fun y a c => by omega) (Nat.lt_succ_self _) _ _ _ hI (lv_sub hl [1, 2, 3, 0] rfl)
            · exact (by omega : False).elim
        · refine lv_iconst (v := nI 0) zx zb dX9_stepCheaply_30 (by decide) ?_
          refine lv_istore (lv' := [(4, .int (nI 0)), (0, .ref y0), (1, .int (nI p)), (2, .int (nI b)), (3, .int (nI x))]) zx zb dX9_stepCheaply_31 hl (by decide) rfl (fun ls hl => ?_)
          have loop33 : ∀ (zn33 : Nat) (c : Nat) (b2 : Nat), (c ≤ 9) → (chI la lm lw T n (ppA pp) (ppL pp) (ppD pp) C p x c b2) → (b2 ≤ 256) → (9 - c) < zn33 → ∀ (H : Heap) (locs : List Loc) (ls : Array Slot), jI G zA zs [oC y0 9 [.int (nI 0), .ref r1, .int (nI n), .int (nI la), .int (nI lm), .int (nI lw), .ref r2, .ref r3, .ref r4, .int (nI kn), .ref r5, .ref r6, .ref r7, .int (nI k), .int (nI wp), .int (nI bt), .ref r8, .int (nI pn), .int (nI q), .int (nI th), .ref r9, .int (nI os), .int (nI wz), .ref r10, .int (nI sz), .int (nI ia), .ref r11, .ref r12, .int tz, .ref r13, .int (nI ft)], aI G r1 500 T, aI G r2 26 pp, aS G r3 251502 cm, aI G r4 501 C, aI G r5 500 sp, aI G r6 500 sl, aI G r7 500 sd, aI G r13 9 v4_0] H locs → lv_has ls 6 [(0, .ref y0), (1, .int (nI p)), (2, .int (nI b2)), (3, .int (nI x)), (4, .int (nI c))] → W zp zl ze ({ frames := 3, cells := 0, slots := 0, locals := 68 }) zs zm zargs zbelow zmeth zc H locs 0 0 zQ (F0 zm 33 ls []) := by
            intro zn33
            induction zn33 with
            | zero => intros; omega
            | succ zn33 ih33 =>
              intro c b2 h9 hb2 hbb2 zm33 H locs ls hI hl
              refine lv_iload zx zb dX9_stepCheaply_33 (lv_at hl 4 rfl) ?_
              refine lv_bipush (v := nI 9) zx zb dX9_stepCheaply_35 (by decide) ?_
              refine j_icmp_ge (tgt := 103) hC dX9_stepCheaply_37 (by decide) (by omega) (by omega) (fun c37 => ?_) (fun c37 => ?_)
              · refine lv_iinc (v := nI (x + 1)) (lv' := [(3, .int (nI (x + 1))), (0, .ref y0), (1, .int (nI p)), (2, .int (nI b2)), (4, .int (nI c))]) zx zb dX9_stepCheaply_103 hl (k := 3) rfl (j_inc _ _ _ (by decide)) (by decide) rfl (fun ls hl => ?_)
                refine lv_goto (tgt := 12) zx zb dX9_stepCheaply_106 (by decide) ?_
                exact ih12 (x + 1) b2 (by omega) (ch_x hb2 (by omega)) (by omega) (by omega) _ _ _ hI (lv_sub hl [1, 2, 3, 0] rfl)
              · have h2c := tp_lt (c := c) (by omega)
                have h2p := Nat.two_pow_pos c
                have hfc := f4_0 c (by omega)
                have hrm := rxc_mx (la := la) (lm := lm) (lw := lw) (T := T) (n := n) (p := p) (c := c) (by omega)
                refine lv_aload_n zx zb dX9_stepCheaply_40 rfl (lv_at hl 0 rfl) ?_
                refine j_get hC hI hin_X9_stepCheaply_X9 0 rfl rfl 29 (by decide) hfl_X9_stepCheaply_62 rfl rfl dX9_stepCheaply_41 ?_
                refine lv_iload zx zb dX9_stepCheaply_44 (lv_at hl 4 rfl) ?_
                refine j_iald hC hI 8 rfl (by omega) (by omega) dX9_stepCheaply_46 ?_
                refine lv_iload_n zx zb dX9_stepCheaply_47 rfl (lv_at hl 3 rfl) ?_
                refine j_icmp_lt (tgt := 83) hC dX9_stepCheaply_48 (by decide) (by omega) (by omega) (fun c48 => ?_) (fun c48 => ?_)
                · refine lv_iconst (v := nI 0) zx zb dX9_stepCheaply_83 (by decide) ?_
                  refine lv_istore (lv' := [(5, .int (nI 0)), (0, .ref y0), (1, .int (nI p)), (2, .int (nI b2)), (3, .int (nI x)), (4, .int (nI c))]) zx zb dX9_stepCheaply_84 hl (by decide) rfl (fun ls hl => ?_)
                  refine lv_iload zx zb dX9_stepCheaply_86 (lv_at hl 0 rfl) ?_
                  refine j_if_eq (tgt := 95) hC dX9_stepCheaply_88 (by decide) (by omega) (fun c88 => ?_) (fun c88 => ?_)
                  · refine lv_iload_n zx zb dX9_stepCheaply_95 rfl (lv_at hl 3 rfl) ?_
                    refine lv_istore_n (lv' := [(2, .int (nI b2)), (5, .int (nI 0)), (0, .ref y0), (1, .int (nI p)), (3, .int (nI x)), (4, .int (nI c))]) zx zb dX9_stepCheaply_96 rfl hl (by decide) rfl (fun ls hl => ?_)
                    refine lv_iinc (v := nI (c + 1)) (lv' := [(4, .int (nI (c + 1))), (2, .int (nI b2)), (5, .int (nI 0)), (0, .ref y0), (1, .int (nI p)), (3, .int (nI x))]) zx zb dX9_stepCheaply_97 hl (k := 5) rfl (j_inc _ _ _ (by decide)) (by decide) rfl (fun ls hl => ?_)
                    refine lv_goto (tgt := 33) zx zb dX9_stepCheaply_100 (by decide) ?_
                    exact ih33 (c + 1) b2 (by omega) (ch_no hb2 (fun z => by have := z.2.1; have := f4_0 c (by omega); omega)) (by omega) (by omega) _ _ _ hI (lv_sub hl [3, 4, 1, 5, 0] rfl)
                  · exact (by omega : False).elim
                · refine lv_aload_n zx zb dX9_stepCheaply_51 rfl (lv_at hl 0 rfl) ?_
                  refine lv_iload_n zx zb dX9_stepCheaply_52 rfl (lv_at hl 1 rfl) ?_
                  refine lv_iload_n zx zb dX9_stepCheaply_53 rfl (lv_at hl 3 rfl) ?_
                  refine lv_iconst (v := nI 1) zx zb dX9_stepCheaply_54 (by decide) ?_
                  refine lv_iload zx zb dX9_stepCheaply_55 (lv_at hl 4 rfl) ?_
                  refine j_ishl1 hC (by omega) dX9_stepCheaply_57 ?_
                  refine j_callVi (wr := [aI G r1 500 T, aS G r3 251502 cm, aI G r4 501 C, aI G r5 500 sp, aI G r6 500 sl, aI G r7 500 sd, aI G r13 9 v4_0]) hC hI (c_X9_priceOf_m zl G y0 r1 r2 r3 r4 r5 r6 r7 r8 r9 r10 r11 r12 r13 n la lm lw kn k wp bt pn q th os wz sz ia ft tz pp p x (2 ^ c) (by omega) (by omega)) (cwV 3 hC.2.2.2.2.1 gX9_stepCheaply_X9_priceOf rfl rfl rfl (by decide +kernel) ⟨Nat.le_of_ble_eq_true rfl, Nat.le_of_ble_eq_true rfl⟩) [0, 2] [1, 3, 4, 5, 6, 7, 8] rfl rfl rfl rfl rfl rfl (q0 := 0) rfl rfl rfl hl.1 (Nat.le_of_ble_eq_true rfl) dX9_stepCheaply_58 ⟨Nat.le_of_ble_eq_true rfl, Nat.le_of_ble_eq_true rfl⟩ (fun rv58 u58 H locs hp58 hI => ?_)
                  have hI : jI G zA zs [aI G r1 500 T, aS G r3 251502 cm, aI G r4 501 C, aI G r5 500 sp, aI G r6 500 sl, aI G r7 500 sd, aI G r13 9 v4_0, oC y0 9 [.int (nI 0), .ref r1, .int (nI n), .int (nI la), .int (nI lm), .int (nI lw), .ref r2, .ref r3, .ref r4, .int (nI kn), .ref r5, .ref r6, .ref r7, .int (nI k), .int (nI wp), .int (nI bt), .ref r8, .int (nI pn), .int (nI q), .int (nI th), .ref r9, .int (nI os), .int (nI wz), .ref r10, .int (nI sz), .int (nI ia), .ref r11, .ref r12, .int tz, .ref r13, .int (nI ft)], aI G r2 26 pp] H locs := hI
                  subst hp58
                  rw [lg_tp]
                  have hx8 : x.log2 ≤ 7 := lg_le (k := 7) (by omega)
                  have hq1 := hpp 8 (by omega)
                  have hq2 := hpp (9 + x.log2) (by omega)
                  have hq3 := hpp (17 + c) (by omega)
                  have hq4 := hC0.2.2 (p + x) (by omega)
                  have hcm : cmt (ppA pp) (ppL pp) (ppD pp) C p x c = pp 8 + pp (9 + x.log2) + pp (17 + c) + C (p + x) := rfl
                  refine lv_aload_n zx zb dX9_stepCheaply_61 rfl (lv_at hl 0 rfl) ?_
                  refine j_get hC hI hin_X9_stepCheaply_X9 7 rfl rfl 8 (by decide) hfl_X9_stepCheaply_31 rfl rfl dX9_stepCheaply_62 ?_
                  refine lv_iload_n zx zb dX9_stepCheaply_65 rfl (lv_at hl 1 rfl) ?_
                  refine lv_iload_n zx zb dX9_stepCheaply_66 rfl (lv_at hl 3 rfl) ?_
                  refine j_iadd hC dX9_stepCheaply_67 ?_
                  refine j_iald hC hI 2 rfl (by omega) (by omega) dX9_stepCheaply_68 ?_
                  refine j_iadd hC dX9_stepCheaply_69 ?_
                  refine lv_aload_n zx zb dX9_stepCheaply_70 rfl (lv_at hl 0 rfl) ?_
                  refine j_get hC hI hin_X9_stepCheaply_X9 7 rfl rfl 8 (by decide) hfl_X9_stepCheaply_31 rfl rfl dX9_stepCheaply_71 ?_
                  refine lv_iload_n zx zb dX9_stepCheaply_74 rfl (lv_at hl 1 rfl) ?_
                  refine j_iald hC hI 2 rfl (by omega) (by omega) dX9_stepCheaply_75 ?_
                  refine j_icmp_ne (tgt := 83) hC dX9_stepCheaply_76 (by decide) (by omega) (by omega) (fun c76 => ?_) (fun c76 => ?_)
                  · refine lv_iconst (v := nI 0) zx zb dX9_stepCheaply_83 (by decide) ?_
                    refine lv_istore (lv' := [(5, .int (nI 0)), (0, .ref y0), (1, .int (nI p)), (2, .int (nI b2)), (3, .int (nI x)), (4, .int (nI c))]) zx zb dX9_stepCheaply_84 hl (by decide) rfl (fun ls hl => ?_)
                    refine lv_iload zx zb dX9_stepCheaply_86 (lv_at hl 0 rfl) ?_
                    refine j_if_eq (tgt := 95) hC dX9_stepCheaply_88 (by decide) (by omega) (fun c88 => ?_) (fun c88 => ?_)
                    · refine lv_iload_n zx zb dX9_stepCheaply_95 rfl (lv_at hl 3 rfl) ?_
                      refine lv_istore_n (lv' := [(2, .int (nI b2)), (5, .int (nI 0)), (0, .ref y0), (1, .int (nI p)), (3, .int (nI x)), (4, .int (nI c))]) zx zb dX9_stepCheaply_96 rfl hl (by decide) rfl (fun ls hl => ?_)
                      refine lv_iinc (v := nI (c + 1)) (lv' := [(4, .int (nI (c + 1))), (2, .int (nI b2)), (5, .int (nI 0)), (0, .ref y0), (1, .int (nI p)), (3, .int (nI x))]) zx zb dX9_stepCheaply_97 hl (k := 5) rfl (j_inc _ _ _ (by decide)) (by decide) rfl (fun ls hl => ?_)
                      refine lv_goto (tgt := 33) zx zb dX9_stepCheaply_100 (by decide) ?_
                      exact ih33 (c + 1) b2 (by omega) (ch_no hb2 (fun z => by have := z.2.2; rw [hcm] at this; omega)) (by omega) (by omega) _ _ _ (hI.sub [7, 0, 8, 1, 2, 3, 4, 5, 6] rfl rfl) (lv_sub hl [3, 4, 1, 5, 0] rfl)
                    · exact (by omega : False).elim
                  · refine lv_iconst (v := nI 1) zx zb dX9_stepCheaply_79 (by decide) ?_
                    refine lv_goto (tgt := 84) zx zb dX9_stepCheaply_80 (by decide) ?_
                    refine lv_istore (lv' := [(5, .int (nI 1)), (0, .ref y0), (1, .int (nI p)), (2, .int (nI b2)), (3, .int (nI x)), (4, .int (nI c))]) zx zb dX9_stepCheaply_84 hl (by decide) rfl (fun ls hl => ?_)
                    refine lv_iload zx zb dX9_stepCheaply_86 (lv_at hl 0 rfl) ?_
                    refine j_if_eq (tgt := 95) hC dX9_stepCheaply_88 (by decide) (by omega) (fun c88 => ?_) (fun c88 => ?_)
                    · exact (by omega : False).elim
                    · refine lv_iload_n zx zb dX9_stepCheaply_91 rfl (lv_at hl 4 rfl) ?_
                      refine lv_goto (tgt := 96) zx zb dX9_stepCheaply_92 (by decide) ?_
                      refine lv_istore_n (lv' := [(2, .int (nI x)), (5, .int (nI 1)), (0, .ref y0), (1, .int (nI p)), (3, .int (nI x)), (4, .int (nI c))]) zx zb dX9_stepCheaply_96 rfl hl (by decide) rfl (fun ls hl => ?_)
                      refine lv_iinc (v := nI (c + 1)) (lv' := [(4, .int (nI (c + 1))), (2, .int (nI x)), (5, .int (nI 1)), (0, .ref y0), (1, .int (nI p)), (3, .int (nI x))]) zx zb dX9_stepCheaply_97 hl (k := 5) rfl (j_inc _ _ _ (by decide)) (by decide) rfl (fun ls hl => ?_)
                      refine lv_goto (tgt := 33) zx zb dX9_stepCheaply_100 (by decide) ?_
                      exact ih33 (c + 1) x (by omega) (ch_yes (by omega) ⟨by omega, by have := f4_0 c (by omega); omega, by rw [hcm]; omega⟩) (by omega) (by omega) _ _ _ (hI.sub [7, 0, 8, 1, 2, 3, 4, 5, 6] rfl rfl) (lv_sub hl [3, 4, 1, 5, 0] rfl)
          exact loop33 _ 0 b (by omega) hb (by omega) (Nat.lt_succ_self _) _ _ _ hI (lv_sub hl [1, 2, 3, 4, 0] rfl)
  exact loop12 _ la 1 (by omega) ch_0 (by omega) (Nat.lt_succ_self _) _ _ _ (hI.sub [6, 0, 1, 7, 2, 3, 4, 5, 8] rfl rfl) (lv_sub hl [2, 3, 1, 0] rfl)

set_option maxHeartbeats 4000000 in
set_option maxRecDepth 100000 in
theorem c_X9_stepGreedily_1 (zl : Launch) (G : jG) (y0 : Nat) (r1 : Nat) (r2 : Nat) (r3 : Nat) (r4 : Nat) (r5 : Nat) (r6 : Nat) (r7 : Nat) (r8 : Nat) (r9 : Nat) (r10 : Nat) (r11 : Nat) (r12 : Nat) (r13 : Nat) (n : Nat) (la : Nat) (lm : Nat) (lw : Nat) (kn : Nat) (k : Nat) (wp : Nat) (bt : Nat) (pn : Nat) (q : Nat) (th : Nat) (os : Nat) (wz : Nat) (sz : Nat) (ia : Nat) (ft : Nat) (tz : Int32) (T : Nat → Nat) (pp : Nat → Nat) (cm : Nat → Nat) (sp : Nat → Nat) (sl : Nat → Nat) (sd : Nat → Nat) (p : Nat) (hn : n ≤ 500) (hl0 : 2 ≤ la ∧ la ≤ lm ∧ lm ≤ 255 ∧ lw ≤ 500) (hT : ∀ j, j < n → T j < 256) (hpp : ∀ j, j < 26 → 1 ≤ pp j ∧ pp j ≤ 1000) (hk : k < 500) (hp : p < n) (hc : ∀ p, p < n → cmO T n cm p) : jMet zl yX9_stepGreedily wsX9_stepGreedily ({ frames := 3, cells := 0, slots := 0, locals := 68 }) G [oC y0 9 [.int (nI 0), .ref r1, .int (nI n), .int (nI la), .int (nI lm), .int (nI lw), .ref r2, .ref r3, .ref r4, .int (nI kn), .ref r5, .ref r6, .ref r7, .int (nI k), .int (nI wp), .int (nI bt), .ref r8, .int (nI pn), .int (nI q), .int (nI th), .ref r9, .int (nI os), .int (nI wz), .ref r10, .int (nI sz), .int (nI ia), .ref r11, .ref r12, .int tz, .ref r13, .int (nI ft)], aI G r1 500 T, aI G r2 26 pp, aS G r3 251502 cm, aI G r5 500 sp, aI G r6 500 sl, aI G r7 500 sd] [.ref y0, .int (nI p), .int (nI 0)] (jQv G (fun (u : Nat × Nat) => (stepR 1 la lm lw T n pp (ppA pp) (ppL pp) (ppD pp) (fun _ => 0) p u.1 u.2)) (fun (u : Nat × Nat) => [oC y0 9 [.int (nI 0), .ref r1, .int (nI n), .int (nI la), .int (nI lm), .int (nI lw), .ref r2, .ref r3, .ref r4, .int (nI kn), .ref r5, .ref r6, .ref r7, .int (nI (k + 1)), .int (nI (wp + pri T pp (ppA pp) (ppL pp) (ppD pp) p u.1 u.2)), .int (nI (bt + bts la u.1 u.2)), .ref r8, .int (nI pn), .int (nI q), .int (nI th), .ref r9, .int (nI os), .int (nI wz), .ref r10, .int (nI sz), .int (nI ia), .ref r11, .ref r12, .int tz, .ref r13, .int (nI ft)], aI G r1 500 T, aI G r2 26 pp, aS G r3 251502 cm, aI G r5 500 (up sp k p), aI G r6 500 (up sl k u.1), aI G r7 500 (up sd k u.2)])) 0 0 := by
  refine j_enter_v (cc := cX9_stepGreedily) (nL := 5) (nm := "stepGreedily") (own := RX9) (lv := [(0, .ref y0), (1, .int (nI p)), (2, .int (nI 0))]) (by decide) rfl (Nat.le_of_ble_eq_true rfl) rfl rfl rfl ?_
  intro zA zp ze zs zm zargs zbelow zmeth zc zQ ls hC hQ hI hl
  have zx := hC.1
  have zb := hC.2.1
  have hTp := hT p hp
  have hlg : lgA la lm lw T n p = mx (mt la lm lw T n p) 511 := if_pos hp
  have hml : mx (mt la lm lw T n p) 511 ≤ lm := mx_le (fun d => mt_le) _
  have hl1 : lgA la lm lw T n (p + 1) ≤ lm := by rw [lgA]; split; exact mx_le (fun d => mt_le) _; omega
  refine lv_aload_n zx zb dX9_stepGreedily_0 rfl (lv_at hl 0 rfl) ?_
  refine lv_iload_n zx zb dX9_stepGreedily_1 rfl (lv_at hl 1 rfl) ?_
  refine j_callVi (wr := [aI G r1 500 T, aI G r2 26 pp, aI G r5 500 sp, aI G r6 500 sl, aI G r7 500 sd]) hC hI (c_X9_longestAt zl G y0 r1 r2 r3 r4 r5 r6 r7 r8 r9 r10 r11 r12 r13 n la lm lw kn k wp bt pn q th os wz sz ia ft tz T cm p (by omega) (by omega) (by omega) (fun h => hc _ h)) (cwV 1 hC.2.2.2.2.1 gX9_stepGreedily_X9_longestAt rfl rfl rfl (by decide +kernel) ⟨Nat.le_of_ble_eq_true rfl, Nat.le_of_ble_eq_true rfl⟩) [0, 3] [1, 2, 4, 5, 6] rfl rfl rfl rfl rfl rfl (q0 := 0) rfl rfl rfl hl.1 (Nat.le_of_ble_eq_true rfl) dX9_stepGreedily_2 ⟨Nat.le_of_ble_eq_true rfl, Nat.le_of_ble_eq_true rfl⟩ (fun rv2 u2 H locs hp2 hI => ?_)
  have hI : jI G zA zs [aI G r1 500 T, aI G r2 26 pp, aI G r5 500 sp, aI G r6 500 sl, aI G r7 500 sd, oC y0 9 [.int (nI 0), .ref r1, .int (nI n), .int (nI la), .int (nI lm), .int (nI lw), .ref r2, .ref r3, .ref r4, .int (nI kn), .ref r5, .ref r6, .ref r7, .int (nI k), .int (nI wp), .int (nI bt), .ref r8, .int (nI pn), .int (nI q), .int (nI th), .ref r9, .int (nI os), .int (nI wz), .ref r10, .int (nI sz), .int (nI ia), .ref r11, .ref r12, .int tz, .ref r13, .int (nI ft)], aS G r3 251502 cm] H locs := hI
  subst hp2
  refine lv_istore_n (lv' := [(3, .int (nI (lgA la lm lw T n p))), (0, .ref y0), (1, .int (nI p)), (2, .int (nI 0))]) zx zb dX9_stepGreedily_5 rfl hl (by decide) rfl (fun ls hl => ?_)
  refine lv_iload_n zx zb dX9_stepGreedily_6 rfl (lv_at hl 0 rfl) ?_
  refine j_if_eq (tgt := 25) hC dX9_stepGreedily_7 (by decide) (by omega) (fun c7 => ?_) (fun c7 => ?_)
  · refine lv_iconst (v := nI 1) zx zb dX9_stepGreedily_25 (by decide) ?_
    refine lv_goto (tgt := 30) zx zb dX9_stepGreedily_26 (by decide) ?_
    refine lv_istore (lv' := [(4, .int (nI 1)), (3, .int (nI (lgA la lm lw T n p))), (0, .ref y0), (1, .int (nI p)), (2, .int (nI 0))]) zx zb dX9_stepGreedily_30 hl (by decide) rfl (fun ls hl => ?_)
    refine lv_aload_n zx zb dX9_stepGreedily_32 rfl (lv_at hl 2 rfl) ?_
    refine lv_iload_n zx zb dX9_stepGreedily_33 rfl (lv_at hl 3 rfl) ?_
    refine lv_iload zx zb dX9_stepGreedily_34 (lv_at hl 0 rfl) ?_
    refine j_if_eq (tgt := 43) hC dX9_stepGreedily_36 (by decide) (by omega) (fun c36 => ?_) (fun c36 => ?_)
    · exact (by omega : False).elim
    · refine lv_iconst (v := nI 1) zx zb dX9_stepGreedily_39 (by decide) ?_
      refine lv_goto (tgt := 44) zx zb dX9_stepGreedily_40 (by decide) ?_
      refine lv_iload zx zb dX9_stepGreedily_44 (lv_at hl 0 rfl) ?_
      refine j_if_eq (tgt := 53) hC dX9_stepGreedily_46 (by decide) (by omega) (fun c46 => ?_) (fun c46 => ?_)
      · exact (by omega : False).elim
      · refine lv_iconst (v := nI 0) zx zb dX9_stepGreedily_49 (by decide) ?_
        refine lv_goto (tgt := 59) zx zb dX9_stepGreedily_50 (by decide) ?_
        refine j_callVv (wr := [aS G r3 251502 cm]) hC hI (c_X9_goOn_b zl G y0 r1 r2 r3 r4 r5 r6 r7 r8 r9 r10 r11 r12 r13 n la lm lw kn k wp bt pn q th os wz sz ia ft tz T pp sp sl sd p (by omega) (by omega) (by omega)) (cwV 3 hC.2.2.2.2.1 gX9_stepGreedily_X9_goOn rfl rfl rfl (by decide +kernel) ⟨Nat.le_of_ble_eq_true rfl, Nat.le_of_ble_eq_true rfl⟩) [5, 0, 1, 2, 3, 4] [6] rfl rfl rfl rfl rfl rfl (q0 := 0) rfl rfl rfl hl.1 (Nat.le_of_ble_eq_true rfl) dX9_stepGreedily_59 ⟨Nat.le_of_ble_eq_true rfl, Nat.le_of_ble_eq_true rfl⟩ (fun u59 H locs hp59 hI => ?_)
        have hI : jI G zA zs [aS G r3 251502 cm, oC y0 9 [.int (nI 0), .ref r1, .int (nI n), .int (nI la), .int (nI lm), .int (nI lw), .ref r2, .ref r3, .ref r4, .int (nI kn), .ref r5, .ref r6, .ref r7, .int (nI (k + 1)), .int (nI (wp + pri T pp (ppA pp) (ppL pp) (ppD pp) p 1 0)), .int (nI (bt + bts la 1 0)), .ref r8, .int (nI pn), .int (nI q), .int (nI th), .ref r9, .int (nI os), .int (nI wz), .ref r10, .int (nI sz), .int (nI ia), .ref r11, .ref r12, .int tz, .ref r13, .int (nI ft)], aI G r1 500 T, aI G r2 26 pp, aI G r5 500 (up sp k p), aI G r6 500 (up sl k 1), aI G r7 500 (up sd k 0)] H locs := hI
        exact hQ _ _ _ _ ⟨1, 0⟩ dX9_stepGreedily_62 (hI.sub [1, 2, 3, 0, 4, 5, 6] rfl rfl) (by (try dsimp only); exact (gr_byte hp (Or.inl rfl) (Or.inl c7)))
  · refine lv_iload_n zx zb dX9_stepGreedily_10 rfl (lv_at hl 3 rfl) ?_
    refine j_if_eq (tgt := 29) hC dX9_stepGreedily_11 (by decide) (by omega) (fun c11 => ?_) (fun c11 => ?_)
    · refine lv_iconst (v := nI 0) zx zb dX9_stepGreedily_29 (by decide) ?_
      refine lv_istore (lv' := [(4, .int (nI 0)), (3, .int (nI (lgA la lm lw T n p))), (0, .ref y0), (1, .int (nI p)), (2, .int (nI 0))]) zx zb dX9_stepGreedily_30 hl (by decide) rfl (fun ls hl => ?_)
      refine lv_aload_n zx zb dX9_stepGreedily_32 rfl (lv_at hl 2 rfl) ?_
      refine lv_iload_n zx zb dX9_stepGreedily_33 rfl (lv_at hl 3 rfl) ?_
      refine lv_iload zx zb dX9_stepGreedily_34 (lv_at hl 0 rfl) ?_
      refine j_if_eq (tgt := 43) hC dX9_stepGreedily_36 (by decide) (by omega) (fun c36 => ?_) (fun c36 => ?_)
      · refine lv_iload_n zx zb dX9_stepGreedily_43 rfl (lv_at hl 1 rfl) ?_
        refine lv_iload zx zb dX9_stepGreedily_44 (lv_at hl 0 rfl) ?_
        refine j_if_eq (tgt := 53) hC dX9_stepGreedily_46 (by decide) (by omega) (fun c46 => ?_) (fun c46 => ?_)
        · obtain ⟨d0, z1, z2, z3, z4, z5⟩ := mx_mt (la := la) (lm := lm) (lw := lw) (T := T) (n := n) (p := p) (by omega)
          refine lv_aload_n zx zb dX9_stepGreedily_53 rfl (lv_at hl 2 rfl) ?_
          refine lv_iload_n zx zb dX9_stepGreedily_54 rfl (lv_at hl 3 rfl) ?_
          refine lv_iload_n zx zb dX9_stepGreedily_55 rfl (lv_at hl 1 rfl) ?_
          refine j_callVi (wr := [aI G r1 500 T, aI G r2 26 pp, aI G r5 500 sp, aI G r6 500 sl, aI G r7 500 sd]) hC hI (c_X9_nearestOf zl G y0 r1 r2 r3 r4 r5 r6 r7 r8 r9 r10 r11 r12 r13 n la lm lw kn k wp bt pn q th os wz sz ia ft tz T cm p (lgA la lm lw T n p) d0 (by omega) (by omega) (by omega) (hc p hp) (by omega) ⟨z1, z2, by rw [hlg]; exact z4⟩) (cwV 2 hC.2.2.2.2.1 gX9_stepGreedily_X9_nearestOf rfl rfl rfl (by decide +kernel) ⟨Nat.le_of_ble_eq_true rfl, Nat.le_of_ble_eq_true rfl⟩) [5, 6] [0, 1, 2, 3, 4] rfl rfl rfl rfl rfl rfl (q0 := 0) rfl rfl rfl hl.1 (Nat.le_of_ble_eq_true rfl) dX9_stepGreedily_56 ⟨Nat.le_of_ble_eq_true rfl, Nat.le_of_ble_eq_true rfl⟩ (fun rv56 u56 H locs hp56 hI => ?_)
          obtain ⟨v56_0, rfl⟩ : ∃ z, z = u56 := ⟨_, rfl⟩
          have hI : jI G zA zs [aI G r1 500 T, aI G r2 26 pp, aI G r5 500 sp, aI G r6 500 sl, aI G r7 500 sd, oC y0 9 [.int (nI 0), .ref r1, .int (nI n), .int (nI la), .int (nI lm), .int (nI lw), .ref r2, .ref r3, .ref r4, .int (nI kn), .ref r5, .ref r6, .ref r7, .int (nI k), .int (nI wp), .int (nI bt), .ref r8, .int (nI pn), .int (nI q), .int (nI th), .ref r9, .int (nI os), .int (nI wz), .ref r10, .int (nI sz), .int (nI ia), .ref r11, .ref r12, .int tz, .ref r13, .int (nI ft)], aS G r3 251502 cm] H locs := hI
          obtain ⟨rfl, f56_0, f56_1⟩ := hp56
          refine j_callVv (wr := [aS G r3 251502 cm]) hC hI (c_X9_goOn_m zl G y0 r1 r2 r3 r4 r5 r6 r7 r8 r9 r10 r11 r12 r13 n la lm lw kn k wp bt pn q th os wz sz ia ft tz T pp sp sl sd p (lgA la lm lw T n p) v56_0 (by omega) (by omega) (by omega)) (cwV 3 hC.2.2.2.2.1 gX9_stepGreedily_X9_goOn rfl rfl rfl (by decide +kernel) ⟨Nat.le_of_ble_eq_true rfl, Nat.le_of_ble_eq_true rfl⟩) [5, 0, 1, 2, 3, 4] [6] rfl rfl rfl rfl rfl rfl (q0 := 0) rfl rfl rfl hl.1 (Nat.le_of_ble_eq_true rfl) dX9_stepGreedily_59 ⟨Nat.le_of_ble_eq_true rfl, Nat.le_of_ble_eq_true rfl⟩ (fun u59 H locs hp59 hI => ?_)
          have hI : jI G zA zs [aS G r3 251502 cm, oC y0 9 [.int (nI 0), .ref r1, .int (nI n), .int (nI la), .int (nI lm), .int (nI lw), .ref r2, .ref r3, .ref r4, .int (nI kn), .ref r5, .ref r6, .ref r7, .int (nI (k + 1)), .int (nI (wp + pri T pp (ppA pp) (ppL pp) (ppD pp) p (lgA la lm lw T n p) v56_0)), .int (nI (bt + bts la (lgA la lm lw T n p) v56_0)), .ref r8, .int (nI pn), .int (nI q), .int (nI th), .ref r9, .int (nI os), .int (nI wz), .ref r10, .int (nI sz), .int (nI ia), .ref r11, .ref r12, .int tz, .ref r13, .int (nI ft)], aI G r1 500 T, aI G r2 26 pp, aI G r5 500 (up sp k p), aI G r6 500 (up sl k (lgA la lm lw T n p)), aI G r7 500 (up sd k v56_0)] H locs := hI
          exact hQ _ _ _ _ ⟨lgA la lm lw T n p, v56_0⟩ dX9_stepGreedily_62 (hI.sub [1, 2, 3, 0, 4, 5, 6] rfl rfl) (by (try dsimp only); exact (sg_match hp (Or.inl rfl) (by omega) f56_0 f56_1 (by omega)))
        · exact (by omega : False).elim
      · exact (by omega : False).elim
    · exact (by omega : False).elim

set_option maxHeartbeats 4000000 in
set_option maxRecDepth 100000 in
theorem c_X9_stepGreedily_2 (zl : Launch) (G : jG) (y0 : Nat) (r1 : Nat) (r2 : Nat) (r3 : Nat) (r4 : Nat) (r5 : Nat) (r6 : Nat) (r7 : Nat) (r8 : Nat) (r9 : Nat) (r10 : Nat) (r11 : Nat) (r12 : Nat) (r13 : Nat) (n : Nat) (la : Nat) (lm : Nat) (lw : Nat) (kn : Nat) (k : Nat) (wp : Nat) (bt : Nat) (pn : Nat) (q : Nat) (th : Nat) (os : Nat) (wz : Nat) (sz : Nat) (ia : Nat) (ft : Nat) (tz : Int32) (T : Nat → Nat) (pp : Nat → Nat) (cm : Nat → Nat) (sp : Nat → Nat) (sl : Nat → Nat) (sd : Nat → Nat) (p : Nat) (hn : n ≤ 500) (hl0 : 2 ≤ la ∧ la ≤ lm ∧ lm ≤ 255 ∧ lw ≤ 500) (hT : ∀ j, j < n → T j < 256) (hpp : ∀ j, j < 26 → 1 ≤ pp j ∧ pp j ≤ 1000) (hk : k < 500) (hp : p < n) (hc : ∀ p, p < n → cmO T n cm p) : jMet zl yX9_stepGreedily wsX9_stepGreedily ({ frames := 3, cells := 0, slots := 0, locals := 68 }) G [oC y0 9 [.int (nI 0), .ref r1, .int (nI n), .int (nI la), .int (nI lm), .int (nI lw), .ref r2, .ref r3, .ref r4, .int (nI kn), .ref r5, .ref r6, .ref r7, .int (nI k), .int (nI wp), .int (nI bt), .ref r8, .int (nI pn), .int (nI q), .int (nI th), .ref r9, .int (nI os), .int (nI wz), .ref r10, .int (nI sz), .int (nI ia), .ref r11, .ref r12, .int tz, .ref r13, .int (nI ft)], aI G r1 500 T, aI G r2 26 pp, aS G r3 251502 cm, aI G r5 500 sp, aI G r6 500 sl, aI G r7 500 sd] [.ref y0, .int (nI p), .int (nI 1)] (jQv G (fun (u : Nat × Nat) => (stepR 2 la lm lw T n pp (ppA pp) (ppL pp) (ppD pp) (fun _ => 0) p u.1 u.2)) (fun (u : Nat × Nat) => [oC y0 9 [.int (nI 0), .ref r1, .int (nI n), .int (nI la), .int (nI lm), .int (nI lw), .ref r2, .ref r3, .ref r4, .int (nI kn), .ref r5, .ref r6, .ref r7, .int (nI (k + 1)), .int (nI (wp + pri T pp (ppA pp) (ppL pp) (ppD pp) p u.1 u.2)), .int (nI (bt + bts la u.1 u.2)), .ref r8, .int (nI pn), .int (nI q), .int (nI th), .ref r9, .int (nI os), .int (nI wz), .ref r10, .int (nI sz), .int (nI ia), .ref r11, .ref r12, .int tz, .ref r13, .int (nI ft)], aI G r1 500 T, aI G r2 26 pp, aS G r3 251502 cm, aI G r5 500 (up sp k p), aI G r6 500 (up sl k u.1), aI G r7 500 (up sd k u.2)])) 0 0 := by
  refine j_enter_v (cc := cX9_stepGreedily) (nL := 5) (nm := "stepGreedily") (own := RX9) (lv := [(0, .ref y0), (1, .int (nI p)), (2, .int (nI 1))]) (by decide) rfl (Nat.le_of_ble_eq_true rfl) rfl rfl rfl ?_
  intro zA zp ze zs zm zargs zbelow zmeth zc zQ ls hC hQ hI hl
  have zx := hC.1
  have zb := hC.2.1
  have hTp := hT p hp
  have hlg : lgA la lm lw T n p = mx (mt la lm lw T n p) 511 := if_pos hp
  have hml : mx (mt la lm lw T n p) 511 ≤ lm := mx_le (fun d => mt_le) _
  have hl1 : lgA la lm lw T n (p + 1) ≤ lm := by rw [lgA]; split; exact mx_le (fun d => mt_le) _; omega
  refine lv_aload_n zx zb dX9_stepGreedily_0 rfl (lv_at hl 0 rfl) ?_
  refine lv_iload_n zx zb dX9_stepGreedily_1 rfl (lv_at hl 1 rfl) ?_
  refine j_callVi (wr := [aI G r1 500 T, aI G r2 26 pp, aI G r5 500 sp, aI G r6 500 sl, aI G r7 500 sd]) hC hI (c_X9_longestAt zl G y0 r1 r2 r3 r4 r5 r6 r7 r8 r9 r10 r11 r12 r13 n la lm lw kn k wp bt pn q th os wz sz ia ft tz T cm p (by omega) (by omega) (by omega) (fun h => hc _ h)) (cwV 1 hC.2.2.2.2.1 gX9_stepGreedily_X9_longestAt rfl rfl rfl (by decide +kernel) ⟨Nat.le_of_ble_eq_true rfl, Nat.le_of_ble_eq_true rfl⟩) [0, 3] [1, 2, 4, 5, 6] rfl rfl rfl rfl rfl rfl (q0 := 0) rfl rfl rfl hl.1 (Nat.le_of_ble_eq_true rfl) dX9_stepGreedily_2 ⟨Nat.le_of_ble_eq_true rfl, Nat.le_of_ble_eq_true rfl⟩ (fun rv2 u2 H locs hp2 hI => ?_)
  have hI : jI G zA zs [aI G r1 500 T, aI G r2 26 pp, aI G r5 500 sp, aI G r6 500 sl, aI G r7 500 sd, oC y0 9 [.int (nI 0), .ref r1, .int (nI n), .int (nI la), .int (nI lm), .int (nI lw), .ref r2, .ref r3, .ref r4, .int (nI kn), .ref r5, .ref r6, .ref r7, .int (nI k), .int (nI wp), .int (nI bt), .ref r8, .int (nI pn), .int (nI q), .int (nI th), .ref r9, .int (nI os), .int (nI wz), .ref r10, .int (nI sz), .int (nI ia), .ref r11, .ref r12, .int tz, .ref r13, .int (nI ft)], aS G r3 251502 cm] H locs := hI
  subst hp2
  refine lv_istore_n (lv' := [(3, .int (nI (lgA la lm lw T n p))), (0, .ref y0), (1, .int (nI p)), (2, .int (nI 1))]) zx zb dX9_stepGreedily_5 rfl hl (by decide) rfl (fun ls hl => ?_)
  refine lv_iload_n zx zb dX9_stepGreedily_6 rfl (lv_at hl 0 rfl) ?_
  refine j_if_eq (tgt := 25) hC dX9_stepGreedily_7 (by decide) (by omega) (fun c7 => ?_) (fun c7 => ?_)
  · refine lv_iconst (v := nI 1) zx zb dX9_stepGreedily_25 (by decide) ?_
    refine lv_goto (tgt := 30) zx zb dX9_stepGreedily_26 (by decide) ?_
    refine lv_istore (lv' := [(4, .int (nI 1)), (3, .int (nI (lgA la lm lw T n p))), (0, .ref y0), (1, .int (nI p)), (2, .int (nI 1))]) zx zb dX9_stepGreedily_30 hl (by decide) rfl (fun ls hl => ?_)
    refine lv_aload_n zx zb dX9_stepGreedily_32 rfl (lv_at hl 2 rfl) ?_
    refine lv_iload_n zx zb dX9_stepGreedily_33 rfl (lv_at hl 3 rfl) ?_
    refine lv_iload zx zb dX9_stepGreedily_34 (lv_at hl 0 rfl) ?_
    refine j_if_eq (tgt := 43) hC dX9_stepGreedily_36 (by decide) (by omega) (fun c36 => ?_) (fun c36 => ?_)
    · exact (by omega : False).elim
    · refine lv_iconst (v := nI 1) zx zb dX9_stepGreedily_39 (by decide) ?_
      refine lv_goto (tgt := 44) zx zb dX9_stepGreedily_40 (by decide) ?_
      refine lv_iload zx zb dX9_stepGreedily_44 (lv_at hl 0 rfl) ?_
      refine j_if_eq (tgt := 53) hC dX9_stepGreedily_46 (by decide) (by omega) (fun c46 => ?_) (fun c46 => ?_)
      · exact (by omega : False).elim
      · refine lv_iconst (v := nI 0) zx zb dX9_stepGreedily_49 (by decide) ?_
        refine lv_goto (tgt := 59) zx zb dX9_stepGreedily_50 (by decide) ?_
        refine j_callVv (wr := [aS G r3 251502 cm]) hC hI (c_X9_goOn_b zl G y0 r1 r2 r3 r4 r5 r6 r7 r8 r9 r10 r11 r12 r13 n la lm lw kn k wp bt pn q th os wz sz ia ft tz T pp sp sl sd p (by omega) (by omega) (by omega)) (cwV 3 hC.2.2.2.2.1 gX9_stepGreedily_X9_goOn rfl rfl rfl (by decide +kernel) ⟨Nat.le_of_ble_eq_true rfl, Nat.le_of_ble_eq_true rfl⟩) [5, 0, 1, 2, 3, 4] [6] rfl rfl rfl rfl rfl rfl (q0 := 0) rfl rfl rfl hl.1 (Nat.le_of_ble_eq_true rfl) dX9_stepGreedily_59 ⟨Nat.le_of_ble_eq_true rfl, Nat.le_of_ble_eq_true rfl⟩ (fun u59 H locs hp59 hI => ?_)
        have hI : jI G zA zs [aS G r3 251502 cm, oC y0 9 [.int (nI 0), .ref r1, .int (nI n), .int (nI la), .int (nI lm), .int (nI lw), .ref r2, .ref r3, .ref r4, .int (nI kn), .ref r5, .ref r6, .ref r7, .int (nI (k + 1)), .int (nI (wp + pri T pp (ppA pp) (ppL pp) (ppD pp) p 1 0)), .int (nI (bt + bts la 1 0)), .ref r8, .int (nI pn), .int (nI q), .int (nI th), .ref r9, .int (nI os), .int (nI wz), .ref r10, .int (nI sz), .int (nI ia), .ref r11, .ref r12, .int tz, .ref r13, .int (nI ft)], aI G r1 500 T, aI G r2 26 pp, aI G r5 500 (up sp k p), aI G r6 500 (up sl k 1), aI G r7 500 (up sd k 0)] H locs := hI
        exact hQ _ _ _ _ ⟨1, 0⟩ dX9_stepGreedily_62 (hI.sub [1, 2, 3, 0, 4, 5, 6] rfl rfl) (by (try dsimp only); exact (gr_byte hp (Or.inr rfl) (Or.inl c7)))
  · refine lv_iload_n zx zb dX9_stepGreedily_10 rfl (lv_at hl 3 rfl) ?_
    refine j_if_eq (tgt := 29) hC dX9_stepGreedily_11 (by decide) (by omega) (fun c11 => ?_) (fun c11 => ?_)
    · exact (by omega : False).elim
    · refine lv_aload_n zx zb dX9_stepGreedily_14 rfl (lv_at hl 1 rfl) ?_
      refine lv_iload_n zx zb dX9_stepGreedily_15 rfl (lv_at hl 2 rfl) ?_
      refine lv_iconst (v := nI 1) zx zb dX9_stepGreedily_16 (by decide) ?_
      refine j_iadd hC dX9_stepGreedily_17 ?_
      refine j_callVi (wr := [aI G r1 500 T, aI G r2 26 pp, aI G r5 500 sp, aI G r6 500 sl, aI G r7 500 sd]) hC hI (c_X9_longestAt zl G y0 r1 r2 r3 r4 r5 r6 r7 r8 r9 r10 r11 r12 r13 n la lm lw kn k wp bt pn q th os wz sz ia ft tz T cm (p + 1) (by omega) (by omega) (by omega) (fun h => hc _ h)) (cwV 1 hC.2.2.2.2.1 gX9_stepGreedily_X9_longestAt rfl rfl rfl (by decide +kernel) ⟨Nat.le_of_ble_eq_true rfl, Nat.le_of_ble_eq_true rfl⟩) [5, 6] [0, 1, 2, 3, 4] rfl rfl rfl rfl rfl rfl (q0 := 0) rfl rfl rfl hl.1 (Nat.le_of_ble_eq_true rfl) dX9_stepGreedily_18 ⟨Nat.le_of_ble_eq_true rfl, Nat.le_of_ble_eq_true rfl⟩ (fun rv18 u18 H locs hp18 hI => ?_)
      have hI : jI G zA zs [aI G r1 500 T, aI G r2 26 pp, aI G r5 500 sp, aI G r6 500 sl, aI G r7 500 sd, oC y0 9 [.int (nI 0), .ref r1, .int (nI n), .int (nI la), .int (nI lm), .int (nI lw), .ref r2, .ref r3, .ref r4, .int (nI kn), .ref r5, .ref r6, .ref r7, .int (nI k), .int (nI wp), .int (nI bt), .ref r8, .int (nI pn), .int (nI q), .int (nI th), .ref r9, .int (nI os), .int (nI wz), .ref r10, .int (nI sz), .int (nI ia), .ref r11, .ref r12, .int tz, .ref r13, .int (nI ft)], aS G r3 251502 cm] H locs := hI
      subst hp18
      refine lv_iload_n zx zb dX9_stepGreedily_21 rfl (lv_at hl 0 rfl) ?_
      refine j_icmp_le (tgt := 29) hC dX9_stepGreedily_22 (by decide) (by omega) (by omega) (fun c22 => ?_) (fun c22 => ?_)
      · refine lv_iconst (v := nI 0) zx zb dX9_stepGreedily_29 (by decide) ?_
        refine lv_istore (lv' := [(4, .int (nI 0)), (3, .int (nI (lgA la lm lw T n p))), (0, .ref y0), (1, .int (nI p)), (2, .int (nI 1))]) zx zb dX9_stepGreedily_30 hl (by decide) rfl (fun ls hl => ?_)
        refine lv_aload_n zx zb dX9_stepGreedily_32 rfl (lv_at hl 2 rfl) ?_
        refine lv_iload_n zx zb dX9_stepGreedily_33 rfl (lv_at hl 3 rfl) ?_
        refine lv_iload zx zb dX9_stepGreedily_34 (lv_at hl 0 rfl) ?_
        refine j_if_eq (tgt := 43) hC dX9_stepGreedily_36 (by decide) (by omega) (fun c36 => ?_) (fun c36 => ?_)
        · refine lv_iload_n zx zb dX9_stepGreedily_43 rfl (lv_at hl 1 rfl) ?_
          refine lv_iload zx zb dX9_stepGreedily_44 (lv_at hl 0 rfl) ?_
          refine j_if_eq (tgt := 53) hC dX9_stepGreedily_46 (by decide) (by omega) (fun c46 => ?_) (fun c46 => ?_)
          · obtain ⟨d0, z1, z2, z3, z4, z5⟩ := mx_mt (la := la) (lm := lm) (lw := lw) (T := T) (n := n) (p := p) (by omega)
            refine lv_aload_n zx zb dX9_stepGreedily_53 rfl (lv_at hl 2 rfl) ?_
            refine lv_iload_n zx zb dX9_stepGreedily_54 rfl (lv_at hl 3 rfl) ?_
            refine lv_iload_n zx zb dX9_stepGreedily_55 rfl (lv_at hl 1 rfl) ?_
            refine j_callVi (wr := [aI G r1 500 T, aI G r2 26 pp, aI G r5 500 sp, aI G r6 500 sl, aI G r7 500 sd]) hC hI (c_X9_nearestOf zl G y0 r1 r2 r3 r4 r5 r6 r7 r8 r9 r10 r11 r12 r13 n la lm lw kn k wp bt pn q th os wz sz ia ft tz T cm p (lgA la lm lw T n p) d0 (by omega) (by omega) (by omega) (hc p hp) (by omega) ⟨z1, z2, by rw [hlg]; exact z4⟩) (cwV 2 hC.2.2.2.2.1 gX9_stepGreedily_X9_nearestOf rfl rfl rfl (by decide +kernel) ⟨Nat.le_of_ble_eq_true rfl, Nat.le_of_ble_eq_true rfl⟩) [5, 6] [0, 1, 2, 3, 4] rfl rfl rfl rfl rfl rfl (q0 := 0) rfl rfl rfl hl.1 (Nat.le_of_ble_eq_true rfl) dX9_stepGreedily_56 ⟨Nat.le_of_ble_eq_true rfl, Nat.le_of_ble_eq_true rfl⟩ (fun rv56 u56 H locs hp56 hI => ?_)
            obtain ⟨v56_0, rfl⟩ : ∃ z, z = u56 := ⟨_, rfl⟩
            have hI : jI G zA zs [aI G r1 500 T, aI G r2 26 pp, aI G r5 500 sp, aI G r6 500 sl, aI G r7 500 sd, oC y0 9 [.int (nI 0), .ref r1, .int (nI n), .int (nI la), .int (nI lm), .int (nI lw), .ref r2, .ref r3, .ref r4, .int (nI kn), .ref r5, .ref r6, .ref r7, .int (nI k), .int (nI wp), .int (nI bt), .ref r8, .int (nI pn), .int (nI q), .int (nI th), .ref r9, .int (nI os), .int (nI wz), .ref r10, .int (nI sz), .int (nI ia), .ref r11, .ref r12, .int tz, .ref r13, .int (nI ft)], aS G r3 251502 cm] H locs := hI
            obtain ⟨rfl, f56_0, f56_1⟩ := hp56
            refine j_callVv (wr := [aS G r3 251502 cm]) hC hI (c_X9_goOn_m zl G y0 r1 r2 r3 r4 r5 r6 r7 r8 r9 r10 r11 r12 r13 n la lm lw kn k wp bt pn q th os wz sz ia ft tz T pp sp sl sd p (lgA la lm lw T n p) v56_0 (by omega) (by omega) (by omega)) (cwV 3 hC.2.2.2.2.1 gX9_stepGreedily_X9_goOn rfl rfl rfl (by decide +kernel) ⟨Nat.le_of_ble_eq_true rfl, Nat.le_of_ble_eq_true rfl⟩) [5, 0, 1, 2, 3, 4] [6] rfl rfl rfl rfl rfl rfl (q0 := 0) rfl rfl rfl hl.1 (Nat.le_of_ble_eq_true rfl) dX9_stepGreedily_59 ⟨Nat.le_of_ble_eq_true rfl, Nat.le_of_ble_eq_true rfl⟩ (fun u59 H locs hp59 hI => ?_)
            have hI : jI G zA zs [aS G r3 251502 cm, oC y0 9 [.int (nI 0), .ref r1, .int (nI n), .int (nI la), .int (nI lm), .int (nI lw), .ref r2, .ref r3, .ref r4, .int (nI kn), .ref r5, .ref r6, .ref r7, .int (nI (k + 1)), .int (nI (wp + pri T pp (ppA pp) (ppL pp) (ppD pp) p (lgA la lm lw T n p) v56_0)), .int (nI (bt + bts la (lgA la lm lw T n p) v56_0)), .ref r8, .int (nI pn), .int (nI q), .int (nI th), .ref r9, .int (nI os), .int (nI wz), .ref r10, .int (nI sz), .int (nI ia), .ref r11, .ref r12, .int tz, .ref r13, .int (nI ft)], aI G r1 500 T, aI G r2 26 pp, aI G r5 500 (up sp k p), aI G r6 500 (up sl k (lgA la lm lw T n p)), aI G r7 500 (up sd k v56_0)] H locs := hI
            exact hQ _ _ _ _ ⟨lgA la lm lw T n p, v56_0⟩ dX9_stepGreedily_62 (hI.sub [1, 2, 3, 0, 4, 5, 6] rfl rfl) (by (try dsimp only); exact (sg_match hp (Or.inr rfl) (by omega) f56_0 f56_1 (by omega)))
          · exact (by omega : False).elim
        · exact (by omega : False).elim
      · refine lv_iconst (v := nI 1) zx zb dX9_stepGreedily_25 (by decide) ?_
        refine lv_goto (tgt := 30) zx zb dX9_stepGreedily_26 (by decide) ?_
        refine lv_istore (lv' := [(4, .int (nI 1)), (3, .int (nI (lgA la lm lw T n p))), (0, .ref y0), (1, .int (nI p)), (2, .int (nI 1))]) zx zb dX9_stepGreedily_30 hl (by decide) rfl (fun ls hl => ?_)
        refine lv_aload_n zx zb dX9_stepGreedily_32 rfl (lv_at hl 2 rfl) ?_
        refine lv_iload_n zx zb dX9_stepGreedily_33 rfl (lv_at hl 3 rfl) ?_
        refine lv_iload zx zb dX9_stepGreedily_34 (lv_at hl 0 rfl) ?_
        refine j_if_eq (tgt := 43) hC dX9_stepGreedily_36 (by decide) (by omega) (fun c36 => ?_) (fun c36 => ?_)
        · exact (by omega : False).elim
        · refine lv_iconst (v := nI 1) zx zb dX9_stepGreedily_39 (by decide) ?_
          refine lv_goto (tgt := 44) zx zb dX9_stepGreedily_40 (by decide) ?_
          refine lv_iload zx zb dX9_stepGreedily_44 (lv_at hl 0 rfl) ?_
          refine j_if_eq (tgt := 53) hC dX9_stepGreedily_46 (by decide) (by omega) (fun c46 => ?_) (fun c46 => ?_)
          · exact (by omega : False).elim
          · refine lv_iconst (v := nI 0) zx zb dX9_stepGreedily_49 (by decide) ?_
            refine lv_goto (tgt := 59) zx zb dX9_stepGreedily_50 (by decide) ?_
            refine j_callVv (wr := [aS G r3 251502 cm]) hC hI (c_X9_goOn_b zl G y0 r1 r2 r3 r4 r5 r6 r7 r8 r9 r10 r11 r12 r13 n la lm lw kn k wp bt pn q th os wz sz ia ft tz T pp sp sl sd p (by omega) (by omega) (by omega)) (cwV 3 hC.2.2.2.2.1 gX9_stepGreedily_X9_goOn rfl rfl rfl (by decide +kernel) ⟨Nat.le_of_ble_eq_true rfl, Nat.le_of_ble_eq_true rfl⟩) [5, 0, 1, 2, 3, 4] [6] rfl rfl rfl rfl rfl rfl (q0 := 0) rfl rfl rfl hl.1 (Nat.le_of_ble_eq_true rfl) dX9_stepGreedily_59 ⟨Nat.le_of_ble_eq_true rfl, Nat.le_of_ble_eq_true rfl⟩ (fun u59 H locs hp59 hI => ?_)
            have hI : jI G zA zs [aS G r3 251502 cm, oC y0 9 [.int (nI 0), .ref r1, .int (nI n), .int (nI la), .int (nI lm), .int (nI lw), .ref r2, .ref r3, .ref r4, .int (nI kn), .ref r5, .ref r6, .ref r7, .int (nI (k + 1)), .int (nI (wp + pri T pp (ppA pp) (ppL pp) (ppD pp) p 1 0)), .int (nI (bt + bts la 1 0)), .ref r8, .int (nI pn), .int (nI q), .int (nI th), .ref r9, .int (nI os), .int (nI wz), .ref r10, .int (nI sz), .int (nI ia), .ref r11, .ref r12, .int tz, .ref r13, .int (nI ft)], aI G r1 500 T, aI G r2 26 pp, aI G r5 500 (up sp k p), aI G r6 500 (up sl k 1), aI G r7 500 (up sd k 0)] H locs := hI
            exact hQ _ _ _ _ ⟨1, 0⟩ dX9_stepGreedily_62 (hI.sub [1, 2, 3, 0, 4, 5, 6] rfl rfl) (by (try dsimp only); exact (gr_byte hp (Or.inr rfl) (Or.inr ⟨rfl, by omega⟩)))

theorem hin_X9_parse_X9 : ∀ w ∈ wsX90, w ∈ wsX9_parse := by decide +kernel
theorem hfl_X9_parse_65 : Cond.fieldLink RX9 65 "CheapParseModel" "thrown" "I" ∈ wsX9_parse := by decide +kernel
theorem hfl_X9_parse_93 : Cond.fieldLink RX9 93 "CheapParseModel" "steps" "I" ∈ wsX9_parse := by decide +kernel
theorem hfl_X9_parse_96 : Cond.fieldLink RX9 96 "CheapParseModel" "price" "I" ∈ wsX9_parse := by decide +kernel
theorem hfl_X9_parse_99 : Cond.fieldLink RX9 99 "CheapParseModel" "bits" "I" ∈ wsX9_parse := by decide +kernel
theorem hfl_X9_parse_68 : Cond.fieldLink RX9 68 "CheapParseModel" "length" "I" ∈ wsX9_parse := by decide +kernel
theorem hfl_X9_parse_122 : Cond.fieldLink RX9 122 "CheapParseModel" "parsedSize" "I" ∈ wsX9_parse := by decide +kernel
theorem hfl_X9_parse_13 : Cond.fieldLink RX9 13 "CheapParseModel" "least" "I" ∈ wsX9_parse := by decide +kernel
theorem hfl_X9_parse_125 : Cond.fieldLink RX9 125 "CheapParseModel" "parsedLeast" "I" ∈ wsX9_parse := by decide +kernel
theorem hfl_X9_parse_128 : Cond.fieldLink RX9 128 "CheapParseModel" "there" "Z" ∈ wsX9_parse := by decide +kernel
theorem hfl_X9_parse_43 : Cond.fieldLink RX9 43 "CheapParseModel" "parsed" "[I" ∈ wsX9_parse := by decide +kernel
theorem hfl_X9_parse_7 : Cond.fieldLink RX9 7 "CheapParseModel" "text" "[I" ∈ wsX9_parse := by decide +kernel
theorem hfl_X9_parse_37 : Cond.fieldLink RX9 37 "CheapParseModel" "lengths" "[I" ∈ wsX9_parse := by decide +kernel
set_option maxHeartbeats 4000000 in
set_option maxRecDepth 100000 in
theorem c_X9_parse_0 (zl : Launch) (G : jG) (y0 : Nat) (r1 : Nat) (r2 : Nat) (r3 : Nat) (r4 : Nat) (r5 : Nat) (r6 : Nat) (r7 : Nat) (r8 : Nat) (r9 : Nat) (r10 : Nat) (r11 : Nat) (r12 : Nat) (r13 : Nat) (n : Nat) (la : Nat) (lm : Nat) (lw : Nat) (kn : Nat) (k : Nat) (wp : Nat) (bt : Nat) (pn : Nat) (q : Nat) (th : Nat) (os : Nat) (wz : Nat) (sz : Nat) (ia : Nat) (ft : Nat) (tz : Int32) (T : Nat → Nat) (pp : Nat → Nat) (cm : Nat → Nat) (C : Nat → Nat) (sp : Nat → Nat) (sl : Nat → Nat) (sd : Nat → Nat) (P : Nat → Nat) (fa : Nat → Nat) (hn : n ≤ 500) (hl0 : 2 ≤ la ∧ la ≤ lm ∧ lm ≤ 255 ∧ lw ≤ 500) (hT : ∀ j, j < n → T j < 256) (hpp : ∀ j, j < 26 → 1 ≤ pp j ∧ pp j ≤ 1000) (hkn : kn ≤ 1) (hk : kn ≠ 0 → (∀ p, p < n → cmO T n cm p) ∧ cTab la lm lw T n pp (ppA pp) (ppL pp) (ppD pp) C) : jMet zl yX9_parse wsX9_parse ({ frames := 4, cells := 0, slots := 0, locals := 93 }) G [oC y0 9 [.int (nI 0), .ref r1, .int (nI n), .int (nI la), .int (nI lm), .int (nI lw), .ref r2, .ref r3, .ref r4, .int (nI kn), .ref r5, .ref r6, .ref r7, .int (nI k), .int (nI wp), .int (nI bt), .ref r8, .int (nI pn), .int (nI q), .int (nI th), .ref r9, .int (nI os), .int (nI wz), .ref r10, .int (nI sz), .int (nI ia), .ref r11, .ref r12, .int tz, .ref r13, .int (nI ft)], aI G r1 500 T, aI G r2 26 pp, aS G r3 251502 cm, aI G r4 501 C, aI G r13 9 fa, aI G r5 500 sp, aI G r6 500 sl, aI G r7 500 sd, aI G r8 500 P] [.ref y0, .int (nI 0)] (jQi G (fun (r : Int32) (u : Nat × Nat × Nat × (Nat → Nat) × (Nat → Nat) × (Nat → Nat) × (Nat → Nat) × (Nat → Nat) × (Nat → Nat)) => (r = nI u.1) ∧ (u.1 ≤ 500) ∧ (pos u.2.2.2.2.1 u.1 = n) ∧ (runR 0 la lm lw T n pp (ppA pp) (ppL pp) (ppD pp) u.2.2.2.2.2.2.2.1 u.2.2.2.1 u.2.2.2.2.1 u.2.2.2.2.2.1 u.1) ∧ (∀ j, u.1 ≤ j → u.2.2.2.1 j = sp j ∧ u.2.2.2.2.1 j = sl j ∧ u.2.2.2.2.2.1 j = sd j) ∧ (u.2.1 = sm (fun j => pri T pp (ppA pp) (ppL pp) (ppD pp) (pos u.2.2.2.2.1 j) (u.2.2.2.2.1 j) (u.2.2.2.2.2.1 j)) u.1) ∧ (u.2.2.1 = 16 + sm (fun j => bts la (u.2.2.2.2.1 j) (u.2.2.2.2.2.1 j)) u.1) ∧ (∀ p, p < n → cmO T n u.2.2.2.2.2.2.1 p) ∧ (cTab la lm lw T n pp (ppA pp) (ppL pp) (ppD pp) u.2.2.2.2.2.2.2.1)) (fun (u : Nat × Nat × Nat × (Nat → Nat) × (Nat → Nat) × (Nat → Nat) × (Nat → Nat) × (Nat → Nat) × (Nat → Nat)) => [oC y0 9 [.int (nI 0), .ref r1, .int (nI n), .int (nI la), .int (nI lm), .int (nI lw), .ref r2, .ref r3, .ref r4, .int (nI 1), .ref r5, .ref r6, .ref r7, .int (nI u.1), .int (nI u.2.1), .int (nI u.2.2.1), .ref r8, .int (nI n), .int (nI la), .int (nI 1), .ref r9, .int (nI os), .int (nI wz), .ref r10, .int (nI sz), .int (nI ia), .ref r11, .ref r12, .int tz, .ref r13, .int (nI ft)], aI G r1 500 T, aI G r2 26 pp, aS G r3 251502 u.2.2.2.2.2.2.1, aI G r4 501 u.2.2.2.2.2.2.2.1, aI G r13 9 u.2.2.2.2.2.2.2.2, aI G r5 500 u.2.2.2.1, aI G r6 500 u.2.2.2.2.1, aI G r7 500 u.2.2.2.2.2.1, aI G r8 500 (cpy T P n)])) 0 0 := by
  refine j_enter_i (cc := cX9_parse) (nL := 4) (nm := "parse") (own := RX9) (lv := [(0, .ref y0), (1, .int (nI 0))]) (by decide) rfl (Nat.le_of_ble_eq_true rfl) rfl rfl rfl ?_
  intro zA zp ze zs zm zargs zbelow zmeth zc zQ ls hC hQ hI hl
  have zx := hC.1
  have zb := hC.2.1
  have hpp2 := hpp
  refine lv_aload_n zx zb dX9_parse_0 rfl (lv_at hl 0 rfl) ?_
  refine lv_iconst (v := nI 0) zx zb dX9_parse_1 (by decide) ?_
  refine j_put (w1 := [oC y0 9 [.int (nI 0), .ref r1, .int (nI n), .int (nI la), .int (nI lm), .int (nI lw), .ref r2, .ref r3, .ref r4, .int (nI kn), .ref r5, .ref r6, .ref r7, .int (nI k), .int (nI wp), .int (nI bt), .ref r8, .int (nI pn), .int (nI q), .int (nI th), .ref r9, .int (nI os), .int (nI wz), .ref r10, .int (nI sz), .int (nI ia), .ref r11, .ref r12, .int tz, .ref r13, .int (nI ft)], aI G r1 500 T, aI G r2 26 pp, aS G r3 251502 cm, aI G r4 501 C, aI G r13 9 fa, aI G r5 500 sp, aI G r6 500 sl, aI G r7 500 sd, aI G r8 500 P]) hC hI hin_X9_parse_X9 tyX9 tyX9_ok nmX9 0 rfl rfl 0 (by decide) hfl_X9_parse_65 rfl rfl rfl rfl (Nat.le_of_ble_eq_true rfl) dX9_parse_2 rfl (fun H locs hI => ?_)
  refine lv_iload_n zx zb dX9_parse_5 rfl (lv_at hl 1 rfl) ?_
  refine j_if_lt (tgt := 14) hC dX9_parse_6 (by decide) (by omega) ?_
  refine lv_iload_n zx zb dX9_parse_9 rfl (lv_at hl 1 rfl) ?_
  refine lv_iconst (v := nI 2) zx zb dX9_parse_10 (by decide) ?_
  refine j_icmp_le (tgt := 16) hC dX9_parse_11 (by decide) (by omega) (by omega) (fun c11 => ?_) (fun c11 => ?_)
  · refine lv_aload_n zx zb dX9_parse_16 rfl (lv_at hl 0 rfl) ?_
    refine j_callVv (wr := [aI G r5 500 sp, aI G r6 500 sl, aI G r7 500 sd, aI G r8 500 P]) hC hI (c_X9_know zl G y0 r1 r2 r3 r4 r5 r6 r7 r8 r9 r10 r11 r12 r13 n la lm lw kn k wp bt pn q th os wz sz ia ft tz T pp cm C fa (by omega) (by omega) (by omega) hpp (by omega) hk) (cwV 0 hC.2.2.2.2.1 gX9_parse_X9_know rfl rfl rfl (by decide +kernel) ⟨Nat.le_of_ble_eq_true rfl, Nat.le_of_ble_eq_true rfl⟩) [0, 1, 2, 3, 4, 5] [6, 7, 8, 9] rfl rfl rfl rfl rfl rfl (q0 := 0) rfl rfl rfl hl.1 (Nat.le_of_ble_eq_true rfl) dX9_parse_17 ⟨Nat.le_of_ble_eq_true rfl, Nat.le_of_ble_eq_true rfl⟩ (fun u17 H locs hp17 hI => ?_)
    obtain ⟨v17_0, v17_1, v17_2⟩ := u17
    have hI : jI G zA zs [aI G r5 500 sp, aI G r6 500 sl, aI G r7 500 sd, aI G r8 500 P, oC y0 9 [.int (nI 0), .ref r1, .int (nI n), .int (nI la), .int (nI lm), .int (nI lw), .ref r2, .ref r3, .ref r4, .int (nI 1), .ref r5, .ref r6, .ref r7, .int (nI k), .int (nI wp), .int (nI bt), .ref r8, .int (nI pn), .int (nI q), .int (nI th), .ref r9, .int (nI os), .int (nI wz), .ref r10, .int (nI sz), .int (nI ia), .ref r11, .ref r12, .int tz, .ref r13, .int (nI ft)], aI G r1 500 T, aI G r2 26 pp, aS G r3 251502 v17_0, aI G r4 501 v17_1, aI G r13 9 v17_2] H locs := hI
    dsimp only at hp17
    obtain ⟨f17_0, f17_1⟩ := hp17
    refine lv_aload_n zx zb dX9_parse_20 rfl (lv_at hl 0 rfl) ?_
    refine lv_iconst (v := nI 0) zx zb dX9_parse_21 (by decide) ?_
    refine j_put (w1 := [aI G r5 500 sp, aI G r6 500 sl, aI G r7 500 sd, aI G r8 500 P, oC y0 9 [.int (nI 0), .ref r1, .int (nI n), .int (nI la), .int (nI lm), .int (nI lw), .ref r2, .ref r3, .ref r4, .int (nI 1), .ref r5, .ref r6, .ref r7, .int (nI 0), .int (nI wp), .int (nI bt), .ref r8, .int (nI pn), .int (nI q), .int (nI th), .ref r9, .int (nI os), .int (nI wz), .ref r10, .int (nI sz), .int (nI ia), .ref r11, .ref r12, .int tz, .ref r13, .int (nI ft)], aI G r1 500 T, aI G r2 26 pp, aS G r3 251502 v17_0, aI G r4 501 v17_1, aI G r13 9 v17_2]) hC hI hin_X9_parse_X9 tyX9 tyX9_ok nmX9 4 rfl rfl 13 (by decide) hfl_X9_parse_93 rfl rfl rfl rfl (Nat.le_of_ble_eq_true rfl) dX9_parse_22 rfl (fun H locs hI => ?_)
    refine lv_aload_n zx zb dX9_parse_25 rfl (lv_at hl 0 rfl) ?_
    refine lv_iconst (v := nI 0) zx zb dX9_parse_26 (by decide) ?_
    refine j_put (w1 := [aI G r5 500 sp, aI G r6 500 sl, aI G r7 500 sd, aI G r8 500 P, oC y0 9 [.int (nI 0), .ref r1, .int (nI n), .int (nI la), .int (nI lm), .int (nI lw), .ref r2, .ref r3, .ref r4, .int (nI 1), .ref r5, .ref r6, .ref r7, .int (nI 0), .int (nI 0), .int (nI bt), .ref r8, .int (nI pn), .int (nI q), .int (nI th), .ref r9, .int (nI os), .int (nI wz), .ref r10, .int (nI sz), .int (nI ia), .ref r11, .ref r12, .int tz, .ref r13, .int (nI ft)], aI G r1 500 T, aI G r2 26 pp, aS G r3 251502 v17_0, aI G r4 501 v17_1, aI G r13 9 v17_2]) hC hI hin_X9_parse_X9 tyX9 tyX9_ok nmX9 4 rfl rfl 14 (by decide) hfl_X9_parse_96 rfl rfl rfl rfl (Nat.le_of_ble_eq_true rfl) dX9_parse_27 rfl (fun H locs hI => ?_)
    refine lv_aload_n zx zb dX9_parse_30 rfl (lv_at hl 0 rfl) ?_
    refine lv_bipush (v := nI 16) zx zb dX9_parse_31 (by decide) ?_
    refine j_put (w1 := [aI G r5 500 sp, aI G r6 500 sl, aI G r7 500 sd, aI G r8 500 P, oC y0 9 [.int (nI 0), .ref r1, .int (nI n), .int (nI la), .int (nI lm), .int (nI lw), .ref r2, .ref r3, .ref r4, .int (nI 1), .ref r5, .ref r6, .ref r7, .int (nI 0), .int (nI 0), .int (nI 16), .ref r8, .int (nI pn), .int (nI q), .int (nI th), .ref r9, .int (nI os), .int (nI wz), .ref r10, .int (nI sz), .int (nI ia), .ref r11, .ref r12, .int tz, .ref r13, .int (nI ft)], aI G r1 500 T, aI G r2 26 pp, aS G r3 251502 v17_0, aI G r4 501 v17_1, aI G r13 9 v17_2]) hC hI hin_X9_parse_X9 tyX9 tyX9_ok nmX9 4 rfl rfl 15 (by decide) hfl_X9_parse_99 rfl rfl rfl rfl (Nat.le_of_ble_eq_true rfl) dX9_parse_33 rfl (fun H locs hI => ?_)
    refine lv_iconst (v := nI 0) zx zb dX9_parse_36 (by decide) ?_
    refine lv_istore_n (lv' := [(2, .int (nI 0)), (0, .ref y0), (1, .int (nI 0))]) zx zb dX9_parse_37 rfl hl (by decide) rfl (fun ls hl => ?_)
    have loop38 : ∀ (zn38 : Nat) (i : Nat) (a : Nat) (wp2 : Nat) (bt2 : Nat) (e1 : Nat → Nat) (e2 : Nat → Nat) (e3 : Nat → Nat) (e5 : Nat → Nat), (i ≤ a ∧ a ≤ n ∧ i ≤ 500) → (a = pos e2 i) → (runR 0 la lm lw T n pp (ppA pp) (ppL pp) (ppD pp) v17_1 e1 e2 e3 i) → (∀ j, i ≤ j → e1 j = sp j ∧ e2 j = sl j ∧ e3 j = sd j) → (wp2 = sm (fun j => pri T pp (ppA pp) (ppL pp) (ppD pp) (pos e2 j) (e2 j) (e3 j)) i) → (bt2 = 16 + sm (fun j => bts la (e2 j) (e3 j)) i) → (n - a) < zn38 → ∀ (H : Heap) (locs : List Loc) (ls : Array Slot), jI G zA zs [oC y0 9 [.int (nI 0), .ref r1, .int (nI n), .int (nI la), .int (nI lm), .int (nI lw), .ref r2, .ref r3, .ref r4, .int (nI 1), .ref r5, .ref r6, .ref r7, .int (nI i), .int (nI wp2), .int (nI bt2), .ref r8, .int (nI pn), .int (nI q), .int (nI th), .ref r9, .int (nI os), .int (nI wz), .ref r10, .int (nI sz), .int (nI ia), .ref r11, .ref r12, .int tz, .ref r13, .int (nI ft)], aI G r1 500 T, aI G r2 26 pp, aS G r3 251502 v17_0, aI G r4 501 v17_1, aI G r13 9 e5, aI G r5 500 e1, aI G r6 500 e2, aI G r7 500 e3, aI G r8 500 P] H locs → lv_has ls 4 [(0, .ref y0), (1, .int (nI 0)), (2, .int (nI a))] → W zp zl ze ({ frames := 4, cells := 0, slots := 0, locals := 93 }) zs zm zargs zbelow zmeth zc H locs 0 0 zQ (F0 zm 38 ls []) := by
      intro zn38
      induction zn38 with
      | zero => intros; omega
      | succ zn38 ih38 =>
        intro i a wp2 bt2 e1 e2 e3 e5 hi hp hr ho hwp hbt zm38 H locs ls hI hl
        refine lv_iload_n zx zb dX9_parse_38 rfl (lv_at hl 2 rfl) ?_
        refine lv_aload_n zx zb dX9_parse_39 rfl (lv_at hl 0 rfl) ?_
        refine j_get hC hI hin_X9_parse_X9 0 rfl rfl 2 (by decide) hfl_X9_parse_68 rfl rfl dX9_parse_40 ?_
        refine j_icmp_ge (tgt := 90) hC dX9_parse_43 (by decide) (by omega) (by omega) (fun c43 => ?_) (fun c43 => ?_)
        · refine lv_iconst (v := nI 0) zx zb dX9_parse_90 (by decide) ?_
          refine lv_istore_n (lv' := [(3, .int (nI 0)), (0, .ref y0), (1, .int (nI 0)), (2, .int (nI a))]) zx zb dX9_parse_91 rfl hl (by decide) rfl (fun ls hl => ?_)
          have loop92 : ∀ (zn92 : Nat) (x : Nat) (e4 : Nat → Nat), (x ≤ n) → (e4 = cpy T P x) → (n - x) < zn92 → ∀ (H : Heap) (locs : List Loc) (ls : Array Slot), jI G zA zs [oC y0 9 [.int (nI 0), .ref r1, .int (nI n), .int (nI la), .int (nI lm), .int (nI lw), .ref r2, .ref r3, .ref r4, .int (nI 1), .ref r5, .ref r6, .ref r7, .int (nI i), .int (nI wp2), .int (nI bt2), .ref r8, .int (nI pn), .int (nI q), .int (nI th), .ref r9, .int (nI os), .int (nI wz), .ref r10, .int (nI sz), .int (nI ia), .ref r11, .ref r12, .int tz, .ref r13, .int (nI ft)], aI G r1 500 T, aI G r2 26 pp, aS G r3 251502 v17_0, aI G r4 501 v17_1, aI G r13 9 e5, aI G r5 500 e1, aI G r6 500 e2, aI G r7 500 e3, aI G r8 500 e4] H locs → lv_has ls 4 [(0, .ref y0), (3, .int (nI x))] → W zp zl ze ({ frames := 4, cells := 0, slots := 0, locals := 93 }) zs zm zargs zbelow zmeth zc H locs 0 0 zQ (F0 zm 92 ls []) := by
            intro zn92
            induction zn92 with
            | zero => intros; omega
            | succ zn92 ih92 =>
              intro x e4 hx h4 zm92 H locs ls hI hl
              refine lv_iload_n zx zb dX9_parse_92 rfl (lv_at hl 1 rfl) ?_
              refine lv_aload_n zx zb dX9_parse_93 rfl (lv_at hl 0 rfl) ?_
              refine j_get hC hI hin_X9_parse_X9 0 rfl rfl 2 (by decide) hfl_X9_parse_68 rfl rfl dX9_parse_94 ?_
              refine j_icmp_ge (tgt := 118) hC dX9_parse_97 (by decide) (by omega) (by omega) (fun c97 => ?_) (fun c97 => ?_)
              · refine lv_aload_n zx zb dX9_parse_118 rfl (lv_at hl 0 rfl) ?_
                refine lv_aload_n zx zb dX9_parse_119 rfl (lv_at hl 0 rfl) ?_
                refine j_get hC hI hin_X9_parse_X9 0 rfl rfl 2 (by decide) hfl_X9_parse_68 rfl rfl dX9_parse_120 ?_
                refine j_put (w1 := [oC y0 9 [.int (nI 0), .ref r1, .int (nI n), .int (nI la), .int (nI lm), .int (nI lw), .ref r2, .ref r3, .ref r4, .int (nI 1), .ref r5, .ref r6, .ref r7, .int (nI i), .int (nI wp2), .int (nI bt2), .ref r8, .int (nI n), .int (nI q), .int (nI th), .ref r9, .int (nI os), .int (nI wz), .ref r10, .int (nI sz), .int (nI ia), .ref r11, .ref r12, .int tz, .ref r13, .int (nI ft)], aI G r1 500 T, aI G r2 26 pp, aS G r3 251502 v17_0, aI G r4 501 v17_1, aI G r13 9 e5, aI G r5 500 e1, aI G r6 500 e2, aI G r7 500 e3, aI G r8 500 e4]) hC hI hin_X9_parse_X9 tyX9 tyX9_ok nmX9 0 rfl rfl 17 (by decide) hfl_X9_parse_122 rfl rfl rfl rfl (Nat.le_of_ble_eq_true rfl) dX9_parse_123 rfl (fun H locs hI => ?_)
                refine lv_aload_n zx zb dX9_parse_126 rfl (lv_at hl 0 rfl) ?_
                refine lv_aload_n zx zb dX9_parse_127 rfl (lv_at hl 0 rfl) ?_
                refine j_get hC hI hin_X9_parse_X9 0 rfl rfl 3 (by decide) hfl_X9_parse_13 rfl rfl dX9_parse_128 ?_
                refine j_put (w1 := [oC y0 9 [.int (nI 0), .ref r1, .int (nI n), .int (nI la), .int (nI lm), .int (nI lw), .ref r2, .ref r3, .ref r4, .int (nI 1), .ref r5, .ref r6, .ref r7, .int (nI i), .int (nI wp2), .int (nI bt2), .ref r8, .int (nI n), .int (nI la), .int (nI th), .ref r9, .int (nI os), .int (nI wz), .ref r10, .int (nI sz), .int (nI ia), .ref r11, .ref r12, .int tz, .ref r13, .int (nI ft)], aI G r1 500 T, aI G r2 26 pp, aS G r3 251502 v17_0, aI G r4 501 v17_1, aI G r13 9 e5, aI G r5 500 e1, aI G r6 500 e2, aI G r7 500 e3, aI G r8 500 e4]) hC hI hin_X9_parse_X9 tyX9 tyX9_ok nmX9 0 rfl rfl 18 (by decide) hfl_X9_parse_125 rfl rfl rfl rfl (Nat.le_of_ble_eq_true rfl) dX9_parse_131 rfl (fun H locs hI => ?_)
                refine lv_aload_n zx zb dX9_parse_134 rfl (lv_at hl 0 rfl) ?_
                refine lv_iconst (v := nI 1) zx zb dX9_parse_135 (by decide) ?_
                refine j_put (w1 := [oC y0 9 [.int (nI 0), .ref r1, .int (nI n), .int (nI la), .int (nI lm), .int (nI lw), .ref r2, .ref r3, .ref r4, .int (nI 1), .ref r5, .ref r6, .ref r7, .int (nI i), .int (nI wp2), .int (nI bt2), .ref r8, .int (nI n), .int (nI la), .int (nI 1), .ref r9, .int (nI os), .int (nI wz), .ref r10, .int (nI sz), .int (nI ia), .ref r11, .ref r12, .int tz, .ref r13, .int (nI ft)], aI G r1 500 T, aI G r2 26 pp, aS G r3 251502 v17_0, aI G r4 501 v17_1, aI G r13 9 e5, aI G r5 500 e1, aI G r6 500 e2, aI G r7 500 e3, aI G r8 500 e4]) hC hI hin_X9_parse_X9 tyX9 tyX9_ok nmX9 0 rfl rfl 19 (by decide) hfl_X9_parse_128 rfl rfl rfl rfl (Nat.le_of_ble_eq_true rfl) dX9_parse_136 rfl (fun H locs hI => ?_)
                refine lv_aload_n zx zb dX9_parse_139 rfl (lv_at hl 0 rfl) ?_
                refine j_get hC hI hin_X9_parse_X9 0 rfl rfl 13 (by decide) hfl_X9_parse_93 rfl rfl dX9_parse_140 ?_
                have en : x = n := by omega
                rw [en] at h4
                subst h4
                exact hQ _ _ _ _ _ ⟨i, wp2, bt2, e1, e2, e3, v17_0, v17_1, e5⟩ dX9_parse_143 (hI.sub [0, 1, 2, 3, 4, 5, 6, 7, 8, 9] rfl rfl) (by (try dsimp only); exact ⟨(by first | rfl | (congr 1; omega) | omega), (by omega), (by rw [← hp]; omega), hr, ho, hwp, hbt, f17_0, f17_1⟩)
              · refine lv_aload_n zx zb dX9_parse_100 rfl (lv_at hl 0 rfl) ?_
                refine j_get hC hI hin_X9_parse_X9 0 rfl rfl 16 (by decide) hfl_X9_parse_43 rfl rfl dX9_parse_101 ?_
                refine lv_iload_n zx zb dX9_parse_104 rfl (lv_at hl 1 rfl) ?_
                refine lv_aload_n zx zb dX9_parse_105 rfl (lv_at hl 0 rfl) ?_
                refine j_get hC hI hin_X9_parse_X9 0 rfl rfl 1 (by decide) hfl_X9_parse_7 rfl rfl dX9_parse_106 ?_
                refine lv_iload_n zx zb dX9_parse_109 rfl (lv_at hl 1 rfl) ?_
                refine j_iald hC hI 1 rfl (by omega) (by omega) dX9_parse_110 ?_
                have b110 := hT x (by omega)
                refine j_iast (w1 := [oC y0 9 [.int (nI 0), .ref r1, .int (nI n), .int (nI la), .int (nI lm), .int (nI lw), .ref r2, .ref r3, .ref r4, .int (nI 1), .ref r5, .ref r6, .ref r7, .int (nI i), .int (nI wp2), .int (nI bt2), .ref r8, .int (nI pn), .int (nI q), .int (nI th), .ref r9, .int (nI os), .int (nI wz), .ref r10, .int (nI sz), .int (nI ia), .ref r11, .ref r12, .int tz, .ref r13, .int (nI ft)], aI G r1 500 T, aI G r2 26 pp, aS G r3 251502 v17_0, aI G r4 501 v17_1, aI G r13 9 e5, aI G r5 500 e1, aI G r6 500 e2, aI G r7 500 e3, aI G r8 500 (up e4 x (T x))]) hC hI 9 rfl (by omega) (by omega) dX9_parse_111 rfl (fun H locs hI => ?_)
                refine lv_iinc (v := nI (x + 1)) (lv' := [(3, .int (nI (x + 1))), (0, .ref y0)]) zx zb dX9_parse_112 hl (k := 1) rfl (j_inc _ _ _ (by decide)) (by decide) rfl (fun ls hl => ?_)
                refine lv_goto (tgt := 92) zx zb dX9_parse_115 (by decide) ?_
                exact ih92 (x + 1) (up e4 x (T x)) (by omega) (by rw [cpy_up, h4]) (by omega) _ _ _ hI (lv_sub hl [1, 0] rfl)
          exact loop92 _ 0 P (by omega) (cpy_0 T P).symm (Nat.lt_succ_self _) _ _ _ hI (lv_sub hl [1, 0] rfl)
        · refine lv_iload_n zx zb dX9_parse_46 rfl (lv_at hl 1 rfl) ?_
          refine j_if_ne (tgt := 58) hC dX9_parse_47 (by decide) (by omega) (fun c47 => ?_) (fun c47 => ?_)
          · exact (by omega : False).elim
          · refine lv_aload_n zx zb dX9_parse_50 rfl (lv_at hl 0 rfl) ?_
            refine lv_iload_n zx zb dX9_parse_51 rfl (lv_at hl 2 rfl) ?_
            refine j_callVv (wr := [aI G r8 500 P]) hC hI (c_X9_stepCheaply zl G y0 r1 r2 r3 r4 r5 r6 r7 r8 r9 r10 r11 r12 r13 n la lm lw 1 i wp2 bt2 pn q th os wz sz ia ft tz T pp v17_0 v17_1 e1 e2 e3 e5 a (by omega) (by omega) (by omega) hpp (by omega) (by omega) f17_0 f17_1) (cwV 1 hC.2.2.2.2.1 gX9_parse_X9_stepCheaply rfl rfl rfl (by decide +kernel) ⟨Nat.le_of_ble_eq_true rfl, Nat.le_of_ble_eq_true rfl⟩) [0, 1, 2, 3, 4, 6, 7, 8, 5] [9] rfl rfl rfl rfl rfl rfl (q0 := 0) rfl rfl rfl hl.1 (Nat.le_of_ble_eq_true rfl) dX9_parse_52 ⟨Nat.le_of_ble_eq_true rfl, Nat.le_of_ble_eq_true rfl⟩ (fun u52 H locs hp52 hI => ?_)
            obtain ⟨v52_0, v52_1, v52_2⟩ := u52
            have hI : jI G zA zs [aI G r8 500 P, oC y0 9 [.int (nI 0), .ref r1, .int (nI n), .int (nI la), .int (nI lm), .int (nI lw), .ref r2, .ref r3, .ref r4, .int (nI 1), .ref r5, .ref r6, .ref r7, .int (nI (i + 1)), .int (nI (wp2 + pri T pp (ppA pp) (ppL pp) (ppD pp) a v52_0 v52_1)), .int (nI (bt2 + bts la v52_0 v52_1)), .ref r8, .int (nI pn), .int (nI q), .int (nI th), .ref r9, .int (nI os), .int (nI wz), .ref r10, .int (nI sz), .int (nI ia), .ref r11, .ref r12, .int tz, .ref r13, .int (nI ft)], aI G r1 500 T, aI G r2 26 pp, aS G r3 251502 v17_0, aI G r4 501 v17_1, aI G r5 500 (up e1 i a), aI G r6 500 (up e2 i v52_0), aI G r7 500 (up e3 i v52_1), aI G r13 9 v52_2] H locs := hI
            dsimp only at hp52
            have f52_0 := hp52
            refine lv_goto (tgt := 73) zx zb dX9_parse_55 (by decide) ?_
            refine lv_iload_n zx zb dX9_parse_73 rfl (lv_at hl 2 rfl) ?_
            refine lv_aload_n zx zb dX9_parse_74 rfl (lv_at hl 0 rfl) ?_
            refine j_get hC hI hin_X9_parse_X9 1 rfl rfl 11 (by decide) hfl_X9_parse_37 rfl rfl dX9_parse_75 ?_
            refine lv_aload_n zx zb dX9_parse_78 rfl (lv_at hl 0 rfl) ?_
            refine j_get hC hI hin_X9_parse_X9 1 rfl rfl 13 (by decide) hfl_X9_parse_93 rfl rfl dX9_parse_79 ?_
            refine lv_iconst (v := nI 1) zx zb dX9_parse_82 (by decide) ?_
            refine j_isub hC (by omega) dX9_parse_83 ?_
            refine j_iald hC hI 7 rfl (by omega) (by omega) dX9_parse_84 ?_
            rw [show up e2 i v52_0 (i + 1 - 1) = v52_0 by rw [Nat.add_sub_cancel, up_s]]
            refine j_iadd hC dX9_parse_85 ?_
            refine lv_istore_n (lv' := [(2, .int (nI (a + v52_0))), (0, .ref y0), (1, .int (nI 0))]) zx zb dX9_parse_86 rfl hl (by decide) rfl (fun ls hl => ?_)
            refine lv_goto (tgt := 38) zx zb dX9_parse_87 (by decide) ?_
            have hok := stepR_ok (by omega) f52_0
            exact ih38 (i + 1) (a + v52_0) (wp2 + pri T pp (ppA pp) (ppL pp) (ppD pp) a v52_0 v52_1) (bt2 + bts la v52_0 v52_1) (up e1 i a) (up e2 i v52_0) (up e3 i v52_1) v52_2 (by omega) (rn_pos hp) (runR_up hr hp (by omega) f52_0) (rn_old ho) (rn_wp hwp hp rfl) (rn_bt hbt rfl) (by omega) _ _ _ (hI.sub [1, 2, 3, 4, 5, 9, 6, 7, 8, 0] rfl rfl) (lv_sub hl [1, 2, 0] rfl)
    exact loop38 _ 0 0 0 16 sp sl sd v17_2 (by omega) rfl (fun i h => by omega) (fun j h => ⟨rfl, rfl, rfl⟩) rfl rfl (Nat.lt_succ_self _) _ _ _ (hI.sub [4, 5, 6, 7, 8, 9, 0, 1, 2, 3] rfl rfl) (lv_sub hl [1, 2, 0] rfl)
  · exact (by omega : False).elim

set_option maxHeartbeats 4000000 in
set_option maxRecDepth 100000 in
theorem c_X9_parse_1 (zl : Launch) (G : jG) (y0 : Nat) (r1 : Nat) (r2 : Nat) (r3 : Nat) (r4 : Nat) (r5 : Nat) (r6 : Nat) (r7 : Nat) (r8 : Nat) (r9 : Nat) (r10 : Nat) (r11 : Nat) (r12 : Nat) (r13 : Nat) (n : Nat) (la : Nat) (lm : Nat) (lw : Nat) (kn : Nat) (k : Nat) (wp : Nat) (bt : Nat) (pn : Nat) (q : Nat) (th : Nat) (os : Nat) (wz : Nat) (sz : Nat) (ia : Nat) (ft : Nat) (tz : Int32) (T : Nat → Nat) (pp : Nat → Nat) (cm : Nat → Nat) (C : Nat → Nat) (sp : Nat → Nat) (sl : Nat → Nat) (sd : Nat → Nat) (P : Nat → Nat) (fa : Nat → Nat) (hn : n ≤ 500) (hl0 : 2 ≤ la ∧ la ≤ lm ∧ lm ≤ 255 ∧ lw ≤ 500) (hT : ∀ j, j < n → T j < 256) (hpp : ∀ j, j < 26 → 1 ≤ pp j ∧ pp j ≤ 1000) (hkn : kn ≤ 1) (hk : kn ≠ 0 → (∀ p, p < n → cmO T n cm p) ∧ cTab la lm lw T n pp (ppA pp) (ppL pp) (ppD pp) C) : jMet zl yX9_parse wsX9_parse ({ frames := 4, cells := 0, slots := 0, locals := 92 }) G [oC y0 9 [.int (nI 0), .ref r1, .int (nI n), .int (nI la), .int (nI lm), .int (nI lw), .ref r2, .ref r3, .ref r4, .int (nI kn), .ref r5, .ref r6, .ref r7, .int (nI k), .int (nI wp), .int (nI bt), .ref r8, .int (nI pn), .int (nI q), .int (nI th), .ref r9, .int (nI os), .int (nI wz), .ref r10, .int (nI sz), .int (nI ia), .ref r11, .ref r12, .int tz, .ref r13, .int (nI ft)], aI G r1 500 T, aI G r2 26 pp, aS G r3 251502 cm, aI G r4 501 C, aI G r13 9 fa, aI G r5 500 sp, aI G r6 500 sl, aI G r7 500 sd, aI G r8 500 P] [.ref y0, .int (nI 1)] (jQi G (fun (r : Int32) (u : Nat × Nat × Nat × (Nat → Nat) × (Nat → Nat) × (Nat → Nat) × (Nat → Nat) × (Nat → Nat) × (Nat → Nat)) => (r = nI u.1) ∧ (u.1 ≤ 500) ∧ (pos u.2.2.2.2.1 u.1 = n) ∧ (runR 1 la lm lw T n pp (ppA pp) (ppL pp) (ppD pp) (fun _ => 0) u.2.2.2.1 u.2.2.2.2.1 u.2.2.2.2.2.1 u.1) ∧ (∀ j, u.1 ≤ j → u.2.2.2.1 j = sp j ∧ u.2.2.2.2.1 j = sl j ∧ u.2.2.2.2.2.1 j = sd j) ∧ (u.2.1 = sm (fun j => pri T pp (ppA pp) (ppL pp) (ppD pp) (pos u.2.2.2.2.1 j) (u.2.2.2.2.1 j) (u.2.2.2.2.2.1 j)) u.1) ∧ (u.2.2.1 = 16 + sm (fun j => bts la (u.2.2.2.2.1 j) (u.2.2.2.2.2.1 j)) u.1) ∧ (∀ p, p < n → cmO T n u.2.2.2.2.2.2.1 p) ∧ (cTab la lm lw T n pp (ppA pp) (ppL pp) (ppD pp) u.2.2.2.2.2.2.2.1)) (fun (u : Nat × Nat × Nat × (Nat → Nat) × (Nat → Nat) × (Nat → Nat) × (Nat → Nat) × (Nat → Nat) × (Nat → Nat)) => [oC y0 9 [.int (nI 0), .ref r1, .int (nI n), .int (nI la), .int (nI lm), .int (nI lw), .ref r2, .ref r3, .ref r4, .int (nI 1), .ref r5, .ref r6, .ref r7, .int (nI u.1), .int (nI u.2.1), .int (nI u.2.2.1), .ref r8, .int (nI n), .int (nI la), .int (nI 1), .ref r9, .int (nI os), .int (nI wz), .ref r10, .int (nI sz), .int (nI ia), .ref r11, .ref r12, .int tz, .ref r13, .int (nI ft)], aI G r1 500 T, aI G r2 26 pp, aS G r3 251502 u.2.2.2.2.2.2.1, aI G r4 501 u.2.2.2.2.2.2.2.1, aI G r13 9 u.2.2.2.2.2.2.2.2, aI G r5 500 u.2.2.2.1, aI G r6 500 u.2.2.2.2.1, aI G r7 500 u.2.2.2.2.2.1, aI G r8 500 (cpy T P n)])) 0 0 := by
  refine j_enter_i (cc := cX9_parse) (nL := 4) (nm := "parse") (own := RX9) (lv := [(0, .ref y0), (1, .int (nI 1))]) (by decide) rfl (Nat.le_of_ble_eq_true rfl) rfl rfl rfl ?_
  intro zA zp ze zs zm zargs zbelow zmeth zc zQ ls hC hQ hI hl
  have zx := hC.1
  have zb := hC.2.1
  have hpp2 := hpp
  refine lv_aload_n zx zb dX9_parse_0 rfl (lv_at hl 0 rfl) ?_
  refine lv_iconst (v := nI 0) zx zb dX9_parse_1 (by decide) ?_
  refine j_put (w1 := [oC y0 9 [.int (nI 0), .ref r1, .int (nI n), .int (nI la), .int (nI lm), .int (nI lw), .ref r2, .ref r3, .ref r4, .int (nI kn), .ref r5, .ref r6, .ref r7, .int (nI k), .int (nI wp), .int (nI bt), .ref r8, .int (nI pn), .int (nI q), .int (nI th), .ref r9, .int (nI os), .int (nI wz), .ref r10, .int (nI sz), .int (nI ia), .ref r11, .ref r12, .int tz, .ref r13, .int (nI ft)], aI G r1 500 T, aI G r2 26 pp, aS G r3 251502 cm, aI G r4 501 C, aI G r13 9 fa, aI G r5 500 sp, aI G r6 500 sl, aI G r7 500 sd, aI G r8 500 P]) hC hI hin_X9_parse_X9 tyX9 tyX9_ok nmX9 0 rfl rfl 0 (by decide) hfl_X9_parse_65 rfl rfl rfl rfl (Nat.le_of_ble_eq_true rfl) dX9_parse_2 rfl (fun H locs hI => ?_)
  refine lv_iload_n zx zb dX9_parse_5 rfl (lv_at hl 1 rfl) ?_
  refine j_if_lt (tgt := 14) hC dX9_parse_6 (by decide) (by omega) ?_
  refine lv_iload_n zx zb dX9_parse_9 rfl (lv_at hl 1 rfl) ?_
  refine lv_iconst (v := nI 2) zx zb dX9_parse_10 (by decide) ?_
  refine j_icmp_le (tgt := 16) hC dX9_parse_11 (by decide) (by omega) (by omega) (fun c11 => ?_) (fun c11 => ?_)
  · refine lv_aload_n zx zb dX9_parse_16 rfl (lv_at hl 0 rfl) ?_
    refine j_callVv (wr := [aI G r5 500 sp, aI G r6 500 sl, aI G r7 500 sd, aI G r8 500 P]) hC hI (c_X9_know zl G y0 r1 r2 r3 r4 r5 r6 r7 r8 r9 r10 r11 r12 r13 n la lm lw kn k wp bt pn q th os wz sz ia ft tz T pp cm C fa (by omega) (by omega) (by omega) hpp (by omega) hk) (cwV 0 hC.2.2.2.2.1 gX9_parse_X9_know rfl rfl rfl (by decide +kernel) ⟨Nat.le_of_ble_eq_true rfl, Nat.le_of_ble_eq_true rfl⟩) [0, 1, 2, 3, 4, 5] [6, 7, 8, 9] rfl rfl rfl rfl rfl rfl (q0 := 0) rfl rfl rfl hl.1 (Nat.le_of_ble_eq_true rfl) dX9_parse_17 ⟨Nat.le_of_ble_eq_true rfl, Nat.le_of_ble_eq_true rfl⟩ (fun u17 H locs hp17 hI => ?_)
    obtain ⟨v17_0, v17_1, v17_2⟩ := u17
    have hI : jI G zA zs [aI G r5 500 sp, aI G r6 500 sl, aI G r7 500 sd, aI G r8 500 P, oC y0 9 [.int (nI 0), .ref r1, .int (nI n), .int (nI la), .int (nI lm), .int (nI lw), .ref r2, .ref r3, .ref r4, .int (nI 1), .ref r5, .ref r6, .ref r7, .int (nI k), .int (nI wp), .int (nI bt), .ref r8, .int (nI pn), .int (nI q), .int (nI th), .ref r9, .int (nI os), .int (nI wz), .ref r10, .int (nI sz), .int (nI ia), .ref r11, .ref r12, .int tz, .ref r13, .int (nI ft)], aI G r1 500 T, aI G r2 26 pp, aS G r3 251502 v17_0, aI G r4 501 v17_1, aI G r13 9 v17_2] H locs := hI
    dsimp only at hp17
    obtain ⟨f17_0, f17_1⟩ := hp17
    refine lv_aload_n zx zb dX9_parse_20 rfl (lv_at hl 0 rfl) ?_
    refine lv_iconst (v := nI 0) zx zb dX9_parse_21 (by decide) ?_
    refine j_put (w1 := [aI G r5 500 sp, aI G r6 500 sl, aI G r7 500 sd, aI G r8 500 P, oC y0 9 [.int (nI 0), .ref r1, .int (nI n), .int (nI la), .int (nI lm), .int (nI lw), .ref r2, .ref r3, .ref r4, .int (nI 1), .ref r5, .ref r6, .ref r7, .int (nI 0), .int (nI wp), .int (nI bt), .ref r8, .int (nI pn), .int (nI q), .int (nI th), .ref r9, .int (nI os), .int (nI wz), .ref r10, .int (nI sz), .int (nI ia), .ref r11, .ref r12, .int tz, .ref r13, .int (nI ft)], aI G r1 500 T, aI G r2 26 pp, aS G r3 251502 v17_0, aI G r4 501 v17_1, aI G r13 9 v17_2]) hC hI hin_X9_parse_X9 tyX9 tyX9_ok nmX9 4 rfl rfl 13 (by decide) hfl_X9_parse_93 rfl rfl rfl rfl (Nat.le_of_ble_eq_true rfl) dX9_parse_22 rfl (fun H locs hI => ?_)
    refine lv_aload_n zx zb dX9_parse_25 rfl (lv_at hl 0 rfl) ?_
    refine lv_iconst (v := nI 0) zx zb dX9_parse_26 (by decide) ?_
    refine j_put (w1 := [aI G r5 500 sp, aI G r6 500 sl, aI G r7 500 sd, aI G r8 500 P, oC y0 9 [.int (nI 0), .ref r1, .int (nI n), .int (nI la), .int (nI lm), .int (nI lw), .ref r2, .ref r3, .ref r4, .int (nI 1), .ref r5, .ref r6, .ref r7, .int (nI 0), .int (nI 0), .int (nI bt), .ref r8, .int (nI pn), .int (nI q), .int (nI th), .ref r9, .int (nI os), .int (nI wz), .ref r10, .int (nI sz), .int (nI ia), .ref r11, .ref r12, .int tz, .ref r13, .int (nI ft)], aI G r1 500 T, aI G r2 26 pp, aS G r3 251502 v17_0, aI G r4 501 v17_1, aI G r13 9 v17_2]) hC hI hin_X9_parse_X9 tyX9 tyX9_ok nmX9 4 rfl rfl 14 (by decide) hfl_X9_parse_96 rfl rfl rfl rfl (Nat.le_of_ble_eq_true rfl) dX9_parse_27 rfl (fun H locs hI => ?_)
    refine lv_aload_n zx zb dX9_parse_30 rfl (lv_at hl 0 rfl) ?_
    refine lv_bipush (v := nI 16) zx zb dX9_parse_31 (by decide) ?_
    refine j_put (w1 := [aI G r5 500 sp, aI G r6 500 sl, aI G r7 500 sd, aI G r8 500 P, oC y0 9 [.int (nI 0), .ref r1, .int (nI n), .int (nI la), .int (nI lm), .int (nI lw), .ref r2, .ref r3, .ref r4, .int (nI 1), .ref r5, .ref r6, .ref r7, .int (nI 0), .int (nI 0), .int (nI 16), .ref r8, .int (nI pn), .int (nI q), .int (nI th), .ref r9, .int (nI os), .int (nI wz), .ref r10, .int (nI sz), .int (nI ia), .ref r11, .ref r12, .int tz, .ref r13, .int (nI ft)], aI G r1 500 T, aI G r2 26 pp, aS G r3 251502 v17_0, aI G r4 501 v17_1, aI G r13 9 v17_2]) hC hI hin_X9_parse_X9 tyX9 tyX9_ok nmX9 4 rfl rfl 15 (by decide) hfl_X9_parse_99 rfl rfl rfl rfl (Nat.le_of_ble_eq_true rfl) dX9_parse_33 rfl (fun H locs hI => ?_)
    refine lv_iconst (v := nI 0) zx zb dX9_parse_36 (by decide) ?_
    refine lv_istore_n (lv' := [(2, .int (nI 0)), (0, .ref y0), (1, .int (nI 1))]) zx zb dX9_parse_37 rfl hl (by decide) rfl (fun ls hl => ?_)
    have loop38 : ∀ (zn38 : Nat) (i : Nat) (a : Nat) (wp2 : Nat) (bt2 : Nat) (e1 : Nat → Nat) (e2 : Nat → Nat) (e3 : Nat → Nat) (e5 : Nat → Nat), (i ≤ a ∧ a ≤ n ∧ i ≤ 500) → (a = pos e2 i) → (runR 1 la lm lw T n pp (ppA pp) (ppL pp) (ppD pp) (fun _ => 0) e1 e2 e3 i) → (∀ j, i ≤ j → e1 j = sp j ∧ e2 j = sl j ∧ e3 j = sd j) → (wp2 = sm (fun j => pri T pp (ppA pp) (ppL pp) (ppD pp) (pos e2 j) (e2 j) (e3 j)) i) → (bt2 = 16 + sm (fun j => bts la (e2 j) (e3 j)) i) → (n - a) < zn38 → ∀ (H : Heap) (locs : List Loc) (ls : Array Slot), jI G zA zs [oC y0 9 [.int (nI 0), .ref r1, .int (nI n), .int (nI la), .int (nI lm), .int (nI lw), .ref r2, .ref r3, .ref r4, .int (nI 1), .ref r5, .ref r6, .ref r7, .int (nI i), .int (nI wp2), .int (nI bt2), .ref r8, .int (nI pn), .int (nI q), .int (nI th), .ref r9, .int (nI os), .int (nI wz), .ref r10, .int (nI sz), .int (nI ia), .ref r11, .ref r12, .int tz, .ref r13, .int (nI ft)], aI G r1 500 T, aI G r2 26 pp, aS G r3 251502 v17_0, aI G r4 501 v17_1, aI G r13 9 e5, aI G r5 500 e1, aI G r6 500 e2, aI G r7 500 e3, aI G r8 500 P] H locs → lv_has ls 4 [(0, .ref y0), (1, .int (nI 1)), (2, .int (nI a))] → W zp zl ze ({ frames := 4, cells := 0, slots := 0, locals := 92 }) zs zm zargs zbelow zmeth zc H locs 0 0 zQ (F0 zm 38 ls []) := by
      intro zn38
      induction zn38 with
      | zero => intros; omega
      | succ zn38 ih38 =>
        intro i a wp2 bt2 e1 e2 e3 e5 hi hp hr ho hwp hbt zm38 H locs ls hI hl
        refine lv_iload_n zx zb dX9_parse_38 rfl (lv_at hl 2 rfl) ?_
        refine lv_aload_n zx zb dX9_parse_39 rfl (lv_at hl 0 rfl) ?_
        refine j_get hC hI hin_X9_parse_X9 0 rfl rfl 2 (by decide) hfl_X9_parse_68 rfl rfl dX9_parse_40 ?_
        refine j_icmp_ge (tgt := 90) hC dX9_parse_43 (by decide) (by omega) (by omega) (fun c43 => ?_) (fun c43 => ?_)
        · refine lv_iconst (v := nI 0) zx zb dX9_parse_90 (by decide) ?_
          refine lv_istore_n (lv' := [(3, .int (nI 0)), (0, .ref y0), (1, .int (nI 1)), (2, .int (nI a))]) zx zb dX9_parse_91 rfl hl (by decide) rfl (fun ls hl => ?_)
          have loop92 : ∀ (zn92 : Nat) (x : Nat) (e4 : Nat → Nat), (x ≤ n) → (e4 = cpy T P x) → (n - x) < zn92 → ∀ (H : Heap) (locs : List Loc) (ls : Array Slot), jI G zA zs [oC y0 9 [.int (nI 0), .ref r1, .int (nI n), .int (nI la), .int (nI lm), .int (nI lw), .ref r2, .ref r3, .ref r4, .int (nI 1), .ref r5, .ref r6, .ref r7, .int (nI i), .int (nI wp2), .int (nI bt2), .ref r8, .int (nI pn), .int (nI q), .int (nI th), .ref r9, .int (nI os), .int (nI wz), .ref r10, .int (nI sz), .int (nI ia), .ref r11, .ref r12, .int tz, .ref r13, .int (nI ft)], aI G r1 500 T, aI G r2 26 pp, aS G r3 251502 v17_0, aI G r4 501 v17_1, aI G r13 9 e5, aI G r5 500 e1, aI G r6 500 e2, aI G r7 500 e3, aI G r8 500 e4] H locs → lv_has ls 4 [(0, .ref y0), (3, .int (nI x))] → W zp zl ze ({ frames := 4, cells := 0, slots := 0, locals := 92 }) zs zm zargs zbelow zmeth zc H locs 0 0 zQ (F0 zm 92 ls []) := by
            intro zn92
            induction zn92 with
            | zero => intros; omega
            | succ zn92 ih92 =>
              intro x e4 hx h4 zm92 H locs ls hI hl
              refine lv_iload_n zx zb dX9_parse_92 rfl (lv_at hl 1 rfl) ?_
              refine lv_aload_n zx zb dX9_parse_93 rfl (lv_at hl 0 rfl) ?_
              refine j_get hC hI hin_X9_parse_X9 0 rfl rfl 2 (by decide) hfl_X9_parse_68 rfl rfl dX9_parse_94 ?_
              refine j_icmp_ge (tgt := 118) hC dX9_parse_97 (by decide) (by omega) (by omega) (fun c97 => ?_) (fun c97 => ?_)
              · refine lv_aload_n zx zb dX9_parse_118 rfl (lv_at hl 0 rfl) ?_
                refine lv_aload_n zx zb dX9_parse_119 rfl (lv_at hl 0 rfl) ?_
                refine j_get hC hI hin_X9_parse_X9 0 rfl rfl 2 (by decide) hfl_X9_parse_68 rfl rfl dX9_parse_120 ?_
                refine j_put (w1 := [oC y0 9 [.int (nI 0), .ref r1, .int (nI n), .int (nI la), .int (nI lm), .int (nI lw), .ref r2, .ref r3, .ref r4, .int (nI 1), .ref r5, .ref r6, .ref r7, .int (nI i), .int (nI wp2), .int (nI bt2), .ref r8, .int (nI n), .int (nI q), .int (nI th), .ref r9, .int (nI os), .int (nI wz), .ref r10, .int (nI sz), .int (nI ia), .ref r11, .ref r12, .int tz, .ref r13, .int (nI ft)], aI G r1 500 T, aI G r2 26 pp, aS G r3 251502 v17_0, aI G r4 501 v17_1, aI G r13 9 e5, aI G r5 500 e1, aI G r6 500 e2, aI G r7 500 e3, aI G r8 500 e4]) hC hI hin_X9_parse_X9 tyX9 tyX9_ok nmX9 0 rfl rfl 17 (by decide) hfl_X9_parse_122 rfl rfl rfl rfl (Nat.le_of_ble_eq_true rfl) dX9_parse_123 rfl (fun H locs hI => ?_)
                refine lv_aload_n zx zb dX9_parse_126 rfl (lv_at hl 0 rfl) ?_
                refine lv_aload_n zx zb dX9_parse_127 rfl (lv_at hl 0 rfl) ?_
                refine j_get hC hI hin_X9_parse_X9 0 rfl rfl 3 (by decide) hfl_X9_parse_13 rfl rfl dX9_parse_128 ?_
                refine j_put (w1 := [oC y0 9 [.int (nI 0), .ref r1, .int (nI n), .int (nI la), .int (nI lm), .int (nI lw), .ref r2, .ref r3, .ref r4, .int (nI 1), .ref r5, .ref r6, .ref r7, .int (nI i), .int (nI wp2), .int (nI bt2), .ref r8, .int (nI n), .int (nI la), .int (nI th), .ref r9, .int (nI os), .int (nI wz), .ref r10, .int (nI sz), .int (nI ia), .ref r11, .ref r12, .int tz, .ref r13, .int (nI ft)], aI G r1 500 T, aI G r2 26 pp, aS G r3 251502 v17_0, aI G r4 501 v17_1, aI G r13 9 e5, aI G r5 500 e1, aI G r6 500 e2, aI G r7 500 e3, aI G r8 500 e4]) hC hI hin_X9_parse_X9 tyX9 tyX9_ok nmX9 0 rfl rfl 18 (by decide) hfl_X9_parse_125 rfl rfl rfl rfl (Nat.le_of_ble_eq_true rfl) dX9_parse_131 rfl (fun H locs hI => ?_)
                refine lv_aload_n zx zb dX9_parse_134 rfl (lv_at hl 0 rfl) ?_
                refine lv_iconst (v := nI 1) zx zb dX9_parse_135 (by decide) ?_
                refine j_put (w1 := [oC y0 9 [.int (nI 0), .ref r1, .int (nI n), .int (nI la), .int (nI lm), .int (nI lw), .ref r2, .ref r3, .ref r4, .int (nI 1), .ref r5, .ref r6, .ref r7, .int (nI i), .int (nI wp2), .int (nI bt2), .ref r8, .int (nI n), .int (nI la), .int (nI 1), .ref r9, .int (nI os), .int (nI wz), .ref r10, .int (nI sz), .int (nI ia), .ref r11, .ref r12, .int tz, .ref r13, .int (nI ft)], aI G r1 500 T, aI G r2 26 pp, aS G r3 251502 v17_0, aI G r4 501 v17_1, aI G r13 9 e5, aI G r5 500 e1, aI G r6 500 e2, aI G r7 500 e3, aI G r8 500 e4]) hC hI hin_X9_parse_X9 tyX9 tyX9_ok nmX9 0 rfl rfl 19 (by decide) hfl_X9_parse_128 rfl rfl rfl rfl (Nat.le_of_ble_eq_true rfl) dX9_parse_136 rfl (fun H locs hI => ?_)
                refine lv_aload_n zx zb dX9_parse_139 rfl (lv_at hl 0 rfl) ?_
                refine j_get hC hI hin_X9_parse_X9 0 rfl rfl 13 (by decide) hfl_X9_parse_93 rfl rfl dX9_parse_140 ?_
                have en : x = n := by omega
                rw [en] at h4
                subst h4
                exact hQ _ _ _ _ _ ⟨i, wp2, bt2, e1, e2, e3, v17_0, v17_1, e5⟩ dX9_parse_143 (hI.sub [0, 1, 2, 3, 4, 5, 6, 7, 8, 9] rfl rfl) (by (try dsimp only); exact ⟨(by first | rfl | (congr 1; omega) | omega), (by omega), (by rw [← hp]; omega), hr, ho, hwp, hbt, f17_0, f17_1⟩)
              · refine lv_aload_n zx zb dX9_parse_100 rfl (lv_at hl 0 rfl) ?_
                refine j_get hC hI hin_X9_parse_X9 0 rfl rfl 16 (by decide) hfl_X9_parse_43 rfl rfl dX9_parse_101 ?_
                refine lv_iload_n zx zb dX9_parse_104 rfl (lv_at hl 1 rfl) ?_
                refine lv_aload_n zx zb dX9_parse_105 rfl (lv_at hl 0 rfl) ?_
                refine j_get hC hI hin_X9_parse_X9 0 rfl rfl 1 (by decide) hfl_X9_parse_7 rfl rfl dX9_parse_106 ?_
                refine lv_iload_n zx zb dX9_parse_109 rfl (lv_at hl 1 rfl) ?_
                refine j_iald hC hI 1 rfl (by omega) (by omega) dX9_parse_110 ?_
                have b110 := hT x (by omega)
                refine j_iast (w1 := [oC y0 9 [.int (nI 0), .ref r1, .int (nI n), .int (nI la), .int (nI lm), .int (nI lw), .ref r2, .ref r3, .ref r4, .int (nI 1), .ref r5, .ref r6, .ref r7, .int (nI i), .int (nI wp2), .int (nI bt2), .ref r8, .int (nI pn), .int (nI q), .int (nI th), .ref r9, .int (nI os), .int (nI wz), .ref r10, .int (nI sz), .int (nI ia), .ref r11, .ref r12, .int tz, .ref r13, .int (nI ft)], aI G r1 500 T, aI G r2 26 pp, aS G r3 251502 v17_0, aI G r4 501 v17_1, aI G r13 9 e5, aI G r5 500 e1, aI G r6 500 e2, aI G r7 500 e3, aI G r8 500 (up e4 x (T x))]) hC hI 9 rfl (by omega) (by omega) dX9_parse_111 rfl (fun H locs hI => ?_)
                refine lv_iinc (v := nI (x + 1)) (lv' := [(3, .int (nI (x + 1))), (0, .ref y0)]) zx zb dX9_parse_112 hl (k := 1) rfl (j_inc _ _ _ (by decide)) (by decide) rfl (fun ls hl => ?_)
                refine lv_goto (tgt := 92) zx zb dX9_parse_115 (by decide) ?_
                exact ih92 (x + 1) (up e4 x (T x)) (by omega) (by rw [cpy_up, h4]) (by omega) _ _ _ hI (lv_sub hl [1, 0] rfl)
          exact loop92 _ 0 P (by omega) (cpy_0 T P).symm (Nat.lt_succ_self _) _ _ _ hI (lv_sub hl [1, 0] rfl)
        · refine lv_iload_n zx zb dX9_parse_46 rfl (lv_at hl 1 rfl) ?_
          refine j_if_ne (tgt := 58) hC dX9_parse_47 (by decide) (by omega) (fun c47 => ?_) (fun c47 => ?_)
          · refine lv_aload_n zx zb dX9_parse_58 rfl (lv_at hl 0 rfl) ?_
            refine lv_iload_n zx zb dX9_parse_59 rfl (lv_at hl 2 rfl) ?_
            refine lv_iload_n zx zb dX9_parse_60 rfl (lv_at hl 1 rfl) ?_
            refine lv_iconst (v := nI 2) zx zb dX9_parse_61 (by decide) ?_
            refine j_icmp_ne (tgt := 69) hC dX9_parse_62 (by decide) (by omega) (by omega) (fun c62 => ?_) (fun c62 => ?_)
            · refine lv_iconst (v := nI 0) zx zb dX9_parse_69 (by decide) ?_
              refine j_callVv (wr := [aI G r4 501 v17_1, aI G r13 9 e5, aI G r8 500 P]) hC hI (c_X9_stepGreedily_1 zl G y0 r1 r2 r3 r4 r5 r6 r7 r8 r9 r10 r11 r12 r13 n la lm lw 1 i wp2 bt2 pn q th os wz sz ia ft tz T pp v17_0 e1 e2 e3 a (by omega) (by omega) (by omega) hpp (by omega) (by omega) f17_0) (cwV 2 hC.2.2.2.2.1 gX9_parse_X9_stepGreedily rfl rfl rfl (by decide +kernel) ⟨Nat.le_of_ble_eq_true rfl, Nat.le_of_ble_eq_true rfl⟩) [0, 1, 2, 3, 6, 7, 8] [4, 5, 9] rfl rfl rfl rfl rfl rfl (q0 := 0) rfl rfl rfl hl.1 (Nat.le_of_ble_eq_true rfl) dX9_parse_70 ⟨Nat.le_of_ble_eq_true rfl, Nat.le_of_ble_eq_true rfl⟩ (fun u70 H locs hp70 hI => ?_)
              obtain ⟨v70_0, v70_1⟩ := u70
              have hI : jI G zA zs [aI G r4 501 v17_1, aI G r13 9 e5, aI G r8 500 P, oC y0 9 [.int (nI 0), .ref r1, .int (nI n), .int (nI la), .int (nI lm), .int (nI lw), .ref r2, .ref r3, .ref r4, .int (nI 1), .ref r5, .ref r6, .ref r7, .int (nI (i + 1)), .int (nI (wp2 + pri T pp (ppA pp) (ppL pp) (ppD pp) a v70_0 v70_1)), .int (nI (bt2 + bts la v70_0 v70_1)), .ref r8, .int (nI pn), .int (nI q), .int (nI th), .ref r9, .int (nI os), .int (nI wz), .ref r10, .int (nI sz), .int (nI ia), .ref r11, .ref r12, .int tz, .ref r13, .int (nI ft)], aI G r1 500 T, aI G r2 26 pp, aS G r3 251502 v17_0, aI G r5 500 (up e1 i a), aI G r6 500 (up e2 i v70_0), aI G r7 500 (up e3 i v70_1)] H locs := hI
              dsimp only at hp70
              have f70_0 := hp70
              refine lv_iload_n zx zb dX9_parse_73 rfl (lv_at hl 2 rfl) ?_
              refine lv_aload_n zx zb dX9_parse_74 rfl (lv_at hl 0 rfl) ?_
              refine j_get hC hI hin_X9_parse_X9 3 rfl rfl 11 (by decide) hfl_X9_parse_37 rfl rfl dX9_parse_75 ?_
              refine lv_aload_n zx zb dX9_parse_78 rfl (lv_at hl 0 rfl) ?_
              refine j_get hC hI hin_X9_parse_X9 3 rfl rfl 13 (by decide) hfl_X9_parse_93 rfl rfl dX9_parse_79 ?_
              refine lv_iconst (v := nI 1) zx zb dX9_parse_82 (by decide) ?_
              refine j_isub hC (by omega) dX9_parse_83 ?_
              refine j_iald hC hI 8 rfl (by omega) (by omega) dX9_parse_84 ?_
              rw [show up e2 i v70_0 (i + 1 - 1) = v70_0 by rw [Nat.add_sub_cancel, up_s]]
              refine j_iadd hC dX9_parse_85 ?_
              refine lv_istore_n (lv' := [(2, .int (nI (a + v70_0))), (0, .ref y0), (1, .int (nI 1))]) zx zb dX9_parse_86 rfl hl (by decide) rfl (fun ls hl => ?_)
              refine lv_goto (tgt := 38) zx zb dX9_parse_87 (by decide) ?_
              have hok := stepR_ok (by omega) f70_0
              exact ih38 (i + 1) (a + v70_0) (wp2 + pri T pp (ppA pp) (ppL pp) (ppD pp) a v70_0 v70_1) (bt2 + bts la v70_0 v70_1) (up e1 i a) (up e2 i v70_0) (up e3 i v70_1) e5 (by omega) (rn_pos hp) (runR_up hr hp (by omega) f70_0) (rn_old ho) (rn_wp hwp hp rfl) (rn_bt hbt rfl) (by omega) _ _ _ (hI.sub [3, 4, 5, 6, 0, 1, 7, 8, 9, 2] rfl rfl) (lv_sub hl [1, 2, 0] rfl)
            · exact (by omega : False).elim
          · exact (by omega : False).elim
    exact loop38 _ 0 0 0 16 sp sl sd v17_2 (by omega) rfl (fun i h => by omega) (fun j h => ⟨rfl, rfl, rfl⟩) rfl rfl (Nat.lt_succ_self _) _ _ _ (hI.sub [4, 5, 6, 7, 8, 9, 0, 1, 2, 3] rfl rfl) (lv_sub hl [1, 2, 0] rfl)
  · exact (by omega : False).elim

set_option maxHeartbeats 4000000 in
set_option maxRecDepth 100000 in
theorem c_X9_parse_2 (zl : Launch) (G : jG) (y0 : Nat) (r1 : Nat) (r2 : Nat) (r3 : Nat) (r4 : Nat) (r5 : Nat) (r6 : Nat) (r7 : Nat) (r8 : Nat) (r9 : Nat) (r10 : Nat) (r11 : Nat) (r12 : Nat) (r13 : Nat) (n : Nat) (la : Nat) (lm : Nat) (lw : Nat) (kn : Nat) (k : Nat) (wp : Nat) (bt : Nat) (pn : Nat) (q : Nat) (th : Nat) (os : Nat) (wz : Nat) (sz : Nat) (ia : Nat) (ft : Nat) (tz : Int32) (T : Nat → Nat) (pp : Nat → Nat) (cm : Nat → Nat) (C : Nat → Nat) (sp : Nat → Nat) (sl : Nat → Nat) (sd : Nat → Nat) (P : Nat → Nat) (fa : Nat → Nat) (hn : n ≤ 500) (hl0 : 2 ≤ la ∧ la ≤ lm ∧ lm ≤ 255 ∧ lw ≤ 500) (hT : ∀ j, j < n → T j < 256) (hpp : ∀ j, j < 26 → 1 ≤ pp j ∧ pp j ≤ 1000) (hkn : kn ≤ 1) (hk : kn ≠ 0 → (∀ p, p < n → cmO T n cm p) ∧ cTab la lm lw T n pp (ppA pp) (ppL pp) (ppD pp) C) : jMet zl yX9_parse wsX9_parse ({ frames := 4, cells := 0, slots := 0, locals := 92 }) G [oC y0 9 [.int (nI 0), .ref r1, .int (nI n), .int (nI la), .int (nI lm), .int (nI lw), .ref r2, .ref r3, .ref r4, .int (nI kn), .ref r5, .ref r6, .ref r7, .int (nI k), .int (nI wp), .int (nI bt), .ref r8, .int (nI pn), .int (nI q), .int (nI th), .ref r9, .int (nI os), .int (nI wz), .ref r10, .int (nI sz), .int (nI ia), .ref r11, .ref r12, .int tz, .ref r13, .int (nI ft)], aI G r1 500 T, aI G r2 26 pp, aS G r3 251502 cm, aI G r4 501 C, aI G r13 9 fa, aI G r5 500 sp, aI G r6 500 sl, aI G r7 500 sd, aI G r8 500 P] [.ref y0, .int (nI 2)] (jQi G (fun (r : Int32) (u : Nat × Nat × Nat × (Nat → Nat) × (Nat → Nat) × (Nat → Nat) × (Nat → Nat) × (Nat → Nat) × (Nat → Nat)) => (r = nI u.1) ∧ (u.1 ≤ 500) ∧ (pos u.2.2.2.2.1 u.1 = n) ∧ (runR 2 la lm lw T n pp (ppA pp) (ppL pp) (ppD pp) (fun _ => 0) u.2.2.2.1 u.2.2.2.2.1 u.2.2.2.2.2.1 u.1) ∧ (∀ j, u.1 ≤ j → u.2.2.2.1 j = sp j ∧ u.2.2.2.2.1 j = sl j ∧ u.2.2.2.2.2.1 j = sd j) ∧ (u.2.1 = sm (fun j => pri T pp (ppA pp) (ppL pp) (ppD pp) (pos u.2.2.2.2.1 j) (u.2.2.2.2.1 j) (u.2.2.2.2.2.1 j)) u.1) ∧ (u.2.2.1 = 16 + sm (fun j => bts la (u.2.2.2.2.1 j) (u.2.2.2.2.2.1 j)) u.1) ∧ (∀ p, p < n → cmO T n u.2.2.2.2.2.2.1 p) ∧ (cTab la lm lw T n pp (ppA pp) (ppL pp) (ppD pp) u.2.2.2.2.2.2.2.1)) (fun (u : Nat × Nat × Nat × (Nat → Nat) × (Nat → Nat) × (Nat → Nat) × (Nat → Nat) × (Nat → Nat) × (Nat → Nat)) => [oC y0 9 [.int (nI 0), .ref r1, .int (nI n), .int (nI la), .int (nI lm), .int (nI lw), .ref r2, .ref r3, .ref r4, .int (nI 1), .ref r5, .ref r6, .ref r7, .int (nI u.1), .int (nI u.2.1), .int (nI u.2.2.1), .ref r8, .int (nI n), .int (nI la), .int (nI 1), .ref r9, .int (nI os), .int (nI wz), .ref r10, .int (nI sz), .int (nI ia), .ref r11, .ref r12, .int tz, .ref r13, .int (nI ft)], aI G r1 500 T, aI G r2 26 pp, aS G r3 251502 u.2.2.2.2.2.2.1, aI G r4 501 u.2.2.2.2.2.2.2.1, aI G r13 9 u.2.2.2.2.2.2.2.2, aI G r5 500 u.2.2.2.1, aI G r6 500 u.2.2.2.2.1, aI G r7 500 u.2.2.2.2.2.1, aI G r8 500 (cpy T P n)])) 0 0 := by
  refine j_enter_i (cc := cX9_parse) (nL := 4) (nm := "parse") (own := RX9) (lv := [(0, .ref y0), (1, .int (nI 2))]) (by decide) rfl (Nat.le_of_ble_eq_true rfl) rfl rfl rfl ?_
  intro zA zp ze zs zm zargs zbelow zmeth zc zQ ls hC hQ hI hl
  have zx := hC.1
  have zb := hC.2.1
  have hpp2 := hpp
  refine lv_aload_n zx zb dX9_parse_0 rfl (lv_at hl 0 rfl) ?_
  refine lv_iconst (v := nI 0) zx zb dX9_parse_1 (by decide) ?_
  refine j_put (w1 := [oC y0 9 [.int (nI 0), .ref r1, .int (nI n), .int (nI la), .int (nI lm), .int (nI lw), .ref r2, .ref r3, .ref r4, .int (nI kn), .ref r5, .ref r6, .ref r7, .int (nI k), .int (nI wp), .int (nI bt), .ref r8, .int (nI pn), .int (nI q), .int (nI th), .ref r9, .int (nI os), .int (nI wz), .ref r10, .int (nI sz), .int (nI ia), .ref r11, .ref r12, .int tz, .ref r13, .int (nI ft)], aI G r1 500 T, aI G r2 26 pp, aS G r3 251502 cm, aI G r4 501 C, aI G r13 9 fa, aI G r5 500 sp, aI G r6 500 sl, aI G r7 500 sd, aI G r8 500 P]) hC hI hin_X9_parse_X9 tyX9 tyX9_ok nmX9 0 rfl rfl 0 (by decide) hfl_X9_parse_65 rfl rfl rfl rfl (Nat.le_of_ble_eq_true rfl) dX9_parse_2 rfl (fun H locs hI => ?_)
  refine lv_iload_n zx zb dX9_parse_5 rfl (lv_at hl 1 rfl) ?_
  refine j_if_lt (tgt := 14) hC dX9_parse_6 (by decide) (by omega) ?_
  refine lv_iload_n zx zb dX9_parse_9 rfl (lv_at hl 1 rfl) ?_
  refine lv_iconst (v := nI 2) zx zb dX9_parse_10 (by decide) ?_
  refine j_icmp_le (tgt := 16) hC dX9_parse_11 (by decide) (by omega) (by omega) (fun c11 => ?_) (fun c11 => ?_)
  · refine lv_aload_n zx zb dX9_parse_16 rfl (lv_at hl 0 rfl) ?_
    refine j_callVv (wr := [aI G r5 500 sp, aI G r6 500 sl, aI G r7 500 sd, aI G r8 500 P]) hC hI (c_X9_know zl G y0 r1 r2 r3 r4 r5 r6 r7 r8 r9 r10 r11 r12 r13 n la lm lw kn k wp bt pn q th os wz sz ia ft tz T pp cm C fa (by omega) (by omega) (by omega) hpp (by omega) hk) (cwV 0 hC.2.2.2.2.1 gX9_parse_X9_know rfl rfl rfl (by decide +kernel) ⟨Nat.le_of_ble_eq_true rfl, Nat.le_of_ble_eq_true rfl⟩) [0, 1, 2, 3, 4, 5] [6, 7, 8, 9] rfl rfl rfl rfl rfl rfl (q0 := 0) rfl rfl rfl hl.1 (Nat.le_of_ble_eq_true rfl) dX9_parse_17 ⟨Nat.le_of_ble_eq_true rfl, Nat.le_of_ble_eq_true rfl⟩ (fun u17 H locs hp17 hI => ?_)
    obtain ⟨v17_0, v17_1, v17_2⟩ := u17
    have hI : jI G zA zs [aI G r5 500 sp, aI G r6 500 sl, aI G r7 500 sd, aI G r8 500 P, oC y0 9 [.int (nI 0), .ref r1, .int (nI n), .int (nI la), .int (nI lm), .int (nI lw), .ref r2, .ref r3, .ref r4, .int (nI 1), .ref r5, .ref r6, .ref r7, .int (nI k), .int (nI wp), .int (nI bt), .ref r8, .int (nI pn), .int (nI q), .int (nI th), .ref r9, .int (nI os), .int (nI wz), .ref r10, .int (nI sz), .int (nI ia), .ref r11, .ref r12, .int tz, .ref r13, .int (nI ft)], aI G r1 500 T, aI G r2 26 pp, aS G r3 251502 v17_0, aI G r4 501 v17_1, aI G r13 9 v17_2] H locs := hI
    dsimp only at hp17
    obtain ⟨f17_0, f17_1⟩ := hp17
    refine lv_aload_n zx zb dX9_parse_20 rfl (lv_at hl 0 rfl) ?_
    refine lv_iconst (v := nI 0) zx zb dX9_parse_21 (by decide) ?_
    refine j_put (w1 := [aI G r5 500 sp, aI G r6 500 sl, aI G r7 500 sd, aI G r8 500 P, oC y0 9 [.int (nI 0), .ref r1, .int (nI n), .int (nI la), .int (nI lm), .int (nI lw), .ref r2, .ref r3, .ref r4, .int (nI 1), .ref r5, .ref r6, .ref r7, .int (nI 0), .int (nI wp), .int (nI bt), .ref r8, .int (nI pn), .int (nI q), .int (nI th), .ref r9, .int (nI os), .int (nI wz), .ref r10, .int (nI sz), .int (nI ia), .ref r11, .ref r12, .int tz, .ref r13, .int (nI ft)], aI G r1 500 T, aI G r2 26 pp, aS G r3 251502 v17_0, aI G r4 501 v17_1, aI G r13 9 v17_2]) hC hI hin_X9_parse_X9 tyX9 tyX9_ok nmX9 4 rfl rfl 13 (by decide) hfl_X9_parse_93 rfl rfl rfl rfl (Nat.le_of_ble_eq_true rfl) dX9_parse_22 rfl (fun H locs hI => ?_)
    refine lv_aload_n zx zb dX9_parse_25 rfl (lv_at hl 0 rfl) ?_
    refine lv_iconst (v := nI 0) zx zb dX9_parse_26 (by decide) ?_
    refine j_put (w1 := [aI G r5 500 sp, aI G r6 500 sl, aI G r7 500 sd, aI G r8 500 P, oC y0 9 [.int (nI 0), .ref r1, .int (nI n), .int (nI la), .int (nI lm), .int (nI lw), .ref r2, .ref r3, .ref r4, .int (nI 1), .ref r5, .ref r6, .ref r7, .int (nI 0), .int (nI 0), .int (nI bt), .ref r8, .int (nI pn), .int (nI q), .int (nI th), .ref r9, .int (nI os), .int (nI wz), .ref r10, .int (nI sz), .int (nI ia), .ref r11, .ref r12, .int tz, .ref r13, .int (nI ft)], aI G r1 500 T, aI G r2 26 pp, aS G r3 251502 v17_0, aI G r4 501 v17_1, aI G r13 9 v17_2]) hC hI hin_X9_parse_X9 tyX9 tyX9_ok nmX9 4 rfl rfl 14 (by decide) hfl_X9_parse_96 rfl rfl rfl rfl (Nat.le_of_ble_eq_true rfl) dX9_parse_27 rfl (fun H locs hI => ?_)
    refine lv_aload_n zx zb dX9_parse_30 rfl (lv_at hl 0 rfl) ?_
    refine lv_bipush (v := nI 16) zx zb dX9_parse_31 (by decide) ?_
    refine j_put (w1 := [aI G r5 500 sp, aI G r6 500 sl, aI G r7 500 sd, aI G r8 500 P, oC y0 9 [.int (nI 0), .ref r1, .int (nI n), .int (nI la), .int (nI lm), .int (nI lw), .ref r2, .ref r3, .ref r4, .int (nI 1), .ref r5, .ref r6, .ref r7, .int (nI 0), .int (nI 0), .int (nI 16), .ref r8, .int (nI pn), .int (nI q), .int (nI th), .ref r9, .int (nI os), .int (nI wz), .ref r10, .int (nI sz), .int (nI ia), .ref r11, .ref r12, .int tz, .ref r13, .int (nI ft)], aI G r1 500 T, aI G r2 26 pp, aS G r3 251502 v17_0, aI G r4 501 v17_1, aI G r13 9 v17_2]) hC hI hin_X9_parse_X9 tyX9 tyX9_ok nmX9 4 rfl rfl 15 (by decide) hfl_X9_parse_99 rfl rfl rfl rfl (Nat.le_of_ble_eq_true rfl) dX9_parse_33 rfl (fun H locs hI => ?_)
    refine lv_iconst (v := nI 0) zx zb dX9_parse_36 (by decide) ?_
    refine lv_istore_n (lv' := [(2, .int (nI 0)), (0, .ref y0), (1, .int (nI 2))]) zx zb dX9_parse_37 rfl hl (by decide) rfl (fun ls hl => ?_)
    have loop38 : ∀ (zn38 : Nat) (i : Nat) (a : Nat) (wp2 : Nat) (bt2 : Nat) (e1 : Nat → Nat) (e2 : Nat → Nat) (e3 : Nat → Nat) (e5 : Nat → Nat), (i ≤ a ∧ a ≤ n ∧ i ≤ 500) → (a = pos e2 i) → (runR 2 la lm lw T n pp (ppA pp) (ppL pp) (ppD pp) (fun _ => 0) e1 e2 e3 i) → (∀ j, i ≤ j → e1 j = sp j ∧ e2 j = sl j ∧ e3 j = sd j) → (wp2 = sm (fun j => pri T pp (ppA pp) (ppL pp) (ppD pp) (pos e2 j) (e2 j) (e3 j)) i) → (bt2 = 16 + sm (fun j => bts la (e2 j) (e3 j)) i) → (n - a) < zn38 → ∀ (H : Heap) (locs : List Loc) (ls : Array Slot), jI G zA zs [oC y0 9 [.int (nI 0), .ref r1, .int (nI n), .int (nI la), .int (nI lm), .int (nI lw), .ref r2, .ref r3, .ref r4, .int (nI 1), .ref r5, .ref r6, .ref r7, .int (nI i), .int (nI wp2), .int (nI bt2), .ref r8, .int (nI pn), .int (nI q), .int (nI th), .ref r9, .int (nI os), .int (nI wz), .ref r10, .int (nI sz), .int (nI ia), .ref r11, .ref r12, .int tz, .ref r13, .int (nI ft)], aI G r1 500 T, aI G r2 26 pp, aS G r3 251502 v17_0, aI G r4 501 v17_1, aI G r13 9 e5, aI G r5 500 e1, aI G r6 500 e2, aI G r7 500 e3, aI G r8 500 P] H locs → lv_has ls 4 [(0, .ref y0), (1, .int (nI 2)), (2, .int (nI a))] → W zp zl ze ({ frames := 4, cells := 0, slots := 0, locals := 92 }) zs zm zargs zbelow zmeth zc H locs 0 0 zQ (F0 zm 38 ls []) := by
      intro zn38
      induction zn38 with
      | zero => intros; omega
      | succ zn38 ih38 =>
        intro i a wp2 bt2 e1 e2 e3 e5 hi hp hr ho hwp hbt zm38 H locs ls hI hl
        refine lv_iload_n zx zb dX9_parse_38 rfl (lv_at hl 2 rfl) ?_
        refine lv_aload_n zx zb dX9_parse_39 rfl (lv_at hl 0 rfl) ?_
        refine j_get hC hI hin_X9_parse_X9 0 rfl rfl 2 (by decide) hfl_X9_parse_68 rfl rfl dX9_parse_40 ?_
        refine j_icmp_ge (tgt := 90) hC dX9_parse_43 (by decide) (by omega) (by omega) (fun c43 => ?_) (fun c43 => ?_)
        · refine lv_iconst (v := nI 0) zx zb dX9_parse_90 (by decide) ?_
          refine lv_istore_n (lv' := [(3, .int (nI 0)), (0, .ref y0), (1, .int (nI 2)), (2, .int (nI a))]) zx zb dX9_parse_91 rfl hl (by decide) rfl (fun ls hl => ?_)
          have loop92 : ∀ (zn92 : Nat) (x : Nat) (e4 : Nat → Nat), (x ≤ n) → (e4 = cpy T P x) → (n - x) < zn92 → ∀ (H : Heap) (locs : List Loc) (ls : Array Slot), jI G zA zs [oC y0 9 [.int (nI 0), .ref r1, .int (nI n), .int (nI la), .int (nI lm), .int (nI lw), .ref r2, .ref r3, .ref r4, .int (nI 1), .ref r5, .ref r6, .ref r7, .int (nI i), .int (nI wp2), .int (nI bt2), .ref r8, .int (nI pn), .int (nI q), .int (nI th), .ref r9, .int (nI os), .int (nI wz), .ref r10, .int (nI sz), .int (nI ia), .ref r11, .ref r12, .int tz, .ref r13, .int (nI ft)], aI G r1 500 T, aI G r2 26 pp, aS G r3 251502 v17_0, aI G r4 501 v17_1, aI G r13 9 e5, aI G r5 500 e1, aI G r6 500 e2, aI G r7 500 e3, aI G r8 500 e4] H locs → lv_has ls 4 [(0, .ref y0), (3, .int (nI x))] → W zp zl ze ({ frames := 4, cells := 0, slots := 0, locals := 92 }) zs zm zargs zbelow zmeth zc H locs 0 0 zQ (F0 zm 92 ls []) := by
            intro zn92
            induction zn92 with
            | zero => intros; omega
            | succ zn92 ih92 =>
              intro x e4 hx h4 zm92 H locs ls hI hl
              refine lv_iload_n zx zb dX9_parse_92 rfl (lv_at hl 1 rfl) ?_
              refine lv_aload_n zx zb dX9_parse_93 rfl (lv_at hl 0 rfl) ?_
              refine j_get hC hI hin_X9_parse_X9 0 rfl rfl 2 (by decide) hfl_X9_parse_68 rfl rfl dX9_parse_94 ?_
              refine j_icmp_ge (tgt := 118) hC dX9_parse_97 (by decide) (by omega) (by omega) (fun c97 => ?_) (fun c97 => ?_)
              · refine lv_aload_n zx zb dX9_parse_118 rfl (lv_at hl 0 rfl) ?_
                refine lv_aload_n zx zb dX9_parse_119 rfl (lv_at hl 0 rfl) ?_
                refine j_get hC hI hin_X9_parse_X9 0 rfl rfl 2 (by decide) hfl_X9_parse_68 rfl rfl dX9_parse_120 ?_
                refine j_put (w1 := [oC y0 9 [.int (nI 0), .ref r1, .int (nI n), .int (nI la), .int (nI lm), .int (nI lw), .ref r2, .ref r3, .ref r4, .int (nI 1), .ref r5, .ref r6, .ref r7, .int (nI i), .int (nI wp2), .int (nI bt2), .ref r8, .int (nI n), .int (nI q), .int (nI th), .ref r9, .int (nI os), .int (nI wz), .ref r10, .int (nI sz), .int (nI ia), .ref r11, .ref r12, .int tz, .ref r13, .int (nI ft)], aI G r1 500 T, aI G r2 26 pp, aS G r3 251502 v17_0, aI G r4 501 v17_1, aI G r13 9 e5, aI G r5 500 e1, aI G r6 500 e2, aI G r7 500 e3, aI G r8 500 e4]) hC hI hin_X9_parse_X9 tyX9 tyX9_ok nmX9 0 rfl rfl 17 (by decide) hfl_X9_parse_122 rfl rfl rfl rfl (Nat.le_of_ble_eq_true rfl) dX9_parse_123 rfl (fun H locs hI => ?_)
                refine lv_aload_n zx zb dX9_parse_126 rfl (lv_at hl 0 rfl) ?_
                refine lv_aload_n zx zb dX9_parse_127 rfl (lv_at hl 0 rfl) ?_
                refine j_get hC hI hin_X9_parse_X9 0 rfl rfl 3 (by decide) hfl_X9_parse_13 rfl rfl dX9_parse_128 ?_
                refine j_put (w1 := [oC y0 9 [.int (nI 0), .ref r1, .int (nI n), .int (nI la), .int (nI lm), .int (nI lw), .ref r2, .ref r3, .ref r4, .int (nI 1), .ref r5, .ref r6, .ref r7, .int (nI i), .int (nI wp2), .int (nI bt2), .ref r8, .int (nI n), .int (nI la), .int (nI th), .ref r9, .int (nI os), .int (nI wz), .ref r10, .int (nI sz), .int (nI ia), .ref r11, .ref r12, .int tz, .ref r13, .int (nI ft)], aI G r1 500 T, aI G r2 26 pp, aS G r3 251502 v17_0, aI G r4 501 v17_1, aI G r13 9 e5, aI G r5 500 e1, aI G r6 500 e2, aI G r7 500 e3, aI G r8 500 e4]) hC hI hin_X9_parse_X9 tyX9 tyX9_ok nmX9 0 rfl rfl 18 (by decide) hfl_X9_parse_125 rfl rfl rfl rfl (Nat.le_of_ble_eq_true rfl) dX9_parse_131 rfl (fun H locs hI => ?_)
                refine lv_aload_n zx zb dX9_parse_134 rfl (lv_at hl 0 rfl) ?_
                refine lv_iconst (v := nI 1) zx zb dX9_parse_135 (by decide) ?_
                refine j_put (w1 := [oC y0 9 [.int (nI 0), .ref r1, .int (nI n), .int (nI la), .int (nI lm), .int (nI lw), .ref r2, .ref r3, .ref r4, .int (nI 1), .ref r5, .ref r6, .ref r7, .int (nI i), .int (nI wp2), .int (nI bt2), .ref r8, .int (nI n), .int (nI la), .int (nI 1), .ref r9, .int (nI os), .int (nI wz), .ref r10, .int (nI sz), .int (nI ia), .ref r11, .ref r12, .int tz, .ref r13, .int (nI ft)], aI G r1 500 T, aI G r2 26 pp, aS G r3 251502 v17_0, aI G r4 501 v17_1, aI G r13 9 e5, aI G r5 500 e1, aI G r6 500 e2, aI G r7 500 e3, aI G r8 500 e4]) hC hI hin_X9_parse_X9 tyX9 tyX9_ok nmX9 0 rfl rfl 19 (by decide) hfl_X9_parse_128 rfl rfl rfl rfl (Nat.le_of_ble_eq_true rfl) dX9_parse_136 rfl (fun H locs hI => ?_)
                refine lv_aload_n zx zb dX9_parse_139 rfl (lv_at hl 0 rfl) ?_
                refine j_get hC hI hin_X9_parse_X9 0 rfl rfl 13 (by decide) hfl_X9_parse_93 rfl rfl dX9_parse_140 ?_
                have en : x = n := by omega
                rw [en] at h4
                subst h4
                exact hQ _ _ _ _ _ ⟨i, wp2, bt2, e1, e2, e3, v17_0, v17_1, e5⟩ dX9_parse_143 (hI.sub [0, 1, 2, 3, 4, 5, 6, 7, 8, 9] rfl rfl) (by (try dsimp only); exact ⟨(by first | rfl | (congr 1; omega) | omega), (by omega), (by rw [← hp]; omega), hr, ho, hwp, hbt, f17_0, f17_1⟩)
              · refine lv_aload_n zx zb dX9_parse_100 rfl (lv_at hl 0 rfl) ?_
                refine j_get hC hI hin_X9_parse_X9 0 rfl rfl 16 (by decide) hfl_X9_parse_43 rfl rfl dX9_parse_101 ?_
                refine lv_iload_n zx zb dX9_parse_104 rfl (lv_at hl 1 rfl) ?_
                refine lv_aload_n zx zb dX9_parse_105 rfl (lv_at hl 0 rfl) ?_
                refine j_get hC hI hin_X9_parse_X9 0 rfl rfl 1 (by decide) hfl_X9_parse_7 rfl rfl dX9_parse_106 ?_
                refine lv_iload_n zx zb dX9_parse_109 rfl (lv_at hl 1 rfl) ?_
                refine j_iald hC hI 1 rfl (by omega) (by omega) dX9_parse_110 ?_
                have b110 := hT x (by omega)
                refine j_iast (w1 := [oC y0 9 [.int (nI 0), .ref r1, .int (nI n), .int (nI la), .int (nI lm), .int (nI lw), .ref r2, .ref r3, .ref r4, .int (nI 1), .ref r5, .ref r6, .ref r7, .int (nI i), .int (nI wp2), .int (nI bt2), .ref r8, .int (nI pn), .int (nI q), .int (nI th), .ref r9, .int (nI os), .int (nI wz), .ref r10, .int (nI sz), .int (nI ia), .ref r11, .ref r12, .int tz, .ref r13, .int (nI ft)], aI G r1 500 T, aI G r2 26 pp, aS G r3 251502 v17_0, aI G r4 501 v17_1, aI G r13 9 e5, aI G r5 500 e1, aI G r6 500 e2, aI G r7 500 e3, aI G r8 500 (up e4 x (T x))]) hC hI 9 rfl (by omega) (by omega) dX9_parse_111 rfl (fun H locs hI => ?_)
                refine lv_iinc (v := nI (x + 1)) (lv' := [(3, .int (nI (x + 1))), (0, .ref y0)]) zx zb dX9_parse_112 hl (k := 1) rfl (j_inc _ _ _ (by decide)) (by decide) rfl (fun ls hl => ?_)
                refine lv_goto (tgt := 92) zx zb dX9_parse_115 (by decide) ?_
                exact ih92 (x + 1) (up e4 x (T x)) (by omega) (by rw [cpy_up, h4]) (by omega) _ _ _ hI (lv_sub hl [1, 0] rfl)
          exact loop92 _ 0 P (by omega) (cpy_0 T P).symm (Nat.lt_succ_self _) _ _ _ hI (lv_sub hl [1, 0] rfl)
        · refine lv_iload_n zx zb dX9_parse_46 rfl (lv_at hl 1 rfl) ?_
          refine j_if_ne (tgt := 58) hC dX9_parse_47 (by decide) (by omega) (fun c47 => ?_) (fun c47 => ?_)
          · refine lv_aload_n zx zb dX9_parse_58 rfl (lv_at hl 0 rfl) ?_
            refine lv_iload_n zx zb dX9_parse_59 rfl (lv_at hl 2 rfl) ?_
            refine lv_iload_n zx zb dX9_parse_60 rfl (lv_at hl 1 rfl) ?_
            refine lv_iconst (v := nI 2) zx zb dX9_parse_61 (by decide) ?_
            refine j_icmp_ne (tgt := 69) hC dX9_parse_62 (by decide) (by omega) (by omega) (fun c62 => ?_) (fun c62 => ?_)
            · exact (by omega : False).elim
            · refine lv_iconst (v := nI 1) zx zb dX9_parse_65 (by decide) ?_
              refine lv_goto (tgt := 70) zx zb dX9_parse_66 (by decide) ?_
              refine j_callVv (wr := [aI G r4 501 v17_1, aI G r13 9 e5, aI G r8 500 P]) hC hI (c_X9_stepGreedily_2 zl G y0 r1 r2 r3 r4 r5 r6 r7 r8 r9 r10 r11 r12 r13 n la lm lw 1 i wp2 bt2 pn q th os wz sz ia ft tz T pp v17_0 e1 e2 e3 a (by omega) (by omega) (by omega) hpp (by omega) (by omega) f17_0) (cwV 2 hC.2.2.2.2.1 gX9_parse_X9_stepGreedily rfl rfl rfl (by decide +kernel) ⟨Nat.le_of_ble_eq_true rfl, Nat.le_of_ble_eq_true rfl⟩) [0, 1, 2, 3, 6, 7, 8] [4, 5, 9] rfl rfl rfl rfl rfl rfl (q0 := 0) rfl rfl rfl hl.1 (Nat.le_of_ble_eq_true rfl) dX9_parse_70 ⟨Nat.le_of_ble_eq_true rfl, Nat.le_of_ble_eq_true rfl⟩ (fun u70 H locs hp70 hI => ?_)
              obtain ⟨v70_0, v70_1⟩ := u70
              have hI : jI G zA zs [aI G r4 501 v17_1, aI G r13 9 e5, aI G r8 500 P, oC y0 9 [.int (nI 0), .ref r1, .int (nI n), .int (nI la), .int (nI lm), .int (nI lw), .ref r2, .ref r3, .ref r4, .int (nI 1), .ref r5, .ref r6, .ref r7, .int (nI (i + 1)), .int (nI (wp2 + pri T pp (ppA pp) (ppL pp) (ppD pp) a v70_0 v70_1)), .int (nI (bt2 + bts la v70_0 v70_1)), .ref r8, .int (nI pn), .int (nI q), .int (nI th), .ref r9, .int (nI os), .int (nI wz), .ref r10, .int (nI sz), .int (nI ia), .ref r11, .ref r12, .int tz, .ref r13, .int (nI ft)], aI G r1 500 T, aI G r2 26 pp, aS G r3 251502 v17_0, aI G r5 500 (up e1 i a), aI G r6 500 (up e2 i v70_0), aI G r7 500 (up e3 i v70_1)] H locs := hI
              dsimp only at hp70
              have f70_0 := hp70
              refine lv_iload_n zx zb dX9_parse_73 rfl (lv_at hl 2 rfl) ?_
              refine lv_aload_n zx zb dX9_parse_74 rfl (lv_at hl 0 rfl) ?_
              refine j_get hC hI hin_X9_parse_X9 3 rfl rfl 11 (by decide) hfl_X9_parse_37 rfl rfl dX9_parse_75 ?_
              refine lv_aload_n zx zb dX9_parse_78 rfl (lv_at hl 0 rfl) ?_
              refine j_get hC hI hin_X9_parse_X9 3 rfl rfl 13 (by decide) hfl_X9_parse_93 rfl rfl dX9_parse_79 ?_
              refine lv_iconst (v := nI 1) zx zb dX9_parse_82 (by decide) ?_
              refine j_isub hC (by omega) dX9_parse_83 ?_
              refine j_iald hC hI 8 rfl (by omega) (by omega) dX9_parse_84 ?_
              rw [show up e2 i v70_0 (i + 1 - 1) = v70_0 by rw [Nat.add_sub_cancel, up_s]]
              refine j_iadd hC dX9_parse_85 ?_
              refine lv_istore_n (lv' := [(2, .int (nI (a + v70_0))), (0, .ref y0), (1, .int (nI 2))]) zx zb dX9_parse_86 rfl hl (by decide) rfl (fun ls hl => ?_)
              refine lv_goto (tgt := 38) zx zb dX9_parse_87 (by decide) ?_
              have hok := stepR_ok (by omega) f70_0
              exact ih38 (i + 1) (a + v70_0) (wp2 + pri T pp (ppA pp) (ppL pp) (ppD pp) a v70_0 v70_1) (bt2 + bts la v70_0 v70_1) (up e1 i a) (up e2 i v70_0) (up e3 i v70_1) e5 (by omega) (rn_pos hp) (runR_up hr hp (by omega) f70_0) (rn_old ho) (rn_wp hwp hp rfl) (rn_bt hbt rfl) (by omega) _ _ _ (hI.sub [3, 4, 5, 6, 0, 1, 7, 8, 9, 2] rfl rfl) (lv_sub hl [1, 2, 0] rfl)
          · exact (by omega : False).elim
    exact loop38 _ 0 0 0 16 sp sl sd v17_2 (by omega) rfl (fun i h => by omega) (fun j h => ⟨rfl, rfl, rfl⟩) rfl rfl (Nat.lt_succ_self _) _ _ _ (hI.sub [4, 5, 6, 7, 8, 9, 0, 1, 2, 3] rfl rfl) (lv_sub hl [1, 2, 0] rfl)
  · exact (by omega : False).elim

set_option maxHeartbeats 4000000 in
set_option maxRecDepth 100000 in
theorem c_X9_parse_no (zl : Launch) (G : jG) (y0 : Nat) (r1 : Nat) (r2 : Nat) (r3 : Nat) (r4 : Nat) (r5 : Nat) (r6 : Nat) (r7 : Nat) (r8 : Nat) (r9 : Nat) (r10 : Nat) (r11 : Nat) (r12 : Nat) (r13 : Nat) (n : Nat) (la : Nat) (lm : Nat) (lw : Nat) (kn : Nat) (k : Nat) (wp : Nat) (bt : Nat) (pn : Nat) (q : Nat) (th : Nat) (os : Nat) (wz : Nat) (sz : Nat) (ia : Nat) (ft : Nat) (tz : Int32) (i : Int32) (h0 : i ≠ nI 0) (h1 : i ≠ nI 1) (h2 : i ≠ nI 2) : jMet zl yX9_parse wsX9_parse ({ frames := 0, cells := 0, slots := 0, locals := 0 }) G [oC y0 9 [.int (nI 0), .ref r1, .int (nI n), .int (nI la), .int (nI lm), .int (nI lw), .ref r2, .ref r3, .ref r4, .int (nI kn), .ref r5, .ref r6, .ref r7, .int (nI k), .int (nI wp), .int (nI bt), .ref r8, .int (nI pn), .int (nI q), .int (nI th), .ref r9, .int (nI os), .int (nI wz), .ref r10, .int (nI sz), .int (nI ia), .ref r11, .ref r12, .int tz, .ref r13, .int (nI ft)]] [.ref y0, .int i] (jQi G (fun (r : Int32) (u : Unit) => (r = -1)) (fun (u : Unit) => [oC y0 9 [.int (nI 0), .ref r1, .int (nI n), .int (nI la), .int (nI lm), .int (nI lw), .ref r2, .ref r3, .ref r4, .int (nI kn), .ref r5, .ref r6, .ref r7, .int (nI k), .int (nI wp), .int (nI bt), .ref r8, .int (nI pn), .int (nI q), .int (nI th), .ref r9, .int (nI os), .int (nI wz), .ref r10, .int (nI sz), .int (nI ia), .ref r11, .ref r12, .int tz, .ref r13, .int (nI ft)]])) 0 0 := by
  refine j_enter_i (cc := cX9_parse) (nL := 4) (nm := "parse") (own := RX9) (lv := [(0, .ref y0), (1, .int i)]) (by decide) rfl (Nat.le_of_ble_eq_true rfl) rfl rfl rfl ?_
  intro zA zp ze zs zm zargs zbelow zmeth zc zQ ls hC hQ hI hl
  have zx := hC.1
  have zb := hC.2.1
  refine lv_aload_n zx zb dX9_parse_0 rfl (lv_at hl 0 rfl) ?_
  refine lv_iconst (v := nI 0) zx zb dX9_parse_1 (by decide) ?_
  refine j_put (w1 := [oC y0 9 [.int (nI 0), .ref r1, .int (nI n), .int (nI la), .int (nI lm), .int (nI lw), .ref r2, .ref r3, .ref r4, .int (nI kn), .ref r5, .ref r6, .ref r7, .int (nI k), .int (nI wp), .int (nI bt), .ref r8, .int (nI pn), .int (nI q), .int (nI th), .ref r9, .int (nI os), .int (nI wz), .ref r10, .int (nI sz), .int (nI ia), .ref r11, .ref r12, .int tz, .ref r13, .int (nI ft)]]) hC hI hin_X9_parse_X9 tyX9 tyX9_ok nmX9 0 rfl rfl 0 (by decide) hfl_X9_parse_65 rfl rfl rfl rfl (Nat.le_of_ble_eq_true rfl) dX9_parse_2 rfl (fun H locs hI => ?_)
  refine lv_iload_n zx zb dX9_parse_5 rfl (lv_at hl 1 rfl) ?_
  refine jz_if_lt (tgt := 14) hC dX9_parse_6 (by decide) (fun c6 => ?_) (fun j6 j6a j6e => ?_)
  · refine lv_iconst (v := (-1)) zx zb dX9_parse_14 (by decide) ?_
    exact hQ _ _ _ _ _ () dX9_parse_15 (hI.sub [0] rfl rfl) (by first | rfl | (congr 1; omega) | omega)
  · subst j6e
    refine lv_iload_n zx zb dX9_parse_9 rfl (lv_at hl 1 rfl) ?_
    refine lv_iconst (v := nI 2) zx zb dX9_parse_10 (by decide) ?_
    refine j_icmp_le (tgt := 16) hC dX9_parse_11 (by decide) (by omega) (by omega) (fun c11 => ?_) (fun c11 => ?_)
    · exact (by rcases (show j6 = 0 ∨ j6 = 1 ∨ j6 = 2 by omega) with rfl | rfl | rfl; exact absurd rfl h0; exact absurd rfl h1; exact absurd rfl h2 : False).elim
    · refine lv_iconst (v := (-1)) zx zb dX9_parse_14 (by decide) ?_
      exact hQ _ _ _ _ _ () dX9_parse_15 (hI.sub [0] rfl rfl) (by first | rfl | (congr 1; omega) | omega)

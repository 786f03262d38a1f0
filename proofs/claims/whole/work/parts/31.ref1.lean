set_option maxHeartbeats 4000000 in
set_option maxRecDepth 100000 in
theorem c_X9_classOf (zl : Launch) (G : jG) (n : Nat) (hn : n < 2147483648) : jMet zl yX9_classOf wsX9_classOf ({ frames := 0, cells := 0, slots := 0, locals := 0 }) G [] [.int (nI n)] (jQi G (fun (r : Int32) (u : Unit) => (r = nI n.log2)) (fun (u : Unit) => [])) 0 0 := by
  refine j_enter_i (cc := cX9_classOf) (nL := 3) (nm := "classOf") (own := RX9) (lv := [(0, .int (nI n))]) (by decide) rfl (Nat.le_of_ble_eq_true rfl) rfl rfl rfl ?_
  intro zA zp ze zs zm zargs zbelow zmeth zc zQ ls hC hQ hI hl
  have zx := hC.1
  have zb := hC.2.1
  refine lv_iconst (v := nI 0) zx zb dX9_classOf_0 (by decide) ?_
  refine lv_istore_n (lv' := [(1, .int (nI 0)), (0, .int (nI n))]) zx zb dX9_classOf_1 rfl hl (by decide) rfl (fun ls hl => ?_)
  refine lv_iload_n zx zb dX9_classOf_2 rfl (lv_at hl 1 rfl) ?_
  refine lv_istore_n (lv' := [(2, .int (nI n)), (1, .int (nI 0)), (0, .int (nI n))]) zx zb dX9_classOf_3 rfl hl (by decide) rfl (fun ls hl => ?_)
  have loop4 : ∀ (zn4 : Nat) (c : Nat) (x : Nat), (x ≤ n) → (n.log2 = c + x.log2) → x < zn4 → ∀ (H : Heap) (locs : List Loc) (ls : Array Slot), jI G zA zs [] H locs → lv_has ls 3 [(0, .int (nI n)), (1, .int (nI c)), (2, .int (nI x))] → W zp zl ze ({ frames := 0, cells := 0, slots := 0, locals := 0 }) zs zm zargs zbelow zmeth zc H locs 0 0 zQ (F0 zm 4 ls []) := by
    intro zn4
    induction zn4 with
    | zero => intros; omega
    | succ zn4 ih4 =>
      intro c x hx he zm4 H locs ls hI hl
      refine lv_iload_n zx zb dX9_classOf_4 rfl (lv_at hl 2 rfl) ?_
      refine lv_iconst (v := nI 1) zx zb dX9_classOf_5 (by decide) ?_
      refine j_icmp_le (tgt := 19) hC dX9_classOf_6 (by decide) (by omega) (by omega) (fun c6 => ?_) (fun c6 => ?_)
      · refine lv_iload_n zx zb dX9_classOf_19 rfl (lv_at hl 1 rfl) ?_
        exact hQ _ _ _ _ _ () dX9_classOf_20 (hI.sub [] rfl rfl) (by rw [he, lg_1 (by omega), Nat.add_zero])
      · refine lv_iinc (v := nI (c + 1)) (lv' := [(1, .int (nI (c + 1))), (0, .int (nI n)), (2, .int (nI x))]) zx zb dX9_classOf_9 hl (k := 1) rfl (j_inc _ _ _ (by decide)) (by decide) rfl (fun ls hl => ?_)
        refine lv_iload_n zx zb dX9_classOf_12 rfl (lv_at hl 2 rfl) ?_
        refine lv_iconst (v := nI 2) zx zb dX9_classOf_13 (by decide) ?_
        refine j_idiv hC (by omega) (by omega) (by omega) dX9_classOf_14 ?_
        refine lv_istore_n (lv' := [(2, .int (nI (x / 2))), (1, .int (nI (c + 1))), (0, .int (nI n))]) zx zb dX9_classOf_15 rfl hl (by decide) rfl (fun ls hl => ?_)
        refine lv_goto (tgt := 4) zx zb dX9_classOf_16 (by decide) ?_
        exact ih4 (c + 1) (x / 2) (by omega) (by rw [he, lg_2 (by omega)]; omega) (by omega) _ _ _ hI (lv_sub hl [2, 1, 0] rfl)
  exact loop4 _ 0 n (by omega) (by omega) (Nat.lt_succ_self _) _ _ _ hI (lv_sub hl [2, 1, 0] rfl)

theorem hin_X9_type_X9 : ∀ w ∈ wsX90, w ∈ wsX9_type := by decide +kernel
theorem hfl_X9_type_65 : Cond.fieldLink RX9 65 "CheapParseModel" "thrown" "I" ∈ wsX9_type := by decide +kernel
theorem hfl_X9_type_68 : Cond.fieldLink RX9 68 "CheapParseModel" "length" "I" ∈ wsX9_type := by decide +kernel
theorem hfl_X9_type_73 : Cond.fieldLink RX9 73 "CheapParseModel" "known" "Z" ∈ wsX9_type := by decide +kernel
theorem hfl_X9_type_7 : Cond.fieldLink RX9 7 "CheapParseModel" "text" "[I" ∈ wsX9_type := by decide +kernel
set_option maxHeartbeats 4000000 in
set_option maxRecDepth 100000 in
theorem c_X9_type (zl : Launch) (G : jG) (y0 : Nat) (r1 : Nat) (r2 : Nat) (r3 : Nat) (r4 : Nat) (r5 : Nat) (r6 : Nat) (r7 : Nat) (r8 : Nat) (r9 : Nat) (r10 : Nat) (r11 : Nat) (r12 : Nat) (r13 : Nat) (n : Nat) (la : Nat) (lm : Nat) (lw : Nat) (kn : Nat) (k : Nat) (wp : Nat) (bt : Nat) (pn : Nat) (q : Nat) (th : Nat) (os : Nat) (wz : Nat) (sz : Nat) (ia : Nat) (ft : Nat) (tz : Int32) (T : Nat → Nat) (x : Int64) (i : Int32) (hn : n ≤ 500) : jMet zl yX9_type wsX9_type ({ frames := 0, cells := 0, slots := 0, locals := 0 }) G [oC y0 9 [.int (nI 0), .ref r1, .int (nI n), .int (nI la), .int (nI lm), .int (nI lw), .ref r2, .ref r3, .ref r4, .int (nI kn), .ref r5, .ref r6, .ref r7, .int (nI k), .int (nI wp), .int (nI bt), .ref r8, .int (nI pn), .int (nI q), .int (nI th), .ref r9, .int (nI os), .int (nI wz), .ref r10, .int (nI sz), .int (nI ia), .ref r11, .ref r12, .int tz, .ref r13, .int (nI ft)], aI G r1 500 T] [.ref y0, .long x, .int i] (jQi G (fun (r : Int32) (u : Nat × Nat × (Nat → Nat)) => (ad_low 500 T n x i r u.2.2 u.1) ∧ ((u.2.2 = T ∧ u.1 = n ∧ u.2.1 = kn) ∨ u.2.1 = 0)) (fun (u : Nat × Nat × (Nat → Nat)) => [oC y0 9 [.int (nI 0), .ref r1, .int (nI u.1), .int (nI la), .int (nI lm), .int (nI lw), .ref r2, .ref r3, .ref r4, .int (nI u.2.1), .ref r5, .ref r6, .ref r7, .int (nI k), .int (nI wp), .int (nI bt), .ref r8, .int (nI pn), .int (nI q), .int (nI th), .ref r9, .int (nI os), .int (nI wz), .ref r10, .int (nI sz), .int (nI ia), .ref r11, .ref r12, .int tz, .ref r13, .int (nI ft)], aI G r1 500 u.2.2])) 0 0 := by
  refine j_enter_i (cc := cX9_type) (nL := 5) (nm := "type") (own := RX9) (lv := [(0, .ref y0), (1, .long x), (3, .int i)]) (by decide) rfl (Nat.le_of_ble_eq_true rfl) rfl rfl rfl ?_
  intro zA zp ze zs zm zargs zbelow zmeth zc zQ ls hC hQ hI hl
  have zx := hC.1
  have zb := hC.2.1
  refine lv_aload_n zx zb dX9_type_0 rfl (lv_at hl 0 rfl) ?_
  refine lv_iconst (v := nI 0) zx zb dX9_type_1 (by decide) ?_
  refine j_put (w1 := [oC y0 9 [.int (nI 0), .ref r1, .int (nI n), .int (nI la), .int (nI lm), .int (nI lw), .ref r2, .ref r3, .ref r4, .int (nI kn), .ref r5, .ref r6, .ref r7, .int (nI k), .int (nI wp), .int (nI bt), .ref r8, .int (nI pn), .int (nI q), .int (nI th), .ref r9, .int (nI os), .int (nI wz), .ref r10, .int (nI sz), .int (nI ia), .ref r11, .ref r12, .int tz, .ref r13, .int (nI ft)], aI G r1 500 T]) hC hI hin_X9_type_X9 tyX9 tyX9_ok nmX9 0 rfl rfl 0 (by decide) hfl_X9_type_65 rfl rfl rfl rfl (Nat.le_of_ble_eq_true rfl) dX9_type_2 rfl (fun H locs hI => ?_)
  refine lv_iload_n zx zb dX9_type_5 rfl (lv_at hl 2 rfl) ?_
  refine lv_iconst (v := nI 1) zx zb dX9_type_6 (by decide) ?_
  refine jz_icmp_lt (tgt := 28) hC dX9_type_7 (by decide) (by omega) (fun c7 => ?_) (fun j7 j7a j7b j7e => ?_)
  · refine lv_iconst (v := (-1)) zx zb dX9_type_28 (by decide) ?_
    exact hQ _ _ _ _ _ ⟨n, kn, T⟩ dX9_type_29 (hI.sub [0, 1] rfl rfl) (by (try dsimp only); exact ⟨(Or.inr ⟨ad_no1 c7, rfl, rfl, rfl⟩), (Or.inl ⟨rfl, rfl, rfl⟩)⟩)
  · subst j7e
    refine lv_iload_n zx zb dX9_type_10 rfl (lv_at hl 2 rfl) ?_
    refine lv_bipush (v := nI 8) zx zb dX9_type_11 (by decide) ?_
    refine j_icmp_gt (tgt := 28) hC dX9_type_13 (by decide) (by omega) (by omega) (fun c13 => ?_) (fun c13 => ?_)
    · refine lv_iconst (v := (-1)) zx zb dX9_type_28 (by decide) ?_
      exact hQ _ _ _ _ _ ⟨n, kn, T⟩ dX9_type_29 (hI.sub [0, 1] rfl rfl) (by (try dsimp only); exact ⟨(Or.inr ⟨ad_no2 (by omega), rfl, rfl, rfl⟩), (Or.inl ⟨rfl, rfl, rfl⟩)⟩)
    · refine lv_aload_n zx zb dX9_type_16 rfl (lv_at hl 0 rfl) ?_
      refine j_get hC hI hin_X9_type_X9 0 rfl rfl 2 (by decide) hfl_X9_type_68 rfl rfl dX9_type_17 ?_
      refine lv_iload_n zx zb dX9_type_20 rfl (lv_at hl 2 rfl) ?_
      refine j_iadd hC dX9_type_21 ?_
      refine lv_sipush (v := nI 500) zx zb dX9_type_22 (by decide) ?_
      refine j_icmp_le (tgt := 30) hC dX9_type_25 (by decide) (by omega) (by omega) (fun c25 => ?_) (fun c25 => ?_)
      · refine lv_iload_n zx zb dX9_type_30 rfl (lv_at hl 2 rfl) ?_
        refine lv_iconst (v := nI 1) zx zb dX9_type_31 (by decide) ?_
        refine j_isub1 hC dX9_type_32 ?_
        refine lv_istore (lv' := [(4, .int (mI j7)), (0, .ref y0), (1, .long x), (3, .int (nI j7))]) zx zb dX9_type_33 hl (by decide) rfl (fun ls hl => ?_)
        have loop35 : ∀ (zn35 : Nat) (j : Nat) (m : Nat) (g : Nat → Nat), (m + j = n + j7) → (low x j g m = low x j7 T n) → (j ≤ 8) → (n + j7 ≤ 500) → j < zn35 → ∀ (H : Heap) (locs : List Loc) (ls : Array Slot), jI G zA zs [oC y0 9 [.int (nI 0), .ref r1, .int (nI m), .int (nI la), .int (nI lm), .int (nI lw), .ref r2, .ref r3, .ref r4, .int (nI kn), .ref r5, .ref r6, .ref r7, .int (nI k), .int (nI wp), .int (nI bt), .ref r8, .int (nI pn), .int (nI q), .int (nI th), .ref r9, .int (nI os), .int (nI wz), .ref r10, .int (nI sz), .int (nI ia), .ref r11, .ref r12, .int tz, .ref r13, .int (nI ft)], aI G r1 500 g] H locs → lv_has ls 5 [(0, .ref y0), (1, .long x), (4, .int (mI j))] → W zp zl ze ({ frames := 0, cells := 0, slots := 0, locals := 0 }) zs zm zargs zbelow zmeth zc H locs 0 0 zQ (F0 zm 35 ls []) := by
          intro zn35
          induction zn35 with
          | zero => intros; omega
          | succ zn35 ih35 =>
            intro j m g ej eg ek em zm35 H locs ls hI hl
            refine lv_iload zx zb dX9_type_35 (lv_at hl 2 rfl) ?_
            refine j_ifM_lt (tgt := 77) hC dX9_type_37 (by decide) (by omega) (fun c37 => ?_) (fun c37 => ?_)
            · subst c37
              refine lv_aload_n zx zb dX9_type_77 rfl (lv_at hl 0 rfl) ?_
              refine lv_iconst (v := nI 0) zx zb dX9_type_78 (by decide) ?_
              refine j_put (w1 := [oC y0 9 [.int (nI 0), .ref r1, .int (nI m), .int (nI la), .int (nI lm), .int (nI lw), .ref r2, .ref r3, .ref r4, .int (nI 0), .ref r5, .ref r6, .ref r7, .int (nI k), .int (nI wp), .int (nI bt), .ref r8, .int (nI pn), .int (nI q), .int (nI th), .ref r9, .int (nI os), .int (nI wz), .ref r10, .int (nI sz), .int (nI ia), .ref r11, .ref r12, .int tz, .ref r13, .int (nI ft)], aI G r1 500 g]) hC hI hin_X9_type_X9 tyX9 tyX9_ok nmX9 0 rfl rfl 9 (by decide) hfl_X9_type_73 rfl rfl rfl rfl (Nat.le_of_ble_eq_true rfl) dX9_type_79 rfl (fun H locs hI => ?_)
              refine lv_aload_n zx zb dX9_type_82 rfl (lv_at hl 0 rfl) ?_
              refine j_get hC hI hin_X9_type_X9 0 rfl rfl 2 (by decide) hfl_X9_type_68 rfl rfl dX9_type_83 ?_
              exact hQ _ _ _ _ _ ⟨m, 0, g⟩ dX9_type_86 (hI.sub [0, 1] rfl rfl) (by (try dsimp only); exact ⟨(Or.inl ⟨_, by omega, by omega, by omega, rfl, congrArg nI (by omega), eg, by omega⟩), (Or.inr rfl)⟩)
            · obtain ⟨j37, rfl⟩ : ∃ z, j = z + 1 := ⟨j - 1, by omega⟩
              rw [mI_s] at hl
              refine lv_aload_n zx zb dX9_type_40 rfl (lv_at hl 0 rfl) ?_
              refine j_get hC hI hin_X9_type_X9 0 rfl rfl 1 (by decide) hfl_X9_type_7 rfl rfl dX9_type_41 ?_
              refine lv_aload_n zx zb dX9_type_44 rfl (lv_at hl 0 rfl) ?_
              refine j_get hC hI hin_X9_type_X9 0 rfl rfl 2 (by decide) hfl_X9_type_68 rfl rfl dX9_type_45 ?_
              refine lv_lload_n zx zb dX9_type_48 rfl (lv_at hl 1 rfl) ?_
              refine lv_bipush (v := nI 8) zx zb dX9_type_49 (by decide) ?_
              refine lv_iload zx zb dX9_type_51 (lv_at hl 2 rfl) ?_
              refine j_imul hC dX9_type_53 ?_
              refine lv_lshr zx zb dX9_type_54 rfl ?_
              refine lv_ldc2 (v := 255) zx zb hC.2.2.2.1 (hC.2.2.2.2.1 _ (by decide +kernel)) dX9_type_55 ?_
              refine lv_land zx zb dX9_type_58 ?_
              refine lv_l2i zx zb dX9_type_59 (lb_sshr (by omega)) ?_
              refine j_iast (w1 := [oC y0 9 [.int (nI 0), .ref r1, .int (nI m), .int (nI la), .int (nI lm), .int (nI lw), .ref r2, .ref r3, .ref r4, .int (nI kn), .ref r5, .ref r6, .ref r7, .int (nI k), .int (nI wp), .int (nI bt), .ref r8, .int (nI pn), .int (nI q), .int (nI th), .ref r9, .int (nI os), .int (nI wz), .ref r10, .int (nI sz), .int (nI ia), .ref r11, .ref r12, .int tz, .ref r13, .int (nI ft)], aI G r1 500 (up g m (lb x j37))]) hC hI 1 rfl (by omega) (by omega) dX9_type_60 rfl (fun H locs hI => ?_)
              refine lv_aload_n zx zb dX9_type_61 rfl (lv_at hl 0 rfl) ?_
              refine lv_dup zx zb dX9_type_62 rfl ?_
              refine j_get hC hI hin_X9_type_X9 0 rfl rfl 2 (by decide) hfl_X9_type_68 rfl rfl dX9_type_63 ?_
              refine lv_iconst (v := nI 1) zx zb dX9_type_66 (by decide) ?_
              refine j_iadd hC dX9_type_67 ?_
              refine j_put (w1 := [oC y0 9 [.int (nI 0), .ref r1, .int (nI (m + 1)), .int (nI la), .int (nI lm), .int (nI lw), .ref r2, .ref r3, .ref r4, .int (nI kn), .ref r5, .ref r6, .ref r7, .int (nI k), .int (nI wp), .int (nI bt), .ref r8, .int (nI pn), .int (nI q), .int (nI th), .ref r9, .int (nI os), .int (nI wz), .ref r10, .int (nI sz), .int (nI ia), .ref r11, .ref r12, .int tz, .ref r13, .int (nI ft)], aI G r1 500 (up g m (lb x j37))]) hC hI hin_X9_type_X9 tyX9 tyX9_ok nmX9 0 rfl rfl 2 (by decide) hfl_X9_type_68 rfl rfl rfl rfl (Nat.le_of_ble_eq_true rfl) dX9_type_68 rfl (fun H locs hI => ?_)
              refine lv_iinc (v := mI j37) (lv' := [(4, .int (mI j37)), (0, .ref y0), (1, .long x)]) zx zb dX9_type_71 hl (k := 2) rfl (j_dec _) (by decide) rfl (fun ls hl => ?_)
              refine lv_goto (tgt := 35) zx zb dX9_type_74 (by decide) ?_
              exact ih35 j37 (m + 1) (up g m (lb x j37)) (by omega) (by rw [← eg]; rfl) (by omega) (by omega) (by omega) _ _ _ hI (lv_sub hl [1, 2, 0] rfl)
        exact loop35 _ j7 n T (by omega) rfl (by omega) (by omega) (Nat.lt_succ_self _) _ _ _ hI (lv_sub hl [1, 2, 0] rfl)
      · refine lv_iconst (v := (-1)) zx zb dX9_type_28 (by decide) ?_
        exact hQ _ _ _ _ _ ⟨n, kn, T⟩ dX9_type_29 (hI.sub [0, 1] rfl rfl) (by (try dsimp only); exact ⟨(Or.inr ⟨ad_no2 (by omega), rfl, rfl, rfl⟩), (Or.inl ⟨rfl, rfl, rfl⟩)⟩)

theorem hin_X9_load_X9 : ∀ w ∈ wsX90, w ∈ wsX9_load := by decide +kernel
theorem hfl_X9_load_65 : Cond.fieldLink RX9 65 "CheapParseModel" "thrown" "I" ∈ wsX9_load := by decide +kernel
theorem hfl_X9_load_141 : Cond.fieldLink RX9 141 "CheapParseModel" "inSize" "I" ∈ wsX9_load := by decide +kernel
theorem hfl_X9_load_50 : Cond.fieldLink RX9 50 "CheapParseModel" "in" "[I" ∈ wsX9_load := by decide +kernel
set_option maxHeartbeats 4000000 in
set_option maxRecDepth 100000 in
theorem c_X9_load (zl : Launch) (G : jG) (y0 : Nat) (r1 : Nat) (r2 : Nat) (r3 : Nat) (r4 : Nat) (r5 : Nat) (r6 : Nat) (r7 : Nat) (r8 : Nat) (r9 : Nat) (r10 : Nat) (r11 : Nat) (r12 : Nat) (r13 : Nat) (n : Nat) (la : Nat) (lm : Nat) (lw : Nat) (kn : Nat) (k : Nat) (wp : Nat) (bt : Nat) (pn : Nat) (q : Nat) (th : Nat) (os : Nat) (wz : Nat) (sz : Nat) (ia : Nat) (ft : Nat) (tz : Int32) (L : Nat → Nat) (x : Int64) (i : Int32) (hs : sz ≤ 700) : jMet zl yX9_load wsX9_load ({ frames := 0, cells := 0, slots := 0, locals := 0 }) G [oC y0 9 [.int (nI 0), .ref r1, .int (nI n), .int (nI la), .int (nI lm), .int (nI lw), .ref r2, .ref r3, .ref r4, .int (nI kn), .ref r5, .ref r6, .ref r7, .int (nI k), .int (nI wp), .int (nI bt), .ref r8, .int (nI pn), .int (nI q), .int (nI th), .ref r9, .int (nI os), .int (nI wz), .ref r10, .int (nI sz), .int (nI ia), .ref r11, .ref r12, .int tz, .ref r13, .int (nI ft)], aI G r10 700 L] [.ref y0, .long x, .int i] (jQi G (fun (r : Int32) (u : (Nat → Nat) × Nat) => (ad_low 700 L sz x i r u.1 u.2)) (fun (u : (Nat → Nat) × Nat) => [oC y0 9 [.int (nI 0), .ref r1, .int (nI n), .int (nI la), .int (nI lm), .int (nI lw), .ref r2, .ref r3, .ref r4, .int (nI kn), .ref r5, .ref r6, .ref r7, .int (nI k), .int (nI wp), .int (nI bt), .ref r8, .int (nI pn), .int (nI q), .int (nI th), .ref r9, .int (nI os), .int (nI wz), .ref r10, .int (nI u.2), .int (nI ia), .ref r11, .ref r12, .int tz, .ref r13, .int (nI ft)], aI G r10 700 u.1])) 0 0 := by
  refine j_enter_i (cc := cX9_load) (nL := 5) (nm := "load") (own := RX9) (lv := [(0, .ref y0), (1, .long x), (3, .int i)]) (by decide) rfl (Nat.le_of_ble_eq_true rfl) rfl rfl rfl ?_
  intro zA zp ze zs zm zargs zbelow zmeth zc zQ ls hC hQ hI hl
  have zx := hC.1
  have zb := hC.2.1
  refine lv_aload_n zx zb dX9_load_0 rfl (lv_at hl 0 rfl) ?_
  refine lv_iconst (v := nI 0) zx zb dX9_load_1 (by decide) ?_
  refine j_put (w1 := [oC y0 9 [.int (nI 0), .ref r1, .int (nI n), .int (nI la), .int (nI lm), .int (nI lw), .ref r2, .ref r3, .ref r4, .int (nI kn), .ref r5, .ref r6, .ref r7, .int (nI k), .int (nI wp), .int (nI bt), .ref r8, .int (nI pn), .int (nI q), .int (nI th), .ref r9, .int (nI os), .int (nI wz), .ref r10, .int (nI sz), .int (nI ia), .ref r11, .ref r12, .int tz, .ref r13, .int (nI ft)], aI G r10 700 L]) hC hI hin_X9_load_X9 tyX9 tyX9_ok nmX9 0 rfl rfl 0 (by decide) hfl_X9_load_65 rfl rfl rfl rfl (Nat.le_of_ble_eq_true rfl) dX9_load_2 rfl (fun H locs hI => ?_)
  refine lv_iload_n zx zb dX9_load_5 rfl (lv_at hl 2 rfl) ?_
  refine lv_iconst (v := nI 1) zx zb dX9_load_6 (by decide) ?_
  refine jz_icmp_lt (tgt := 28) hC dX9_load_7 (by decide) (by omega) (fun c7 => ?_) (fun j7 j7a j7b j7e => ?_)
  · refine lv_iconst (v := (-1)) zx zb dX9_load_28 (by decide) ?_
    exact hQ _ _ _ _ _ ⟨L, sz⟩ dX9_load_29 (hI.sub [0, 1] rfl rfl) (by (try dsimp only); exact (Or.inr ⟨ad_no1 c7, rfl, rfl, rfl⟩))
  · subst j7e
    refine lv_iload_n zx zb dX9_load_10 rfl (lv_at hl 2 rfl) ?_
    refine lv_bipush (v := nI 8) zx zb dX9_load_11 (by decide) ?_
    refine j_icmp_gt (tgt := 28) hC dX9_load_13 (by decide) (by omega) (by omega) (fun c13 => ?_) (fun c13 => ?_)
    · refine lv_iconst (v := (-1)) zx zb dX9_load_28 (by decide) ?_
      exact hQ _ _ _ _ _ ⟨L, sz⟩ dX9_load_29 (hI.sub [0, 1] rfl rfl) (by (try dsimp only); exact (Or.inr ⟨ad_no2 (by omega), rfl, rfl, rfl⟩))
    · refine lv_aload_n zx zb dX9_load_16 rfl (lv_at hl 0 rfl) ?_
      refine j_get hC hI hin_X9_load_X9 0 rfl rfl 24 (by decide) hfl_X9_load_141 rfl rfl dX9_load_17 ?_
      refine lv_iload_n zx zb dX9_load_20 rfl (lv_at hl 2 rfl) ?_
      refine j_iadd hC dX9_load_21 ?_
      refine lv_sipush (v := nI 700) zx zb dX9_load_22 (by decide) ?_
      refine j_icmp_le (tgt := 30) hC dX9_load_25 (by decide) (by omega) (by omega) (fun c25 => ?_) (fun c25 => ?_)
      · refine lv_iload_n zx zb dX9_load_30 rfl (lv_at hl 2 rfl) ?_
        refine lv_iconst (v := nI 1) zx zb dX9_load_31 (by decide) ?_
        refine j_isub1 hC dX9_load_32 ?_
        refine lv_istore (lv' := [(4, .int (mI j7)), (0, .ref y0), (1, .long x), (3, .int (nI j7))]) zx zb dX9_load_33 hl (by decide) rfl (fun ls hl => ?_)
        have loop35 : ∀ (zn35 : Nat) (j : Nat) (m : Nat) (g : Nat → Nat), (m + j = sz + j7) → (low x j g m = low x j7 L sz) → (j ≤ 8) → (sz + j7 ≤ 700) → j < zn35 → ∀ (H : Heap) (locs : List Loc) (ls : Array Slot), jI G zA zs [oC y0 9 [.int (nI 0), .ref r1, .int (nI n), .int (nI la), .int (nI lm), .int (nI lw), .ref r2, .ref r3, .ref r4, .int (nI kn), .ref r5, .ref r6, .ref r7, .int (nI k), .int (nI wp), .int (nI bt), .ref r8, .int (nI pn), .int (nI q), .int (nI th), .ref r9, .int (nI os), .int (nI wz), .ref r10, .int (nI m), .int (nI ia), .ref r11, .ref r12, .int tz, .ref r13, .int (nI ft)], aI G r10 700 g] H locs → lv_has ls 5 [(0, .ref y0), (1, .long x), (4, .int (mI j))] → W zp zl ze ({ frames := 0, cells := 0, slots := 0, locals := 0 }) zs zm zargs zbelow zmeth zc H locs 0 0 zQ (F0 zm 35 ls []) := by
          intro zn35
          induction zn35 with
          | zero => intros; omega
          | succ zn35 ih35 =>
            intro j m g ej eg ek em zm35 H locs ls hI hl
            refine lv_iload zx zb dX9_load_35 (lv_at hl 2 rfl) ?_
            refine j_ifM_lt (tgt := 77) hC dX9_load_37 (by decide) (by omega) (fun c37 => ?_) (fun c37 => ?_)
            · subst c37
              refine lv_aload_n zx zb dX9_load_77 rfl (lv_at hl 0 rfl) ?_
              refine j_get hC hI hin_X9_load_X9 0 rfl rfl 24 (by decide) hfl_X9_load_141 rfl rfl dX9_load_78 ?_
              exact hQ _ _ _ _ _ ⟨g, m⟩ dX9_load_81 (hI.sub [0, 1] rfl rfl) (by (try dsimp only); exact (Or.inl ⟨_, by omega, by omega, by omega, rfl, congrArg nI (by omega), eg, by omega⟩))
            · obtain ⟨j37, rfl⟩ : ∃ z, j = z + 1 := ⟨j - 1, by omega⟩
              rw [mI_s] at hl
              refine lv_aload_n zx zb dX9_load_40 rfl (lv_at hl 0 rfl) ?_
              refine j_get hC hI hin_X9_load_X9 0 rfl rfl 23 (by decide) hfl_X9_load_50 rfl rfl dX9_load_41 ?_
              refine lv_aload_n zx zb dX9_load_44 rfl (lv_at hl 0 rfl) ?_
              refine j_get hC hI hin_X9_load_X9 0 rfl rfl 24 (by decide) hfl_X9_load_141 rfl rfl dX9_load_45 ?_
              refine lv_lload_n zx zb dX9_load_48 rfl (lv_at hl 1 rfl) ?_
              refine lv_bipush (v := nI 8) zx zb dX9_load_49 (by decide) ?_
              refine lv_iload zx zb dX9_load_51 (lv_at hl 2 rfl) ?_
              refine j_imul hC dX9_load_53 ?_
              refine lv_lshr zx zb dX9_load_54 rfl ?_
              refine lv_ldc2 (v := 255) zx zb hC.2.2.2.1 (hC.2.2.2.2.1 _ (by decide +kernel)) dX9_load_55 ?_
              refine lv_land zx zb dX9_load_58 ?_
              refine lv_l2i zx zb dX9_load_59 (lb_sshr (by omega)) ?_
              refine j_iast (w1 := [oC y0 9 [.int (nI 0), .ref r1, .int (nI n), .int (nI la), .int (nI lm), .int (nI lw), .ref r2, .ref r3, .ref r4, .int (nI kn), .ref r5, .ref r6, .ref r7, .int (nI k), .int (nI wp), .int (nI bt), .ref r8, .int (nI pn), .int (nI q), .int (nI th), .ref r9, .int (nI os), .int (nI wz), .ref r10, .int (nI m), .int (nI ia), .ref r11, .ref r12, .int tz, .ref r13, .int (nI ft)], aI G r10 700 (up g m (lb x j37))]) hC hI 1 rfl (by omega) (by omega) dX9_load_60 rfl (fun H locs hI => ?_)
              refine lv_aload_n zx zb dX9_load_61 rfl (lv_at hl 0 rfl) ?_
              refine lv_dup zx zb dX9_load_62 rfl ?_
              refine j_get hC hI hin_X9_load_X9 0 rfl rfl 24 (by decide) hfl_X9_load_141 rfl rfl dX9_load_63 ?_
              refine lv_iconst (v := nI 1) zx zb dX9_load_66 (by decide) ?_
              refine j_iadd hC dX9_load_67 ?_
              refine j_put (w1 := [oC y0 9 [.int (nI 0), .ref r1, .int (nI n), .int (nI la), .int (nI lm), .int (nI lw), .ref r2, .ref r3, .ref r4, .int (nI kn), .ref r5, .ref r6, .ref r7, .int (nI k), .int (nI wp), .int (nI bt), .ref r8, .int (nI pn), .int (nI q), .int (nI th), .ref r9, .int (nI os), .int (nI wz), .ref r10, .int (nI (m + 1)), .int (nI ia), .ref r11, .ref r12, .int tz, .ref r13, .int (nI ft)], aI G r10 700 (up g m (lb x j37))]) hC hI hin_X9_load_X9 tyX9 tyX9_ok nmX9 0 rfl rfl 24 (by decide) hfl_X9_load_141 rfl rfl rfl rfl (Nat.le_of_ble_eq_true rfl) dX9_load_68 rfl (fun H locs hI => ?_)
              refine lv_iinc (v := mI j37) (lv' := [(4, .int (mI j37)), (0, .ref y0), (1, .long x)]) zx zb dX9_load_71 hl (k := 2) rfl (j_dec _) (by decide) rfl (fun ls hl => ?_)
              refine lv_goto (tgt := 35) zx zb dX9_load_74 (by decide) ?_
              exact ih35 j37 (m + 1) (up g m (lb x j37)) (by omega) (by rw [← eg]; rfl) (by omega) (by omega) (by omega) _ _ _ hI (lv_sub hl [1, 2, 0] rfl)
        exact loop35 _ j7 sz L (by omega) rfl (by omega) (by omega) (Nat.lt_succ_self _) _ _ _ hI (lv_sub hl [1, 2, 0] rfl)
      · refine lv_iconst (v := (-1)) zx zb dX9_load_28 (by decide) ?_
        exact hQ _ _ _ _ _ ⟨L, sz⟩ dX9_load_29 (hI.sub [0, 1] rfl rfl) (by (try dsimp only); exact (Or.inr ⟨ad_no2 (by omega), rfl, rfl, rfl⟩))

theorem hin_X9_fill_X9 : ∀ w ∈ wsX90, w ∈ wsX9_fill := by decide +kernel
theorem hfl_X9_fill_65 : Cond.fieldLink RX9 65 "CheapParseModel" "thrown" "I" ∈ wsX9_fill := by decide +kernel
theorem hfl_X9_fill_68 : Cond.fieldLink RX9 68 "CheapParseModel" "length" "I" ∈ wsX9_fill := by decide +kernel
theorem hfl_X9_fill_73 : Cond.fieldLink RX9 73 "CheapParseModel" "known" "Z" ∈ wsX9_fill := by decide +kernel
theorem hfl_X9_fill_7 : Cond.fieldLink RX9 7 "CheapParseModel" "text" "[I" ∈ wsX9_fill := by decide +kernel
set_option maxHeartbeats 4000000 in
set_option maxRecDepth 100000 in
theorem c_X9_fill (zl : Launch) (G : jG) (y0 : Nat) (r1 : Nat) (r2 : Nat) (r3 : Nat) (r4 : Nat) (r5 : Nat) (r6 : Nat) (r7 : Nat) (r8 : Nat) (r9 : Nat) (r10 : Nat) (r11 : Nat) (r12 : Nat) (r13 : Nat) (n : Nat) (la : Nat) (lm : Nat) (lw : Nat) (kn : Nat) (k : Nat) (wp : Nat) (bt : Nat) (pn : Nat) (q : Nat) (th : Nat) (os : Nat) (wz : Nat) (sz : Nat) (ia : Nat) (ft : Nat) (tz : Int32) (T : Nat → Nat) (v : Int32) (i : Int32) (hn : n ≤ 500) : jMet zl yX9_fill wsX9_fill ({ frames := 0, cells := 0, slots := 0, locals := 0 }) G [oC y0 9 [.int (nI 0), .ref r1, .int (nI n), .int (nI la), .int (nI lm), .int (nI lw), .ref r2, .ref r3, .ref r4, .int (nI kn), .ref r5, .ref r6, .ref r7, .int (nI k), .int (nI wp), .int (nI bt), .ref r8, .int (nI pn), .int (nI q), .int (nI th), .ref r9, .int (nI os), .int (nI wz), .ref r10, .int (nI sz), .int (nI ia), .ref r11, .ref r12, .int tz, .ref r13, .int (nI ft)], aI G r1 500 T] [.ref y0, .int v, .int i] (jQi G (fun (r : Int32) (u : Nat × Nat × (Nat → Nat)) => (ad_rep 500 T n v i r u.2.2 u.1) ∧ ((u.2.2 = T ∧ u.1 = n ∧ u.2.1 = kn) ∨ u.2.1 = 0)) (fun (u : Nat × Nat × (Nat → Nat)) => [oC y0 9 [.int (nI 0), .ref r1, .int (nI u.1), .int (nI la), .int (nI lm), .int (nI lw), .ref r2, .ref r3, .ref r4, .int (nI u.2.1), .ref r5, .ref r6, .ref r7, .int (nI k), .int (nI wp), .int (nI bt), .ref r8, .int (nI pn), .int (nI q), .int (nI th), .ref r9, .int (nI os), .int (nI wz), .ref r10, .int (nI sz), .int (nI ia), .ref r11, .ref r12, .int tz, .ref r13, .int (nI ft)], aI G r1 500 u.2.2])) 0 0 := by
  refine j_enter_i (cc := cX9_fill) (nL := 4) (nm := "fill") (own := RX9) (lv := [(0, .ref y0), (1, .int v), (2, .int i)]) (by decide) rfl (Nat.le_of_ble_eq_true rfl) rfl rfl rfl ?_
  intro zA zp ze zs zm zargs zbelow zmeth zc zQ ls hC hQ hI hl
  have zx := hC.1
  have zb := hC.2.1
  refine lv_aload_n zx zb dX9_fill_0 rfl (lv_at hl 0 rfl) ?_
  refine lv_iconst (v := nI 0) zx zb dX9_fill_1 (by decide) ?_
  refine j_put (w1 := [oC y0 9 [.int (nI 0), .ref r1, .int (nI n), .int (nI la), .int (nI lm), .int (nI lw), .ref r2, .ref r3, .ref r4, .int (nI kn), .ref r5, .ref r6, .ref r7, .int (nI k), .int (nI wp), .int (nI bt), .ref r8, .int (nI pn), .int (nI q), .int (nI th), .ref r9, .int (nI os), .int (nI wz), .ref r10, .int (nI sz), .int (nI ia), .ref r11, .ref r12, .int tz, .ref r13, .int (nI ft)], aI G r1 500 T]) hC hI hin_X9_fill_X9 tyX9 tyX9_ok nmX9 0 rfl rfl 0 (by decide) hfl_X9_fill_65 rfl rfl rfl rfl (Nat.le_of_ble_eq_true rfl) dX9_fill_2 rfl (fun H locs hI => ?_)
  refine lv_iload_n zx zb dX9_fill_5 rfl (lv_at hl 2 rfl) ?_
  refine lv_iconst (v := nI 1) zx zb dX9_fill_6 (by decide) ?_
  refine jz_icmp_lt (tgt := 29) hC dX9_fill_7 (by decide) (by omega) (fun c7 => ?_) (fun j7 j7a j7b j7e => ?_)
  · refine lv_iconst (v := (-1)) zx zb dX9_fill_29 (by decide) ?_
    exact hQ _ _ _ _ _ ⟨n, kn, T⟩ dX9_fill_30 (hI.sub [0, 1] rfl rfl) (by (try dsimp only); exact ⟨(Or.inr ⟨ad_no3 c7 (by decide), rfl, rfl, rfl⟩), (Or.inl ⟨rfl, rfl, rfl⟩)⟩)
  · subst j7e
    refine lv_iload_n zx zb dX9_fill_10 rfl (lv_at hl 2 rfl) ?_
    refine lv_sipush (v := nI 500) zx zb dX9_fill_11 (by decide) ?_
    refine j_icmp_gt (tgt := 29) hC dX9_fill_14 (by decide) (by omega) (by omega) (fun c14 => ?_) (fun c14 => ?_)
    · refine lv_iconst (v := (-1)) zx zb dX9_fill_29 (by decide) ?_
      exact hQ _ _ _ _ _ ⟨n, kn, T⟩ dX9_fill_30 (hI.sub [0, 1] rfl rfl) (by (try dsimp only); exact ⟨(Or.inr ⟨ad_no4 (by decide) (by omega), rfl, rfl, rfl⟩), (Or.inl ⟨rfl, rfl, rfl⟩)⟩)
    · refine lv_aload_n zx zb dX9_fill_17 rfl (lv_at hl 0 rfl) ?_
      refine j_get hC hI hin_X9_fill_X9 0 rfl rfl 2 (by decide) hfl_X9_fill_68 rfl rfl dX9_fill_18 ?_
      refine lv_iload_n zx zb dX9_fill_21 rfl (lv_at hl 2 rfl) ?_
      refine j_iadd hC dX9_fill_22 ?_
      refine lv_sipush (v := nI 500) zx zb dX9_fill_23 (by decide) ?_
      refine j_icmp_le (tgt := 31) hC dX9_fill_26 (by decide) (by omega) (by omega) (fun c26 => ?_) (fun c26 => ?_)
      · refine lv_iconst (v := nI 0) zx zb dX9_fill_31 (by decide) ?_
        refine lv_istore_n (lv' := [(3, .int (nI 0)), (0, .ref y0), (1, .int v), (2, .int (nI j7))]) zx zb dX9_fill_32 rfl hl (by decide) rfl (fun ls hl => ?_)
        have loop33 : ∀ (zn33 : Nat) (j : Nat) (m : Nat) (g : Nat → Nat), (m = n + j) → (rep (by8 v) (j7 - j) g m = rep (by8 v) j7 T n) → (j ≤ j7) → (n + j7 ≤ 500) → (j7 - j) < zn33 → ∀ (H : Heap) (locs : List Loc) (ls : Array Slot), jI G zA zs [oC y0 9 [.int (nI 0), .ref r1, .int (nI m), .int (nI la), .int (nI lm), .int (nI lw), .ref r2, .ref r3, .ref r4, .int (nI kn), .ref r5, .ref r6, .ref r7, .int (nI k), .int (nI wp), .int (nI bt), .ref r8, .int (nI pn), .int (nI q), .int (nI th), .ref r9, .int (nI os), .int (nI wz), .ref r10, .int (nI sz), .int (nI ia), .ref r11, .ref r12, .int tz, .ref r13, .int (nI ft)], aI G r1 500 g] H locs → lv_has ls 4 [(0, .ref y0), (1, .int v), (2, .int (nI j7)), (3, .int (nI j))] → W zp zl ze ({ frames := 0, cells := 0, slots := 0, locals := 0 }) zs zm zargs zbelow zmeth zc H locs 0 0 zQ (F0 zm 33 ls []) := by
          intro zn33
          induction zn33 with
          | zero => intros; omega
          | succ zn33 ih33 =>
            intro j m g ej eg ek em zm33 H locs ls hI hl
            refine lv_iload_n zx zb dX9_fill_33 rfl (lv_at hl 3 rfl) ?_
            refine lv_iload_n zx zb dX9_fill_34 rfl (lv_at hl 2 rfl) ?_
            refine j_icmp_ge (tgt := 68) hC dX9_fill_35 (by decide) (by omega) (by omega) (fun c35 => ?_) (fun c35 => ?_)
            · refine lv_aload_n zx zb dX9_fill_68 rfl (lv_at hl 0 rfl) ?_
              refine lv_iconst (v := nI 0) zx zb dX9_fill_69 (by decide) ?_
              refine j_put (w1 := [oC y0 9 [.int (nI 0), .ref r1, .int (nI m), .int (nI la), .int (nI lm), .int (nI lw), .ref r2, .ref r3, .ref r4, .int (nI 0), .ref r5, .ref r6, .ref r7, .int (nI k), .int (nI wp), .int (nI bt), .ref r8, .int (nI pn), .int (nI q), .int (nI th), .ref r9, .int (nI os), .int (nI wz), .ref r10, .int (nI sz), .int (nI ia), .ref r11, .ref r12, .int tz, .ref r13, .int (nI ft)], aI G r1 500 g]) hC hI hin_X9_fill_X9 tyX9 tyX9_ok nmX9 0 rfl rfl 9 (by decide) hfl_X9_fill_73 rfl rfl rfl rfl (Nat.le_of_ble_eq_true rfl) dX9_fill_70 rfl (fun H locs hI => ?_)
              refine lv_aload_n zx zb dX9_fill_73 rfl (lv_at hl 0 rfl) ?_
              refine j_get hC hI hin_X9_fill_X9 0 rfl rfl 2 (by decide) hfl_X9_fill_68 rfl rfl dX9_fill_74 ?_
              exact hQ _ _ _ _ _ ⟨m, 0, g⟩ dX9_fill_77 (hI.sub [0, 1] rfl rfl) (by (try dsimp only); exact ⟨(Or.inl ⟨_, by omega, by omega, rfl, congrArg nI (by omega), by rw [← eg, show j7 - j = 0 by omega]; rfl, by omega⟩), (Or.inr rfl)⟩)
            · refine lv_aload_n zx zb dX9_fill_38 rfl (lv_at hl 0 rfl) ?_
              refine j_get hC hI hin_X9_fill_X9 0 rfl rfl 1 (by decide) hfl_X9_fill_7 rfl rfl dX9_fill_39 ?_
              refine lv_aload_n zx zb dX9_fill_42 rfl (lv_at hl 0 rfl) ?_
              refine j_get hC hI hin_X9_fill_X9 0 rfl rfl 2 (by decide) hfl_X9_fill_68 rfl rfl dX9_fill_43 ?_
              refine lv_iload_n zx zb dX9_fill_46 rfl (lv_at hl 1 rfl) ?_
              refine lv_sipush (v := nI 255) zx zb dX9_fill_47 (by decide) ?_
              refine j_and255 hC dX9_fill_50 ?_
              refine j_iast (w1 := [oC y0 9 [.int (nI 0), .ref r1, .int (nI m), .int (nI la), .int (nI lm), .int (nI lw), .ref r2, .ref r3, .ref r4, .int (nI kn), .ref r5, .ref r6, .ref r7, .int (nI k), .int (nI wp), .int (nI bt), .ref r8, .int (nI pn), .int (nI q), .int (nI th), .ref r9, .int (nI os), .int (nI wz), .ref r10, .int (nI sz), .int (nI ia), .ref r11, .ref r12, .int tz, .ref r13, .int (nI ft)], aI G r1 500 (up g m (by8 v))]) hC hI 1 rfl (by omega) (by omega) dX9_fill_51 rfl (fun H locs hI => ?_)
              refine lv_aload_n zx zb dX9_fill_52 rfl (lv_at hl 0 rfl) ?_
              refine lv_dup zx zb dX9_fill_53 rfl ?_
              refine j_get hC hI hin_X9_fill_X9 0 rfl rfl 2 (by decide) hfl_X9_fill_68 rfl rfl dX9_fill_54 ?_
              refine lv_iconst (v := nI 1) zx zb dX9_fill_57 (by decide) ?_
              refine j_iadd hC dX9_fill_58 ?_
              refine j_put (w1 := [oC y0 9 [.int (nI 0), .ref r1, .int (nI (m + 1)), .int (nI la), .int (nI lm), .int (nI lw), .ref r2, .ref r3, .ref r4, .int (nI kn), .ref r5, .ref r6, .ref r7, .int (nI k), .int (nI wp), .int (nI bt), .ref r8, .int (nI pn), .int (nI q), .int (nI th), .ref r9, .int (nI os), .int (nI wz), .ref r10, .int (nI sz), .int (nI ia), .ref r11, .ref r12, .int tz, .ref r13, .int (nI ft)], aI G r1 500 (up g m (by8 v))]) hC hI hin_X9_fill_X9 tyX9 tyX9_ok nmX9 0 rfl rfl 2 (by decide) hfl_X9_fill_68 rfl rfl rfl rfl (Nat.le_of_ble_eq_true rfl) dX9_fill_59 rfl (fun H locs hI => ?_)
              refine lv_iinc (v := nI (j + 1)) (lv' := [(3, .int (nI (j + 1))), (0, .ref y0), (1, .int v), (2, .int (nI j7))]) zx zb dX9_fill_62 hl (k := 3) rfl (j_inc _ _ _ (by decide)) (by decide) rfl (fun ls hl => ?_)
              refine lv_goto (tgt := 33) zx zb dX9_fill_65 (by decide) ?_
              exact ih33 (j + 1) (m + 1) (up g m (by8 v)) (by omega) (by rw [← eg, show j7 - j = (j7 - (j + 1)) + 1 by omega]; rfl) (by omega) (by omega) (by omega) _ _ _ hI (lv_sub hl [1, 2, 3, 0] rfl)
        exact loop33 _ 0 n T (by omega) rfl (by omega) (by omega) (Nat.lt_succ_self _) _ _ _ hI (lv_sub hl [1, 2, 3, 0] rfl)
      · refine lv_iconst (v := (-1)) zx zb dX9_fill_29 (by decide) ?_
        exact hQ _ _ _ _ _ ⟨n, kn, T⟩ dX9_fill_30 (hI.sub [0, 1] rfl rfl) (by (try dsimp only); exact ⟨(Or.inr ⟨ad_no4 (by decide) (by omega), rfl, rfl, rfl⟩), (Or.inl ⟨rfl, rfl, rfl⟩)⟩)

theorem hin_X9_clear_X9 : ∀ w ∈ wsX90, w ∈ wsX9_clear := by decide +kernel
theorem hfl_X9_clear_65 : Cond.fieldLink RX9 65 "CheapParseModel" "thrown" "I" ∈ wsX9_clear := by decide +kernel
theorem hfl_X9_clear_68 : Cond.fieldLink RX9 68 "CheapParseModel" "length" "I" ∈ wsX9_clear := by decide +kernel
theorem hfl_X9_clear_73 : Cond.fieldLink RX9 73 "CheapParseModel" "known" "Z" ∈ wsX9_clear := by decide +kernel
set_option maxHeartbeats 4000000 in
set_option maxRecDepth 100000 in
theorem c_X9_clear (zl : Launch) (G : jG) (y0 : Nat) (r1 : Nat) (r2 : Nat) (r3 : Nat) (r4 : Nat) (r5 : Nat) (r6 : Nat) (r7 : Nat) (r8 : Nat) (r9 : Nat) (r10 : Nat) (r11 : Nat) (r12 : Nat) (r13 : Nat) (n : Nat) (la : Nat) (lm : Nat) (lw : Nat) (kn : Nat) (k : Nat) (wp : Nat) (bt : Nat) (pn : Nat) (q : Nat) (th : Nat) (os : Nat) (wz : Nat) (sz : Nat) (ia : Nat) (ft : Nat) (tz : Int32)  : jMet zl yX9_clear wsX9_clear ({ frames := 0, cells := 0, slots := 0, locals := 0 }) G [oC y0 9 [.int (nI 0), .ref r1, .int (nI n), .int (nI la), .int (nI lm), .int (nI lw), .ref r2, .ref r3, .ref r4, .int (nI kn), .ref r5, .ref r6, .ref r7, .int (nI k), .int (nI wp), .int (nI bt), .ref r8, .int (nI pn), .int (nI q), .int (nI th), .ref r9, .int (nI os), .int (nI wz), .ref r10, .int (nI sz), .int (nI ia), .ref r11, .ref r12, .int tz, .ref r13, .int (nI ft)]] [.ref y0] (jQi G (fun (r : Int32) (u : Unit) => (r = nI n)) (fun (u : Unit) => [oC y0 9 [.int (nI 0), .ref r1, .int (nI 0), .int (nI la), .int (nI lm), .int (nI lw), .ref r2, .ref r3, .ref r4, .int (nI 0), .ref r5, .ref r6, .ref r7, .int (nI k), .int (nI wp), .int (nI bt), .ref r8, .int (nI pn), .int (nI q), .int (nI th), .ref r9, .int (nI os), .int (nI wz), .ref r10, .int (nI sz), .int (nI ia), .ref r11, .ref r12, .int tz, .ref r13, .int (nI ft)]])) 0 0 := by
  refine j_enter_i (cc := cX9_clear) (nL := 2) (nm := "clear") (own := RX9) (lv := [(0, .ref y0)]) (by decide) rfl (Nat.le_of_ble_eq_true rfl) rfl rfl rfl ?_
  intro zA zp ze zs zm zargs zbelow zmeth zc zQ ls hC hQ hI hl
  have zx := hC.1
  have zb := hC.2.1
  refine lv_aload_n zx zb dX9_clear_0 rfl (lv_at hl 0 rfl) ?_
  refine lv_iconst (v := nI 0) zx zb dX9_clear_1 (by decide) ?_
  refine j_put (w1 := [oC y0 9 [.int (nI 0), .ref r1, .int (nI n), .int (nI la), .int (nI lm), .int (nI lw), .ref r2, .ref r3, .ref r4, .int (nI kn), .ref r5, .ref r6, .ref r7, .int (nI k), .int (nI wp), .int (nI bt), .ref r8, .int (nI pn), .int (nI q), .int (nI th), .ref r9, .int (nI os), .int (nI wz), .ref r10, .int (nI sz), .int (nI ia), .ref r11, .ref r12, .int tz, .ref r13, .int (nI ft)]]) hC hI hin_X9_clear_X9 tyX9 tyX9_ok nmX9 0 rfl rfl 0 (by decide) hfl_X9_clear_65 rfl rfl rfl rfl (Nat.le_of_ble_eq_true rfl) dX9_clear_2 rfl (fun H locs hI => ?_)
  refine lv_aload_n zx zb dX9_clear_5 rfl (lv_at hl 0 rfl) ?_
  refine j_get hC hI hin_X9_clear_X9 0 rfl rfl 2 (by decide) hfl_X9_clear_68 rfl rfl dX9_clear_6 ?_
  refine lv_istore_n (lv' := [(1, .int (nI n)), (0, .ref y0)]) zx zb dX9_clear_9 rfl hl (by decide) rfl (fun ls hl => ?_)
  refine lv_aload_n zx zb dX9_clear_10 rfl (lv_at hl 1 rfl) ?_
  refine lv_iconst (v := nI 0) zx zb dX9_clear_11 (by decide) ?_
  refine j_put (w1 := [oC y0 9 [.int (nI 0), .ref r1, .int (nI 0), .int (nI la), .int (nI lm), .int (nI lw), .ref r2, .ref r3, .ref r4, .int (nI kn), .ref r5, .ref r6, .ref r7, .int (nI k), .int (nI wp), .int (nI bt), .ref r8, .int (nI pn), .int (nI q), .int (nI th), .ref r9, .int (nI os), .int (nI wz), .ref r10, .int (nI sz), .int (nI ia), .ref r11, .ref r12, .int tz, .ref r13, .int (nI ft)]]) hC hI hin_X9_clear_X9 tyX9 tyX9_ok nmX9 0 rfl rfl 2 (by decide) hfl_X9_clear_68 rfl rfl rfl rfl (Nat.le_of_ble_eq_true rfl) dX9_clear_12 rfl (fun H locs hI => ?_)
  refine lv_aload_n zx zb dX9_clear_15 rfl (lv_at hl 1 rfl) ?_
  refine lv_iconst (v := nI 0) zx zb dX9_clear_16 (by decide) ?_
  refine j_put (w1 := [oC y0 9 [.int (nI 0), .ref r1, .int (nI 0), .int (nI la), .int (nI lm), .int (nI lw), .ref r2, .ref r3, .ref r4, .int (nI 0), .ref r5, .ref r6, .ref r7, .int (nI k), .int (nI wp), .int (nI bt), .ref r8, .int (nI pn), .int (nI q), .int (nI th), .ref r9, .int (nI os), .int (nI wz), .ref r10, .int (nI sz), .int (nI ia), .ref r11, .ref r12, .int tz, .ref r13, .int (nI ft)]]) hC hI hin_X9_clear_X9 tyX9 tyX9_ok nmX9 0 rfl rfl 9 (by decide) hfl_X9_clear_73 rfl rfl rfl rfl (Nat.le_of_ble_eq_true rfl) dX9_clear_17 rfl (fun H locs hI => ?_)
  refine lv_iload_n zx zb dX9_clear_20 rfl (lv_at hl 0 rfl) ?_
  exact hQ _ _ _ _ _ () dX9_clear_21 (hI.sub [0] rfl rfl) (by first | rfl | (congr 1; omega) | omega)

theorem hin_X9_limits_X9 : ∀ w ∈ wsX90, w ∈ wsX9_limits := by decide +kernel
theorem hfl_X9_limits_65 : Cond.fieldLink RX9 65 "CheapParseModel" "thrown" "I" ∈ wsX9_limits := by decide +kernel
theorem hfl_X9_limits_13 : Cond.fieldLink RX9 13 "CheapParseModel" "least" "I" ∈ wsX9_limits := by decide +kernel
theorem hfl_X9_limits_17 : Cond.fieldLink RX9 17 "CheapParseModel" "most" "I" ∈ wsX9_limits := by decide +kernel
theorem hfl_X9_limits_20 : Cond.fieldLink RX9 20 "CheapParseModel" "window" "I" ∈ wsX9_limits := by decide +kernel
theorem hfl_X9_limits_73 : Cond.fieldLink RX9 73 "CheapParseModel" "known" "Z" ∈ wsX9_limits := by decide +kernel
set_option maxHeartbeats 4000000 in
set_option maxRecDepth 100000 in
theorem c_X9_limits (zl : Launch) (G : jG) (y0 : Nat) (r1 : Nat) (r2 : Nat) (r3 : Nat) (r4 : Nat) (r5 : Nat) (r6 : Nat) (r7 : Nat) (r8 : Nat) (r9 : Nat) (r10 : Nat) (r11 : Nat) (r12 : Nat) (r13 : Nat) (n : Nat) (la : Nat) (lm : Nat) (lw : Nat) (kn : Nat) (k : Nat) (wp : Nat) (bt : Nat) (pn : Nat) (q : Nat) (th : Nat) (os : Nat) (wz : Nat) (sz : Nat) (ia : Nat) (ft : Nat) (tz : Int32) (a : Int32) (m : Int32) (d : Int32)  : jMet zl yX9_limits wsX9_limits ({ frames := 0, cells := 0, slots := 0, locals := 0 }) G [oC y0 9 [.int (nI 0), .ref r1, .int (nI n), .int (nI la), .int (nI lm), .int (nI lw), .ref r2, .ref r3, .ref r4, .int (nI kn), .ref r5, .ref r6, .ref r7, .int (nI k), .int (nI wp), .int (nI bt), .ref r8, .int (nI pn), .int (nI q), .int (nI th), .ref r9, .int (nI os), .int (nI wz), .ref r10, .int (nI sz), .int (nI ia), .ref r11, .ref r12, .int tz, .ref r13, .int (nI ft)]] [.ref y0, .int a, .int m, .int d] (jQi G (fun (r : Int32) (u : Nat × Nat × Nat × Nat) => (lim_rel la lm lw a m d r u.1 u.2.1 u.2.2.1) ∧ ((u.1 = la ∧ u.2.1 = lm ∧ u.2.2.1 = lw ∧ u.2.2.2 = kn) ∨ u.2.2.2 = 0)) (fun (u : Nat × Nat × Nat × Nat) => [oC y0 9 [.int (nI 0), .ref r1, .int (nI n), .int (nI u.1), .int (nI u.2.1), .int (nI u.2.2.1), .ref r2, .ref r3, .ref r4, .int (nI u.2.2.2), .ref r5, .ref r6, .ref r7, .int (nI k), .int (nI wp), .int (nI bt), .ref r8, .int (nI pn), .int (nI q), .int (nI th), .ref r9, .int (nI os), .int (nI wz), .ref r10, .int (nI sz), .int (nI ia), .ref r11, .ref r12, .int tz, .ref r13, .int (nI ft)]])) 0 0 := by
  refine j_enter_i (cc := cX9_limits) (nL := 4) (nm := "limits") (own := RX9) (lv := [(0, .ref y0), (1, .int a), (2, .int m), (3, .int d)]) (by decide) rfl (Nat.le_of_ble_eq_true rfl) rfl rfl rfl ?_
  intro zA zp ze zs zm zargs zbelow zmeth zc zQ ls hC hQ hI hl
  have zx := hC.1
  have zb := hC.2.1
  refine lv_aload_n zx zb dX9_limits_0 rfl (lv_at hl 0 rfl) ?_
  refine lv_iconst (v := nI 0) zx zb dX9_limits_1 (by decide) ?_
  refine j_put (w1 := [oC y0 9 [.int (nI 0), .ref r1, .int (nI n), .int (nI la), .int (nI lm), .int (nI lw), .ref r2, .ref r3, .ref r4, .int (nI kn), .ref r5, .ref r6, .ref r7, .int (nI k), .int (nI wp), .int (nI bt), .ref r8, .int (nI pn), .int (nI q), .int (nI th), .ref r9, .int (nI os), .int (nI wz), .ref r10, .int (nI sz), .int (nI ia), .ref r11, .ref r12, .int tz, .ref r13, .int (nI ft)]]) hC hI hin_X9_limits_X9 tyX9 tyX9_ok nmX9 0 rfl rfl 0 (by decide) hfl_X9_limits_65 rfl rfl rfl rfl (Nat.le_of_ble_eq_true rfl) dX9_limits_2 rfl (fun H locs hI => ?_)
  refine lv_iload_n zx zb dX9_limits_5 rfl (lv_at hl 1 rfl) ?_
  refine lv_iconst (v := nI 2) zx zb dX9_limits_6 (by decide) ?_
  refine jz_icmp_lt (tgt := 40) hC dX9_limits_7 (by decide) (by omega) (fun c7 => ?_) (fun j7 j7a j7b j7e => ?_)
  · refine lv_iconst (v := nI 0) zx zb dX9_limits_40 (by decide) ?_
    exact hQ _ _ _ _ _ ⟨la, lm, lw, kn⟩ dX9_limits_41 (hI.sub [0] rfl rfl) (by (try dsimp only); exact ⟨(Or.inr ⟨lm_no1 c7, rfl, rfl, rfl, rfl⟩), (Or.inl ⟨rfl, rfl, rfl, rfl⟩)⟩)
  · subst j7e
    refine lv_iload_n zx zb dX9_limits_10 rfl (lv_at hl 1 rfl) ?_
    refine lv_bipush (v := nI 16) zx zb dX9_limits_11 (by decide) ?_
    refine j_icmp_gt (tgt := 40) hC dX9_limits_13 (by decide) (by omega) (by omega) (fun c13 => ?_) (fun c13 => ?_)
    · refine lv_iconst (v := nI 0) zx zb dX9_limits_40 (by decide) ?_
      exact hQ _ _ _ _ _ ⟨la, lm, lw, kn⟩ dX9_limits_41 (hI.sub [0] rfl rfl) (by (try dsimp only); exact ⟨(Or.inr ⟨lm_no2 (by omega), rfl, rfl, rfl, rfl⟩), (Or.inl ⟨rfl, rfl, rfl, rfl⟩)⟩)
    · refine lv_iload_n zx zb dX9_limits_16 rfl (lv_at hl 2 rfl) ?_
      refine lv_iload_n zx zb dX9_limits_17 rfl (lv_at hl 1 rfl) ?_
      refine jz_icmp_lt (tgt := 40) hC dX9_limits_18 (by decide) (by omega) (fun c18 => ?_) (fun j18 j18a j18b j18e => ?_)
      · refine lv_iconst (v := nI 0) zx zb dX9_limits_40 (by decide) ?_
        exact hQ _ _ _ _ _ ⟨la, lm, lw, kn⟩ dX9_limits_41 (hI.sub [0] rfl rfl) (by (try dsimp only); exact ⟨(Or.inr ⟨lm_no3 c18 (by omega), rfl, rfl, rfl, rfl⟩), (Or.inl ⟨rfl, rfl, rfl, rfl⟩)⟩)
      · subst j18e
        refine lv_iload_n zx zb dX9_limits_21 rfl (lv_at hl 2 rfl) ?_
        refine lv_sipush (v := nI 255) zx zb dX9_limits_22 (by decide) ?_
        refine j_icmp_gt (tgt := 40) hC dX9_limits_25 (by decide) (by omega) (by omega) (fun c25 => ?_) (fun c25 => ?_)
        · refine lv_iconst (v := nI 0) zx zb dX9_limits_40 (by decide) ?_
          exact hQ _ _ _ _ _ ⟨la, lm, lw, kn⟩ dX9_limits_41 (hI.sub [0] rfl rfl) (by (try dsimp only); exact ⟨(Or.inr ⟨lm_no4 (by omega), rfl, rfl, rfl, rfl⟩), (Or.inl ⟨rfl, rfl, rfl, rfl⟩)⟩)
        · refine lv_iload_n zx zb dX9_limits_28 rfl (lv_at hl 3 rfl) ?_
          refine lv_iconst (v := nI 1) zx zb dX9_limits_29 (by decide) ?_
          refine jz_icmp_lt (tgt := 40) hC dX9_limits_30 (by decide) (by omega) (fun c30 => ?_) (fun j30 j30a j30b j30e => ?_)
          · refine lv_iconst (v := nI 0) zx zb dX9_limits_40 (by decide) ?_
            exact hQ _ _ _ _ _ ⟨la, lm, lw, kn⟩ dX9_limits_41 (hI.sub [0] rfl rfl) (by (try dsimp only); exact ⟨(Or.inr ⟨lm_no5 c30, rfl, rfl, rfl, rfl⟩), (Or.inl ⟨rfl, rfl, rfl, rfl⟩)⟩)
          · subst j30e
            refine lv_iload_n zx zb dX9_limits_33 rfl (lv_at hl 3 rfl) ?_
            refine lv_sipush (v := nI 500) zx zb dX9_limits_34 (by decide) ?_
            refine j_icmp_le (tgt := 42) hC dX9_limits_37 (by decide) (by omega) (by omega) (fun c37 => ?_) (fun c37 => ?_)
            · refine lv_aload_n zx zb dX9_limits_42 rfl (lv_at hl 0 rfl) ?_
              refine lv_iload_n zx zb dX9_limits_43 rfl (lv_at hl 1 rfl) ?_
              refine j_put (w1 := [oC y0 9 [.int (nI 0), .ref r1, .int (nI n), .int (nI j7), .int (nI lm), .int (nI lw), .ref r2, .ref r3, .ref r4, .int (nI kn), .ref r5, .ref r6, .ref r7, .int (nI k), .int (nI wp), .int (nI bt), .ref r8, .int (nI pn), .int (nI q), .int (nI th), .ref r9, .int (nI os), .int (nI wz), .ref r10, .int (nI sz), .int (nI ia), .ref r11, .ref r12, .int tz, .ref r13, .int (nI ft)]]) hC hI hin_X9_limits_X9 tyX9 tyX9_ok nmX9 0 rfl rfl 3 (by decide) hfl_X9_limits_13 rfl rfl rfl rfl (Nat.le_of_ble_eq_true rfl) dX9_limits_44 rfl (fun H locs hI => ?_)
              refine lv_aload_n zx zb dX9_limits_47 rfl (lv_at hl 0 rfl) ?_
              refine lv_iload_n zx zb dX9_limits_48 rfl (lv_at hl 2 rfl) ?_
              refine j_put (w1 := [oC y0 9 [.int (nI 0), .ref r1, .int (nI n), .int (nI j7), .int (nI j18), .int (nI lw), .ref r2, .ref r3, .ref r4, .int (nI kn), .ref r5, .ref r6, .ref r7, .int (nI k), .int (nI wp), .int (nI bt), .ref r8, .int (nI pn), .int (nI q), .int (nI th), .ref r9, .int (nI os), .int (nI wz), .ref r10, .int (nI sz), .int (nI ia), .ref r11, .ref r12, .int tz, .ref r13, .int (nI ft)]]) hC hI hin_X9_limits_X9 tyX9 tyX9_ok nmX9 0 rfl rfl 4 (by decide) hfl_X9_limits_17 rfl rfl rfl rfl (Nat.le_of_ble_eq_true rfl) dX9_limits_49 rfl (fun H locs hI => ?_)
              refine lv_aload_n zx zb dX9_limits_52 rfl (lv_at hl 0 rfl) ?_
              refine lv_iload_n zx zb dX9_limits_53 rfl (lv_at hl 3 rfl) ?_
              refine j_put (w1 := [oC y0 9 [.int (nI 0), .ref r1, .int (nI n), .int (nI j7), .int (nI j18), .int (nI j30), .ref r2, .ref r3, .ref r4, .int (nI kn), .ref r5, .ref r6, .ref r7, .int (nI k), .int (nI wp), .int (nI bt), .ref r8, .int (nI pn), .int (nI q), .int (nI th), .ref r9, .int (nI os), .int (nI wz), .ref r10, .int (nI sz), .int (nI ia), .ref r11, .ref r12, .int tz, .ref r13, .int (nI ft)]]) hC hI hin_X9_limits_X9 tyX9 tyX9_ok nmX9 0 rfl rfl 5 (by decide) hfl_X9_limits_20 rfl rfl rfl rfl (Nat.le_of_ble_eq_true rfl) dX9_limits_54 rfl (fun H locs hI => ?_)
              refine lv_aload_n zx zb dX9_limits_57 rfl (lv_at hl 0 rfl) ?_
              refine lv_iconst (v := nI 0) zx zb dX9_limits_58 (by decide) ?_
              refine j_put (w1 := [oC y0 9 [.int (nI 0), .ref r1, .int (nI n), .int (nI j7), .int (nI j18), .int (nI j30), .ref r2, .ref r3, .ref r4, .int (nI 0), .ref r5, .ref r6, .ref r7, .int (nI k), .int (nI wp), .int (nI bt), .ref r8, .int (nI pn), .int (nI q), .int (nI th), .ref r9, .int (nI os), .int (nI wz), .ref r10, .int (nI sz), .int (nI ia), .ref r11, .ref r12, .int tz, .ref r13, .int (nI ft)]]) hC hI hin_X9_limits_X9 tyX9 tyX9_ok nmX9 0 rfl rfl 9 (by decide) hfl_X9_limits_73 rfl rfl rfl rfl (Nat.le_of_ble_eq_true rfl) dX9_limits_59 rfl (fun H locs hI => ?_)
              refine lv_iconst (v := nI 1) zx zb dX9_limits_62 (by decide) ?_
              exact hQ _ _ _ _ _ ⟨j7, j18, j30, 0⟩ dX9_limits_63 (hI.sub [0] rfl rfl) (by (try dsimp only); exact ⟨(Or.inl ⟨by omega, by omega, by omega, by omega, by omega, by omega, rfl, rfl, rfl, rfl⟩), (Or.inr rfl)⟩)
            · refine lv_iconst (v := nI 0) zx zb dX9_limits_40 (by decide) ?_
              exact hQ _ _ _ _ _ ⟨la, lm, lw, kn⟩ dX9_limits_41 (hI.sub [0] rfl rfl) (by (try dsimp only); exact ⟨(Or.inr ⟨lm_no6 (by omega), rfl, rfl, rfl, rfl⟩), (Or.inl ⟨rfl, rfl, rfl, rfl⟩)⟩)

theorem hin_X9_price_X9 : ∀ w ∈ wsX90, w ∈ wsX9_price := by decide +kernel
theorem hfl_X9_price_65 : Cond.fieldLink RX9 65 "CheapParseModel" "thrown" "I" ∈ wsX9_price := by decide +kernel
theorem hfl_X9_price_23 : Cond.fieldLink RX9 23 "CheapParseModel" "prices" "[I" ∈ wsX9_price := by decide +kernel
theorem hfl_X9_price_73 : Cond.fieldLink RX9 73 "CheapParseModel" "known" "Z" ∈ wsX9_price := by decide +kernel
set_option maxHeartbeats 4000000 in
set_option maxRecDepth 100000 in
theorem c_X9_price (zl : Launch) (G : jG) (y0 : Nat) (r1 : Nat) (r2 : Nat) (r3 : Nat) (r4 : Nat) (r5 : Nat) (r6 : Nat) (r7 : Nat) (r8 : Nat) (r9 : Nat) (r10 : Nat) (r11 : Nat) (r12 : Nat) (r13 : Nat) (n : Nat) (la : Nat) (lm : Nat) (lw : Nat) (kn : Nat) (k : Nat) (wp : Nat) (bt : Nat) (pn : Nat) (q : Nat) (th : Nat) (os : Nat) (wz : Nat) (sz : Nat) (ia : Nat) (ft : Nat) (tz : Int32) (pp : Nat → Nat) (a : Int32) (i : Int32) (v : Int32)  : jMet zl yX9_price wsX9_price ({ frames := 0, cells := 0, slots := 0, locals := 0 }) G [oC y0 9 [.int (nI 0), .ref r1, .int (nI n), .int (nI la), .int (nI lm), .int (nI lw), .ref r2, .ref r3, .ref r4, .int (nI kn), .ref r5, .ref r6, .ref r7, .int (nI k), .int (nI wp), .int (nI bt), .ref r8, .int (nI pn), .int (nI q), .int (nI th), .ref r9, .int (nI os), .int (nI wz), .ref r10, .int (nI sz), .int (nI ia), .ref r11, .ref r12, .int tz, .ref r13, .int (nI ft)], aI G r2 26 pp] [.ref y0, .int a, .int i, .int v] (jQi G (fun (r : Int32) (u : Nat × (Nat → Nat)) => (pr_rel2 pp a i v r u.2) ∧ ((u.2 = pp ∧ u.1 = kn) ∨ u.1 = 0)) (fun (u : Nat × (Nat → Nat)) => [oC y0 9 [.int (nI 0), .ref r1, .int (nI n), .int (nI la), .int (nI lm), .int (nI lw), .ref r2, .ref r3, .ref r4, .int (nI u.1), .ref r5, .ref r6, .ref r7, .int (nI k), .int (nI wp), .int (nI bt), .ref r8, .int (nI pn), .int (nI q), .int (nI th), .ref r9, .int (nI os), .int (nI wz), .ref r10, .int (nI sz), .int (nI ia), .ref r11, .ref r12, .int tz, .ref r13, .int (nI ft)], aI G r2 26 u.2])) 0 0 := by
  refine j_enter_i (cc := cX9_price) (nL := 5) (nm := "price") (own := RX9) (lv := [(0, .ref y0), (1, .int a), (2, .int i), (3, .int v)]) (by decide) rfl (Nat.le_of_ble_eq_true rfl) rfl rfl rfl ?_
  intro zA zp ze zs zm zargs zbelow zmeth zc zQ ls hC hQ hI hl
  have zx := hC.1
  have zb := hC.2.1
  refine lv_aload_n zx zb dX9_price_0 rfl (lv_at hl 0 rfl) ?_
  refine lv_iconst (v := nI 0) zx zb dX9_price_1 (by decide) ?_
  refine j_put (w1 := [oC y0 9 [.int (nI 0), .ref r1, .int (nI n), .int (nI la), .int (nI lm), .int (nI lw), .ref r2, .ref r3, .ref r4, .int (nI kn), .ref r5, .ref r6, .ref r7, .int (nI k), .int (nI wp), .int (nI bt), .ref r8, .int (nI pn), .int (nI q), .int (nI th), .ref r9, .int (nI os), .int (nI wz), .ref r10, .int (nI sz), .int (nI ia), .ref r11, .ref r12, .int tz, .ref r13, .int (nI ft)], aI G r2 26 pp]) hC hI hin_X9_price_X9 tyX9 tyX9_ok nmX9 0 rfl rfl 0 (by decide) hfl_X9_price_65 rfl rfl rfl rfl (Nat.le_of_ble_eq_true rfl) dX9_price_2 rfl (fun H locs hI => ?_)
  rcases pr_sw a with rfl | rfl | rfl | rfl | hsw
  · refine lv_iload_n zx zb dX9_price_5 rfl (lv_at hl 1 rfl) ?_
    refine j_if_eq (tgt := 14) hC dX9_price_6 (by decide) (by omega) (fun c6 => ?_) (fun c6 => ?_)
    · refine lv_bipush (v := nI 8) zx zb dX9_price_14 (by decide) ?_
      refine lv_goto (tgt := 39) zx zb dX9_price_16 (by decide) ?_
      refine lv_istore (lv' := [(4, .int (nI 8)), (0, .ref y0), (1, .int (nI 0)), (2, .int i), (3, .int v)]) zx zb dX9_price_39 hl (by decide) rfl (fun ls hl => ?_)
      refine lv_iload_n zx zb dX9_price_41 rfl (lv_at hl 3 rfl) ?_
      refine jz_if_lt (tgt := 63) hC dX9_price_42 (by decide) (fun c42 => ?_) (fun j42 j42a j42e => ?_)
      · refine lv_iconst (v := nI 0) zx zb dX9_price_63 (by decide) ?_
        exact hQ _ _ _ _ _ ⟨kn, pp⟩ dX9_price_64 (hI.sub [0, 1] rfl rfl) (by (try dsimp only); exact ⟨(Or.inr ⟨pr_no1 c42, rfl, rfl⟩), (Or.inl ⟨rfl, rfl⟩)⟩)
      · subst j42e
        refine lv_iload_n zx zb dX9_price_45 rfl (lv_at hl 3 rfl) ?_
        refine lv_iload zx zb dX9_price_46 (lv_at hl 0 rfl) ?_
        refine j_icmp_ge (tgt := 63) hC dX9_price_48 (by decide) (by omega) (by omega) (fun c48 => ?_) (fun c48 => ?_)
        · refine lv_iconst (v := nI 0) zx zb dX9_price_63 (by decide) ?_
          exact hQ _ _ _ _ _ ⟨kn, pp⟩ dX9_price_64 (hI.sub [0, 1] rfl rfl) (by (try dsimp only); exact ⟨(Or.inr ⟨pr_no02 (by omega), rfl, rfl⟩), (Or.inl ⟨rfl, rfl⟩)⟩)
        · refine lv_iload_n zx zb dX9_price_51 rfl (lv_at hl 4 rfl) ?_
          refine lv_iconst (v := nI 1) zx zb dX9_price_52 (by decide) ?_
          refine jz_icmp_lt (tgt := 63) hC dX9_price_53 (by decide) (by omega) (fun c53 => ?_) (fun j53 j53a j53b j53e => ?_)
          · refine lv_iconst (v := nI 0) zx zb dX9_price_63 (by decide) ?_
            exact hQ _ _ _ _ _ ⟨kn, pp⟩ dX9_price_64 (hI.sub [0, 1] rfl rfl) (by (try dsimp only); exact ⟨(Or.inr ⟨pr_no3 c53, rfl, rfl⟩), (Or.inl ⟨rfl, rfl⟩)⟩)
          · subst j53e
            refine lv_iload_n zx zb dX9_price_56 rfl (lv_at hl 4 rfl) ?_
            refine lv_sipush (v := nI 1000) zx zb dX9_price_57 (by decide) ?_
            refine j_icmp_le (tgt := 65) hC dX9_price_60 (by decide) (by omega) (by omega) (fun c60 => ?_) (fun c60 => ?_)
            · refine lv_aload_n zx zb dX9_price_65 rfl (lv_at hl 1 rfl) ?_
              refine j_get hC hI hin_X9_price_X9 0 rfl rfl 6 (by decide) hfl_X9_price_23 rfl rfl dX9_price_66 ?_
              refine lv_iload_n zx zb dX9_price_69 rfl (lv_at hl 2 rfl) ?_
              refine j_if_ne (tgt := 77) hC dX9_price_70 (by decide) (by omega) (fun c70 => ?_) (fun c70 => ?_)
              · exact (by omega : False).elim
              · refine lv_iconst (v := nI 0) zx zb dX9_price_73 (by decide) ?_
                refine lv_goto (tgt := 99) zx zb dX9_price_74 (by decide) ?_
                refine lv_iload_n zx zb dX9_price_99 rfl (lv_at hl 3 rfl) ?_
                refine j_iadd hC dX9_price_100 ?_
                refine lv_iload_n zx zb dX9_price_101 rfl (lv_at hl 4 rfl) ?_
                refine j_iast (w1 := [oC y0 9 [.int (nI 0), .ref r1, .int (nI n), .int (nI la), .int (nI lm), .int (nI lw), .ref r2, .ref r3, .ref r4, .int (nI kn), .ref r5, .ref r6, .ref r7, .int (nI k), .int (nI wp), .int (nI bt), .ref r8, .int (nI pn), .int (nI q), .int (nI th), .ref r9, .int (nI os), .int (nI wz), .ref r10, .int (nI sz), .int (nI ia), .ref r11, .ref r12, .int tz, .ref r13, .int (nI ft)], aI G r2 26 (up pp (0 + j42) j53)]) hC hI 1 rfl (by omega) (by omega) dX9_price_102 rfl (fun H locs hI => ?_)
                refine lv_aload_n zx zb dX9_price_103 rfl (lv_at hl 1 rfl) ?_
                refine lv_iconst (v := nI 0) zx zb dX9_price_104 (by decide) ?_
                refine j_put (w1 := [oC y0 9 [.int (nI 0), .ref r1, .int (nI n), .int (nI la), .int (nI lm), .int (nI lw), .ref r2, .ref r3, .ref r4, .int (nI 0), .ref r5, .ref r6, .ref r7, .int (nI k), .int (nI wp), .int (nI bt), .ref r8, .int (nI pn), .int (nI q), .int (nI th), .ref r9, .int (nI os), .int (nI wz), .ref r10, .int (nI sz), .int (nI ia), .ref r11, .ref r12, .int tz, .ref r13, .int (nI ft)], aI G r2 26 (up pp (0 + j42) j53)]) hC hI hin_X9_price_X9 tyX9 tyX9_ok nmX9 0 rfl rfl 9 (by decide) hfl_X9_price_73 rfl rfl rfl rfl (Nat.le_of_ble_eq_true rfl) dX9_price_105 rfl (fun H locs hI => ?_)
                refine lv_iconst (v := nI 1) zx zb dX9_price_108 (by decide) ?_
                exact hQ _ _ _ _ _ ⟨0, up pp (0 + j42) j53⟩ dX9_price_109 (hI.sub [0, 1] rfl rfl) (by (try dsimp only); exact ⟨(Or.inl ⟨0, j42, j53, by omega, by omega, rfl, rfl, rfl, rfl, by omega, rfl⟩), (Or.inr rfl)⟩)
            · refine lv_iconst (v := nI 0) zx zb dX9_price_63 (by decide) ?_
              exact hQ _ _ _ _ _ ⟨kn, pp⟩ dX9_price_64 (hI.sub [0, 1] rfl rfl) (by (try dsimp only); exact ⟨(Or.inr ⟨pr_no5 (by omega), rfl, rfl⟩), (Or.inl ⟨rfl, rfl⟩)⟩)
    · exact (by omega : False).elim
  · refine lv_iload_n zx zb dX9_price_5 rfl (lv_at hl 1 rfl) ?_
    refine j_if_eq (tgt := 14) hC dX9_price_6 (by decide) (by omega) (fun c6 => ?_) (fun c6 => ?_)
    · exact (by omega : False).elim
    · refine lv_iload_n zx zb dX9_price_9 rfl (lv_at hl 1 rfl) ?_
      refine lv_iconst (v := nI 2) zx zb dX9_price_10 (by decide) ?_
      refine j_icmp_ne (tgt := 19) hC dX9_price_11 (by decide) (by omega) (by omega) (fun c11 => ?_) (fun c11 => ?_)
      · refine lv_iload_n zx zb dX9_price_19 rfl (lv_at hl 1 rfl) ?_
        refine lv_iconst (v := nI 1) zx zb dX9_price_20 (by decide) ?_
        refine j_icmp_ne (tgt := 28) hC dX9_price_21 (by decide) (by omega) (by omega) (fun c21 => ?_) (fun c21 => ?_)
        · exact (by omega : False).elim
        · refine lv_iconst (v := nI 1) zx zb dX9_price_24 (by decide) ?_
          refine lv_goto (tgt := 39) zx zb dX9_price_25 (by decide) ?_
          refine lv_istore (lv' := [(4, .int (nI 1)), (0, .ref y0), (1, .int (nI 1)), (2, .int i), (3, .int v)]) zx zb dX9_price_39 hl (by decide) rfl (fun ls hl => ?_)
          refine lv_iload_n zx zb dX9_price_41 rfl (lv_at hl 3 rfl) ?_
          refine jz_if_lt (tgt := 63) hC dX9_price_42 (by decide) (fun c42 => ?_) (fun j42 j42a j42e => ?_)
          · refine lv_iconst (v := nI 0) zx zb dX9_price_63 (by decide) ?_
            exact hQ _ _ _ _ _ ⟨kn, pp⟩ dX9_price_64 (hI.sub [0, 1] rfl rfl) (by (try dsimp only); exact ⟨(Or.inr ⟨pr_no1 c42, rfl, rfl⟩), (Or.inl ⟨rfl, rfl⟩)⟩)
          · subst j42e
            refine lv_iload_n zx zb dX9_price_45 rfl (lv_at hl 3 rfl) ?_
            refine lv_iload zx zb dX9_price_46 (lv_at hl 0 rfl) ?_
            refine j_icmp_ge (tgt := 63) hC dX9_price_48 (by decide) (by omega) (by omega) (fun c48 => ?_) (fun c48 => ?_)
            · refine lv_iconst (v := nI 0) zx zb dX9_price_63 (by decide) ?_
              exact hQ _ _ _ _ _ ⟨kn, pp⟩ dX9_price_64 (hI.sub [0, 1] rfl rfl) (by (try dsimp only); exact ⟨(Or.inr ⟨pr_no12 (by omega), rfl, rfl⟩), (Or.inl ⟨rfl, rfl⟩)⟩)
            · refine lv_iload_n zx zb dX9_price_51 rfl (lv_at hl 4 rfl) ?_
              refine lv_iconst (v := nI 1) zx zb dX9_price_52 (by decide) ?_
              refine jz_icmp_lt (tgt := 63) hC dX9_price_53 (by decide) (by omega) (fun c53 => ?_) (fun j53 j53a j53b j53e => ?_)
              · refine lv_iconst (v := nI 0) zx zb dX9_price_63 (by decide) ?_
                exact hQ _ _ _ _ _ ⟨kn, pp⟩ dX9_price_64 (hI.sub [0, 1] rfl rfl) (by (try dsimp only); exact ⟨(Or.inr ⟨pr_no3 c53, rfl, rfl⟩), (Or.inl ⟨rfl, rfl⟩)⟩)
              · subst j53e
                refine lv_iload_n zx zb dX9_price_56 rfl (lv_at hl 4 rfl) ?_
                refine lv_sipush (v := nI 1000) zx zb dX9_price_57 (by decide) ?_
                refine j_icmp_le (tgt := 65) hC dX9_price_60 (by decide) (by omega) (by omega) (fun c60 => ?_) (fun c60 => ?_)
                · refine lv_aload_n zx zb dX9_price_65 rfl (lv_at hl 1 rfl) ?_
                  refine j_get hC hI hin_X9_price_X9 0 rfl rfl 6 (by decide) hfl_X9_price_23 rfl rfl dX9_price_66 ?_
                  refine lv_iload_n zx zb dX9_price_69 rfl (lv_at hl 2 rfl) ?_
                  refine j_if_ne (tgt := 77) hC dX9_price_70 (by decide) (by omega) (fun c70 => ?_) (fun c70 => ?_)
                  · refine lv_iload_n zx zb dX9_price_77 rfl (lv_at hl 2 rfl) ?_
                    refine lv_iconst (v := nI 1) zx zb dX9_price_78 (by decide) ?_
                    refine j_icmp_ne (tgt := 87) hC dX9_price_79 (by decide) (by omega) (by omega) (fun c79 => ?_) (fun c79 => ?_)
                    · exact (by omega : False).elim
                    · refine lv_bipush (v := nI 8) zx zb dX9_price_82 (by decide) ?_
                      refine lv_goto (tgt := 99) zx zb dX9_price_84 (by decide) ?_
                      refine lv_iload_n zx zb dX9_price_99 rfl (lv_at hl 3 rfl) ?_
                      refine j_iadd hC dX9_price_100 ?_
                      refine lv_iload_n zx zb dX9_price_101 rfl (lv_at hl 4 rfl) ?_
                      refine j_iast (w1 := [oC y0 9 [.int (nI 0), .ref r1, .int (nI n), .int (nI la), .int (nI lm), .int (nI lw), .ref r2, .ref r3, .ref r4, .int (nI kn), .ref r5, .ref r6, .ref r7, .int (nI k), .int (nI wp), .int (nI bt), .ref r8, .int (nI pn), .int (nI q), .int (nI th), .ref r9, .int (nI os), .int (nI wz), .ref r10, .int (nI sz), .int (nI ia), .ref r11, .ref r12, .int tz, .ref r13, .int (nI ft)], aI G r2 26 (up pp (8 + j42) j53)]) hC hI 1 rfl (by omega) (by omega) dX9_price_102 rfl (fun H locs hI => ?_)
                      refine lv_aload_n zx zb dX9_price_103 rfl (lv_at hl 1 rfl) ?_
                      refine lv_iconst (v := nI 0) zx zb dX9_price_104 (by decide) ?_
                      refine j_put (w1 := [oC y0 9 [.int (nI 0), .ref r1, .int (nI n), .int (nI la), .int (nI lm), .int (nI lw), .ref r2, .ref r3, .ref r4, .int (nI 0), .ref r5, .ref r6, .ref r7, .int (nI k), .int (nI wp), .int (nI bt), .ref r8, .int (nI pn), .int (nI q), .int (nI th), .ref r9, .int (nI os), .int (nI wz), .ref r10, .int (nI sz), .int (nI ia), .ref r11, .ref r12, .int tz, .ref r13, .int (nI ft)], aI G r2 26 (up pp (8 + j42) j53)]) hC hI hin_X9_price_X9 tyX9 tyX9_ok nmX9 0 rfl rfl 9 (by decide) hfl_X9_price_73 rfl rfl rfl rfl (Nat.le_of_ble_eq_true rfl) dX9_price_105 rfl (fun H locs hI => ?_)
                      refine lv_iconst (v := nI 1) zx zb dX9_price_108 (by decide) ?_
                      exact hQ _ _ _ _ _ ⟨0, up pp (8 + j42) j53⟩ dX9_price_109 (hI.sub [0, 1] rfl rfl) (by (try dsimp only); exact ⟨(Or.inl ⟨1, j42, j53, by omega, by omega, rfl, rfl, rfl, rfl, by omega, rfl⟩), (Or.inr rfl)⟩)
                  · exact (by omega : False).elim
                · refine lv_iconst (v := nI 0) zx zb dX9_price_63 (by decide) ?_
                  exact hQ _ _ _ _ _ ⟨kn, pp⟩ dX9_price_64 (hI.sub [0, 1] rfl rfl) (by (try dsimp only); exact ⟨(Or.inr ⟨pr_no5 (by omega), rfl, rfl⟩), (Or.inl ⟨rfl, rfl⟩)⟩)
      · exact (by omega : False).elim
  · refine lv_iload_n zx zb dX9_price_5 rfl (lv_at hl 1 rfl) ?_
    refine j_if_eq (tgt := 14) hC dX9_price_6 (by decide) (by omega) (fun c6 => ?_) (fun c6 => ?_)
    · exact (by omega : False).elim
    · refine lv_iload_n zx zb dX9_price_9 rfl (lv_at hl 1 rfl) ?_
      refine lv_iconst (v := nI 2) zx zb dX9_price_10 (by decide) ?_
      refine j_icmp_ne (tgt := 19) hC dX9_price_11 (by decide) (by omega) (by omega) (fun c11 => ?_) (fun c11 => ?_)
      · exact (by omega : False).elim
      · refine lv_bipush (v := nI 8) zx zb dX9_price_14 (by decide) ?_
        refine lv_goto (tgt := 39) zx zb dX9_price_16 (by decide) ?_
        refine lv_istore (lv' := [(4, .int (nI 8)), (0, .ref y0), (1, .int (nI 2)), (2, .int i), (3, .int v)]) zx zb dX9_price_39 hl (by decide) rfl (fun ls hl => ?_)
        refine lv_iload_n zx zb dX9_price_41 rfl (lv_at hl 3 rfl) ?_
        refine jz_if_lt (tgt := 63) hC dX9_price_42 (by decide) (fun c42 => ?_) (fun j42 j42a j42e => ?_)
        · refine lv_iconst (v := nI 0) zx zb dX9_price_63 (by decide) ?_
          exact hQ _ _ _ _ _ ⟨kn, pp⟩ dX9_price_64 (hI.sub [0, 1] rfl rfl) (by (try dsimp only); exact ⟨(Or.inr ⟨pr_no1 c42, rfl, rfl⟩), (Or.inl ⟨rfl, rfl⟩)⟩)
        · subst j42e
          refine lv_iload_n zx zb dX9_price_45 rfl (lv_at hl 3 rfl) ?_
          refine lv_iload zx zb dX9_price_46 (lv_at hl 0 rfl) ?_
          refine j_icmp_ge (tgt := 63) hC dX9_price_48 (by decide) (by omega) (by omega) (fun c48 => ?_) (fun c48 => ?_)
          · refine lv_iconst (v := nI 0) zx zb dX9_price_63 (by decide) ?_
            exact hQ _ _ _ _ _ ⟨kn, pp⟩ dX9_price_64 (hI.sub [0, 1] rfl rfl) (by (try dsimp only); exact ⟨(Or.inr ⟨pr_no22 (by omega), rfl, rfl⟩), (Or.inl ⟨rfl, rfl⟩)⟩)
          · refine lv_iload_n zx zb dX9_price_51 rfl (lv_at hl 4 rfl) ?_
            refine lv_iconst (v := nI 1) zx zb dX9_price_52 (by decide) ?_
            refine jz_icmp_lt (tgt := 63) hC dX9_price_53 (by decide) (by omega) (fun c53 => ?_) (fun j53 j53a j53b j53e => ?_)
            · refine lv_iconst (v := nI 0) zx zb dX9_price_63 (by decide) ?_
              exact hQ _ _ _ _ _ ⟨kn, pp⟩ dX9_price_64 (hI.sub [0, 1] rfl rfl) (by (try dsimp only); exact ⟨(Or.inr ⟨pr_no3 c53, rfl, rfl⟩), (Or.inl ⟨rfl, rfl⟩)⟩)
            · subst j53e
              refine lv_iload_n zx zb dX9_price_56 rfl (lv_at hl 4 rfl) ?_
              refine lv_sipush (v := nI 1000) zx zb dX9_price_57 (by decide) ?_
              refine j_icmp_le (tgt := 65) hC dX9_price_60 (by decide) (by omega) (by omega) (fun c60 => ?_) (fun c60 => ?_)
              · refine lv_aload_n zx zb dX9_price_65 rfl (lv_at hl 1 rfl) ?_
                refine j_get hC hI hin_X9_price_X9 0 rfl rfl 6 (by decide) hfl_X9_price_23 rfl rfl dX9_price_66 ?_
                refine lv_iload_n zx zb dX9_price_69 rfl (lv_at hl 2 rfl) ?_
                refine j_if_ne (tgt := 77) hC dX9_price_70 (by decide) (by omega) (fun c70 => ?_) (fun c70 => ?_)
                · refine lv_iload_n zx zb dX9_price_77 rfl (lv_at hl 2 rfl) ?_
                  refine lv_iconst (v := nI 1) zx zb dX9_price_78 (by decide) ?_
                  refine j_icmp_ne (tgt := 87) hC dX9_price_79 (by decide) (by omega) (by omega) (fun c79 => ?_) (fun c79 => ?_)
                  · refine lv_iload_n zx zb dX9_price_87 rfl (lv_at hl 2 rfl) ?_
                    refine lv_iconst (v := nI 2) zx zb dX9_price_88 (by decide) ?_
                    refine j_icmp_ne (tgt := 97) hC dX9_price_89 (by decide) (by omega) (by omega) (fun c89 => ?_) (fun c89 => ?_)
                    · exact (by omega : False).elim
                    · refine lv_bipush (v := nI 9) zx zb dX9_price_92 (by decide) ?_
                      refine lv_goto (tgt := 99) zx zb dX9_price_94 (by decide) ?_
                      refine lv_iload_n zx zb dX9_price_99 rfl (lv_at hl 3 rfl) ?_
                      refine j_iadd hC dX9_price_100 ?_
                      refine lv_iload_n zx zb dX9_price_101 rfl (lv_at hl 4 rfl) ?_
                      refine j_iast (w1 := [oC y0 9 [.int (nI 0), .ref r1, .int (nI n), .int (nI la), .int (nI lm), .int (nI lw), .ref r2, .ref r3, .ref r4, .int (nI kn), .ref r5, .ref r6, .ref r7, .int (nI k), .int (nI wp), .int (nI bt), .ref r8, .int (nI pn), .int (nI q), .int (nI th), .ref r9, .int (nI os), .int (nI wz), .ref r10, .int (nI sz), .int (nI ia), .ref r11, .ref r12, .int tz, .ref r13, .int (nI ft)], aI G r2 26 (up pp (9 + j42) j53)]) hC hI 1 rfl (by omega) (by omega) dX9_price_102 rfl (fun H locs hI => ?_)
                      refine lv_aload_n zx zb dX9_price_103 rfl (lv_at hl 1 rfl) ?_
                      refine lv_iconst (v := nI 0) zx zb dX9_price_104 (by decide) ?_
                      refine j_put (w1 := [oC y0 9 [.int (nI 0), .ref r1, .int (nI n), .int (nI la), .int (nI lm), .int (nI lw), .ref r2, .ref r3, .ref r4, .int (nI 0), .ref r5, .ref r6, .ref r7, .int (nI k), .int (nI wp), .int (nI bt), .ref r8, .int (nI pn), .int (nI q), .int (nI th), .ref r9, .int (nI os), .int (nI wz), .ref r10, .int (nI sz), .int (nI ia), .ref r11, .ref r12, .int tz, .ref r13, .int (nI ft)], aI G r2 26 (up pp (9 + j42) j53)]) hC hI hin_X9_price_X9 tyX9 tyX9_ok nmX9 0 rfl rfl 9 (by decide) hfl_X9_price_73 rfl rfl rfl rfl (Nat.le_of_ble_eq_true rfl) dX9_price_105 rfl (fun H locs hI => ?_)
                      refine lv_iconst (v := nI 1) zx zb dX9_price_108 (by decide) ?_
                      exact hQ _ _ _ _ _ ⟨0, up pp (9 + j42) j53⟩ dX9_price_109 (hI.sub [0, 1] rfl rfl) (by (try dsimp only); exact ⟨(Or.inl ⟨2, j42, j53, by omega, by omega, rfl, rfl, rfl, rfl, by omega, rfl⟩), (Or.inr rfl)⟩)
                  · exact (by omega : False).elim
                · exact (by omega : False).elim
              · refine lv_iconst (v := nI 0) zx zb dX9_price_63 (by decide) ?_
                exact hQ _ _ _ _ _ ⟨kn, pp⟩ dX9_price_64 (hI.sub [0, 1] rfl rfl) (by (try dsimp only); exact ⟨(Or.inr ⟨pr_no5 (by omega), rfl, rfl⟩), (Or.inl ⟨rfl, rfl⟩)⟩)
  · refine lv_iload_n zx zb dX9_price_5 rfl (lv_at hl 1 rfl) ?_
    refine j_if_eq (tgt := 14) hC dX9_price_6 (by decide) (by omega) (fun c6 => ?_) (fun c6 => ?_)
    · exact (by omega : False).elim
    · refine lv_iload_n zx zb dX9_price_9 rfl (lv_at hl 1 rfl) ?_
      refine lv_iconst (v := nI 2) zx zb dX9_price_10 (by decide) ?_
      refine j_icmp_ne (tgt := 19) hC dX9_price_11 (by decide) (by omega) (by omega) (fun c11 => ?_) (fun c11 => ?_)
      · refine lv_iload_n zx zb dX9_price_19 rfl (lv_at hl 1 rfl) ?_
        refine lv_iconst (v := nI 1) zx zb dX9_price_20 (by decide) ?_
        refine j_icmp_ne (tgt := 28) hC dX9_price_21 (by decide) (by omega) (by omega) (fun c21 => ?_) (fun c21 => ?_)
        · refine lv_iload_n zx zb dX9_price_28 rfl (lv_at hl 1 rfl) ?_
          refine lv_iconst (v := nI 3) zx zb dX9_price_29 (by decide) ?_
          refine j_icmp_ne (tgt := 38) hC dX9_price_30 (by decide) (by omega) (by omega) (fun c30 => ?_) (fun c30 => ?_)
          · exact (by omega : False).elim
          · refine lv_bipush (v := nI 9) zx zb dX9_price_33 (by decide) ?_
            refine lv_goto (tgt := 39) zx zb dX9_price_35 (by decide) ?_
            refine lv_istore (lv' := [(4, .int (nI 9)), (0, .ref y0), (1, .int (nI 3)), (2, .int i), (3, .int v)]) zx zb dX9_price_39 hl (by decide) rfl (fun ls hl => ?_)
            refine lv_iload_n zx zb dX9_price_41 rfl (lv_at hl 3 rfl) ?_
            refine jz_if_lt (tgt := 63) hC dX9_price_42 (by decide) (fun c42 => ?_) (fun j42 j42a j42e => ?_)
            · refine lv_iconst (v := nI 0) zx zb dX9_price_63 (by decide) ?_
              exact hQ _ _ _ _ _ ⟨kn, pp⟩ dX9_price_64 (hI.sub [0, 1] rfl rfl) (by (try dsimp only); exact ⟨(Or.inr ⟨pr_no1 c42, rfl, rfl⟩), (Or.inl ⟨rfl, rfl⟩)⟩)
            · subst j42e
              refine lv_iload_n zx zb dX9_price_45 rfl (lv_at hl 3 rfl) ?_
              refine lv_iload zx zb dX9_price_46 (lv_at hl 0 rfl) ?_
              refine j_icmp_ge (tgt := 63) hC dX9_price_48 (by decide) (by omega) (by omega) (fun c48 => ?_) (fun c48 => ?_)
              · refine lv_iconst (v := nI 0) zx zb dX9_price_63 (by decide) ?_
                exact hQ _ _ _ _ _ ⟨kn, pp⟩ dX9_price_64 (hI.sub [0, 1] rfl rfl) (by (try dsimp only); exact ⟨(Or.inr ⟨pr_no32 (by omega), rfl, rfl⟩), (Or.inl ⟨rfl, rfl⟩)⟩)
              · refine lv_iload_n zx zb dX9_price_51 rfl (lv_at hl 4 rfl) ?_
                refine lv_iconst (v := nI 1) zx zb dX9_price_52 (by decide) ?_
                refine jz_icmp_lt (tgt := 63) hC dX9_price_53 (by decide) (by omega) (fun c53 => ?_) (fun j53 j53a j53b j53e => ?_)
                · refine lv_iconst (v := nI 0) zx zb dX9_price_63 (by decide) ?_
                  exact hQ _ _ _ _ _ ⟨kn, pp⟩ dX9_price_64 (hI.sub [0, 1] rfl rfl) (by (try dsimp only); exact ⟨(Or.inr ⟨pr_no3 c53, rfl, rfl⟩), (Or.inl ⟨rfl, rfl⟩)⟩)
                · subst j53e
                  refine lv_iload_n zx zb dX9_price_56 rfl (lv_at hl 4 rfl) ?_
                  refine lv_sipush (v := nI 1000) zx zb dX9_price_57 (by decide) ?_
                  refine j_icmp_le (tgt := 65) hC dX9_price_60 (by decide) (by omega) (by omega) (fun c60 => ?_) (fun c60 => ?_)
                  · refine lv_aload_n zx zb dX9_price_65 rfl (lv_at hl 1 rfl) ?_
                    refine j_get hC hI hin_X9_price_X9 0 rfl rfl 6 (by decide) hfl_X9_price_23 rfl rfl dX9_price_66 ?_
                    refine lv_iload_n zx zb dX9_price_69 rfl (lv_at hl 2 rfl) ?_
                    refine j_if_ne (tgt := 77) hC dX9_price_70 (by decide) (by omega) (fun c70 => ?_) (fun c70 => ?_)
                    · refine lv_iload_n zx zb dX9_price_77 rfl (lv_at hl 2 rfl) ?_
                      refine lv_iconst (v := nI 1) zx zb dX9_price_78 (by decide) ?_
                      refine j_icmp_ne (tgt := 87) hC dX9_price_79 (by decide) (by omega) (by omega) (fun c79 => ?_) (fun c79 => ?_)
                      · refine lv_iload_n zx zb dX9_price_87 rfl (lv_at hl 2 rfl) ?_
                        refine lv_iconst (v := nI 2) zx zb dX9_price_88 (by decide) ?_
                        refine j_icmp_ne (tgt := 97) hC dX9_price_89 (by decide) (by omega) (by omega) (fun c89 => ?_) (fun c89 => ?_)
                        · refine lv_bipush (v := nI 17) zx zb dX9_price_97 (by decide) ?_
                          refine lv_iload_n zx zb dX9_price_99 rfl (lv_at hl 3 rfl) ?_
                          refine j_iadd hC dX9_price_100 ?_
                          refine lv_iload_n zx zb dX9_price_101 rfl (lv_at hl 4 rfl) ?_
                          refine j_iast (w1 := [oC y0 9 [.int (nI 0), .ref r1, .int (nI n), .int (nI la), .int (nI lm), .int (nI lw), .ref r2, .ref r3, .ref r4, .int (nI kn), .ref r5, .ref r6, .ref r7, .int (nI k), .int (nI wp), .int (nI bt), .ref r8, .int (nI pn), .int (nI q), .int (nI th), .ref r9, .int (nI os), .int (nI wz), .ref r10, .int (nI sz), .int (nI ia), .ref r11, .ref r12, .int tz, .ref r13, .int (nI ft)], aI G r2 26 (up pp (17 + j42) j53)]) hC hI 1 rfl (by omega) (by omega) dX9_price_102 rfl (fun H locs hI => ?_)
                          refine lv_aload_n zx zb dX9_price_103 rfl (lv_at hl 1 rfl) ?_
                          refine lv_iconst (v := nI 0) zx zb dX9_price_104 (by decide) ?_
                          refine j_put (w1 := [oC y0 9 [.int (nI 0), .ref r1, .int (nI n), .int (nI la), .int (nI lm), .int (nI lw), .ref r2, .ref r3, .ref r4, .int (nI 0), .ref r5, .ref r6, .ref r7, .int (nI k), .int (nI wp), .int (nI bt), .ref r8, .int (nI pn), .int (nI q), .int (nI th), .ref r9, .int (nI os), .int (nI wz), .ref r10, .int (nI sz), .int (nI ia), .ref r11, .ref r12, .int tz, .ref r13, .int (nI ft)], aI G r2 26 (up pp (17 + j42) j53)]) hC hI hin_X9_price_X9 tyX9 tyX9_ok nmX9 0 rfl rfl 9 (by decide) hfl_X9_price_73 rfl rfl rfl rfl (Nat.le_of_ble_eq_true rfl) dX9_price_105 rfl (fun H locs hI => ?_)
                          refine lv_iconst (v := nI 1) zx zb dX9_price_108 (by decide) ?_
                          exact hQ _ _ _ _ _ ⟨0, up pp (17 + j42) j53⟩ dX9_price_109 (hI.sub [0, 1] rfl rfl) (by (try dsimp only); exact ⟨(Or.inl ⟨3, j42, j53, by omega, by omega, rfl, rfl, rfl, rfl, by omega, rfl⟩), (Or.inr rfl)⟩)
                        · exact (by omega : False).elim
                      · exact (by omega : False).elim
                    · exact (by omega : False).elim
                  · refine lv_iconst (v := nI 0) zx zb dX9_price_63 (by decide) ?_
                    exact hQ _ _ _ _ _ ⟨kn, pp⟩ dX9_price_64 (hI.sub [0, 1] rfl rfl) (by (try dsimp only); exact ⟨(Or.inr ⟨pr_no5 (by omega), rfl, rfl⟩), (Or.inl ⟨rfl, rfl⟩)⟩)
        · exact (by omega : False).elim
      · exact (by omega : False).elim
  · have hsn := sw_no (n := 4) (by decide) hsw
    refine lv_iload_n zx zb dX9_price_5 rfl (lv_at hl 1 rfl) ?_
    refine lv_if_eq (tgt := 14) zx zb dX9_price_6 (by decide) (fun c6 => ?_) (fun c6 => ?_)
    · exact absurd c6 (hsn 0 (by decide))
    · refine lv_iload_n zx zb dX9_price_9 rfl (lv_at hl 1 rfl) ?_
      refine lv_iconst (v := nI 2) zx zb dX9_price_10 (by decide) ?_
      refine lv_icmp_ne (tgt := 19) zx zb dX9_price_11 (by decide) (fun c11 => ?_) (fun c11 => ?_)
      · refine lv_iload_n zx zb dX9_price_19 rfl (lv_at hl 1 rfl) ?_
        refine lv_iconst (v := nI 1) zx zb dX9_price_20 (by decide) ?_
        refine lv_icmp_ne (tgt := 28) zx zb dX9_price_21 (by decide) (fun c21 => ?_) (fun c21 => ?_)
        · refine lv_iload_n zx zb dX9_price_28 rfl (lv_at hl 1 rfl) ?_
          refine lv_iconst (v := nI 3) zx zb dX9_price_29 (by decide) ?_
          refine lv_icmp_ne (tgt := 38) zx zb dX9_price_30 (by decide) (fun c30 => ?_) (fun c30 => ?_)
          · refine lv_iconst (v := nI 0) zx zb dX9_price_38 (by decide) ?_
            refine lv_istore (lv' := [(4, .int (nI 0)), (0, .ref y0), (1, .int a), (2, .int i), (3, .int v)]) zx zb dX9_price_39 hl (by decide) rfl (fun ls hl => ?_)
            refine lv_iload_n zx zb dX9_price_41 rfl (lv_at hl 3 rfl) ?_
            refine jz_if_lt (tgt := 63) hC dX9_price_42 (by decide) (fun c42 => ?_) (fun j42 j42a j42e => ?_)
            · refine lv_iconst (v := nI 0) zx zb dX9_price_63 (by decide) ?_
              exact hQ _ _ _ _ _ ⟨kn, pp⟩ dX9_price_64 (hI.sub [0, 1] rfl rfl) (by (try dsimp only); exact ⟨(Or.inr ⟨pr_no6 hsw, rfl, rfl⟩), (Or.inl ⟨rfl, rfl⟩)⟩)
            · subst j42e
              refine lv_iload_n zx zb dX9_price_45 rfl (lv_at hl 3 rfl) ?_
              refine lv_iload zx zb dX9_price_46 (lv_at hl 0 rfl) ?_
              refine j_icmp_ge (tgt := 63) hC dX9_price_48 (by decide) (by omega) (by omega) (fun c48 => ?_) (fun c48 => ?_)
              · refine lv_iconst (v := nI 0) zx zb dX9_price_63 (by decide) ?_
                exact hQ _ _ _ _ _ ⟨kn, pp⟩ dX9_price_64 (hI.sub [0, 1] rfl rfl) (by (try dsimp only); exact ⟨(Or.inr ⟨pr_no6 hsw, rfl, rfl⟩), (Or.inl ⟨rfl, rfl⟩)⟩)
              · exact (by omega : False).elim
          · subst c30
            exact absurd rfl (hsn 3 (by decide))
        · subst c21
          exact absurd rfl (hsn 1 (by decide))
      · subst c11
        exact absurd rfl (hsn 2 (by decide))

theorem hin_X9_priceOf_X9 : ∀ w ∈ wsX90, w ∈ wsX9_priceOf := by decide +kernel
theorem hfl_X9_priceOf_23 : Cond.fieldLink RX9 23 "CheapParseModel" "prices" "[I" ∈ wsX9_priceOf := by decide +kernel
theorem hfl_X9_priceOf_7 : Cond.fieldLink RX9 7 "CheapParseModel" "text" "[I" ∈ wsX9_priceOf := by decide +kernel
set_option maxHeartbeats 4000000 in
set_option maxRecDepth 100000 in
theorem c_X9_priceOf_b (zl : Launch) (G : jG) (y0 : Nat) (r1 : Nat) (r2 : Nat) (r3 : Nat) (r4 : Nat) (r5 : Nat) (r6 : Nat) (r7 : Nat) (r8 : Nat) (r9 : Nat) (r10 : Nat) (r11 : Nat) (r12 : Nat) (r13 : Nat) (n : Nat) (la : Nat) (lm : Nat) (lw : Nat) (kn : Nat) (k : Nat) (wp : Nat) (bt : Nat) (pn : Nat) (q : Nat) (th : Nat) (os : Nat) (wz : Nat) (sz : Nat) (ia : Nat) (ft : Nat) (tz : Int32) (T : Nat → Nat) (pp : Nat → Nat) (p : Nat) (j : Nat) (hp : p < 500) (hT : T p < 256) : jMet zl yX9_priceOf wsX9_priceOf ({ frames := 0, cells := 0, slots := 0, locals := 0 }) G [oC y0 9 [.int (nI 0), .ref r1, .int (nI n), .int (nI la), .int (nI lm), .int (nI lw), .ref r2, .ref r3, .ref r4, .int (nI kn), .ref r5, .ref r6, .ref r7, .int (nI k), .int (nI wp), .int (nI bt), .ref r8, .int (nI pn), .int (nI q), .int (nI th), .ref r9, .int (nI os), .int (nI wz), .ref r10, .int (nI sz), .int (nI ia), .ref r11, .ref r12, .int tz, .ref r13, .int (nI ft)], aI G r1 500 T, aI G r2 26 pp] [.ref y0, .int (nI p), .int (nI j), .int (nI 0)] (jQi G (fun (r : Int32) (u : Unit) => (r = nI (pp (T p / 32)))) (fun (u : Unit) => [oC y0 9 [.int (nI 0), .ref r1, .int (nI n), .int (nI la), .int (nI lm), .int (nI lw), .ref r2, .ref r3, .ref r4, .int (nI kn), .ref r5, .ref r6, .ref r7, .int (nI k), .int (nI wp), .int (nI bt), .ref r8, .int (nI pn), .int (nI q), .int (nI th), .ref r9, .int (nI os), .int (nI wz), .ref r10, .int (nI sz), .int (nI ia), .ref r11, .ref r12, .int tz, .ref r13, .int (nI ft)], aI G r1 500 T, aI G r2 26 pp])) 0 0 := by
  refine j_enter_i (cc := cX9_priceOf) (nL := 4) (nm := "priceOf") (own := RX9) (lv := [(0, .ref y0), (1, .int (nI p)), (2, .int (nI j)), (3, .int (nI 0))]) (by decide) rfl (Nat.le_of_ble_eq_true rfl) rfl rfl rfl ?_
  intro zA zp ze zs zm zargs zbelow zmeth zc zQ ls hC hQ hI hl
  have zx := hC.1
  have zb := hC.2.1
  refine lv_iload_n zx zb dX9_priceOf_0 rfl (lv_at hl 3 rfl) ?_
  refine j_if_ne (tgt := 21) hC dX9_priceOf_1 (by decide) (by omega) (fun c1 => ?_) (fun c1 => ?_)
  · exact (by omega : False).elim
  · refine lv_aload_n zx zb dX9_priceOf_4 rfl (lv_at hl 0 rfl) ?_
    refine j_get hC hI hin_X9_priceOf_X9 0 rfl rfl 6 (by decide) hfl_X9_priceOf_23 rfl rfl dX9_priceOf_5 ?_
    refine lv_aload_n zx zb dX9_priceOf_8 rfl (lv_at hl 0 rfl) ?_
    refine j_get hC hI hin_X9_priceOf_X9 0 rfl rfl 1 (by decide) hfl_X9_priceOf_7 rfl rfl dX9_priceOf_9 ?_
    refine lv_iload_n zx zb dX9_priceOf_12 rfl (lv_at hl 1 rfl) ?_
    refine j_iald hC hI 1 rfl (by omega) (by omega) dX9_priceOf_13 ?_
    refine lv_bipush (v := nI 32) zx zb dX9_priceOf_14 (by decide) ?_
    refine j_idiv hC (by omega) (by omega) (by omega) dX9_priceOf_16 ?_
    refine j_iald hC hI 2 rfl (by omega) (by omega) dX9_priceOf_17 ?_
    refine lv_goto (tgt := 54) zx zb dX9_priceOf_18 (by decide) ?_
    exact hQ _ _ _ _ _ () dX9_priceOf_54 (hI.sub [0, 1, 2] rfl rfl) (by first | rfl | (congr 1; omega) | omega)

set_option maxHeartbeats 4000000 in
set_option maxRecDepth 100000 in
theorem c_X9_priceOf_m (zl : Launch) (G : jG) (y0 : Nat) (r1 : Nat) (r2 : Nat) (r3 : Nat) (r4 : Nat) (r5 : Nat) (r6 : Nat) (r7 : Nat) (r8 : Nat) (r9 : Nat) (r10 : Nat) (r11 : Nat) (r12 : Nat) (r13 : Nat) (n : Nat) (la : Nat) (lm : Nat) (lw : Nat) (kn : Nat) (k : Nat) (wp : Nat) (bt : Nat) (pn : Nat) (q : Nat) (th : Nat) (os : Nat) (wz : Nat) (sz : Nat) (ia : Nat) (ft : Nat) (tz : Int32) (pp : Nat → Nat) (p : Nat) (j : Nat) (d : Nat) (hj : j < 256) (hd : 1 ≤ d ∧ d < 512) : jMet zl yX9_priceOf wsX9_priceOf ({ frames := 1, cells := 0, slots := 0, locals := 22 }) G [oC y0 9 [.int (nI 0), .ref r1, .int (nI n), .int (nI la), .int (nI lm), .int (nI lw), .ref r2, .ref r3, .ref r4, .int (nI kn), .ref r5, .ref r6, .ref r7, .int (nI k), .int (nI wp), .int (nI bt), .ref r8, .int (nI pn), .int (nI q), .int (nI th), .ref r9, .int (nI os), .int (nI wz), .ref r10, .int (nI sz), .int (nI ia), .ref r11, .ref r12, .int tz, .ref r13, .int (nI ft)], aI G r2 26 pp] [.ref y0, .int (nI p), .int (nI j), .int (nI d)] (jQi G (fun (r : Int32) (u : Unit) => (r = nI (pp 8 + pp (9 + j.log2) + pp (17 + d.log2)))) (fun (u : Unit) => [oC y0 9 [.int (nI 0), .ref r1, .int (nI n), .int (nI la), .int (nI lm), .int (nI lw), .ref r2, .ref r3, .ref r4, .int (nI kn), .ref r5, .ref r6, .ref r7, .int (nI k), .int (nI wp), .int (nI bt), .ref r8, .int (nI pn), .int (nI q), .int (nI th), .ref r9, .int (nI os), .int (nI wz), .ref r10, .int (nI sz), .int (nI ia), .ref r11, .ref r12, .int tz, .ref r13, .int (nI ft)], aI G r2 26 pp])) 0 0 := by
  refine j_enter_i (cc := cX9_priceOf) (nL := 4) (nm := "priceOf") (own := RX9) (lv := [(0, .ref y0), (1, .int (nI p)), (2, .int (nI j)), (3, .int (nI d))]) (by decide) rfl (Nat.le_of_ble_eq_true rfl) rfl rfl rfl ?_
  intro zA zp ze zs zm zargs zbelow zmeth zc zQ ls hC hQ hI hl
  have zx := hC.1
  have zb := hC.2.1
  have hl1 : j.log2 ≤ 7 := lg_le (k := 7) hj
  have hl2 : d.log2 ≤ 8 := lg_le (k := 8) hd.2
  refine lv_iload_n zx zb dX9_priceOf_0 rfl (lv_at hl 3 rfl) ?_
  refine j_if_ne (tgt := 21) hC dX9_priceOf_1 (by decide) (by omega) (fun c1 => ?_) (fun c1 => ?_)
  · refine lv_aload_n zx zb dX9_priceOf_21 rfl (lv_at hl 0 rfl) ?_
    refine j_get hC hI hin_X9_priceOf_X9 0 rfl rfl 6 (by decide) hfl_X9_priceOf_23 rfl rfl dX9_priceOf_22 ?_
    refine lv_bipush (v := nI 8) zx zb dX9_priceOf_25 (by decide) ?_
    refine j_iald hC hI 1 rfl (by omega) (by omega) dX9_priceOf_27 ?_
    refine lv_aload_n zx zb dX9_priceOf_28 rfl (lv_at hl 0 rfl) ?_
    refine j_get hC hI hin_X9_priceOf_X9 0 rfl rfl 6 (by decide) hfl_X9_priceOf_23 rfl rfl dX9_priceOf_29 ?_
    refine lv_bipush (v := nI 9) zx zb dX9_priceOf_32 (by decide) ?_
    refine lv_iload_n zx zb dX9_priceOf_34 rfl (lv_at hl 2 rfl) ?_
    refine j_callSi (wr := [oC y0 9 [.int (nI 0), .ref r1, .int (nI n), .int (nI la), .int (nI lm), .int (nI lw), .ref r2, .ref r3, .ref r4, .int (nI kn), .ref r5, .ref r6, .ref r7, .int (nI k), .int (nI wp), .int (nI bt), .ref r8, .int (nI pn), .int (nI q), .int (nI th), .ref r9, .int (nI os), .int (nI wz), .ref r10, .int (nI sz), .int (nI ia), .ref r11, .ref r12, .int tz, .ref r13, .int (nI ft)], aI G r2 26 pp]) hC hI (c_X9_classOf zl G j (by omega)) (cwS 1 hC.2.2.2.2.1 gX9_priceOf_X9_classOf rfl rfl rfl (by decide +kernel) ⟨Nat.le_of_ble_eq_true rfl, Nat.le_of_ble_eq_true rfl⟩) [] [0, 1] rfl rfl rfl rfl rfl rfl rfl hl.1 (Nat.le_of_ble_eq_true rfl) dX9_priceOf_35 ⟨Nat.le_of_ble_eq_true rfl, Nat.le_of_ble_eq_true rfl⟩ (fun rv35 u35 H locs hp35 hI => ?_)
    have hI : jI G zA zs [oC y0 9 [.int (nI 0), .ref r1, .int (nI n), .int (nI la), .int (nI lm), .int (nI lw), .ref r2, .ref r3, .ref r4, .int (nI kn), .ref r5, .ref r6, .ref r7, .int (nI k), .int (nI wp), .int (nI bt), .ref r8, .int (nI pn), .int (nI q), .int (nI th), .ref r9, .int (nI os), .int (nI wz), .ref r10, .int (nI sz), .int (nI ia), .ref r11, .ref r12, .int tz, .ref r13, .int (nI ft)], aI G r2 26 pp] H locs := hI
    subst hp35
    refine j_iadd hC dX9_priceOf_38 ?_
    refine j_iald hC hI 1 rfl (by omega) (by omega) dX9_priceOf_39 ?_
    refine j_iadd hC dX9_priceOf_40 ?_
    refine lv_aload_n zx zb dX9_priceOf_41 rfl (lv_at hl 0 rfl) ?_
    refine j_get hC hI hin_X9_priceOf_X9 0 rfl rfl 6 (by decide) hfl_X9_priceOf_23 rfl rfl dX9_priceOf_42 ?_
    refine lv_bipush (v := nI 17) zx zb dX9_priceOf_45 (by decide) ?_
    refine lv_iload_n zx zb dX9_priceOf_47 rfl (lv_at hl 3 rfl) ?_
    refine j_callSi (wr := [oC y0 9 [.int (nI 0), .ref r1, .int (nI n), .int (nI la), .int (nI lm), .int (nI lw), .ref r2, .ref r3, .ref r4, .int (nI kn), .ref r5, .ref r6, .ref r7, .int (nI k), .int (nI wp), .int (nI bt), .ref r8, .int (nI pn), .int (nI q), .int (nI th), .ref r9, .int (nI os), .int (nI wz), .ref r10, .int (nI sz), .int (nI ia), .ref r11, .ref r12, .int tz, .ref r13, .int (nI ft)], aI G r2 26 pp]) hC hI (c_X9_classOf zl G d (by omega)) (cwS 1 hC.2.2.2.2.1 gX9_priceOf_X9_classOf rfl rfl rfl (by decide +kernel) ⟨Nat.le_of_ble_eq_true rfl, Nat.le_of_ble_eq_true rfl⟩) [] [0, 1] rfl rfl rfl rfl rfl rfl rfl hl.1 (Nat.le_of_ble_eq_true rfl) dX9_priceOf_48 ⟨Nat.le_of_ble_eq_true rfl, Nat.le_of_ble_eq_true rfl⟩ (fun rv48 u48 H locs hp48 hI => ?_)
    have hI : jI G zA zs [oC y0 9 [.int (nI 0), .ref r1, .int (nI n), .int (nI la), .int (nI lm), .int (nI lw), .ref r2, .ref r3, .ref r4, .int (nI kn), .ref r5, .ref r6, .ref r7, .int (nI k), .int (nI wp), .int (nI bt), .ref r8, .int (nI pn), .int (nI q), .int (nI th), .ref r9, .int (nI os), .int (nI wz), .ref r10, .int (nI sz), .int (nI ia), .ref r11, .ref r12, .int tz, .ref r13, .int (nI ft)], aI G r2 26 pp] H locs := hI
    subst hp48
    refine j_iadd hC dX9_priceOf_51 ?_
    refine j_iald hC hI 1 rfl (by omega) (by omega) dX9_priceOf_52 ?_
    refine j_iadd hC dX9_priceOf_53 ?_
    exact hQ _ _ _ _ _ () dX9_priceOf_54 (hI.sub [0, 1] rfl rfl) (by first | rfl | (congr 1; omega) | omega)
  · exact (by omega : False).elim

theorem hin_X9_longest_X9 : ∀ w ∈ wsX90, w ∈ wsX9_longest := by decide +kernel
theorem hfl_X9_longest_20 : Cond.fieldLink RX9 20 "CheapParseModel" "window" "I" ∈ wsX9_longest := by decide +kernel
theorem hfl_X9_longest_27 : Cond.fieldLink RX9 27 "CheapParseModel" "common" "[S" ∈ wsX9_longest := by decide +kernel
theorem hfl_X9_longest_17 : Cond.fieldLink RX9 17 "CheapParseModel" "most" "I" ∈ wsX9_longest := by decide +kernel
theorem hfl_X9_longest_13 : Cond.fieldLink RX9 13 "CheapParseModel" "least" "I" ∈ wsX9_longest := by decide +kernel
set_option maxHeartbeats 4000000 in
set_option maxRecDepth 100000 in
theorem c_X9_longest (zl : Launch) (G : jG) (y0 : Nat) (r1 : Nat) (r2 : Nat) (r3 : Nat) (r4 : Nat) (r5 : Nat) (r6 : Nat) (r7 : Nat) (r8 : Nat) (r9 : Nat) (r10 : Nat) (r11 : Nat) (r12 : Nat) (r13 : Nat) (n : Nat) (la : Nat) (lm : Nat) (lw : Nat) (kn : Nat) (k : Nat) (wp : Nat) (bt : Nat) (pn : Nat) (q : Nat) (th : Nat) (os : Nat) (wz : Nat) (sz : Nat) (ia : Nat) (ft : Nat) (tz : Int32) (T : Nat → Nat) (cm : Nat → Nat) (p : Nat) (d : Nat) (hp : p < n) (hn : n ≤ 500) (hl0 : 2 ≤ la ∧ la ≤ lm ∧ lm ≤ 255 ∧ lw ≤ 500) (hd : d ≤ 1000) (hc : ∀ d, 1 ≤ d → d ≤ p → cm (501 * p + p - d) = lc T d p (n - p)) : jMet zl yX9_longest wsX9_longest ({ frames := 0, cells := 0, slots := 0, locals := 0 }) G [oC y0 9 [.int (nI 0), .ref r1, .int (nI n), .int (nI la), .int (nI lm), .int (nI lw), .ref r2, .ref r3, .ref r4, .int (nI kn), .ref r5, .ref r6, .ref r7, .int (nI k), .int (nI wp), .int (nI bt), .ref r8, .int (nI pn), .int (nI q), .int (nI th), .ref r9, .int (nI os), .int (nI wz), .ref r10, .int (nI sz), .int (nI ia), .ref r11, .ref r12, .int tz, .ref r13, .int (nI ft)], aS G r3 251502 cm] [.ref y0, .int (nI p), .int (nI d)] (jQi G (fun (r : Int32) (u : Unit) => (r = nI (mt la lm lw T n p d))) (fun (u : Unit) => [oC y0 9 [.int (nI 0), .ref r1, .int (nI n), .int (nI la), .int (nI lm), .int (nI lw), .ref r2, .ref r3, .ref r4, .int (nI kn), .ref r5, .ref r6, .ref r7, .int (nI k), .int (nI wp), .int (nI bt), .ref r8, .int (nI pn), .int (nI q), .int (nI th), .ref r9, .int (nI os), .int (nI wz), .ref r10, .int (nI sz), .int (nI ia), .ref r11, .ref r12, .int tz, .ref r13, .int (nI ft)], aS G r3 251502 cm])) 0 0 := by
  refine j_enter_i (cc := cX9_longest) (nL := 4) (nm := "longest") (own := RX9) (lv := [(0, .ref y0), (1, .int (nI p)), (2, .int (nI d))]) (by decide) rfl (Nat.le_of_ble_eq_true rfl) rfl rfl rfl ?_
  intro zA zp ze zs zm zargs zbelow zmeth zc zQ ls hC hQ hI hl
  have zx := hC.1
  have zb := hC.2.1
  refine lv_iload_n zx zb dX9_longest_0 rfl (lv_at hl 2 rfl) ?_
  refine lv_iconst (v := nI 1) zx zb dX9_longest_1 (by decide) ?_
  refine j_icmp_lt (tgt := 18) hC dX9_longest_2 (by decide) (by omega) (by omega) (fun c2 => ?_) (fun c2 => ?_)
  · refine lv_iconst (v := nI 0) zx zb dX9_longest_18 (by decide) ?_
    exact hQ _ _ _ _ _ () dX9_longest_19 (hI.sub [0, 1] rfl rfl) (by rw [mt, if_neg (by omega)])
  · refine lv_iload_n zx zb dX9_longest_5 rfl (lv_at hl 2 rfl) ?_
    refine lv_aload_n zx zb dX9_longest_6 rfl (lv_at hl 0 rfl) ?_
    refine j_get hC hI hin_X9_longest_X9 0 rfl rfl 5 (by decide) hfl_X9_longest_20 rfl rfl dX9_longest_7 ?_
    refine j_icmp_gt (tgt := 18) hC dX9_longest_10 (by decide) (by omega) (by omega) (fun c10 => ?_) (fun c10 => ?_)
    · refine lv_iconst (v := nI 0) zx zb dX9_longest_18 (by decide) ?_
      exact hQ _ _ _ _ _ () dX9_longest_19 (hI.sub [0, 1] rfl rfl) (by rw [mt, if_neg (by omega)])
    · refine lv_iload_n zx zb dX9_longest_13 rfl (lv_at hl 2 rfl) ?_
      refine lv_iload_n zx zb dX9_longest_14 rfl (lv_at hl 1 rfl) ?_
      refine j_icmp_le (tgt := 20) hC dX9_longest_15 (by decide) (by omega) (by omega) (fun c15 => ?_) (fun c15 => ?_)
      · refine lv_aload_n zx zb dX9_longest_20 rfl (lv_at hl 0 rfl) ?_
        refine j_get hC hI hin_X9_longest_X9 0 rfl rfl 7 (by decide) hfl_X9_longest_27 rfl rfl dX9_longest_21 ?_
        refine lv_sipush (v := nI 501) zx zb dX9_longest_24 (by decide) ?_
        refine lv_iload_n zx zb dX9_longest_27 rfl (lv_at hl 1 rfl) ?_
        refine j_imul hC dX9_longest_28 ?_
        refine lv_iload_n zx zb dX9_longest_29 rfl (lv_at hl 1 rfl) ?_
        refine j_iadd hC dX9_longest_30 ?_
        refine lv_iload_n zx zb dX9_longest_31 rfl (lv_at hl 2 rfl) ?_
        refine j_isub hC (by omega) dX9_longest_32 ?_
        have hq := hc d (by omega) (by omega)
        have hq2 := lc_le T d (n - p) p
        refine j_sald hC hI 1 rfl (by omega) (by omega) dX9_longest_33 ?_
        refine lv_istore_n (lv' := [(3, .int (nI (cm (((501 * p) + p) - d)))), (0, .ref y0), (1, .int (nI p)), (2, .int (nI d))]) zx zb dX9_longest_34 rfl hl (by decide) rfl (fun ls hl => ?_)
        refine lv_iload_n zx zb dX9_longest_35 rfl (lv_at hl 0 rfl) ?_
        refine lv_aload_n zx zb dX9_longest_36 rfl (lv_at hl 1 rfl) ?_
        refine j_get hC hI hin_X9_longest_X9 0 rfl rfl 4 (by decide) hfl_X9_longest_17 rfl rfl dX9_longest_37 ?_
        refine j_icmp_le (tgt := 50) hC dX9_longest_40 (by decide) (by omega) (by omega) (fun c40 => ?_) (fun c40 => ?_)
        · refine lv_iload_n zx zb dX9_longest_50 rfl (lv_at hl 0 rfl) ?_
          refine lv_istore_n (lv' := [(3, .int (nI (cm (((501 * p) + p) - d)))), (0, .ref y0), (1, .int (nI p)), (2, .int (nI d))]) zx zb dX9_longest_51 rfl hl (by decide) rfl (fun ls hl => ?_)
          refine lv_iload_n zx zb dX9_longest_52 rfl (lv_at hl 0 rfl) ?_
          refine lv_aload_n zx zb dX9_longest_53 rfl (lv_at hl 1 rfl) ?_
          refine j_get hC hI hin_X9_longest_X9 0 rfl rfl 3 (by decide) hfl_X9_longest_13 rfl rfl dX9_longest_54 ?_
          refine j_icmp_ge (tgt := 64) hC dX9_longest_57 (by decide) (by omega) (by omega) (fun c57 => ?_) (fun c57 => ?_)
          · refine lv_iload_n zx zb dX9_longest_64 rfl (lv_at hl 0 rfl) ?_
            exact hQ _ _ _ _ _ () dX9_longest_65 (hI.sub [0, 1] rfl rfl) (by rw [mt, if_pos (by omega), ← hq, Nat.min_eq_left (by omega), if_neg (by omega)])
          · refine lv_iconst (v := nI 0) zx zb dX9_longest_60 (by decide) ?_
            refine lv_goto (tgt := 65) zx zb dX9_longest_61 (by decide) ?_
            exact hQ _ _ _ _ _ () dX9_longest_65 (hI.sub [0, 1] rfl rfl) (by rw [mt, if_pos (by omega), ← hq, Nat.min_eq_left (by omega), if_pos (by omega)])
        · refine lv_aload_n zx zb dX9_longest_43 rfl (lv_at hl 1 rfl) ?_
          refine j_get hC hI hin_X9_longest_X9 0 rfl rfl 4 (by decide) hfl_X9_longest_17 rfl rfl dX9_longest_44 ?_
          refine lv_goto (tgt := 51) zx zb dX9_longest_47 (by decide) ?_
          refine lv_istore_n (lv' := [(3, .int (nI lm)), (0, .ref y0), (1, .int (nI p)), (2, .int (nI d))]) zx zb dX9_longest_51 rfl hl (by decide) rfl (fun ls hl => ?_)
          refine lv_iload_n zx zb dX9_longest_52 rfl (lv_at hl 0 rfl) ?_
          refine lv_aload_n zx zb dX9_longest_53 rfl (lv_at hl 1 rfl) ?_
          refine j_get hC hI hin_X9_longest_X9 0 rfl rfl 3 (by decide) hfl_X9_longest_13 rfl rfl dX9_longest_54 ?_
          refine j_icmp_ge (tgt := 64) hC dX9_longest_57 (by decide) (by omega) (by omega) (fun c57 => ?_) (fun c57 => ?_)
          · refine lv_iload_n zx zb dX9_longest_64 rfl (lv_at hl 0 rfl) ?_
            exact hQ _ _ _ _ _ () dX9_longest_65 (hI.sub [0, 1] rfl rfl) (by rw [mt, if_pos (by omega), ← hq, Nat.min_eq_right (by omega), if_neg (by omega)])
          · refine lv_iconst (v := nI 0) zx zb dX9_longest_60 (by decide) ?_
            refine lv_goto (tgt := 65) zx zb dX9_longest_61 (by decide) ?_
            exact hQ _ _ _ _ _ () dX9_longest_65 (hI.sub [0, 1] rfl rfl) (by rw [mt, if_pos (by omega), ← hq, Nat.min_eq_right (by omega), if_pos (by omega)])
      · refine lv_iconst (v := nI 0) zx zb dX9_longest_18 (by decide) ?_
        exact hQ _ _ _ _ _ () dX9_longest_19 (hI.sub [0, 1] rfl rfl) (by rw [mt, if_neg (by omega)])

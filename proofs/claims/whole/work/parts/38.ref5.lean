theorem hin_X9_takeBit_X9 : ∀ w ∈ wsX90, w ∈ wsX9_takeBit := by decide +kernel
theorem hfl_X9_takeBit_144 : Cond.fieldLink RX9 144 "CheapParseModel" "inAt" "I" ∈ wsX9_takeBit := by decide +kernel
theorem hfl_X9_takeBit_141 : Cond.fieldLink RX9 141 "CheapParseModel" "inSize" "I" ∈ wsX9_takeBit := by decide +kernel
theorem hfl_X9_takeBit_50 : Cond.fieldLink RX9 50 "CheapParseModel" "in" "[I" ∈ wsX9_takeBit := by decide +kernel
set_option maxHeartbeats 4000000 in
set_option maxRecDepth 100000 in
theorem c_X9_takeBit_ok (zl : Launch) (G : jG) (y0 : Nat) (r1 : Nat) (r2 : Nat) (r3 : Nat) (r4 : Nat) (r5 : Nat) (r6 : Nat) (r7 : Nat) (r8 : Nat) (r9 : Nat) (r10 : Nat) (r11 : Nat) (r12 : Nat) (r13 : Nat) (n : Nat) (la : Nat) (lm : Nat) (lw : Nat) (kn : Nat) (k : Nat) (wp : Nat) (bt : Nat) (pn : Nat) (q : Nat) (th : Nat) (os : Nat) (wz : Nat) (sz : Nat) (ia : Nat) (ft : Nat) (tz : Int32) (L : Nat → Nat) (hs : sz ≤ 700) (hLb : ∀ j, j < sz → L j < 256) (hi : ia < 8 * sz) : jMet zl yX9_takeBit wsX9_takeBit ({ frames := 0, cells := 0, slots := 0, locals := 0 }) G [oC y0 9 [.int (nI 0), .ref r1, .int (nI n), .int (nI la), .int (nI lm), .int (nI lw), .ref r2, .ref r3, .ref r4, .int (nI kn), .ref r5, .ref r6, .ref r7, .int (nI k), .int (nI wp), .int (nI bt), .ref r8, .int (nI pn), .int (nI q), .int (nI th), .ref r9, .int (nI os), .int (nI wz), .ref r10, .int (nI sz), .int (nI ia), .ref r11, .ref r12, .int tz, .ref r13, .int (nI ft)], aI G r10 700 L] [.ref y0] (jQi G (fun (r : Int32) (u : Unit) => (r = nI (bitAt L ia))) (fun (u : Unit) => [oC y0 9 [.int (nI 0), .ref r1, .int (nI n), .int (nI la), .int (nI lm), .int (nI lw), .ref r2, .ref r3, .ref r4, .int (nI kn), .ref r5, .ref r6, .ref r7, .int (nI k), .int (nI wp), .int (nI bt), .ref r8, .int (nI pn), .int (nI q), .int (nI th), .ref r9, .int (nI os), .int (nI wz), .ref r10, .int (nI sz), .int (nI (ia + 1)), .ref r11, .ref r12, .int tz, .ref r13, .int (nI ft)], aI G r10 700 L])) 0 0 := by
  refine j_enter_i (cc := cX9_takeBit) (nL := 2) (nm := "takeBit") (own := RX9) (lv := [(0, .ref y0)]) (by decide) rfl (Nat.le_of_ble_eq_true rfl) rfl rfl rfl ?_
  intro zA zp ze zs zm zargs zbelow zmeth zc zQ ls hC hQ hI hl
  have zx := hC.1
  have zb := hC.2.1
  refine lv_aload_n zx zb dX9_takeBit_0 rfl (lv_at hl 0 rfl) ?_
  refine j_get hC hI hin_X9_takeBit_X9 0 rfl rfl 25 (by decide) hfl_X9_takeBit_144 rfl rfl dX9_takeBit_1 ?_
  refine lv_bipush (v := nI 8) zx zb dX9_takeBit_4 (by decide) ?_
  refine j_idiv hC (by omega) (by omega) (by omega) dX9_takeBit_6 ?_
  refine lv_aload_n zx zb dX9_takeBit_7 rfl (lv_at hl 0 rfl) ?_
  refine j_get hC hI hin_X9_takeBit_X9 0 rfl rfl 24 (by decide) hfl_X9_takeBit_141 rfl rfl dX9_takeBit_8 ?_
  refine j_icmp_lt (tgt := 35) hC dX9_takeBit_11 (by decide) (by omega) (by omega) (fun c11 => ?_) (fun c11 => ?_)
  · refine lv_aload_n zx zb dX9_takeBit_35 rfl (lv_at hl 0 rfl) ?_
    refine j_get hC hI hin_X9_takeBit_X9 0 rfl rfl 23 (by decide) hfl_X9_takeBit_50 rfl rfl dX9_takeBit_36 ?_
    refine lv_aload_n zx zb dX9_takeBit_39 rfl (lv_at hl 0 rfl) ?_
    refine j_get hC hI hin_X9_takeBit_X9 0 rfl rfl 25 (by decide) hfl_X9_takeBit_144 rfl rfl dX9_takeBit_40 ?_
    refine lv_bipush (v := nI 8) zx zb dX9_takeBit_43 (by decide) ?_
    refine j_idiv hC (by omega) (by omega) (by omega) dX9_takeBit_45 ?_
    refine j_iald hC hI 1 rfl (by omega) (by omega) dX9_takeBit_46 ?_
    have b46 := hLb (ia / 8) (by omega)
    refine lv_bipush (v := nI 7) zx zb dX9_takeBit_47 (by decide) ?_
    refine lv_aload_n zx zb dX9_takeBit_49 rfl (lv_at hl 0 rfl) ?_
    refine j_get hC hI hin_X9_takeBit_X9 0 rfl rfl 25 (by decide) hfl_X9_takeBit_144 rfl rfl dX9_takeBit_50 ?_
    refine lv_bipush (v := nI 8) zx zb dX9_takeBit_53 (by decide) ?_
    refine j_irem hC (by omega) (by omega) (by omega) dX9_takeBit_55 ?_
    refine j_isub hC (by omega) dX9_takeBit_56 ?_
    refine j_ishr hC (by omega) (by omega) dX9_takeBit_57 ?_
    refine lv_iconst (v := nI 1) zx zb dX9_takeBit_58 (by decide) ?_
    refine j_and1 hC dX9_takeBit_59 ?_
    refine lv_istore_n (lv' := [(1, .int (nI (((L (ia / 8)) / 2 ^ (7 - (ia % 8))) % 2))), (0, .ref y0)]) zx zb dX9_takeBit_60 rfl hl (by decide) rfl (fun ls hl => ?_)
    refine lv_aload_n zx zb dX9_takeBit_61 rfl (lv_at hl 1 rfl) ?_
    refine lv_dup zx zb dX9_takeBit_62 rfl ?_
    refine j_get hC hI hin_X9_takeBit_X9 0 rfl rfl 25 (by decide) hfl_X9_takeBit_144 rfl rfl dX9_takeBit_63 ?_
    refine lv_iconst (v := nI 1) zx zb dX9_takeBit_66 (by decide) ?_
    refine j_iadd hC dX9_takeBit_67 ?_
    refine j_put (w1 := [oC y0 9 [.int (nI 0), .ref r1, .int (nI n), .int (nI la), .int (nI lm), .int (nI lw), .ref r2, .ref r3, .ref r4, .int (nI kn), .ref r5, .ref r6, .ref r7, .int (nI k), .int (nI wp), .int (nI bt), .ref r8, .int (nI pn), .int (nI q), .int (nI th), .ref r9, .int (nI os), .int (nI wz), .ref r10, .int (nI sz), .int (nI (ia + 1)), .ref r11, .ref r12, .int tz, .ref r13, .int (nI ft)], aI G r10 700 L]) hC hI hin_X9_takeBit_X9 tyX9 tyX9_ok nmX9 0 rfl rfl 25 (by decide) hfl_X9_takeBit_144 rfl rfl rfl rfl (Nat.le_of_ble_eq_true rfl) dX9_takeBit_68 rfl (fun H locs hI => ?_)
    refine lv_iload_n zx zb dX9_takeBit_71 rfl (lv_at hl 0 rfl) ?_
    exact hQ _ _ _ _ _ () dX9_takeBit_72 (hI.sub [0, 1] rfl rfl) (by first | rfl | (congr 1; omega) | omega)
  · exact (by omega : False).elim

theorem hfl_X9_takeBit_147 : Cond.fieldLink RX9 147 "CheapParseModel" "fault" "I" ∈ wsX9_takeBit := by decide +kernel
set_option maxHeartbeats 4000000 in
set_option maxRecDepth 100000 in
theorem c_X9_takeBit_end (zl : Launch) (G : jG) (y0 : Nat) (r1 : Nat) (r2 : Nat) (r3 : Nat) (r4 : Nat) (r5 : Nat) (r6 : Nat) (r7 : Nat) (r8 : Nat) (r9 : Nat) (r10 : Nat) (r11 : Nat) (r12 : Nat) (r13 : Nat) (n : Nat) (la : Nat) (lm : Nat) (lw : Nat) (kn : Nat) (k : Nat) (wp : Nat) (bt : Nat) (pn : Nat) (q : Nat) (th : Nat) (os : Nat) (wz : Nat) (sz : Nat) (ia : Nat) (tz : Int32) (hs : sz ≤ 700) (hi : 8 * sz ≤ ia ∧ ia ≤ 6000) : jMet zl yX9_takeBit wsX9_takeBit ({ frames := 0, cells := 0, slots := 0, locals := 0 }) G [oC y0 9 [.int (nI 0), .ref r1, .int (nI n), .int (nI la), .int (nI lm), .int (nI lw), .ref r2, .ref r3, .ref r4, .int (nI kn), .ref r5, .ref r6, .ref r7, .int (nI k), .int (nI wp), .int (nI bt), .ref r8, .int (nI pn), .int (nI q), .int (nI th), .ref r9, .int (nI os), .int (nI wz), .ref r10, .int (nI sz), .int (nI ia), .ref r11, .ref r12, .int tz, .ref r13, .int (nI 0)]] [.ref y0] (jQi G (fun (r : Int32) (u : Unit) => (r = nI 0)) (fun (u : Unit) => [oC y0 9 [.int (nI 0), .ref r1, .int (nI n), .int (nI la), .int (nI lm), .int (nI lw), .ref r2, .ref r3, .ref r4, .int (nI kn), .ref r5, .ref r6, .ref r7, .int (nI k), .int (nI wp), .int (nI bt), .ref r8, .int (nI pn), .int (nI q), .int (nI th), .ref r9, .int (nI os), .int (nI wz), .ref r10, .int (nI sz), .int (nI ia), .ref r11, .ref r12, .int tz, .ref r13, .int (nI 1)]])) 0 0 := by
  refine j_enter_i (cc := cX9_takeBit) (nL := 2) (nm := "takeBit") (own := RX9) (lv := [(0, .ref y0)]) (by decide) rfl (Nat.le_of_ble_eq_true rfl) rfl rfl rfl ?_
  intro zA zp ze zs zm zargs zbelow zmeth zc zQ ls hC hQ hI hl
  have zx := hC.1
  have zb := hC.2.1
  refine lv_aload_n zx zb dX9_takeBit_0 rfl (lv_at hl 0 rfl) ?_
  refine j_get hC hI hin_X9_takeBit_X9 0 rfl rfl 25 (by decide) hfl_X9_takeBit_144 rfl rfl dX9_takeBit_1 ?_
  refine lv_bipush (v := nI 8) zx zb dX9_takeBit_4 (by decide) ?_
  refine j_idiv hC (by omega) (by omega) (by omega) dX9_takeBit_6 ?_
  refine lv_aload_n zx zb dX9_takeBit_7 rfl (lv_at hl 0 rfl) ?_
  refine j_get hC hI hin_X9_takeBit_X9 0 rfl rfl 24 (by decide) hfl_X9_takeBit_141 rfl rfl dX9_takeBit_8 ?_
  refine j_icmp_lt (tgt := 35) hC dX9_takeBit_11 (by decide) (by omega) (by omega) (fun c11 => ?_) (fun c11 => ?_)
  · exact (by omega : False).elim
  · refine lv_aload_n zx zb dX9_takeBit_14 rfl (lv_at hl 0 rfl) ?_
    refine lv_aload_n zx zb dX9_takeBit_15 rfl (lv_at hl 0 rfl) ?_
    refine j_get hC hI hin_X9_takeBit_X9 0 rfl rfl 30 (by decide) hfl_X9_takeBit_147 rfl rfl dX9_takeBit_16 ?_
    refine j_if_ne (tgt := 26) hC dX9_takeBit_19 (by decide) (by omega) (fun c19 => ?_) (fun c19 => ?_)
    · exact (by omega : False).elim
    · refine lv_iconst (v := nI 1) zx zb dX9_takeBit_22 (by decide) ?_
      refine lv_goto (tgt := 30) zx zb dX9_takeBit_23 (by decide) ?_
      refine j_put (w1 := [oC y0 9 [.int (nI 0), .ref r1, .int (nI n), .int (nI la), .int (nI lm), .int (nI lw), .ref r2, .ref r3, .ref r4, .int (nI kn), .ref r5, .ref r6, .ref r7, .int (nI k), .int (nI wp), .int (nI bt), .ref r8, .int (nI pn), .int (nI q), .int (nI th), .ref r9, .int (nI os), .int (nI wz), .ref r10, .int (nI sz), .int (nI ia), .ref r11, .ref r12, .int tz, .ref r13, .int (nI 1)]]) hC hI hin_X9_takeBit_X9 tyX9 tyX9_ok nmX9 0 rfl rfl 30 (by decide) hfl_X9_takeBit_147 rfl rfl rfl rfl (Nat.le_of_ble_eq_true rfl) dX9_takeBit_30 rfl (fun H locs hI => ?_)
      refine lv_iconst (v := nI 0) zx zb dX9_takeBit_33 (by decide) ?_
      exact hQ _ _ _ _ _ () dX9_takeBit_34 (hI.sub [0] rfl rfl) (by first | rfl | (congr 1; omega) | omega)

theorem hin_X9_take_X9 : ∀ w ∈ wsX90, w ∈ wsX9_take := by decide +kernel
theorem hfl_X9_take_147 : Cond.fieldLink RX9 147 "CheapParseModel" "fault" "I" ∈ wsX9_take := by decide +kernel
set_option maxHeartbeats 4000000 in
set_option maxRecDepth 100000 in
theorem c_X9_take_ok (zl : Launch) (G : jG) (y0 : Nat) (r1 : Nat) (r2 : Nat) (r3 : Nat) (r4 : Nat) (r5 : Nat) (r6 : Nat) (r7 : Nat) (r8 : Nat) (r9 : Nat) (r10 : Nat) (r11 : Nat) (r12 : Nat) (r13 : Nat) (n : Nat) (la : Nat) (lm : Nat) (lw : Nat) (kn : Nat) (k : Nat) (wp : Nat) (bt : Nat) (pn : Nat) (q : Nat) (th : Nat) (os : Nat) (wz : Nat) (sz : Nat) (ia : Nat) (tz : Int32) (L : Nat → Nat) (m : Nat) (hs : sz ≤ 700) (hLb : ∀ j, j < sz → L j < 256) (hm : m ≤ 16) (hi : ia + m ≤ 8 * sz) : jMet zl yX9_take wsX9_take ({ frames := 1, cells := 0, slots := 0, locals := 21 }) G [oC y0 9 [.int (nI 0), .ref r1, .int (nI n), .int (nI la), .int (nI lm), .int (nI lw), .ref r2, .ref r3, .ref r4, .int (nI kn), .ref r5, .ref r6, .ref r7, .int (nI k), .int (nI wp), .int (nI bt), .ref r8, .int (nI pn), .int (nI q), .int (nI th), .ref r9, .int (nI os), .int (nI wz), .ref r10, .int (nI sz), .int (nI ia), .ref r11, .ref r12, .int tz, .ref r13, .int (nI 0)], aI G r10 700 L] [.ref y0, .int (nI m)] (jQi G (fun (r : Int32) (u : Unit) => (r = nI (nb L ia m))) (fun (u : Unit) => [oC y0 9 [.int (nI 0), .ref r1, .int (nI n), .int (nI la), .int (nI lm), .int (nI lw), .ref r2, .ref r3, .ref r4, .int (nI kn), .ref r5, .ref r6, .ref r7, .int (nI k), .int (nI wp), .int (nI bt), .ref r8, .int (nI pn), .int (nI q), .int (nI th), .ref r9, .int (nI os), .int (nI wz), .ref r10, .int (nI sz), .int (nI (ia + m)), .ref r11, .ref r12, .int tz, .ref r13, .int (nI 0)], aI G r10 700 L])) 0 0 := by
  refine j_enter_i (cc := cX9_take) (nL := 4) (nm := "take") (own := RX9) (lv := [(0, .ref y0), (1, .int (nI m))]) (by decide) rfl (Nat.le_of_ble_eq_true rfl) rfl rfl rfl ?_
  intro zA zp ze zs zm zargs zbelow zmeth zc zQ ls hC hQ hI hl
  have zx := hC.1
  have zb := hC.2.1
  refine lv_iconst (v := nI 0) zx zb dX9_take_0 (by decide) ?_
  refine lv_istore_n (lv' := [(2, .int (nI 0)), (0, .ref y0), (1, .int (nI m))]) zx zb dX9_take_1 rfl hl (by decide) rfl (fun ls hl => ?_)
  refine lv_iconst (v := nI 0) zx zb dX9_take_2 (by decide) ?_
  refine lv_istore_n (lv' := [(3, .int (nI 0)), (2, .int (nI 0)), (0, .ref y0), (1, .int (nI m))]) zx zb dX9_take_3 rfl hl (by decide) rfl (fun ls hl => ?_)
  have loop4 : ∀ (zn4 : Nat) (i : Nat) (v : Nat), (i ≤ m) → (v = nb L ia i) → (m - i) < zn4 → ∀ (H : Heap) (locs : List Loc) (ls : Array Slot), jI G zA zs [oC y0 9 [.int (nI 0), .ref r1, .int (nI n), .int (nI la), .int (nI lm), .int (nI lw), .ref r2, .ref r3, .ref r4, .int (nI kn), .ref r5, .ref r6, .ref r7, .int (nI k), .int (nI wp), .int (nI bt), .ref r8, .int (nI pn), .int (nI q), .int (nI th), .ref r9, .int (nI os), .int (nI wz), .ref r10, .int (nI sz), .int (nI (ia + i)), .ref r11, .ref r12, .int tz, .ref r13, .int (nI 0)], aI G r10 700 L] H locs → lv_has ls 4 [(0, .ref y0), (1, .int (nI m)), (2, .int (nI v)), (3, .int (nI i))] → W zp zl ze ({ frames := 1, cells := 0, slots := 0, locals := 21 }) zs zm zargs zbelow zmeth zc H locs 0 0 zQ (F0 zm 4 ls []) := by
    intro zn4
    induction zn4 with
    | zero => intros; omega
    | succ zn4 ih4 =>
      intro i v hi2 hv zm4 H locs ls hI hl
      refine lv_iload_n zx zb dX9_take_4 rfl (lv_at hl 3 rfl) ?_
      refine lv_iload_n zx zb dX9_take_5 rfl (lv_at hl 1 rfl) ?_
      refine j_icmp_ge (tgt := 31) hC dX9_take_6 (by decide) (by omega) (by omega) (fun c6 => ?_) (fun c6 => ?_)
      · refine lv_iload_n zx zb dX9_take_31 rfl (lv_at hl 2 rfl) ?_
        have ei : i = m := by omega
        exact hQ _ _ _ _ _ () dX9_take_32 (hI.sub [0, 1] rfl (by rw [ei]; rfl)) (by rw [hv, ei])
      · refine lv_aload_n zx zb dX9_take_9 rfl (lv_at hl 0 rfl) ?_
        refine j_get hC hI hin_X9_take_X9 0 rfl rfl 30 (by decide) hfl_X9_take_147 rfl rfl dX9_take_10 ?_
        refine j_if_ne (tgt := 31) hC dX9_take_13 (by decide) (by omega) (fun c13 => ?_) (fun c13 => ?_)
        · exact (by omega : False).elim
        · refine lv_iconst (v := nI 2) zx zb dX9_take_16 (by decide) ?_
          refine lv_iload_n zx zb dX9_take_17 rfl (lv_at hl 2 rfl) ?_
          refine j_imul hC dX9_take_18 ?_
          refine lv_aload_n zx zb dX9_take_19 rfl (lv_at hl 0 rfl) ?_
          refine j_callVi (wr := []) hC hI (c_X9_takeBit_ok zl G y0 r1 r2 r3 r4 r5 r6 r7 r8 r9 r10 r11 r12 r13 n la lm lw kn k wp bt pn q th os wz sz (ia + i) 0 tz L (by omega) (by omega) (by omega)) (cwV 0 hC.2.2.2.2.1 gX9_take_X9_takeBit rfl rfl rfl (by decide +kernel) ⟨Nat.le_of_ble_eq_true rfl, Nat.le_of_ble_eq_true rfl⟩) [0, 1] [] rfl rfl rfl rfl rfl rfl (q0 := 0) rfl rfl rfl hl.1 (Nat.le_of_ble_eq_true rfl) dX9_take_20 ⟨Nat.le_of_ble_eq_true rfl, Nat.le_of_ble_eq_true rfl⟩ (fun rv20 u20 H locs hp20 hI => ?_)
          have hI : jI G zA zs [oC y0 9 [.int (nI 0), .ref r1, .int (nI n), .int (nI la), .int (nI lm), .int (nI lw), .ref r2, .ref r3, .ref r4, .int (nI kn), .ref r5, .ref r6, .ref r7, .int (nI k), .int (nI wp), .int (nI bt), .ref r8, .int (nI pn), .int (nI q), .int (nI th), .ref r9, .int (nI os), .int (nI wz), .ref r10, .int (nI sz), .int (nI ((ia + i) + 1)), .ref r11, .ref r12, .int tz, .ref r13, .int (nI 0)], aI G r10 700 L] H locs := hI
          subst hp20
          refine j_iadd hC dX9_take_23 ?_
          refine lv_istore_n (lv' := [(2, .int (nI ((2 * v) + (bitAt L (ia + i))))), (0, .ref y0), (1, .int (nI m)), (3, .int (nI i))]) zx zb dX9_take_24 rfl hl (by decide) rfl (fun ls hl => ?_)
          refine lv_iinc (v := nI (i + 1)) (lv' := [(3, .int (nI (i + 1))), (2, .int (nI ((2 * v) + (bitAt L (ia + i))))), (0, .ref y0), (1, .int (nI m))]) zx zb dX9_take_25 hl (k := 3) rfl (j_inc _ _ _ (by decide)) (by decide) rfl (fun ls hl => ?_)
          refine lv_goto (tgt := 4) zx zb dX9_take_28 (by decide) ?_
          exact ih4 (i + 1) ((2 * v) + (bitAt L (ia + i))) (by omega) (by rw [nb, ← hv]) (by omega) _ _ _ hI (lv_sub hl [2, 3, 1, 0] rfl)
  exact loop4 _ 0 0 (by omega) rfl (Nat.lt_succ_self _) _ _ _ hI (lv_sub hl [2, 3, 1, 0] rfl)

set_option maxHeartbeats 4000000 in
set_option maxRecDepth 100000 in
theorem c_X9_take_end (zl : Launch) (G : jG) (y0 : Nat) (r1 : Nat) (r2 : Nat) (r3 : Nat) (r4 : Nat) (r5 : Nat) (r6 : Nat) (r7 : Nat) (r8 : Nat) (r9 : Nat) (r10 : Nat) (r11 : Nat) (r12 : Nat) (r13 : Nat) (n : Nat) (la : Nat) (lm : Nat) (lw : Nat) (kn : Nat) (k : Nat) (wp : Nat) (bt : Nat) (pn : Nat) (q : Nat) (th : Nat) (os : Nat) (wz : Nat) (sz : Nat) (ia : Nat) (tz : Int32) (L : Nat → Nat) (m : Nat) (hs : sz ≤ 700) (hLb : ∀ j, j < sz → L j < 256) (hm : m ≤ 16) (hb : ia ≤ 8 * sz) (hi : 8 * sz < ia + m) : jMet zl yX9_take wsX9_take ({ frames := 1, cells := 0, slots := 0, locals := 21 }) G [oC y0 9 [.int (nI 0), .ref r1, .int (nI n), .int (nI la), .int (nI lm), .int (nI lw), .ref r2, .ref r3, .ref r4, .int (nI kn), .ref r5, .ref r6, .ref r7, .int (nI k), .int (nI wp), .int (nI bt), .ref r8, .int (nI pn), .int (nI q), .int (nI th), .ref r9, .int (nI os), .int (nI wz), .ref r10, .int (nI sz), .int (nI ia), .ref r11, .ref r12, .int tz, .ref r13, .int (nI 0)], aI G r10 700 L] [.ref y0, .int (nI m)] (jQi G (fun (r : Int32) (u : Nat) => (r = nI u) ∧ (u < 131072)) (fun (u : Nat) => [oC y0 9 [.int (nI 0), .ref r1, .int (nI n), .int (nI la), .int (nI lm), .int (nI lw), .ref r2, .ref r3, .ref r4, .int (nI kn), .ref r5, .ref r6, .ref r7, .int (nI k), .int (nI wp), .int (nI bt), .ref r8, .int (nI pn), .int (nI q), .int (nI th), .ref r9, .int (nI os), .int (nI wz), .ref r10, .int (nI sz), .int (nI (8 * sz)), .ref r11, .ref r12, .int tz, .ref r13, .int (nI 1)], aI G r10 700 L])) 0 0 := by
  refine j_enter_i (cc := cX9_take) (nL := 4) (nm := "take") (own := RX9) (lv := [(0, .ref y0), (1, .int (nI m))]) (by decide) rfl (Nat.le_of_ble_eq_true rfl) rfl rfl rfl ?_
  intro zA zp ze zs zm zargs zbelow zmeth zc zQ ls hC hQ hI hl
  have zx := hC.1
  have zb := hC.2.1
  refine lv_iconst (v := nI 0) zx zb dX9_take_0 (by decide) ?_
  refine lv_istore_n (lv' := [(2, .int (nI 0)), (0, .ref y0), (1, .int (nI m))]) zx zb dX9_take_1 rfl hl (by decide) rfl (fun ls hl => ?_)
  refine lv_iconst (v := nI 0) zx zb dX9_take_2 (by decide) ?_
  refine lv_istore_n (lv' := [(3, .int (nI 0)), (2, .int (nI 0)), (0, .ref y0), (1, .int (nI m))]) zx zb dX9_take_3 rfl hl (by decide) rfl (fun ls hl => ?_)
  have loop4 : ∀ (zn4 : Nat) (i : Nat) (v : Nat), (i ≤ m ∧ ia + i ≤ 8 * sz) → (v < 2 ^ i) → (m - i) < zn4 → ∀ (H : Heap) (locs : List Loc) (ls : Array Slot), jI G zA zs [oC y0 9 [.int (nI 0), .ref r1, .int (nI n), .int (nI la), .int (nI lm), .int (nI lw), .ref r2, .ref r3, .ref r4, .int (nI kn), .ref r5, .ref r6, .ref r7, .int (nI k), .int (nI wp), .int (nI bt), .ref r8, .int (nI pn), .int (nI q), .int (nI th), .ref r9, .int (nI os), .int (nI wz), .ref r10, .int (nI sz), .int (nI (ia + i)), .ref r11, .ref r12, .int tz, .ref r13, .int (nI 0)], aI G r10 700 L] H locs → lv_has ls 4 [(0, .ref y0), (1, .int (nI m)), (2, .int (nI v)), (3, .int (nI i))] → W zp zl ze ({ frames := 1, cells := 0, slots := 0, locals := 21 }) zs zm zargs zbelow zmeth zc H locs 0 0 zQ (F0 zm 4 ls []) := by
    intro zn4
    induction zn4 with
    | zero => intros; omega
    | succ zn4 ih4 =>
      intro i v hi2 hv zm4 H locs ls hI hl
      have h16 : 2 ^ i ≤ 65536 := Nat.le_trans (Nat.pow_le_pow_right (by decide) (show i ≤ 16 by omega)) (by decide)
      refine lv_iload_n zx zb dX9_take_4 rfl (lv_at hl 3 rfl) ?_
      refine lv_iload_n zx zb dX9_take_5 rfl (lv_at hl 1 rfl) ?_
      refine j_icmp_ge (tgt := 31) hC dX9_take_6 (by decide) (by omega) (by omega) (fun c6 => ?_) (fun c6 => ?_)
      · exact (by omega : False).elim
      · refine lv_aload_n zx zb dX9_take_9 rfl (lv_at hl 0 rfl) ?_
        refine j_get hC hI hin_X9_take_X9 0 rfl rfl 30 (by decide) hfl_X9_take_147 rfl rfl dX9_take_10 ?_
        refine j_if_ne (tgt := 31) hC dX9_take_13 (by decide) (by omega) (fun c13 => ?_) (fun c13 => ?_)
        · exact (by omega : False).elim
        · refine lv_iconst (v := nI 2) zx zb dX9_take_16 (by decide) ?_
          refine lv_iload_n zx zb dX9_take_17 rfl (lv_at hl 2 rfl) ?_
          refine j_imul hC dX9_take_18 ?_
          refine lv_aload_n zx zb dX9_take_19 rfl (lv_at hl 0 rfl) ?_
          rcases Nat.lt_or_ge (ia + i) (8 * sz) with hc | hc
          · have hbl := bitAt_le L (ia + i)
            refine j_callVi (wr := []) hC hI (c_X9_takeBit_ok zl G y0 r1 r2 r3 r4 r5 r6 r7 r8 r9 r10 r11 r12 r13 n la lm lw kn k wp bt pn q th os wz sz (ia + i) 0 tz L (by omega) (by omega) (by omega)) (cwV 0 hC.2.2.2.2.1 gX9_take_X9_takeBit rfl rfl rfl (by decide +kernel) ⟨Nat.le_of_ble_eq_true rfl, Nat.le_of_ble_eq_true rfl⟩) [0, 1] [] rfl rfl rfl rfl rfl rfl (q0 := 0) rfl rfl rfl hl.1 (Nat.le_of_ble_eq_true rfl) dX9_take_20 ⟨Nat.le_of_ble_eq_true rfl, Nat.le_of_ble_eq_true rfl⟩ (fun rv20 u20 H locs hp20 hI => ?_)
            have hI : jI G zA zs [oC y0 9 [.int (nI 0), .ref r1, .int (nI n), .int (nI la), .int (nI lm), .int (nI lw), .ref r2, .ref r3, .ref r4, .int (nI kn), .ref r5, .ref r6, .ref r7, .int (nI k), .int (nI wp), .int (nI bt), .ref r8, .int (nI pn), .int (nI q), .int (nI th), .ref r9, .int (nI os), .int (nI wz), .ref r10, .int (nI sz), .int (nI ((ia + i) + 1)), .ref r11, .ref r12, .int tz, .ref r13, .int (nI 0)], aI G r10 700 L] H locs := hI
            subst hp20
            refine j_iadd hC dX9_take_23 ?_
            refine lv_istore_n (lv' := [(2, .int (nI ((2 * v) + (bitAt L (ia + i))))), (0, .ref y0), (1, .int (nI m)), (3, .int (nI i))]) zx zb dX9_take_24 rfl hl (by decide) rfl (fun ls hl => ?_)
            refine lv_iinc (v := nI (i + 1)) (lv' := [(3, .int (nI (i + 1))), (2, .int (nI ((2 * v) + (bitAt L (ia + i))))), (0, .ref y0), (1, .int (nI m))]) zx zb dX9_take_25 hl (k := 3) rfl (j_inc _ _ _ (by decide)) (by decide) rfl (fun ls hl => ?_)
            refine lv_goto (tgt := 4) zx zb dX9_take_28 (by decide) ?_
            exact ih4 (i + 1) ((2 * v) + (bitAt L (ia + i))) (by omega) (by rw [Nat.pow_succ]; omega) (by omega) _ _ _ hI (lv_sub hl [2, 3, 1, 0] rfl)
          · refine j_callVi (wr := [aI G r10 700 L]) hC hI (c_X9_takeBit_end zl G y0 r1 r2 r3 r4 r5 r6 r7 r8 r9 r10 r11 r12 r13 n la lm lw kn k wp bt pn q th os wz sz (ia + i) tz (by omega) (by omega)) (cwV 0 hC.2.2.2.2.1 gX9_take_X9_takeBit rfl rfl rfl (by decide +kernel) ⟨Nat.le_of_ble_eq_true rfl, Nat.le_of_ble_eq_true rfl⟩) [0] [1] rfl rfl rfl rfl rfl rfl (q0 := 0) rfl rfl rfl hl.1 (Nat.le_of_ble_eq_true rfl) dX9_take_20 ⟨Nat.le_of_ble_eq_true rfl, Nat.le_of_ble_eq_true rfl⟩ (fun rv20 u20 H locs hp20 hI => ?_)
            have hI : jI G zA zs [aI G r10 700 L, oC y0 9 [.int (nI 0), .ref r1, .int (nI n), .int (nI la), .int (nI lm), .int (nI lw), .ref r2, .ref r3, .ref r4, .int (nI kn), .ref r5, .ref r6, .ref r7, .int (nI k), .int (nI wp), .int (nI bt), .ref r8, .int (nI pn), .int (nI q), .int (nI th), .ref r9, .int (nI os), .int (nI wz), .ref r10, .int (nI sz), .int (nI (ia + i)), .ref r11, .ref r12, .int tz, .ref r13, .int (nI 1)]] H locs := hI
            subst hp20
            refine j_iadd hC dX9_take_23 ?_
            refine lv_istore_n (lv' := [(2, .int (nI ((2 * v) + 0))), (0, .ref y0), (1, .int (nI m)), (3, .int (nI i))]) zx zb dX9_take_24 rfl hl (by decide) rfl (fun ls hl => ?_)
            refine lv_iinc (v := nI (i + 1)) (lv' := [(3, .int (nI (i + 1))), (2, .int (nI ((2 * v) + 0))), (0, .ref y0), (1, .int (nI m))]) zx zb dX9_take_25 hl (k := 3) rfl (j_inc _ _ _ (by decide)) (by decide) rfl (fun ls hl => ?_)
            refine lv_goto (tgt := 4) zx zb dX9_take_28 (by decide) ?_
            refine lv_iload_n zx zb dX9_take_4 rfl (lv_at hl 0 rfl) ?_
            refine lv_iload_n zx zb dX9_take_5 rfl (lv_at hl 3 rfl) ?_
            refine j_icmp_ge (tgt := 31) hC dX9_take_6 (by decide) (by omega) (by omega) (fun c6 => ?_) (fun c6 => ?_)
            · refine lv_iload_n zx zb dX9_take_31 rfl (lv_at hl 1 rfl) ?_
              exact hQ _ _ _ _ _ ((2 * v) + 0) dX9_take_32 (hI.sub [1, 0] rfl (by rw [show ia + i = 8 * sz by omega]; rfl)) ⟨(by first | rfl | (congr 1; omega) | omega), (by omega)⟩
            · refine lv_aload_n zx zb dX9_take_9 rfl (lv_at hl 2 rfl) ?_
              refine j_get hC hI hin_X9_take_X9 1 rfl rfl 30 (by decide) hfl_X9_take_147 rfl rfl dX9_take_10 ?_
              refine j_if_ne (tgt := 31) hC dX9_take_13 (by decide) (by omega) (fun c13 => ?_) (fun c13 => ?_)
              · refine lv_iload_n zx zb dX9_take_31 rfl (lv_at hl 1 rfl) ?_
                exact hQ _ _ _ _ _ ((2 * v) + 0) dX9_take_32 (hI.sub [1, 0] rfl (by rw [show ia + i = 8 * sz by omega]; rfl)) ⟨(by first | rfl | (congr 1; omega) | omega), (by omega)⟩
              · exact (by omega : False).elim
  exact loop4 _ 0 0 (by omega) (by decide) (Nat.lt_succ_self _) _ _ _ hI (lv_sub hl [2, 3, 1, 0] rfl)

theorem hin_X9_need_X9 : ∀ w ∈ wsX90, w ∈ wsX9_need := by decide +kernel
theorem hfl_X9_need_147 : Cond.fieldLink RX9 147 "CheapParseModel" "fault" "I" ∈ wsX9_need := by decide +kernel
set_option maxHeartbeats 4000000 in
set_option maxRecDepth 100000 in
theorem c_X9_need_set (zl : Launch) (G : jG) (y0 : Nat) (r1 : Nat) (r2 : Nat) (r3 : Nat) (r4 : Nat) (r5 : Nat) (r6 : Nat) (r7 : Nat) (r8 : Nat) (r9 : Nat) (r10 : Nat) (r11 : Nat) (r12 : Nat) (r13 : Nat) (n : Nat) (la : Nat) (lm : Nat) (lw : Nat) (kn : Nat) (k : Nat) (wp : Nat) (bt : Nat) (pn : Nat) (q : Nat) (th : Nat) (os : Nat) (wz : Nat) (sz : Nat) (ia : Nat) (tz : Int32) (c : Nat)  : jMet zl yX9_need wsX9_need ({ frames := 0, cells := 0, slots := 0, locals := 0 }) G [oC y0 9 [.int (nI 0), .ref r1, .int (nI n), .int (nI la), .int (nI lm), .int (nI lw), .ref r2, .ref r3, .ref r4, .int (nI kn), .ref r5, .ref r6, .ref r7, .int (nI k), .int (nI wp), .int (nI bt), .ref r8, .int (nI pn), .int (nI q), .int (nI th), .ref r9, .int (nI os), .int (nI wz), .ref r10, .int (nI sz), .int (nI ia), .ref r11, .ref r12, .int tz, .ref r13, .int (nI 0)]] [.ref y0, .int (nI 0), .int (nI c)] (jQv G (fun (u : Unit) => True) (fun (u : Unit) => [oC y0 9 [.int (nI 0), .ref r1, .int (nI n), .int (nI la), .int (nI lm), .int (nI lw), .ref r2, .ref r3, .ref r4, .int (nI kn), .ref r5, .ref r6, .ref r7, .int (nI k), .int (nI wp), .int (nI bt), .ref r8, .int (nI pn), .int (nI q), .int (nI th), .ref r9, .int (nI os), .int (nI wz), .ref r10, .int (nI sz), .int (nI ia), .ref r11, .ref r12, .int tz, .ref r13, .int (nI c)]])) 0 0 := by
  refine j_enter_v (cc := cX9_need) (nL := 3) (nm := "need") (own := RX9) (lv := [(0, .ref y0), (1, .int (nI 0)), (2, .int (nI c))]) (by decide) rfl (Nat.le_of_ble_eq_true rfl) rfl rfl rfl ?_
  intro zA zp ze zs zm zargs zbelow zmeth zc zQ ls hC hQ hI hl
  have zx := hC.1
  have zb := hC.2.1
  refine lv_aload_n zx zb dX9_need_0 rfl (lv_at hl 0 rfl) ?_
  refine lv_aload_n zx zb dX9_need_1 rfl (lv_at hl 0 rfl) ?_
  refine j_get hC hI hin_X9_need_X9 0 rfl rfl 30 (by decide) hfl_X9_need_147 rfl rfl dX9_need_2 ?_
  refine j_if_ne (tgt := 16) hC dX9_need_5 (by decide) (by omega) (fun c5 => ?_) (fun c5 => ?_)
  · exact (by omega : False).elim
  · refine lv_iload_n zx zb dX9_need_8 rfl (lv_at hl 1 rfl) ?_
    refine j_if_ne (tgt := 16) hC dX9_need_9 (by decide) (by omega) (fun c9 => ?_) (fun c9 => ?_)
    · exact (by omega : False).elim
    · refine lv_iload_n zx zb dX9_need_12 rfl (lv_at hl 2 rfl) ?_
      refine lv_goto (tgt := 20) zx zb dX9_need_13 (by decide) ?_
      refine j_put (w1 := [oC y0 9 [.int (nI 0), .ref r1, .int (nI n), .int (nI la), .int (nI lm), .int (nI lw), .ref r2, .ref r3, .ref r4, .int (nI kn), .ref r5, .ref r6, .ref r7, .int (nI k), .int (nI wp), .int (nI bt), .ref r8, .int (nI pn), .int (nI q), .int (nI th), .ref r9, .int (nI os), .int (nI wz), .ref r10, .int (nI sz), .int (nI ia), .ref r11, .ref r12, .int tz, .ref r13, .int (nI c)]]) hC hI hin_X9_need_X9 tyX9 tyX9_ok nmX9 0 rfl rfl 30 (by decide) hfl_X9_need_147 rfl rfl rfl rfl (Nat.le_of_ble_eq_true rfl) dX9_need_20 rfl (fun H locs hI => ?_)
      exact hQ _ _ _ _ () dX9_need_23 (hI.sub [0] rfl rfl) trivial

set_option maxHeartbeats 4000000 in
set_option maxRecDepth 100000 in
theorem c_X9_need_keep (zl : Launch) (G : jG) (y0 : Nat) (r1 : Nat) (r2 : Nat) (r3 : Nat) (r4 : Nat) (r5 : Nat) (r6 : Nat) (r7 : Nat) (r8 : Nat) (r9 : Nat) (r10 : Nat) (r11 : Nat) (r12 : Nat) (r13 : Nat) (n : Nat) (la : Nat) (lm : Nat) (lw : Nat) (kn : Nat) (k : Nat) (wp : Nat) (bt : Nat) (pn : Nat) (q : Nat) (th : Nat) (os : Nat) (wz : Nat) (sz : Nat) (ia : Nat) (ft : Nat) (tz : Int32) (b : Nat) (c : Nat) (hb : ft ≠ 0 ∨ b ≠ 0) (hb2 : b ≤ 1 ∧ ft ≤ 5) : jMet zl yX9_need wsX9_need ({ frames := 0, cells := 0, slots := 0, locals := 0 }) G [oC y0 9 [.int (nI 0), .ref r1, .int (nI n), .int (nI la), .int (nI lm), .int (nI lw), .ref r2, .ref r3, .ref r4, .int (nI kn), .ref r5, .ref r6, .ref r7, .int (nI k), .int (nI wp), .int (nI bt), .ref r8, .int (nI pn), .int (nI q), .int (nI th), .ref r9, .int (nI os), .int (nI wz), .ref r10, .int (nI sz), .int (nI ia), .ref r11, .ref r12, .int tz, .ref r13, .int (nI ft)]] [.ref y0, .int (nI b), .int (nI c)] (jQv G (fun (u : Unit) => True) (fun (u : Unit) => [oC y0 9 [.int (nI 0), .ref r1, .int (nI n), .int (nI la), .int (nI lm), .int (nI lw), .ref r2, .ref r3, .ref r4, .int (nI kn), .ref r5, .ref r6, .ref r7, .int (nI k), .int (nI wp), .int (nI bt), .ref r8, .int (nI pn), .int (nI q), .int (nI th), .ref r9, .int (nI os), .int (nI wz), .ref r10, .int (nI sz), .int (nI ia), .ref r11, .ref r12, .int tz, .ref r13, .int (nI ft)]])) 0 0 := by
  refine j_enter_v (cc := cX9_need) (nL := 3) (nm := "need") (own := RX9) (lv := [(0, .ref y0), (1, .int (nI b)), (2, .int (nI c))]) (by decide) rfl (Nat.le_of_ble_eq_true rfl) rfl rfl rfl ?_
  intro zA zp ze zs zm zargs zbelow zmeth zc zQ ls hC hQ hI hl
  have zx := hC.1
  have zb := hC.2.1
  refine lv_aload_n zx zb dX9_need_0 rfl (lv_at hl 0 rfl) ?_
  refine lv_aload_n zx zb dX9_need_1 rfl (lv_at hl 0 rfl) ?_
  refine j_get hC hI hin_X9_need_X9 0 rfl rfl 30 (by decide) hfl_X9_need_147 rfl rfl dX9_need_2 ?_
  refine j_if_ne (tgt := 16) hC dX9_need_5 (by decide) (by omega) (fun c5 => ?_) (fun c5 => ?_)
  · refine lv_aload_n zx zb dX9_need_16 rfl (lv_at hl 0 rfl) ?_
    refine j_get hC hI hin_X9_need_X9 0 rfl rfl 30 (by decide) hfl_X9_need_147 rfl rfl dX9_need_17 ?_
    refine j_put (w1 := [oC y0 9 [.int (nI 0), .ref r1, .int (nI n), .int (nI la), .int (nI lm), .int (nI lw), .ref r2, .ref r3, .ref r4, .int (nI kn), .ref r5, .ref r6, .ref r7, .int (nI k), .int (nI wp), .int (nI bt), .ref r8, .int (nI pn), .int (nI q), .int (nI th), .ref r9, .int (nI os), .int (nI wz), .ref r10, .int (nI sz), .int (nI ia), .ref r11, .ref r12, .int tz, .ref r13, .int (nI ft)]]) hC hI hin_X9_need_X9 tyX9 tyX9_ok nmX9 0 rfl rfl 30 (by decide) hfl_X9_need_147 rfl rfl rfl rfl (Nat.le_of_ble_eq_true rfl) dX9_need_20 rfl (fun H locs hI => ?_)
    exact hQ _ _ _ _ () dX9_need_23 (hI.sub [0] rfl rfl) trivial
  · refine lv_iload_n zx zb dX9_need_8 rfl (lv_at hl 1 rfl) ?_
    refine j_if_ne (tgt := 16) hC dX9_need_9 (by decide) (by omega) (fun c9 => ?_) (fun c9 => ?_)
    · refine lv_aload_n zx zb dX9_need_16 rfl (lv_at hl 0 rfl) ?_
      refine j_get hC hI hin_X9_need_X9 0 rfl rfl 30 (by decide) hfl_X9_need_147 rfl rfl dX9_need_17 ?_
      refine j_put (w1 := [oC y0 9 [.int (nI 0), .ref r1, .int (nI n), .int (nI la), .int (nI lm), .int (nI lw), .ref r2, .ref r3, .ref r4, .int (nI kn), .ref r5, .ref r6, .ref r7, .int (nI k), .int (nI wp), .int (nI bt), .ref r8, .int (nI pn), .int (nI q), .int (nI th), .ref r9, .int (nI os), .int (nI wz), .ref r10, .int (nI sz), .int (nI ia), .ref r11, .ref r12, .int tz, .ref r13, .int (nI ft)]]) hC hI hin_X9_need_X9 tyX9 tyX9_ok nmX9 0 rfl rfl 30 (by decide) hfl_X9_need_147 rfl rfl rfl rfl (Nat.le_of_ble_eq_true rfl) dX9_need_20 rfl (fun H locs hI => ?_)
      exact hQ _ _ _ _ () dX9_need_23 (hI.sub [0] rfl rfl) trivial
    · exact (by omega : False).elim

theorem hin_X9_takeMatch_X9 : ∀ w ∈ wsX90, w ∈ wsX9_takeMatch := by decide +kernel
theorem hfl_X9_takeMatch_147 : Cond.fieldLink RX9 147 "CheapParseModel" "fault" "I" ∈ wsX9_takeMatch := by decide +kernel
theorem hfl_X9_takeMatch_20 : Cond.fieldLink RX9 20 "CheapParseModel" "window" "I" ∈ wsX9_takeMatch := by decide +kernel
theorem hfl_X9_takeMatch_17 : Cond.fieldLink RX9 17 "CheapParseModel" "most" "I" ∈ wsX9_takeMatch := by decide +kernel
theorem hfl_X9_takeMatch_13 : Cond.fieldLink RX9 13 "CheapParseModel" "least" "I" ∈ wsX9_takeMatch := by decide +kernel
theorem hfl_X9_takeMatch_53 : Cond.fieldLink RX9 53 "CheapParseModel" "draft" "[I" ∈ wsX9_takeMatch := by decide +kernel
set_option maxHeartbeats 4000000 in
set_option maxRecDepth 100000 in
theorem c_X9_takeMatch (zl : Launch) (G : jG) (y0 : Nat) (r1 : Nat) (r2 : Nat) (r3 : Nat) (r4 : Nat) (r5 : Nat) (r6 : Nat) (r7 : Nat) (r8 : Nat) (r9 : Nat) (r10 : Nat) (r11 : Nat) (r12 : Nat) (r13 : Nat) (n : Nat) (la : Nat) (lm : Nat) (lw : Nat) (kn : Nat) (k : Nat) (wp : Nat) (bt : Nat) (pn : Nat) (q : Nat) (th : Nat) (os : Nat) (wz : Nat) (sz : Nat) (ia : Nat) (tz : Int32) (L : Nat → Nat) (f : Nat → Nat) (m : Nat) (all : Nat) (hs : sz ≤ 700) (hLb : ∀ j, j < sz → L j < 256) (hb : ia ≤ 8 * sz) (hl0 : 1 ≤ la ∧ la ≤ lm ∧ lm ≤ 255 ∧ lw ≤ 500) (hall : m ≤ all ∧ all ≤ 500) (hf : ∀ j, j < m → f j < 256) : jMet zl yX9_takeMatch wsX9_takeMatch ({ frames := 2, cells := 0, slots := 0, locals := 44 }) G [oC y0 9 [.int (nI 0), .ref r1, .int (nI n), .int (nI la), .int (nI lm), .int (nI lw), .ref r2, .ref r3, .ref r4, .int (nI kn), .ref r5, .ref r6, .ref r7, .int (nI k), .int (nI wp), .int (nI bt), .ref r8, .int (nI pn), .int (nI q), .int (nI th), .ref r9, .int (nI os), .int (nI wz), .ref r10, .int (nI sz), .int (nI ia), .ref r11, .ref r12, .int tz, .ref r13, .int (nI 0)], aI G r10 700 L, aI G r11 500 f] [.ref y0, .int (nI m), .int (nI all)] (jQi G (fun (r : Int32) (u : Nat × Nat × Nat × (Nat → Nat)) => (r = nI u.1) ∧ (u.2.1 = (rdM L (8 * sz) la lm lw all ia m f).1 ∧ u.2.1 ≤ 5) ∧ (u.2.2.1 ≤ 8 * sz ∧ u.1 ≤ 200000) ∧ (u.2.1 = 0 → u.2.2.1 = (rdM L (8 * sz) la lm lw all ia m f).2.1 ∧ m + u.1 = (rdM L (8 * sz) la lm lw all ia m f).2.2.1 ∧ u.2.2.2 = (rdM L (8 * sz) la lm lw all ia m f).2.2.2) ∧ (u.2.1 = 0 → ∀ j, j < m + u.1 → u.2.2.2 j < 256) ∧ (u.2.1 = 0 → m + u.1 ≤ all)) (fun (u : Nat × Nat × Nat × (Nat → Nat)) => [oC y0 9 [.int (nI 0), .ref r1, .int (nI n), .int (nI la), .int (nI lm), .int (nI lw), .ref r2, .ref r3, .ref r4, .int (nI kn), .ref r5, .ref r6, .ref r7, .int (nI k), .int (nI wp), .int (nI bt), .ref r8, .int (nI pn), .int (nI q), .int (nI th), .ref r9, .int (nI os), .int (nI wz), .ref r10, .int (nI sz), .int (nI u.2.2.1), .ref r11, .ref r12, .int tz, .ref r13, .int (nI u.2.1)], aI G r10 700 L, aI G r11 500 u.2.2.2])) 0 0 := by
  refine j_enter_i (cc := cX9_takeMatch) (nL := 8) (nm := "takeMatch") (own := RX9) (lv := [(0, .ref y0), (1, .int (nI m)), (2, .int (nI all))]) (by decide) rfl (Nat.le_of_ble_eq_true rfl) rfl rfl rfl ?_
  intro zA zp ze zs zm zargs zbelow zmeth zc zQ ls hC hQ hI hl
  have zx := hC.1
  have zb := hC.2.1
  have hzl := zer_le L (min 9 (8 * sz - ia)) ia
  have loop167 : ∀ (x : Nat) (fv : Nat) (ia2 : Nat) (d : Nat), (fv = (rdM L (8 * sz) la lm lw all ia m f).1 ∧ fv ≠ 0 ∧ fv ≤ 5) → (x ≤ 200000 ∧ ia2 ≤ 8 * sz) → ∀ (H : Heap) (locs : List Loc) (ls : Array Slot), jI G zA zs [oC y0 9 [.int (nI 0), .ref r1, .int (nI n), .int (nI la), .int (nI lm), .int (nI lw), .ref r2, .ref r3, .ref r4, .int (nI kn), .ref r5, .ref r6, .ref r7, .int (nI k), .int (nI wp), .int (nI bt), .ref r8, .int (nI pn), .int (nI q), .int (nI th), .ref r9, .int (nI os), .int (nI wz), .ref r10, .int (nI sz), .int (nI ia2), .ref r11, .ref r12, .int tz, .ref r13, .int (nI fv)], aI G r10 700 L, aI G r11 500 f] H locs → lv_has ls 8 [(0, .ref y0), (1, .int (nI m)), (2, .int (nI all)), (4, .int (nI x)), (6, .int (nI d))] → W zp zl ze ({ frames := 2, cells := 0, slots := 0, locals := 44 }) zs zm zargs zbelow zmeth zc H locs 0 0 zQ (F0 zm 167 ls []) := by
    intro x fv ia2 d hf1 hx1 H locs ls hI hl
    refine lv_iconst (v := nI 0) zx zb dX9_takeMatch_167 (by decide) ?_
    refine lv_istore (lv' := [(7, .int (nI 0)), (0, .ref y0), (1, .int (nI m)), (2, .int (nI all)), (4, .int (nI x)), (6, .int (nI d))]) zx zb dX9_takeMatch_168 hl (by decide) rfl (fun ls hl => ?_)
    refine lv_iload zx zb dX9_takeMatch_170 (lv_at hl 0 rfl) ?_
    refine lv_iload zx zb dX9_takeMatch_172 (lv_at hl 4 rfl) ?_
    refine j_icmp_ge (tgt := 211) hC dX9_takeMatch_174 (by decide) (by omega) (by omega) (fun c174 => ?_) (fun c174 => ?_)
    · refine lv_iload zx zb dX9_takeMatch_211 (lv_at hl 4 rfl) ?_
      exact hQ _ _ _ _ _ ⟨x, fv, ia2, f⟩ dX9_takeMatch_213 (hI.sub [0, 1, 2] rfl rfl) (by (try dsimp only); exact ⟨(by first | rfl | (congr 1; omega) | omega), (by omega), (by omega), (fun h => by omega), (fun h => by omega), (fun h => by omega)⟩)
    · refine lv_aload_n zx zb dX9_takeMatch_177 rfl (lv_at hl 1 rfl) ?_
      refine j_get hC hI hin_X9_takeMatch_X9 0 rfl rfl 30 (by decide) hfl_X9_takeMatch_147 rfl rfl dX9_takeMatch_178 ?_
      refine j_if_ne (tgt := 211) hC dX9_takeMatch_181 (by decide) (by omega) (fun c181 => ?_) (fun c181 => ?_)
      · refine lv_iload zx zb dX9_takeMatch_211 (lv_at hl 4 rfl) ?_
        exact hQ _ _ _ _ _ ⟨x, fv, ia2, f⟩ dX9_takeMatch_213 (hI.sub [0, 1, 2] rfl rfl) (by (try dsimp only); exact ⟨(by first | rfl | (congr 1; omega) | omega), (by omega), (by omega), (fun h => by omega), (fun h => by omega), (fun h => by omega)⟩)
      · exact (by omega : False).elim
  have loop100 : ∀ (x : Nat) (fv : Nat) (ia2 : Nat), (fv = (rdM L (8 * sz) la lm lw all ia m f).1 ∧ fv ≠ 0 ∧ fv ≤ 5) → (x ≤ 200000 ∧ ia2 ≤ 8 * sz) → ∀ (H : Heap) (locs : List Loc) (ls : Array Slot), jI G zA zs [oC y0 9 [.int (nI 0), .ref r1, .int (nI n), .int (nI la), .int (nI lm), .int (nI lw), .ref r2, .ref r3, .ref r4, .int (nI kn), .ref r5, .ref r6, .ref r7, .int (nI k), .int (nI wp), .int (nI bt), .ref r8, .int (nI pn), .int (nI q), .int (nI th), .ref r9, .int (nI os), .int (nI wz), .ref r10, .int (nI sz), .int (nI ia2), .ref r11, .ref r12, .int tz, .ref r13, .int (nI fv)], aI G r10 700 L, aI G r11 500 f] H locs → lv_has ls 8 [(0, .ref y0), (1, .int (nI m)), (2, .int (nI all)), (4, .int (nI x))] → W zp zl ze ({ frames := 2, cells := 0, slots := 0, locals := 44 }) zs zm zargs zbelow zmeth zc H locs 0 0 zQ (F0 zm 100 ls []) := by
    intro x fv ia2 hf1 hx1 H locs ls hI hl
    refine lv_aload_n zx zb dX9_takeMatch_100 rfl (lv_at hl 0 rfl) ?_
    refine j_get hC hI hin_X9_takeMatch_X9 0 rfl rfl 30 (by decide) hfl_X9_takeMatch_147 rfl rfl dX9_takeMatch_101 ?_
    refine j_if_ne (tgt := 115) hC dX9_takeMatch_104 (by decide) (by omega) (fun c104 => ?_) (fun c104 => ?_)
    · refine lv_iconst (v := nI 0) zx zb dX9_takeMatch_115 (by decide) ?_
      refine lv_istore (lv' := [(5, .int (nI 0)), (0, .ref y0), (1, .int (nI m)), (2, .int (nI all)), (4, .int (nI x))]) zx zb dX9_takeMatch_116 hl (by decide) rfl (fun ls hl => ?_)
      refine lv_aload_n zx zb dX9_takeMatch_118 rfl (lv_at hl 1 rfl) ?_
      refine j_get hC hI hin_X9_takeMatch_X9 0 rfl rfl 30 (by decide) hfl_X9_takeMatch_147 rfl rfl dX9_takeMatch_119 ?_
      refine j_if_ne (tgt := 139) hC dX9_takeMatch_122 (by decide) (by omega) (fun c122 => ?_) (fun c122 => ?_)
      · refine lv_iconst (v := nI 1) zx zb dX9_takeMatch_139 (by decide) ?_
        refine lv_istore (lv' := [(6, .int (nI 1)), (5, .int (nI 0)), (0, .ref y0), (1, .int (nI m)), (2, .int (nI all)), (4, .int (nI x))]) zx zb dX9_takeMatch_140 hl (by decide) rfl (fun ls hl => ?_)
        refine lv_aload_n zx zb dX9_takeMatch_142 rfl (lv_at hl 2 rfl) ?_
        refine lv_iload zx zb dX9_takeMatch_143 (lv_at hl 0 rfl) ?_
        refine lv_aload_n zx zb dX9_takeMatch_145 rfl (lv_at hl 2 rfl) ?_
        refine j_get hC hI hin_X9_takeMatch_X9 0 rfl rfl 5 (by decide) hfl_X9_takeMatch_20 rfl rfl dX9_takeMatch_146 ?_
        refine j_icmp_gt (tgt := 162) hC dX9_takeMatch_149 (by decide) (by omega) (by omega) (fun c149 => ?_) (fun c149 => ?_)
        · refine lv_iconst (v := nI 0) zx zb dX9_takeMatch_162 (by decide) ?_
          refine lv_iconst (v := nI 4) zx zb dX9_takeMatch_163 (by decide) ?_
          refine j_callVv (wr := [aI G r10 700 L, aI G r11 500 f]) hC hI (c_X9_need_keep zl G y0 r1 r2 r3 r4 r5 r6 r7 r8 r9 r10 r11 r12 r13 n la lm lw kn k wp bt pn q th os wz sz ia2 fv tz 0 4 (by omega) (by omega)) (cwV 2 hC.2.2.2.2.1 gX9_takeMatch_X9_need rfl rfl rfl (by decide +kernel) ⟨Nat.le_of_ble_eq_true rfl, Nat.le_of_ble_eq_true rfl⟩) [0] [1, 2] rfl rfl rfl rfl rfl rfl (q0 := 0) rfl rfl rfl hl.1 (Nat.le_of_ble_eq_true rfl) dX9_takeMatch_164 ⟨Nat.le_of_ble_eq_true rfl, Nat.le_of_ble_eq_true rfl⟩ (fun u164 H locs hp164 hI => ?_)
          have hI : jI G zA zs [aI G r10 700 L, aI G r11 500 f, oC y0 9 [.int (nI 0), .ref r1, .int (nI n), .int (nI la), .int (nI lm), .int (nI lw), .ref r2, .ref r3, .ref r4, .int (nI kn), .ref r5, .ref r6, .ref r7, .int (nI k), .int (nI wp), .int (nI bt), .ref r8, .int (nI pn), .int (nI q), .int (nI th), .ref r9, .int (nI os), .int (nI wz), .ref r10, .int (nI sz), .int (nI ia2), .ref r11, .ref r12, .int tz, .ref r13, .int (nI fv)]] H locs := hI
          exact loop167 x fv ia2 1 (by omega) (by omega)  _ _ _ (hI.sub [2, 0, 1] rfl rfl) (lv_sub hl [2, 3, 4, 5, 0] rfl)
        · refine lv_iload zx zb dX9_takeMatch_152 (lv_at hl 0 rfl) ?_
          refine lv_iload_n zx zb dX9_takeMatch_154 rfl (lv_at hl 3 rfl) ?_
          refine j_icmp_gt (tgt := 162) hC dX9_takeMatch_155 (by decide) (by omega) (by omega) (fun c155 => ?_) (fun c155 => ?_)
          · refine lv_iconst (v := nI 0) zx zb dX9_takeMatch_162 (by decide) ?_
            refine lv_iconst (v := nI 4) zx zb dX9_takeMatch_163 (by decide) ?_
            refine j_callVv (wr := [aI G r10 700 L, aI G r11 500 f]) hC hI (c_X9_need_keep zl G y0 r1 r2 r3 r4 r5 r6 r7 r8 r9 r10 r11 r12 r13 n la lm lw kn k wp bt pn q th os wz sz ia2 fv tz 0 4 (by omega) (by omega)) (cwV 2 hC.2.2.2.2.1 gX9_takeMatch_X9_need rfl rfl rfl (by decide +kernel) ⟨Nat.le_of_ble_eq_true rfl, Nat.le_of_ble_eq_true rfl⟩) [0] [1, 2] rfl rfl rfl rfl rfl rfl (q0 := 0) rfl rfl rfl hl.1 (Nat.le_of_ble_eq_true rfl) dX9_takeMatch_164 ⟨Nat.le_of_ble_eq_true rfl, Nat.le_of_ble_eq_true rfl⟩ (fun u164 H locs hp164 hI => ?_)
            have hI : jI G zA zs [aI G r10 700 L, aI G r11 500 f, oC y0 9 [.int (nI 0), .ref r1, .int (nI n), .int (nI la), .int (nI lm), .int (nI lw), .ref r2, .ref r3, .ref r4, .int (nI kn), .ref r5, .ref r6, .ref r7, .int (nI k), .int (nI wp), .int (nI bt), .ref r8, .int (nI pn), .int (nI q), .int (nI th), .ref r9, .int (nI os), .int (nI wz), .ref r10, .int (nI sz), .int (nI ia2), .ref r11, .ref r12, .int tz, .ref r13, .int (nI fv)]] H locs := hI
            exact loop167 x fv ia2 1 (by omega) (by omega)  _ _ _ (hI.sub [2, 0, 1] rfl rfl) (lv_sub hl [2, 3, 4, 5, 0] rfl)
          · refine lv_iconst (v := nI 1) zx zb dX9_takeMatch_158 (by decide) ?_
            refine lv_goto (tgt := 163) zx zb dX9_takeMatch_159 (by decide) ?_
            refine lv_iconst (v := nI 4) zx zb dX9_takeMatch_163 (by decide) ?_
            refine j_callVv (wr := [aI G r10 700 L, aI G r11 500 f]) hC hI (c_X9_need_keep zl G y0 r1 r2 r3 r4 r5 r6 r7 r8 r9 r10 r11 r12 r13 n la lm lw kn k wp bt pn q th os wz sz ia2 fv tz 1 4 (by omega) (by omega)) (cwV 2 hC.2.2.2.2.1 gX9_takeMatch_X9_need rfl rfl rfl (by decide +kernel) ⟨Nat.le_of_ble_eq_true rfl, Nat.le_of_ble_eq_true rfl⟩) [0] [1, 2] rfl rfl rfl rfl rfl rfl (q0 := 0) rfl rfl rfl hl.1 (Nat.le_of_ble_eq_true rfl) dX9_takeMatch_164 ⟨Nat.le_of_ble_eq_true rfl, Nat.le_of_ble_eq_true rfl⟩ (fun u164 H locs hp164 hI => ?_)
            have hI : jI G zA zs [aI G r10 700 L, aI G r11 500 f, oC y0 9 [.int (nI 0), .ref r1, .int (nI n), .int (nI la), .int (nI lm), .int (nI lw), .ref r2, .ref r3, .ref r4, .int (nI kn), .ref r5, .ref r6, .ref r7, .int (nI k), .int (nI wp), .int (nI bt), .ref r8, .int (nI pn), .int (nI q), .int (nI th), .ref r9, .int (nI os), .int (nI wz), .ref r10, .int (nI sz), .int (nI ia2), .ref r11, .ref r12, .int tz, .ref r13, .int (nI fv)]] H locs := hI
            exact loop167 x fv ia2 1 (by omega) (by omega)  _ _ _ (hI.sub [2, 0, 1] rfl rfl) (lv_sub hl [2, 3, 4, 5, 0] rfl)
      · exact (by omega : False).elim
    · exact (by omega : False).elim
  have loop71 : ∀ (x : Nat) (fv : Nat) (ia2 : Nat), (fv = (rdM L (8 * sz) la lm lw all ia m f).1 ∧ fv ≠ 0 ∧ fv ≤ 5) → (x ≤ 200000 ∧ ia2 ≤ 8 * sz) → ∀ (H : Heap) (locs : List Loc) (ls : Array Slot), jI G zA zs [oC y0 9 [.int (nI 0), .ref r1, .int (nI n), .int (nI la), .int (nI lm), .int (nI lw), .ref r2, .ref r3, .ref r4, .int (nI kn), .ref r5, .ref r6, .ref r7, .int (nI k), .int (nI wp), .int (nI bt), .ref r8, .int (nI pn), .int (nI q), .int (nI th), .ref r9, .int (nI os), .int (nI wz), .ref r10, .int (nI sz), .int (nI ia2), .ref r11, .ref r12, .int tz, .ref r13, .int (nI fv)], aI G r10 700 L, aI G r11 500 f] H locs → lv_has ls 8 [(0, .ref y0), (1, .int (nI m)), (2, .int (nI all))] → W zp zl ze ({ frames := 2, cells := 0, slots := 0, locals := 44 }) zs zm zargs zbelow zmeth zc H locs 0 0 zQ (F0 zm 71 ls [.int (nI x)]) := by
    intro x fv ia2 hf1 hx1 H locs ls hI hl
    refine lv_istore (lv' := [(4, .int (nI x)), (0, .ref y0), (1, .int (nI m)), (2, .int (nI all))]) zx zb dX9_takeMatch_71 hl (by decide) rfl (fun ls hl => ?_)
    refine lv_aload_n zx zb dX9_takeMatch_73 rfl (lv_at hl 1 rfl) ?_
    refine lv_iload zx zb dX9_takeMatch_74 (lv_at hl 0 rfl) ?_
    refine lv_aload_n zx zb dX9_takeMatch_76 rfl (lv_at hl 1 rfl) ?_
    refine j_get hC hI hin_X9_takeMatch_X9 0 rfl rfl 4 (by decide) hfl_X9_takeMatch_17 rfl rfl dX9_takeMatch_77 ?_
    refine j_icmp_gt (tgt := 95) hC dX9_takeMatch_80 (by decide) (by omega) (by omega) (fun c80 => ?_) (fun c80 => ?_)
    · refine lv_iconst (v := nI 0) zx zb dX9_takeMatch_95 (by decide) ?_
      refine lv_iconst (v := nI 3) zx zb dX9_takeMatch_96 (by decide) ?_
      refine j_callVv (wr := [aI G r10 700 L, aI G r11 500 f]) hC hI (c_X9_need_keep zl G y0 r1 r2 r3 r4 r5 r6 r7 r8 r9 r10 r11 r12 r13 n la lm lw kn k wp bt pn q th os wz sz ia2 fv tz 0 3 (by omega) (by omega)) (cwV 2 hC.2.2.2.2.1 gX9_takeMatch_X9_need rfl rfl rfl (by decide +kernel) ⟨Nat.le_of_ble_eq_true rfl, Nat.le_of_ble_eq_true rfl⟩) [0] [1, 2] rfl rfl rfl rfl rfl rfl (q0 := 0) rfl rfl rfl hl.1 (Nat.le_of_ble_eq_true rfl) dX9_takeMatch_97 ⟨Nat.le_of_ble_eq_true rfl, Nat.le_of_ble_eq_true rfl⟩ (fun u97 H locs hp97 hI => ?_)
      have hI : jI G zA zs [aI G r10 700 L, aI G r11 500 f, oC y0 9 [.int (nI 0), .ref r1, .int (nI n), .int (nI la), .int (nI lm), .int (nI lw), .ref r2, .ref r3, .ref r4, .int (nI kn), .ref r5, .ref r6, .ref r7, .int (nI k), .int (nI wp), .int (nI bt), .ref r8, .int (nI pn), .int (nI q), .int (nI th), .ref r9, .int (nI os), .int (nI wz), .ref r10, .int (nI sz), .int (nI ia2), .ref r11, .ref r12, .int tz, .ref r13, .int (nI fv)]] H locs := hI
      exact loop100 x fv ia2 (by omega) (by omega)  _ _ _ (hI.sub [2, 0, 1] rfl rfl) (lv_sub hl [1, 2, 3, 0] rfl)
    · refine lv_iload zx zb dX9_takeMatch_83 (lv_at hl 0 rfl) ?_
      refine lv_iload_n zx zb dX9_takeMatch_85 rfl (lv_at hl 3 rfl) ?_
      refine lv_iload_n zx zb dX9_takeMatch_86 rfl (lv_at hl 2 rfl) ?_
      refine j_isub hC (by omega) dX9_takeMatch_87 ?_
      refine j_icmp_gt (tgt := 95) hC dX9_takeMatch_88 (by decide) (by omega) (by omega) (fun c88 => ?_) (fun c88 => ?_)
      · refine lv_iconst (v := nI 0) zx zb dX9_takeMatch_95 (by decide) ?_
        refine lv_iconst (v := nI 3) zx zb dX9_takeMatch_96 (by decide) ?_
        refine j_callVv (wr := [aI G r10 700 L, aI G r11 500 f]) hC hI (c_X9_need_keep zl G y0 r1 r2 r3 r4 r5 r6 r7 r8 r9 r10 r11 r12 r13 n la lm lw kn k wp bt pn q th os wz sz ia2 fv tz 0 3 (by omega) (by omega)) (cwV 2 hC.2.2.2.2.1 gX9_takeMatch_X9_need rfl rfl rfl (by decide +kernel) ⟨Nat.le_of_ble_eq_true rfl, Nat.le_of_ble_eq_true rfl⟩) [0] [1, 2] rfl rfl rfl rfl rfl rfl (q0 := 0) rfl rfl rfl hl.1 (Nat.le_of_ble_eq_true rfl) dX9_takeMatch_97 ⟨Nat.le_of_ble_eq_true rfl, Nat.le_of_ble_eq_true rfl⟩ (fun u97 H locs hp97 hI => ?_)
        have hI : jI G zA zs [aI G r10 700 L, aI G r11 500 f, oC y0 9 [.int (nI 0), .ref r1, .int (nI n), .int (nI la), .int (nI lm), .int (nI lw), .ref r2, .ref r3, .ref r4, .int (nI kn), .ref r5, .ref r6, .ref r7, .int (nI k), .int (nI wp), .int (nI bt), .ref r8, .int (nI pn), .int (nI q), .int (nI th), .ref r9, .int (nI os), .int (nI wz), .ref r10, .int (nI sz), .int (nI ia2), .ref r11, .ref r12, .int tz, .ref r13, .int (nI fv)]] H locs := hI
        exact loop100 x fv ia2 (by omega) (by omega)  _ _ _ (hI.sub [2, 0, 1] rfl rfl) (lv_sub hl [1, 2, 3, 0] rfl)
      · refine lv_iconst (v := nI 1) zx zb dX9_takeMatch_91 (by decide) ?_
        refine lv_goto (tgt := 96) zx zb dX9_takeMatch_92 (by decide) ?_
        refine lv_iconst (v := nI 3) zx zb dX9_takeMatch_96 (by decide) ?_
        refine j_callVv (wr := [aI G r10 700 L, aI G r11 500 f]) hC hI (c_X9_need_keep zl G y0 r1 r2 r3 r4 r5 r6 r7 r8 r9 r10 r11 r12 r13 n la lm lw kn k wp bt pn q th os wz sz ia2 fv tz 1 3 (by omega) (by omega)) (cwV 2 hC.2.2.2.2.1 gX9_takeMatch_X9_need rfl rfl rfl (by decide +kernel) ⟨Nat.le_of_ble_eq_true rfl, Nat.le_of_ble_eq_true rfl⟩) [0] [1, 2] rfl rfl rfl rfl rfl rfl (q0 := 0) rfl rfl rfl hl.1 (Nat.le_of_ble_eq_true rfl) dX9_takeMatch_97 ⟨Nat.le_of_ble_eq_true rfl, Nat.le_of_ble_eq_true rfl⟩ (fun u97 H locs hp97 hI => ?_)
        have hI : jI G zA zs [aI G r10 700 L, aI G r11 500 f, oC y0 9 [.int (nI 0), .ref r1, .int (nI n), .int (nI la), .int (nI lm), .int (nI lw), .ref r2, .ref r3, .ref r4, .int (nI kn), .ref r5, .ref r6, .ref r7, .int (nI k), .int (nI wp), .int (nI bt), .ref r8, .int (nI pn), .int (nI q), .int (nI th), .ref r9, .int (nI os), .int (nI wz), .ref r10, .int (nI sz), .int (nI ia2), .ref r11, .ref r12, .int tz, .ref r13, .int (nI fv)]] H locs := hI
        exact loop100 x fv ia2 (by omega) (by omega)  _ _ _ (hI.sub [2, 0, 1] rfl rfl) (lv_sub hl [1, 2, 3, 0] rfl)
  rcases zr3 L hb with ⟨z, hz, hz9⟩ | ⟨z, hz, hz9⟩ | ⟨z, hz, hz9⟩
  · refine lv_iconst (v := nI 0) zx zb dX9_takeMatch_0 (by decide) ?_
    refine lv_istore_n (lv' := [(3, .int (nI 0)), (0, .ref y0), (1, .int (nI m)), (2, .int (nI all))]) zx zb dX9_takeMatch_1 rfl hl (by decide) rfl (fun ls hl => ?_)
    have loop2 : ∀ (zn2 : Nat) (i : Nat), (i ≤ z) → (10 - i) < zn2 → ∀ (H : Heap) (locs : List Loc) (ls : Array Slot), jI G zA zs [oC y0 9 [.int (nI 0), .ref r1, .int (nI n), .int (nI la), .int (nI lm), .int (nI lw), .ref r2, .ref r3, .ref r4, .int (nI kn), .ref r5, .ref r6, .ref r7, .int (nI k), .int (nI wp), .int (nI bt), .ref r8, .int (nI pn), .int (nI q), .int (nI th), .ref r9, .int (nI os), .int (nI wz), .ref r10, .int (nI sz), .int (nI (ia + i)), .ref r11, .ref r12, .int tz, .ref r13, .int (nI 0)], aI G r10 700 L, aI G r11 500 f] H locs → lv_has ls 8 [(0, .ref y0), (1, .int (nI m)), (2, .int (nI all)), (3, .int (nI i))] → W zp zl ze ({ frames := 2, cells := 0, slots := 0, locals := 44 }) zs zm zargs zbelow zmeth zc H locs 0 0 zQ (F0 zm 2 ls []) := by
      intro zn2
      induction zn2 with
      | zero => intros; omega
      | succ zn2 ih2 =>
        intro i hi zm2 H locs ls hI hl
        refine lv_aload_n zx zb dX9_takeMatch_2 rfl (lv_at hl 0 rfl) ?_
        refine j_get hC hI hin_X9_takeMatch_X9 0 rfl rfl 30 (by decide) hfl_X9_takeMatch_147 rfl rfl dX9_takeMatch_3 ?_
        refine j_if_ne (tgt := 28) hC dX9_takeMatch_6 (by decide) (by omega) (fun c6 => ?_) (fun c6 => ?_)
        · exact (by omega : False).elim
        · refine lv_iload_n zx zb dX9_takeMatch_9 rfl (lv_at hl 3 rfl) ?_
          refine lv_bipush (v := nI 9) zx zb dX9_takeMatch_10 (by decide) ?_
          refine j_icmp_ge (tgt := 28) hC dX9_takeMatch_12 (by decide) (by omega) (by omega) (fun c12 => ?_) (fun c12 => ?_)
          · exact (by omega : False).elim
          · refine lv_aload_n zx zb dX9_takeMatch_15 rfl (lv_at hl 0 rfl) ?_
            have hbl := bitAt_le L (ia + i)
            refine j_callVi (wr := [aI G r11 500 f]) hC hI (c_X9_takeBit_ok zl G y0 r1 r2 r3 r4 r5 r6 r7 r8 r9 r10 r11 r12 r13 n la lm lw kn k wp bt pn q th os wz sz (ia + i) 0 tz L (by omega) (by omega) (by omega)) (cwV 0 hC.2.2.2.2.1 gX9_takeMatch_X9_takeBit rfl rfl rfl (by decide +kernel) ⟨Nat.le_of_ble_eq_true rfl, Nat.le_of_ble_eq_true rfl⟩) [0, 1] [2] rfl rfl rfl rfl rfl rfl (q0 := 0) rfl rfl rfl hl.1 (Nat.le_of_ble_eq_true rfl) dX9_takeMatch_16 ⟨Nat.le_of_ble_eq_true rfl, Nat.le_of_ble_eq_true rfl⟩ (fun rv16 u16 H locs hp16 hI => ?_)
            have hI : jI G zA zs [aI G r11 500 f, oC y0 9 [.int (nI 0), .ref r1, .int (nI n), .int (nI la), .int (nI lm), .int (nI lw), .ref r2, .ref r3, .ref r4, .int (nI kn), .ref r5, .ref r6, .ref r7, .int (nI k), .int (nI wp), .int (nI bt), .ref r8, .int (nI pn), .int (nI q), .int (nI th), .ref r9, .int (nI os), .int (nI wz), .ref r10, .int (nI sz), .int (nI ((ia + i) + 1)), .ref r11, .ref r12, .int tz, .ref r13, .int (nI 0)], aI G r10 700 L] H locs := hI
            subst hp16
            refine j_if_ne (tgt := 28) hC dX9_takeMatch_19 (by decide) (by omega) (fun c19 => ?_) (fun c19 => ?_)
            · have hzi : zer L ia (min 9 (8 * sz - ia)) = i := by rcases Nat.lt_or_ge i z with q | q; exact absurd (zer_0 (k := min 9 (8 * sz - ia)) (by omega)) c19; omega
              refine lv_aload_n zx zb dX9_takeMatch_28 rfl (lv_at hl 0 rfl) ?_
              refine lv_iload_n zx zb dX9_takeMatch_29 rfl (lv_at hl 3 rfl) ?_
              refine lv_bipush (v := nI 9) zx zb dX9_takeMatch_30 (by decide) ?_
              refine j_icmp_ge (tgt := 39) hC dX9_takeMatch_32 (by decide) (by omega) (by omega) (fun c32 => ?_) (fun c32 => ?_)
              · exact (by omega : False).elim
              · refine lv_iconst (v := nI 1) zx zb dX9_takeMatch_35 (by decide) ?_
                refine lv_goto (tgt := 40) zx zb dX9_takeMatch_36 (by decide) ?_
                refine lv_iconst (v := nI 3) zx zb dX9_takeMatch_40 (by decide) ?_
                refine j_callVv (wr := [aI G r11 500 f, aI G r10 700 L]) hC hI (c_X9_need_keep zl G y0 r1 r2 r3 r4 r5 r6 r7 r8 r9 r10 r11 r12 r13 n la lm lw kn k wp bt pn q th os wz sz ((ia + i) + 1) 0 tz 1 3 (by omega) (by omega)) (cwV 2 hC.2.2.2.2.1 gX9_takeMatch_X9_need rfl rfl rfl (by decide +kernel) ⟨Nat.le_of_ble_eq_true rfl, Nat.le_of_ble_eq_true rfl⟩) [1] [0, 2] rfl rfl rfl rfl rfl rfl (q0 := 0) rfl rfl rfl hl.1 (Nat.le_of_ble_eq_true rfl) dX9_takeMatch_41 ⟨Nat.le_of_ble_eq_true rfl, Nat.le_of_ble_eq_true rfl⟩ (fun u41 H locs hp41 hI => ?_)
                have hI : jI G zA zs [aI G r11 500 f, aI G r10 700 L, oC y0 9 [.int (nI 0), .ref r1, .int (nI n), .int (nI la), .int (nI lm), .int (nI lw), .ref r2, .ref r3, .ref r4, .int (nI kn), .ref r5, .ref r6, .ref r7, .int (nI k), .int (nI wp), .int (nI bt), .ref r8, .int (nI pn), .int (nI q), .int (nI th), .ref r9, .int (nI os), .int (nI wz), .ref r10, .int (nI sz), .int (nI ((ia + i) + 1)), .ref r11, .ref r12, .int tz, .ref r13, .int (nI 0)]] H locs := hI
                refine lv_aload_n zx zb dX9_takeMatch_44 rfl (lv_at hl 0 rfl) ?_
                refine j_get hC hI hin_X9_takeMatch_X9 2 rfl rfl 30 (by decide) hfl_X9_takeMatch_147 rfl rfl dX9_takeMatch_45 ?_
                refine j_if_ne (tgt := 70) hC dX9_takeMatch_48 (by decide) (by omega) (fun c48 => ?_) (fun c48 => ?_)
                · exact (by omega : False).elim
                · refine lv_iconst (v := nI 1) zx zb dX9_takeMatch_51 (by decide) ?_
                  refine lv_iload_n zx zb dX9_takeMatch_52 rfl (lv_at hl 3 rfl) ?_
                  refine j_ishl1 hC (by omega) dX9_takeMatch_53 ?_
                  refine lv_aload_n zx zb dX9_takeMatch_54 rfl (lv_at hl 0 rfl) ?_
                  refine lv_iload_n zx zb dX9_takeMatch_55 rfl (lv_at hl 3 rfl) ?_
                  rcases Nat.lt_or_ge (8 * sz) (ia + i + 1 + i) with hc | hc
                  · have hR : (rdM L (8 * sz) la lm lw all ia m f).1 = 1 := by rw [rdM_of hzi, if_neg (by omega), if_neg (by omega), if_pos (by omega)]
                    have hz2 : 2 ^ i ≤ 256 := tp_lt (by omega)
                    have hz3 := Nat.two_pow_pos i
                    refine j_callVi (wr := [aI G r11 500 f]) hC hI (c_X9_take_end zl G y0 r1 r2 r3 r4 r5 r6 r7 r8 r9 r10 r11 r12 r13 n la lm lw kn k wp bt pn q th os wz sz ((ia + i) + 1) tz L i (by omega) (by omega) (by omega) (by omega) (by omega)) (cwV 1 hC.2.2.2.2.1 gX9_takeMatch_X9_take rfl rfl rfl (by decide +kernel) ⟨Nat.le_of_ble_eq_true rfl, Nat.le_of_ble_eq_true rfl⟩) [2, 1] [0] rfl rfl rfl rfl rfl rfl (q0 := 0) rfl rfl rfl hl.1 (Nat.le_of_ble_eq_true rfl) dX9_takeMatch_56 ⟨Nat.le_of_ble_eq_true rfl, Nat.le_of_ble_eq_true rfl⟩ (fun rv56 u56 H locs hp56 hI => ?_)
                    obtain ⟨v56_0, rfl⟩ : ∃ z, z = u56 := ⟨_, rfl⟩
                    have hI : jI G zA zs [aI G r11 500 f, oC y0 9 [.int (nI 0), .ref r1, .int (nI n), .int (nI la), .int (nI lm), .int (nI lw), .ref r2, .ref r3, .ref r4, .int (nI kn), .ref r5, .ref r6, .ref r7, .int (nI k), .int (nI wp), .int (nI bt), .ref r8, .int (nI pn), .int (nI q), .int (nI th), .ref r9, .int (nI os), .int (nI wz), .ref r10, .int (nI sz), .int (nI (8 * sz)), .ref r11, .ref r12, .int tz, .ref r13, .int (nI 1)], aI G r10 700 L] H locs := hI
                    obtain ⟨rfl, f56_0⟩ := hp56
                    refine j_iadd hC dX9_takeMatch_59 ?_
                    refine lv_aload_n zx zb dX9_takeMatch_60 rfl (lv_at hl 0 rfl) ?_
                    refine j_get hC hI hin_X9_takeMatch_X9 1 rfl rfl 3 (by decide) hfl_X9_takeMatch_13 rfl rfl dX9_takeMatch_61 ?_
                    refine j_iadd hC dX9_takeMatch_64 ?_
                    refine lv_iconst (v := nI 1) zx zb dX9_takeMatch_65 (by decide) ?_
                    refine j_isub hC (by omega) dX9_takeMatch_66 ?_
                    refine lv_goto (tgt := 71) zx zb dX9_takeMatch_67 (by decide) ?_
                    exact loop71 ((((2 ^ i) + v56_0) + la) - 1) 1 (8 * sz) (by omega) (by omega)  _ _ _ (hI.sub [1, 2, 0] rfl rfl) (lv_sub hl [0, 1, 2] rfl)
                  · have hnb := nb_lt L (ia + i + 1) i
                    have hz2 : 2 ^ i ≤ 256 := tp_lt (by omega)
                    have hz3 := Nat.two_pow_pos i
                    refine j_callVi (wr := [aI G r11 500 f]) hC hI (c_X9_take_ok zl G y0 r1 r2 r3 r4 r5 r6 r7 r8 r9 r10 r11 r12 r13 n la lm lw kn k wp bt pn q th os wz sz ((ia + i) + 1) tz L i (by omega) (by omega) (by omega) (by omega)) (cwV 1 hC.2.2.2.2.1 gX9_takeMatch_X9_take rfl rfl rfl (by decide +kernel) ⟨Nat.le_of_ble_eq_true rfl, Nat.le_of_ble_eq_true rfl⟩) [2, 1] [0] rfl rfl rfl rfl rfl rfl (q0 := 0) rfl rfl rfl hl.1 (Nat.le_of_ble_eq_true rfl) dX9_takeMatch_56 ⟨Nat.le_of_ble_eq_true rfl, Nat.le_of_ble_eq_true rfl⟩ (fun rv56 u56 H locs hp56 hI => ?_)
                    have hI : jI G zA zs [aI G r11 500 f, oC y0 9 [.int (nI 0), .ref r1, .int (nI n), .int (nI la), .int (nI lm), .int (nI lw), .ref r2, .ref r3, .ref r4, .int (nI kn), .ref r5, .ref r6, .ref r7, .int (nI k), .int (nI wp), .int (nI bt), .ref r8, .int (nI pn), .int (nI q), .int (nI th), .ref r9, .int (nI os), .int (nI wz), .ref r10, .int (nI sz), .int (nI (((ia + i) + 1) + i)), .ref r11, .ref r12, .int tz, .ref r13, .int (nI 0)], aI G r10 700 L] H locs := hI
                    subst hp56
                    refine j_iadd hC dX9_takeMatch_59 ?_
                    refine lv_aload_n zx zb dX9_takeMatch_60 rfl (lv_at hl 0 rfl) ?_
                    refine j_get hC hI hin_X9_takeMatch_X9 1 rfl rfl 3 (by decide) hfl_X9_takeMatch_13 rfl rfl dX9_takeMatch_61 ?_
                    refine j_iadd hC dX9_takeMatch_64 ?_
                    refine lv_iconst (v := nI 1) zx zb dX9_takeMatch_65 (by decide) ?_
                    refine j_isub hC (by omega) dX9_takeMatch_66 ?_
                    refine lv_goto (tgt := 71) zx zb dX9_takeMatch_67 (by decide) ?_
                    refine lv_istore (lv' := [(4, .int (nI ((((2 ^ i) + (nb L ((ia + i) + 1) i)) + la) - 1))), (0, .ref y0), (1, .int (nI m)), (2, .int (nI all)), (3, .int (nI i))]) zx zb dX9_takeMatch_71 hl (by decide) rfl (fun ls hl => ?_)
                    refine lv_aload_n zx zb dX9_takeMatch_73 rfl (lv_at hl 1 rfl) ?_
                    refine lv_iload zx zb dX9_takeMatch_74 (lv_at hl 0 rfl) ?_
                    refine lv_aload_n zx zb dX9_takeMatch_76 rfl (lv_at hl 1 rfl) ?_
                    refine j_get hC hI hin_X9_takeMatch_X9 1 rfl rfl 4 (by decide) hfl_X9_takeMatch_17 rfl rfl dX9_takeMatch_77 ?_
                    refine j_icmp_gt (tgt := 95) hC dX9_takeMatch_80 (by decide) (by omega) (by omega) (fun c80 => ?_) (fun c80 => ?_)
                    · have hR : (rdM L (8 * sz) la lm lw all ia m f).1 = 3 := by rw [rdM_of hzi, if_neg (by omega), if_neg (by omega), if_neg (by omega), if_pos (by omega)]
                      refine lv_iconst (v := nI 0) zx zb dX9_takeMatch_95 (by decide) ?_
                      refine lv_iconst (v := nI 3) zx zb dX9_takeMatch_96 (by decide) ?_
                      refine j_callVv (wr := [aI G r11 500 f, aI G r10 700 L]) hC hI (c_X9_need_set zl G y0 r1 r2 r3 r4 r5 r6 r7 r8 r9 r10 r11 r12 r13 n la lm lw kn k wp bt pn q th os wz sz (((ia + i) + 1) + i) tz 3 ) (cwV 2 hC.2.2.2.2.1 gX9_takeMatch_X9_need rfl rfl rfl (by decide +kernel) ⟨Nat.le_of_ble_eq_true rfl, Nat.le_of_ble_eq_true rfl⟩) [1] [0, 2] rfl rfl rfl rfl rfl rfl (q0 := 0) rfl rfl rfl hl.1 (Nat.le_of_ble_eq_true rfl) dX9_takeMatch_97 ⟨Nat.le_of_ble_eq_true rfl, Nat.le_of_ble_eq_true rfl⟩ (fun u97 H locs hp97 hI => ?_)
                      have hI : jI G zA zs [aI G r11 500 f, aI G r10 700 L, oC y0 9 [.int (nI 0), .ref r1, .int (nI n), .int (nI la), .int (nI lm), .int (nI lw), .ref r2, .ref r3, .ref r4, .int (nI kn), .ref r5, .ref r6, .ref r7, .int (nI k), .int (nI wp), .int (nI bt), .ref r8, .int (nI pn), .int (nI q), .int (nI th), .ref r9, .int (nI os), .int (nI wz), .ref r10, .int (nI sz), .int (nI (((ia + i) + 1) + i)), .ref r11, .ref r12, .int tz, .ref r13, .int (nI 3)]] H locs := hI
                      exact loop100 ((((2 ^ i) + (nb L ((ia + i) + 1) i)) + la) - 1) 3 (((ia + i) + 1) + i) (by omega) (by omega)  _ _ _ (hI.sub [2, 1, 0] rfl rfl) (lv_sub hl [1, 2, 3, 0] rfl)
                    · refine lv_iload zx zb dX9_takeMatch_83 (lv_at hl 0 rfl) ?_
                      refine lv_iload_n zx zb dX9_takeMatch_85 rfl (lv_at hl 3 rfl) ?_
                      refine lv_iload_n zx zb dX9_takeMatch_86 rfl (lv_at hl 2 rfl) ?_
                      refine j_isub hC (by omega) dX9_takeMatch_87 ?_
                      refine j_icmp_gt (tgt := 95) hC dX9_takeMatch_88 (by decide) (by omega) (by omega) (fun c88 => ?_) (fun c88 => ?_)
                      · have hR : (rdM L (8 * sz) la lm lw all ia m f).1 = 3 := by rw [rdM_of hzi, if_neg (by omega), if_neg (by omega), if_neg (by omega), if_pos (by omega)]
                        refine lv_iconst (v := nI 0) zx zb dX9_takeMatch_95 (by decide) ?_
                        refine lv_iconst (v := nI 3) zx zb dX9_takeMatch_96 (by decide) ?_
                        refine j_callVv (wr := [aI G r11 500 f, aI G r10 700 L]) hC hI (c_X9_need_set zl G y0 r1 r2 r3 r4 r5 r6 r7 r8 r9 r10 r11 r12 r13 n la lm lw kn k wp bt pn q th os wz sz (((ia + i) + 1) + i) tz 3 ) (cwV 2 hC.2.2.2.2.1 gX9_takeMatch_X9_need rfl rfl rfl (by decide +kernel) ⟨Nat.le_of_ble_eq_true rfl, Nat.le_of_ble_eq_true rfl⟩) [1] [0, 2] rfl rfl rfl rfl rfl rfl (q0 := 0) rfl rfl rfl hl.1 (Nat.le_of_ble_eq_true rfl) dX9_takeMatch_97 ⟨Nat.le_of_ble_eq_true rfl, Nat.le_of_ble_eq_true rfl⟩ (fun u97 H locs hp97 hI => ?_)
                        have hI : jI G zA zs [aI G r11 500 f, aI G r10 700 L, oC y0 9 [.int (nI 0), .ref r1, .int (nI n), .int (nI la), .int (nI lm), .int (nI lw), .ref r2, .ref r3, .ref r4, .int (nI kn), .ref r5, .ref r6, .ref r7, .int (nI k), .int (nI wp), .int (nI bt), .ref r8, .int (nI pn), .int (nI q), .int (nI th), .ref r9, .int (nI os), .int (nI wz), .ref r10, .int (nI sz), .int (nI (((ia + i) + 1) + i)), .ref r11, .ref r12, .int tz, .ref r13, .int (nI 3)]] H locs := hI
                        exact loop100 ((((2 ^ i) + (nb L ((ia + i) + 1) i)) + la) - 1) 3 (((ia + i) + 1) + i) (by omega) (by omega)  _ _ _ (hI.sub [2, 1, 0] rfl rfl) (lv_sub hl [1, 2, 3, 0] rfl)
                      · refine lv_iconst (v := nI 1) zx zb dX9_takeMatch_91 (by decide) ?_
                        refine lv_goto (tgt := 96) zx zb dX9_takeMatch_92 (by decide) ?_
                        refine lv_iconst (v := nI 3) zx zb dX9_takeMatch_96 (by decide) ?_
                        refine j_callVv (wr := [aI G r11 500 f, aI G r10 700 L]) hC hI (c_X9_need_keep zl G y0 r1 r2 r3 r4 r5 r6 r7 r8 r9 r10 r11 r12 r13 n la lm lw kn k wp bt pn q th os wz sz (((ia + i) + 1) + i) 0 tz 1 3 (by omega) (by omega)) (cwV 2 hC.2.2.2.2.1 gX9_takeMatch_X9_need rfl rfl rfl (by decide +kernel) ⟨Nat.le_of_ble_eq_true rfl, Nat.le_of_ble_eq_true rfl⟩) [1] [0, 2] rfl rfl rfl rfl rfl rfl (q0 := 0) rfl rfl rfl hl.1 (Nat.le_of_ble_eq_true rfl) dX9_takeMatch_97 ⟨Nat.le_of_ble_eq_true rfl, Nat.le_of_ble_eq_true rfl⟩ (fun u97 H locs hp97 hI => ?_)
                        have hI : jI G zA zs [aI G r11 500 f, aI G r10 700 L, oC y0 9 [.int (nI 0), .ref r1, .int (nI n), .int (nI la), .int (nI lm), .int (nI lw), .ref r2, .ref r3, .ref r4, .int (nI kn), .ref r5, .ref r6, .ref r7, .int (nI k), .int (nI wp), .int (nI bt), .ref r8, .int (nI pn), .int (nI q), .int (nI th), .ref r9, .int (nI os), .int (nI wz), .ref r10, .int (nI sz), .int (nI (((ia + i) + 1) + i)), .ref r11, .ref r12, .int tz, .ref r13, .int (nI 0)]] H locs := hI
                        refine lv_aload_n zx zb dX9_takeMatch_100 rfl (lv_at hl 1 rfl) ?_
                        refine j_get hC hI hin_X9_takeMatch_X9 2 rfl rfl 30 (by decide) hfl_X9_takeMatch_147 rfl rfl dX9_takeMatch_101 ?_
                        refine j_if_ne (tgt := 115) hC dX9_takeMatch_104 (by decide) (by omega) (fun c104 => ?_) (fun c104 => ?_)
                        · exact (by omega : False).elim
                        · refine lv_aload_n zx zb dX9_takeMatch_107 rfl (lv_at hl 1 rfl) ?_
                          refine lv_iconst (v := nI 4) zx zb dX9_takeMatch_108 (by decide) ?_
                          rcases Nat.lt_or_ge (8 * sz) (ia + i + 1 + i + 4) with hc2 | hc2
                          · have hR : (rdM L (8 * sz) la lm lw all ia m f).1 = 1 := by rw [rdM_of hzi, if_neg (by omega), if_neg (by omega), if_neg (by omega), if_neg (by omega), if_pos (by omega)]
                            refine j_callVi (wr := [aI G r11 500 f]) hC hI (c_X9_take_end zl G y0 r1 r2 r3 r4 r5 r6 r7 r8 r9 r10 r11 r12 r13 n la lm lw kn k wp bt pn q th os wz sz (((ia + i) + 1) + i) tz L 4 (by omega) (by omega) (by omega) (by omega) (by omega)) (cwV 1 hC.2.2.2.2.1 gX9_takeMatch_X9_take rfl rfl rfl (by decide +kernel) ⟨Nat.le_of_ble_eq_true rfl, Nat.le_of_ble_eq_true rfl⟩) [2, 1] [0] rfl rfl rfl rfl rfl rfl (q0 := 0) rfl rfl rfl hl.1 (Nat.le_of_ble_eq_true rfl) dX9_takeMatch_109 ⟨Nat.le_of_ble_eq_true rfl, Nat.le_of_ble_eq_true rfl⟩ (fun rv109 u109 H locs hp109 hI => ?_)
                            obtain ⟨v109_0, rfl⟩ : ∃ z, z = u109 := ⟨_, rfl⟩
                            have hI : jI G zA zs [aI G r11 500 f, oC y0 9 [.int (nI 0), .ref r1, .int (nI n), .int (nI la), .int (nI lm), .int (nI lw), .ref r2, .ref r3, .ref r4, .int (nI kn), .ref r5, .ref r6, .ref r7, .int (nI k), .int (nI wp), .int (nI bt), .ref r8, .int (nI pn), .int (nI q), .int (nI th), .ref r9, .int (nI os), .int (nI wz), .ref r10, .int (nI sz), .int (nI (8 * sz)), .ref r11, .ref r12, .int tz, .ref r13, .int (nI 1)], aI G r10 700 L] H locs := hI
                            obtain ⟨rfl, f109_0⟩ := hp109
                            refine lv_goto (tgt := 116) zx zb dX9_takeMatch_112 (by decide) ?_
                            refine lv_istore (lv' := [(5, .int (nI v109_0)), (4, .int (nI ((((2 ^ i) + (nb L ((ia + i) + 1) i)) + la) - 1))), (0, .ref y0), (1, .int (nI m)), (2, .int (nI all)), (3, .int (nI i))]) zx zb dX9_takeMatch_116 hl (by decide) rfl (fun ls hl => ?_)
                            refine lv_aload_n zx zb dX9_takeMatch_118 rfl (lv_at hl 2 rfl) ?_
                            refine j_get hC hI hin_X9_takeMatch_X9 1 rfl rfl 30 (by decide) hfl_X9_takeMatch_147 rfl rfl dX9_takeMatch_119 ?_
                            refine j_if_ne (tgt := 139) hC dX9_takeMatch_122 (by decide) (by omega) (fun c122 => ?_) (fun c122 => ?_)
                            · refine lv_iconst (v := nI 1) zx zb dX9_takeMatch_139 (by decide) ?_
                              refine lv_istore (lv' := [(6, .int (nI 1)), (5, .int (nI v109_0)), (4, .int (nI ((((2 ^ i) + (nb L ((ia + i) + 1) i)) + la) - 1))), (0, .ref y0), (1, .int (nI m)), (2, .int (nI all)), (3, .int (nI i))]) zx zb dX9_takeMatch_140 hl (by decide) rfl (fun ls hl => ?_)
                              refine lv_aload_n zx zb dX9_takeMatch_142 rfl (lv_at hl 3 rfl) ?_
                              refine lv_iload zx zb dX9_takeMatch_143 (lv_at hl 0 rfl) ?_
                              refine lv_aload_n zx zb dX9_takeMatch_145 rfl (lv_at hl 3 rfl) ?_
                              refine j_get hC hI hin_X9_takeMatch_X9 1 rfl rfl 5 (by decide) hfl_X9_takeMatch_20 rfl rfl dX9_takeMatch_146 ?_
                              refine j_icmp_gt (tgt := 162) hC dX9_takeMatch_149 (by decide) (by omega) (by omega) (fun c149 => ?_) (fun c149 => ?_)
                              · refine lv_iconst (v := nI 0) zx zb dX9_takeMatch_162 (by decide) ?_
                                refine lv_iconst (v := nI 4) zx zb dX9_takeMatch_163 (by decide) ?_
                                refine j_callVv (wr := [aI G r11 500 f, aI G r10 700 L]) hC hI (c_X9_need_keep zl G y0 r1 r2 r3 r4 r5 r6 r7 r8 r9 r10 r11 r12 r13 n la lm lw kn k wp bt pn q th os wz sz (8 * sz) 1 tz 0 4 (by omega) (by omega)) (cwV 2 hC.2.2.2.2.1 gX9_takeMatch_X9_need rfl rfl rfl (by decide +kernel) ⟨Nat.le_of_ble_eq_true rfl, Nat.le_of_ble_eq_true rfl⟩) [1] [0, 2] rfl rfl rfl rfl rfl rfl (q0 := 0) rfl rfl rfl hl.1 (Nat.le_of_ble_eq_true rfl) dX9_takeMatch_164 ⟨Nat.le_of_ble_eq_true rfl, Nat.le_of_ble_eq_true rfl⟩ (fun u164 H locs hp164 hI => ?_)
                                have hI : jI G zA zs [aI G r11 500 f, aI G r10 700 L, oC y0 9 [.int (nI 0), .ref r1, .int (nI n), .int (nI la), .int (nI lm), .int (nI lw), .ref r2, .ref r3, .ref r4, .int (nI kn), .ref r5, .ref r6, .ref r7, .int (nI k), .int (nI wp), .int (nI bt), .ref r8, .int (nI pn), .int (nI q), .int (nI th), .ref r9, .int (nI os), .int (nI wz), .ref r10, .int (nI sz), .int (nI (8 * sz)), .ref r11, .ref r12, .int tz, .ref r13, .int (nI 1)]] H locs := hI
                                exact loop167 ((((2 ^ i) + (nb L ((ia + i) + 1) i)) + la) - 1) 1 (8 * sz) 1 (by omega) (by omega)  _ _ _ (hI.sub [2, 1, 0] rfl rfl) (lv_sub hl [3, 4, 5, 2, 0] rfl)
                              · refine lv_iload zx zb dX9_takeMatch_152 (lv_at hl 0 rfl) ?_
                                refine lv_iload_n zx zb dX9_takeMatch_154 rfl (lv_at hl 4 rfl) ?_
                                refine j_icmp_gt (tgt := 162) hC dX9_takeMatch_155 (by decide) (by omega) (by omega) (fun c155 => ?_) (fun c155 => ?_)
                                · refine lv_iconst (v := nI 0) zx zb dX9_takeMatch_162 (by decide) ?_
                                  refine lv_iconst (v := nI 4) zx zb dX9_takeMatch_163 (by decide) ?_
                                  refine j_callVv (wr := [aI G r11 500 f, aI G r10 700 L]) hC hI (c_X9_need_keep zl G y0 r1 r2 r3 r4 r5 r6 r7 r8 r9 r10 r11 r12 r13 n la lm lw kn k wp bt pn q th os wz sz (8 * sz) 1 tz 0 4 (by omega) (by omega)) (cwV 2 hC.2.2.2.2.1 gX9_takeMatch_X9_need rfl rfl rfl (by decide +kernel) ⟨Nat.le_of_ble_eq_true rfl, Nat.le_of_ble_eq_true rfl⟩) [1] [0, 2] rfl rfl rfl rfl rfl rfl (q0 := 0) rfl rfl rfl hl.1 (Nat.le_of_ble_eq_true rfl) dX9_takeMatch_164 ⟨Nat.le_of_ble_eq_true rfl, Nat.le_of_ble_eq_true rfl⟩ (fun u164 H locs hp164 hI => ?_)
                                  have hI : jI G zA zs [aI G r11 500 f, aI G r10 700 L, oC y0 9 [.int (nI 0), .ref r1, .int (nI n), .int (nI la), .int (nI lm), .int (nI lw), .ref r2, .ref r3, .ref r4, .int (nI kn), .ref r5, .ref r6, .ref r7, .int (nI k), .int (nI wp), .int (nI bt), .ref r8, .int (nI pn), .int (nI q), .int (nI th), .ref r9, .int (nI os), .int (nI wz), .ref r10, .int (nI sz), .int (nI (8 * sz)), .ref r11, .ref r12, .int tz, .ref r13, .int (nI 1)]] H locs := hI
                                  exact loop167 ((((2 ^ i) + (nb L ((ia + i) + 1) i)) + la) - 1) 1 (8 * sz) 1 (by omega) (by omega)  _ _ _ (hI.sub [2, 1, 0] rfl rfl) (lv_sub hl [3, 4, 5, 2, 0] rfl)
                                · refine lv_iconst (v := nI 1) zx zb dX9_takeMatch_158 (by decide) ?_
                                  refine lv_goto (tgt := 163) zx zb dX9_takeMatch_159 (by decide) ?_
                                  refine lv_iconst (v := nI 4) zx zb dX9_takeMatch_163 (by decide) ?_
                                  refine j_callVv (wr := [aI G r11 500 f, aI G r10 700 L]) hC hI (c_X9_need_keep zl G y0 r1 r2 r3 r4 r5 r6 r7 r8 r9 r10 r11 r12 r13 n la lm lw kn k wp bt pn q th os wz sz (8 * sz) 1 tz 1 4 (by omega) (by omega)) (cwV 2 hC.2.2.2.2.1 gX9_takeMatch_X9_need rfl rfl rfl (by decide +kernel) ⟨Nat.le_of_ble_eq_true rfl, Nat.le_of_ble_eq_true rfl⟩) [1] [0, 2] rfl rfl rfl rfl rfl rfl (q0 := 0) rfl rfl rfl hl.1 (Nat.le_of_ble_eq_true rfl) dX9_takeMatch_164 ⟨Nat.le_of_ble_eq_true rfl, Nat.le_of_ble_eq_true rfl⟩ (fun u164 H locs hp164 hI => ?_)
                                  have hI : jI G zA zs [aI G r11 500 f, aI G r10 700 L, oC y0 9 [.int (nI 0), .ref r1, .int (nI n), .int (nI la), .int (nI lm), .int (nI lw), .ref r2, .ref r3, .ref r4, .int (nI kn), .ref r5, .ref r6, .ref r7, .int (nI k), .int (nI wp), .int (nI bt), .ref r8, .int (nI pn), .int (nI q), .int (nI th), .ref r9, .int (nI os), .int (nI wz), .ref r10, .int (nI sz), .int (nI (8 * sz)), .ref r11, .ref r12, .int tz, .ref r13, .int (nI 1)]] H locs := hI
                                  exact loop167 ((((2 ^ i) + (nb L ((ia + i) + 1) i)) + la) - 1) 1 (8 * sz) 1 (by omega) (by omega)  _ _ _ (hI.sub [2, 1, 0] rfl rfl) (lv_sub hl [3, 4, 5, 2, 0] rfl)
                            · exact (by omega : False).elim
                          · have hnb4 := nb_lt L (ia + i + 1 + i) 4
                            refine j_callVi (wr := [aI G r11 500 f]) hC hI (c_X9_take_ok zl G y0 r1 r2 r3 r4 r5 r6 r7 r8 r9 r10 r11 r12 r13 n la lm lw kn k wp bt pn q th os wz sz (((ia + i) + 1) + i) tz L 4 (by omega) (by omega) (by omega) (by omega)) (cwV 1 hC.2.2.2.2.1 gX9_takeMatch_X9_take rfl rfl rfl (by decide +kernel) ⟨Nat.le_of_ble_eq_true rfl, Nat.le_of_ble_eq_true rfl⟩) [2, 1] [0] rfl rfl rfl rfl rfl rfl (q0 := 0) rfl rfl rfl hl.1 (Nat.le_of_ble_eq_true rfl) dX9_takeMatch_109 ⟨Nat.le_of_ble_eq_true rfl, Nat.le_of_ble_eq_true rfl⟩ (fun rv109 u109 H locs hp109 hI => ?_)
                            have hI : jI G zA zs [aI G r11 500 f, oC y0 9 [.int (nI 0), .ref r1, .int (nI n), .int (nI la), .int (nI lm), .int (nI lw), .ref r2, .ref r3, .ref r4, .int (nI kn), .ref r5, .ref r6, .ref r7, .int (nI k), .int (nI wp), .int (nI bt), .ref r8, .int (nI pn), .int (nI q), .int (nI th), .ref r9, .int (nI os), .int (nI wz), .ref r10, .int (nI sz), .int (nI ((((ia + i) + 1) + i) + 4)), .ref r11, .ref r12, .int tz, .ref r13, .int (nI 0)], aI G r10 700 L] H locs := hI
                            subst hp109
                            refine lv_goto (tgt := 116) zx zb dX9_takeMatch_112 (by decide) ?_
                            refine lv_istore (lv' := [(5, .int (nI (nb L (((ia + i) + 1) + i) 4))), (4, .int (nI ((((2 ^ i) + (nb L ((ia + i) + 1) i)) + la) - 1))), (0, .ref y0), (1, .int (nI m)), (2, .int (nI all)), (3, .int (nI i))]) zx zb dX9_takeMatch_116 hl (by decide) rfl (fun ls hl => ?_)
                            refine lv_aload_n zx zb dX9_takeMatch_118 rfl (lv_at hl 2 rfl) ?_
                            refine j_get hC hI hin_X9_takeMatch_X9 1 rfl rfl 30 (by decide) hfl_X9_takeMatch_147 rfl rfl dX9_takeMatch_119 ?_
                            refine j_if_ne (tgt := 139) hC dX9_takeMatch_122 (by decide) (by omega) (fun c122 => ?_) (fun c122 => ?_)
                            · exact (by omega : False).elim
                            · refine lv_iconst (v := nI 1) zx zb dX9_takeMatch_125 (by decide) ?_
                              refine lv_iload zx zb dX9_takeMatch_126 (lv_at hl 0 rfl) ?_
                              refine j_ishl1 hC (by omega) dX9_takeMatch_128 ?_
                              refine lv_aload_n zx zb dX9_takeMatch_129 rfl (lv_at hl 2 rfl) ?_
                              refine lv_iload zx zb dX9_takeMatch_130 (lv_at hl 0 rfl) ?_
                              rcases Nat.lt_or_ge (8 * sz) (ia + i + 1 + i + 4 + (nb L (ia + i + 1 + i) 4)) with hc3 | hc3
                              · have hR : (rdM L (8 * sz) la lm lw all ia m f).1 = 1 := by rw [rdM_of hzi, if_neg (by omega), if_neg (by omega), if_neg (by omega), if_neg (by omega), if_neg (by omega), if_pos (by omega)]
                                have hz5 : 2 ^ (nb L (ia + i + 1 + i) 4) ≤ 2 ^ 15 := Nat.pow_le_pow_right (by decide) (by omega)
                                have hz6 := Nat.two_pow_pos (nb L (ia + i + 1 + i) 4)
                                refine j_callVi (wr := [aI G r11 500 f]) hC hI (c_X9_take_end zl G y0 r1 r2 r3 r4 r5 r6 r7 r8 r9 r10 r11 r12 r13 n la lm lw kn k wp bt pn q th os wz sz ((((ia + i) + 1) + i) + 4) tz L (nb L (((ia + i) + 1) + i) 4) (by omega) (by omega) (by omega) (by omega) (by omega)) (cwV 1 hC.2.2.2.2.1 gX9_takeMatch_X9_take rfl rfl rfl (by decide +kernel) ⟨Nat.le_of_ble_eq_true rfl, Nat.le_of_ble_eq_true rfl⟩) [1, 2] [0] rfl rfl rfl rfl rfl rfl (q0 := 0) rfl rfl rfl hl.1 (Nat.le_of_ble_eq_true rfl) dX9_takeMatch_132 ⟨Nat.le_of_ble_eq_true rfl, Nat.le_of_ble_eq_true rfl⟩ (fun rv132 u132 H locs hp132 hI => ?_)
                                obtain ⟨v132_0, rfl⟩ : ∃ z, z = u132 := ⟨_, rfl⟩
                                have hI : jI G zA zs [aI G r11 500 f, oC y0 9 [.int (nI 0), .ref r1, .int (nI n), .int (nI la), .int (nI lm), .int (nI lw), .ref r2, .ref r3, .ref r4, .int (nI kn), .ref r5, .ref r6, .ref r7, .int (nI k), .int (nI wp), .int (nI bt), .ref r8, .int (nI pn), .int (nI q), .int (nI th), .ref r9, .int (nI os), .int (nI wz), .ref r10, .int (nI sz), .int (nI (8 * sz)), .ref r11, .ref r12, .int tz, .ref r13, .int (nI 1)], aI G r10 700 L] H locs := hI
                                obtain ⟨rfl, f132_0⟩ := hp132
                                refine j_iadd hC dX9_takeMatch_135 ?_
                                refine lv_goto (tgt := 140) zx zb dX9_takeMatch_136 (by decide) ?_
                                refine lv_istore (lv' := [(6, .int (nI ((2 ^ (nb L (((ia + i) + 1) + i) 4)) + v132_0))), (5, .int (nI (nb L (((ia + i) + 1) + i) 4))), (4, .int (nI ((((2 ^ i) + (nb L ((ia + i) + 1) i)) + la) - 1))), (0, .ref y0), (1, .int (nI m)), (2, .int (nI all)), (3, .int (nI i))]) zx zb dX9_takeMatch_140 hl (by decide) rfl (fun ls hl => ?_)
                                refine lv_aload_n zx zb dX9_takeMatch_142 rfl (lv_at hl 3 rfl) ?_
                                refine lv_iload zx zb dX9_takeMatch_143 (lv_at hl 0 rfl) ?_
                                refine lv_aload_n zx zb dX9_takeMatch_145 rfl (lv_at hl 3 rfl) ?_
                                refine j_get hC hI hin_X9_takeMatch_X9 1 rfl rfl 5 (by decide) hfl_X9_takeMatch_20 rfl rfl dX9_takeMatch_146 ?_
                                refine j_icmp_gt (tgt := 162) hC dX9_takeMatch_149 (by decide) (by omega) (by omega) (fun c149 => ?_) (fun c149 => ?_)
                                · refine lv_iconst (v := nI 0) zx zb dX9_takeMatch_162 (by decide) ?_
                                  refine lv_iconst (v := nI 4) zx zb dX9_takeMatch_163 (by decide) ?_
                                  refine j_callVv (wr := [aI G r11 500 f, aI G r10 700 L]) hC hI (c_X9_need_keep zl G y0 r1 r2 r3 r4 r5 r6 r7 r8 r9 r10 r11 r12 r13 n la lm lw kn k wp bt pn q th os wz sz (8 * sz) 1 tz 0 4 (by omega) (by omega)) (cwV 2 hC.2.2.2.2.1 gX9_takeMatch_X9_need rfl rfl rfl (by decide +kernel) ⟨Nat.le_of_ble_eq_true rfl, Nat.le_of_ble_eq_true rfl⟩) [1] [0, 2] rfl rfl rfl rfl rfl rfl (q0 := 0) rfl rfl rfl hl.1 (Nat.le_of_ble_eq_true rfl) dX9_takeMatch_164 ⟨Nat.le_of_ble_eq_true rfl, Nat.le_of_ble_eq_true rfl⟩ (fun u164 H locs hp164 hI => ?_)
                                  have hI : jI G zA zs [aI G r11 500 f, aI G r10 700 L, oC y0 9 [.int (nI 0), .ref r1, .int (nI n), .int (nI la), .int (nI lm), .int (nI lw), .ref r2, .ref r3, .ref r4, .int (nI kn), .ref r5, .ref r6, .ref r7, .int (nI k), .int (nI wp), .int (nI bt), .ref r8, .int (nI pn), .int (nI q), .int (nI th), .ref r9, .int (nI os), .int (nI wz), .ref r10, .int (nI sz), .int (nI (8 * sz)), .ref r11, .ref r12, .int tz, .ref r13, .int (nI 1)]] H locs := hI
                                  exact loop167 ((((2 ^ i) + (nb L ((ia + i) + 1) i)) + la) - 1) 1 (8 * sz) ((2 ^ (nb L (((ia + i) + 1) + i) 4)) + v132_0) (by omega) (by omega)  _ _ _ (hI.sub [2, 1, 0] rfl rfl) (lv_sub hl [3, 4, 5, 2, 0] rfl)
                                · refine lv_iload zx zb dX9_takeMatch_152 (lv_at hl 0 rfl) ?_
                                  refine lv_iload_n zx zb dX9_takeMatch_154 rfl (lv_at hl 4 rfl) ?_
                                  refine j_icmp_gt (tgt := 162) hC dX9_takeMatch_155 (by decide) (by omega) (by omega) (fun c155 => ?_) (fun c155 => ?_)
                                  · refine lv_iconst (v := nI 0) zx zb dX9_takeMatch_162 (by decide) ?_
                                    refine lv_iconst (v := nI 4) zx zb dX9_takeMatch_163 (by decide) ?_
                                    refine j_callVv (wr := [aI G r11 500 f, aI G r10 700 L]) hC hI (c_X9_need_keep zl G y0 r1 r2 r3 r4 r5 r6 r7 r8 r9 r10 r11 r12 r13 n la lm lw kn k wp bt pn q th os wz sz (8 * sz) 1 tz 0 4 (by omega) (by omega)) (cwV 2 hC.2.2.2.2.1 gX9_takeMatch_X9_need rfl rfl rfl (by decide +kernel) ⟨Nat.le_of_ble_eq_true rfl, Nat.le_of_ble_eq_true rfl⟩) [1] [0, 2] rfl rfl rfl rfl rfl rfl (q0 := 0) rfl rfl rfl hl.1 (Nat.le_of_ble_eq_true rfl) dX9_takeMatch_164 ⟨Nat.le_of_ble_eq_true rfl, Nat.le_of_ble_eq_true rfl⟩ (fun u164 H locs hp164 hI => ?_)
                                    have hI : jI G zA zs [aI G r11 500 f, aI G r10 700 L, oC y0 9 [.int (nI 0), .ref r1, .int (nI n), .int (nI la), .int (nI lm), .int (nI lw), .ref r2, .ref r3, .ref r4, .int (nI kn), .ref r5, .ref r6, .ref r7, .int (nI k), .int (nI wp), .int (nI bt), .ref r8, .int (nI pn), .int (nI q), .int (nI th), .ref r9, .int (nI os), .int (nI wz), .ref r10, .int (nI sz), .int (nI (8 * sz)), .ref r11, .ref r12, .int tz, .ref r13, .int (nI 1)]] H locs := hI
                                    exact loop167 ((((2 ^ i) + (nb L ((ia + i) + 1) i)) + la) - 1) 1 (8 * sz) ((2 ^ (nb L (((ia + i) + 1) + i) 4)) + v132_0) (by omega) (by omega)  _ _ _ (hI.sub [2, 1, 0] rfl rfl) (lv_sub hl [3, 4, 5, 2, 0] rfl)
                                  · refine lv_iconst (v := nI 1) zx zb dX9_takeMatch_158 (by decide) ?_
                                    refine lv_goto (tgt := 163) zx zb dX9_takeMatch_159 (by decide) ?_
                                    refine lv_iconst (v := nI 4) zx zb dX9_takeMatch_163 (by decide) ?_
                                    refine j_callVv (wr := [aI G r11 500 f, aI G r10 700 L]) hC hI (c_X9_need_keep zl G y0 r1 r2 r3 r4 r5 r6 r7 r8 r9 r10 r11 r12 r13 n la lm lw kn k wp bt pn q th os wz sz (8 * sz) 1 tz 1 4 (by omega) (by omega)) (cwV 2 hC.2.2.2.2.1 gX9_takeMatch_X9_need rfl rfl rfl (by decide +kernel) ⟨Nat.le_of_ble_eq_true rfl, Nat.le_of_ble_eq_true rfl⟩) [1] [0, 2] rfl rfl rfl rfl rfl rfl (q0 := 0) rfl rfl rfl hl.1 (Nat.le_of_ble_eq_true rfl) dX9_takeMatch_164 ⟨Nat.le_of_ble_eq_true rfl, Nat.le_of_ble_eq_true rfl⟩ (fun u164 H locs hp164 hI => ?_)
                                    have hI : jI G zA zs [aI G r11 500 f, aI G r10 700 L, oC y0 9 [.int (nI 0), .ref r1, .int (nI n), .int (nI la), .int (nI lm), .int (nI lw), .ref r2, .ref r3, .ref r4, .int (nI kn), .ref r5, .ref r6, .ref r7, .int (nI k), .int (nI wp), .int (nI bt), .ref r8, .int (nI pn), .int (nI q), .int (nI th), .ref r9, .int (nI os), .int (nI wz), .ref r10, .int (nI sz), .int (nI (8 * sz)), .ref r11, .ref r12, .int tz, .ref r13, .int (nI 1)]] H locs := hI
                                    exact loop167 ((((2 ^ i) + (nb L ((ia + i) + 1) i)) + la) - 1) 1 (8 * sz) ((2 ^ (nb L (((ia + i) + 1) + i) 4)) + v132_0) (by omega) (by omega)  _ _ _ (hI.sub [2, 1, 0] rfl rfl) (lv_sub hl [3, 4, 5, 2, 0] rfl)
                              · have hnb5 := nb_lt L (ia + i + 1 + i + 4) (nb L (ia + i + 1 + i) 4)
                                have hz5 : 2 ^ (nb L (ia + i + 1 + i) 4) ≤ 2 ^ 15 := Nat.pow_le_pow_right (by decide) (by omega)
                                have hz6 := Nat.two_pow_pos (nb L (ia + i + 1 + i) 4)
                                refine j_callVi (wr := [aI G r11 500 f]) hC hI (c_X9_take_ok zl G y0 r1 r2 r3 r4 r5 r6 r7 r8 r9 r10 r11 r12 r13 n la lm lw kn k wp bt pn q th os wz sz ((((ia + i) + 1) + i) + 4) tz L (nb L (((ia + i) + 1) + i) 4) (by omega) (by omega) (by omega) (by omega)) (cwV 1 hC.2.2.2.2.1 gX9_takeMatch_X9_take rfl rfl rfl (by decide +kernel) ⟨Nat.le_of_ble_eq_true rfl, Nat.le_of_ble_eq_true rfl⟩) [1, 2] [0] rfl rfl rfl rfl rfl rfl (q0 := 0) rfl rfl rfl hl.1 (Nat.le_of_ble_eq_true rfl) dX9_takeMatch_132 ⟨Nat.le_of_ble_eq_true rfl, Nat.le_of_ble_eq_true rfl⟩ (fun rv132 u132 H locs hp132 hI => ?_)
                                have hI : jI G zA zs [aI G r11 500 f, oC y0 9 [.int (nI 0), .ref r1, .int (nI n), .int (nI la), .int (nI lm), .int (nI lw), .ref r2, .ref r3, .ref r4, .int (nI kn), .ref r5, .ref r6, .ref r7, .int (nI k), .int (nI wp), .int (nI bt), .ref r8, .int (nI pn), .int (nI q), .int (nI th), .ref r9, .int (nI os), .int (nI wz), .ref r10, .int (nI sz), .int (nI (((((ia + i) + 1) + i) + 4) + (nb L (((ia + i) + 1) + i) 4))), .ref r11, .ref r12, .int tz, .ref r13, .int (nI 0)], aI G r10 700 L] H locs := hI
                                subst hp132
                                refine j_iadd hC dX9_takeMatch_135 ?_
                                refine lv_goto (tgt := 140) zx zb dX9_takeMatch_136 (by decide) ?_
                                refine lv_istore (lv' := [(6, .int (nI ((2 ^ (nb L (((ia + i) + 1) + i) 4)) + (nb L ((((ia + i) + 1) + i) + 4) (nb L (((ia + i) + 1) + i) 4))))), (5, .int (nI (nb L (((ia + i) + 1) + i) 4))), (4, .int (nI ((((2 ^ i) + (nb L ((ia + i) + 1) i)) + la) - 1))), (0, .ref y0), (1, .int (nI m)), (2, .int (nI all)), (3, .int (nI i))]) zx zb dX9_takeMatch_140 hl (by decide) rfl (fun ls hl => ?_)
                                refine lv_aload_n zx zb dX9_takeMatch_142 rfl (lv_at hl 3 rfl) ?_
                                refine lv_iload zx zb dX9_takeMatch_143 (lv_at hl 0 rfl) ?_
                                refine lv_aload_n zx zb dX9_takeMatch_145 rfl (lv_at hl 3 rfl) ?_
                                refine j_get hC hI hin_X9_takeMatch_X9 1 rfl rfl 5 (by decide) hfl_X9_takeMatch_20 rfl rfl dX9_takeMatch_146 ?_
                                refine j_icmp_gt (tgt := 162) hC dX9_takeMatch_149 (by decide) (by omega) (by omega) (fun c149 => ?_) (fun c149 => ?_)
                                · have hR : (rdM L (8 * sz) la lm lw all ia m f).1 = 4 := by rw [rdM_of hzi, if_neg (by omega), if_neg (by omega), if_neg (by omega), if_neg (by omega), if_neg (by omega), if_neg (by omega), if_pos (by omega)]
                                  refine lv_iconst (v := nI 0) zx zb dX9_takeMatch_162 (by decide) ?_
                                  refine lv_iconst (v := nI 4) zx zb dX9_takeMatch_163 (by decide) ?_
                                  refine j_callVv (wr := [aI G r11 500 f, aI G r10 700 L]) hC hI (c_X9_need_set zl G y0 r1 r2 r3 r4 r5 r6 r7 r8 r9 r10 r11 r12 r13 n la lm lw kn k wp bt pn q th os wz sz (((((ia + i) + 1) + i) + 4) + (nb L (((ia + i) + 1) + i) 4)) tz 4 ) (cwV 2 hC.2.2.2.2.1 gX9_takeMatch_X9_need rfl rfl rfl (by decide +kernel) ⟨Nat.le_of_ble_eq_true rfl, Nat.le_of_ble_eq_true rfl⟩) [1] [0, 2] rfl rfl rfl rfl rfl rfl (q0 := 0) rfl rfl rfl hl.1 (Nat.le_of_ble_eq_true rfl) dX9_takeMatch_164 ⟨Nat.le_of_ble_eq_true rfl, Nat.le_of_ble_eq_true rfl⟩ (fun u164 H locs hp164 hI => ?_)
                                  have hI : jI G zA zs [aI G r11 500 f, aI G r10 700 L, oC y0 9 [.int (nI 0), .ref r1, .int (nI n), .int (nI la), .int (nI lm), .int (nI lw), .ref r2, .ref r3, .ref r4, .int (nI kn), .ref r5, .ref r6, .ref r7, .int (nI k), .int (nI wp), .int (nI bt), .ref r8, .int (nI pn), .int (nI q), .int (nI th), .ref r9, .int (nI os), .int (nI wz), .ref r10, .int (nI sz), .int (nI (((((ia + i) + 1) + i) + 4) + (nb L (((ia + i) + 1) + i) 4))), .ref r11, .ref r12, .int tz, .ref r13, .int (nI 4)]] H locs := hI
                                  exact loop167 ((((2 ^ i) + (nb L ((ia + i) + 1) i)) + la) - 1) 4 (((((ia + i) + 1) + i) + 4) + (nb L (((ia + i) + 1) + i) 4)) ((2 ^ (nb L (((ia + i) + 1) + i) 4)) + (nb L ((((ia + i) + 1) + i) + 4) (nb L (((ia + i) + 1) + i) 4))) (by omega) (by omega)  _ _ _ (hI.sub [2, 1, 0] rfl rfl) (lv_sub hl [3, 4, 5, 2, 0] rfl)
                                · refine lv_iload zx zb dX9_takeMatch_152 (lv_at hl 0 rfl) ?_
                                  refine lv_iload_n zx zb dX9_takeMatch_154 rfl (lv_at hl 4 rfl) ?_
                                  refine j_icmp_gt (tgt := 162) hC dX9_takeMatch_155 (by decide) (by omega) (by omega) (fun c155 => ?_) (fun c155 => ?_)
                                  · have hR : (rdM L (8 * sz) la lm lw all ia m f).1 = 4 := by rw [rdM_of hzi, if_neg (by omega), if_neg (by omega), if_neg (by omega), if_neg (by omega), if_neg (by omega), if_neg (by omega), if_pos (by omega)]
                                    refine lv_iconst (v := nI 0) zx zb dX9_takeMatch_162 (by decide) ?_
                                    refine lv_iconst (v := nI 4) zx zb dX9_takeMatch_163 (by decide) ?_
                                    refine j_callVv (wr := [aI G r11 500 f, aI G r10 700 L]) hC hI (c_X9_need_set zl G y0 r1 r2 r3 r4 r5 r6 r7 r8 r9 r10 r11 r12 r13 n la lm lw kn k wp bt pn q th os wz sz (((((ia + i) + 1) + i) + 4) + (nb L (((ia + i) + 1) + i) 4)) tz 4 ) (cwV 2 hC.2.2.2.2.1 gX9_takeMatch_X9_need rfl rfl rfl (by decide +kernel) ⟨Nat.le_of_ble_eq_true rfl, Nat.le_of_ble_eq_true rfl⟩) [1] [0, 2] rfl rfl rfl rfl rfl rfl (q0 := 0) rfl rfl rfl hl.1 (Nat.le_of_ble_eq_true rfl) dX9_takeMatch_164 ⟨Nat.le_of_ble_eq_true rfl, Nat.le_of_ble_eq_true rfl⟩ (fun u164 H locs hp164 hI => ?_)
                                    have hI : jI G zA zs [aI G r11 500 f, aI G r10 700 L, oC y0 9 [.int (nI 0), .ref r1, .int (nI n), .int (nI la), .int (nI lm), .int (nI lw), .ref r2, .ref r3, .ref r4, .int (nI kn), .ref r5, .ref r6, .ref r7, .int (nI k), .int (nI wp), .int (nI bt), .ref r8, .int (nI pn), .int (nI q), .int (nI th), .ref r9, .int (nI os), .int (nI wz), .ref r10, .int (nI sz), .int (nI (((((ia + i) + 1) + i) + 4) + (nb L (((ia + i) + 1) + i) 4))), .ref r11, .ref r12, .int tz, .ref r13, .int (nI 4)]] H locs := hI
                                    exact loop167 ((((2 ^ i) + (nb L ((ia + i) + 1) i)) + la) - 1) 4 (((((ia + i) + 1) + i) + 4) + (nb L (((ia + i) + 1) + i) 4)) ((2 ^ (nb L (((ia + i) + 1) + i) 4)) + (nb L ((((ia + i) + 1) + i) + 4) (nb L (((ia + i) + 1) + i) 4))) (by omega) (by omega)  _ _ _ (hI.sub [2, 1, 0] rfl rfl) (lv_sub hl [3, 4, 5, 2, 0] rfl)
                                  · refine lv_iconst (v := nI 1) zx zb dX9_takeMatch_158 (by decide) ?_
                                    refine lv_goto (tgt := 163) zx zb dX9_takeMatch_159 (by decide) ?_
                                    refine lv_iconst (v := nI 4) zx zb dX9_takeMatch_163 (by decide) ?_
                                    refine j_callVv (wr := [aI G r11 500 f, aI G r10 700 L]) hC hI (c_X9_need_keep zl G y0 r1 r2 r3 r4 r5 r6 r7 r8 r9 r10 r11 r12 r13 n la lm lw kn k wp bt pn q th os wz sz (((((ia + i) + 1) + i) + 4) + (nb L (((ia + i) + 1) + i) 4)) 0 tz 1 4 (by omega) (by omega)) (cwV 2 hC.2.2.2.2.1 gX9_takeMatch_X9_need rfl rfl rfl (by decide +kernel) ⟨Nat.le_of_ble_eq_true rfl, Nat.le_of_ble_eq_true rfl⟩) [1] [0, 2] rfl rfl rfl rfl rfl rfl (q0 := 0) rfl rfl rfl hl.1 (Nat.le_of_ble_eq_true rfl) dX9_takeMatch_164 ⟨Nat.le_of_ble_eq_true rfl, Nat.le_of_ble_eq_true rfl⟩ (fun u164 H locs hp164 hI => ?_)
                                    have hI : jI G zA zs [aI G r11 500 f, aI G r10 700 L, oC y0 9 [.int (nI 0), .ref r1, .int (nI n), .int (nI la), .int (nI lm), .int (nI lw), .ref r2, .ref r3, .ref r4, .int (nI kn), .ref r5, .ref r6, .ref r7, .int (nI k), .int (nI wp), .int (nI bt), .ref r8, .int (nI pn), .int (nI q), .int (nI th), .ref r9, .int (nI os), .int (nI wz), .ref r10, .int (nI sz), .int (nI (((((ia + i) + 1) + i) + 4) + (nb L (((ia + i) + 1) + i) 4))), .ref r11, .ref r12, .int tz, .ref r13, .int (nI 0)]] H locs := hI
                                    refine lv_iconst (v := nI 0) zx zb dX9_takeMatch_167 (by decide) ?_
                                    refine lv_istore (lv' := [(7, .int (nI 0)), (6, .int (nI ((2 ^ (nb L (((ia + i) + 1) + i) 4)) + (nb L ((((ia + i) + 1) + i) + 4) (nb L (((ia + i) + 1) + i) 4))))), (5, .int (nI (nb L (((ia + i) + 1) + i) 4))), (4, .int (nI ((((2 ^ i) + (nb L ((ia + i) + 1) i)) + la) - 1))), (0, .ref y0), (1, .int (nI m)), (2, .int (nI all)), (3, .int (nI i))]) zx zb dX9_takeMatch_168 hl (by decide) rfl (fun ls hl => ?_)
                                    have loop170 : ∀ (zn170 : Nat) (t : Nat) (g : Nat → Nat), (t ≤ 2 ^ i + nb L (ia + i + 1) i + la - 1) → (agn (2 ^ (nb L (ia + i + 1 + i) 4) + nb L (ia + i + 1 + i + 4) (nb L (ia + i + 1 + i) 4)) (2 ^ i + nb L (ia + i + 1) i + la - 1 - t) g (m + t) = agn (2 ^ (nb L (ia + i + 1 + i) 4) + nb L (ia + i + 1 + i + 4) (nb L (ia + i + 1 + i) 4)) (2 ^ i + nb L (ia + i + 1) i + la - 1) f m) → (∀ j, j < m + t → g j < 256) → (2 ^ i + nb L (ia + i + 1) i + la - 1 - t) < zn170 → ∀ (H : Heap) (locs : List Loc) (ls : Array Slot), jI G zA zs [oC y0 9 [.int (nI 0), .ref r1, .int (nI n), .int (nI la), .int (nI lm), .int (nI lw), .ref r2, .ref r3, .ref r4, .int (nI kn), .ref r5, .ref r6, .ref r7, .int (nI k), .int (nI wp), .int (nI bt), .ref r8, .int (nI pn), .int (nI q), .int (nI th), .ref r9, .int (nI os), .int (nI wz), .ref r10, .int (nI sz), .int (nI (ia + i + 1 + i + 4 + (nb L (ia + i + 1 + i) 4))), .ref r11, .ref r12, .int tz, .ref r13, .int (nI 0)], aI G r10 700 L, aI G r11 500 g] H locs → lv_has ls 8 [(0, .ref y0), (1, .int (nI m)), (2, .int (nI all)), (4, .int (nI (2 ^ i + nb L (ia + i + 1) i + la - 1))), (6, .int (nI (2 ^ (nb L (ia + i + 1 + i) 4) + nb L (ia + i + 1 + i + 4) (nb L (ia + i + 1 + i) 4)))), (7, .int (nI t))] → W zp zl ze ({ frames := 2, cells := 0, slots := 0, locals := 44 }) zs zm zargs zbelow zmeth zc H locs 0 0 zQ (F0 zm 170 ls []) := by
                                      intro zn170
                                      induction zn170 with
                                      | zero => intros; omega
                                      | succ zn170 ih170 =>
                                        intro t g ht hg hgb zm170 H locs ls hI hl
                                        refine lv_iload zx zb dX9_takeMatch_170 (lv_at hl 5 rfl) ?_
                                        refine lv_iload zx zb dX9_takeMatch_172 (lv_at hl 3 rfl) ?_
                                        refine j_icmp_ge (tgt := 211) hC dX9_takeMatch_174 (by decide) (by omega) (by omega) (fun c174 => ?_) (fun c174 => ?_)
                                        · refine lv_iload zx zb dX9_takeMatch_211 (lv_at hl 3 rfl) ?_
                                          have hQ9 := rdM_of (la := la) (lm := lm) (lw := lw) (all := all) (m := m) (f := f) hzi
                                          rw [if_neg (by omega), if_neg (by omega), if_neg (by omega), if_neg (by omega), if_neg (by omega), if_neg (by omega), if_neg (by omega)] at hQ9
                                          have et : t = 2 ^ i + nb L (ia + i + 1) i + la - 1 := by omega
                                          rw [et, Nat.sub_self] at hg
                                          exact hQ _ _ _ _ _ ⟨2 ^ i + nb L (ia + i + 1) i + la - 1, 0, ia + i + 1 + i + 4 + (nb L (ia + i + 1 + i) 4), g⟩ dX9_takeMatch_213 (hI.sub [0, 1, 2] rfl rfl) (by (try dsimp only); exact ⟨(by first | rfl | (congr 1; omega) | omega), (by rw [hQ9]; exact ⟨rfl, by omega⟩), (by omega), (fun h => by rw [hQ9, show 2 ^ i + nb L (ia + i + 1) i - 1 + la = 2 ^ i + nb L (ia + i + 1) i + la - 1 by omega]; exact ⟨rfl, rfl, hg⟩), (fun h => by rw [← et]; exact hgb), (fun h => by omega)⟩)
                                        · refine lv_aload_n zx zb dX9_takeMatch_177 rfl (lv_at hl 0 rfl) ?_
                                          refine j_get hC hI hin_X9_takeMatch_X9 0 rfl rfl 30 (by decide) hfl_X9_takeMatch_147 rfl rfl dX9_takeMatch_178 ?_
                                          refine j_if_ne (tgt := 211) hC dX9_takeMatch_181 (by decide) (by omega) (fun c181 => ?_) (fun c181 => ?_)
                                          · exact (by omega : False).elim
                                          · refine lv_aload_n zx zb dX9_takeMatch_184 rfl (lv_at hl 0 rfl) ?_
                                            refine j_get hC hI hin_X9_takeMatch_X9 0 rfl rfl 26 (by decide) hfl_X9_takeMatch_53 rfl rfl dX9_takeMatch_185 ?_
                                            refine lv_iload_n zx zb dX9_takeMatch_188 rfl (lv_at hl 1 rfl) ?_
                                            refine lv_iload zx zb dX9_takeMatch_189 (lv_at hl 5 rfl) ?_
                                            refine j_iadd hC dX9_takeMatch_191 ?_
                                            refine lv_aload_n zx zb dX9_takeMatch_192 rfl (lv_at hl 0 rfl) ?_
                                            refine j_get hC hI hin_X9_takeMatch_X9 0 rfl rfl 26 (by decide) hfl_X9_takeMatch_53 rfl rfl dX9_takeMatch_193 ?_
                                            refine lv_iload_n zx zb dX9_takeMatch_196 rfl (lv_at hl 1 rfl) ?_
                                            refine lv_iload zx zb dX9_takeMatch_197 (lv_at hl 5 rfl) ?_
                                            refine j_iadd hC dX9_takeMatch_199 ?_
                                            refine lv_iload zx zb dX9_takeMatch_200 (lv_at hl 4 rfl) ?_
                                            refine j_isub hC (by omega) dX9_takeMatch_202 ?_
                                            have hgd := hgb (m + t - (2 ^ (nb L (ia + i + 1 + i) 4) + nb L (ia + i + 1 + i + 4) (nb L (ia + i + 1 + i) 4))) (by omega)
                                            refine j_iald hC hI 2 rfl (by omega) (by omega) dX9_takeMatch_203 ?_
                                            refine j_iast (w1 := [oC y0 9 [.int (nI 0), .ref r1, .int (nI n), .int (nI la), .int (nI lm), .int (nI lw), .ref r2, .ref r3, .ref r4, .int (nI kn), .ref r5, .ref r6, .ref r7, .int (nI k), .int (nI wp), .int (nI bt), .ref r8, .int (nI pn), .int (nI q), .int (nI th), .ref r9, .int (nI os), .int (nI wz), .ref r10, .int (nI sz), .int (nI (ia + i + 1 + i + 4 + (nb L (ia + i + 1 + i) 4))), .ref r11, .ref r12, .int tz, .ref r13, .int (nI 0)], aI G r10 700 L, aI G r11 500 (up g (m + t) (g ((m + t) - (2 ^ (nb L (ia + i + 1 + i) 4) + nb L (ia + i + 1 + i + 4) (nb L (ia + i + 1 + i) 4)))))]) hC hI 2 rfl (by omega) (by omega) dX9_takeMatch_204 rfl (fun H locs hI => ?_)
                                            refine lv_iinc (v := nI (t + 1)) (lv' := [(7, .int (nI (t + 1))), (0, .ref y0), (1, .int (nI m)), (2, .int (nI all)), (4, .int (nI (2 ^ i + nb L (ia + i + 1) i + la - 1))), (6, .int (nI (2 ^ (nb L (ia + i + 1 + i) 4) + nb L (ia + i + 1 + i + 4) (nb L (ia + i + 1 + i) 4))))]) zx zb dX9_takeMatch_205 hl (k := 5) rfl (j_inc _ _ _ (by decide)) (by decide) rfl (fun ls hl => ?_)
                                            refine lv_goto (tgt := 170) zx zb dX9_takeMatch_208 (by decide) ?_
                                            exact ih170 (t + 1) (up g (m + t) (g ((m + t) - (2 ^ (nb L (ia + i + 1 + i) 4) + nb L (ia + i + 1 + i + 4) (nb L (ia + i + 1 + i) 4))))) (by omega) (by rw [← hg, show 2 ^ i + nb L (ia + i + 1) i + la - 1 - t = (2 ^ i + nb L (ia + i + 1) i + la - 1 - (t + 1)) + 1 by omega]; rfl) (up_lt hgb (hgb _ (by omega))) (by omega) _ _ _ hI (lv_sub hl [1, 2, 3, 4, 5, 0] rfl)
                                    exact loop170 _ 0 f (by omega) rfl hf (Nat.lt_succ_self _) _ _ _ (hI.sub [2, 1, 0] rfl rfl) (lv_sub hl [4, 5, 6, 3, 1, 0] rfl)
            · have hiz : i < z := zc_lt hz hz9 hi c19
              refine lv_iinc (v := nI (i + 1)) (lv' := [(3, .int (nI (i + 1))), (0, .ref y0), (1, .int (nI m)), (2, .int (nI all))]) zx zb dX9_takeMatch_22 hl (k := 3) rfl (j_inc _ _ _ (by decide)) (by decide) rfl (fun ls hl => ?_)
              refine lv_goto (tgt := 2) zx zb dX9_takeMatch_25 (by decide) ?_
              exact ih2 (i + 1) (by omega) (by omega) _ _ _ (hI.sub [1, 2, 0] rfl rfl) (lv_sub hl [1, 2, 3, 0] rfl)
    exact loop2 _ 0 (by omega) (Nat.lt_succ_self _) _ _ _ hI (lv_sub hl [1, 2, 3, 0] rfl)
  · have hzi := hz
    have hR : (rdM L (8 * sz) la lm lw all ia m f).1 = 1 := by rw [rdM_of hzi, if_neg (by omega), if_pos (by omega)]
    refine lv_iconst (v := nI 0) zx zb dX9_takeMatch_0 (by decide) ?_
    refine lv_istore_n (lv' := [(3, .int (nI 0)), (0, .ref y0), (1, .int (nI m)), (2, .int (nI all))]) zx zb dX9_takeMatch_1 rfl hl (by decide) rfl (fun ls hl => ?_)
    have loop2 : ∀ (zn2 : Nat) (i : Nat), (i ≤ z) → (10 - i) < zn2 → ∀ (H : Heap) (locs : List Loc) (ls : Array Slot), jI G zA zs [oC y0 9 [.int (nI 0), .ref r1, .int (nI n), .int (nI la), .int (nI lm), .int (nI lw), .ref r2, .ref r3, .ref r4, .int (nI kn), .ref r5, .ref r6, .ref r7, .int (nI k), .int (nI wp), .int (nI bt), .ref r8, .int (nI pn), .int (nI q), .int (nI th), .ref r9, .int (nI os), .int (nI wz), .ref r10, .int (nI sz), .int (nI (ia + i)), .ref r11, .ref r12, .int tz, .ref r13, .int (nI 0)], aI G r10 700 L, aI G r11 500 f] H locs → lv_has ls 8 [(0, .ref y0), (1, .int (nI m)), (2, .int (nI all)), (3, .int (nI i))] → W zp zl ze ({ frames := 2, cells := 0, slots := 0, locals := 44 }) zs zm zargs zbelow zmeth zc H locs 0 0 zQ (F0 zm 2 ls []) := by
      intro zn2
      induction zn2 with
      | zero => intros; omega
      | succ zn2 ih2 =>
        intro i hi zm2 H locs ls hI hl
        refine lv_aload_n zx zb dX9_takeMatch_2 rfl (lv_at hl 0 rfl) ?_
        refine j_get hC hI hin_X9_takeMatch_X9 0 rfl rfl 30 (by decide) hfl_X9_takeMatch_147 rfl rfl dX9_takeMatch_3 ?_
        refine j_if_ne (tgt := 28) hC dX9_takeMatch_6 (by decide) (by omega) (fun c6 => ?_) (fun c6 => ?_)
        · exact (by omega : False).elim
        · refine lv_iload_n zx zb dX9_takeMatch_9 rfl (lv_at hl 3 rfl) ?_
          refine lv_bipush (v := nI 9) zx zb dX9_takeMatch_10 (by decide) ?_
          refine j_icmp_ge (tgt := 28) hC dX9_takeMatch_12 (by decide) (by omega) (by omega) (fun c12 => ?_) (fun c12 => ?_)
          · exact (by omega : False).elim
          · refine lv_aload_n zx zb dX9_takeMatch_15 rfl (lv_at hl 0 rfl) ?_
            rcases Nat.lt_or_ge i z with hc | hc
            · have hbl := bitAt_le L (ia + i)
              refine j_callVi (wr := [aI G r11 500 f]) hC hI (c_X9_takeBit_ok zl G y0 r1 r2 r3 r4 r5 r6 r7 r8 r9 r10 r11 r12 r13 n la lm lw kn k wp bt pn q th os wz sz (ia + i) 0 tz L (by omega) (by omega) (by omega)) (cwV 0 hC.2.2.2.2.1 gX9_takeMatch_X9_takeBit rfl rfl rfl (by decide +kernel) ⟨Nat.le_of_ble_eq_true rfl, Nat.le_of_ble_eq_true rfl⟩) [0, 1] [2] rfl rfl rfl rfl rfl rfl (q0 := 0) rfl rfl rfl hl.1 (Nat.le_of_ble_eq_true rfl) dX9_takeMatch_16 ⟨Nat.le_of_ble_eq_true rfl, Nat.le_of_ble_eq_true rfl⟩ (fun rv16 u16 H locs hp16 hI => ?_)
              have hI : jI G zA zs [aI G r11 500 f, oC y0 9 [.int (nI 0), .ref r1, .int (nI n), .int (nI la), .int (nI lm), .int (nI lw), .ref r2, .ref r3, .ref r4, .int (nI kn), .ref r5, .ref r6, .ref r7, .int (nI k), .int (nI wp), .int (nI bt), .ref r8, .int (nI pn), .int (nI q), .int (nI th), .ref r9, .int (nI os), .int (nI wz), .ref r10, .int (nI sz), .int (nI ((ia + i) + 1)), .ref r11, .ref r12, .int tz, .ref r13, .int (nI 0)], aI G r10 700 L] H locs := hI
              subst hp16
              refine j_if_ne (tgt := 28) hC dX9_takeMatch_19 (by decide) (by omega) (fun c19 => ?_) (fun c19 => ?_)
              · exact absurd (zer_0 (k := min 9 (8 * sz - ia)) (by omega)) c19
              · refine lv_iinc (v := nI (i + 1)) (lv' := [(3, .int (nI (i + 1))), (0, .ref y0), (1, .int (nI m)), (2, .int (nI all))]) zx zb dX9_takeMatch_22 hl (k := 3) rfl (j_inc _ _ _ (by decide)) (by decide) rfl (fun ls hl => ?_)
                refine lv_goto (tgt := 2) zx zb dX9_takeMatch_25 (by decide) ?_
                exact ih2 (i + 1) (by omega) (by omega) _ _ _ (hI.sub [1, 2, 0] rfl rfl) (lv_sub hl [1, 2, 3, 0] rfl)
            · refine j_callVi (wr := [aI G r10 700 L, aI G r11 500 f]) hC hI (c_X9_takeBit_end zl G y0 r1 r2 r3 r4 r5 r6 r7 r8 r9 r10 r11 r12 r13 n la lm lw kn k wp bt pn q th os wz sz (ia + i) tz (by omega) (by omega)) (cwV 0 hC.2.2.2.2.1 gX9_takeMatch_X9_takeBit rfl rfl rfl (by decide +kernel) ⟨Nat.le_of_ble_eq_true rfl, Nat.le_of_ble_eq_true rfl⟩) [0] [1, 2] rfl rfl rfl rfl rfl rfl (q0 := 0) rfl rfl rfl hl.1 (Nat.le_of_ble_eq_true rfl) dX9_takeMatch_16 ⟨Nat.le_of_ble_eq_true rfl, Nat.le_of_ble_eq_true rfl⟩ (fun rv16 u16 H locs hp16 hI => ?_)
              have hI : jI G zA zs [aI G r10 700 L, aI G r11 500 f, oC y0 9 [.int (nI 0), .ref r1, .int (nI n), .int (nI la), .int (nI lm), .int (nI lw), .ref r2, .ref r3, .ref r4, .int (nI kn), .ref r5, .ref r6, .ref r7, .int (nI k), .int (nI wp), .int (nI bt), .ref r8, .int (nI pn), .int (nI q), .int (nI th), .ref r9, .int (nI os), .int (nI wz), .ref r10, .int (nI sz), .int (nI (ia + i)), .ref r11, .ref r12, .int tz, .ref r13, .int (nI 1)]] H locs := hI
              subst hp16
              refine j_if_ne (tgt := 28) hC dX9_takeMatch_19 (by decide) (by omega) (fun c19 => ?_) (fun c19 => ?_)
              · exact (by omega : False).elim
              · refine lv_iinc (v := nI (i + 1)) (lv' := [(3, .int (nI (i + 1))), (0, .ref y0), (1, .int (nI m)), (2, .int (nI all))]) zx zb dX9_takeMatch_22 hl (k := 3) rfl (j_inc _ _ _ (by decide)) (by decide) rfl (fun ls hl => ?_)
                refine lv_goto (tgt := 2) zx zb dX9_takeMatch_25 (by decide) ?_
                refine lv_aload_n zx zb dX9_takeMatch_2 rfl (lv_at hl 1 rfl) ?_
                refine j_get hC hI hin_X9_takeMatch_X9 2 rfl rfl 30 (by decide) hfl_X9_takeMatch_147 rfl rfl dX9_takeMatch_3 ?_
                refine j_if_ne (tgt := 28) hC dX9_takeMatch_6 (by decide) (by omega) (fun c6 => ?_) (fun c6 => ?_)
                · refine lv_aload_n zx zb dX9_takeMatch_28 rfl (lv_at hl 1 rfl) ?_
                  refine lv_iload_n zx zb dX9_takeMatch_29 rfl (lv_at hl 0 rfl) ?_
                  refine lv_bipush (v := nI 9) zx zb dX9_takeMatch_30 (by decide) ?_
                  refine j_icmp_ge (tgt := 39) hC dX9_takeMatch_32 (by decide) (by omega) (by omega) (fun c32 => ?_) (fun c32 => ?_)
                  · refine lv_iconst (v := nI 0) zx zb dX9_takeMatch_39 (by decide) ?_
                    refine lv_iconst (v := nI 3) zx zb dX9_takeMatch_40 (by decide) ?_
                    refine j_callVv (wr := [aI G r10 700 L, aI G r11 500 f]) hC hI (c_X9_need_keep zl G y0 r1 r2 r3 r4 r5 r6 r7 r8 r9 r10 r11 r12 r13 n la lm lw kn k wp bt pn q th os wz sz (ia + i) 1 tz 0 3 (by omega) (by omega)) (cwV 2 hC.2.2.2.2.1 gX9_takeMatch_X9_need rfl rfl rfl (by decide +kernel) ⟨Nat.le_of_ble_eq_true rfl, Nat.le_of_ble_eq_true rfl⟩) [2] [0, 1] rfl rfl rfl rfl rfl rfl (q0 := 0) rfl rfl rfl hl.1 (Nat.le_of_ble_eq_true rfl) dX9_takeMatch_41 ⟨Nat.le_of_ble_eq_true rfl, Nat.le_of_ble_eq_true rfl⟩ (fun u41 H locs hp41 hI => ?_)
                    have hI : jI G zA zs [aI G r10 700 L, aI G r11 500 f, oC y0 9 [.int (nI 0), .ref r1, .int (nI n), .int (nI la), .int (nI lm), .int (nI lw), .ref r2, .ref r3, .ref r4, .int (nI kn), .ref r5, .ref r6, .ref r7, .int (nI k), .int (nI wp), .int (nI bt), .ref r8, .int (nI pn), .int (nI q), .int (nI th), .ref r9, .int (nI os), .int (nI wz), .ref r10, .int (nI sz), .int (nI (ia + i)), .ref r11, .ref r12, .int tz, .ref r13, .int (nI 1)]] H locs := hI
                    refine lv_aload_n zx zb dX9_takeMatch_44 rfl (lv_at hl 1 rfl) ?_
                    refine j_get hC hI hin_X9_takeMatch_X9 2 rfl rfl 30 (by decide) hfl_X9_takeMatch_147 rfl rfl dX9_takeMatch_45 ?_
                    refine j_if_ne (tgt := 70) hC dX9_takeMatch_48 (by decide) (by omega) (fun c48 => ?_) (fun c48 => ?_)
                    · refine lv_iconst (v := nI 0) zx zb dX9_takeMatch_70 (by decide) ?_
                      exact loop71 0 1 (ia + i) (by omega) (by omega)  _ _ _ (hI.sub [2, 0, 1] rfl rfl) (lv_sub hl [1, 2, 3] rfl)
                    · exact (by omega : False).elim
                  · refine lv_iconst (v := nI 1) zx zb dX9_takeMatch_35 (by decide) ?_
                    refine lv_goto (tgt := 40) zx zb dX9_takeMatch_36 (by decide) ?_
                    refine lv_iconst (v := nI 3) zx zb dX9_takeMatch_40 (by decide) ?_
                    refine j_callVv (wr := [aI G r10 700 L, aI G r11 500 f]) hC hI (c_X9_need_keep zl G y0 r1 r2 r3 r4 r5 r6 r7 r8 r9 r10 r11 r12 r13 n la lm lw kn k wp bt pn q th os wz sz (ia + i) 1 tz 1 3 (by omega) (by omega)) (cwV 2 hC.2.2.2.2.1 gX9_takeMatch_X9_need rfl rfl rfl (by decide +kernel) ⟨Nat.le_of_ble_eq_true rfl, Nat.le_of_ble_eq_true rfl⟩) [2] [0, 1] rfl rfl rfl rfl rfl rfl (q0 := 0) rfl rfl rfl hl.1 (Nat.le_of_ble_eq_true rfl) dX9_takeMatch_41 ⟨Nat.le_of_ble_eq_true rfl, Nat.le_of_ble_eq_true rfl⟩ (fun u41 H locs hp41 hI => ?_)
                    have hI : jI G zA zs [aI G r10 700 L, aI G r11 500 f, oC y0 9 [.int (nI 0), .ref r1, .int (nI n), .int (nI la), .int (nI lm), .int (nI lw), .ref r2, .ref r3, .ref r4, .int (nI kn), .ref r5, .ref r6, .ref r7, .int (nI k), .int (nI wp), .int (nI bt), .ref r8, .int (nI pn), .int (nI q), .int (nI th), .ref r9, .int (nI os), .int (nI wz), .ref r10, .int (nI sz), .int (nI (ia + i)), .ref r11, .ref r12, .int tz, .ref r13, .int (nI 1)]] H locs := hI
                    refine lv_aload_n zx zb dX9_takeMatch_44 rfl (lv_at hl 1 rfl) ?_
                    refine j_get hC hI hin_X9_takeMatch_X9 2 rfl rfl 30 (by decide) hfl_X9_takeMatch_147 rfl rfl dX9_takeMatch_45 ?_
                    refine j_if_ne (tgt := 70) hC dX9_takeMatch_48 (by decide) (by omega) (fun c48 => ?_) (fun c48 => ?_)
                    · refine lv_iconst (v := nI 0) zx zb dX9_takeMatch_70 (by decide) ?_
                      exact loop71 0 1 (ia + i) (by omega) (by omega)  _ _ _ (hI.sub [2, 0, 1] rfl rfl) (lv_sub hl [1, 2, 3] rfl)
                    · exact (by omega : False).elim
                · exact (by omega : False).elim
    exact loop2 _ 0 (by omega) (Nat.lt_succ_self _) _ _ _ hI (lv_sub hl [1, 2, 3, 0] rfl)
  · have hzi := hz
    have hR : (rdM L (8 * sz) la lm lw all ia m f).1 = 3 := by rw [rdM_of hzi, if_pos (by omega)]
    refine lv_iconst (v := nI 0) zx zb dX9_takeMatch_0 (by decide) ?_
    refine lv_istore_n (lv' := [(3, .int (nI 0)), (0, .ref y0), (1, .int (nI m)), (2, .int (nI all))]) zx zb dX9_takeMatch_1 rfl hl (by decide) rfl (fun ls hl => ?_)
    have loop2 : ∀ (zn2 : Nat) (i : Nat), (i ≤ z) → (10 - i) < zn2 → ∀ (H : Heap) (locs : List Loc) (ls : Array Slot), jI G zA zs [oC y0 9 [.int (nI 0), .ref r1, .int (nI n), .int (nI la), .int (nI lm), .int (nI lw), .ref r2, .ref r3, .ref r4, .int (nI kn), .ref r5, .ref r6, .ref r7, .int (nI k), .int (nI wp), .int (nI bt), .ref r8, .int (nI pn), .int (nI q), .int (nI th), .ref r9, .int (nI os), .int (nI wz), .ref r10, .int (nI sz), .int (nI (ia + i)), .ref r11, .ref r12, .int tz, .ref r13, .int (nI 0)], aI G r10 700 L, aI G r11 500 f] H locs → lv_has ls 8 [(0, .ref y0), (1, .int (nI m)), (2, .int (nI all)), (3, .int (nI i))] → W zp zl ze ({ frames := 2, cells := 0, slots := 0, locals := 44 }) zs zm zargs zbelow zmeth zc H locs 0 0 zQ (F0 zm 2 ls []) := by
      intro zn2
      induction zn2 with
      | zero => intros; omega
      | succ zn2 ih2 =>
        intro i hi zm2 H locs ls hI hl
        refine lv_aload_n zx zb dX9_takeMatch_2 rfl (lv_at hl 0 rfl) ?_
        refine j_get hC hI hin_X9_takeMatch_X9 0 rfl rfl 30 (by decide) hfl_X9_takeMatch_147 rfl rfl dX9_takeMatch_3 ?_
        refine j_if_ne (tgt := 28) hC dX9_takeMatch_6 (by decide) (by omega) (fun c6 => ?_) (fun c6 => ?_)
        · exact (by omega : False).elim
        · refine lv_iload_n zx zb dX9_takeMatch_9 rfl (lv_at hl 3 rfl) ?_
          refine lv_bipush (v := nI 9) zx zb dX9_takeMatch_10 (by decide) ?_
          refine j_icmp_ge (tgt := 28) hC dX9_takeMatch_12 (by decide) (by omega) (by omega) (fun c12 => ?_) (fun c12 => ?_)
          · refine lv_aload_n zx zb dX9_takeMatch_28 rfl (lv_at hl 0 rfl) ?_
            refine lv_iload_n zx zb dX9_takeMatch_29 rfl (lv_at hl 3 rfl) ?_
            refine lv_bipush (v := nI 9) zx zb dX9_takeMatch_30 (by decide) ?_
            refine j_icmp_ge (tgt := 39) hC dX9_takeMatch_32 (by decide) (by omega) (by omega) (fun c32 => ?_) (fun c32 => ?_)
            · refine lv_iconst (v := nI 0) zx zb dX9_takeMatch_39 (by decide) ?_
              refine lv_iconst (v := nI 3) zx zb dX9_takeMatch_40 (by decide) ?_
              refine j_callVv (wr := [aI G r10 700 L, aI G r11 500 f]) hC hI (c_X9_need_set zl G y0 r1 r2 r3 r4 r5 r6 r7 r8 r9 r10 r11 r12 r13 n la lm lw kn k wp bt pn q th os wz sz (ia + i) tz 3 ) (cwV 2 hC.2.2.2.2.1 gX9_takeMatch_X9_need rfl rfl rfl (by decide +kernel) ⟨Nat.le_of_ble_eq_true rfl, Nat.le_of_ble_eq_true rfl⟩) [0] [1, 2] rfl rfl rfl rfl rfl rfl (q0 := 0) rfl rfl rfl hl.1 (Nat.le_of_ble_eq_true rfl) dX9_takeMatch_41 ⟨Nat.le_of_ble_eq_true rfl, Nat.le_of_ble_eq_true rfl⟩ (fun u41 H locs hp41 hI => ?_)
              have hI : jI G zA zs [aI G r10 700 L, aI G r11 500 f, oC y0 9 [.int (nI 0), .ref r1, .int (nI n), .int (nI la), .int (nI lm), .int (nI lw), .ref r2, .ref r3, .ref r4, .int (nI kn), .ref r5, .ref r6, .ref r7, .int (nI k), .int (nI wp), .int (nI bt), .ref r8, .int (nI pn), .int (nI q), .int (nI th), .ref r9, .int (nI os), .int (nI wz), .ref r10, .int (nI sz), .int (nI (ia + i)), .ref r11, .ref r12, .int tz, .ref r13, .int (nI 3)]] H locs := hI
              refine lv_aload_n zx zb dX9_takeMatch_44 rfl (lv_at hl 0 rfl) ?_
              refine j_get hC hI hin_X9_takeMatch_X9 2 rfl rfl 30 (by decide) hfl_X9_takeMatch_147 rfl rfl dX9_takeMatch_45 ?_
              refine j_if_ne (tgt := 70) hC dX9_takeMatch_48 (by decide) (by omega) (fun c48 => ?_) (fun c48 => ?_)
              · refine lv_iconst (v := nI 0) zx zb dX9_takeMatch_70 (by decide) ?_
                exact loop71 0 3 (ia + i) (by omega) (by omega)  _ _ _ (hI.sub [2, 0, 1] rfl rfl) (lv_sub hl [0, 1, 2] rfl)
              · exact (by omega : False).elim
            · exact (by omega : False).elim
          · refine lv_aload_n zx zb dX9_takeMatch_15 rfl (lv_at hl 0 rfl) ?_
            have hbl := bitAt_le L (ia + i)
            refine j_callVi (wr := [aI G r11 500 f]) hC hI (c_X9_takeBit_ok zl G y0 r1 r2 r3 r4 r5 r6 r7 r8 r9 r10 r11 r12 r13 n la lm lw kn k wp bt pn q th os wz sz (ia + i) 0 tz L (by omega) (by omega) (by omega)) (cwV 0 hC.2.2.2.2.1 gX9_takeMatch_X9_takeBit rfl rfl rfl (by decide +kernel) ⟨Nat.le_of_ble_eq_true rfl, Nat.le_of_ble_eq_true rfl⟩) [0, 1] [2] rfl rfl rfl rfl rfl rfl (q0 := 0) rfl rfl rfl hl.1 (Nat.le_of_ble_eq_true rfl) dX9_takeMatch_16 ⟨Nat.le_of_ble_eq_true rfl, Nat.le_of_ble_eq_true rfl⟩ (fun rv16 u16 H locs hp16 hI => ?_)
            have hI : jI G zA zs [aI G r11 500 f, oC y0 9 [.int (nI 0), .ref r1, .int (nI n), .int (nI la), .int (nI lm), .int (nI lw), .ref r2, .ref r3, .ref r4, .int (nI kn), .ref r5, .ref r6, .ref r7, .int (nI k), .int (nI wp), .int (nI bt), .ref r8, .int (nI pn), .int (nI q), .int (nI th), .ref r9, .int (nI os), .int (nI wz), .ref r10, .int (nI sz), .int (nI ((ia + i) + 1)), .ref r11, .ref r12, .int tz, .ref r13, .int (nI 0)], aI G r10 700 L] H locs := hI
            subst hp16
            refine j_if_ne (tgt := 28) hC dX9_takeMatch_19 (by decide) (by omega) (fun c19 => ?_) (fun c19 => ?_)
            · exact absurd (zer_0 (k := min 9 (8 * sz - ia)) (by omega)) c19
            · refine lv_iinc (v := nI (i + 1)) (lv' := [(3, .int (nI (i + 1))), (0, .ref y0), (1, .int (nI m)), (2, .int (nI all))]) zx zb dX9_takeMatch_22 hl (k := 3) rfl (j_inc _ _ _ (by decide)) (by decide) rfl (fun ls hl => ?_)
              refine lv_goto (tgt := 2) zx zb dX9_takeMatch_25 (by decide) ?_
              exact ih2 (i + 1) (by omega) (by omega) _ _ _ (hI.sub [1, 2, 0] rfl rfl) (lv_sub hl [1, 2, 3, 0] rfl)
    exact loop2 _ 0 (by omega) (Nat.lt_succ_self _) _ _ _ hI (lv_sub hl [1, 2, 3, 0] rfl)

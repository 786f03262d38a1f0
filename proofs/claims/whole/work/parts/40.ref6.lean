theorem hin_X9_read_X9 : ∀ w ∈ wsX90, w ∈ wsX9_read := by decide +kernel
theorem hfl_X9_read_65 : Cond.fieldLink RX9 65 "CheapParseModel" "thrown" "I" ∈ wsX9_read := by decide +kernel
theorem hfl_X9_read_147 : Cond.fieldLink RX9 147 "CheapParseModel" "fault" "I" ∈ wsX9_read := by decide +kernel
theorem hfl_X9_read_144 : Cond.fieldLink RX9 144 "CheapParseModel" "inAt" "I" ∈ wsX9_read := by decide +kernel
theorem hfl_X9_read_141 : Cond.fieldLink RX9 141 "CheapParseModel" "inSize" "I" ∈ wsX9_read := by decide +kernel
theorem hfl_X9_read_59 : Cond.fieldLink RX9 59 "CheapParseModel" "takenSize" "I" ∈ wsX9_read := by decide +kernel
theorem hfl_X9_read_56 : Cond.fieldLink RX9 56 "CheapParseModel" "taken" "[I" ∈ wsX9_read := by decide +kernel
theorem hfl_X9_read_53 : Cond.fieldLink RX9 53 "CheapParseModel" "draft" "[I" ∈ wsX9_read := by decide +kernel
set_option maxHeartbeats 4000000 in
set_option maxRecDepth 100000 in
theorem c_X9_read (zl : Launch) (G : jG) (y0 : Nat) (r1 : Nat) (r2 : Nat) (r3 : Nat) (r4 : Nat) (r5 : Nat) (r6 : Nat) (r7 : Nat) (r8 : Nat) (r9 : Nat) (r10 : Nat) (r11 : Nat) (r12 : Nat) (r13 : Nat) (n : Nat) (la : Nat) (lm : Nat) (lw : Nat) (kn : Nat) (k : Nat) (wp : Nat) (bt : Nat) (pn : Nat) (q : Nat) (th : Nat) (os : Nat) (wz : Nat) (sz : Nat) (ia : Nat) (ft : Nat) (tz : Int32) (L : Nat → Nat) (f : Nat → Nat) (RR : Nat → Nat) (hs : sz ≤ 700) (hLb : ∀ j, j < sz → L j < 256) (hl0 : 1 ≤ la ∧ la ≤ lm ∧ lm ≤ 255 ∧ lw ≤ 500) : jMet zl yX9_read wsX9_read ({ frames := 3, cells := 0, slots := 0, locals := 71 }) G [oC y0 9 [.int (nI 0), .ref r1, .int (nI n), .int (nI la), .int (nI lm), .int (nI lw), .ref r2, .ref r3, .ref r4, .int (nI kn), .ref r5, .ref r6, .ref r7, .int (nI k), .int (nI wp), .int (nI bt), .ref r8, .int (nI pn), .int (nI q), .int (nI th), .ref r9, .int (nI os), .int (nI wz), .ref r10, .int (nI sz), .int (nI ia), .ref r11, .ref r12, .int tz, .ref r13, .int (nI ft)], aI G r10 700 L, aI G r11 500 f, aI G r12 500 RR] [.ref y0] (jQi G (fun (r : Int32) (u : Nat × Nat × Int32 × (Nat → Nat) × (Nat → Nat)) => (r = nI ((rdT L (8 * sz) la lm lw f).1)) ∧ (((rdT L (8 * sz) la lm lw f).1 = 0 ∧ nb L 0 16 ≤ 500 ∧ u.2.2.1 = nI (nb L 0 16) ∧ u.2.2.2.2 = cpy (rdT L (8 * sz) la lm lw f).2 RR (nb L 0 16)) ∨ ((rdT L (8 * sz) la lm lw f).1 ≠ 0 ∧ u.2.2.1 = tz ∧ u.2.2.2.2 = RR))) (fun (u : Nat × Nat × Int32 × (Nat → Nat) × (Nat → Nat)) => [oC y0 9 [.int (nI 0), .ref r1, .int (nI n), .int (nI la), .int (nI lm), .int (nI lw), .ref r2, .ref r3, .ref r4, .int (nI kn), .ref r5, .ref r6, .ref r7, .int (nI k), .int (nI wp), .int (nI bt), .ref r8, .int (nI pn), .int (nI q), .int (nI th), .ref r9, .int (nI os), .int (nI wz), .ref r10, .int (nI 0), .int (nI u.2.1), .ref r11, .ref r12, .int u.2.2.1, .ref r13, .int (nI u.1)], aI G r10 700 L, aI G r11 500 u.2.2.2.1, aI G r12 500 u.2.2.2.2])) 0 0 := by
  refine j_enter_i (cc := cX9_read) (nL := 4) (nm := "read") (own := RX9) (lv := [(0, .ref y0)]) (by decide) rfl (Nat.le_of_ble_eq_true rfl) rfl rfl rfl ?_
  intro zA zp ze zs zm zargs zbelow zmeth zc zQ ls hC hQ hI hl
  have zx := hC.1
  have zb := hC.2.1
  refine lv_aload_n zx zb dX9_read_0 rfl (lv_at hl 0 rfl) ?_
  refine lv_iconst (v := nI 0) zx zb dX9_read_1 (by decide) ?_
  refine j_put (w1 := [oC y0 9 [.int (nI 0), .ref r1, .int (nI n), .int (nI la), .int (nI lm), .int (nI lw), .ref r2, .ref r3, .ref r4, .int (nI kn), .ref r5, .ref r6, .ref r7, .int (nI k), .int (nI wp), .int (nI bt), .ref r8, .int (nI pn), .int (nI q), .int (nI th), .ref r9, .int (nI os), .int (nI wz), .ref r10, .int (nI sz), .int (nI ia), .ref r11, .ref r12, .int tz, .ref r13, .int (nI ft)], aI G r10 700 L, aI G r11 500 f, aI G r12 500 RR]) hC hI hin_X9_read_X9 tyX9 tyX9_ok nmX9 0 rfl rfl 0 (by decide) hfl_X9_read_65 rfl rfl rfl rfl (Nat.le_of_ble_eq_true rfl) dX9_read_2 rfl (fun H locs hI => ?_)
  refine lv_aload_n zx zb dX9_read_5 rfl (lv_at hl 0 rfl) ?_
  refine lv_iconst (v := nI 0) zx zb dX9_read_6 (by decide) ?_
  refine j_put (w1 := [oC y0 9 [.int (nI 0), .ref r1, .int (nI n), .int (nI la), .int (nI lm), .int (nI lw), .ref r2, .ref r3, .ref r4, .int (nI kn), .ref r5, .ref r6, .ref r7, .int (nI k), .int (nI wp), .int (nI bt), .ref r8, .int (nI pn), .int (nI q), .int (nI th), .ref r9, .int (nI os), .int (nI wz), .ref r10, .int (nI sz), .int (nI ia), .ref r11, .ref r12, .int tz, .ref r13, .int (nI 0)], aI G r10 700 L, aI G r11 500 f, aI G r12 500 RR]) hC hI hin_X9_read_X9 tyX9 tyX9_ok nmX9 0 rfl rfl 30 (by decide) hfl_X9_read_147 rfl rfl rfl rfl (Nat.le_of_ble_eq_true rfl) dX9_read_7 rfl (fun H locs hI => ?_)
  refine lv_aload_n zx zb dX9_read_10 rfl (lv_at hl 0 rfl) ?_
  refine lv_iconst (v := nI 0) zx zb dX9_read_11 (by decide) ?_
  refine j_put (w1 := [oC y0 9 [.int (nI 0), .ref r1, .int (nI n), .int (nI la), .int (nI lm), .int (nI lw), .ref r2, .ref r3, .ref r4, .int (nI kn), .ref r5, .ref r6, .ref r7, .int (nI k), .int (nI wp), .int (nI bt), .ref r8, .int (nI pn), .int (nI q), .int (nI th), .ref r9, .int (nI os), .int (nI wz), .ref r10, .int (nI sz), .int (nI 0), .ref r11, .ref r12, .int tz, .ref r13, .int (nI 0)], aI G r10 700 L, aI G r11 500 f, aI G r12 500 RR]) hC hI hin_X9_read_X9 tyX9 tyX9_ok nmX9 0 rfl rfl 25 (by decide) hfl_X9_read_144 rfl rfl rfl rfl (Nat.le_of_ble_eq_true rfl) dX9_read_12 rfl (fun H locs hI => ?_)
  have loop176 : ∀ (fv : Nat) (ib : Nat) (g : Nat → Nat), (fv = (rdT L (8 * sz) la lm lw f).1 ∧ fv ≠ 0 ∧ fv ≤ 5) → (ib ≤ 8 * sz) → ∀ (H : Heap) (locs : List Loc) (ls : Array Slot), jI G zA zs [oC y0 9 [.int (nI 0), .ref r1, .int (nI n), .int (nI la), .int (nI lm), .int (nI lw), .ref r2, .ref r3, .ref r4, .int (nI kn), .ref r5, .ref r6, .ref r7, .int (nI k), .int (nI wp), .int (nI bt), .ref r8, .int (nI pn), .int (nI q), .int (nI th), .ref r9, .int (nI os), .int (nI wz), .ref r10, .int (nI sz), .int (nI ib), .ref r11, .ref r12, .int tz, .ref r13, .int (nI fv)], aI G r10 700 L, aI G r11 500 g, aI G r12 500 RR] H locs → lv_has ls 4 [(0, .ref y0)] → W zp zl ze ({ frames := 3, cells := 0, slots := 0, locals := 71 }) zs zm zargs zbelow zmeth zc H locs 0 0 zQ (F0 zm 176 ls []) := by
    intro fv ib g hf1 hia H locs ls hI hl
    refine lv_aload_n zx zb dX9_read_176 rfl (lv_at hl 0 rfl) ?_
    refine lv_iconst (v := nI 0) zx zb dX9_read_177 (by decide) ?_
    refine j_put (w1 := [oC y0 9 [.int (nI 0), .ref r1, .int (nI n), .int (nI la), .int (nI lm), .int (nI lw), .ref r2, .ref r3, .ref r4, .int (nI kn), .ref r5, .ref r6, .ref r7, .int (nI k), .int (nI wp), .int (nI bt), .ref r8, .int (nI pn), .int (nI q), .int (nI th), .ref r9, .int (nI os), .int (nI wz), .ref r10, .int (nI 0), .int (nI ib), .ref r11, .ref r12, .int tz, .ref r13, .int (nI fv)], aI G r10 700 L, aI G r11 500 g, aI G r12 500 RR]) hC hI hin_X9_read_X9 tyX9 tyX9_ok nmX9 0 rfl rfl 24 (by decide) hfl_X9_read_141 rfl rfl rfl rfl (Nat.le_of_ble_eq_true rfl) dX9_read_178 rfl (fun H locs hI => ?_)
    refine lv_aload_n zx zb dX9_read_181 rfl (lv_at hl 0 rfl) ?_
    refine j_get hC hI hin_X9_read_X9 0 rfl rfl 30 (by decide) hfl_X9_read_147 rfl rfl dX9_read_182 ?_
    refine j_if_ne (tgt := 218) hC dX9_read_185 (by decide) (by omega) (fun c185 => ?_) (fun c185 => ?_)
    · refine lv_aload_n zx zb dX9_read_218 rfl (lv_at hl 0 rfl) ?_
      refine j_get hC hI hin_X9_read_X9 0 rfl rfl 30 (by decide) hfl_X9_read_147 rfl rfl dX9_read_219 ?_
      exact hQ _ _ _ _ _ ⟨fv, ib, tz, g, RR⟩ dX9_read_222 (hI.sub [0, 1, 2, 3] rfl rfl) (by (try dsimp only); exact ⟨(congrArg nI hf1.1), (Or.inr ⟨by omega, rfl, rfl⟩)⟩)
    · exact (by omega : False).elim
  refine lv_aload_n zx zb dX9_read_15 rfl (lv_at hl 0 rfl) ?_
  refine lv_bipush (v := nI 16) zx zb dX9_read_16 (by decide) ?_
  rcases Nat.lt_or_ge (8 * sz) 16 with hc | hc
  · have hR : (rdT L (8 * sz) la lm lw f).1 = 1 := by rw [rdT, if_pos (by omega)]
    refine j_callVi (wr := [aI G r11 500 f, aI G r12 500 RR]) hC hI (c_X9_take_end zl G y0 r1 r2 r3 r4 r5 r6 r7 r8 r9 r10 r11 r12 r13 n la lm lw kn k wp bt pn q th os wz sz 0 tz L 16 (by omega) (by omega) (by omega) (by omega) (by omega)) (cwV 1 hC.2.2.2.2.1 gX9_read_X9_take rfl rfl rfl (by decide +kernel) ⟨Nat.le_of_ble_eq_true rfl, Nat.le_of_ble_eq_true rfl⟩) [0, 1] [2, 3] rfl rfl rfl rfl rfl rfl (q0 := 0) rfl rfl rfl hl.1 (Nat.le_of_ble_eq_true rfl) dX9_read_18 ⟨Nat.le_of_ble_eq_true rfl, Nat.le_of_ble_eq_true rfl⟩ (fun rv18 u18 H locs hp18 hI => ?_)
    obtain ⟨v18_0, rfl⟩ : ∃ z, z = u18 := ⟨_, rfl⟩
    have hI : jI G zA zs [aI G r11 500 f, aI G r12 500 RR, oC y0 9 [.int (nI 0), .ref r1, .int (nI n), .int (nI la), .int (nI lm), .int (nI lw), .ref r2, .ref r3, .ref r4, .int (nI kn), .ref r5, .ref r6, .ref r7, .int (nI k), .int (nI wp), .int (nI bt), .ref r8, .int (nI pn), .int (nI q), .int (nI th), .ref r9, .int (nI os), .int (nI wz), .ref r10, .int (nI sz), .int (nI (8 * sz)), .ref r11, .ref r12, .int tz, .ref r13, .int (nI 1)], aI G r10 700 L] H locs := hI
    obtain ⟨rfl, f18_0⟩ := hp18
    refine lv_istore_n (lv' := [(1, .int (nI v18_0)), (0, .ref y0)]) zx zb dX9_read_21 rfl hl (by decide) rfl (fun ls hl => ?_)
    refine lv_aload_n zx zb dX9_read_22 rfl (lv_at hl 1 rfl) ?_
    refine lv_iload_n zx zb dX9_read_23 rfl (lv_at hl 0 rfl) ?_
    refine lv_sipush (v := nI 500) zx zb dX9_read_24 (by decide) ?_
    refine j_icmp_gt (tgt := 34) hC dX9_read_27 (by decide) (by omega) (by omega) (fun c27 => ?_) (fun c27 => ?_)
    · refine lv_iconst (v := nI 0) zx zb dX9_read_34 (by decide) ?_
      refine lv_iconst (v := nI 2) zx zb dX9_read_35 (by decide) ?_
      refine j_callVv (wr := [aI G r11 500 f, aI G r12 500 RR, aI G r10 700 L]) hC hI (c_X9_need_keep zl G y0 r1 r2 r3 r4 r5 r6 r7 r8 r9 r10 r11 r12 r13 n la lm lw kn k wp bt pn q th os wz sz (8 * sz) 1 tz 0 2 (by omega) (by omega)) (cwV 2 hC.2.2.2.2.1 gX9_read_X9_need rfl rfl rfl (by decide +kernel) ⟨Nat.le_of_ble_eq_true rfl, Nat.le_of_ble_eq_true rfl⟩) [2] [0, 1, 3] rfl rfl rfl rfl rfl rfl (q0 := 0) rfl rfl rfl hl.1 (Nat.le_of_ble_eq_true rfl) dX9_read_36 ⟨Nat.le_of_ble_eq_true rfl, Nat.le_of_ble_eq_true rfl⟩ (fun u36 H locs hp36 hI => ?_)
      have hI : jI G zA zs [aI G r11 500 f, aI G r12 500 RR, aI G r10 700 L, oC y0 9 [.int (nI 0), .ref r1, .int (nI n), .int (nI la), .int (nI lm), .int (nI lw), .ref r2, .ref r3, .ref r4, .int (nI kn), .ref r5, .ref r6, .ref r7, .int (nI k), .int (nI wp), .int (nI bt), .ref r8, .int (nI pn), .int (nI q), .int (nI th), .ref r9, .int (nI os), .int (nI wz), .ref r10, .int (nI sz), .int (nI (8 * sz)), .ref r11, .ref r12, .int tz, .ref r13, .int (nI 1)]] H locs := hI
      refine lv_iconst (v := nI 0) zx zb dX9_read_39 (by decide) ?_
      refine lv_istore_n (lv' := [(2, .int (nI 0)), (1, .int (nI v18_0)), (0, .ref y0)]) zx zb dX9_read_40 rfl hl (by decide) rfl (fun ls hl => ?_)
      refine lv_iload_n zx zb dX9_read_41 rfl (lv_at hl 0 rfl) ?_
      refine lv_iload_n zx zb dX9_read_42 rfl (lv_at hl 1 rfl) ?_
      refine j_icmp_ge (tgt := 106) hC dX9_read_43 (by decide) (by omega) (by omega) (fun c43 => ?_) (fun c43 => ?_)
      · refine lv_aload_n zx zb dX9_read_106 rfl (lv_at hl 2 rfl) ?_
        refine j_get hC hI hin_X9_read_X9 3 rfl rfl 30 (by decide) hfl_X9_read_147 rfl rfl dX9_read_107 ?_
        refine j_if_ne (tgt := 176) hC dX9_read_110 (by decide) (by omega) (fun c110 => ?_) (fun c110 => ?_)
        · exact loop176 1 (8 * sz) f (by omega) (by omega)  _ _ _ (hI.sub [3, 2, 0, 1] rfl rfl) (lv_sub hl [2] rfl)
        · exact (by omega : False).elim
      · refine lv_aload_n zx zb dX9_read_46 rfl (lv_at hl 2 rfl) ?_
        refine j_get hC hI hin_X9_read_X9 3 rfl rfl 30 (by decide) hfl_X9_read_147 rfl rfl dX9_read_47 ?_
        refine j_if_ne (tgt := 106) hC dX9_read_50 (by decide) (by omega) (fun c50 => ?_) (fun c50 => ?_)
        · refine lv_aload_n zx zb dX9_read_106 rfl (lv_at hl 2 rfl) ?_
          refine j_get hC hI hin_X9_read_X9 3 rfl rfl 30 (by decide) hfl_X9_read_147 rfl rfl dX9_read_107 ?_
          refine j_if_ne (tgt := 176) hC dX9_read_110 (by decide) (by omega) (fun c110 => ?_) (fun c110 => ?_)
          · exact loop176 1 (8 * sz) f (by omega) (by omega)  _ _ _ (hI.sub [3, 2, 0, 1] rfl rfl) (lv_sub hl [2] rfl)
          · exact (by omega : False).elim
        · exact (by omega : False).elim
    · refine lv_iconst (v := nI 1) zx zb dX9_read_30 (by decide) ?_
      refine lv_goto (tgt := 35) zx zb dX9_read_31 (by decide) ?_
      refine lv_iconst (v := nI 2) zx zb dX9_read_35 (by decide) ?_
      refine j_callVv (wr := [aI G r11 500 f, aI G r12 500 RR, aI G r10 700 L]) hC hI (c_X9_need_keep zl G y0 r1 r2 r3 r4 r5 r6 r7 r8 r9 r10 r11 r12 r13 n la lm lw kn k wp bt pn q th os wz sz (8 * sz) 1 tz 1 2 (by omega) (by omega)) (cwV 2 hC.2.2.2.2.1 gX9_read_X9_need rfl rfl rfl (by decide +kernel) ⟨Nat.le_of_ble_eq_true rfl, Nat.le_of_ble_eq_true rfl⟩) [2] [0, 1, 3] rfl rfl rfl rfl rfl rfl (q0 := 0) rfl rfl rfl hl.1 (Nat.le_of_ble_eq_true rfl) dX9_read_36 ⟨Nat.le_of_ble_eq_true rfl, Nat.le_of_ble_eq_true rfl⟩ (fun u36 H locs hp36 hI => ?_)
      have hI : jI G zA zs [aI G r11 500 f, aI G r12 500 RR, aI G r10 700 L, oC y0 9 [.int (nI 0), .ref r1, .int (nI n), .int (nI la), .int (nI lm), .int (nI lw), .ref r2, .ref r3, .ref r4, .int (nI kn), .ref r5, .ref r6, .ref r7, .int (nI k), .int (nI wp), .int (nI bt), .ref r8, .int (nI pn), .int (nI q), .int (nI th), .ref r9, .int (nI os), .int (nI wz), .ref r10, .int (nI sz), .int (nI (8 * sz)), .ref r11, .ref r12, .int tz, .ref r13, .int (nI 1)]] H locs := hI
      refine lv_iconst (v := nI 0) zx zb dX9_read_39 (by decide) ?_
      refine lv_istore_n (lv' := [(2, .int (nI 0)), (1, .int (nI v18_0)), (0, .ref y0)]) zx zb dX9_read_40 rfl hl (by decide) rfl (fun ls hl => ?_)
      refine lv_iload_n zx zb dX9_read_41 rfl (lv_at hl 0 rfl) ?_
      refine lv_iload_n zx zb dX9_read_42 rfl (lv_at hl 1 rfl) ?_
      refine j_icmp_ge (tgt := 106) hC dX9_read_43 (by decide) (by omega) (by omega) (fun c43 => ?_) (fun c43 => ?_)
      · refine lv_aload_n zx zb dX9_read_106 rfl (lv_at hl 2 rfl) ?_
        refine j_get hC hI hin_X9_read_X9 3 rfl rfl 30 (by decide) hfl_X9_read_147 rfl rfl dX9_read_107 ?_
        refine j_if_ne (tgt := 176) hC dX9_read_110 (by decide) (by omega) (fun c110 => ?_) (fun c110 => ?_)
        · exact loop176 1 (8 * sz) f (by omega) (by omega)  _ _ _ (hI.sub [3, 2, 0, 1] rfl rfl) (lv_sub hl [2] rfl)
        · exact (by omega : False).elim
      · refine lv_aload_n zx zb dX9_read_46 rfl (lv_at hl 2 rfl) ?_
        refine j_get hC hI hin_X9_read_X9 3 rfl rfl 30 (by decide) hfl_X9_read_147 rfl rfl dX9_read_47 ?_
        refine j_if_ne (tgt := 106) hC dX9_read_50 (by decide) (by omega) (fun c50 => ?_) (fun c50 => ?_)
        · refine lv_aload_n zx zb dX9_read_106 rfl (lv_at hl 2 rfl) ?_
          refine j_get hC hI hin_X9_read_X9 3 rfl rfl 30 (by decide) hfl_X9_read_147 rfl rfl dX9_read_107 ?_
          refine j_if_ne (tgt := 176) hC dX9_read_110 (by decide) (by omega) (fun c110 => ?_) (fun c110 => ?_)
          · exact loop176 1 (8 * sz) f (by omega) (by omega)  _ _ _ (hI.sub [3, 2, 0, 1] rfl rfl) (lv_sub hl [2] rfl)
          · exact (by omega : False).elim
        · exact (by omega : False).elim
  · have hnb := nb_lt L 0 16
    refine j_callVi (wr := [aI G r11 500 f, aI G r12 500 RR]) hC hI (c_X9_take_ok zl G y0 r1 r2 r3 r4 r5 r6 r7 r8 r9 r10 r11 r12 r13 n la lm lw kn k wp bt pn q th os wz sz 0 tz L 16 (by omega) (by omega) (by omega) (by omega)) (cwV 1 hC.2.2.2.2.1 gX9_read_X9_take rfl rfl rfl (by decide +kernel) ⟨Nat.le_of_ble_eq_true rfl, Nat.le_of_ble_eq_true rfl⟩) [0, 1] [2, 3] rfl rfl rfl rfl rfl rfl (q0 := 0) rfl rfl rfl hl.1 (Nat.le_of_ble_eq_true rfl) dX9_read_18 ⟨Nat.le_of_ble_eq_true rfl, Nat.le_of_ble_eq_true rfl⟩ (fun rv18 u18 H locs hp18 hI => ?_)
    have hI : jI G zA zs [aI G r11 500 f, aI G r12 500 RR, oC y0 9 [.int (nI 0), .ref r1, .int (nI n), .int (nI la), .int (nI lm), .int (nI lw), .ref r2, .ref r3, .ref r4, .int (nI kn), .ref r5, .ref r6, .ref r7, .int (nI k), .int (nI wp), .int (nI bt), .ref r8, .int (nI pn), .int (nI q), .int (nI th), .ref r9, .int (nI os), .int (nI wz), .ref r10, .int (nI sz), .int (nI (0 + 16)), .ref r11, .ref r12, .int tz, .ref r13, .int (nI 0)], aI G r10 700 L] H locs := hI
    subst hp18
    refine lv_istore_n (lv' := [(1, .int (nI (nb L 0 16))), (0, .ref y0)]) zx zb dX9_read_21 rfl hl (by decide) rfl (fun ls hl => ?_)
    refine lv_aload_n zx zb dX9_read_22 rfl (lv_at hl 1 rfl) ?_
    refine lv_iload_n zx zb dX9_read_23 rfl (lv_at hl 0 rfl) ?_
    refine lv_sipush (v := nI 500) zx zb dX9_read_24 (by decide) ?_
    refine j_icmp_gt (tgt := 34) hC dX9_read_27 (by decide) (by omega) (by omega) (fun c27 => ?_) (fun c27 => ?_)
    · have hR : (rdT L (8 * sz) la lm lw f).1 = 2 := by rw [rdT, if_neg (by omega), if_pos (by omega)]
      refine lv_iconst (v := nI 0) zx zb dX9_read_34 (by decide) ?_
      refine lv_iconst (v := nI 2) zx zb dX9_read_35 (by decide) ?_
      refine j_callVv (wr := [aI G r11 500 f, aI G r12 500 RR, aI G r10 700 L]) hC hI (c_X9_need_set zl G y0 r1 r2 r3 r4 r5 r6 r7 r8 r9 r10 r11 r12 r13 n la lm lw kn k wp bt pn q th os wz sz (0 + 16) tz 2 ) (cwV 2 hC.2.2.2.2.1 gX9_read_X9_need rfl rfl rfl (by decide +kernel) ⟨Nat.le_of_ble_eq_true rfl, Nat.le_of_ble_eq_true rfl⟩) [2] [0, 1, 3] rfl rfl rfl rfl rfl rfl (q0 := 0) rfl rfl rfl hl.1 (Nat.le_of_ble_eq_true rfl) dX9_read_36 ⟨Nat.le_of_ble_eq_true rfl, Nat.le_of_ble_eq_true rfl⟩ (fun u36 H locs hp36 hI => ?_)
      have hI : jI G zA zs [aI G r11 500 f, aI G r12 500 RR, aI G r10 700 L, oC y0 9 [.int (nI 0), .ref r1, .int (nI n), .int (nI la), .int (nI lm), .int (nI lw), .ref r2, .ref r3, .ref r4, .int (nI kn), .ref r5, .ref r6, .ref r7, .int (nI k), .int (nI wp), .int (nI bt), .ref r8, .int (nI pn), .int (nI q), .int (nI th), .ref r9, .int (nI os), .int (nI wz), .ref r10, .int (nI sz), .int (nI (0 + 16)), .ref r11, .ref r12, .int tz, .ref r13, .int (nI 2)]] H locs := hI
      refine lv_iconst (v := nI 0) zx zb dX9_read_39 (by decide) ?_
      refine lv_istore_n (lv' := [(2, .int (nI 0)), (1, .int (nI (nb L 0 16))), (0, .ref y0)]) zx zb dX9_read_40 rfl hl (by decide) rfl (fun ls hl => ?_)
      refine lv_iload_n zx zb dX9_read_41 rfl (lv_at hl 0 rfl) ?_
      refine lv_iload_n zx zb dX9_read_42 rfl (lv_at hl 1 rfl) ?_
      refine j_icmp_ge (tgt := 106) hC dX9_read_43 (by decide) (by omega) (by omega) (fun c43 => ?_) (fun c43 => ?_)
      · refine lv_aload_n zx zb dX9_read_106 rfl (lv_at hl 2 rfl) ?_
        refine j_get hC hI hin_X9_read_X9 3 rfl rfl 30 (by decide) hfl_X9_read_147 rfl rfl dX9_read_107 ?_
        refine j_if_ne (tgt := 176) hC dX9_read_110 (by decide) (by omega) (fun c110 => ?_) (fun c110 => ?_)
        · exact loop176 2 (0 + 16) f (by omega) (by omega)  _ _ _ (hI.sub [3, 2, 0, 1] rfl rfl) (lv_sub hl [2] rfl)
        · exact (by omega : False).elim
      · refine lv_aload_n zx zb dX9_read_46 rfl (lv_at hl 2 rfl) ?_
        refine j_get hC hI hin_X9_read_X9 3 rfl rfl 30 (by decide) hfl_X9_read_147 rfl rfl dX9_read_47 ?_
        refine j_if_ne (tgt := 106) hC dX9_read_50 (by decide) (by omega) (fun c50 => ?_) (fun c50 => ?_)
        · refine lv_aload_n zx zb dX9_read_106 rfl (lv_at hl 2 rfl) ?_
          refine j_get hC hI hin_X9_read_X9 3 rfl rfl 30 (by decide) hfl_X9_read_147 rfl rfl dX9_read_107 ?_
          refine j_if_ne (tgt := 176) hC dX9_read_110 (by decide) (by omega) (fun c110 => ?_) (fun c110 => ?_)
          · exact loop176 2 (0 + 16) f (by omega) (by omega)  _ _ _ (hI.sub [3, 2, 0, 1] rfl rfl) (lv_sub hl [2] rfl)
          · exact (by omega : False).elim
        · exact (by omega : False).elim
    · refine lv_iconst (v := nI 1) zx zb dX9_read_30 (by decide) ?_
      refine lv_goto (tgt := 35) zx zb dX9_read_31 (by decide) ?_
      refine lv_iconst (v := nI 2) zx zb dX9_read_35 (by decide) ?_
      refine j_callVv (wr := [aI G r11 500 f, aI G r12 500 RR, aI G r10 700 L]) hC hI (c_X9_need_keep zl G y0 r1 r2 r3 r4 r5 r6 r7 r8 r9 r10 r11 r12 r13 n la lm lw kn k wp bt pn q th os wz sz (0 + 16) 0 tz 1 2 (by omega) (by omega)) (cwV 2 hC.2.2.2.2.1 gX9_read_X9_need rfl rfl rfl (by decide +kernel) ⟨Nat.le_of_ble_eq_true rfl, Nat.le_of_ble_eq_true rfl⟩) [2] [0, 1, 3] rfl rfl rfl rfl rfl rfl (q0 := 0) rfl rfl rfl hl.1 (Nat.le_of_ble_eq_true rfl) dX9_read_36 ⟨Nat.le_of_ble_eq_true rfl, Nat.le_of_ble_eq_true rfl⟩ (fun u36 H locs hp36 hI => ?_)
      have hI : jI G zA zs [aI G r11 500 f, aI G r12 500 RR, aI G r10 700 L, oC y0 9 [.int (nI 0), .ref r1, .int (nI n), .int (nI la), .int (nI lm), .int (nI lw), .ref r2, .ref r3, .ref r4, .int (nI kn), .ref r5, .ref r6, .ref r7, .int (nI k), .int (nI wp), .int (nI bt), .ref r8, .int (nI pn), .int (nI q), .int (nI th), .ref r9, .int (nI os), .int (nI wz), .ref r10, .int (nI sz), .int (nI (0 + 16)), .ref r11, .ref r12, .int tz, .ref r13, .int (nI 0)]] H locs := hI
      refine lv_iconst (v := nI 0) zx zb dX9_read_39 (by decide) ?_
      refine lv_istore_n (lv' := [(2, .int (nI 0)), (1, .int (nI (nb L 0 16))), (0, .ref y0)]) zx zb dX9_read_40 rfl hl (by decide) rfl (fun ls hl => ?_)
      have loop41 : ∀ (zn41 : Nat) (h : Nat) (b : Nat) (K : Nat) (g : Nat → Nat), (h ≤ nb L 0 16 ∧ b ≤ 8 * sz) → (nb L 0 16 ≤ K + h ∧ K ≤ 500) → (rdL L (8 * sz) la lm lw (nb L 0 16) K b h g = rdL L (8 * sz) la lm lw (nb L 0 16) 500 16 0 f) → (∀ j, j < h → g j < 256) → (500 - h) < zn41 → ∀ (H : Heap) (locs : List Loc) (ls : Array Slot), jI G zA zs [oC y0 9 [.int (nI 0), .ref r1, .int (nI n), .int (nI la), .int (nI lm), .int (nI lw), .ref r2, .ref r3, .ref r4, .int (nI kn), .ref r5, .ref r6, .ref r7, .int (nI k), .int (nI wp), .int (nI bt), .ref r8, .int (nI pn), .int (nI q), .int (nI th), .ref r9, .int (nI os), .int (nI wz), .ref r10, .int (nI sz), .int (nI b), .ref r11, .ref r12, .int tz, .ref r13, .int (nI 0)], aI G r10 700 L, aI G r11 500 g, aI G r12 500 RR] H locs → lv_has ls 4 [(0, .ref y0), (1, .int (nI (nb L 0 16))), (2, .int (nI h))] → W zp zl ze ({ frames := 3, cells := 0, slots := 0, locals := 71 }) zs zm zargs zbelow zmeth zc H locs 0 0 zQ (F0 zm 41 ls []) := by
        intro zn41
        induction zn41 with
        | zero => intros; omega
        | succ zn41 ih41 =>
          intro h b K g hh hK hx hg zm41 H locs ls hI hl
          refine lv_iload_n zx zb dX9_read_41 rfl (lv_at hl 2 rfl) ?_
          refine lv_iload_n zx zb dX9_read_42 rfl (lv_at hl 1 rfl) ?_
          refine j_icmp_ge (tgt := 106) hC dX9_read_43 (by decide) (by omega) (by omega) (fun c43 => ?_) (fun c43 => ?_)
          · have loop106 : ∀ (zn106 : Nat) (b3 : Nat), (b ≤ b3 ∧ b3 ≤ 8 * sz) → (b3 = b ∨ 8 * sz - b < 8) → (∀ j, j < b3 - b → bitAt L (b + j) = 0) → (8 * sz - b3) < zn106 → ∀ (H : Heap) (locs : List Loc) (ls : Array Slot), jI G zA zs [oC y0 9 [.int (nI 0), .ref r1, .int (nI n), .int (nI la), .int (nI lm), .int (nI lw), .ref r2, .ref r3, .ref r4, .int (nI kn), .ref r5, .ref r6, .ref r7, .int (nI k), .int (nI wp), .int (nI bt), .ref r8, .int (nI pn), .int (nI q), .int (nI th), .ref r9, .int (nI os), .int (nI wz), .ref r10, .int (nI sz), .int (nI b3), .ref r11, .ref r12, .int tz, .ref r13, .int (nI 0)], aI G r10 700 L, aI G r11 500 g, aI G r12 500 RR] H locs → lv_has ls 4 [(0, .ref y0), (1, .int (nI (nb L 0 16)))] → W zp zl ze ({ frames := 3, cells := 0, slots := 0, locals := 71 }) zs zm zargs zbelow zmeth zc H locs 0 0 zQ (F0 zm 106 ls []) := by
              intro zn106
              induction zn106 with
              | zero => intros; omega
              | succ zn106 ih106 =>
                intro b3 hb3 hl3 hz3 zm106 H locs ls hI hl
                refine lv_aload_n zx zb dX9_read_106 rfl (lv_at hl 0 rfl) ?_
                refine j_get hC hI hin_X9_read_X9 0 rfl rfl 30 (by decide) hfl_X9_read_147 rfl rfl dX9_read_107 ?_
                refine j_if_ne (tgt := 176) hC dX9_read_110 (by decide) (by omega) (fun c110 => ?_) (fun c110 => ?_)
                · exact (by omega : False).elim
                · refine lv_aload_n zx zb dX9_read_113 rfl (lv_at hl 0 rfl) ?_
                  refine j_get hC hI hin_X9_read_X9 0 rfl rfl 25 (by decide) hfl_X9_read_144 rfl rfl dX9_read_114 ?_
                  refine lv_bipush (v := nI 8) zx zb dX9_read_117 (by decide) ?_
                  refine lv_aload_n zx zb dX9_read_119 rfl (lv_at hl 0 rfl) ?_
                  refine j_get hC hI hin_X9_read_X9 0 rfl rfl 24 (by decide) hfl_X9_read_141 rfl rfl dX9_read_120 ?_
                  refine j_imul hC dX9_read_123 ?_
                  refine j_icmp_ge (tgt := 176) hC dX9_read_124 (by decide) (by omega) (by omega) (fun c124 => ?_) (fun c124 => ?_)
                  · have hR : rdT L (8 * sz) la lm lw f = (0, g) := by rw [rdT_good (by omega) (by omega) hx (by omega), rdB_0 (by omega) (fun j hj => hz3 j (by omega))]
                    refine lv_aload_n zx zb dX9_read_176 rfl (lv_at hl 0 rfl) ?_
                    refine lv_iconst (v := nI 0) zx zb dX9_read_177 (by decide) ?_
                    refine j_put (w1 := [oC y0 9 [.int (nI 0), .ref r1, .int (nI n), .int (nI la), .int (nI lm), .int (nI lw), .ref r2, .ref r3, .ref r4, .int (nI kn), .ref r5, .ref r6, .ref r7, .int (nI k), .int (nI wp), .int (nI bt), .ref r8, .int (nI pn), .int (nI q), .int (nI th), .ref r9, .int (nI os), .int (nI wz), .ref r10, .int (nI 0), .int (nI b3), .ref r11, .ref r12, .int tz, .ref r13, .int (nI 0)], aI G r10 700 L, aI G r11 500 g, aI G r12 500 RR]) hC hI hin_X9_read_X9 tyX9 tyX9_ok nmX9 0 rfl rfl 24 (by decide) hfl_X9_read_141 rfl rfl rfl rfl (Nat.le_of_ble_eq_true rfl) dX9_read_178 rfl (fun H locs hI => ?_)
                    refine lv_aload_n zx zb dX9_read_181 rfl (lv_at hl 0 rfl) ?_
                    refine j_get hC hI hin_X9_read_X9 0 rfl rfl 30 (by decide) hfl_X9_read_147 rfl rfl dX9_read_182 ?_
                    refine j_if_ne (tgt := 218) hC dX9_read_185 (by decide) (by omega) (fun c185 => ?_) (fun c185 => ?_)
                    · exact (by omega : False).elim
                    · refine lv_aload_n zx zb dX9_read_188 rfl (lv_at hl 0 rfl) ?_
                      refine lv_iload_n zx zb dX9_read_189 rfl (lv_at hl 1 rfl) ?_
                      refine j_put (w1 := [oC y0 9 [.int (nI 0), .ref r1, .int (nI n), .int (nI la), .int (nI lm), .int (nI lw), .ref r2, .ref r3, .ref r4, .int (nI kn), .ref r5, .ref r6, .ref r7, .int (nI k), .int (nI wp), .int (nI bt), .ref r8, .int (nI pn), .int (nI q), .int (nI th), .ref r9, .int (nI os), .int (nI wz), .ref r10, .int (nI 0), .int (nI b3), .ref r11, .ref r12, .int (nI (nb L 0 16)), .ref r13, .int (nI 0)], aI G r10 700 L, aI G r11 500 g, aI G r12 500 RR]) hC hI hin_X9_read_X9 tyX9 tyX9_ok nmX9 0 rfl rfl 28 (by decide) hfl_X9_read_59 rfl rfl rfl rfl (Nat.le_of_ble_eq_true rfl) dX9_read_190 rfl (fun H locs hI => ?_)
                      refine lv_iconst (v := nI 0) zx zb dX9_read_193 (by decide) ?_
                      refine lv_istore_n (lv' := [(3, .int (nI 0)), (0, .ref y0), (1, .int (nI (nb L 0 16)))]) zx zb dX9_read_194 rfl hl (by decide) rfl (fun ls hl => ?_)
                      have loop195 : ∀ (zn195 : Nat) (t : Nat) (R3 : Nat → Nat), (t ≤ nb L 0 16) → (R3 = cpy g RR t) → (nb L 0 16 - t) < zn195 → ∀ (H : Heap) (locs : List Loc) (ls : Array Slot), jI G zA zs [oC y0 9 [.int (nI 0), .ref r1, .int (nI n), .int (nI la), .int (nI lm), .int (nI lw), .ref r2, .ref r3, .ref r4, .int (nI kn), .ref r5, .ref r6, .ref r7, .int (nI k), .int (nI wp), .int (nI bt), .ref r8, .int (nI pn), .int (nI q), .int (nI th), .ref r9, .int (nI os), .int (nI wz), .ref r10, .int (nI 0), .int (nI b3), .ref r11, .ref r12, .int (nI (nb L 0 16)), .ref r13, .int (nI 0)], aI G r10 700 L, aI G r11 500 g, aI G r12 500 R3] H locs → lv_has ls 4 [(0, .ref y0), (1, .int (nI (nb L 0 16))), (3, .int (nI t))] → W zp zl ze ({ frames := 3, cells := 0, slots := 0, locals := 71 }) zs zm zargs zbelow zmeth zc H locs 0 0 zQ (F0 zm 195 ls []) := by
                        intro zn195
                        induction zn195 with
                        | zero => intros; omega
                        | succ zn195 ih195 =>
                          intro t R3 ht hR3 zm195 H locs ls hI hl
                          refine lv_iload_n zx zb dX9_read_195 rfl (lv_at hl 2 rfl) ?_
                          refine lv_iload_n zx zb dX9_read_196 rfl (lv_at hl 1 rfl) ?_
                          refine j_icmp_ge (tgt := 218) hC dX9_read_197 (by decide) (by omega) (by omega) (fun c197 => ?_) (fun c197 => ?_)
                          · refine lv_aload_n zx zb dX9_read_218 rfl (lv_at hl 0 rfl) ?_
                            refine j_get hC hI hin_X9_read_X9 0 rfl rfl 30 (by decide) hfl_X9_read_147 rfl rfl dX9_read_219 ?_
                            exact hQ _ _ _ _ _ ⟨0, b3, nI (nb L 0 16), g, R3⟩ dX9_read_222 (hI.sub [0, 1, 2, 3] rfl rfl) (by (try dsimp only); exact ⟨(by rw [hR]), (Or.inl ⟨by rw [hR], by omega, rfl, by rw [hR, hR3, show t = nb L 0 16 by omega]⟩)⟩)
                          · refine lv_aload_n zx zb dX9_read_200 rfl (lv_at hl 0 rfl) ?_
                            refine j_get hC hI hin_X9_read_X9 0 rfl rfl 27 (by decide) hfl_X9_read_56 rfl rfl dX9_read_201 ?_
                            refine lv_iload_n zx zb dX9_read_204 rfl (lv_at hl 2 rfl) ?_
                            refine lv_aload_n zx zb dX9_read_205 rfl (lv_at hl 0 rfl) ?_
                            refine j_get hC hI hin_X9_read_X9 0 rfl rfl 26 (by decide) hfl_X9_read_53 rfl rfl dX9_read_206 ?_
                            refine lv_iload_n zx zb dX9_read_209 rfl (lv_at hl 2 rfl) ?_
                            refine j_iald hC hI 2 rfl (by omega) (by omega) dX9_read_210 ?_
                            refine j_iast (w1 := [oC y0 9 [.int (nI 0), .ref r1, .int (nI n), .int (nI la), .int (nI lm), .int (nI lw), .ref r2, .ref r3, .ref r4, .int (nI kn), .ref r5, .ref r6, .ref r7, .int (nI k), .int (nI wp), .int (nI bt), .ref r8, .int (nI pn), .int (nI q), .int (nI th), .ref r9, .int (nI os), .int (nI wz), .ref r10, .int (nI 0), .int (nI b3), .ref r11, .ref r12, .int (nI (nb L 0 16)), .ref r13, .int (nI 0)], aI G r10 700 L, aI G r11 500 g, aI G r12 500 (up R3 t (g t))]) hC hI 3 rfl (by omega) (by omega) dX9_read_211 rfl (fun H locs hI => ?_)
                            refine lv_iinc (v := nI (t + 1)) (lv' := [(3, .int (nI (t + 1))), (0, .ref y0), (1, .int (nI (nb L 0 16)))]) zx zb dX9_read_212 hl (k := 2) rfl (j_inc _ _ _ (by decide)) (by decide) rfl (fun ls hl => ?_)
                            refine lv_goto (tgt := 195) zx zb dX9_read_215 (by decide) ?_
                            exact ih195 (t + 1) (up R3 t (g t)) (by omega) (by rw [cpy_up, hR3]) (by omega) _ _ _ hI (lv_sub hl [1, 2, 0] rfl)
                      exact loop195 _ 0 RR (by omega) (cpy_0 _ _).symm (Nat.lt_succ_self _) _ _ _ hI (lv_sub hl [1, 2, 0] rfl)
                  · have hbt := bitAt_le L b3
                    refine lv_bipush (v := nI 8) zx zb dX9_read_127 (by decide) ?_
                    refine lv_aload_n zx zb dX9_read_129 rfl (lv_at hl 0 rfl) ?_
                    refine j_get hC hI hin_X9_read_X9 0 rfl rfl 24 (by decide) hfl_X9_read_141 rfl rfl dX9_read_130 ?_
                    refine j_imul hC dX9_read_133 ?_
                    refine lv_aload_n zx zb dX9_read_134 rfl (lv_at hl 0 rfl) ?_
                    refine j_get hC hI hin_X9_read_X9 0 rfl rfl 25 (by decide) hfl_X9_read_144 rfl rfl dX9_read_135 ?_
                    refine j_isub hC (by omega) dX9_read_138 ?_
                    refine lv_bipush (v := nI 8) zx zb dX9_read_139 (by decide) ?_
                    refine j_icmp_ge (tgt := 148) hC dX9_read_141 (by decide) (by omega) (by omega) (fun c141 => ?_) (fun c141 => ?_)
                    · have hR : (rdT L (8 * sz) la lm lw f).1 = 5 := by rw [rdT_good (by omega) (by omega) hx (by omega)]; exact rdB_far (by omega)
                      refine lv_iconst (v := nI 0) zx zb dX9_read_148 (by decide) ?_
                      refine lv_istore_n (lv' := [(3, .int (nI 0)), (0, .ref y0), (1, .int (nI (nb L 0 16)))]) zx zb dX9_read_149 rfl hl (by decide) rfl (fun ls hl => ?_)
                      refine lv_aload_n zx zb dX9_read_150 rfl (lv_at hl 1 rfl) ?_
                      refine lv_iload_n zx zb dX9_read_151 rfl (lv_at hl 0 rfl) ?_
                      refine lv_iconst (v := nI 5) zx zb dX9_read_152 (by decide) ?_
                      refine j_callVv (wr := [aI G r10 700 L, aI G r11 500 g, aI G r12 500 RR]) hC hI (c_X9_need_set zl G y0 r1 r2 r3 r4 r5 r6 r7 r8 r9 r10 r11 r12 r13 n la lm lw kn k wp bt pn q th os wz sz b3 tz 5 ) (cwV 2 hC.2.2.2.2.1 gX9_read_X9_need rfl rfl rfl (by decide +kernel) ⟨Nat.le_of_ble_eq_true rfl, Nat.le_of_ble_eq_true rfl⟩) [0] [1, 2, 3] rfl rfl rfl rfl rfl rfl (q0 := 0) rfl rfl rfl hl.1 (Nat.le_of_ble_eq_true rfl) dX9_read_153 ⟨Nat.le_of_ble_eq_true rfl, Nat.le_of_ble_eq_true rfl⟩ (fun u153 H locs hp153 hI => ?_)
                      have hI : jI G zA zs [aI G r10 700 L, aI G r11 500 g, aI G r12 500 RR, oC y0 9 [.int (nI 0), .ref r1, .int (nI n), .int (nI la), .int (nI lm), .int (nI lw), .ref r2, .ref r3, .ref r4, .int (nI kn), .ref r5, .ref r6, .ref r7, .int (nI k), .int (nI wp), .int (nI bt), .ref r8, .int (nI pn), .int (nI q), .int (nI th), .ref r9, .int (nI os), .int (nI wz), .ref r10, .int (nI sz), .int (nI b3), .ref r11, .ref r12, .int tz, .ref r13, .int (nI 5)]] H locs := hI
                      refine lv_aload_n zx zb dX9_read_156 rfl (lv_at hl 1 rfl) ?_
                      refine lv_aload_n zx zb dX9_read_157 rfl (lv_at hl 1 rfl) ?_
                      refine j_callVi (wr := [aI G r11 500 g, aI G r12 500 RR]) hC hI (c_X9_takeBit_ok zl G y0 r1 r2 r3 r4 r5 r6 r7 r8 r9 r10 r11 r12 r13 n la lm lw kn k wp bt pn q th os wz sz b3 5 tz L (by omega) (by omega) (by omega)) (cwV 0 hC.2.2.2.2.1 gX9_read_X9_takeBit rfl rfl rfl (by decide +kernel) ⟨Nat.le_of_ble_eq_true rfl, Nat.le_of_ble_eq_true rfl⟩) [3, 0] [1, 2] rfl rfl rfl rfl rfl rfl (q0 := 0) rfl rfl rfl hl.1 (Nat.le_of_ble_eq_true rfl) dX9_read_158 ⟨Nat.le_of_ble_eq_true rfl, Nat.le_of_ble_eq_true rfl⟩ (fun rv158 u158 H locs hp158 hI => ?_)
                      have hI : jI G zA zs [aI G r11 500 g, aI G r12 500 RR, oC y0 9 [.int (nI 0), .ref r1, .int (nI n), .int (nI la), .int (nI lm), .int (nI lw), .ref r2, .ref r3, .ref r4, .int (nI kn), .ref r5, .ref r6, .ref r7, .int (nI k), .int (nI wp), .int (nI bt), .ref r8, .int (nI pn), .int (nI q), .int (nI th), .ref r9, .int (nI os), .int (nI wz), .ref r10, .int (nI sz), .int (nI (b3 + 1)), .ref r11, .ref r12, .int tz, .ref r13, .int (nI 5)], aI G r10 700 L] H locs := hI
                      subst hp158
                      refine j_if_ne (tgt := 168) hC dX9_read_161 (by decide) (by omega) (fun c161 => ?_) (fun c161 => ?_)
                      · have hR9 : rdB L (8 * sz) b = 5 := by rcases Nat.lt_or_ge (8 * sz - b) 8 with q | q; exact rdB_bit (j := b3 - b) (by omega) (by rw [show b + (b3 - b) = b3 by omega]; exact c161); exact rdB_far q
                        have hR : (rdT L (8 * sz) la lm lw f).1 = 5 := by rw [rdT_good (by omega) (by omega) hx (by omega)]; exact hR9
                        refine lv_iconst (v := nI 0) zx zb dX9_read_168 (by decide) ?_
                        refine lv_iconst (v := nI 5) zx zb dX9_read_169 (by decide) ?_
                        refine j_callVv (wr := [aI G r11 500 g, aI G r12 500 RR, aI G r10 700 L]) hC hI (c_X9_need_keep zl G y0 r1 r2 r3 r4 r5 r6 r7 r8 r9 r10 r11 r12 r13 n la lm lw kn k wp bt pn q th os wz sz (b3 + 1) 5 tz 0 5 (by omega) (by omega)) (cwV 2 hC.2.2.2.2.1 gX9_read_X9_need rfl rfl rfl (by decide +kernel) ⟨Nat.le_of_ble_eq_true rfl, Nat.le_of_ble_eq_true rfl⟩) [2] [0, 1, 3] rfl rfl rfl rfl rfl rfl (q0 := 0) rfl rfl rfl hl.1 (Nat.le_of_ble_eq_true rfl) dX9_read_170 ⟨Nat.le_of_ble_eq_true rfl, Nat.le_of_ble_eq_true rfl⟩ (fun u170 H locs hp170 hI => ?_)
                        have hI : jI G zA zs [aI G r11 500 g, aI G r12 500 RR, aI G r10 700 L, oC y0 9 [.int (nI 0), .ref r1, .int (nI n), .int (nI la), .int (nI lm), .int (nI lw), .ref r2, .ref r3, .ref r4, .int (nI kn), .ref r5, .ref r6, .ref r7, .int (nI k), .int (nI wp), .int (nI bt), .ref r8, .int (nI pn), .int (nI q), .int (nI th), .ref r9, .int (nI os), .int (nI wz), .ref r10, .int (nI sz), .int (nI (b3 + 1)), .ref r11, .ref r12, .int tz, .ref r13, .int (nI 5)]] H locs := hI
                        refine lv_goto (tgt := 106) zx zb dX9_read_173 (by decide) ?_
                        refine lv_aload_n zx zb dX9_read_106 rfl (lv_at hl 1 rfl) ?_
                        refine j_get hC hI hin_X9_read_X9 3 rfl rfl 30 (by decide) hfl_X9_read_147 rfl rfl dX9_read_107 ?_
                        refine j_if_ne (tgt := 176) hC dX9_read_110 (by decide) (by omega) (fun c110 => ?_) (fun c110 => ?_)
                        · exact loop176 5 (b3 + 1) g (by omega) (by omega)  _ _ _ (hI.sub [3, 2, 0, 1] rfl rfl) (lv_sub hl [1] rfl)
                        · exact (by omega : False).elim
                      · refine lv_iconst (v := nI 1) zx zb dX9_read_164 (by decide) ?_
                        refine lv_goto (tgt := 169) zx zb dX9_read_165 (by decide) ?_
                        refine lv_iconst (v := nI 5) zx zb dX9_read_169 (by decide) ?_
                        refine j_callVv (wr := [aI G r11 500 g, aI G r12 500 RR, aI G r10 700 L]) hC hI (c_X9_need_keep zl G y0 r1 r2 r3 r4 r5 r6 r7 r8 r9 r10 r11 r12 r13 n la lm lw kn k wp bt pn q th os wz sz (b3 + 1) 5 tz 1 5 (by omega) (by omega)) (cwV 2 hC.2.2.2.2.1 gX9_read_X9_need rfl rfl rfl (by decide +kernel) ⟨Nat.le_of_ble_eq_true rfl, Nat.le_of_ble_eq_true rfl⟩) [2] [0, 1, 3] rfl rfl rfl rfl rfl rfl (q0 := 0) rfl rfl rfl hl.1 (Nat.le_of_ble_eq_true rfl) dX9_read_170 ⟨Nat.le_of_ble_eq_true rfl, Nat.le_of_ble_eq_true rfl⟩ (fun u170 H locs hp170 hI => ?_)
                        have hI : jI G zA zs [aI G r11 500 g, aI G r12 500 RR, aI G r10 700 L, oC y0 9 [.int (nI 0), .ref r1, .int (nI n), .int (nI la), .int (nI lm), .int (nI lw), .ref r2, .ref r3, .ref r4, .int (nI kn), .ref r5, .ref r6, .ref r7, .int (nI k), .int (nI wp), .int (nI bt), .ref r8, .int (nI pn), .int (nI q), .int (nI th), .ref r9, .int (nI os), .int (nI wz), .ref r10, .int (nI sz), .int (nI (b3 + 1)), .ref r11, .ref r12, .int tz, .ref r13, .int (nI 5)]] H locs := hI
                        refine lv_goto (tgt := 106) zx zb dX9_read_173 (by decide) ?_
                        refine lv_aload_n zx zb dX9_read_106 rfl (lv_at hl 1 rfl) ?_
                        refine j_get hC hI hin_X9_read_X9 3 rfl rfl 30 (by decide) hfl_X9_read_147 rfl rfl dX9_read_107 ?_
                        refine j_if_ne (tgt := 176) hC dX9_read_110 (by decide) (by omega) (fun c110 => ?_) (fun c110 => ?_)
                        · exact loop176 5 (b3 + 1) g (by omega) (by omega)  _ _ _ (hI.sub [3, 2, 0, 1] rfl rfl) (lv_sub hl [1] rfl)
                        · exact (by omega : False).elim
                    · refine lv_iconst (v := nI 1) zx zb dX9_read_144 (by decide) ?_
                      refine lv_goto (tgt := 149) zx zb dX9_read_145 (by decide) ?_
                      refine lv_istore_n (lv' := [(3, .int (nI 1)), (0, .ref y0), (1, .int (nI (nb L 0 16)))]) zx zb dX9_read_149 rfl hl (by decide) rfl (fun ls hl => ?_)
                      refine lv_aload_n zx zb dX9_read_150 rfl (lv_at hl 1 rfl) ?_
                      refine lv_iload_n zx zb dX9_read_151 rfl (lv_at hl 0 rfl) ?_
                      refine lv_iconst (v := nI 5) zx zb dX9_read_152 (by decide) ?_
                      refine j_callVv (wr := [aI G r10 700 L, aI G r11 500 g, aI G r12 500 RR]) hC hI (c_X9_need_keep zl G y0 r1 r2 r3 r4 r5 r6 r7 r8 r9 r10 r11 r12 r13 n la lm lw kn k wp bt pn q th os wz sz b3 0 tz 1 5 (by omega) (by omega)) (cwV 2 hC.2.2.2.2.1 gX9_read_X9_need rfl rfl rfl (by decide +kernel) ⟨Nat.le_of_ble_eq_true rfl, Nat.le_of_ble_eq_true rfl⟩) [0] [1, 2, 3] rfl rfl rfl rfl rfl rfl (q0 := 0) rfl rfl rfl hl.1 (Nat.le_of_ble_eq_true rfl) dX9_read_153 ⟨Nat.le_of_ble_eq_true rfl, Nat.le_of_ble_eq_true rfl⟩ (fun u153 H locs hp153 hI => ?_)
                      have hI : jI G zA zs [aI G r10 700 L, aI G r11 500 g, aI G r12 500 RR, oC y0 9 [.int (nI 0), .ref r1, .int (nI n), .int (nI la), .int (nI lm), .int (nI lw), .ref r2, .ref r3, .ref r4, .int (nI kn), .ref r5, .ref r6, .ref r7, .int (nI k), .int (nI wp), .int (nI bt), .ref r8, .int (nI pn), .int (nI q), .int (nI th), .ref r9, .int (nI os), .int (nI wz), .ref r10, .int (nI sz), .int (nI b3), .ref r11, .ref r12, .int tz, .ref r13, .int (nI 0)]] H locs := hI
                      refine lv_aload_n zx zb dX9_read_156 rfl (lv_at hl 1 rfl) ?_
                      refine lv_aload_n zx zb dX9_read_157 rfl (lv_at hl 1 rfl) ?_
                      refine j_callVi (wr := [aI G r11 500 g, aI G r12 500 RR]) hC hI (c_X9_takeBit_ok zl G y0 r1 r2 r3 r4 r5 r6 r7 r8 r9 r10 r11 r12 r13 n la lm lw kn k wp bt pn q th os wz sz b3 0 tz L (by omega) (by omega) (by omega)) (cwV 0 hC.2.2.2.2.1 gX9_read_X9_takeBit rfl rfl rfl (by decide +kernel) ⟨Nat.le_of_ble_eq_true rfl, Nat.le_of_ble_eq_true rfl⟩) [3, 0] [1, 2] rfl rfl rfl rfl rfl rfl (q0 := 0) rfl rfl rfl hl.1 (Nat.le_of_ble_eq_true rfl) dX9_read_158 ⟨Nat.le_of_ble_eq_true rfl, Nat.le_of_ble_eq_true rfl⟩ (fun rv158 u158 H locs hp158 hI => ?_)
                      have hI : jI G zA zs [aI G r11 500 g, aI G r12 500 RR, oC y0 9 [.int (nI 0), .ref r1, .int (nI n), .int (nI la), .int (nI lm), .int (nI lw), .ref r2, .ref r3, .ref r4, .int (nI kn), .ref r5, .ref r6, .ref r7, .int (nI k), .int (nI wp), .int (nI bt), .ref r8, .int (nI pn), .int (nI q), .int (nI th), .ref r9, .int (nI os), .int (nI wz), .ref r10, .int (nI sz), .int (nI (b3 + 1)), .ref r11, .ref r12, .int tz, .ref r13, .int (nI 0)], aI G r10 700 L] H locs := hI
                      subst hp158
                      refine j_if_ne (tgt := 168) hC dX9_read_161 (by decide) (by omega) (fun c161 => ?_) (fun c161 => ?_)
                      · have hR9 : rdB L (8 * sz) b = 5 := by rcases Nat.lt_or_ge (8 * sz - b) 8 with q | q; exact rdB_bit (j := b3 - b) (by omega) (by rw [show b + (b3 - b) = b3 by omega]; exact c161); exact rdB_far q
                        have hR : (rdT L (8 * sz) la lm lw f).1 = 5 := by rw [rdT_good (by omega) (by omega) hx (by omega)]; exact hR9
                        refine lv_iconst (v := nI 0) zx zb dX9_read_168 (by decide) ?_
                        refine lv_iconst (v := nI 5) zx zb dX9_read_169 (by decide) ?_
                        refine j_callVv (wr := [aI G r11 500 g, aI G r12 500 RR, aI G r10 700 L]) hC hI (c_X9_need_set zl G y0 r1 r2 r3 r4 r5 r6 r7 r8 r9 r10 r11 r12 r13 n la lm lw kn k wp bt pn q th os wz sz (b3 + 1) tz 5 ) (cwV 2 hC.2.2.2.2.1 gX9_read_X9_need rfl rfl rfl (by decide +kernel) ⟨Nat.le_of_ble_eq_true rfl, Nat.le_of_ble_eq_true rfl⟩) [2] [0, 1, 3] rfl rfl rfl rfl rfl rfl (q0 := 0) rfl rfl rfl hl.1 (Nat.le_of_ble_eq_true rfl) dX9_read_170 ⟨Nat.le_of_ble_eq_true rfl, Nat.le_of_ble_eq_true rfl⟩ (fun u170 H locs hp170 hI => ?_)
                        have hI : jI G zA zs [aI G r11 500 g, aI G r12 500 RR, aI G r10 700 L, oC y0 9 [.int (nI 0), .ref r1, .int (nI n), .int (nI la), .int (nI lm), .int (nI lw), .ref r2, .ref r3, .ref r4, .int (nI kn), .ref r5, .ref r6, .ref r7, .int (nI k), .int (nI wp), .int (nI bt), .ref r8, .int (nI pn), .int (nI q), .int (nI th), .ref r9, .int (nI os), .int (nI wz), .ref r10, .int (nI sz), .int (nI (b3 + 1)), .ref r11, .ref r12, .int tz, .ref r13, .int (nI 5)]] H locs := hI
                        refine lv_goto (tgt := 106) zx zb dX9_read_173 (by decide) ?_
                        refine lv_aload_n zx zb dX9_read_106 rfl (lv_at hl 1 rfl) ?_
                        refine j_get hC hI hin_X9_read_X9 3 rfl rfl 30 (by decide) hfl_X9_read_147 rfl rfl dX9_read_107 ?_
                        refine j_if_ne (tgt := 176) hC dX9_read_110 (by decide) (by omega) (fun c110 => ?_) (fun c110 => ?_)
                        · exact loop176 5 (b3 + 1) g (by omega) (by omega)  _ _ _ (hI.sub [3, 2, 0, 1] rfl rfl) (lv_sub hl [1] rfl)
                        · exact (by omega : False).elim
                      · refine lv_iconst (v := nI 1) zx zb dX9_read_164 (by decide) ?_
                        refine lv_goto (tgt := 169) zx zb dX9_read_165 (by decide) ?_
                        refine lv_iconst (v := nI 5) zx zb dX9_read_169 (by decide) ?_
                        refine j_callVv (wr := [aI G r11 500 g, aI G r12 500 RR, aI G r10 700 L]) hC hI (c_X9_need_keep zl G y0 r1 r2 r3 r4 r5 r6 r7 r8 r9 r10 r11 r12 r13 n la lm lw kn k wp bt pn q th os wz sz (b3 + 1) 0 tz 1 5 (by omega) (by omega)) (cwV 2 hC.2.2.2.2.1 gX9_read_X9_need rfl rfl rfl (by decide +kernel) ⟨Nat.le_of_ble_eq_true rfl, Nat.le_of_ble_eq_true rfl⟩) [2] [0, 1, 3] rfl rfl rfl rfl rfl rfl (q0 := 0) rfl rfl rfl hl.1 (Nat.le_of_ble_eq_true rfl) dX9_read_170 ⟨Nat.le_of_ble_eq_true rfl, Nat.le_of_ble_eq_true rfl⟩ (fun u170 H locs hp170 hI => ?_)
                        have hI : jI G zA zs [aI G r11 500 g, aI G r12 500 RR, aI G r10 700 L, oC y0 9 [.int (nI 0), .ref r1, .int (nI n), .int (nI la), .int (nI lm), .int (nI lw), .ref r2, .ref r3, .ref r4, .int (nI kn), .ref r5, .ref r6, .ref r7, .int (nI k), .int (nI wp), .int (nI bt), .ref r8, .int (nI pn), .int (nI q), .int (nI th), .ref r9, .int (nI os), .int (nI wz), .ref r10, .int (nI sz), .int (nI (b3 + 1)), .ref r11, .ref r12, .int tz, .ref r13, .int (nI 0)]] H locs := hI
                        refine lv_goto (tgt := 106) zx zb dX9_read_173 (by decide) ?_
                        exact ih106 (b3 + 1) (by omega) (by omega) (fun j hj => by by_cases e : j < b3 - b; exact hz3 j e; rw [show b + j = b3 by omega]; exact c161) (by omega) _ _ _ (hI.sub [3, 2, 0, 1] rfl rfl) (lv_sub hl [1, 2] rfl)
            exact loop106 _ b (by omega) (by omega) (fun j h => by omega) (Nat.lt_succ_self _) _ _ _ hI (lv_sub hl [0, 1] rfl)
          · refine lv_aload_n zx zb dX9_read_46 rfl (lv_at hl 0 rfl) ?_
            refine j_get hC hI hin_X9_read_X9 0 rfl rfl 30 (by decide) hfl_X9_read_147 rfl rfl dX9_read_47 ?_
            refine j_if_ne (tgt := 106) hC dX9_read_50 (by decide) (by omega) (fun c50 => ?_) (fun c50 => ?_)
            · exact (by omega : False).elim
            · refine lv_aload_n zx zb dX9_read_53 rfl (lv_at hl 0 rfl) ?_
              rcases Nat.lt_or_ge (8 * sz) (b + 1) with hc2 | hc2
              · have hS : (rdS L (8 * sz) la lm lw (nb L 0 16) b h g).1 = 1 := by rw [rdS, if_pos (by omega)]
                have hR : (rdT L (8 * sz) la lm lw f).1 = 1 := by rw [rdT_bad (by omega) (by omega) hx (by omega) (by omega) (by omega), hS]
                refine j_callVi (wr := [aI G r10 700 L, aI G r11 500 g, aI G r12 500 RR]) hC hI (c_X9_takeBit_end zl G y0 r1 r2 r3 r4 r5 r6 r7 r8 r9 r10 r11 r12 r13 n la lm lw kn k wp bt pn q th os wz sz b tz (by omega) (by omega)) (cwV 0 hC.2.2.2.2.1 gX9_read_X9_takeBit rfl rfl rfl (by decide +kernel) ⟨Nat.le_of_ble_eq_true rfl, Nat.le_of_ble_eq_true rfl⟩) [0] [1, 2, 3] rfl rfl rfl rfl rfl rfl (q0 := 0) rfl rfl rfl hl.1 (Nat.le_of_ble_eq_true rfl) dX9_read_54 ⟨Nat.le_of_ble_eq_true rfl, Nat.le_of_ble_eq_true rfl⟩ (fun rv54 u54 H locs hp54 hI => ?_)
                have hI : jI G zA zs [aI G r10 700 L, aI G r11 500 g, aI G r12 500 RR, oC y0 9 [.int (nI 0), .ref r1, .int (nI n), .int (nI la), .int (nI lm), .int (nI lw), .ref r2, .ref r3, .ref r4, .int (nI kn), .ref r5, .ref r6, .ref r7, .int (nI k), .int (nI wp), .int (nI bt), .ref r8, .int (nI pn), .int (nI q), .int (nI th), .ref r9, .int (nI os), .int (nI wz), .ref r10, .int (nI sz), .int (nI b), .ref r11, .ref r12, .int tz, .ref r13, .int (nI 1)]] H locs := hI
                subst hp54
                refine lv_istore_n (lv' := [(3, .int (nI 0)), (0, .ref y0), (1, .int (nI (nb L 0 16))), (2, .int (nI h))]) zx zb dX9_read_57 rfl hl (by decide) rfl (fun ls hl => ?_)
                refine lv_aload_n zx zb dX9_read_58 rfl (lv_at hl 1 rfl) ?_
                refine j_get hC hI hin_X9_read_X9 3 rfl rfl 30 (by decide) hfl_X9_read_147 rfl rfl dX9_read_59 ?_
                refine j_if_ne (tgt := 87) hC dX9_read_62 (by decide) (by omega) (fun c62 => ?_) (fun c62 => ?_)
                · refine lv_aload_n zx zb dX9_read_87 rfl (lv_at hl 1 rfl) ?_
                  refine j_get hC hI hin_X9_read_X9 3 rfl rfl 30 (by decide) hfl_X9_read_147 rfl rfl dX9_read_88 ?_
                  refine j_if_ne (tgt := 103) hC dX9_read_91 (by decide) (by omega) (fun c91 => ?_) (fun c91 => ?_)
                  · refine lv_goto (tgt := 41) zx zb dX9_read_103 (by decide) ?_
                    refine lv_iload_n zx zb dX9_read_41 rfl (lv_at hl 3 rfl) ?_
                    refine lv_iload_n zx zb dX9_read_42 rfl (lv_at hl 2 rfl) ?_
                    refine j_icmp_ge (tgt := 106) hC dX9_read_43 (by decide) (by omega) (by omega) (fun c43 => ?_) (fun c43 => ?_)
                    · refine lv_aload_n zx zb dX9_read_106 rfl (lv_at hl 1 rfl) ?_
                      refine j_get hC hI hin_X9_read_X9 3 rfl rfl 30 (by decide) hfl_X9_read_147 rfl rfl dX9_read_107 ?_
                      refine j_if_ne (tgt := 176) hC dX9_read_110 (by decide) (by omega) (fun c110 => ?_) (fun c110 => ?_)
                      · exact loop176 1 b g (by omega) (by omega)  _ _ _ (hI.sub [3, 0, 1, 2] rfl rfl) (lv_sub hl [1] rfl)
                      · exact (by omega : False).elim
                    · refine lv_aload_n zx zb dX9_read_46 rfl (lv_at hl 1 rfl) ?_
                      refine j_get hC hI hin_X9_read_X9 3 rfl rfl 30 (by decide) hfl_X9_read_147 rfl rfl dX9_read_47 ?_
                      refine j_if_ne (tgt := 106) hC dX9_read_50 (by decide) (by omega) (fun c50 => ?_) (fun c50 => ?_)
                      · refine lv_aload_n zx zb dX9_read_106 rfl (lv_at hl 1 rfl) ?_
                        refine j_get hC hI hin_X9_read_X9 3 rfl rfl 30 (by decide) hfl_X9_read_147 rfl rfl dX9_read_107 ?_
                        refine j_if_ne (tgt := 176) hC dX9_read_110 (by decide) (by omega) (fun c110 => ?_) (fun c110 => ?_)
                        · exact loop176 1 b g (by omega) (by omega)  _ _ _ (hI.sub [3, 0, 1, 2] rfl rfl) (lv_sub hl [1] rfl)
                        · exact (by omega : False).elim
                      · exact (by omega : False).elim
                  · exact (by omega : False).elim
                · exact (by omega : False).elim
              · have hbl := bitAt_le L b
                refine j_callVi (wr := [aI G r11 500 g, aI G r12 500 RR]) hC hI (c_X9_takeBit_ok zl G y0 r1 r2 r3 r4 r5 r6 r7 r8 r9 r10 r11 r12 r13 n la lm lw kn k wp bt pn q th os wz sz b 0 tz L (by omega) (by omega) (by omega)) (cwV 0 hC.2.2.2.2.1 gX9_read_X9_takeBit rfl rfl rfl (by decide +kernel) ⟨Nat.le_of_ble_eq_true rfl, Nat.le_of_ble_eq_true rfl⟩) [0, 1] [2, 3] rfl rfl rfl rfl rfl rfl (q0 := 0) rfl rfl rfl hl.1 (Nat.le_of_ble_eq_true rfl) dX9_read_54 ⟨Nat.le_of_ble_eq_true rfl, Nat.le_of_ble_eq_true rfl⟩ (fun rv54 u54 H locs hp54 hI => ?_)
                have hI : jI G zA zs [aI G r11 500 g, aI G r12 500 RR, oC y0 9 [.int (nI 0), .ref r1, .int (nI n), .int (nI la), .int (nI lm), .int (nI lw), .ref r2, .ref r3, .ref r4, .int (nI kn), .ref r5, .ref r6, .ref r7, .int (nI k), .int (nI wp), .int (nI bt), .ref r8, .int (nI pn), .int (nI q), .int (nI th), .ref r9, .int (nI os), .int (nI wz), .ref r10, .int (nI sz), .int (nI (b + 1)), .ref r11, .ref r12, .int tz, .ref r13, .int (nI 0)], aI G r10 700 L] H locs := hI
                subst hp54
                refine lv_istore_n (lv' := [(3, .int (nI (bitAt L b))), (0, .ref y0), (1, .int (nI (nb L 0 16))), (2, .int (nI h))]) zx zb dX9_read_57 rfl hl (by decide) rfl (fun ls hl => ?_)
                refine lv_aload_n zx zb dX9_read_58 rfl (lv_at hl 1 rfl) ?_
                refine j_get hC hI hin_X9_read_X9 2 rfl rfl 30 (by decide) hfl_X9_read_147 rfl rfl dX9_read_59 ?_
                refine j_if_ne (tgt := 87) hC dX9_read_62 (by decide) (by omega) (fun c62 => ?_) (fun c62 => ?_)
                · exact (by omega : False).elim
                · refine lv_iload_n zx zb dX9_read_65 rfl (lv_at hl 0 rfl) ?_
                  refine j_if_ne (tgt := 87) hC dX9_read_66 (by decide) (by omega) (fun c66 => ?_) (fun c66 => ?_)
                  · refine lv_aload_n zx zb dX9_read_87 rfl (lv_at hl 1 rfl) ?_
                    refine j_get hC hI hin_X9_read_X9 2 rfl rfl 30 (by decide) hfl_X9_read_147 rfl rfl dX9_read_88 ?_
                    refine j_if_ne (tgt := 103) hC dX9_read_91 (by decide) (by omega) (fun c91 => ?_) (fun c91 => ?_)
                    · exact (by omega : False).elim
                    · refine lv_iload_n zx zb dX9_read_94 rfl (lv_at hl 3 rfl) ?_
                      refine lv_aload_n zx zb dX9_read_95 rfl (lv_at hl 1 rfl) ?_
                      refine lv_iload_n zx zb dX9_read_96 rfl (lv_at hl 3 rfl) ?_
                      refine lv_iload_n zx zb dX9_read_97 rfl (lv_at hl 2 rfl) ?_
                      have hS : rdS L (8 * sz) la lm lw (nb L 0 16) b h g = rdM L (8 * sz) la lm lw (nb L 0 16) (b + 1) h g := by rw [rdS, if_neg (by omega), if_neg c66]
                      refine j_callVi (wr := [aI G r12 500 RR]) hC hI (c_X9_takeMatch zl G y0 r1 r2 r3 r4 r5 r6 r7 r8 r9 r10 r11 r12 r13 n la lm lw kn k wp bt pn q th os wz sz (b + 1) tz L g h (nb L 0 16) (by omega) (by omega) (by omega) (by omega) (by omega) hg) (cwV 2 hC.2.2.2.2.1 gX9_read_X9_takeMatch rfl rfl rfl (by decide +kernel) ⟨Nat.le_of_ble_eq_true rfl, Nat.le_of_ble_eq_true rfl⟩) [2, 3, 0] [1] rfl rfl rfl rfl rfl rfl (q0 := 0) rfl rfl rfl hl.1 (Nat.le_of_ble_eq_true rfl) dX9_read_98 ⟨Nat.le_of_ble_eq_true rfl, Nat.le_of_ble_eq_true rfl⟩ (fun rv98 u98 H locs hp98 hI => ?_)
                      obtain ⟨v98_0, v98_1, v98_2, v98_3⟩ := u98
                      have hI : jI G zA zs [aI G r12 500 RR, oC y0 9 [.int (nI 0), .ref r1, .int (nI n), .int (nI la), .int (nI lm), .int (nI lw), .ref r2, .ref r3, .ref r4, .int (nI kn), .ref r5, .ref r6, .ref r7, .int (nI k), .int (nI wp), .int (nI bt), .ref r8, .int (nI pn), .int (nI q), .int (nI th), .ref r9, .int (nI os), .int (nI wz), .ref r10, .int (nI sz), .int (nI v98_2), .ref r11, .ref r12, .int tz, .ref r13, .int (nI v98_1)], aI G r10 700 L, aI G r11 500 v98_3] H locs := hI
                      dsimp only at hp98
                      obtain ⟨rfl, f98_0, f98_1, f98_2, f98_3, f98_4⟩ := hp98
                      rcases Nat.eq_zero_or_pos v98_1 with rfl | hpos
                      · have hgr := rdM_grow (by omega) f98_0.1.symm (f98_2 rfl).2.1
                        have hle := f98_2 rfl
                        have hle2 := f98_4 rfl
                        refine j_iadd hC dX9_read_101 ?_
                        refine lv_istore_n (lv' := [(2, .int (nI (h + v98_0))), (3, .int (nI (bitAt L b))), (0, .ref y0), (1, .int (nI (nb L 0 16)))]) zx zb dX9_read_102 rfl hl (by decide) rfl (fun ls hl => ?_)
                        refine lv_goto (tgt := 41) zx zb dX9_read_103 (by decide) ?_
                        exact ih41 (h + v98_0) v98_2 (K - 1) v98_3 (by omega) (by omega) (by rw [← hx, rdL_go (L := L) (e := 8 * sz) (la := la) (lm := lm) (lw := lw) (all := nb L 0 16) (b := b) (m := h) (k := K) (f := g) (by omega) (by omega) (by rw [hS]; exact f98_0.1.symm), hS, ← (f98_2 rfl).1, ← (f98_2 rfl).2.1, ← (f98_2 rfl).2.2]) (f98_3 rfl) (by omega) _ _ _ (hI.sub [1, 2, 3, 0] rfl rfl) (lv_sub hl [2, 3, 0] rfl)
                      · have hS2 : (rdS L (8 * sz) la lm lw (nb L 0 16) b h g).1 = v98_1 := by rw [hS]; exact f98_0.1.symm
                        have hR : (rdT L (8 * sz) la lm lw f).1 = v98_1 := by rw [rdT_bad (by omega) (by omega) hx (by omega) (by omega) (by omega), hS2]
                        refine j_iadd hC dX9_read_101 ?_
                        refine lv_istore_n (lv' := [(2, .int (nI (h + v98_0))), (3, .int (nI (bitAt L b))), (0, .ref y0), (1, .int (nI (nb L 0 16)))]) zx zb dX9_read_102 rfl hl (by decide) rfl (fun ls hl => ?_)
                        refine lv_goto (tgt := 41) zx zb dX9_read_103 (by decide) ?_
                        refine lv_iload_n zx zb dX9_read_41 rfl (lv_at hl 0 rfl) ?_
                        refine lv_iload_n zx zb dX9_read_42 rfl (lv_at hl 3 rfl) ?_
                        refine j_icmp_ge (tgt := 106) hC dX9_read_43 (by decide) (by omega) (by omega) (fun c43 => ?_) (fun c43 => ?_)
                        · refine lv_aload_n zx zb dX9_read_106 rfl (lv_at hl 2 rfl) ?_
                          refine j_get hC hI hin_X9_read_X9 1 rfl rfl 30 (by decide) hfl_X9_read_147 rfl rfl dX9_read_107 ?_
                          refine j_if_ne (tgt := 176) hC dX9_read_110 (by decide) (by omega) (fun c110 => ?_) (fun c110 => ?_)
                          · exact loop176 v98_1 v98_2 v98_3 (by omega) (by omega)  _ _ _ (hI.sub [1, 2, 3, 0] rfl rfl) (lv_sub hl [2] rfl)
                          · exact (by omega : False).elim
                        · refine lv_aload_n zx zb dX9_read_46 rfl (lv_at hl 2 rfl) ?_
                          refine j_get hC hI hin_X9_read_X9 1 rfl rfl 30 (by decide) hfl_X9_read_147 rfl rfl dX9_read_47 ?_
                          refine j_if_ne (tgt := 106) hC dX9_read_50 (by decide) (by omega) (fun c50 => ?_) (fun c50 => ?_)
                          · refine lv_aload_n zx zb dX9_read_106 rfl (lv_at hl 2 rfl) ?_
                            refine j_get hC hI hin_X9_read_X9 1 rfl rfl 30 (by decide) hfl_X9_read_147 rfl rfl dX9_read_107 ?_
                            refine j_if_ne (tgt := 176) hC dX9_read_110 (by decide) (by omega) (fun c110 => ?_) (fun c110 => ?_)
                            · exact loop176 v98_1 v98_2 v98_3 (by omega) (by omega)  _ _ _ (hI.sub [1, 2, 3, 0] rfl rfl) (lv_sub hl [2] rfl)
                            · exact (by omega : False).elim
                          · exact (by omega : False).elim
                  · refine lv_aload_n zx zb dX9_read_69 rfl (lv_at hl 1 rfl) ?_
                    refine j_get hC hI hin_X9_read_X9 2 rfl rfl 26 (by decide) hfl_X9_read_53 rfl rfl dX9_read_70 ?_
                    refine lv_iload_n zx zb dX9_read_73 rfl (lv_at hl 3 rfl) ?_
                    refine lv_aload_n zx zb dX9_read_74 rfl (lv_at hl 1 rfl) ?_
                    refine lv_bipush (v := nI 8) zx zb dX9_read_75 (by decide) ?_
                    rcases Nat.lt_or_ge (8 * sz) (b + 1 + 8) with hc3 | hc3
                    · have hS : (rdS L (8 * sz) la lm lw (nb L 0 16) b h g).1 = 1 := by rw [rdS, if_neg (by omega), if_pos c66, if_pos (by omega)]
                      have hR : (rdT L (8 * sz) la lm lw f).1 = 1 := by rw [rdT_bad (by omega) (by omega) hx (by omega) (by omega) (by omega), hS]
                      refine j_callVi (wr := [aI G r11 500 g, aI G r12 500 RR]) hC hI (c_X9_take_end zl G y0 r1 r2 r3 r4 r5 r6 r7 r8 r9 r10 r11 r12 r13 n la lm lw kn k wp bt pn q th os wz sz (b + 1) tz L 8 (by omega) (by omega) (by omega) (by omega) (by omega)) (cwV 1 hC.2.2.2.2.1 gX9_read_X9_take rfl rfl rfl (by decide +kernel) ⟨Nat.le_of_ble_eq_true rfl, Nat.le_of_ble_eq_true rfl⟩) [2, 3] [0, 1] rfl rfl rfl rfl rfl rfl (q0 := 0) rfl rfl rfl hl.1 (Nat.le_of_ble_eq_true rfl) dX9_read_77 ⟨Nat.le_of_ble_eq_true rfl, Nat.le_of_ble_eq_true rfl⟩ (fun rv77 u77 H locs hp77 hI => ?_)
                      obtain ⟨v77_0, rfl⟩ : ∃ z, z = u77 := ⟨_, rfl⟩
                      have hI : jI G zA zs [aI G r11 500 g, aI G r12 500 RR, oC y0 9 [.int (nI 0), .ref r1, .int (nI n), .int (nI la), .int (nI lm), .int (nI lw), .ref r2, .ref r3, .ref r4, .int (nI kn), .ref r5, .ref r6, .ref r7, .int (nI k), .int (nI wp), .int (nI bt), .ref r8, .int (nI pn), .int (nI q), .int (nI th), .ref r9, .int (nI os), .int (nI wz), .ref r10, .int (nI sz), .int (nI (8 * sz)), .ref r11, .ref r12, .int tz, .ref r13, .int (nI 1)], aI G r10 700 L] H locs := hI
                      obtain ⟨rfl, f77_0⟩ := hp77
                      refine j_iast (w1 := [aI G r11 500 (up g h v77_0), aI G r12 500 RR, oC y0 9 [.int (nI 0), .ref r1, .int (nI n), .int (nI la), .int (nI lm), .int (nI lw), .ref r2, .ref r3, .ref r4, .int (nI kn), .ref r5, .ref r6, .ref r7, .int (nI k), .int (nI wp), .int (nI bt), .ref r8, .int (nI pn), .int (nI q), .int (nI th), .ref r9, .int (nI os), .int (nI wz), .ref r10, .int (nI sz), .int (nI (8 * sz)), .ref r11, .ref r12, .int tz, .ref r13, .int (nI 1)], aI G r10 700 L]) hC hI 0 rfl (by omega) (by omega) dX9_read_80 rfl (fun H locs hI => ?_)
                      refine lv_iinc (v := nI (h + 1)) (lv' := [(2, .int (nI (h + 1))), (3, .int (nI (bitAt L b))), (0, .ref y0), (1, .int (nI (nb L 0 16)))]) zx zb dX9_read_81 hl (k := 3) rfl (j_inc _ _ _ (by decide)) (by decide) rfl (fun ls hl => ?_)
                      refine lv_goto (tgt := 103) zx zb dX9_read_84 (by decide) ?_
                      refine lv_goto (tgt := 41) zx zb dX9_read_103 (by decide) ?_
                      refine lv_iload_n zx zb dX9_read_41 rfl (lv_at hl 0 rfl) ?_
                      refine lv_iload_n zx zb dX9_read_42 rfl (lv_at hl 3 rfl) ?_
                      refine j_icmp_ge (tgt := 106) hC dX9_read_43 (by decide) (by omega) (by omega) (fun c43 => ?_) (fun c43 => ?_)
                      · refine lv_aload_n zx zb dX9_read_106 rfl (lv_at hl 2 rfl) ?_
                        refine j_get hC hI hin_X9_read_X9 2 rfl rfl 30 (by decide) hfl_X9_read_147 rfl rfl dX9_read_107 ?_
                        refine j_if_ne (tgt := 176) hC dX9_read_110 (by decide) (by omega) (fun c110 => ?_) (fun c110 => ?_)
                        · exact loop176 1 (8 * sz) (up g h v77_0) (by omega) (by omega)  _ _ _ (hI.sub [2, 3, 0, 1] rfl rfl) (lv_sub hl [2] rfl)
                        · exact (by omega : False).elim
                      · refine lv_aload_n zx zb dX9_read_46 rfl (lv_at hl 2 rfl) ?_
                        refine j_get hC hI hin_X9_read_X9 2 rfl rfl 30 (by decide) hfl_X9_read_147 rfl rfl dX9_read_47 ?_
                        refine j_if_ne (tgt := 106) hC dX9_read_50 (by decide) (by omega) (fun c50 => ?_) (fun c50 => ?_)
                        · refine lv_aload_n zx zb dX9_read_106 rfl (lv_at hl 2 rfl) ?_
                          refine j_get hC hI hin_X9_read_X9 2 rfl rfl 30 (by decide) hfl_X9_read_147 rfl rfl dX9_read_107 ?_
                          refine j_if_ne (tgt := 176) hC dX9_read_110 (by decide) (by omega) (fun c110 => ?_) (fun c110 => ?_)
                          · exact loop176 1 (8 * sz) (up g h v77_0) (by omega) (by omega)  _ _ _ (hI.sub [2, 3, 0, 1] rfl rfl) (lv_sub hl [2] rfl)
                          · exact (by omega : False).elim
                        · exact (by omega : False).elim
                    · have hnb8 := nb_lt L (b + 1) 8
                      have hS : rdS L (8 * sz) la lm lw (nb L 0 16) b h g = (0, b + 1 + 8, h + 1, up g h (nb L (b + 1) 8)) := by rw [rdS, if_neg (by omega), if_pos c66, if_neg (by omega)]
                      refine j_callVi (wr := [aI G r11 500 g, aI G r12 500 RR]) hC hI (c_X9_take_ok zl G y0 r1 r2 r3 r4 r5 r6 r7 r8 r9 r10 r11 r12 r13 n la lm lw kn k wp bt pn q th os wz sz (b + 1) tz L 8 (by omega) (by omega) (by omega) (by omega)) (cwV 1 hC.2.2.2.2.1 gX9_read_X9_take rfl rfl rfl (by decide +kernel) ⟨Nat.le_of_ble_eq_true rfl, Nat.le_of_ble_eq_true rfl⟩) [2, 3] [0, 1] rfl rfl rfl rfl rfl rfl (q0 := 0) rfl rfl rfl hl.1 (Nat.le_of_ble_eq_true rfl) dX9_read_77 ⟨Nat.le_of_ble_eq_true rfl, Nat.le_of_ble_eq_true rfl⟩ (fun rv77 u77 H locs hp77 hI => ?_)
                      have hI : jI G zA zs [aI G r11 500 g, aI G r12 500 RR, oC y0 9 [.int (nI 0), .ref r1, .int (nI n), .int (nI la), .int (nI lm), .int (nI lw), .ref r2, .ref r3, .ref r4, .int (nI kn), .ref r5, .ref r6, .ref r7, .int (nI k), .int (nI wp), .int (nI bt), .ref r8, .int (nI pn), .int (nI q), .int (nI th), .ref r9, .int (nI os), .int (nI wz), .ref r10, .int (nI sz), .int (nI ((b + 1) + 8)), .ref r11, .ref r12, .int tz, .ref r13, .int (nI 0)], aI G r10 700 L] H locs := hI
                      subst hp77
                      refine j_iast (w1 := [aI G r11 500 (up g h (nb L (b + 1) 8)), aI G r12 500 RR, oC y0 9 [.int (nI 0), .ref r1, .int (nI n), .int (nI la), .int (nI lm), .int (nI lw), .ref r2, .ref r3, .ref r4, .int (nI kn), .ref r5, .ref r6, .ref r7, .int (nI k), .int (nI wp), .int (nI bt), .ref r8, .int (nI pn), .int (nI q), .int (nI th), .ref r9, .int (nI os), .int (nI wz), .ref r10, .int (nI sz), .int (nI ((b + 1) + 8)), .ref r11, .ref r12, .int tz, .ref r13, .int (nI 0)], aI G r10 700 L]) hC hI 0 rfl (by omega) (by omega) dX9_read_80 rfl (fun H locs hI => ?_)
                      refine lv_iinc (v := nI (h + 1)) (lv' := [(2, .int (nI (h + 1))), (3, .int (nI (bitAt L b))), (0, .ref y0), (1, .int (nI (nb L 0 16)))]) zx zb dX9_read_81 hl (k := 3) rfl (j_inc _ _ _ (by decide)) (by decide) rfl (fun ls hl => ?_)
                      refine lv_goto (tgt := 103) zx zb dX9_read_84 (by decide) ?_
                      refine lv_goto (tgt := 41) zx zb dX9_read_103 (by decide) ?_
                      exact ih41 (h + 1) ((b + 1) + 8) (K - 1) (up g h (nb L (b + 1) 8)) (by omega) (by omega) (by rw [← hx, rdL_go (L := L) (e := 8 * sz) (la := la) (lm := lm) (lw := lw) (all := nb L 0 16) (b := b) (m := h) (k := K) (f := g) (by omega) (by omega) (by rw [hS]), hS]) (up_lt hg (by omega)) (by omega) _ _ _ (hI.sub [2, 3, 0, 1] rfl rfl) (lv_sub hl [2, 3, 0] rfl)
      exact loop41 _ 0 (0 + 16) 500 f (by omega) (by omega) rfl (fun j h => by omega) (Nat.lt_succ_self _) _ _ _ (hI.sub [3, 2, 0, 1] rfl rfl) (lv_sub hl [2, 1, 0] rfl)

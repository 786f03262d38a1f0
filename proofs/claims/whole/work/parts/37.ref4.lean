theorem hin_X9_step_X9 : ∀ w ∈ wsX90, w ∈ wsX9_step := by decide +kernel
theorem hfl_X9_step_65 : Cond.fieldLink RX9 65 "CheapParseModel" "thrown" "I" ∈ wsX9_step := by decide +kernel
theorem hfl_X9_step_93 : Cond.fieldLink RX9 93 "CheapParseModel" "steps" "I" ∈ wsX9_step := by decide +kernel
theorem hfl_X9_step_34 : Cond.fieldLink RX9 34 "CheapParseModel" "places" "[I" ∈ wsX9_step := by decide +kernel
theorem hfl_X9_step_37 : Cond.fieldLink RX9 37 "CheapParseModel" "lengths" "[I" ∈ wsX9_step := by decide +kernel
theorem hfl_X9_step_40 : Cond.fieldLink RX9 40 "CheapParseModel" "distances" "[I" ∈ wsX9_step := by decide +kernel
theorem hfl_X9_step_43 : Cond.fieldLink RX9 43 "CheapParseModel" "parsed" "[I" ∈ wsX9_step := by decide +kernel
set_option maxHeartbeats 4000000 in
set_option maxRecDepth 100000 in
theorem c_X9_step (zl : Launch) (G : jG) (y0 : Nat) (r1 : Nat) (r2 : Nat) (r3 : Nat) (r4 : Nat) (r5 : Nat) (r6 : Nat) (r7 : Nat) (r8 : Nat) (r9 : Nat) (r10 : Nat) (r11 : Nat) (r12 : Nat) (r13 : Nat) (n : Nat) (la : Nat) (lm : Nat) (lw : Nat) (kn : Nat) (k : Nat) (wp : Nat) (bt : Nat) (pn : Nat) (q : Nat) (th : Nat) (os : Nat) (wz : Nat) (sz : Nat) (ia : Nat) (ft : Nat) (tz : Int32) (sp : Nat → Nat) (sl : Nat → Nat) (sd : Nat → Nat) (P : Nat → Nat) (i : Int32) (a : Int32) (hk : k ≤ 500) (ht : ∀ j, j < k → sp j < 500 ∧ sd j < 1000) : jMet zl yX9_step wsX9_step ({ frames := 0, cells := 0, slots := 0, locals := 0 }) G [oC y0 9 [.int (nI 0), .ref r1, .int (nI n), .int (nI la), .int (nI lm), .int (nI lw), .ref r2, .ref r3, .ref r4, .int (nI kn), .ref r5, .ref r6, .ref r7, .int (nI k), .int (nI wp), .int (nI bt), .ref r8, .int (nI pn), .int (nI q), .int (nI th), .ref r9, .int (nI os), .int (nI wz), .ref r10, .int (nI sz), .int (nI ia), .ref r11, .ref r12, .int tz, .ref r13, .int (nI ft)], aI G r5 500 sp, aI G r6 500 sl, aI G r7 500 sd, aI G r8 500 P] [.ref y0, .int i, .int a] (jQi G (fun (r : Int32) (u : Unit) => (stA P sp sl sd k i a r)) (fun (u : Unit) => [oC y0 9 [.int (nI 0), .ref r1, .int (nI n), .int (nI la), .int (nI lm), .int (nI lw), .ref r2, .ref r3, .ref r4, .int (nI kn), .ref r5, .ref r6, .ref r7, .int (nI k), .int (nI wp), .int (nI bt), .ref r8, .int (nI pn), .int (nI q), .int (nI th), .ref r9, .int (nI os), .int (nI wz), .ref r10, .int (nI sz), .int (nI ia), .ref r11, .ref r12, .int tz, .ref r13, .int (nI ft)], aI G r5 500 sp, aI G r6 500 sl, aI G r7 500 sd, aI G r8 500 P])) 0 0 := by
  refine j_enter_i (cc := cX9_step) (nL := 3) (nm := "step") (own := RX9) (lv := [(0, .ref y0), (1, .int i), (2, .int a)]) (by decide) rfl (Nat.le_of_ble_eq_true rfl) rfl rfl rfl ?_
  intro zA zp ze zs zm zargs zbelow zmeth zc zQ ls hC hQ hI hl
  have zx := hC.1
  have zb := hC.2.1
  have hsd : ∀ j, j < k → sd j < 1000 := fun j h => (ht j h).2
  refine lv_aload_n zx zb dX9_step_0 rfl (lv_at hl 0 rfl) ?_
  refine lv_iconst (v := nI 0) zx zb dX9_step_1 (by decide) ?_
  refine j_put (w1 := [oC y0 9 [.int (nI 0), .ref r1, .int (nI n), .int (nI la), .int (nI lm), .int (nI lw), .ref r2, .ref r3, .ref r4, .int (nI kn), .ref r5, .ref r6, .ref r7, .int (nI k), .int (nI wp), .int (nI bt), .ref r8, .int (nI pn), .int (nI q), .int (nI th), .ref r9, .int (nI os), .int (nI wz), .ref r10, .int (nI sz), .int (nI ia), .ref r11, .ref r12, .int tz, .ref r13, .int (nI ft)], aI G r5 500 sp, aI G r6 500 sl, aI G r7 500 sd, aI G r8 500 P]) hC hI hin_X9_step_X9 tyX9 tyX9_ok nmX9 0 rfl rfl 0 (by decide) hfl_X9_step_65 rfl rfl rfl rfl (Nat.le_of_ble_eq_true rfl) dX9_step_2 rfl (fun H locs hI => ?_)
  rcases in_or i k with ⟨j5, hj, rfl⟩ | hno
  · have ht5 := ht j5 hj
    refine lv_iload_n zx zb dX9_step_5 rfl (lv_at hl 1 rfl) ?_
    refine j_if_lt (tgt := 17) hC dX9_step_6 (by decide) (by omega) ?_
    refine lv_iload_n zx zb dX9_step_9 rfl (lv_at hl 1 rfl) ?_
    refine lv_aload_n zx zb dX9_step_10 rfl (lv_at hl 0 rfl) ?_
    refine j_get hC hI hin_X9_step_X9 0 rfl rfl 13 (by decide) hfl_X9_step_93 rfl rfl dX9_step_11 ?_
    refine j_icmp_lt (tgt := 19) hC dX9_step_14 (by decide) (by omega) (by omega) (fun c14 => ?_) (fun c14 => ?_)
    · rcases pr_sw a with rfl | rfl | rfl | rfl | hsw
      · refine lv_iload_n zx zb dX9_step_19 rfl (lv_at hl 2 rfl) ?_
        refine j_if_ne (tgt := 32) hC dX9_step_20 (by decide) (by omega) (fun c20 => ?_) (fun c20 => ?_)
        · exact (by omega : False).elim
        · refine lv_aload_n zx zb dX9_step_23 rfl (lv_at hl 0 rfl) ?_
          refine j_get hC hI hin_X9_step_X9 0 rfl rfl 10 (by decide) hfl_X9_step_34 rfl rfl dX9_step_24 ?_
          refine lv_iload_n zx zb dX9_step_27 rfl (lv_at hl 1 rfl) ?_
          refine j_iald hC hI 1 rfl (by omega) (by omega) dX9_step_28 ?_
          refine lv_goto (tgt := 89) zx zb dX9_step_29 (by decide) ?_
          exact hQ _ _ _ _ _ () dX9_step_89 (hI.sub [0, 1, 2, 3, 4] rfl rfl) (Or.inl ⟨j5, hj, rfl, Or.inl ⟨rfl, rfl⟩⟩)
      · refine lv_iload_n zx zb dX9_step_19 rfl (lv_at hl 2 rfl) ?_
        refine j_if_ne (tgt := 32) hC dX9_step_20 (by decide) (by omega) (fun c20 => ?_) (fun c20 => ?_)
        · refine lv_iload_n zx zb dX9_step_32 rfl (lv_at hl 2 rfl) ?_
          refine lv_iconst (v := nI 1) zx zb dX9_step_33 (by decide) ?_
          refine j_icmp_ne (tgt := 46) hC dX9_step_34 (by decide) (by omega) (by omega) (fun c34 => ?_) (fun c34 => ?_)
          · exact (by omega : False).elim
          · refine lv_aload_n zx zb dX9_step_37 rfl (lv_at hl 0 rfl) ?_
            refine j_get hC hI hin_X9_step_X9 0 rfl rfl 11 (by decide) hfl_X9_step_37 rfl rfl dX9_step_38 ?_
            refine lv_iload_n zx zb dX9_step_41 rfl (lv_at hl 1 rfl) ?_
            refine j_iald hC hI 2 rfl (by omega) (by omega) dX9_step_42 ?_
            refine lv_goto (tgt := 89) zx zb dX9_step_43 (by decide) ?_
            exact hQ _ _ _ _ _ () dX9_step_89 (hI.sub [0, 1, 2, 3, 4] rfl rfl) (Or.inl ⟨j5, hj, rfl, Or.inr (Or.inl ⟨rfl, rfl⟩)⟩)
        · exact (by omega : False).elim
      · refine lv_iload_n zx zb dX9_step_19 rfl (lv_at hl 2 rfl) ?_
        refine j_if_ne (tgt := 32) hC dX9_step_20 (by decide) (by omega) (fun c20 => ?_) (fun c20 => ?_)
        · refine lv_iload_n zx zb dX9_step_32 rfl (lv_at hl 2 rfl) ?_
          refine lv_iconst (v := nI 1) zx zb dX9_step_33 (by decide) ?_
          refine j_icmp_ne (tgt := 46) hC dX9_step_34 (by decide) (by omega) (by omega) (fun c34 => ?_) (fun c34 => ?_)
          · refine lv_iload_n zx zb dX9_step_46 rfl (lv_at hl 2 rfl) ?_
            refine lv_iconst (v := nI 2) zx zb dX9_step_47 (by decide) ?_
            refine j_icmp_ne (tgt := 60) hC dX9_step_48 (by decide) (by omega) (by omega) (fun c48 => ?_) (fun c48 => ?_)
            · exact (by omega : False).elim
            · refine lv_aload_n zx zb dX9_step_51 rfl (lv_at hl 0 rfl) ?_
              refine j_get hC hI hin_X9_step_X9 0 rfl rfl 12 (by decide) hfl_X9_step_40 rfl rfl dX9_step_52 ?_
              refine lv_iload_n zx zb dX9_step_55 rfl (lv_at hl 1 rfl) ?_
              refine j_iald hC hI 3 rfl (by omega) (by omega) dX9_step_56 ?_
              have b56 := hsd j5 (by omega)
              refine lv_goto (tgt := 89) zx zb dX9_step_57 (by decide) ?_
              exact hQ _ _ _ _ _ () dX9_step_89 (hI.sub [0, 1, 2, 3, 4] rfl rfl) (Or.inl ⟨j5, hj, rfl, Or.inr (Or.inr (Or.inl ⟨rfl, rfl⟩))⟩)
          · exact (by omega : False).elim
        · exact (by omega : False).elim
      · refine lv_iload_n zx zb dX9_step_19 rfl (lv_at hl 2 rfl) ?_
        refine j_if_ne (tgt := 32) hC dX9_step_20 (by decide) (by omega) (fun c20 => ?_) (fun c20 => ?_)
        · refine lv_iload_n zx zb dX9_step_32 rfl (lv_at hl 2 rfl) ?_
          refine lv_iconst (v := nI 1) zx zb dX9_step_33 (by decide) ?_
          refine j_icmp_ne (tgt := 46) hC dX9_step_34 (by decide) (by omega) (by omega) (fun c34 => ?_) (fun c34 => ?_)
          · refine lv_iload_n zx zb dX9_step_46 rfl (lv_at hl 2 rfl) ?_
            refine lv_iconst (v := nI 2) zx zb dX9_step_47 (by decide) ?_
            refine j_icmp_ne (tgt := 60) hC dX9_step_48 (by decide) (by omega) (by omega) (fun c48 => ?_) (fun c48 => ?_)
            · refine lv_iload_n zx zb dX9_step_60 rfl (lv_at hl 2 rfl) ?_
              refine lv_iconst (v := nI 3) zx zb dX9_step_61 (by decide) ?_
              refine j_icmp_ne (tgt := 88) hC dX9_step_62 (by decide) (by omega) (by omega) (fun c62 => ?_) (fun c62 => ?_)
              · exact (by omega : False).elim
              · refine lv_aload_n zx zb dX9_step_65 rfl (lv_at hl 0 rfl) ?_
                refine j_get hC hI hin_X9_step_X9 0 rfl rfl 12 (by decide) hfl_X9_step_40 rfl rfl dX9_step_66 ?_
                refine lv_iload_n zx zb dX9_step_69 rfl (lv_at hl 1 rfl) ?_
                refine j_iald hC hI 3 rfl (by omega) (by omega) dX9_step_70 ?_
                have b70 := hsd j5 (by omega)
                refine j_if_ne (tgt := 88) hC dX9_step_71 (by decide) (by omega) (fun c71 => ?_) (fun c71 => ?_)
                · refine lv_iconst (v := (-1)) zx zb dX9_step_88 (by decide) ?_
                  exact hQ _ _ _ _ _ () dX9_step_89 (hI.sub [0, 1, 2, 3, 4] rfl rfl) (Or.inl ⟨j5, hj, rfl, Or.inr (Or.inr (Or.inr (Or.inr (Or.inl ⟨rfl, c71, rfl⟩))))⟩)
                · refine lv_aload_n zx zb dX9_step_74 rfl (lv_at hl 0 rfl) ?_
                  refine j_get hC hI hin_X9_step_X9 0 rfl rfl 16 (by decide) hfl_X9_step_43 rfl rfl dX9_step_75 ?_
                  refine lv_aload_n zx zb dX9_step_78 rfl (lv_at hl 0 rfl) ?_
                  refine j_get hC hI hin_X9_step_X9 0 rfl rfl 10 (by decide) hfl_X9_step_34 rfl rfl dX9_step_79 ?_
                  refine lv_iload_n zx zb dX9_step_82 rfl (lv_at hl 1 rfl) ?_
                  refine j_iald hC hI 1 rfl (by omega) (by omega) dX9_step_83 ?_
                  refine j_iald hC hI 4 rfl (by omega) (by omega) dX9_step_84 ?_
                  refine lv_goto (tgt := 89) zx zb dX9_step_85 (by decide) ?_
                  exact hQ _ _ _ _ _ () dX9_step_89 (hI.sub [0, 1, 2, 3, 4] rfl rfl) (Or.inl ⟨j5, hj, rfl, Or.inr (Or.inr (Or.inr (Or.inl ⟨rfl, c71, rfl⟩)))⟩)
            · exact (by omega : False).elim
          · exact (by omega : False).elim
        · exact (by omega : False).elim
      · have hsn := sw_no (n := 4) (by decide) hsw
        refine lv_iload_n zx zb dX9_step_19 rfl (lv_at hl 2 rfl) ?_
        refine lv_if_ne (tgt := 32) zx zb dX9_step_20 (by decide) (fun c20 => ?_) (fun c20 => ?_)
        · refine lv_iload_n zx zb dX9_step_32 rfl (lv_at hl 2 rfl) ?_
          refine lv_iconst (v := nI 1) zx zb dX9_step_33 (by decide) ?_
          refine lv_icmp_ne (tgt := 46) zx zb dX9_step_34 (by decide) (fun c34 => ?_) (fun c34 => ?_)
          · refine lv_iload_n zx zb dX9_step_46 rfl (lv_at hl 2 rfl) ?_
            refine lv_iconst (v := nI 2) zx zb dX9_step_47 (by decide) ?_
            refine lv_icmp_ne (tgt := 60) zx zb dX9_step_48 (by decide) (fun c48 => ?_) (fun c48 => ?_)
            · refine lv_iload_n zx zb dX9_step_60 rfl (lv_at hl 2 rfl) ?_
              refine lv_iconst (v := nI 3) zx zb dX9_step_61 (by decide) ?_
              refine lv_icmp_ne (tgt := 88) zx zb dX9_step_62 (by decide) (fun c62 => ?_) (fun c62 => ?_)
              · refine lv_iconst (v := (-1)) zx zb dX9_step_88 (by decide) ?_
                exact hQ _ _ _ _ _ () dX9_step_89 (hI.sub [0, 1, 2, 3, 4] rfl rfl) (Or.inl ⟨j5, hj, rfl, Or.inr (Or.inr (Or.inr (Or.inr (Or.inr ⟨hsn, rfl⟩))))⟩)
              · subst c62
                exact absurd rfl (hsn 3 (by decide))
            · subst c48
              exact absurd rfl (hsn 2 (by decide))
          · subst c34
            exact absurd rfl (hsn 1 (by decide))
        · exact absurd c20 (hsn 0 (by decide))
    · exact (by omega : False).elim
  · refine lv_iload_n zx zb dX9_step_5 rfl (lv_at hl 1 rfl) ?_
    refine jz_if_lt (tgt := 17) hC dX9_step_6 (by decide) (fun c6 => ?_) (fun j6 j6a j6e => ?_)
    · refine lv_iconst (v := (-1)) zx zb dX9_step_17 (by decide) ?_
      exact hQ _ _ _ _ _ () dX9_step_18 (hI.sub [0, 1, 2, 3, 4] rfl rfl) (Or.inr ⟨hno, rfl⟩)
    · subst j6e
      refine lv_iload_n zx zb dX9_step_9 rfl (lv_at hl 1 rfl) ?_
      refine lv_aload_n zx zb dX9_step_10 rfl (lv_at hl 0 rfl) ?_
      refine j_get hC hI hin_X9_step_X9 0 rfl rfl 13 (by decide) hfl_X9_step_93 rfl rfl dX9_step_11 ?_
      refine j_icmp_lt (tgt := 19) hC dX9_step_14 (by decide) (by omega) (by omega) (fun c14 => ?_) (fun c14 => ?_)
      · exact absurd rfl (hno j6 c14)
      · refine lv_iconst (v := (-1)) zx zb dX9_step_17 (by decide) ?_
        exact hQ _ _ _ _ _ () dX9_step_18 (hI.sub [0, 1, 2, 3, 4] rfl rfl) (Or.inr ⟨hno, rfl⟩)

theorem hin_X9_told_X9 : ∀ w ∈ wsX90, w ∈ wsX9_told := by decide +kernel
theorem hfl_X9_told_65 : Cond.fieldLink RX9 65 "CheapParseModel" "thrown" "I" ∈ wsX9_told := by decide +kernel
theorem hfl_X9_told_93 : Cond.fieldLink RX9 93 "CheapParseModel" "steps" "I" ∈ wsX9_told := by decide +kernel
theorem hfl_X9_told_96 : Cond.fieldLink RX9 96 "CheapParseModel" "price" "I" ∈ wsX9_told := by decide +kernel
theorem hfl_X9_told_99 : Cond.fieldLink RX9 99 "CheapParseModel" "bits" "I" ∈ wsX9_told := by decide +kernel
theorem hfl_X9_told_122 : Cond.fieldLink RX9 122 "CheapParseModel" "parsedSize" "I" ∈ wsX9_told := by decide +kernel
theorem hfl_X9_told_40 : Cond.fieldLink RX9 40 "CheapParseModel" "distances" "[I" ∈ wsX9_told := by decide +kernel
set_option maxHeartbeats 4000000 in
set_option maxRecDepth 100000 in
theorem c_X9_told (zl : Launch) (G : jG) (y0 : Nat) (r1 : Nat) (r2 : Nat) (r3 : Nat) (r4 : Nat) (r5 : Nat) (r6 : Nat) (r7 : Nat) (r8 : Nat) (r9 : Nat) (r10 : Nat) (r11 : Nat) (r12 : Nat) (r13 : Nat) (n : Nat) (la : Nat) (lm : Nat) (lw : Nat) (kn : Nat) (k : Nat) (wp : Nat) (bt : Nat) (pn : Nat) (q : Nat) (th : Nat) (os : Nat) (wz : Nat) (sz : Nat) (ia : Nat) (ft : Nat) (tz : Int32) (sd : Nat → Nat) (a : Int32) (hk : k ≤ 500) (hsd : ∀ j, j < k → sd j < 1000) : jMet zl yX9_told wsX9_told ({ frames := 0, cells := 0, slots := 0, locals := 0 }) G [oC y0 9 [.int (nI 0), .ref r1, .int (nI n), .int (nI la), .int (nI lm), .int (nI lw), .ref r2, .ref r3, .ref r4, .int (nI kn), .ref r5, .ref r6, .ref r7, .int (nI k), .int (nI wp), .int (nI bt), .ref r8, .int (nI pn), .int (nI q), .int (nI th), .ref r9, .int (nI os), .int (nI wz), .ref r10, .int (nI sz), .int (nI ia), .ref r11, .ref r12, .int tz, .ref r13, .int (nI ft)], aI G r7 500 sd] [.ref y0, .int a] (jQi G (fun (r : Int32) (u : Unit) => (tdA k (mcn sd k) wp bt pn a r)) (fun (u : Unit) => [oC y0 9 [.int (nI 0), .ref r1, .int (nI n), .int (nI la), .int (nI lm), .int (nI lw), .ref r2, .ref r3, .ref r4, .int (nI kn), .ref r5, .ref r6, .ref r7, .int (nI k), .int (nI wp), .int (nI bt), .ref r8, .int (nI pn), .int (nI q), .int (nI th), .ref r9, .int (nI os), .int (nI wz), .ref r10, .int (nI sz), .int (nI ia), .ref r11, .ref r12, .int tz, .ref r13, .int (nI ft)], aI G r7 500 sd])) 0 0 := by
  refine j_enter_i (cc := cX9_told) (nL := 4) (nm := "told") (own := RX9) (lv := [(0, .ref y0), (1, .int a)]) (by decide) rfl (Nat.le_of_ble_eq_true rfl) rfl rfl rfl ?_
  intro zA zp ze zs zm zargs zbelow zmeth zc zQ ls hC hQ hI hl
  have zx := hC.1
  have zb := hC.2.1
  have hsd2 := hsd
  refine lv_aload_n zx zb dX9_told_0 rfl (lv_at hl 0 rfl) ?_
  refine lv_iconst (v := nI 0) zx zb dX9_told_1 (by decide) ?_
  refine j_put (w1 := [oC y0 9 [.int (nI 0), .ref r1, .int (nI n), .int (nI la), .int (nI lm), .int (nI lw), .ref r2, .ref r3, .ref r4, .int (nI kn), .ref r5, .ref r6, .ref r7, .int (nI k), .int (nI wp), .int (nI bt), .ref r8, .int (nI pn), .int (nI q), .int (nI th), .ref r9, .int (nI os), .int (nI wz), .ref r10, .int (nI sz), .int (nI ia), .ref r11, .ref r12, .int tz, .ref r13, .int (nI ft)], aI G r7 500 sd]) hC hI hin_X9_told_X9 tyX9 tyX9_ok nmX9 0 rfl rfl 0 (by decide) hfl_X9_told_65 rfl rfl rfl rfl (Nat.le_of_ble_eq_true rfl) dX9_told_2 rfl (fun H locs hI => ?_)
  refine lv_iconst (v := nI 0) zx zb dX9_told_5 (by decide) ?_
  refine lv_istore_n (lv' := [(2, .int (nI 0)), (0, .ref y0), (1, .int a)]) zx zb dX9_told_6 rfl hl (by decide) rfl (fun ls hl => ?_)
  refine lv_iconst (v := nI 0) zx zb dX9_told_7 (by decide) ?_
  refine lv_istore_n (lv' := [(3, .int (nI 0)), (2, .int (nI 0)), (0, .ref y0), (1, .int a)]) zx zb dX9_told_8 rfl hl (by decide) rfl (fun ls hl => ?_)
  have loop9 : ∀ (zn9 : Nat) (i : Nat) (m : Nat), (i ≤ k) → (m = mcn sd i) → (k - i) < zn9 → ∀ (H : Heap) (locs : List Loc) (ls : Array Slot), jI G zA zs [oC y0 9 [.int (nI 0), .ref r1, .int (nI n), .int (nI la), .int (nI lm), .int (nI lw), .ref r2, .ref r3, .ref r4, .int (nI kn), .ref r5, .ref r6, .ref r7, .int (nI k), .int (nI wp), .int (nI bt), .ref r8, .int (nI pn), .int (nI q), .int (nI th), .ref r9, .int (nI os), .int (nI wz), .ref r10, .int (nI sz), .int (nI ia), .ref r11, .ref r12, .int tz, .ref r13, .int (nI ft)], aI G r7 500 sd] H locs → lv_has ls 4 [(0, .ref y0), (1, .int a), (2, .int (nI m)), (3, .int (nI i))] → W zp zl ze ({ frames := 0, cells := 0, slots := 0, locals := 0 }) zs zm zargs zbelow zmeth zc H locs 0 0 zQ (F0 zm 9 ls []) := by
    intro zn9
    induction zn9 with
    | zero => intros; omega
    | succ zn9 ih9 =>
      intro i m hi hm zm9 H locs ls hI hl
      refine lv_iload_n zx zb dX9_told_9 rfl (lv_at hl 3 rfl) ?_
      refine lv_aload_n zx zb dX9_told_10 rfl (lv_at hl 0 rfl) ?_
      refine j_get hC hI hin_X9_told_X9 0 rfl rfl 13 (by decide) hfl_X9_told_93 rfl rfl dX9_told_11 ?_
      refine j_icmp_ge (tgt := 40) hC dX9_told_14 (by decide) (by omega) (by omega) (fun c14 => ?_) (fun c14 => ?_)
      · have ek : i = k := by omega
        rw [ek] at hm
        rcases td_sw a with rfl | rfl | rfl | rfl | rfl | hsw
        · refine lv_iload_n zx zb dX9_told_40 rfl (lv_at hl 1 rfl) ?_
          refine j_if_ne (tgt := 51) hC dX9_told_41 (by decide) (by omega) (fun c41 => ?_) (fun c41 => ?_)
          · exact (by omega : False).elim
          · refine lv_aload_n zx zb dX9_told_44 rfl (lv_at hl 0 rfl) ?_
            refine j_get hC hI hin_X9_told_X9 0 rfl rfl 13 (by decide) hfl_X9_told_93 rfl rfl dX9_told_45 ?_
            refine lv_goto (tgt := 97) zx zb dX9_told_48 (by decide) ?_
            exact hQ _ _ _ _ _ () dX9_told_97 (hI.sub [0, 1] rfl rfl) (Or.inl ⟨rfl, rfl⟩)
        · refine lv_iload_n zx zb dX9_told_40 rfl (lv_at hl 1 rfl) ?_
          refine j_if_ne (tgt := 51) hC dX9_told_41 (by decide) (by omega) (fun c41 => ?_) (fun c41 => ?_)
          · refine lv_iload_n zx zb dX9_told_51 rfl (lv_at hl 1 rfl) ?_
            refine lv_iconst (v := nI 1) zx zb dX9_told_52 (by decide) ?_
            refine j_icmp_ne (tgt := 60) hC dX9_told_53 (by decide) (by omega) (by omega) (fun c53 => ?_) (fun c53 => ?_)
            · exact (by omega : False).elim
            · refine lv_iload_n zx zb dX9_told_56 rfl (lv_at hl 2 rfl) ?_
              refine lv_goto (tgt := 97) zx zb dX9_told_57 (by decide) ?_
              exact hQ _ _ _ _ _ () dX9_told_97 (hI.sub [0, 1] rfl rfl) (Or.inr (Or.inl ⟨rfl, by rw [hm]⟩))
          · exact (by omega : False).elim
        · refine lv_iload_n zx zb dX9_told_40 rfl (lv_at hl 1 rfl) ?_
          refine j_if_ne (tgt := 51) hC dX9_told_41 (by decide) (by omega) (fun c41 => ?_) (fun c41 => ?_)
          · refine lv_iload_n zx zb dX9_told_51 rfl (lv_at hl 1 rfl) ?_
            refine lv_iconst (v := nI 1) zx zb dX9_told_52 (by decide) ?_
            refine j_icmp_ne (tgt := 60) hC dX9_told_53 (by decide) (by omega) (by omega) (fun c53 => ?_) (fun c53 => ?_)
            · refine lv_iload_n zx zb dX9_told_60 rfl (lv_at hl 1 rfl) ?_
              refine lv_iconst (v := nI 2) zx zb dX9_told_61 (by decide) ?_
              refine j_icmp_ne (tgt := 72) hC dX9_told_62 (by decide) (by omega) (by omega) (fun c62 => ?_) (fun c62 => ?_)
              · exact (by omega : False).elim
              · refine lv_aload_n zx zb dX9_told_65 rfl (lv_at hl 0 rfl) ?_
                refine j_get hC hI hin_X9_told_X9 0 rfl rfl 14 (by decide) hfl_X9_told_96 rfl rfl dX9_told_66 ?_
                refine lv_goto (tgt := 97) zx zb dX9_told_69 (by decide) ?_
                exact hQ _ _ _ _ _ () dX9_told_97 (hI.sub [0, 1] rfl rfl) (Or.inr (Or.inr (Or.inl ⟨rfl, rfl⟩)))
            · exact (by omega : False).elim
          · exact (by omega : False).elim
        · refine lv_iload_n zx zb dX9_told_40 rfl (lv_at hl 1 rfl) ?_
          refine j_if_ne (tgt := 51) hC dX9_told_41 (by decide) (by omega) (fun c41 => ?_) (fun c41 => ?_)
          · refine lv_iload_n zx zb dX9_told_51 rfl (lv_at hl 1 rfl) ?_
            refine lv_iconst (v := nI 1) zx zb dX9_told_52 (by decide) ?_
            refine j_icmp_ne (tgt := 60) hC dX9_told_53 (by decide) (by omega) (by omega) (fun c53 => ?_) (fun c53 => ?_)
            · refine lv_iload_n zx zb dX9_told_60 rfl (lv_at hl 1 rfl) ?_
              refine lv_iconst (v := nI 2) zx zb dX9_told_61 (by decide) ?_
              refine j_icmp_ne (tgt := 72) hC dX9_told_62 (by decide) (by omega) (by omega) (fun c62 => ?_) (fun c62 => ?_)
              · refine lv_iload_n zx zb dX9_told_72 rfl (lv_at hl 1 rfl) ?_
                refine lv_iconst (v := nI 3) zx zb dX9_told_73 (by decide) ?_
                refine j_icmp_ne (tgt := 84) hC dX9_told_74 (by decide) (by omega) (by omega) (fun c74 => ?_) (fun c74 => ?_)
                · exact (by omega : False).elim
                · refine lv_aload_n zx zb dX9_told_77 rfl (lv_at hl 0 rfl) ?_
                  refine j_get hC hI hin_X9_told_X9 0 rfl rfl 15 (by decide) hfl_X9_told_99 rfl rfl dX9_told_78 ?_
                  refine lv_goto (tgt := 97) zx zb dX9_told_81 (by decide) ?_
                  exact hQ _ _ _ _ _ () dX9_told_97 (hI.sub [0, 1] rfl rfl) (Or.inr (Or.inr (Or.inr (Or.inl ⟨rfl, rfl⟩))))
              · exact (by omega : False).elim
            · exact (by omega : False).elim
          · exact (by omega : False).elim
        · refine lv_iload_n zx zb dX9_told_40 rfl (lv_at hl 1 rfl) ?_
          refine j_if_ne (tgt := 51) hC dX9_told_41 (by decide) (by omega) (fun c41 => ?_) (fun c41 => ?_)
          · refine lv_iload_n zx zb dX9_told_51 rfl (lv_at hl 1 rfl) ?_
            refine lv_iconst (v := nI 1) zx zb dX9_told_52 (by decide) ?_
            refine j_icmp_ne (tgt := 60) hC dX9_told_53 (by decide) (by omega) (by omega) (fun c53 => ?_) (fun c53 => ?_)
            · refine lv_iload_n zx zb dX9_told_60 rfl (lv_at hl 1 rfl) ?_
              refine lv_iconst (v := nI 2) zx zb dX9_told_61 (by decide) ?_
              refine j_icmp_ne (tgt := 72) hC dX9_told_62 (by decide) (by omega) (by omega) (fun c62 => ?_) (fun c62 => ?_)
              · refine lv_iload_n zx zb dX9_told_72 rfl (lv_at hl 1 rfl) ?_
                refine lv_iconst (v := nI 3) zx zb dX9_told_73 (by decide) ?_
                refine j_icmp_ne (tgt := 84) hC dX9_told_74 (by decide) (by omega) (by omega) (fun c74 => ?_) (fun c74 => ?_)
                · refine lv_iload_n zx zb dX9_told_84 rfl (lv_at hl 1 rfl) ?_
                  refine lv_iconst (v := nI 4) zx zb dX9_told_85 (by decide) ?_
                  refine j_icmp_ne (tgt := 96) hC dX9_told_86 (by decide) (by omega) (by omega) (fun c86 => ?_) (fun c86 => ?_)
                  · exact (by omega : False).elim
                  · refine lv_aload_n zx zb dX9_told_89 rfl (lv_at hl 0 rfl) ?_
                    refine j_get hC hI hin_X9_told_X9 0 rfl rfl 17 (by decide) hfl_X9_told_122 rfl rfl dX9_told_90 ?_
                    refine lv_goto (tgt := 97) zx zb dX9_told_93 (by decide) ?_
                    exact hQ _ _ _ _ _ () dX9_told_97 (hI.sub [0, 1] rfl rfl) (Or.inr (Or.inr (Or.inr (Or.inr (Or.inl ⟨rfl, rfl⟩)))))
                · exact (by omega : False).elim
              · exact (by omega : False).elim
            · exact (by omega : False).elim
          · exact (by omega : False).elim
        · have hsn := sw_no (n := 5) (by decide) hsw
          refine lv_iload_n zx zb dX9_told_40 rfl (lv_at hl 1 rfl) ?_
          refine lv_if_ne (tgt := 51) zx zb dX9_told_41 (by decide) (fun c41 => ?_) (fun c41 => ?_)
          · refine lv_iload_n zx zb dX9_told_51 rfl (lv_at hl 1 rfl) ?_
            refine lv_iconst (v := nI 1) zx zb dX9_told_52 (by decide) ?_
            refine lv_icmp_ne (tgt := 60) zx zb dX9_told_53 (by decide) (fun c53 => ?_) (fun c53 => ?_)
            · refine lv_iload_n zx zb dX9_told_60 rfl (lv_at hl 1 rfl) ?_
              refine lv_iconst (v := nI 2) zx zb dX9_told_61 (by decide) ?_
              refine lv_icmp_ne (tgt := 72) zx zb dX9_told_62 (by decide) (fun c62 => ?_) (fun c62 => ?_)
              · refine lv_iload_n zx zb dX9_told_72 rfl (lv_at hl 1 rfl) ?_
                refine lv_iconst (v := nI 3) zx zb dX9_told_73 (by decide) ?_
                refine lv_icmp_ne (tgt := 84) zx zb dX9_told_74 (by decide) (fun c74 => ?_) (fun c74 => ?_)
                · refine lv_iload_n zx zb dX9_told_84 rfl (lv_at hl 1 rfl) ?_
                  refine lv_iconst (v := nI 4) zx zb dX9_told_85 (by decide) ?_
                  refine lv_icmp_ne (tgt := 96) zx zb dX9_told_86 (by decide) (fun c86 => ?_) (fun c86 => ?_)
                  · refine lv_iconst (v := (-1)) zx zb dX9_told_96 (by decide) ?_
                    exact hQ _ _ _ _ _ () dX9_told_97 (hI.sub [0, 1] rfl rfl) (Or.inr (Or.inr (Or.inr (Or.inr (Or.inr ⟨hsn, rfl⟩)))))
                  · subst c86
                    exact absurd rfl (hsn 4 (by decide))
                · subst c74
                  exact absurd rfl (hsn 3 (by decide))
              · subst c62
                exact absurd rfl (hsn 2 (by decide))
            · subst c53
              exact absurd rfl (hsn 1 (by decide))
          · exact absurd c41 (hsn 0 (by decide))
      · refine lv_aload_n zx zb dX9_told_17 rfl (lv_at hl 0 rfl) ?_
        refine j_get hC hI hin_X9_told_X9 0 rfl rfl 12 (by decide) hfl_X9_told_40 rfl rfl dX9_told_18 ?_
        refine lv_iload_n zx zb dX9_told_21 rfl (lv_at hl 3 rfl) ?_
        refine j_iald hC hI 1 rfl (by omega) (by omega) dX9_told_22 ?_
        have b22 := hsd2 i (by omega)
        refine j_if_le (tgt := 32) hC dX9_told_23 (by decide) (by omega) (fun c23 => ?_) (fun c23 => ?_)
        · refine lv_iload_n zx zb dX9_told_32 rfl (lv_at hl 2 rfl) ?_
          refine lv_istore_n (lv' := [(2, .int (nI m)), (0, .ref y0), (1, .int a), (3, .int (nI i))]) zx zb dX9_told_33 rfl hl (by decide) rfl (fun ls hl => ?_)
          refine lv_iinc (v := nI (i + 1)) (lv' := [(3, .int (nI (i + 1))), (2, .int (nI m)), (0, .ref y0), (1, .int a)]) zx zb dX9_told_34 hl (k := 3) rfl (j_inc _ _ _ (by decide)) (by decide) rfl (fun ls hl => ?_)
          refine lv_goto (tgt := 9) zx zb dX9_told_37 (by decide) ?_
          exact ih9 (i + 1) m (by omega) (by rw [mcn, if_neg (by omega), hm]) (by omega) _ _ _ hI (lv_sub hl [2, 3, 1, 0] rfl)
        · refine lv_iload_n zx zb dX9_told_26 rfl (lv_at hl 2 rfl) ?_
          refine lv_iconst (v := nI 1) zx zb dX9_told_27 (by decide) ?_
          refine j_iadd hC dX9_told_28 ?_
          refine lv_goto (tgt := 33) zx zb dX9_told_29 (by decide) ?_
          refine lv_istore_n (lv' := [(2, .int (nI (m + 1))), (0, .ref y0), (1, .int a), (3, .int (nI i))]) zx zb dX9_told_33 rfl hl (by decide) rfl (fun ls hl => ?_)
          refine lv_iinc (v := nI (i + 1)) (lv' := [(3, .int (nI (i + 1))), (2, .int (nI (m + 1))), (0, .ref y0), (1, .int a)]) zx zb dX9_told_34 hl (k := 3) rfl (j_inc _ _ _ (by decide)) (by decide) rfl (fun ls hl => ?_)
          refine lv_goto (tgt := 9) zx zb dX9_told_37 (by decide) ?_
          exact ih9 (i + 1) (m + 1) (by omega) (by rw [mcn, if_pos (by omega), hm]) (by omega) _ _ _ hI (lv_sub hl [2, 3, 1, 0] rfl)
  exact loop9 _ 0 0 (by omega) rfl (Nat.lt_succ_self _) _ _ _ hI (lv_sub hl [2, 3, 1, 0] rfl)

theorem hin_X9_at_X9 : ∀ w ∈ wsX90, w ∈ wsX9_at := by decide +kernel
theorem hfl_X9_at_65 : Cond.fieldLink RX9 65 "CheapParseModel" "thrown" "I" ∈ wsX9_at := by decide +kernel
theorem hfl_X9_at_68 : Cond.fieldLink RX9 68 "CheapParseModel" "length" "I" ∈ wsX9_at := by decide +kernel
theorem hfl_X9_at_31 : Cond.fieldLink RX9 31 "CheapParseModel" "cheapest" "[I" ∈ wsX9_at := by decide +kernel
set_option maxHeartbeats 4000000 in
set_option maxRecDepth 100000 in
theorem c_X9_at (zl : Launch) (G : jG) (y0 : Nat) (r1 : Nat) (r2 : Nat) (r3 : Nat) (r4 : Nat) (r5 : Nat) (r6 : Nat) (r7 : Nat) (r8 : Nat) (r9 : Nat) (r10 : Nat) (r11 : Nat) (r12 : Nat) (r13 : Nat) (n : Nat) (la : Nat) (lm : Nat) (lw : Nat) (kn : Nat) (k : Nat) (wp : Nat) (bt : Nat) (pn : Nat) (q : Nat) (th : Nat) (os : Nat) (wz : Nat) (sz : Nat) (ia : Nat) (ft : Nat) (tz : Int32) (T : Nat → Nat) (pp : Nat → Nat) (cm : Nat → Nat) (C : Nat → Nat) (fa : Nat → Nat) (p : Int32) (a : Int32) (hn : n ≤ 500) (hl0 : 2 ≤ la ∧ la ≤ lm ∧ lm ≤ 255 ∧ lw ≤ 500) (hT : ∀ j, j < n → T j < 256) (hpp : ∀ j, j < 26 → 1 ≤ pp j ∧ pp j ≤ 1000) (hkn : kn ≤ 1) (hk : kn ≠ 0 → (∀ p, p < n → cmO T n cm p) ∧ cTab la lm lw T n pp (ppA pp) (ppL pp) (ppD pp) C) : jMet zl yX9_at wsX9_at ({ frames := 3, cells := 0, slots := 0, locals := 71 }) G [oC y0 9 [.int (nI 0), .ref r1, .int (nI n), .int (nI la), .int (nI lm), .int (nI lw), .ref r2, .ref r3, .ref r4, .int (nI kn), .ref r5, .ref r6, .ref r7, .int (nI k), .int (nI wp), .int (nI bt), .ref r8, .int (nI pn), .int (nI q), .int (nI th), .ref r9, .int (nI os), .int (nI wz), .ref r10, .int (nI sz), .int (nI ia), .ref r11, .ref r12, .int tz, .ref r13, .int (nI ft)], aI G r1 500 T, aI G r2 26 pp, aS G r3 251502 cm, aI G r4 501 C, aI G r13 9 fa] [.ref y0, .int p, .int a] (jQi G (fun (r : Int32) (u : Nat × (Nat → Nat) × (Nat → Nat) × (Nat → Nat)) => (atA la lm lw T n pp (ppA pp) (ppL pp) (ppD pp) p a r) ∧ (u.1 ≤ 1) ∧ (u.1 ≠ 0 → (∀ p, p < n → cmO T n u.2.1 p) ∧ cTab la lm lw T n pp (ppA pp) (ppL pp) (ppD pp) u.2.2.1)) (fun (u : Nat × (Nat → Nat) × (Nat → Nat) × (Nat → Nat)) => [oC y0 9 [.int (nI 0), .ref r1, .int (nI n), .int (nI la), .int (nI lm), .int (nI lw), .ref r2, .ref r3, .ref r4, .int (nI u.1), .ref r5, .ref r6, .ref r7, .int (nI k), .int (nI wp), .int (nI bt), .ref r8, .int (nI pn), .int (nI q), .int (nI th), .ref r9, .int (nI os), .int (nI wz), .ref r10, .int (nI sz), .int (nI ia), .ref r11, .ref r12, .int tz, .ref r13, .int (nI ft)], aI G r1 500 T, aI G r2 26 pp, aS G r3 251502 u.2.1, aI G r4 501 u.2.2.1, aI G r13 9 u.2.2.2])) 0 0 := by
  refine j_enter_i (cc := cX9_at) (nL := 7) (nm := "at") (own := RX9) (lv := [(0, .ref y0), (1, .int p), (2, .int a)]) (by decide) rfl (Nat.le_of_ble_eq_true rfl) rfl rfl rfl ?_
  intro zA zp ze zs zm zargs zbelow zmeth zc zQ ls hC hQ hI hl
  have zx := hC.1
  have zb := hC.2.1
  have hpp2 := hpp
  refine lv_aload_n zx zb dX9_at_0 rfl (lv_at hl 0 rfl) ?_
  refine lv_iconst (v := nI 0) zx zb dX9_at_1 (by decide) ?_
  refine j_put (w1 := [oC y0 9 [.int (nI 0), .ref r1, .int (nI n), .int (nI la), .int (nI lm), .int (nI lw), .ref r2, .ref r3, .ref r4, .int (nI kn), .ref r5, .ref r6, .ref r7, .int (nI k), .int (nI wp), .int (nI bt), .ref r8, .int (nI pn), .int (nI q), .int (nI th), .ref r9, .int (nI os), .int (nI wz), .ref r10, .int (nI sz), .int (nI ia), .ref r11, .ref r12, .int tz, .ref r13, .int (nI ft)], aI G r1 500 T, aI G r2 26 pp, aS G r3 251502 cm, aI G r4 501 C, aI G r13 9 fa]) hC hI hin_X9_at_X9 tyX9 tyX9_ok nmX9 0 rfl rfl 0 (by decide) hfl_X9_at_65 rfl rfl rfl rfl (Nat.le_of_ble_eq_true rfl) dX9_at_2 rfl (fun H locs hI => ?_)
  rcases pr_sw a with rfl | rfl | rfl | rfl | hsw
  · refine lv_iload_n zx zb dX9_at_5 rfl (lv_at hl 2 rfl) ?_
    refine j_if_lt (tgt := 43) hC dX9_at_6 (by decide) (by omega) ?_
    refine lv_iload_n zx zb dX9_at_9 rfl (lv_at hl 2 rfl) ?_
    refine lv_iconst (v := nI 3) zx zb dX9_at_10 (by decide) ?_
    refine j_icmp_gt (tgt := 43) hC dX9_at_11 (by decide) (by omega) (by omega) (fun c11 => ?_) (fun c11 => ?_)
    · exact (by omega : False).elim
    · refine lv_iload_n zx zb dX9_at_14 rfl (lv_at hl 1 rfl) ?_
      refine jz_if_lt (tgt := 43) hC dX9_at_15 (by decide) (fun c15 => ?_) (fun j15 j15a j15e => ?_)
      · refine lv_iconst (v := nI 0) zx zb dX9_at_43 (by decide) ?_
        refine lv_istore_n (lv' := [(3, .int (nI 0)), (0, .ref y0), (1, .int p), (2, .int (nI 0))]) zx zb dX9_at_44 rfl hl (by decide) rfl (fun ls hl => ?_)
        refine lv_iload_n zx zb dX9_at_45 rfl (lv_at hl 0 rfl) ?_
        refine j_if_ne (tgt := 51) hC dX9_at_46 (by decide) (by omega) (fun c46 => ?_) (fun c46 => ?_)
        · exact (by omega : False).elim
        · refine lv_iconst (v := (-1)) zx zb dX9_at_49 (by decide) ?_
          exact hQ _ _ _ _ _ ⟨kn, cm, C, fa⟩ dX9_at_50 (hI.sub [0, 1, 2, 3, 4, 5] rfl rfl) (by (try dsimp only); exact ⟨(Or.inr (Or.inr ⟨fun j hj h => absurd (h.1 ▸ c15) (nI_lt0 (by omega)), fun j hj h => absurd (h ▸ c15) (nI_lt0 (by omega)), rfl⟩)), hkn, hk⟩)
      · subst j15e
        refine lv_iload_n zx zb dX9_at_18 rfl (lv_at hl 1 rfl) ?_
        refine lv_aload_n zx zb dX9_at_19 rfl (lv_at hl 0 rfl) ?_
        refine j_get hC hI hin_X9_at_X9 0 rfl rfl 2 (by decide) hfl_X9_at_68 rfl rfl dX9_at_20 ?_
        refine j_icmp_lt (tgt := 39) hC dX9_at_23 (by decide) (by omega) (by omega) (fun c23 => ?_) (fun c23 => ?_)
        · refine lv_iconst (v := nI 1) zx zb dX9_at_39 (by decide) ?_
          refine lv_goto (tgt := 44) zx zb dX9_at_40 (by decide) ?_
          refine lv_istore_n (lv' := [(3, .int (nI 1)), (0, .ref y0), (1, .int (nI j15)), (2, .int (nI 0))]) zx zb dX9_at_44 rfl hl (by decide) rfl (fun ls hl => ?_)
          refine lv_iload_n zx zb dX9_at_45 rfl (lv_at hl 0 rfl) ?_
          refine j_if_ne (tgt := 51) hC dX9_at_46 (by decide) (by omega) (fun c46 => ?_) (fun c46 => ?_)
          · refine lv_aload_n zx zb dX9_at_51 rfl (lv_at hl 1 rfl) ?_
            refine j_callVv (wr := []) hC hI (c_X9_know zl G y0 r1 r2 r3 r4 r5 r6 r7 r8 r9 r10 r11 r12 r13 n la lm lw kn k wp bt pn q th os wz sz ia ft tz T pp cm C fa (by omega) (by omega) (by omega) hpp (by omega) hk) (cwV 0 hC.2.2.2.2.1 gX9_at_X9_know rfl rfl rfl (by decide +kernel) ⟨Nat.le_of_ble_eq_true rfl, Nat.le_of_ble_eq_true rfl⟩) [0, 1, 2, 3, 4, 5] [] rfl rfl rfl rfl rfl rfl (q0 := 0) rfl rfl rfl hl.1 (Nat.le_of_ble_eq_true rfl) dX9_at_52 ⟨Nat.le_of_ble_eq_true rfl, Nat.le_of_ble_eq_true rfl⟩ (fun u52 H locs hp52 hI => ?_)
            obtain ⟨v52_0, v52_1, v52_2⟩ := u52
            have hI : jI G zA zs [oC y0 9 [.int (nI 0), .ref r1, .int (nI n), .int (nI la), .int (nI lm), .int (nI lw), .ref r2, .ref r3, .ref r4, .int (nI 1), .ref r5, .ref r6, .ref r7, .int (nI k), .int (nI wp), .int (nI bt), .ref r8, .int (nI pn), .int (nI q), .int (nI th), .ref r9, .int (nI os), .int (nI wz), .ref r10, .int (nI sz), .int (nI ia), .ref r11, .ref r12, .int tz, .ref r13, .int (nI ft)], aI G r1 500 T, aI G r2 26 pp, aS G r3 251502 v52_0, aI G r4 501 v52_1, aI G r13 9 v52_2] H locs := hI
            dsimp only at hp52
            obtain ⟨f52_0, f52_1⟩ := hp52
            refine lv_iload_n zx zb dX9_at_55 rfl (lv_at hl 3 rfl) ?_
            refine lv_iconst (v := nI 3) zx zb dX9_at_56 (by decide) ?_
            refine j_icmp_ne (tgt := 67) hC dX9_at_57 (by decide) (by omega) (by omega) (fun c57 => ?_) (fun c57 => ?_)
            · refine lv_aload_n zx zb dX9_at_67 rfl (lv_at hl 1 rfl) ?_
              refine lv_iload_n zx zb dX9_at_68 rfl (lv_at hl 2 rfl) ?_
              refine j_callVi (wr := [aI G r1 500 T, aI G r2 26 pp, aI G r4 501 v52_1, aI G r13 9 v52_2]) hC hI (c_X9_longestAt zl G y0 r1 r2 r3 r4 r5 r6 r7 r8 r9 r10 r11 r12 r13 n la lm lw 1 k wp bt pn q th os wz sz ia ft tz T v52_0 j15 (by omega) (by omega) (by omega) (fun h => f52_0 _ h)) (cwV 1 hC.2.2.2.2.1 gX9_at_X9_longestAt rfl rfl rfl (by decide +kernel) ⟨Nat.le_of_ble_eq_true rfl, Nat.le_of_ble_eq_true rfl⟩) [0, 3] [1, 2, 4, 5] rfl rfl rfl rfl rfl rfl (q0 := 0) rfl rfl rfl hl.1 (Nat.le_of_ble_eq_true rfl) dX9_at_69 ⟨Nat.le_of_ble_eq_true rfl, Nat.le_of_ble_eq_true rfl⟩ (fun rv69 u69 H locs hp69 hI => ?_)
              have hI : jI G zA zs [aI G r1 500 T, aI G r2 26 pp, aI G r4 501 v52_1, aI G r13 9 v52_2, oC y0 9 [.int (nI 0), .ref r1, .int (nI n), .int (nI la), .int (nI lm), .int (nI lw), .ref r2, .ref r3, .ref r4, .int (nI 1), .ref r5, .ref r6, .ref r7, .int (nI k), .int (nI wp), .int (nI bt), .ref r8, .int (nI pn), .int (nI q), .int (nI th), .ref r9, .int (nI os), .int (nI wz), .ref r10, .int (nI sz), .int (nI ia), .ref r11, .ref r12, .int tz, .ref r13, .int (nI ft)], aS G r3 251502 v52_0] H locs := hI
              subst hp69
              have hlg : lgA la lm lw T n j15 = mx (mt la lm lw T n j15) 511 := if_pos (by omega)
              have hml : mx (mt la lm lw T n j15) 511 ≤ lm := mx_le (fun d => mt_le) _
              refine lv_istore (lv' := [(4, .int (nI (lgA la lm lw T n j15))), (3, .int (nI 1)), (0, .ref y0), (1, .int (nI j15)), (2, .int (nI 0))]) zx zb dX9_at_72 hl (by decide) rfl (fun ls hl => ?_)
              refine lv_iconst (v := nI 0) zx zb dX9_at_74 (by decide) ?_
              refine lv_istore (lv' := [(5, .int (nI 0)), (4, .int (nI (lgA la lm lw T n j15))), (3, .int (nI 1)), (0, .ref y0), (1, .int (nI j15)), (2, .int (nI 0))]) zx zb dX9_at_75 hl (by decide) rfl (fun ls hl => ?_)
              refine lv_iconst (v := nI 1) zx zb dX9_at_77 (by decide) ?_
              refine lv_istore (lv' := [(6, .int (nI 1)), (5, .int (nI 0)), (4, .int (nI (lgA la lm lw T n j15))), (3, .int (nI 1)), (0, .ref y0), (1, .int (nI j15)), (2, .int (nI 0))]) zx zb dX9_at_78 hl (by decide) rfl (fun ls hl => ?_)
              have loop80 : ∀ (zn80 : Nat) (d : Nat) (m : Nat), (1 ≤ d ∧ d ≤ j15 + 1) → (m = ct (mt la lm lw T n j15) (d - 1)) → (j15 + 1 - d) < zn80 → ∀ (H : Heap) (locs : List Loc) (ls : Array Slot), jI G zA zs [oC y0 9 [.int (nI 0), .ref r1, .int (nI n), .int (nI la), .int (nI lm), .int (nI lw), .ref r2, .ref r3, .ref r4, .int (nI 1), .ref r5, .ref r6, .ref r7, .int (nI k), .int (nI wp), .int (nI bt), .ref r8, .int (nI pn), .int (nI q), .int (nI th), .ref r9, .int (nI os), .int (nI wz), .ref r10, .int (nI sz), .int (nI ia), .ref r11, .ref r12, .int tz, .ref r13, .int (nI ft)], aI G r1 500 T, aI G r2 26 pp, aS G r3 251502 v52_0, aI G r4 501 v52_1, aI G r13 9 v52_2] H locs → lv_has ls 7 [(0, .ref y0), (1, .int (nI j15)), (2, .int (nI 0)), (4, .int (nI (lgA la lm lw T n j15))), (5, .int (nI m)), (6, .int (nI d))] → W zp zl ze ({ frames := 3, cells := 0, slots := 0, locals := 71 }) zs zm zargs zbelow zmeth zc H locs 0 0 zQ (F0 zm 80 ls []) := by
                intro zn80
                induction zn80 with
                | zero => intros; omega
                | succ zn80 ih80 =>
                  intro d m hd hm zm80 H locs ls hI hl
                  have hb2 : mt la lm lw T n j15 d ≤ lm := mt_le
                  refine lv_iload zx zb dX9_at_80 (lv_at hl 5 rfl) ?_
                  refine lv_iload_n zx zb dX9_at_82 rfl (lv_at hl 1 rfl) ?_
                  refine j_icmp_gt (tgt := 113) hC dX9_at_83 (by decide) (by omega) (by omega) (fun c83 => ?_) (fun c83 => ?_)
                  · refine lv_iload_n zx zb dX9_at_113 rfl (lv_at hl 2 rfl) ?_
                    refine j_if_ne (tgt := 122) hC dX9_at_114 (by decide) (by omega) (fun c114 => ?_) (fun c114 => ?_)
                    · exact (by omega : False).elim
                    · refine lv_iload zx zb dX9_at_117 (lv_at hl 3 rfl) ?_
                      refine lv_goto (tgt := 148) zx zb dX9_at_119 (by decide) ?_
                      exact hQ _ _ _ _ _ ⟨1, v52_0, v52_1, v52_2⟩ dX9_at_148 (hI.sub [0, 1, 2, 3, 4, 5] rfl rfl) (by (try dsimp only); exact ⟨(Or.inr (Or.inl ⟨j15, c23, rfl, Or.inl ⟨rfl, by rw [hlg]⟩⟩)), (by omega), (fun _ => ⟨f52_0, f52_1⟩)⟩)
                  · refine lv_aload_n zx zb dX9_at_86 rfl (lv_at hl 0 rfl) ?_
                    refine lv_iload_n zx zb dX9_at_87 rfl (lv_at hl 1 rfl) ?_
                    refine lv_iload zx zb dX9_at_88 (lv_at hl 5 rfl) ?_
                    refine j_callVi (wr := [aI G r1 500 T, aI G r2 26 pp, aI G r4 501 v52_1, aI G r13 9 v52_2]) hC hI (c_X9_longest zl G y0 r1 r2 r3 r4 r5 r6 r7 r8 r9 r10 r11 r12 r13 n la lm lw 1 k wp bt pn q th os wz sz ia ft tz T v52_0 j15 d (by omega) (by omega) (by omega) (by omega) (f52_0 _ (by omega))) (cwV 2 hC.2.2.2.2.1 gX9_at_X9_longest rfl rfl rfl (by decide +kernel) ⟨Nat.le_of_ble_eq_true rfl, Nat.le_of_ble_eq_true rfl⟩) [0, 3] [1, 2, 4, 5] rfl rfl rfl rfl rfl rfl (q0 := 0) rfl rfl rfl hl.1 (Nat.le_of_ble_eq_true rfl) dX9_at_90 ⟨Nat.le_of_ble_eq_true rfl, Nat.le_of_ble_eq_true rfl⟩ (fun rv90 u90 H locs hp90 hI => ?_)
                    have hI : jI G zA zs [aI G r1 500 T, aI G r2 26 pp, aI G r4 501 v52_1, aI G r13 9 v52_2, oC y0 9 [.int (nI 0), .ref r1, .int (nI n), .int (nI la), .int (nI lm), .int (nI lw), .ref r2, .ref r3, .ref r4, .int (nI 1), .ref r5, .ref r6, .ref r7, .int (nI k), .int (nI wp), .int (nI bt), .ref r8, .int (nI pn), .int (nI q), .int (nI th), .ref r9, .int (nI os), .int (nI wz), .ref r10, .int (nI sz), .int (nI ia), .ref r11, .ref r12, .int tz, .ref r13, .int (nI ft)], aS G r3 251502 v52_0] H locs := hI
                    subst hp90
                    refine j_if_le (tgt := 103) hC dX9_at_93 (by decide) (by omega) (fun c93 => ?_) (fun c93 => ?_)
                    · refine lv_iload zx zb dX9_at_103 (lv_at hl 4 rfl) ?_
                      refine lv_istore (lv' := [(5, .int (nI m)), (0, .ref y0), (1, .int (nI j15)), (2, .int (nI 0)), (4, .int (nI (lgA la lm lw T n j15))), (6, .int (nI d))]) zx zb dX9_at_105 hl (by decide) rfl (fun ls hl => ?_)
                      refine lv_iinc (v := nI (d + 1)) (lv' := [(6, .int (nI (d + 1))), (5, .int (nI m)), (0, .ref y0), (1, .int (nI j15)), (2, .int (nI 0)), (4, .int (nI (lgA la lm lw T n j15)))]) zx zb dX9_at_107 hl (k := 5) rfl (j_inc _ _ _ (by decide)) (by decide) rfl (fun ls hl => ?_)
                      refine lv_goto (tgt := 80) zx zb dX9_at_110 (by decide) ?_
                      exact ih80 (d + 1) m (by omega) (by rw [ct_at (by omega), if_pos (by omega), hm]; rfl) (by omega) _ _ _ (hI.sub [4, 0, 1, 5, 2, 3] rfl rfl) (lv_sub hl [2, 3, 4, 5, 1, 0] rfl)
                    · refine lv_iload zx zb dX9_at_96 (lv_at hl 4 rfl) ?_
                      refine lv_iconst (v := nI 1) zx zb dX9_at_98 (by decide) ?_
                      refine j_iadd hC dX9_at_99 ?_
                      refine lv_goto (tgt := 105) zx zb dX9_at_100 (by decide) ?_
                      refine lv_istore (lv' := [(5, .int (nI (m + 1))), (0, .ref y0), (1, .int (nI j15)), (2, .int (nI 0)), (4, .int (nI (lgA la lm lw T n j15))), (6, .int (nI d))]) zx zb dX9_at_105 hl (by decide) rfl (fun ls hl => ?_)
                      refine lv_iinc (v := nI (d + 1)) (lv' := [(6, .int (nI (d + 1))), (5, .int (nI (m + 1))), (0, .ref y0), (1, .int (nI j15)), (2, .int (nI 0)), (4, .int (nI (lgA la lm lw T n j15)))]) zx zb dX9_at_107 hl (k := 5) rfl (j_inc _ _ _ (by decide)) (by decide) rfl (fun ls hl => ?_)
                      refine lv_goto (tgt := 80) zx zb dX9_at_110 (by decide) ?_
                      exact ih80 (d + 1) (m + 1) (by omega) (by rw [ct_at (by omega), if_neg (by omega), hm]) (by omega) _ _ _ (hI.sub [4, 0, 1, 5, 2, 3] rfl rfl) (lv_sub hl [2, 3, 4, 5, 1, 0] rfl)
              exact loop80 _ 1 0 (by omega) rfl (Nat.lt_succ_self _) _ _ _ (hI.sub [4, 0, 1, 5, 2, 3] rfl rfl) (lv_sub hl [4, 5, 6, 2, 1, 0] rfl)
            · exact (by omega : False).elim
          · exact (by omega : False).elim
        · refine lv_iload_n zx zb dX9_at_26 rfl (lv_at hl 2 rfl) ?_
          refine lv_iconst (v := nI 3) zx zb dX9_at_27 (by decide) ?_
          refine j_icmp_ne (tgt := 43) hC dX9_at_28 (by decide) (by omega) (by omega) (fun c28 => ?_) (fun c28 => ?_)
          · refine lv_iconst (v := nI 0) zx zb dX9_at_43 (by decide) ?_
            refine lv_istore_n (lv' := [(3, .int (nI 0)), (0, .ref y0), (1, .int (nI j15)), (2, .int (nI 0))]) zx zb dX9_at_44 rfl hl (by decide) rfl (fun ls hl => ?_)
            refine lv_iload_n zx zb dX9_at_45 rfl (lv_at hl 0 rfl) ?_
            refine j_if_ne (tgt := 51) hC dX9_at_46 (by decide) (by omega) (fun c46 => ?_) (fun c46 => ?_)
            · exact (by omega : False).elim
            · refine lv_iconst (v := (-1)) zx zb dX9_at_49 (by decide) ?_
              exact hQ _ _ _ _ _ ⟨kn, cm, C, fa⟩ dX9_at_50 (hI.sub [0, 1, 2, 3, 4, 5] rfl rfl) (by (try dsimp only); exact ⟨(Or.inr (Or.inr ⟨fun j hj h => nI_ne (by decide) (by decide) (by decide) h.2, fun j hj h => absurd (nI_inj (by omega) (by omega) h) (by omega), rfl⟩)), hkn, hk⟩)
          · exact (by omega : False).elim
  · refine lv_iload_n zx zb dX9_at_5 rfl (lv_at hl 2 rfl) ?_
    refine j_if_lt (tgt := 43) hC dX9_at_6 (by decide) (by omega) ?_
    refine lv_iload_n zx zb dX9_at_9 rfl (lv_at hl 2 rfl) ?_
    refine lv_iconst (v := nI 3) zx zb dX9_at_10 (by decide) ?_
    refine j_icmp_gt (tgt := 43) hC dX9_at_11 (by decide) (by omega) (by omega) (fun c11 => ?_) (fun c11 => ?_)
    · exact (by omega : False).elim
    · refine lv_iload_n zx zb dX9_at_14 rfl (lv_at hl 1 rfl) ?_
      refine jz_if_lt (tgt := 43) hC dX9_at_15 (by decide) (fun c15 => ?_) (fun j15 j15a j15e => ?_)
      · refine lv_iconst (v := nI 0) zx zb dX9_at_43 (by decide) ?_
        refine lv_istore_n (lv' := [(3, .int (nI 0)), (0, .ref y0), (1, .int p), (2, .int (nI 1))]) zx zb dX9_at_44 rfl hl (by decide) rfl (fun ls hl => ?_)
        refine lv_iload_n zx zb dX9_at_45 rfl (lv_at hl 0 rfl) ?_
        refine j_if_ne (tgt := 51) hC dX9_at_46 (by decide) (by omega) (fun c46 => ?_) (fun c46 => ?_)
        · exact (by omega : False).elim
        · refine lv_iconst (v := (-1)) zx zb dX9_at_49 (by decide) ?_
          exact hQ _ _ _ _ _ ⟨kn, cm, C, fa⟩ dX9_at_50 (hI.sub [0, 1, 2, 3, 4, 5] rfl rfl) (by (try dsimp only); exact ⟨(Or.inr (Or.inr ⟨fun j hj h => absurd (h.1 ▸ c15) (nI_lt0 (by omega)), fun j hj h => absurd (h ▸ c15) (nI_lt0 (by omega)), rfl⟩)), hkn, hk⟩)
      · subst j15e
        refine lv_iload_n zx zb dX9_at_18 rfl (lv_at hl 1 rfl) ?_
        refine lv_aload_n zx zb dX9_at_19 rfl (lv_at hl 0 rfl) ?_
        refine j_get hC hI hin_X9_at_X9 0 rfl rfl 2 (by decide) hfl_X9_at_68 rfl rfl dX9_at_20 ?_
        refine j_icmp_lt (tgt := 39) hC dX9_at_23 (by decide) (by omega) (by omega) (fun c23 => ?_) (fun c23 => ?_)
        · refine lv_iconst (v := nI 1) zx zb dX9_at_39 (by decide) ?_
          refine lv_goto (tgt := 44) zx zb dX9_at_40 (by decide) ?_
          refine lv_istore_n (lv' := [(3, .int (nI 1)), (0, .ref y0), (1, .int (nI j15)), (2, .int (nI 1))]) zx zb dX9_at_44 rfl hl (by decide) rfl (fun ls hl => ?_)
          refine lv_iload_n zx zb dX9_at_45 rfl (lv_at hl 0 rfl) ?_
          refine j_if_ne (tgt := 51) hC dX9_at_46 (by decide) (by omega) (fun c46 => ?_) (fun c46 => ?_)
          · refine lv_aload_n zx zb dX9_at_51 rfl (lv_at hl 1 rfl) ?_
            refine j_callVv (wr := []) hC hI (c_X9_know zl G y0 r1 r2 r3 r4 r5 r6 r7 r8 r9 r10 r11 r12 r13 n la lm lw kn k wp bt pn q th os wz sz ia ft tz T pp cm C fa (by omega) (by omega) (by omega) hpp (by omega) hk) (cwV 0 hC.2.2.2.2.1 gX9_at_X9_know rfl rfl rfl (by decide +kernel) ⟨Nat.le_of_ble_eq_true rfl, Nat.le_of_ble_eq_true rfl⟩) [0, 1, 2, 3, 4, 5] [] rfl rfl rfl rfl rfl rfl (q0 := 0) rfl rfl rfl hl.1 (Nat.le_of_ble_eq_true rfl) dX9_at_52 ⟨Nat.le_of_ble_eq_true rfl, Nat.le_of_ble_eq_true rfl⟩ (fun u52 H locs hp52 hI => ?_)
            obtain ⟨v52_0, v52_1, v52_2⟩ := u52
            have hI : jI G zA zs [oC y0 9 [.int (nI 0), .ref r1, .int (nI n), .int (nI la), .int (nI lm), .int (nI lw), .ref r2, .ref r3, .ref r4, .int (nI 1), .ref r5, .ref r6, .ref r7, .int (nI k), .int (nI wp), .int (nI bt), .ref r8, .int (nI pn), .int (nI q), .int (nI th), .ref r9, .int (nI os), .int (nI wz), .ref r10, .int (nI sz), .int (nI ia), .ref r11, .ref r12, .int tz, .ref r13, .int (nI ft)], aI G r1 500 T, aI G r2 26 pp, aS G r3 251502 v52_0, aI G r4 501 v52_1, aI G r13 9 v52_2] H locs := hI
            dsimp only at hp52
            obtain ⟨f52_0, f52_1⟩ := hp52
            refine lv_iload_n zx zb dX9_at_55 rfl (lv_at hl 3 rfl) ?_
            refine lv_iconst (v := nI 3) zx zb dX9_at_56 (by decide) ?_
            refine j_icmp_ne (tgt := 67) hC dX9_at_57 (by decide) (by omega) (by omega) (fun c57 => ?_) (fun c57 => ?_)
            · refine lv_aload_n zx zb dX9_at_67 rfl (lv_at hl 1 rfl) ?_
              refine lv_iload_n zx zb dX9_at_68 rfl (lv_at hl 2 rfl) ?_
              refine j_callVi (wr := [aI G r1 500 T, aI G r2 26 pp, aI G r4 501 v52_1, aI G r13 9 v52_2]) hC hI (c_X9_longestAt zl G y0 r1 r2 r3 r4 r5 r6 r7 r8 r9 r10 r11 r12 r13 n la lm lw 1 k wp bt pn q th os wz sz ia ft tz T v52_0 j15 (by omega) (by omega) (by omega) (fun h => f52_0 _ h)) (cwV 1 hC.2.2.2.2.1 gX9_at_X9_longestAt rfl rfl rfl (by decide +kernel) ⟨Nat.le_of_ble_eq_true rfl, Nat.le_of_ble_eq_true rfl⟩) [0, 3] [1, 2, 4, 5] rfl rfl rfl rfl rfl rfl (q0 := 0) rfl rfl rfl hl.1 (Nat.le_of_ble_eq_true rfl) dX9_at_69 ⟨Nat.le_of_ble_eq_true rfl, Nat.le_of_ble_eq_true rfl⟩ (fun rv69 u69 H locs hp69 hI => ?_)
              have hI : jI G zA zs [aI G r1 500 T, aI G r2 26 pp, aI G r4 501 v52_1, aI G r13 9 v52_2, oC y0 9 [.int (nI 0), .ref r1, .int (nI n), .int (nI la), .int (nI lm), .int (nI lw), .ref r2, .ref r3, .ref r4, .int (nI 1), .ref r5, .ref r6, .ref r7, .int (nI k), .int (nI wp), .int (nI bt), .ref r8, .int (nI pn), .int (nI q), .int (nI th), .ref r9, .int (nI os), .int (nI wz), .ref r10, .int (nI sz), .int (nI ia), .ref r11, .ref r12, .int tz, .ref r13, .int (nI ft)], aS G r3 251502 v52_0] H locs := hI
              subst hp69
              have hlg : lgA la lm lw T n j15 = mx (mt la lm lw T n j15) 511 := if_pos (by omega)
              have hml : mx (mt la lm lw T n j15) 511 ≤ lm := mx_le (fun d => mt_le) _
              refine lv_istore (lv' := [(4, .int (nI (lgA la lm lw T n j15))), (3, .int (nI 1)), (0, .ref y0), (1, .int (nI j15)), (2, .int (nI 1))]) zx zb dX9_at_72 hl (by decide) rfl (fun ls hl => ?_)
              refine lv_iconst (v := nI 0) zx zb dX9_at_74 (by decide) ?_
              refine lv_istore (lv' := [(5, .int (nI 0)), (4, .int (nI (lgA la lm lw T n j15))), (3, .int (nI 1)), (0, .ref y0), (1, .int (nI j15)), (2, .int (nI 1))]) zx zb dX9_at_75 hl (by decide) rfl (fun ls hl => ?_)
              refine lv_iconst (v := nI 1) zx zb dX9_at_77 (by decide) ?_
              refine lv_istore (lv' := [(6, .int (nI 1)), (5, .int (nI 0)), (4, .int (nI (lgA la lm lw T n j15))), (3, .int (nI 1)), (0, .ref y0), (1, .int (nI j15)), (2, .int (nI 1))]) zx zb dX9_at_78 hl (by decide) rfl (fun ls hl => ?_)
              have loop80 : ∀ (zn80 : Nat) (d : Nat) (m : Nat), (1 ≤ d ∧ d ≤ j15 + 1) → (m = ct (mt la lm lw T n j15) (d - 1)) → (j15 + 1 - d) < zn80 → ∀ (H : Heap) (locs : List Loc) (ls : Array Slot), jI G zA zs [oC y0 9 [.int (nI 0), .ref r1, .int (nI n), .int (nI la), .int (nI lm), .int (nI lw), .ref r2, .ref r3, .ref r4, .int (nI 1), .ref r5, .ref r6, .ref r7, .int (nI k), .int (nI wp), .int (nI bt), .ref r8, .int (nI pn), .int (nI q), .int (nI th), .ref r9, .int (nI os), .int (nI wz), .ref r10, .int (nI sz), .int (nI ia), .ref r11, .ref r12, .int tz, .ref r13, .int (nI ft)], aI G r1 500 T, aI G r2 26 pp, aS G r3 251502 v52_0, aI G r4 501 v52_1, aI G r13 9 v52_2] H locs → lv_has ls 7 [(0, .ref y0), (1, .int (nI j15)), (2, .int (nI 1)), (4, .int (nI (lgA la lm lw T n j15))), (5, .int (nI m)), (6, .int (nI d))] → W zp zl ze ({ frames := 3, cells := 0, slots := 0, locals := 71 }) zs zm zargs zbelow zmeth zc H locs 0 0 zQ (F0 zm 80 ls []) := by
                intro zn80
                induction zn80 with
                | zero => intros; omega
                | succ zn80 ih80 =>
                  intro d m hd hm zm80 H locs ls hI hl
                  have hb2 : mt la lm lw T n j15 d ≤ lm := mt_le
                  refine lv_iload zx zb dX9_at_80 (lv_at hl 5 rfl) ?_
                  refine lv_iload_n zx zb dX9_at_82 rfl (lv_at hl 1 rfl) ?_
                  refine j_icmp_gt (tgt := 113) hC dX9_at_83 (by decide) (by omega) (by omega) (fun c83 => ?_) (fun c83 => ?_)
                  · refine lv_iload_n zx zb dX9_at_113 rfl (lv_at hl 2 rfl) ?_
                    refine j_if_ne (tgt := 122) hC dX9_at_114 (by decide) (by omega) (fun c114 => ?_) (fun c114 => ?_)
                    · refine lv_iload_n zx zb dX9_at_122 rfl (lv_at hl 2 rfl) ?_
                      refine lv_iconst (v := nI 2) zx zb dX9_at_123 (by decide) ?_
                      refine j_icmp_ne (tgt := 132) hC dX9_at_124 (by decide) (by omega) (by omega) (fun c124 => ?_) (fun c124 => ?_)
                      · refine lv_iload zx zb dX9_at_132 (lv_at hl 3 rfl) ?_
                        refine j_if_ne (tgt := 141) hC dX9_at_134 (by decide) (by omega) (fun c134 => ?_) (fun c134 => ?_)
                        · obtain ⟨d0, z1, z2, z3, z4, z5⟩ := mx_mt (la := la) (lm := lm) (lw := lw) (T := T) (n := n) (p := j15) (by omega)
                          refine lv_aload_n zx zb dX9_at_141 rfl (lv_at hl 0 rfl) ?_
                          refine lv_iload_n zx zb dX9_at_142 rfl (lv_at hl 1 rfl) ?_
                          refine lv_iload zx zb dX9_at_143 (lv_at hl 3 rfl) ?_
                          refine j_callVi (wr := [aI G r1 500 T, aI G r2 26 pp, aI G r4 501 v52_1, aI G r13 9 v52_2]) hC hI (c_X9_nearestOf zl G y0 r1 r2 r3 r4 r5 r6 r7 r8 r9 r10 r11 r12 r13 n la lm lw 1 k wp bt pn q th os wz sz ia ft tz T v52_0 j15 (lgA la lm lw T n j15) d0 (by omega) (by omega) (by omega) (f52_0 _ (by omega)) (by omega) ⟨z1, z2, by rw [hlg]; exact z4⟩) (cwV 2 hC.2.2.2.2.1 gX9_at_X9_nearestOf rfl rfl rfl (by decide +kernel) ⟨Nat.le_of_ble_eq_true rfl, Nat.le_of_ble_eq_true rfl⟩) [0, 3] [1, 2, 4, 5] rfl rfl rfl rfl rfl rfl (q0 := 0) rfl rfl rfl hl.1 (Nat.le_of_ble_eq_true rfl) dX9_at_145 ⟨Nat.le_of_ble_eq_true rfl, Nat.le_of_ble_eq_true rfl⟩ (fun rv145 u145 H locs hp145 hI => ?_)
                          obtain ⟨v145_0, rfl⟩ : ∃ z, z = u145 := ⟨_, rfl⟩
                          have hI : jI G zA zs [aI G r1 500 T, aI G r2 26 pp, aI G r4 501 v52_1, aI G r13 9 v52_2, oC y0 9 [.int (nI 0), .ref r1, .int (nI n), .int (nI la), .int (nI lm), .int (nI lw), .ref r2, .ref r3, .ref r4, .int (nI 1), .ref r5, .ref r6, .ref r7, .int (nI k), .int (nI wp), .int (nI bt), .ref r8, .int (nI pn), .int (nI q), .int (nI th), .ref r9, .int (nI os), .int (nI wz), .ref r10, .int (nI sz), .int (nI ia), .ref r11, .ref r12, .int tz, .ref r13, .int (nI ft)], aS G r3 251502 v52_0] H locs := hI
                          obtain ⟨rfl, f145_0, f145_1⟩ := hp145
                          exact hQ _ _ _ _ _ ⟨1, v52_0, v52_1, v52_2⟩ dX9_at_148 (hI.sub [4, 0, 1, 5, 2, 3] rfl rfl) (by (try dsimp only); exact ⟨(Or.inr (Or.inl ⟨j15, c23, rfl, Or.inr (Or.inl ⟨rfl, by rw [← nrs_uniq (by omega) f145_0.1 (by rw [← hlg]; exact f145_0.2.2) (fun x h5 h6 => by rw [← hlg]; exact f145_1 x h5 h6)]⟩)⟩)), (by omega), (fun _ => ⟨f52_0, f52_1⟩)⟩)
                        · refine lv_iconst (v := nI 0) zx zb dX9_at_137 (by decide) ?_
                          refine lv_goto (tgt := 148) zx zb dX9_at_138 (by decide) ?_
                          exact hQ _ _ _ _ _ ⟨1, v52_0, v52_1, v52_2⟩ dX9_at_148 (hI.sub [0, 1, 2, 3, 4, 5] rfl rfl) (by (try dsimp only); exact ⟨(Or.inr (Or.inl ⟨j15, c23, rfl, Or.inr (Or.inl ⟨rfl, by rw [nrs_0 _ (by omega)]⟩)⟩)), (by omega), (fun _ => ⟨f52_0, f52_1⟩)⟩)
                      · exact (by omega : False).elim
                    · exact (by omega : False).elim
                  · refine lv_aload_n zx zb dX9_at_86 rfl (lv_at hl 0 rfl) ?_
                    refine lv_iload_n zx zb dX9_at_87 rfl (lv_at hl 1 rfl) ?_
                    refine lv_iload zx zb dX9_at_88 (lv_at hl 5 rfl) ?_
                    refine j_callVi (wr := [aI G r1 500 T, aI G r2 26 pp, aI G r4 501 v52_1, aI G r13 9 v52_2]) hC hI (c_X9_longest zl G y0 r1 r2 r3 r4 r5 r6 r7 r8 r9 r10 r11 r12 r13 n la lm lw 1 k wp bt pn q th os wz sz ia ft tz T v52_0 j15 d (by omega) (by omega) (by omega) (by omega) (f52_0 _ (by omega))) (cwV 2 hC.2.2.2.2.1 gX9_at_X9_longest rfl rfl rfl (by decide +kernel) ⟨Nat.le_of_ble_eq_true rfl, Nat.le_of_ble_eq_true rfl⟩) [0, 3] [1, 2, 4, 5] rfl rfl rfl rfl rfl rfl (q0 := 0) rfl rfl rfl hl.1 (Nat.le_of_ble_eq_true rfl) dX9_at_90 ⟨Nat.le_of_ble_eq_true rfl, Nat.le_of_ble_eq_true rfl⟩ (fun rv90 u90 H locs hp90 hI => ?_)
                    have hI : jI G zA zs [aI G r1 500 T, aI G r2 26 pp, aI G r4 501 v52_1, aI G r13 9 v52_2, oC y0 9 [.int (nI 0), .ref r1, .int (nI n), .int (nI la), .int (nI lm), .int (nI lw), .ref r2, .ref r3, .ref r4, .int (nI 1), .ref r5, .ref r6, .ref r7, .int (nI k), .int (nI wp), .int (nI bt), .ref r8, .int (nI pn), .int (nI q), .int (nI th), .ref r9, .int (nI os), .int (nI wz), .ref r10, .int (nI sz), .int (nI ia), .ref r11, .ref r12, .int tz, .ref r13, .int (nI ft)], aS G r3 251502 v52_0] H locs := hI
                    subst hp90
                    refine j_if_le (tgt := 103) hC dX9_at_93 (by decide) (by omega) (fun c93 => ?_) (fun c93 => ?_)
                    · refine lv_iload zx zb dX9_at_103 (lv_at hl 4 rfl) ?_
                      refine lv_istore (lv' := [(5, .int (nI m)), (0, .ref y0), (1, .int (nI j15)), (2, .int (nI 1)), (4, .int (nI (lgA la lm lw T n j15))), (6, .int (nI d))]) zx zb dX9_at_105 hl (by decide) rfl (fun ls hl => ?_)
                      refine lv_iinc (v := nI (d + 1)) (lv' := [(6, .int (nI (d + 1))), (5, .int (nI m)), (0, .ref y0), (1, .int (nI j15)), (2, .int (nI 1)), (4, .int (nI (lgA la lm lw T n j15)))]) zx zb dX9_at_107 hl (k := 5) rfl (j_inc _ _ _ (by decide)) (by decide) rfl (fun ls hl => ?_)
                      refine lv_goto (tgt := 80) zx zb dX9_at_110 (by decide) ?_
                      exact ih80 (d + 1) m (by omega) (by rw [ct_at (by omega), if_pos (by omega), hm]; rfl) (by omega) _ _ _ (hI.sub [4, 0, 1, 5, 2, 3] rfl rfl) (lv_sub hl [2, 3, 4, 5, 1, 0] rfl)
                    · refine lv_iload zx zb dX9_at_96 (lv_at hl 4 rfl) ?_
                      refine lv_iconst (v := nI 1) zx zb dX9_at_98 (by decide) ?_
                      refine j_iadd hC dX9_at_99 ?_
                      refine lv_goto (tgt := 105) zx zb dX9_at_100 (by decide) ?_
                      refine lv_istore (lv' := [(5, .int (nI (m + 1))), (0, .ref y0), (1, .int (nI j15)), (2, .int (nI 1)), (4, .int (nI (lgA la lm lw T n j15))), (6, .int (nI d))]) zx zb dX9_at_105 hl (by decide) rfl (fun ls hl => ?_)
                      refine lv_iinc (v := nI (d + 1)) (lv' := [(6, .int (nI (d + 1))), (5, .int (nI (m + 1))), (0, .ref y0), (1, .int (nI j15)), (2, .int (nI 1)), (4, .int (nI (lgA la lm lw T n j15)))]) zx zb dX9_at_107 hl (k := 5) rfl (j_inc _ _ _ (by decide)) (by decide) rfl (fun ls hl => ?_)
                      refine lv_goto (tgt := 80) zx zb dX9_at_110 (by decide) ?_
                      exact ih80 (d + 1) (m + 1) (by omega) (by rw [ct_at (by omega), if_neg (by omega), hm]) (by omega) _ _ _ (hI.sub [4, 0, 1, 5, 2, 3] rfl rfl) (lv_sub hl [2, 3, 4, 5, 1, 0] rfl)
              exact loop80 _ 1 0 (by omega) rfl (Nat.lt_succ_self _) _ _ _ (hI.sub [4, 0, 1, 5, 2, 3] rfl rfl) (lv_sub hl [4, 5, 6, 2, 1, 0] rfl)
            · exact (by omega : False).elim
          · exact (by omega : False).elim
        · refine lv_iload_n zx zb dX9_at_26 rfl (lv_at hl 2 rfl) ?_
          refine lv_iconst (v := nI 3) zx zb dX9_at_27 (by decide) ?_
          refine j_icmp_ne (tgt := 43) hC dX9_at_28 (by decide) (by omega) (by omega) (fun c28 => ?_) (fun c28 => ?_)
          · refine lv_iconst (v := nI 0) zx zb dX9_at_43 (by decide) ?_
            refine lv_istore_n (lv' := [(3, .int (nI 0)), (0, .ref y0), (1, .int (nI j15)), (2, .int (nI 1))]) zx zb dX9_at_44 rfl hl (by decide) rfl (fun ls hl => ?_)
            refine lv_iload_n zx zb dX9_at_45 rfl (lv_at hl 0 rfl) ?_
            refine j_if_ne (tgt := 51) hC dX9_at_46 (by decide) (by omega) (fun c46 => ?_) (fun c46 => ?_)
            · exact (by omega : False).elim
            · refine lv_iconst (v := (-1)) zx zb dX9_at_49 (by decide) ?_
              exact hQ _ _ _ _ _ ⟨kn, cm, C, fa⟩ dX9_at_50 (hI.sub [0, 1, 2, 3, 4, 5] rfl rfl) (by (try dsimp only); exact ⟨(Or.inr (Or.inr ⟨fun j hj h => nI_ne (by decide) (by decide) (by decide) h.2, fun j hj h => absurd (nI_inj (by omega) (by omega) h) (by omega), rfl⟩)), hkn, hk⟩)
          · exact (by omega : False).elim
  · refine lv_iload_n zx zb dX9_at_5 rfl (lv_at hl 2 rfl) ?_
    refine j_if_lt (tgt := 43) hC dX9_at_6 (by decide) (by omega) ?_
    refine lv_iload_n zx zb dX9_at_9 rfl (lv_at hl 2 rfl) ?_
    refine lv_iconst (v := nI 3) zx zb dX9_at_10 (by decide) ?_
    refine j_icmp_gt (tgt := 43) hC dX9_at_11 (by decide) (by omega) (by omega) (fun c11 => ?_) (fun c11 => ?_)
    · exact (by omega : False).elim
    · refine lv_iload_n zx zb dX9_at_14 rfl (lv_at hl 1 rfl) ?_
      refine jz_if_lt (tgt := 43) hC dX9_at_15 (by decide) (fun c15 => ?_) (fun j15 j15a j15e => ?_)
      · refine lv_iconst (v := nI 0) zx zb dX9_at_43 (by decide) ?_
        refine lv_istore_n (lv' := [(3, .int (nI 0)), (0, .ref y0), (1, .int p), (2, .int (nI 2))]) zx zb dX9_at_44 rfl hl (by decide) rfl (fun ls hl => ?_)
        refine lv_iload_n zx zb dX9_at_45 rfl (lv_at hl 0 rfl) ?_
        refine j_if_ne (tgt := 51) hC dX9_at_46 (by decide) (by omega) (fun c46 => ?_) (fun c46 => ?_)
        · exact (by omega : False).elim
        · refine lv_iconst (v := (-1)) zx zb dX9_at_49 (by decide) ?_
          exact hQ _ _ _ _ _ ⟨kn, cm, C, fa⟩ dX9_at_50 (hI.sub [0, 1, 2, 3, 4, 5] rfl rfl) (by (try dsimp only); exact ⟨(Or.inr (Or.inr ⟨fun j hj h => absurd (h.1 ▸ c15) (nI_lt0 (by omega)), fun j hj h => absurd (h ▸ c15) (nI_lt0 (by omega)), rfl⟩)), hkn, hk⟩)
      · subst j15e
        refine lv_iload_n zx zb dX9_at_18 rfl (lv_at hl 1 rfl) ?_
        refine lv_aload_n zx zb dX9_at_19 rfl (lv_at hl 0 rfl) ?_
        refine j_get hC hI hin_X9_at_X9 0 rfl rfl 2 (by decide) hfl_X9_at_68 rfl rfl dX9_at_20 ?_
        refine j_icmp_lt (tgt := 39) hC dX9_at_23 (by decide) (by omega) (by omega) (fun c23 => ?_) (fun c23 => ?_)
        · refine lv_iconst (v := nI 1) zx zb dX9_at_39 (by decide) ?_
          refine lv_goto (tgt := 44) zx zb dX9_at_40 (by decide) ?_
          refine lv_istore_n (lv' := [(3, .int (nI 1)), (0, .ref y0), (1, .int (nI j15)), (2, .int (nI 2))]) zx zb dX9_at_44 rfl hl (by decide) rfl (fun ls hl => ?_)
          refine lv_iload_n zx zb dX9_at_45 rfl (lv_at hl 0 rfl) ?_
          refine j_if_ne (tgt := 51) hC dX9_at_46 (by decide) (by omega) (fun c46 => ?_) (fun c46 => ?_)
          · refine lv_aload_n zx zb dX9_at_51 rfl (lv_at hl 1 rfl) ?_
            refine j_callVv (wr := []) hC hI (c_X9_know zl G y0 r1 r2 r3 r4 r5 r6 r7 r8 r9 r10 r11 r12 r13 n la lm lw kn k wp bt pn q th os wz sz ia ft tz T pp cm C fa (by omega) (by omega) (by omega) hpp (by omega) hk) (cwV 0 hC.2.2.2.2.1 gX9_at_X9_know rfl rfl rfl (by decide +kernel) ⟨Nat.le_of_ble_eq_true rfl, Nat.le_of_ble_eq_true rfl⟩) [0, 1, 2, 3, 4, 5] [] rfl rfl rfl rfl rfl rfl (q0 := 0) rfl rfl rfl hl.1 (Nat.le_of_ble_eq_true rfl) dX9_at_52 ⟨Nat.le_of_ble_eq_true rfl, Nat.le_of_ble_eq_true rfl⟩ (fun u52 H locs hp52 hI => ?_)
            obtain ⟨v52_0, v52_1, v52_2⟩ := u52
            have hI : jI G zA zs [oC y0 9 [.int (nI 0), .ref r1, .int (nI n), .int (nI la), .int (nI lm), .int (nI lw), .ref r2, .ref r3, .ref r4, .int (nI 1), .ref r5, .ref r6, .ref r7, .int (nI k), .int (nI wp), .int (nI bt), .ref r8, .int (nI pn), .int (nI q), .int (nI th), .ref r9, .int (nI os), .int (nI wz), .ref r10, .int (nI sz), .int (nI ia), .ref r11, .ref r12, .int tz, .ref r13, .int (nI ft)], aI G r1 500 T, aI G r2 26 pp, aS G r3 251502 v52_0, aI G r4 501 v52_1, aI G r13 9 v52_2] H locs := hI
            dsimp only at hp52
            obtain ⟨f52_0, f52_1⟩ := hp52
            refine lv_iload_n zx zb dX9_at_55 rfl (lv_at hl 3 rfl) ?_
            refine lv_iconst (v := nI 3) zx zb dX9_at_56 (by decide) ?_
            refine j_icmp_ne (tgt := 67) hC dX9_at_57 (by decide) (by omega) (by omega) (fun c57 => ?_) (fun c57 => ?_)
            · refine lv_aload_n zx zb dX9_at_67 rfl (lv_at hl 1 rfl) ?_
              refine lv_iload_n zx zb dX9_at_68 rfl (lv_at hl 2 rfl) ?_
              refine j_callVi (wr := [aI G r1 500 T, aI G r2 26 pp, aI G r4 501 v52_1, aI G r13 9 v52_2]) hC hI (c_X9_longestAt zl G y0 r1 r2 r3 r4 r5 r6 r7 r8 r9 r10 r11 r12 r13 n la lm lw 1 k wp bt pn q th os wz sz ia ft tz T v52_0 j15 (by omega) (by omega) (by omega) (fun h => f52_0 _ h)) (cwV 1 hC.2.2.2.2.1 gX9_at_X9_longestAt rfl rfl rfl (by decide +kernel) ⟨Nat.le_of_ble_eq_true rfl, Nat.le_of_ble_eq_true rfl⟩) [0, 3] [1, 2, 4, 5] rfl rfl rfl rfl rfl rfl (q0 := 0) rfl rfl rfl hl.1 (Nat.le_of_ble_eq_true rfl) dX9_at_69 ⟨Nat.le_of_ble_eq_true rfl, Nat.le_of_ble_eq_true rfl⟩ (fun rv69 u69 H locs hp69 hI => ?_)
              have hI : jI G zA zs [aI G r1 500 T, aI G r2 26 pp, aI G r4 501 v52_1, aI G r13 9 v52_2, oC y0 9 [.int (nI 0), .ref r1, .int (nI n), .int (nI la), .int (nI lm), .int (nI lw), .ref r2, .ref r3, .ref r4, .int (nI 1), .ref r5, .ref r6, .ref r7, .int (nI k), .int (nI wp), .int (nI bt), .ref r8, .int (nI pn), .int (nI q), .int (nI th), .ref r9, .int (nI os), .int (nI wz), .ref r10, .int (nI sz), .int (nI ia), .ref r11, .ref r12, .int tz, .ref r13, .int (nI ft)], aS G r3 251502 v52_0] H locs := hI
              subst hp69
              have hlg : lgA la lm lw T n j15 = mx (mt la lm lw T n j15) 511 := if_pos (by omega)
              have hml : mx (mt la lm lw T n j15) 511 ≤ lm := mx_le (fun d => mt_le) _
              refine lv_istore (lv' := [(4, .int (nI (lgA la lm lw T n j15))), (3, .int (nI 1)), (0, .ref y0), (1, .int (nI j15)), (2, .int (nI 2))]) zx zb dX9_at_72 hl (by decide) rfl (fun ls hl => ?_)
              refine lv_iconst (v := nI 0) zx zb dX9_at_74 (by decide) ?_
              refine lv_istore (lv' := [(5, .int (nI 0)), (4, .int (nI (lgA la lm lw T n j15))), (3, .int (nI 1)), (0, .ref y0), (1, .int (nI j15)), (2, .int (nI 2))]) zx zb dX9_at_75 hl (by decide) rfl (fun ls hl => ?_)
              refine lv_iconst (v := nI 1) zx zb dX9_at_77 (by decide) ?_
              refine lv_istore (lv' := [(6, .int (nI 1)), (5, .int (nI 0)), (4, .int (nI (lgA la lm lw T n j15))), (3, .int (nI 1)), (0, .ref y0), (1, .int (nI j15)), (2, .int (nI 2))]) zx zb dX9_at_78 hl (by decide) rfl (fun ls hl => ?_)
              have loop80 : ∀ (zn80 : Nat) (d : Nat) (m : Nat), (1 ≤ d ∧ d ≤ j15 + 1) → (m = ct (mt la lm lw T n j15) (d - 1)) → (j15 + 1 - d) < zn80 → ∀ (H : Heap) (locs : List Loc) (ls : Array Slot), jI G zA zs [oC y0 9 [.int (nI 0), .ref r1, .int (nI n), .int (nI la), .int (nI lm), .int (nI lw), .ref r2, .ref r3, .ref r4, .int (nI 1), .ref r5, .ref r6, .ref r7, .int (nI k), .int (nI wp), .int (nI bt), .ref r8, .int (nI pn), .int (nI q), .int (nI th), .ref r9, .int (nI os), .int (nI wz), .ref r10, .int (nI sz), .int (nI ia), .ref r11, .ref r12, .int tz, .ref r13, .int (nI ft)], aI G r1 500 T, aI G r2 26 pp, aS G r3 251502 v52_0, aI G r4 501 v52_1, aI G r13 9 v52_2] H locs → lv_has ls 7 [(0, .ref y0), (1, .int (nI j15)), (2, .int (nI 2)), (4, .int (nI (lgA la lm lw T n j15))), (5, .int (nI m)), (6, .int (nI d))] → W zp zl ze ({ frames := 3, cells := 0, slots := 0, locals := 71 }) zs zm zargs zbelow zmeth zc H locs 0 0 zQ (F0 zm 80 ls []) := by
                intro zn80
                induction zn80 with
                | zero => intros; omega
                | succ zn80 ih80 =>
                  intro d m hd hm zm80 H locs ls hI hl
                  have hb2 : mt la lm lw T n j15 d ≤ lm := mt_le
                  refine lv_iload zx zb dX9_at_80 (lv_at hl 5 rfl) ?_
                  refine lv_iload_n zx zb dX9_at_82 rfl (lv_at hl 1 rfl) ?_
                  refine j_icmp_gt (tgt := 113) hC dX9_at_83 (by decide) (by omega) (by omega) (fun c83 => ?_) (fun c83 => ?_)
                  · refine lv_iload_n zx zb dX9_at_113 rfl (lv_at hl 2 rfl) ?_
                    refine j_if_ne (tgt := 122) hC dX9_at_114 (by decide) (by omega) (fun c114 => ?_) (fun c114 => ?_)
                    · refine lv_iload_n zx zb dX9_at_122 rfl (lv_at hl 2 rfl) ?_
                      refine lv_iconst (v := nI 2) zx zb dX9_at_123 (by decide) ?_
                      refine j_icmp_ne (tgt := 132) hC dX9_at_124 (by decide) (by omega) (by omega) (fun c124 => ?_) (fun c124 => ?_)
                      · exact (by omega : False).elim
                      · refine lv_iload zx zb dX9_at_127 (lv_at hl 4 rfl) ?_
                        refine lv_goto (tgt := 148) zx zb dX9_at_129 (by decide) ?_
                        exact hQ _ _ _ _ _ ⟨1, v52_0, v52_1, v52_2⟩ dX9_at_148 (hI.sub [0, 1, 2, 3, 4, 5] rfl rfl) (by (try dsimp only); exact ⟨(Or.inr (Or.inl ⟨j15, c23, rfl, Or.inr (Or.inr ⟨rfl, by rw [ct_p (by omega), hm, show d - 1 = j15 by omega]⟩)⟩)), (by omega), (fun _ => ⟨f52_0, f52_1⟩)⟩)
                    · exact (by omega : False).elim
                  · refine lv_aload_n zx zb dX9_at_86 rfl (lv_at hl 0 rfl) ?_
                    refine lv_iload_n zx zb dX9_at_87 rfl (lv_at hl 1 rfl) ?_
                    refine lv_iload zx zb dX9_at_88 (lv_at hl 5 rfl) ?_
                    refine j_callVi (wr := [aI G r1 500 T, aI G r2 26 pp, aI G r4 501 v52_1, aI G r13 9 v52_2]) hC hI (c_X9_longest zl G y0 r1 r2 r3 r4 r5 r6 r7 r8 r9 r10 r11 r12 r13 n la lm lw 1 k wp bt pn q th os wz sz ia ft tz T v52_0 j15 d (by omega) (by omega) (by omega) (by omega) (f52_0 _ (by omega))) (cwV 2 hC.2.2.2.2.1 gX9_at_X9_longest rfl rfl rfl (by decide +kernel) ⟨Nat.le_of_ble_eq_true rfl, Nat.le_of_ble_eq_true rfl⟩) [0, 3] [1, 2, 4, 5] rfl rfl rfl rfl rfl rfl (q0 := 0) rfl rfl rfl hl.1 (Nat.le_of_ble_eq_true rfl) dX9_at_90 ⟨Nat.le_of_ble_eq_true rfl, Nat.le_of_ble_eq_true rfl⟩ (fun rv90 u90 H locs hp90 hI => ?_)
                    have hI : jI G zA zs [aI G r1 500 T, aI G r2 26 pp, aI G r4 501 v52_1, aI G r13 9 v52_2, oC y0 9 [.int (nI 0), .ref r1, .int (nI n), .int (nI la), .int (nI lm), .int (nI lw), .ref r2, .ref r3, .ref r4, .int (nI 1), .ref r5, .ref r6, .ref r7, .int (nI k), .int (nI wp), .int (nI bt), .ref r8, .int (nI pn), .int (nI q), .int (nI th), .ref r9, .int (nI os), .int (nI wz), .ref r10, .int (nI sz), .int (nI ia), .ref r11, .ref r12, .int tz, .ref r13, .int (nI ft)], aS G r3 251502 v52_0] H locs := hI
                    subst hp90
                    refine j_if_le (tgt := 103) hC dX9_at_93 (by decide) (by omega) (fun c93 => ?_) (fun c93 => ?_)
                    · refine lv_iload zx zb dX9_at_103 (lv_at hl 4 rfl) ?_
                      refine lv_istore (lv' := [(5, .int (nI m)), (0, .ref y0), (1, .int (nI j15)), (2, .int (nI 2)), (4, .int (nI (lgA la lm lw T n j15))), (6, .int (nI d))]) zx zb dX9_at_105 hl (by decide) rfl (fun ls hl => ?_)
                      refine lv_iinc (v := nI (d + 1)) (lv' := [(6, .int (nI (d + 1))), (5, .int (nI m)), (0, .ref y0), (1, .int (nI j15)), (2, .int (nI 2)), (4, .int (nI (lgA la lm lw T n j15)))]) zx zb dX9_at_107 hl (k := 5) rfl (j_inc _ _ _ (by decide)) (by decide) rfl (fun ls hl => ?_)
                      refine lv_goto (tgt := 80) zx zb dX9_at_110 (by decide) ?_
                      exact ih80 (d + 1) m (by omega) (by rw [ct_at (by omega), if_pos (by omega), hm]; rfl) (by omega) _ _ _ (hI.sub [4, 0, 1, 5, 2, 3] rfl rfl) (lv_sub hl [2, 3, 4, 5, 1, 0] rfl)
                    · refine lv_iload zx zb dX9_at_96 (lv_at hl 4 rfl) ?_
                      refine lv_iconst (v := nI 1) zx zb dX9_at_98 (by decide) ?_
                      refine j_iadd hC dX9_at_99 ?_
                      refine lv_goto (tgt := 105) zx zb dX9_at_100 (by decide) ?_
                      refine lv_istore (lv' := [(5, .int (nI (m + 1))), (0, .ref y0), (1, .int (nI j15)), (2, .int (nI 2)), (4, .int (nI (lgA la lm lw T n j15))), (6, .int (nI d))]) zx zb dX9_at_105 hl (by decide) rfl (fun ls hl => ?_)
                      refine lv_iinc (v := nI (d + 1)) (lv' := [(6, .int (nI (d + 1))), (5, .int (nI (m + 1))), (0, .ref y0), (1, .int (nI j15)), (2, .int (nI 2)), (4, .int (nI (lgA la lm lw T n j15)))]) zx zb dX9_at_107 hl (k := 5) rfl (j_inc _ _ _ (by decide)) (by decide) rfl (fun ls hl => ?_)
                      refine lv_goto (tgt := 80) zx zb dX9_at_110 (by decide) ?_
                      exact ih80 (d + 1) (m + 1) (by omega) (by rw [ct_at (by omega), if_neg (by omega), hm]) (by omega) _ _ _ (hI.sub [4, 0, 1, 5, 2, 3] rfl rfl) (lv_sub hl [2, 3, 4, 5, 1, 0] rfl)
              exact loop80 _ 1 0 (by omega) rfl (Nat.lt_succ_self _) _ _ _ (hI.sub [4, 0, 1, 5, 2, 3] rfl rfl) (lv_sub hl [4, 5, 6, 2, 1, 0] rfl)
            · exact (by omega : False).elim
          · exact (by omega : False).elim
        · refine lv_iload_n zx zb dX9_at_26 rfl (lv_at hl 2 rfl) ?_
          refine lv_iconst (v := nI 3) zx zb dX9_at_27 (by decide) ?_
          refine j_icmp_ne (tgt := 43) hC dX9_at_28 (by decide) (by omega) (by omega) (fun c28 => ?_) (fun c28 => ?_)
          · refine lv_iconst (v := nI 0) zx zb dX9_at_43 (by decide) ?_
            refine lv_istore_n (lv' := [(3, .int (nI 0)), (0, .ref y0), (1, .int (nI j15)), (2, .int (nI 2))]) zx zb dX9_at_44 rfl hl (by decide) rfl (fun ls hl => ?_)
            refine lv_iload_n zx zb dX9_at_45 rfl (lv_at hl 0 rfl) ?_
            refine j_if_ne (tgt := 51) hC dX9_at_46 (by decide) (by omega) (fun c46 => ?_) (fun c46 => ?_)
            · exact (by omega : False).elim
            · refine lv_iconst (v := (-1)) zx zb dX9_at_49 (by decide) ?_
              exact hQ _ _ _ _ _ ⟨kn, cm, C, fa⟩ dX9_at_50 (hI.sub [0, 1, 2, 3, 4, 5] rfl rfl) (by (try dsimp only); exact ⟨(Or.inr (Or.inr ⟨fun j hj h => nI_ne (by decide) (by decide) (by decide) h.2, fun j hj h => absurd (nI_inj (by omega) (by omega) h) (by omega), rfl⟩)), hkn, hk⟩)
          · exact (by omega : False).elim
  · refine lv_iload_n zx zb dX9_at_5 rfl (lv_at hl 2 rfl) ?_
    refine j_if_lt (tgt := 43) hC dX9_at_6 (by decide) (by omega) ?_
    refine lv_iload_n zx zb dX9_at_9 rfl (lv_at hl 2 rfl) ?_
    refine lv_iconst (v := nI 3) zx zb dX9_at_10 (by decide) ?_
    refine j_icmp_gt (tgt := 43) hC dX9_at_11 (by decide) (by omega) (by omega) (fun c11 => ?_) (fun c11 => ?_)
    · exact (by omega : False).elim
    · refine lv_iload_n zx zb dX9_at_14 rfl (lv_at hl 1 rfl) ?_
      refine jz_if_lt (tgt := 43) hC dX9_at_15 (by decide) (fun c15 => ?_) (fun j15 j15a j15e => ?_)
      · refine lv_iconst (v := nI 0) zx zb dX9_at_43 (by decide) ?_
        refine lv_istore_n (lv' := [(3, .int (nI 0)), (0, .ref y0), (1, .int p), (2, .int (nI 3))]) zx zb dX9_at_44 rfl hl (by decide) rfl (fun ls hl => ?_)
        refine lv_iload_n zx zb dX9_at_45 rfl (lv_at hl 0 rfl) ?_
        refine j_if_ne (tgt := 51) hC dX9_at_46 (by decide) (by omega) (fun c46 => ?_) (fun c46 => ?_)
        · exact (by omega : False).elim
        · refine lv_iconst (v := (-1)) zx zb dX9_at_49 (by decide) ?_
          exact hQ _ _ _ _ _ ⟨kn, cm, C, fa⟩ dX9_at_50 (hI.sub [0, 1, 2, 3, 4, 5] rfl rfl) (by (try dsimp only); exact ⟨(Or.inr (Or.inr ⟨fun j hj h => absurd (h.1 ▸ c15) (nI_lt0 (by omega)), fun j hj h => absurd (h ▸ c15) (nI_lt0 (by omega)), rfl⟩)), hkn, hk⟩)
      · subst j15e
        refine lv_iload_n zx zb dX9_at_18 rfl (lv_at hl 1 rfl) ?_
        refine lv_aload_n zx zb dX9_at_19 rfl (lv_at hl 0 rfl) ?_
        refine j_get hC hI hin_X9_at_X9 0 rfl rfl 2 (by decide) hfl_X9_at_68 rfl rfl dX9_at_20 ?_
        refine j_icmp_lt (tgt := 39) hC dX9_at_23 (by decide) (by omega) (by omega) (fun c23 => ?_) (fun c23 => ?_)
        · refine lv_iconst (v := nI 1) zx zb dX9_at_39 (by decide) ?_
          refine lv_goto (tgt := 44) zx zb dX9_at_40 (by decide) ?_
          refine lv_istore_n (lv' := [(3, .int (nI 1)), (0, .ref y0), (1, .int (nI j15)), (2, .int (nI 3))]) zx zb dX9_at_44 rfl hl (by decide) rfl (fun ls hl => ?_)
          refine lv_iload_n zx zb dX9_at_45 rfl (lv_at hl 0 rfl) ?_
          refine j_if_ne (tgt := 51) hC dX9_at_46 (by decide) (by omega) (fun c46 => ?_) (fun c46 => ?_)
          · refine lv_aload_n zx zb dX9_at_51 rfl (lv_at hl 1 rfl) ?_
            refine j_callVv (wr := []) hC hI (c_X9_know zl G y0 r1 r2 r3 r4 r5 r6 r7 r8 r9 r10 r11 r12 r13 n la lm lw kn k wp bt pn q th os wz sz ia ft tz T pp cm C fa (by omega) (by omega) (by omega) hpp (by omega) hk) (cwV 0 hC.2.2.2.2.1 gX9_at_X9_know rfl rfl rfl (by decide +kernel) ⟨Nat.le_of_ble_eq_true rfl, Nat.le_of_ble_eq_true rfl⟩) [0, 1, 2, 3, 4, 5] [] rfl rfl rfl rfl rfl rfl (q0 := 0) rfl rfl rfl hl.1 (Nat.le_of_ble_eq_true rfl) dX9_at_52 ⟨Nat.le_of_ble_eq_true rfl, Nat.le_of_ble_eq_true rfl⟩ (fun u52 H locs hp52 hI => ?_)
            obtain ⟨v52_0, v52_1, v52_2⟩ := u52
            have hI : jI G zA zs [oC y0 9 [.int (nI 0), .ref r1, .int (nI n), .int (nI la), .int (nI lm), .int (nI lw), .ref r2, .ref r3, .ref r4, .int (nI 1), .ref r5, .ref r6, .ref r7, .int (nI k), .int (nI wp), .int (nI bt), .ref r8, .int (nI pn), .int (nI q), .int (nI th), .ref r9, .int (nI os), .int (nI wz), .ref r10, .int (nI sz), .int (nI ia), .ref r11, .ref r12, .int tz, .ref r13, .int (nI ft)], aI G r1 500 T, aI G r2 26 pp, aS G r3 251502 v52_0, aI G r4 501 v52_1, aI G r13 9 v52_2] H locs := hI
            dsimp only at hp52
            obtain ⟨f52_0, f52_1⟩ := hp52
            refine lv_iload_n zx zb dX9_at_55 rfl (lv_at hl 3 rfl) ?_
            refine lv_iconst (v := nI 3) zx zb dX9_at_56 (by decide) ?_
            refine j_icmp_ne (tgt := 67) hC dX9_at_57 (by decide) (by omega) (by omega) (fun c57 => ?_) (fun c57 => ?_)
            · exact (by omega : False).elim
            · refine lv_aload_n zx zb dX9_at_60 rfl (lv_at hl 1 rfl) ?_
              refine j_get hC hI hin_X9_at_X9 0 rfl rfl 8 (by decide) hfl_X9_at_31 rfl rfl dX9_at_61 ?_
              refine lv_iload_n zx zb dX9_at_64 rfl (lv_at hl 2 rfl) ?_
              refine j_iald hC hI 4 rfl (by omega) (by omega) dX9_at_65 ?_
              exact hQ _ _ _ _ _ ⟨1, v52_0, v52_1, v52_2⟩ dX9_at_66 (hI.sub [0, 1, 2, 3, 4, 5] rfl rfl) (by (try dsimp only); exact ⟨(Or.inl ⟨j15, by omega, rfl, rfl, v52_1, f52_1, rfl⟩), (by omega), (fun _ => ⟨f52_0, f52_1⟩)⟩)
          · exact (by omega : False).elim
        · refine lv_iload_n zx zb dX9_at_26 rfl (lv_at hl 2 rfl) ?_
          refine lv_iconst (v := nI 3) zx zb dX9_at_27 (by decide) ?_
          refine j_icmp_ne (tgt := 43) hC dX9_at_28 (by decide) (by omega) (by omega) (fun c28 => ?_) (fun c28 => ?_)
          · exact (by omega : False).elim
          · refine lv_iload_n zx zb dX9_at_31 rfl (lv_at hl 1 rfl) ?_
            refine lv_aload_n zx zb dX9_at_32 rfl (lv_at hl 0 rfl) ?_
            refine j_get hC hI hin_X9_at_X9 0 rfl rfl 2 (by decide) hfl_X9_at_68 rfl rfl dX9_at_33 ?_
            refine j_icmp_ne (tgt := 43) hC dX9_at_36 (by decide) (by omega) (by omega) (fun c36 => ?_) (fun c36 => ?_)
            · refine lv_iconst (v := nI 0) zx zb dX9_at_43 (by decide) ?_
              refine lv_istore_n (lv' := [(3, .int (nI 0)), (0, .ref y0), (1, .int (nI j15)), (2, .int (nI 3))]) zx zb dX9_at_44 rfl hl (by decide) rfl (fun ls hl => ?_)
              refine lv_iload_n zx zb dX9_at_45 rfl (lv_at hl 0 rfl) ?_
              refine j_if_ne (tgt := 51) hC dX9_at_46 (by decide) (by omega) (fun c46 => ?_) (fun c46 => ?_)
              · exact (by omega : False).elim
              · refine lv_iconst (v := (-1)) zx zb dX9_at_49 (by decide) ?_
                exact hQ _ _ _ _ _ ⟨kn, cm, C, fa⟩ dX9_at_50 (hI.sub [0, 1, 2, 3, 4, 5] rfl rfl) (by (try dsimp only); exact ⟨(Or.inr (Or.inr ⟨fun j hj h => absurd (nI_inj (by omega) (by omega) h.1) (by omega), fun j hj h => absurd (nI_inj (by omega) (by omega) h) (by omega), rfl⟩)), hkn, hk⟩)
            · refine lv_iconst (v := nI 1) zx zb dX9_at_39 (by decide) ?_
              refine lv_goto (tgt := 44) zx zb dX9_at_40 (by decide) ?_
              refine lv_istore_n (lv' := [(3, .int (nI 1)), (0, .ref y0), (1, .int (nI j15)), (2, .int (nI 3))]) zx zb dX9_at_44 rfl hl (by decide) rfl (fun ls hl => ?_)
              refine lv_iload_n zx zb dX9_at_45 rfl (lv_at hl 0 rfl) ?_
              refine j_if_ne (tgt := 51) hC dX9_at_46 (by decide) (by omega) (fun c46 => ?_) (fun c46 => ?_)
              · refine lv_aload_n zx zb dX9_at_51 rfl (lv_at hl 1 rfl) ?_
                refine j_callVv (wr := []) hC hI (c_X9_know zl G y0 r1 r2 r3 r4 r5 r6 r7 r8 r9 r10 r11 r12 r13 n la lm lw kn k wp bt pn q th os wz sz ia ft tz T pp cm C fa (by omega) (by omega) (by omega) hpp (by omega) hk) (cwV 0 hC.2.2.2.2.1 gX9_at_X9_know rfl rfl rfl (by decide +kernel) ⟨Nat.le_of_ble_eq_true rfl, Nat.le_of_ble_eq_true rfl⟩) [0, 1, 2, 3, 4, 5] [] rfl rfl rfl rfl rfl rfl (q0 := 0) rfl rfl rfl hl.1 (Nat.le_of_ble_eq_true rfl) dX9_at_52 ⟨Nat.le_of_ble_eq_true rfl, Nat.le_of_ble_eq_true rfl⟩ (fun u52 H locs hp52 hI => ?_)
                obtain ⟨v52_0, v52_1, v52_2⟩ := u52
                have hI : jI G zA zs [oC y0 9 [.int (nI 0), .ref r1, .int (nI n), .int (nI la), .int (nI lm), .int (nI lw), .ref r2, .ref r3, .ref r4, .int (nI 1), .ref r5, .ref r6, .ref r7, .int (nI k), .int (nI wp), .int (nI bt), .ref r8, .int (nI pn), .int (nI q), .int (nI th), .ref r9, .int (nI os), .int (nI wz), .ref r10, .int (nI sz), .int (nI ia), .ref r11, .ref r12, .int tz, .ref r13, .int (nI ft)], aI G r1 500 T, aI G r2 26 pp, aS G r3 251502 v52_0, aI G r4 501 v52_1, aI G r13 9 v52_2] H locs := hI
                dsimp only at hp52
                obtain ⟨f52_0, f52_1⟩ := hp52
                refine lv_iload_n zx zb dX9_at_55 rfl (lv_at hl 3 rfl) ?_
                refine lv_iconst (v := nI 3) zx zb dX9_at_56 (by decide) ?_
                refine j_icmp_ne (tgt := 67) hC dX9_at_57 (by decide) (by omega) (by omega) (fun c57 => ?_) (fun c57 => ?_)
                · exact (by omega : False).elim
                · refine lv_aload_n zx zb dX9_at_60 rfl (lv_at hl 1 rfl) ?_
                  refine j_get hC hI hin_X9_at_X9 0 rfl rfl 8 (by decide) hfl_X9_at_31 rfl rfl dX9_at_61 ?_
                  refine lv_iload_n zx zb dX9_at_64 rfl (lv_at hl 2 rfl) ?_
                  refine j_iald hC hI 4 rfl (by omega) (by omega) dX9_at_65 ?_
                  exact hQ _ _ _ _ _ ⟨1, v52_0, v52_1, v52_2⟩ dX9_at_66 (hI.sub [0, 1, 2, 3, 4, 5] rfl rfl) (by (try dsimp only); exact ⟨(Or.inl ⟨j15, by omega, rfl, rfl, v52_1, f52_1, rfl⟩), (by omega), (fun _ => ⟨f52_0, f52_1⟩)⟩)
              · exact (by omega : False).elim
  · have hsn := sw_no (n := 4) (by decide) hsw
    refine lv_iload_n zx zb dX9_at_5 rfl (lv_at hl 2 rfl) ?_
    refine jz_if_lt (tgt := 43) hC dX9_at_6 (by decide) (fun c6 => ?_) (fun j6 j6a j6e => ?_)
    · refine lv_iconst (v := nI 0) zx zb dX9_at_43 (by decide) ?_
      refine lv_istore_n (lv' := [(3, .int (nI 0)), (0, .ref y0), (1, .int p), (2, .int a)]) zx zb dX9_at_44 rfl hl (by decide) rfl (fun ls hl => ?_)
      refine lv_iload_n zx zb dX9_at_45 rfl (lv_at hl 0 rfl) ?_
      refine j_if_ne (tgt := 51) hC dX9_at_46 (by decide) (by omega) (fun c46 => ?_) (fun c46 => ?_)
      · exact (by omega : False).elim
      · refine lv_iconst (v := (-1)) zx zb dX9_at_49 (by decide) ?_
        exact hQ _ _ _ _ _ ⟨kn, cm, C, fa⟩ dX9_at_50 (hI.sub [0, 1, 2, 3, 4, 5] rfl rfl) (by (try dsimp only); exact ⟨(Or.inr (Or.inr ⟨fun j hj h => hsn 3 (by decide) h.2, fun j hj h x hx => hsn x (by omega), rfl⟩)), hkn, hk⟩)
    · subst j6e
      refine lv_iload_n zx zb dX9_at_9 rfl (lv_at hl 2 rfl) ?_
      refine lv_iconst (v := nI 3) zx zb dX9_at_10 (by decide) ?_
      refine j_icmp_gt (tgt := 43) hC dX9_at_11 (by decide) (by omega) (by omega) (fun c11 => ?_) (fun c11 => ?_)
      · refine lv_iconst (v := nI 0) zx zb dX9_at_43 (by decide) ?_
        refine lv_istore_n (lv' := [(3, .int (nI 0)), (0, .ref y0), (1, .int p), (2, .int (nI j6))]) zx zb dX9_at_44 rfl hl (by decide) rfl (fun ls hl => ?_)
        refine lv_iload_n zx zb dX9_at_45 rfl (lv_at hl 0 rfl) ?_
        refine j_if_ne (tgt := 51) hC dX9_at_46 (by decide) (by omega) (fun c46 => ?_) (fun c46 => ?_)
        · exact (by omega : False).elim
        · refine lv_iconst (v := (-1)) zx zb dX9_at_49 (by decide) ?_
          exact hQ _ _ _ _ _ ⟨kn, cm, C, fa⟩ dX9_at_50 (hI.sub [0, 1, 2, 3, 4, 5] rfl rfl) (by (try dsimp only); exact ⟨(Or.inr (Or.inr ⟨fun j hj h => hsn 3 (by decide) h.2, fun j hj h x hx => hsn x (by omega), rfl⟩)), hkn, hk⟩)
      · exact absurd rfl (hsn j6 (by omega))

theorem hin_X9_put_X9 : ∀ w ∈ wsX90, w ∈ wsX9_put := by decide +kernel
theorem hfl_X9_put_46 : Cond.fieldLink RX9 46 "CheapParseModel" "out" "[Z" ∈ wsX9_put := by decide +kernel
theorem hfl_X9_put_131 : Cond.fieldLink RX9 131 "CheapParseModel" "outSize" "I" ∈ wsX9_put := by decide +kernel
set_option maxHeartbeats 4000000 in
set_option maxRecDepth 100000 in
theorem c_X9_put (zl : Launch) (G : jG) (y0 : Nat) (r1 : Nat) (r2 : Nat) (r3 : Nat) (r4 : Nat) (r5 : Nat) (r6 : Nat) (r7 : Nat) (r8 : Nat) (r9 : Nat) (r10 : Nat) (r11 : Nat) (r12 : Nat) (r13 : Nat) (n : Nat) (la : Nat) (lm : Nat) (lw : Nat) (kn : Nat) (k : Nat) (wp : Nat) (bt : Nat) (pn : Nat) (q : Nat) (th : Nat) (os : Nat) (wz : Nat) (sz : Nat) (ia : Nat) (ft : Nat) (tz : Int32) (w : Nat → Nat) (v : Nat) (m : Nat) (hm : os + m ≤ 5600) (hm2 : m ≤ 31) (hv : v < 2147483648) : jMet zl yX9_put wsX9_put ({ frames := 0, cells := 0, slots := 0, locals := 0 }) G [oC y0 9 [.int (nI 0), .ref r1, .int (nI n), .int (nI la), .int (nI lm), .int (nI lw), .ref r2, .ref r3, .ref r4, .int (nI kn), .ref r5, .ref r6, .ref r7, .int (nI k), .int (nI wp), .int (nI bt), .ref r8, .int (nI pn), .int (nI q), .int (nI th), .ref r9, .int (nI os), .int (nI wz), .ref r10, .int (nI sz), .int (nI ia), .ref r11, .ref r12, .int tz, .ref r13, .int (nI ft)], aZ G r9 5600 w] [.ref y0, .int (nI v), .int (nI m)] (jQv G (fun (u : Unit) => True) (fun (u : Unit) => [oC y0 9 [.int (nI 0), .ref r1, .int (nI n), .int (nI la), .int (nI lm), .int (nI lw), .ref r2, .ref r3, .ref r4, .int (nI kn), .ref r5, .ref r6, .ref r7, .int (nI k), .int (nI wp), .int (nI bt), .ref r8, .int (nI pn), .int (nI q), .int (nI th), .ref r9, .int (nI (os + m)), .int (nI wz), .ref r10, .int (nI sz), .int (nI ia), .ref r11, .ref r12, .int tz, .ref r13, .int (nI ft)], aZ G r9 5600 (pt v m w os)])) 0 0 := by
  refine j_enter_v (cc := cX9_put) (nL := 4) (nm := "put") (own := RX9) (lv := [(0, .ref y0), (1, .int (nI v)), (2, .int (nI m))]) (by decide) rfl (Nat.le_of_ble_eq_true rfl) rfl rfl rfl ?_
  intro zA zp ze zs zm zargs zbelow zmeth zc zQ ls hC hQ hI hl
  have zx := hC.1
  have zb := hC.2.1
  refine lv_iload_n zx zb dX9_put_0 rfl (lv_at hl 2 rfl) ?_
  refine lv_iconst (v := nI 1) zx zb dX9_put_1 (by decide) ?_
  refine j_isub1 hC dX9_put_2 ?_
  refine lv_istore_n (lv' := [(3, .int (mI m)), (0, .ref y0), (1, .int (nI v)), (2, .int (nI m))]) zx zb dX9_put_3 rfl hl (by decide) rfl (fun ls hl => ?_)
  have loop4 : ∀ (zn4 : Nat) (j : Nat) (b : Nat) (g : Nat → Nat), (b + j = os + m ∧ j ≤ 31) → (pt v j g b = pt v m w os) → j < zn4 → ∀ (H : Heap) (locs : List Loc) (ls : Array Slot), jI G zA zs [oC y0 9 [.int (nI 0), .ref r1, .int (nI n), .int (nI la), .int (nI lm), .int (nI lw), .ref r2, .ref r3, .ref r4, .int (nI kn), .ref r5, .ref r6, .ref r7, .int (nI k), .int (nI wp), .int (nI bt), .ref r8, .int (nI pn), .int (nI q), .int (nI th), .ref r9, .int (nI b), .int (nI wz), .ref r10, .int (nI sz), .int (nI ia), .ref r11, .ref r12, .int tz, .ref r13, .int (nI ft)], aZ G r9 5600 g] H locs → lv_has ls 4 [(0, .ref y0), (1, .int (nI v)), (3, .int (mI j))] → W zp zl ze ({ frames := 0, cells := 0, slots := 0, locals := 0 }) zs zm zargs zbelow zmeth zc H locs 0 0 zQ (F0 zm 4 ls []) := by
    intro zn4
    induction zn4 with
    | zero => intros; omega
    | succ zn4 ih4 =>
      intro j b g ej ew zm4 H locs ls hI hl
      refine lv_iload_n zx zb dX9_put_4 rfl (lv_at hl 2 rfl) ?_
      refine j_ifM_lt (tgt := 47) hC dX9_put_5 (by decide) (by omega) (fun c5 => ?_) (fun c5 => ?_)
      · subst c5
        have eb : b = os + m := by omega
        exact hQ _ _ _ _ () dX9_put_47 (hI.sub [0, 1] rfl (by rw [eb, ← ew]; rfl)) trivial
      · obtain ⟨j5, rfl⟩ : ∃ z, j = z + 1 := ⟨j - 1, by omega⟩
        rw [mI_s] at hl
        refine lv_aload_n zx zb dX9_put_8 rfl (lv_at hl 0 rfl) ?_
        refine j_get hC hI hin_X9_put_X9 0 rfl rfl 20 (by decide) hfl_X9_put_46 rfl rfl dX9_put_9 ?_
        refine lv_aload_n zx zb dX9_put_12 rfl (lv_at hl 0 rfl) ?_
        refine j_get hC hI hin_X9_put_X9 0 rfl rfl 21 (by decide) hfl_X9_put_131 rfl rfl dX9_put_13 ?_
        refine lv_iload_n zx zb dX9_put_16 rfl (lv_at hl 1 rfl) ?_
        refine lv_iload_n zx zb dX9_put_17 rfl (lv_at hl 2 rfl) ?_
        refine j_ishr hC (by omega) (by omega) dX9_put_18 ?_
        refine lv_iconst (v := nI 1) zx zb dX9_put_19 (by decide) ?_
        refine j_and1 hC dX9_put_20 ?_
        refine lv_iconst (v := nI 1) zx zb dX9_put_21 (by decide) ?_
        refine j_icmp_ne (tgt := 29) hC dX9_put_22 (by decide) (by omega) (by omega) (fun c22 => ?_) (fun c22 => ?_)
        · refine lv_iconst (v := nI 0) zx zb dX9_put_29 (by decide) ?_
          refine j_zast (w1 := [oC y0 9 [.int (nI 0), .ref r1, .int (nI n), .int (nI la), .int (nI lm), .int (nI lw), .ref r2, .ref r3, .ref r4, .int (nI kn), .ref r5, .ref r6, .ref r7, .int (nI k), .int (nI wp), .int (nI bt), .ref r8, .int (nI pn), .int (nI q), .int (nI th), .ref r9, .int (nI b), .int (nI wz), .ref r10, .int (nI sz), .int (nI ia), .ref r11, .ref r12, .int tz, .ref r13, .int (nI ft)], aZ G r9 5600 (up g b 0)]) hC hI 1 rfl (by omega) (by omega) (by decide) dX9_put_30 rfl (fun H locs hI => ?_)
          refine lv_aload_n zx zb dX9_put_31 rfl (lv_at hl 0 rfl) ?_
          refine lv_dup zx zb dX9_put_32 rfl ?_
          refine j_get hC hI hin_X9_put_X9 0 rfl rfl 21 (by decide) hfl_X9_put_131 rfl rfl dX9_put_33 ?_
          refine lv_iconst (v := nI 1) zx zb dX9_put_36 (by decide) ?_
          refine j_iadd hC dX9_put_37 ?_
          refine j_put (w1 := [oC y0 9 [.int (nI 0), .ref r1, .int (nI n), .int (nI la), .int (nI lm), .int (nI lw), .ref r2, .ref r3, .ref r4, .int (nI kn), .ref r5, .ref r6, .ref r7, .int (nI k), .int (nI wp), .int (nI bt), .ref r8, .int (nI pn), .int (nI q), .int (nI th), .ref r9, .int (nI (b + 1)), .int (nI wz), .ref r10, .int (nI sz), .int (nI ia), .ref r11, .ref r12, .int tz, .ref r13, .int (nI ft)], aZ G r9 5600 (up g b 0)]) hC hI hin_X9_put_X9 tyX9 tyX9_ok nmX9 0 rfl rfl 21 (by decide) hfl_X9_put_131 rfl rfl rfl rfl (Nat.le_of_ble_eq_true rfl) dX9_put_38 rfl (fun H locs hI => ?_)
          refine lv_iinc (v := mI j5) (lv' := [(3, .int (mI j5)), (0, .ref y0), (1, .int (nI v))]) zx zb dX9_put_41 hl (k := 2) rfl (j_dec _) (by decide) rfl (fun ls hl => ?_)
          refine lv_goto (tgt := 4) zx zb dX9_put_44 (by decide) ?_
          exact ih4 j5 (b + 1) (up g b 0) (by omega) (by rw [← ew, pt, show v / 2 ^ j5 % 2 = 0 by omega]) (by omega) _ _ _ hI (lv_sub hl [1, 2, 0] rfl)
        · refine lv_iconst (v := nI 1) zx zb dX9_put_25 (by decide) ?_
          refine lv_goto (tgt := 30) zx zb dX9_put_26 (by decide) ?_
          refine j_zast (w1 := [oC y0 9 [.int (nI 0), .ref r1, .int (nI n), .int (nI la), .int (nI lm), .int (nI lw), .ref r2, .ref r3, .ref r4, .int (nI kn), .ref r5, .ref r6, .ref r7, .int (nI k), .int (nI wp), .int (nI bt), .ref r8, .int (nI pn), .int (nI q), .int (nI th), .ref r9, .int (nI b), .int (nI wz), .ref r10, .int (nI sz), .int (nI ia), .ref r11, .ref r12, .int tz, .ref r13, .int (nI ft)], aZ G r9 5600 (up g b 1)]) hC hI 1 rfl (by omega) (by omega) (by decide) dX9_put_30 rfl (fun H locs hI => ?_)
          refine lv_aload_n zx zb dX9_put_31 rfl (lv_at hl 0 rfl) ?_
          refine lv_dup zx zb dX9_put_32 rfl ?_
          refine j_get hC hI hin_X9_put_X9 0 rfl rfl 21 (by decide) hfl_X9_put_131 rfl rfl dX9_put_33 ?_
          refine lv_iconst (v := nI 1) zx zb dX9_put_36 (by decide) ?_
          refine j_iadd hC dX9_put_37 ?_
          refine j_put (w1 := [oC y0 9 [.int (nI 0), .ref r1, .int (nI n), .int (nI la), .int (nI lm), .int (nI lw), .ref r2, .ref r3, .ref r4, .int (nI kn), .ref r5, .ref r6, .ref r7, .int (nI k), .int (nI wp), .int (nI bt), .ref r8, .int (nI pn), .int (nI q), .int (nI th), .ref r9, .int (nI (b + 1)), .int (nI wz), .ref r10, .int (nI sz), .int (nI ia), .ref r11, .ref r12, .int tz, .ref r13, .int (nI ft)], aZ G r9 5600 (up g b 1)]) hC hI hin_X9_put_X9 tyX9 tyX9_ok nmX9 0 rfl rfl 21 (by decide) hfl_X9_put_131 rfl rfl rfl rfl (Nat.le_of_ble_eq_true rfl) dX9_put_38 rfl (fun H locs hI => ?_)
          refine lv_iinc (v := mI j5) (lv' := [(3, .int (mI j5)), (0, .ref y0), (1, .int (nI v))]) zx zb dX9_put_41 hl (k := 2) rfl (j_dec _) (by decide) rfl (fun ls hl => ?_)
          refine lv_goto (tgt := 4) zx zb dX9_put_44 (by decide) ?_
          exact ih4 j5 (b + 1) (up g b 1) (by omega) (by rw [← ew, pt, show v / 2 ^ j5 % 2 = 1 by omega]) (by omega) _ _ _ hI (lv_sub hl [1, 2, 0] rfl)
  exact loop4 _ m os w (by omega) rfl (Nat.lt_succ_self _) _ _ _ hI (lv_sub hl [1, 2, 0] rfl)

theorem hin_X9_write_X9 : ∀ w ∈ wsX90, w ∈ wsX9_write := by decide +kernel
theorem hfl_X9_write_65 : Cond.fieldLink RX9 65 "CheapParseModel" "thrown" "I" ∈ wsX9_write := by decide +kernel
theorem hfl_X9_write_131 : Cond.fieldLink RX9 131 "CheapParseModel" "outSize" "I" ∈ wsX9_write := by decide +kernel
theorem hfl_X9_write_128 : Cond.fieldLink RX9 128 "CheapParseModel" "there" "Z" ∈ wsX9_write := by decide +kernel
theorem hfl_X9_write_122 : Cond.fieldLink RX9 122 "CheapParseModel" "parsedSize" "I" ∈ wsX9_write := by decide +kernel
theorem hfl_X9_write_93 : Cond.fieldLink RX9 93 "CheapParseModel" "steps" "I" ∈ wsX9_write := by decide +kernel
theorem hfl_X9_write_138 : Cond.fieldLink RX9 138 "CheapParseModel" "writtenSize" "I" ∈ wsX9_write := by decide +kernel
theorem hfl_X9_write_40 : Cond.fieldLink RX9 40 "CheapParseModel" "distances" "[I" ∈ wsX9_write := by decide +kernel
theorem hfl_X9_write_37 : Cond.fieldLink RX9 37 "CheapParseModel" "lengths" "[I" ∈ wsX9_write := by decide +kernel
theorem hfl_X9_write_125 : Cond.fieldLink RX9 125 "CheapParseModel" "parsedLeast" "I" ∈ wsX9_write := by decide +kernel
theorem hfl_X9_write_43 : Cond.fieldLink RX9 43 "CheapParseModel" "parsed" "[I" ∈ wsX9_write := by decide +kernel
theorem hfl_X9_write_34 : Cond.fieldLink RX9 34 "CheapParseModel" "places" "[I" ∈ wsX9_write := by decide +kernel
set_option maxHeartbeats 4000000 in
set_option maxRecDepth 100000 in
theorem c_X9_write_yes (zl : Launch) (G : jG) (y0 : Nat) (r1 : Nat) (r2 : Nat) (r3 : Nat) (r4 : Nat) (r5 : Nat) (r6 : Nat) (r7 : Nat) (r8 : Nat) (r9 : Nat) (r10 : Nat) (r11 : Nat) (r12 : Nat) (r13 : Nat) (n : Nat) (la : Nat) (lm : Nat) (lw : Nat) (kn : Nat) (k : Nat) (wp : Nat) (bt : Nat) (pn : Nat) (q : Nat) (os : Nat) (wz : Nat) (sz : Nat) (ia : Nat) (ft : Nat) (tz : Int32) (sp : Nat → Nat) (sl : Nat → Nat) (sd : Nat → Nat) (P : Nat → Nat) (w : Nat → Nat) (hk : k ≤ 500) (hn2 : pn ≤ 500) (hPb : ∀ j, j < pn → P j < 256) (ht : tile P q sp sl sd k pn) : jMet zl yX9_write wsX9_write ({ frames := 1, cells := 0, slots := 0, locals := 23 }) G [oC y0 9 [.int (nI 0), .ref r1, .int (nI n), .int (nI la), .int (nI lm), .int (nI lw), .ref r2, .ref r3, .ref r4, .int (nI kn), .ref r5, .ref r6, .ref r7, .int (nI k), .int (nI wp), .int (nI bt), .ref r8, .int (nI pn), .int (nI q), .int (nI 1), .ref r9, .int (nI os), .int (nI wz), .ref r10, .int (nI sz), .int (nI ia), .ref r11, .ref r12, .int tz, .ref r13, .int (nI ft)], aI G r5 500 sp, aI G r6 500 sl, aI G r7 500 sd, aI G r8 500 P, aZ G r9 5600 w] [.ref y0] (jQi G (fun (r : Int32) (u : Nat) => (r = nI (((wal P q sp sl sd (pt pn 16 w 0, 16) k).2 + 7) / 8))) (fun (u : Nat) => [oC y0 9 [.int (nI 0), .ref r1, .int (nI n), .int (nI la), .int (nI lm), .int (nI lw), .ref r2, .ref r3, .ref r4, .int (nI kn), .ref r5, .ref r6, .ref r7, .int (nI k), .int (nI wp), .int (nI bt), .ref r8, .int (nI pn), .int (nI q), .int (nI 1), .ref r9, .int (nI u), .int (nI (((wal P q sp sl sd (pt pn 16 w 0, 16) k).2 + 7) / 8)), .ref r10, .int (nI sz), .int (nI ia), .ref r11, .ref r12, .int tz, .ref r13, .int (nI ft)], aI G r5 500 sp, aI G r6 500 sl, aI G r7 500 sd, aI G r8 500 P, aZ G r9 5600 (pad8 (wal P q sp sl sd (pt pn 16 w 0, 16) k).1 (wal P q sp sl sd (pt pn 16 w 0, 16) k).2)])) 0 0 := by
  refine j_enter_i (cc := cX9_write) (nL := 4) (nm := "write") (own := RX9) (lv := [(0, .ref y0)]) (by decide) rfl (Nat.le_of_ble_eq_true rfl) rfl rfl rfl ?_
  intro zA zp ze zs zm zargs zbelow zmeth zc zQ ls hC hQ hI hl
  have zx := hC.1
  have zb := hC.2.1
  have hsd : ∀ j, j < k → sd j < 512 := fun j h => by obtain ⟨z1, z2, z3, z4⟩ := tile_i ht h; rcases z1.2 with z | z <;> omega
  refine lv_aload_n zx zb dX9_write_0 rfl (lv_at hl 0 rfl) ?_
  refine lv_iconst (v := nI 0) zx zb dX9_write_1 (by decide) ?_
  refine j_put (w1 := [oC y0 9 [.int (nI 0), .ref r1, .int (nI n), .int (nI la), .int (nI lm), .int (nI lw), .ref r2, .ref r3, .ref r4, .int (nI kn), .ref r5, .ref r6, .ref r7, .int (nI k), .int (nI wp), .int (nI bt), .ref r8, .int (nI pn), .int (nI q), .int (nI 1), .ref r9, .int (nI os), .int (nI wz), .ref r10, .int (nI sz), .int (nI ia), .ref r11, .ref r12, .int tz, .ref r13, .int (nI ft)], aI G r5 500 sp, aI G r6 500 sl, aI G r7 500 sd, aI G r8 500 P, aZ G r9 5600 w]) hC hI hin_X9_write_X9 tyX9 tyX9_ok nmX9 0 rfl rfl 0 (by decide) hfl_X9_write_65 rfl rfl rfl rfl (Nat.le_of_ble_eq_true rfl) dX9_write_2 rfl (fun H locs hI => ?_)
  refine lv_aload_n zx zb dX9_write_5 rfl (lv_at hl 0 rfl) ?_
  refine lv_iconst (v := nI 0) zx zb dX9_write_6 (by decide) ?_
  refine j_put (w1 := [oC y0 9 [.int (nI 0), .ref r1, .int (nI n), .int (nI la), .int (nI lm), .int (nI lw), .ref r2, .ref r3, .ref r4, .int (nI kn), .ref r5, .ref r6, .ref r7, .int (nI k), .int (nI wp), .int (nI bt), .ref r8, .int (nI pn), .int (nI q), .int (nI 1), .ref r9, .int (nI 0), .int (nI wz), .ref r10, .int (nI sz), .int (nI ia), .ref r11, .ref r12, .int tz, .ref r13, .int (nI ft)], aI G r5 500 sp, aI G r6 500 sl, aI G r7 500 sd, aI G r8 500 P, aZ G r9 5600 w]) hC hI hin_X9_write_X9 tyX9 tyX9_ok nmX9 0 rfl rfl 21 (by decide) hfl_X9_write_131 rfl rfl rfl rfl (Nat.le_of_ble_eq_true rfl) dX9_write_7 rfl (fun H locs hI => ?_)
  refine lv_aload_n zx zb dX9_write_10 rfl (lv_at hl 0 rfl) ?_
  refine j_get hC hI hin_X9_write_X9 0 rfl rfl 19 (by decide) hfl_X9_write_128 rfl rfl dX9_write_11 ?_
  refine j_if_eq (tgt := 27) hC dX9_write_14 (by decide) (by omega) (fun c14 => ?_) (fun c14 => ?_)
  · exact (by omega : False).elim
  · refine lv_aload_n zx zb dX9_write_17 rfl (lv_at hl 0 rfl) ?_
    refine lv_aload_n zx zb dX9_write_18 rfl (lv_at hl 0 rfl) ?_
    refine j_get hC hI hin_X9_write_X9 0 rfl rfl 17 (by decide) hfl_X9_write_122 rfl rfl dX9_write_19 ?_
    refine lv_bipush (v := nI 16) zx zb dX9_write_22 (by decide) ?_
    refine j_callVv (wr := [aI G r5 500 sp, aI G r6 500 sl, aI G r7 500 sd, aI G r8 500 P]) hC hI (c_X9_put zl G y0 r1 r2 r3 r4 r5 r6 r7 r8 r9 r10 r11 r12 r13 n la lm lw kn k wp bt pn q 1 0 wz sz ia ft tz w pn 16 (by omega) (by omega) (by omega)) (cwV 2 hC.2.2.2.2.1 gX9_write_X9_put rfl rfl rfl (by decide +kernel) ⟨Nat.le_of_ble_eq_true rfl, Nat.le_of_ble_eq_true rfl⟩) [0, 5] [1, 2, 3, 4] rfl rfl rfl rfl rfl rfl (q0 := 0) rfl rfl rfl hl.1 (Nat.le_of_ble_eq_true rfl) dX9_write_24 ⟨Nat.le_of_ble_eq_true rfl, Nat.le_of_ble_eq_true rfl⟩ (fun u24 H locs hp24 hI => ?_)
    have hI : jI G zA zs [aI G r5 500 sp, aI G r6 500 sl, aI G r7 500 sd, aI G r8 500 P, oC y0 9 [.int (nI 0), .ref r1, .int (nI n), .int (nI la), .int (nI lm), .int (nI lw), .ref r2, .ref r3, .ref r4, .int (nI kn), .ref r5, .ref r6, .ref r7, .int (nI k), .int (nI wp), .int (nI bt), .ref r8, .int (nI pn), .int (nI q), .int (nI 1), .ref r9, .int (nI (0 + 16)), .int (nI wz), .ref r10, .int (nI sz), .int (nI ia), .ref r11, .ref r12, .int tz, .ref r13, .int (nI ft)], aZ G r9 5600 (pt pn 16 w 0)] H locs := hI
    refine lv_iconst (v := nI 0) zx zb dX9_write_27 (by decide) ?_
    refine lv_istore_n (lv' := [(1, .int (nI 0)), (0, .ref y0)]) zx zb dX9_write_28 rfl hl (by decide) rfl (fun ls hl => ?_)
    have loop29 : ∀ (zn29 : Nat) (i : Nat) (b2 : Nat) (g : Nat → Nat), (i ≤ k) → (b2 = (wal P q sp sl sd (pt pn 16 w 0, 16) i).2) → (g = (wal P q sp sl sd (pt pn 16 w 0, 16) i).1) → (k - i) < zn29 → ∀ (H : Heap) (locs : List Loc) (ls : Array Slot), jI G zA zs [oC y0 9 [.int (nI 0), .ref r1, .int (nI n), .int (nI la), .int (nI lm), .int (nI lw), .ref r2, .ref r3, .ref r4, .int (nI kn), .ref r5, .ref r6, .ref r7, .int (nI k), .int (nI wp), .int (nI bt), .ref r8, .int (nI pn), .int (nI q), .int (nI 1), .ref r9, .int (nI b2), .int (nI wz), .ref r10, .int (nI sz), .int (nI ia), .ref r11, .ref r12, .int tz, .ref r13, .int (nI ft)], aI G r5 500 sp, aI G r6 500 sl, aI G r7 500 sd, aI G r8 500 P, aZ G r9 5600 g] H locs → lv_has ls 4 [(0, .ref y0), (1, .int (nI i))] → W zp zl ze ({ frames := 1, cells := 0, slots := 0, locals := 23 }) zs zm zargs zbelow zmeth zc H locs 0 0 zQ (F0 zm 29 ls []) := by
      intro zn29
      induction zn29 with
      | zero => intros; omega
      | succ zn29 ih29 =>
        intro i b2 g hi hb2 hg zm29 H locs ls hI hl
        have hwl := wal_le (x := (pt pn 16 w 0, 16)) ht hn2 i hi
        have hpk : pos sl i ≤ pn := by rw [← ht.1]; have := pos_le (ln := sl) (a := i) (k - i); rwa [show i + (k - i) = k by omega] at this
        refine lv_iload_n zx zb dX9_write_29 rfl (lv_at hl 1 rfl) ?_
        refine lv_aload_n zx zb dX9_write_30 rfl (lv_at hl 0 rfl) ?_
        refine j_get hC hI hin_X9_write_X9 0 rfl rfl 13 (by decide) hfl_X9_write_93 rfl rfl dX9_write_31 ?_
        refine j_icmp_ge (tgt := 150) hC dX9_write_34 (by decide) (by omega) (by omega) (fun c34 => ?_) (fun c34 => ?_)
        · have loop150 : ∀ (zn150 : Nat) (b3 : Nat) (g3 : Nat → Nat), ((wal P q sp sl sd (pt pn 16 w 0, 16) k).2 ≤ b3 ∧ b3 ≤ ((wal P q sp sl sd (pt pn 16 w 0, 16) k).2 + 7) / 8 * 8) → (pad8 g3 b3 = pad8 (wal P q sp sl sd (pt pn 16 w 0, 16) k).1 (wal P q sp sl sd (pt pn 16 w 0, 16) k).2) → (5600 - b3) < zn150 → ∀ (H : Heap) (locs : List Loc) (ls : Array Slot), jI G zA zs [oC y0 9 [.int (nI 0), .ref r1, .int (nI n), .int (nI la), .int (nI lm), .int (nI lw), .ref r2, .ref r3, .ref r4, .int (nI kn), .ref r5, .ref r6, .ref r7, .int (nI k), .int (nI wp), .int (nI bt), .ref r8, .int (nI pn), .int (nI q), .int (nI 1), .ref r9, .int (nI b3), .int (nI wz), .ref r10, .int (nI sz), .int (nI ia), .ref r11, .ref r12, .int tz, .ref r13, .int (nI ft)], aI G r5 500 sp, aI G r6 500 sl, aI G r7 500 sd, aI G r8 500 P, aZ G r9 5600 g3] H locs → lv_has ls 4 [(0, .ref y0)] → W zp zl ze ({ frames := 1, cells := 0, slots := 0, locals := 23 }) zs zm zargs zbelow zmeth zc H locs 0 0 zQ (F0 zm 150 ls []) := by
            intro zn150
            induction zn150 with
            | zero => intros; omega
            | succ zn150 ih150 =>
              intro b3 g3 h3 hp3 zm150 H locs ls hI hl
              have hwl := wal_le (x := (pt pn 16 w 0, 16)) ht hn2 k (Nat.le_refl _)
              have hpk := ht.1
              refine lv_aload_n zx zb dX9_write_150 rfl (lv_at hl 0 rfl) ?_
              refine j_get hC hI hin_X9_write_X9 0 rfl rfl 21 (by decide) hfl_X9_write_131 rfl rfl dX9_write_151 ?_
              refine lv_bipush (v := nI 8) zx zb dX9_write_154 (by decide) ?_
              refine j_irem hC (by omega) (by omega) (by omega) dX9_write_156 ?_
              refine j_if_le (tgt := 169) hC dX9_write_157 (by decide) (by omega) (fun c157 => ?_) (fun c157 => ?_)
              · refine lv_aload_n zx zb dX9_write_169 rfl (lv_at hl 0 rfl) ?_
                refine lv_aload_n zx zb dX9_write_170 rfl (lv_at hl 0 rfl) ?_
                refine j_get hC hI hin_X9_write_X9 0 rfl rfl 21 (by decide) hfl_X9_write_131 rfl rfl dX9_write_171 ?_
                refine lv_bipush (v := nI 8) zx zb dX9_write_174 (by decide) ?_
                refine j_idiv hC (by omega) (by omega) (by omega) dX9_write_176 ?_
                refine j_put (w1 := [oC y0 9 [.int (nI 0), .ref r1, .int (nI n), .int (nI la), .int (nI lm), .int (nI lw), .ref r2, .ref r3, .ref r4, .int (nI kn), .ref r5, .ref r6, .ref r7, .int (nI k), .int (nI wp), .int (nI bt), .ref r8, .int (nI pn), .int (nI q), .int (nI 1), .ref r9, .int (nI b3), .int (nI (b3 / 8)), .ref r10, .int (nI sz), .int (nI ia), .ref r11, .ref r12, .int tz, .ref r13, .int (nI ft)], aI G r5 500 sp, aI G r6 500 sl, aI G r7 500 sd, aI G r8 500 P, aZ G r9 5600 g3]) hC hI hin_X9_write_X9 tyX9 tyX9_ok nmX9 0 rfl rfl 22 (by decide) hfl_X9_write_138 rfl rfl rfl rfl (Nat.le_of_ble_eq_true rfl) dX9_write_177 rfl (fun H locs hI => ?_)
                refine lv_aload_n zx zb dX9_write_180 rfl (lv_at hl 0 rfl) ?_
                refine j_get hC hI hin_X9_write_X9 0 rfl rfl 22 (by decide) hfl_X9_write_138 rfl rfl dX9_write_181 ?_
                exact hQ _ _ _ _ _ b3 dX9_write_184 (hI.sub [0, 1, 2, 3, 4, 5] rfl (by rw [show b3 / 8 = ((wal P q sp sl sd (pt pn 16 w 0, 16) k).2 + 7) / 8 by omega, show g3 = pad8 (wal P q sp sl sd (pt pn 16 w 0, 16) k).1 (wal P q sp sl sd (pt pn 16 w 0, 16) k).2 by rw [← hp3, pad_done c157]]; rfl)) (congrArg nI (by omega))
              · refine lv_aload_n zx zb dX9_write_160 rfl (lv_at hl 0 rfl) ?_
                refine lv_iconst (v := nI 0) zx zb dX9_write_161 (by decide) ?_
                refine lv_iconst (v := nI 1) zx zb dX9_write_162 (by decide) ?_
                refine j_callVv (wr := [aI G r5 500 sp, aI G r6 500 sl, aI G r7 500 sd, aI G r8 500 P]) hC hI (c_X9_put zl G y0 r1 r2 r3 r4 r5 r6 r7 r8 r9 r10 r11 r12 r13 n la lm lw kn k wp bt pn q 1 b3 wz sz ia ft tz g3 0 1 (by omega) (by omega) (by omega)) (cwV 2 hC.2.2.2.2.1 gX9_write_X9_put rfl rfl rfl (by decide +kernel) ⟨Nat.le_of_ble_eq_true rfl, Nat.le_of_ble_eq_true rfl⟩) [0, 5] [1, 2, 3, 4] rfl rfl rfl rfl rfl rfl (q0 := 0) rfl rfl rfl hl.1 (Nat.le_of_ble_eq_true rfl) dX9_write_163 ⟨Nat.le_of_ble_eq_true rfl, Nat.le_of_ble_eq_true rfl⟩ (fun u163 H locs hp163 hI => ?_)
                have hI : jI G zA zs [aI G r5 500 sp, aI G r6 500 sl, aI G r7 500 sd, aI G r8 500 P, oC y0 9 [.int (nI 0), .ref r1, .int (nI n), .int (nI la), .int (nI lm), .int (nI lw), .ref r2, .ref r3, .ref r4, .int (nI kn), .ref r5, .ref r6, .ref r7, .int (nI k), .int (nI wp), .int (nI bt), .ref r8, .int (nI pn), .int (nI q), .int (nI 1), .ref r9, .int (nI (b3 + 1)), .int (nI wz), .ref r10, .int (nI sz), .int (nI ia), .ref r11, .ref r12, .int tz, .ref r13, .int (nI ft)], aZ G r9 5600 (pt 0 1 g3 b3)] H locs := hI
                refine lv_goto (tgt := 150) zx zb dX9_write_166 (by decide) ?_
                exact ih150 (b3 + 1) (pt 0 1 g3 b3) (by omega) (by rw [← hp3]; exact pad_step c157) (by omega) _ _ _ (hI.sub [4, 0, 1, 2, 3, 5] rfl rfl) (lv_sub hl [0] rfl)
          exact loop150 _ b2 g (by rw [hb2, show i = k by omega]; omega) (by rw [hg, hb2, show i = k by omega]) (Nat.lt_succ_self _) _ _ _ hI (lv_sub hl [0] rfl)
        · obtain ⟨hs1, hs2, hs3, hs4⟩ := tile_i ht c34
          have hsl := wst_le (x := wal P q sp sl sd (pt pn 16 w 0, 16) i) hs1 (ht.2.1 (by omega)) (by omega)
          have hps : pos sl i + sl i ≤ pn := by omega
          have hdl := hsd i c34
          refine lv_aload_n zx zb dX9_write_37 rfl (lv_at hl 0 rfl) ?_
          refine j_get hC hI hin_X9_write_X9 0 rfl rfl 12 (by decide) hfl_X9_write_40 rfl rfl dX9_write_38 ?_
          refine lv_iload_n zx zb dX9_write_41 rfl (lv_at hl 1 rfl) ?_
          refine j_iald hC hI 3 rfl (by omega) (by omega) dX9_write_42 ?_
          have b42 := hsd i (by omega)
          refine j_if_ne (tgt := 72) hC dX9_write_43 (by decide) (by omega) (fun c43 => ?_) (fun c43 => ?_)
          · have hm2 : q ≤ sl i ∧ sl i ≤ 255 := by rcases hs1.2 with z | z; exact absurd z.1 c43; omega
            rw [wst, if_neg c43] at hsl
            have hsl2 : (wal P q sp sl sd (pt pn 16 w 0, 16) i).2 + 1 + (2 * (sl i - q + 1).log2 + 1) + 4 + (sd i).log2 ≤ (wal P q sp sl sd (pt pn 16 w 0, 16) i).2 + 9 * sl i := hsl.1
            have hg8 : (sl i - q + 1).log2 ≤ 8 := lg_le (k := 8) (by omega)
            have hd8 : (sd i).log2 ≤ 8 := lg_le (k := 8) (by omega)
            refine lv_aload_n zx zb dX9_write_72 rfl (lv_at hl 0 rfl) ?_
            refine j_get hC hI hin_X9_write_X9 0 rfl rfl 11 (by decide) hfl_X9_write_37 rfl rfl dX9_write_73 ?_
            refine lv_iload_n zx zb dX9_write_76 rfl (lv_at hl 1 rfl) ?_
            refine j_iald hC hI 2 rfl (by omega) (by omega) dX9_write_77 ?_
            refine lv_aload_n zx zb dX9_write_78 rfl (lv_at hl 0 rfl) ?_
            refine j_get hC hI hin_X9_write_X9 0 rfl rfl 18 (by decide) hfl_X9_write_125 rfl rfl dX9_write_79 ?_
            refine j_isub hC (by omega) dX9_write_82 ?_
            refine lv_iconst (v := nI 1) zx zb dX9_write_83 (by decide) ?_
            refine j_iadd hC dX9_write_84 ?_
            refine lv_istore_n (lv' := [(2, .int (nI (((sl i) - q) + 1))), (0, .ref y0), (1, .int (nI i))]) zx zb dX9_write_85 rfl hl (by decide) rfl (fun ls hl => ?_)
            refine lv_iload_n zx zb dX9_write_86 rfl (lv_at hl 0 rfl) ?_
            refine j_callSi (wr := [oC y0 9 [.int (nI 0), .ref r1, .int (nI n), .int (nI la), .int (nI lm), .int (nI lw), .ref r2, .ref r3, .ref r4, .int (nI kn), .ref r5, .ref r6, .ref r7, .int (nI k), .int (nI wp), .int (nI bt), .ref r8, .int (nI pn), .int (nI q), .int (nI 1), .ref r9, .int (nI b2), .int (nI wz), .ref r10, .int (nI sz), .int (nI ia), .ref r11, .ref r12, .int tz, .ref r13, .int (nI ft)], aI G r5 500 sp, aI G r6 500 sl, aI G r7 500 sd, aI G r8 500 P, aZ G r9 5600 g]) hC hI (c_X9_classOf zl G (((sl i) - q) + 1) (by omega)) (cwS 1 hC.2.2.2.2.1 gX9_write_X9_classOf rfl rfl rfl (by decide +kernel) ⟨Nat.le_of_ble_eq_true rfl, Nat.le_of_ble_eq_true rfl⟩) [] [0, 1, 2, 3, 4, 5] rfl rfl rfl rfl rfl rfl rfl hl.1 (Nat.le_of_ble_eq_true rfl) dX9_write_87 ⟨Nat.le_of_ble_eq_true rfl, Nat.le_of_ble_eq_true rfl⟩ (fun rv87 u87 H locs hp87 hI => ?_)
            have hI : jI G zA zs [oC y0 9 [.int (nI 0), .ref r1, .int (nI n), .int (nI la), .int (nI lm), .int (nI lw), .ref r2, .ref r3, .ref r4, .int (nI kn), .ref r5, .ref r6, .ref r7, .int (nI k), .int (nI wp), .int (nI bt), .ref r8, .int (nI pn), .int (nI q), .int (nI 1), .ref r9, .int (nI b2), .int (nI wz), .ref r10, .int (nI sz), .int (nI ia), .ref r11, .ref r12, .int tz, .ref r13, .int (nI ft)], aI G r5 500 sp, aI G r6 500 sl, aI G r7 500 sd, aI G r8 500 P, aZ G r9 5600 g] H locs := hI
            subst hp87
            refine lv_istore_n (lv' := [(3, .int (nI ((((sl i) - q) + 1).log2))), (2, .int (nI (((sl i) - q) + 1))), (0, .ref y0), (1, .int (nI i))]) zx zb dX9_write_90 rfl hl (by decide) rfl (fun ls hl => ?_)
            refine lv_aload_n zx zb dX9_write_91 rfl (lv_at hl 2 rfl) ?_
            refine lv_iconst (v := nI 1) zx zb dX9_write_92 (by decide) ?_
            refine lv_iconst (v := nI 1) zx zb dX9_write_93 (by decide) ?_
            refine j_callVv (wr := [aI G r5 500 sp, aI G r6 500 sl, aI G r7 500 sd, aI G r8 500 P]) hC hI (c_X9_put zl G y0 r1 r2 r3 r4 r5 r6 r7 r8 r9 r10 r11 r12 r13 n la lm lw kn k wp bt pn q 1 b2 wz sz ia ft tz g 1 1 (by omega) (by omega) (by omega)) (cwV 2 hC.2.2.2.2.1 gX9_write_X9_put rfl rfl rfl (by decide +kernel) ⟨Nat.le_of_ble_eq_true rfl, Nat.le_of_ble_eq_true rfl⟩) [0, 5] [1, 2, 3, 4] rfl rfl rfl rfl rfl rfl (q0 := 0) rfl rfl rfl hl.1 (Nat.le_of_ble_eq_true rfl) dX9_write_94 ⟨Nat.le_of_ble_eq_true rfl, Nat.le_of_ble_eq_true rfl⟩ (fun u94 H locs hp94 hI => ?_)
            have hI : jI G zA zs [aI G r5 500 sp, aI G r6 500 sl, aI G r7 500 sd, aI G r8 500 P, oC y0 9 [.int (nI 0), .ref r1, .int (nI n), .int (nI la), .int (nI lm), .int (nI lw), .ref r2, .ref r3, .ref r4, .int (nI kn), .ref r5, .ref r6, .ref r7, .int (nI k), .int (nI wp), .int (nI bt), .ref r8, .int (nI pn), .int (nI q), .int (nI 1), .ref r9, .int (nI (b2 + 1)), .int (nI wz), .ref r10, .int (nI sz), .int (nI ia), .ref r11, .ref r12, .int tz, .ref r13, .int (nI ft)], aZ G r9 5600 (pt 1 1 g b2)] H locs := hI
            refine lv_aload_n zx zb dX9_write_97 rfl (lv_at hl 2 rfl) ?_
            refine lv_iconst (v := nI 0) zx zb dX9_write_98 (by decide) ?_
            refine lv_iload_n zx zb dX9_write_99 rfl (lv_at hl 0 rfl) ?_
            refine j_callVv (wr := [aI G r5 500 sp, aI G r6 500 sl, aI G r7 500 sd, aI G r8 500 P]) hC hI (c_X9_put zl G y0 r1 r2 r3 r4 r5 r6 r7 r8 r9 r10 r11 r12 r13 n la lm lw kn k wp bt pn q 1 (b2 + 1) wz sz ia ft tz (pt 1 1 g b2) 0 ((((sl i) - q) + 1).log2) (by omega) (by omega) (by omega)) (cwV 2 hC.2.2.2.2.1 gX9_write_X9_put rfl rfl rfl (by decide +kernel) ⟨Nat.le_of_ble_eq_true rfl, Nat.le_of_ble_eq_true rfl⟩) [4, 5] [0, 1, 2, 3] rfl rfl rfl rfl rfl rfl (q0 := 0) rfl rfl rfl hl.1 (Nat.le_of_ble_eq_true rfl) dX9_write_100 ⟨Nat.le_of_ble_eq_true rfl, Nat.le_of_ble_eq_true rfl⟩ (fun u100 H locs hp100 hI => ?_)
            have hI : jI G zA zs [aI G r5 500 sp, aI G r6 500 sl, aI G r7 500 sd, aI G r8 500 P, oC y0 9 [.int (nI 0), .ref r1, .int (nI n), .int (nI la), .int (nI lm), .int (nI lw), .ref r2, .ref r3, .ref r4, .int (nI kn), .ref r5, .ref r6, .ref r7, .int (nI k), .int (nI wp), .int (nI bt), .ref r8, .int (nI pn), .int (nI q), .int (nI 1), .ref r9, .int (nI ((b2 + 1) + ((((sl i) - q) + 1).log2))), .int (nI wz), .ref r10, .int (nI sz), .int (nI ia), .ref r11, .ref r12, .int tz, .ref r13, .int (nI ft)], aZ G r9 5600 (pt 0 ((((sl i) - q) + 1).log2) (pt 1 1 g b2) (b2 + 1))] H locs := hI
            refine lv_aload_n zx zb dX9_write_103 rfl (lv_at hl 2 rfl) ?_
            refine lv_iload_n zx zb dX9_write_104 rfl (lv_at hl 1 rfl) ?_
            refine lv_iload_n zx zb dX9_write_105 rfl (lv_at hl 0 rfl) ?_
            refine lv_iconst (v := nI 1) zx zb dX9_write_106 (by decide) ?_
            refine j_iadd hC dX9_write_107 ?_
            refine j_callVv (wr := [aI G r5 500 sp, aI G r6 500 sl, aI G r7 500 sd, aI G r8 500 P]) hC hI (c_X9_put zl G y0 r1 r2 r3 r4 r5 r6 r7 r8 r9 r10 r11 r12 r13 n la lm lw kn k wp bt pn q 1 ((b2 + 1) + ((((sl i) - q) + 1).log2)) wz sz ia ft tz (pt 0 ((((sl i) - q) + 1).log2) (pt 1 1 g b2) (b2 + 1)) (((sl i) - q) + 1) (((((sl i) - q) + 1).log2) + 1) (by omega) (by omega) (by omega)) (cwV 2 hC.2.2.2.2.1 gX9_write_X9_put rfl rfl rfl (by decide +kernel) ⟨Nat.le_of_ble_eq_true rfl, Nat.le_of_ble_eq_true rfl⟩) [4, 5] [0, 1, 2, 3] rfl rfl rfl rfl rfl rfl (q0 := 0) rfl rfl rfl hl.1 (Nat.le_of_ble_eq_true rfl) dX9_write_108 ⟨Nat.le_of_ble_eq_true rfl, Nat.le_of_ble_eq_true rfl⟩ (fun u108 H locs hp108 hI => ?_)
            have hI : jI G zA zs [aI G r5 500 sp, aI G r6 500 sl, aI G r7 500 sd, aI G r8 500 P, oC y0 9 [.int (nI 0), .ref r1, .int (nI n), .int (nI la), .int (nI lm), .int (nI lw), .ref r2, .ref r3, .ref r4, .int (nI kn), .ref r5, .ref r6, .ref r7, .int (nI k), .int (nI wp), .int (nI bt), .ref r8, .int (nI pn), .int (nI q), .int (nI 1), .ref r9, .int (nI (((b2 + 1) + ((((sl i) - q) + 1).log2)) + (((((sl i) - q) + 1).log2) + 1))), .int (nI wz), .ref r10, .int (nI sz), .int (nI ia), .ref r11, .ref r12, .int tz, .ref r13, .int (nI ft)], aZ G r9 5600 (pt (((sl i) - q) + 1) (((((sl i) - q) + 1).log2) + 1) (pt 0 ((((sl i) - q) + 1).log2) (pt 1 1 g b2) (b2 + 1)) ((b2 + 1) + ((((sl i) - q) + 1).log2)))] H locs := hI
            refine lv_aload_n zx zb dX9_write_111 rfl (lv_at hl 2 rfl) ?_
            refine lv_aload_n zx zb dX9_write_112 rfl (lv_at hl 2 rfl) ?_
            refine j_get hC hI hin_X9_write_X9 4 rfl rfl 12 (by decide) hfl_X9_write_40 rfl rfl dX9_write_113 ?_
            refine lv_iload_n zx zb dX9_write_116 rfl (lv_at hl 3 rfl) ?_
            refine j_iald hC hI 2 rfl (by omega) (by omega) dX9_write_117 ?_
            have b117 := hsd i (by omega)
            refine j_callSi (wr := [aI G r5 500 sp, aI G r6 500 sl, aI G r7 500 sd, aI G r8 500 P, oC y0 9 [.int (nI 0), .ref r1, .int (nI n), .int (nI la), .int (nI lm), .int (nI lw), .ref r2, .ref r3, .ref r4, .int (nI kn), .ref r5, .ref r6, .ref r7, .int (nI k), .int (nI wp), .int (nI bt), .ref r8, .int (nI pn), .int (nI q), .int (nI 1), .ref r9, .int (nI (((b2 + 1) + ((((sl i) - q) + 1).log2)) + (((((sl i) - q) + 1).log2) + 1))), .int (nI wz), .ref r10, .int (nI sz), .int (nI ia), .ref r11, .ref r12, .int tz, .ref r13, .int (nI ft)], aZ G r9 5600 (pt (((sl i) - q) + 1) (((((sl i) - q) + 1).log2) + 1) (pt 0 ((((sl i) - q) + 1).log2) (pt 1 1 g b2) (b2 + 1)) ((b2 + 1) + ((((sl i) - q) + 1).log2)))]) hC hI (c_X9_classOf zl G (sd i) (by omega)) (cwS 1 hC.2.2.2.2.1 gX9_write_X9_classOf rfl rfl rfl (by decide +kernel) ⟨Nat.le_of_ble_eq_true rfl, Nat.le_of_ble_eq_true rfl⟩) [] [0, 1, 2, 3, 4, 5] rfl rfl rfl rfl rfl rfl rfl hl.1 (Nat.le_of_ble_eq_true rfl) dX9_write_118 ⟨Nat.le_of_ble_eq_true rfl, Nat.le_of_ble_eq_true rfl⟩ (fun rv118 u118 H locs hp118 hI => ?_)
            have hI : jI G zA zs [aI G r5 500 sp, aI G r6 500 sl, aI G r7 500 sd, aI G r8 500 P, oC y0 9 [.int (nI 0), .ref r1, .int (nI n), .int (nI la), .int (nI lm), .int (nI lw), .ref r2, .ref r3, .ref r4, .int (nI kn), .ref r5, .ref r6, .ref r7, .int (nI k), .int (nI wp), .int (nI bt), .ref r8, .int (nI pn), .int (nI q), .int (nI 1), .ref r9, .int (nI (((b2 + 1) + ((((sl i) - q) + 1).log2)) + (((((sl i) - q) + 1).log2) + 1))), .int (nI wz), .ref r10, .int (nI sz), .int (nI ia), .ref r11, .ref r12, .int tz, .ref r13, .int (nI ft)], aZ G r9 5600 (pt (((sl i) - q) + 1) (((((sl i) - q) + 1).log2) + 1) (pt 0 ((((sl i) - q) + 1).log2) (pt 1 1 g b2) (b2 + 1)) ((b2 + 1) + ((((sl i) - q) + 1).log2)))] H locs := hI
            subst hp118
            refine lv_iconst (v := nI 4) zx zb dX9_write_121 (by decide) ?_
            refine j_callVv (wr := [aI G r5 500 sp, aI G r6 500 sl, aI G r7 500 sd, aI G r8 500 P]) hC hI (c_X9_put zl G y0 r1 r2 r3 r4 r5 r6 r7 r8 r9 r10 r11 r12 r13 n la lm lw kn k wp bt pn q 1 (((b2 + 1) + ((((sl i) - q) + 1).log2)) + (((((sl i) - q) + 1).log2) + 1)) wz sz ia ft tz (pt (((sl i) - q) + 1) (((((sl i) - q) + 1).log2) + 1) (pt 0 ((((sl i) - q) + 1).log2) (pt 1 1 g b2) (b2 + 1)) ((b2 + 1) + ((((sl i) - q) + 1).log2))) ((sd i).log2) 4 (by omega) (by omega) (by omega)) (cwV 2 hC.2.2.2.2.1 gX9_write_X9_put rfl rfl rfl (by decide +kernel) ⟨Nat.le_of_ble_eq_true rfl, Nat.le_of_ble_eq_true rfl⟩) [4, 5] [0, 1, 2, 3] rfl rfl rfl rfl rfl rfl (q0 := 0) rfl rfl rfl hl.1 (Nat.le_of_ble_eq_true rfl) dX9_write_122 ⟨Nat.le_of_ble_eq_true rfl, Nat.le_of_ble_eq_true rfl⟩ (fun u122 H locs hp122 hI => ?_)
            have hI : jI G zA zs [aI G r5 500 sp, aI G r6 500 sl, aI G r7 500 sd, aI G r8 500 P, oC y0 9 [.int (nI 0), .ref r1, .int (nI n), .int (nI la), .int (nI lm), .int (nI lw), .ref r2, .ref r3, .ref r4, .int (nI kn), .ref r5, .ref r6, .ref r7, .int (nI k), .int (nI wp), .int (nI bt), .ref r8, .int (nI pn), .int (nI q), .int (nI 1), .ref r9, .int (nI ((((b2 + 1) + ((((sl i) - q) + 1).log2)) + (((((sl i) - q) + 1).log2) + 1)) + 4)), .int (nI wz), .ref r10, .int (nI sz), .int (nI ia), .ref r11, .ref r12, .int tz, .ref r13, .int (nI ft)], aZ G r9 5600 (pt ((sd i).log2) 4 (pt (((sl i) - q) + 1) (((((sl i) - q) + 1).log2) + 1) (pt 0 ((((sl i) - q) + 1).log2) (pt 1 1 g b2) (b2 + 1)) ((b2 + 1) + ((((sl i) - q) + 1).log2))) (((b2 + 1) + ((((sl i) - q) + 1).log2)) + (((((sl i) - q) + 1).log2) + 1)))] H locs := hI
            refine lv_aload_n zx zb dX9_write_125 rfl (lv_at hl 2 rfl) ?_
            refine lv_aload_n zx zb dX9_write_126 rfl (lv_at hl 2 rfl) ?_
            refine j_get hC hI hin_X9_write_X9 4 rfl rfl 12 (by decide) hfl_X9_write_40 rfl rfl dX9_write_127 ?_
            refine lv_iload_n zx zb dX9_write_130 rfl (lv_at hl 3 rfl) ?_
            refine j_iald hC hI 2 rfl (by omega) (by omega) dX9_write_131 ?_
            have b131 := hsd i (by omega)
            refine lv_aload_n zx zb dX9_write_132 rfl (lv_at hl 2 rfl) ?_
            refine j_get hC hI hin_X9_write_X9 4 rfl rfl 12 (by decide) hfl_X9_write_40 rfl rfl dX9_write_133 ?_
            refine lv_iload_n zx zb dX9_write_136 rfl (lv_at hl 3 rfl) ?_
            refine j_iald hC hI 2 rfl (by omega) (by omega) dX9_write_137 ?_
            have b137 := hsd i (by omega)
            refine j_callSi (wr := [aI G r5 500 sp, aI G r6 500 sl, aI G r7 500 sd, aI G r8 500 P, oC y0 9 [.int (nI 0), .ref r1, .int (nI n), .int (nI la), .int (nI lm), .int (nI lw), .ref r2, .ref r3, .ref r4, .int (nI kn), .ref r5, .ref r6, .ref r7, .int (nI k), .int (nI wp), .int (nI bt), .ref r8, .int (nI pn), .int (nI q), .int (nI 1), .ref r9, .int (nI ((((b2 + 1) + ((((sl i) - q) + 1).log2)) + (((((sl i) - q) + 1).log2) + 1)) + 4)), .int (nI wz), .ref r10, .int (nI sz), .int (nI ia), .ref r11, .ref r12, .int tz, .ref r13, .int (nI ft)], aZ G r9 5600 (pt ((sd i).log2) 4 (pt (((sl i) - q) + 1) (((((sl i) - q) + 1).log2) + 1) (pt 0 ((((sl i) - q) + 1).log2) (pt 1 1 g b2) (b2 + 1)) ((b2 + 1) + ((((sl i) - q) + 1).log2))) (((b2 + 1) + ((((sl i) - q) + 1).log2)) + (((((sl i) - q) + 1).log2) + 1)))]) hC hI (c_X9_classOf zl G (sd i) (by omega)) (cwS 1 hC.2.2.2.2.1 gX9_write_X9_classOf rfl rfl rfl (by decide +kernel) ⟨Nat.le_of_ble_eq_true rfl, Nat.le_of_ble_eq_true rfl⟩) [] [0, 1, 2, 3, 4, 5] rfl rfl rfl rfl rfl rfl rfl hl.1 (Nat.le_of_ble_eq_true rfl) dX9_write_138 ⟨Nat.le_of_ble_eq_true rfl, Nat.le_of_ble_eq_true rfl⟩ (fun rv138 u138 H locs hp138 hI => ?_)
            have hI : jI G zA zs [aI G r5 500 sp, aI G r6 500 sl, aI G r7 500 sd, aI G r8 500 P, oC y0 9 [.int (nI 0), .ref r1, .int (nI n), .int (nI la), .int (nI lm), .int (nI lw), .ref r2, .ref r3, .ref r4, .int (nI kn), .ref r5, .ref r6, .ref r7, .int (nI k), .int (nI wp), .int (nI bt), .ref r8, .int (nI pn), .int (nI q), .int (nI 1), .ref r9, .int (nI ((((b2 + 1) + ((((sl i) - q) + 1).log2)) + (((((sl i) - q) + 1).log2) + 1)) + 4)), .int (nI wz), .ref r10, .int (nI sz), .int (nI ia), .ref r11, .ref r12, .int tz, .ref r13, .int (nI ft)], aZ G r9 5600 (pt ((sd i).log2) 4 (pt (((sl i) - q) + 1) (((((sl i) - q) + 1).log2) + 1) (pt 0 ((((sl i) - q) + 1).log2) (pt 1 1 g b2) (b2 + 1)) ((b2 + 1) + ((((sl i) - q) + 1).log2))) (((b2 + 1) + ((((sl i) - q) + 1).log2)) + (((((sl i) - q) + 1).log2) + 1)))] H locs := hI
            subst hp138
            refine j_callVv (wr := [aI G r5 500 sp, aI G r6 500 sl, aI G r7 500 sd, aI G r8 500 P]) hC hI (c_X9_put zl G y0 r1 r2 r3 r4 r5 r6 r7 r8 r9 r10 r11 r12 r13 n la lm lw kn k wp bt pn q 1 ((((b2 + 1) + ((((sl i) - q) + 1).log2)) + (((((sl i) - q) + 1).log2) + 1)) + 4) wz sz ia ft tz (pt ((sd i).log2) 4 (pt (((sl i) - q) + 1) (((((sl i) - q) + 1).log2) + 1) (pt 0 ((((sl i) - q) + 1).log2) (pt 1 1 g b2) (b2 + 1)) ((b2 + 1) + ((((sl i) - q) + 1).log2))) (((b2 + 1) + ((((sl i) - q) + 1).log2)) + (((((sl i) - q) + 1).log2) + 1))) (sd i) ((sd i).log2) (by omega) (by omega) (by omega)) (cwV 2 hC.2.2.2.2.1 gX9_write_X9_put rfl rfl rfl (by decide +kernel) ⟨Nat.le_of_ble_eq_true rfl, Nat.le_of_ble_eq_true rfl⟩) [4, 5] [0, 1, 2, 3] rfl rfl rfl rfl rfl rfl (q0 := 0) rfl rfl rfl hl.1 (Nat.le_of_ble_eq_true rfl) dX9_write_141 ⟨Nat.le_of_ble_eq_true rfl, Nat.le_of_ble_eq_true rfl⟩ (fun u141 H locs hp141 hI => ?_)
            have hI : jI G zA zs [aI G r5 500 sp, aI G r6 500 sl, aI G r7 500 sd, aI G r8 500 P, oC y0 9 [.int (nI 0), .ref r1, .int (nI n), .int (nI la), .int (nI lm), .int (nI lw), .ref r2, .ref r3, .ref r4, .int (nI kn), .ref r5, .ref r6, .ref r7, .int (nI k), .int (nI wp), .int (nI bt), .ref r8, .int (nI pn), .int (nI q), .int (nI 1), .ref r9, .int (nI (((((b2 + 1) + ((((sl i) - q) + 1).log2)) + (((((sl i) - q) + 1).log2) + 1)) + 4) + ((sd i).log2))), .int (nI wz), .ref r10, .int (nI sz), .int (nI ia), .ref r11, .ref r12, .int tz, .ref r13, .int (nI ft)], aZ G r9 5600 (pt (sd i) ((sd i).log2) (pt ((sd i).log2) 4 (pt (((sl i) - q) + 1) (((((sl i) - q) + 1).log2) + 1) (pt 0 ((((sl i) - q) + 1).log2) (pt 1 1 g b2) (b2 + 1)) ((b2 + 1) + ((((sl i) - q) + 1).log2))) (((b2 + 1) + ((((sl i) - q) + 1).log2)) + (((((sl i) - q) + 1).log2) + 1))) ((((b2 + 1) + ((((sl i) - q) + 1).log2)) + (((((sl i) - q) + 1).log2) + 1)) + 4))] H locs := hI
            refine lv_iinc (v := nI (i + 1)) (lv' := [(1, .int (nI (i + 1))), (3, .int (nI ((((sl i) - q) + 1).log2))), (2, .int (nI (((sl i) - q) + 1))), (0, .ref y0)]) zx zb dX9_write_144 hl (k := 3) rfl (j_inc _ _ _ (by decide)) (by decide) rfl (fun ls hl => ?_)
            refine lv_goto (tgt := 29) zx zb dX9_write_147 (by decide) ?_
            exact ih29 (i + 1) (((((b2 + 1) + ((((sl i) - q) + 1).log2)) + (((((sl i) - q) + 1).log2) + 1)) + 4) + ((sd i).log2)) (pt (sd i) ((sd i).log2) (pt ((sd i).log2) 4 (pt (((sl i) - q) + 1) (((((sl i) - q) + 1).log2) + 1) (pt 0 ((((sl i) - q) + 1).log2) (pt 1 1 g b2) (b2 + 1)) ((b2 + 1) + ((((sl i) - q) + 1).log2))) (((b2 + 1) + ((((sl i) - q) + 1).log2)) + (((((sl i) - q) + 1).log2) + 1))) ((((b2 + 1) + ((((sl i) - q) + 1).log2)) + (((((sl i) - q) + 1).log2) + 1)) + 4)) (by omega) (by rw [wal, wst, if_neg c43, ← hb2]; show _ = b2 + 1 + (2 * (sl i - q + 1).log2 + 1) + 4 + (sd i).log2; omega) (by rw [wal, wst, if_neg c43, ← hb2, ← hg]; show _ = pt (sd i) (sd i).log2 (pt (sd i).log2 4 (pt (sl i - q + 1) (2 * (sl i - q + 1).log2 + 1) (pt 1 1 g b2) (b2 + 1)) (b2 + 1 + (2 * (sl i - q + 1).log2 + 1))) (b2 + 1 + (2 * (sl i - q + 1).log2 + 1) + 4); rw [show 2 * (sl i - q + 1).log2 + 1 = (sl i - q + 1).log2 + ((sl i - q + 1).log2 + 1) by omega, pt_split (lg_lt _)]; simp only [Nat.add_assoc]) (by omega) _ _ _ (hI.sub [4, 0, 1, 2, 3, 5] rfl rfl) (lv_sub hl [3, 0] rfl)
          · refine lv_aload_n zx zb dX9_write_46 rfl (lv_at hl 0 rfl) ?_
            refine lv_iconst (v := nI 0) zx zb dX9_write_47 (by decide) ?_
            refine lv_iconst (v := nI 1) zx zb dX9_write_48 (by decide) ?_
            refine j_callVv (wr := [aI G r5 500 sp, aI G r6 500 sl, aI G r7 500 sd, aI G r8 500 P]) hC hI (c_X9_put zl G y0 r1 r2 r3 r4 r5 r6 r7 r8 r9 r10 r11 r12 r13 n la lm lw kn k wp bt pn q 1 b2 wz sz ia ft tz g 0 1 (by omega) (by omega) (by omega)) (cwV 2 hC.2.2.2.2.1 gX9_write_X9_put rfl rfl rfl (by decide +kernel) ⟨Nat.le_of_ble_eq_true rfl, Nat.le_of_ble_eq_true rfl⟩) [0, 5] [1, 2, 3, 4] rfl rfl rfl rfl rfl rfl (q0 := 0) rfl rfl rfl hl.1 (Nat.le_of_ble_eq_true rfl) dX9_write_49 ⟨Nat.le_of_ble_eq_true rfl, Nat.le_of_ble_eq_true rfl⟩ (fun u49 H locs hp49 hI => ?_)
            have hI : jI G zA zs [aI G r5 500 sp, aI G r6 500 sl, aI G r7 500 sd, aI G r8 500 P, oC y0 9 [.int (nI 0), .ref r1, .int (nI n), .int (nI la), .int (nI lm), .int (nI lw), .ref r2, .ref r3, .ref r4, .int (nI kn), .ref r5, .ref r6, .ref r7, .int (nI k), .int (nI wp), .int (nI bt), .ref r8, .int (nI pn), .int (nI q), .int (nI 1), .ref r9, .int (nI (b2 + 1)), .int (nI wz), .ref r10, .int (nI sz), .int (nI ia), .ref r11, .ref r12, .int tz, .ref r13, .int (nI ft)], aZ G r9 5600 (pt 0 1 g b2)] H locs := hI
            refine lv_aload_n zx zb dX9_write_52 rfl (lv_at hl 0 rfl) ?_
            refine lv_aload_n zx zb dX9_write_53 rfl (lv_at hl 0 rfl) ?_
            refine j_get hC hI hin_X9_write_X9 4 rfl rfl 16 (by decide) hfl_X9_write_43 rfl rfl dX9_write_54 ?_
            refine lv_aload_n zx zb dX9_write_57 rfl (lv_at hl 0 rfl) ?_
            refine j_get hC hI hin_X9_write_X9 4 rfl rfl 10 (by decide) hfl_X9_write_34 rfl rfl dX9_write_58 ?_
            refine lv_iload_n zx zb dX9_write_61 rfl (lv_at hl 1 rfl) ?_
            refine j_iald hC hI 0 rfl (by omega) (by omega) dX9_write_62 ?_
            refine j_iald hC hI 3 rfl (by omega) (by omega) dX9_write_63 ?_
            refine lv_bipush (v := nI 8) zx zb dX9_write_64 (by decide) ?_
            have hq7 := hPb (sp i) (by omega)
            refine j_callVv (wr := [aI G r5 500 sp, aI G r6 500 sl, aI G r7 500 sd, aI G r8 500 P]) hC hI (c_X9_put zl G y0 r1 r2 r3 r4 r5 r6 r7 r8 r9 r10 r11 r12 r13 n la lm lw kn k wp bt pn q 1 (b2 + 1) wz sz ia ft tz (pt 0 1 g b2) (P (sp i)) 8 (by omega) (by omega) (by omega)) (cwV 2 hC.2.2.2.2.1 gX9_write_X9_put rfl rfl rfl (by decide +kernel) ⟨Nat.le_of_ble_eq_true rfl, Nat.le_of_ble_eq_true rfl⟩) [4, 5] [0, 1, 2, 3] rfl rfl rfl rfl rfl rfl (q0 := 0) rfl rfl rfl hl.1 (Nat.le_of_ble_eq_true rfl) dX9_write_66 ⟨Nat.le_of_ble_eq_true rfl, Nat.le_of_ble_eq_true rfl⟩ (fun u66 H locs hp66 hI => ?_)
            have hI : jI G zA zs [aI G r5 500 sp, aI G r6 500 sl, aI G r7 500 sd, aI G r8 500 P, oC y0 9 [.int (nI 0), .ref r1, .int (nI n), .int (nI la), .int (nI lm), .int (nI lw), .ref r2, .ref r3, .ref r4, .int (nI kn), .ref r5, .ref r6, .ref r7, .int (nI k), .int (nI wp), .int (nI bt), .ref r8, .int (nI pn), .int (nI q), .int (nI 1), .ref r9, .int (nI ((b2 + 1) + 8)), .int (nI wz), .ref r10, .int (nI sz), .int (nI ia), .ref r11, .ref r12, .int tz, .ref r13, .int (nI ft)], aZ G r9 5600 (pt (P (sp i)) 8 (pt 0 1 g b2) (b2 + 1))] H locs := hI
            refine lv_goto (tgt := 144) zx zb dX9_write_69 (by decide) ?_
            refine lv_iinc (v := nI (i + 1)) (lv' := [(1, .int (nI (i + 1))), (0, .ref y0)]) zx zb dX9_write_144 hl (k := 1) rfl (j_inc _ _ _ (by decide)) (by decide) rfl (fun ls hl => ?_)
            refine lv_goto (tgt := 29) zx zb dX9_write_147 (by decide) ?_
            exact ih29 (i + 1) ((b2 + 1) + 8) (pt (P (sp i)) 8 (pt 0 1 g b2) (b2 + 1)) (by omega) (by rw [wal, wst, if_pos c43, ← hb2]) (by rw [wal, wst, if_pos c43, ← hb2, ← hg]) (by omega) _ _ _ (hI.sub [4, 0, 1, 2, 3, 5] rfl rfl) (lv_sub hl [1, 0] rfl)
    exact loop29 _ 0 (0 + 16) (pt pn 16 w 0) (by omega) rfl rfl (Nat.lt_succ_self _) _ _ _ (hI.sub [4, 0, 1, 2, 3, 5] rfl rfl) (lv_sub hl [1, 0] rfl)

set_option maxHeartbeats 4000000 in
set_option maxRecDepth 100000 in
theorem c_X9_write_no (zl : Launch) (G : jG) (y0 : Nat) (r1 : Nat) (r2 : Nat) (r3 : Nat) (r4 : Nat) (r5 : Nat) (r6 : Nat) (r7 : Nat) (r8 : Nat) (r9 : Nat) (r10 : Nat) (r11 : Nat) (r12 : Nat) (r13 : Nat) (n : Nat) (la : Nat) (lm : Nat) (lw : Nat) (kn : Nat) (wp : Nat) (bt : Nat) (pn : Nat) (q : Nat) (os : Nat) (wz : Nat) (sz : Nat) (ia : Nat) (ft : Nat) (tz : Int32) (w : Nat → Nat)  : jMet zl yX9_write wsX9_write ({ frames := 0, cells := 0, slots := 0, locals := 0 }) G [oC y0 9 [.int (nI 0), .ref r1, .int (nI n), .int (nI la), .int (nI lm), .int (nI lw), .ref r2, .ref r3, .ref r4, .int (nI kn), .ref r5, .ref r6, .ref r7, .int (nI 0), .int (nI wp), .int (nI bt), .ref r8, .int (nI pn), .int (nI q), .int (nI 0), .ref r9, .int (nI os), .int (nI wz), .ref r10, .int (nI sz), .int (nI ia), .ref r11, .ref r12, .int tz, .ref r13, .int (nI ft)], aZ G r9 5600 w] [.ref y0] (jQi G (fun (r : Int32) (u : Unit) => (r = nI 0)) (fun (u : Unit) => [oC y0 9 [.int (nI 0), .ref r1, .int (nI n), .int (nI la), .int (nI lm), .int (nI lw), .ref r2, .ref r3, .ref r4, .int (nI kn), .ref r5, .ref r6, .ref r7, .int (nI 0), .int (nI wp), .int (nI bt), .ref r8, .int (nI pn), .int (nI q), .int (nI 0), .ref r9, .int (nI 0), .int (nI 0), .ref r10, .int (nI sz), .int (nI ia), .ref r11, .ref r12, .int tz, .ref r13, .int (nI ft)], aZ G r9 5600 w])) 0 0 := by
  refine j_enter_i (cc := cX9_write) (nL := 4) (nm := "write") (own := RX9) (lv := [(0, .ref y0)]) (by decide) rfl (Nat.le_of_ble_eq_true rfl) rfl rfl rfl ?_
  intro zA zp ze zs zm zargs zbelow zmeth zc zQ ls hC hQ hI hl
  have zx := hC.1
  have zb := hC.2.1
  refine lv_aload_n zx zb dX9_write_0 rfl (lv_at hl 0 rfl) ?_
  refine lv_iconst (v := nI 0) zx zb dX9_write_1 (by decide) ?_
  refine j_put (w1 := [oC y0 9 [.int (nI 0), .ref r1, .int (nI n), .int (nI la), .int (nI lm), .int (nI lw), .ref r2, .ref r3, .ref r4, .int (nI kn), .ref r5, .ref r6, .ref r7, .int (nI 0), .int (nI wp), .int (nI bt), .ref r8, .int (nI pn), .int (nI q), .int (nI 0), .ref r9, .int (nI os), .int (nI wz), .ref r10, .int (nI sz), .int (nI ia), .ref r11, .ref r12, .int tz, .ref r13, .int (nI ft)], aZ G r9 5600 w]) hC hI hin_X9_write_X9 tyX9 tyX9_ok nmX9 0 rfl rfl 0 (by decide) hfl_X9_write_65 rfl rfl rfl rfl (Nat.le_of_ble_eq_true rfl) dX9_write_2 rfl (fun H locs hI => ?_)
  refine lv_aload_n zx zb dX9_write_5 rfl (lv_at hl 0 rfl) ?_
  refine lv_iconst (v := nI 0) zx zb dX9_write_6 (by decide) ?_
  refine j_put (w1 := [oC y0 9 [.int (nI 0), .ref r1, .int (nI n), .int (nI la), .int (nI lm), .int (nI lw), .ref r2, .ref r3, .ref r4, .int (nI kn), .ref r5, .ref r6, .ref r7, .int (nI 0), .int (nI wp), .int (nI bt), .ref r8, .int (nI pn), .int (nI q), .int (nI 0), .ref r9, .int (nI 0), .int (nI wz), .ref r10, .int (nI sz), .int (nI ia), .ref r11, .ref r12, .int tz, .ref r13, .int (nI ft)], aZ G r9 5600 w]) hC hI hin_X9_write_X9 tyX9 tyX9_ok nmX9 0 rfl rfl 21 (by decide) hfl_X9_write_131 rfl rfl rfl rfl (Nat.le_of_ble_eq_true rfl) dX9_write_7 rfl (fun H locs hI => ?_)
  refine lv_aload_n zx zb dX9_write_10 rfl (lv_at hl 0 rfl) ?_
  refine j_get hC hI hin_X9_write_X9 0 rfl rfl 19 (by decide) hfl_X9_write_128 rfl rfl dX9_write_11 ?_
  refine j_if_eq (tgt := 27) hC dX9_write_14 (by decide) (by omega) (fun c14 => ?_) (fun c14 => ?_)
  · refine lv_iconst (v := nI 0) zx zb dX9_write_27 (by decide) ?_
    refine lv_istore_n (lv' := [(1, .int (nI 0)), (0, .ref y0)]) zx zb dX9_write_28 rfl hl (by decide) rfl (fun ls hl => ?_)
    have loop29 : ∀ (H : Heap) (locs : List Loc) (ls : Array Slot), jI G zA zs [oC y0 9 [.int (nI 0), .ref r1, .int (nI n), .int (nI la), .int (nI lm), .int (nI lw), .ref r2, .ref r3, .ref r4, .int (nI kn), .ref r5, .ref r6, .ref r7, .int (nI 0), .int (nI wp), .int (nI bt), .ref r8, .int (nI pn), .int (nI q), .int (nI 0), .ref r9, .int (nI 0), .int (nI wz), .ref r10, .int (nI sz), .int (nI ia), .ref r11, .ref r12, .int tz, .ref r13, .int (nI ft)], aZ G r9 5600 w] H locs → lv_has ls 4 [(0, .ref y0), (1, .int (nI 0))] → W zp zl ze ({ frames := 0, cells := 0, slots := 0, locals := 0 }) zs zm zargs zbelow zmeth zc H locs 0 0 zQ (F0 zm 29 ls []) := by
      intro   H locs ls hI hl
      refine lv_iload_n zx zb dX9_write_29 rfl (lv_at hl 1 rfl) ?_
      refine lv_aload_n zx zb dX9_write_30 rfl (lv_at hl 0 rfl) ?_
      refine j_get hC hI hin_X9_write_X9 0 rfl rfl 13 (by decide) hfl_X9_write_93 rfl rfl dX9_write_31 ?_
      refine j_icmp_ge (tgt := 150) hC dX9_write_34 (by decide) (by omega) (by omega) (fun c34 => ?_) (fun c34 => ?_)
      · have loop150 : ∀ (H : Heap) (locs : List Loc) (ls : Array Slot), jI G zA zs [oC y0 9 [.int (nI 0), .ref r1, .int (nI n), .int (nI la), .int (nI lm), .int (nI lw), .ref r2, .ref r3, .ref r4, .int (nI kn), .ref r5, .ref r6, .ref r7, .int (nI 0), .int (nI wp), .int (nI bt), .ref r8, .int (nI pn), .int (nI q), .int (nI 0), .ref r9, .int (nI 0), .int (nI wz), .ref r10, .int (nI sz), .int (nI ia), .ref r11, .ref r12, .int tz, .ref r13, .int (nI ft)], aZ G r9 5600 w] H locs → lv_has ls 4 [(0, .ref y0)] → W zp zl ze ({ frames := 0, cells := 0, slots := 0, locals := 0 }) zs zm zargs zbelow zmeth zc H locs 0 0 zQ (F0 zm 150 ls []) := by
          intro   H locs ls hI hl
          refine lv_aload_n zx zb dX9_write_150 rfl (lv_at hl 0 rfl) ?_
          refine j_get hC hI hin_X9_write_X9 0 rfl rfl 21 (by decide) hfl_X9_write_131 rfl rfl dX9_write_151 ?_
          refine lv_bipush (v := nI 8) zx zb dX9_write_154 (by decide) ?_
          refine j_irem hC (by omega) (by omega) (by omega) dX9_write_156 ?_
          refine j_if_le (tgt := 169) hC dX9_write_157 (by decide) (by omega) (fun c157 => ?_) (fun c157 => ?_)
          · refine lv_aload_n zx zb dX9_write_169 rfl (lv_at hl 0 rfl) ?_
            refine lv_aload_n zx zb dX9_write_170 rfl (lv_at hl 0 rfl) ?_
            refine j_get hC hI hin_X9_write_X9 0 rfl rfl 21 (by decide) hfl_X9_write_131 rfl rfl dX9_write_171 ?_
            refine lv_bipush (v := nI 8) zx zb dX9_write_174 (by decide) ?_
            refine j_idiv hC (by omega) (by omega) (by omega) dX9_write_176 ?_
            refine j_put (w1 := [oC y0 9 [.int (nI 0), .ref r1, .int (nI n), .int (nI la), .int (nI lm), .int (nI lw), .ref r2, .ref r3, .ref r4, .int (nI kn), .ref r5, .ref r6, .ref r7, .int (nI 0), .int (nI wp), .int (nI bt), .ref r8, .int (nI pn), .int (nI q), .int (nI 0), .ref r9, .int (nI 0), .int (nI (0 / 8)), .ref r10, .int (nI sz), .int (nI ia), .ref r11, .ref r12, .int tz, .ref r13, .int (nI ft)], aZ G r9 5600 w]) hC hI hin_X9_write_X9 tyX9 tyX9_ok nmX9 0 rfl rfl 22 (by decide) hfl_X9_write_138 rfl rfl rfl rfl (Nat.le_of_ble_eq_true rfl) dX9_write_177 rfl (fun H locs hI => ?_)
            refine lv_aload_n zx zb dX9_write_180 rfl (lv_at hl 0 rfl) ?_
            refine j_get hC hI hin_X9_write_X9 0 rfl rfl 22 (by decide) hfl_X9_write_138 rfl rfl dX9_write_181 ?_
            exact hQ _ _ _ _ _ () dX9_write_184 (hI.sub [0, 1] rfl rfl) (by first | rfl | (congr 1; omega) | omega)
          · exact (by omega : False).elim
        exact loop150    _ _ _ hI (lv_sub hl [0] rfl)
      · exact (by omega : False).elim
    exact loop29    _ _ _ hI (lv_sub hl [1, 0] rfl)
  · exact (by omega : False).elim

theorem hin_X9_written_X9 : ∀ w ∈ wsX90, w ∈ wsX9_written := by decide +kernel
theorem hfl_X9_written_65 : Cond.fieldLink RX9 65 "CheapParseModel" "thrown" "I" ∈ wsX9_written := by decide +kernel
theorem hfl_X9_written_138 : Cond.fieldLink RX9 138 "CheapParseModel" "writtenSize" "I" ∈ wsX9_written := by decide +kernel
theorem hfl_X9_written_46 : Cond.fieldLink RX9 46 "CheapParseModel" "out" "[Z" ∈ wsX9_written := by decide +kernel
set_option maxHeartbeats 4000000 in
set_option maxRecDepth 100000 in
theorem c_X9_written (zl : Launch) (G : jG) (y0 : Nat) (r1 : Nat) (r2 : Nat) (r3 : Nat) (r4 : Nat) (r5 : Nat) (r6 : Nat) (r7 : Nat) (r8 : Nat) (r9 : Nat) (r10 : Nat) (r11 : Nat) (r12 : Nat) (r13 : Nat) (n : Nat) (la : Nat) (lm : Nat) (lw : Nat) (kn : Nat) (k : Nat) (wp : Nat) (bt : Nat) (pn : Nat) (q : Nat) (th : Nat) (os : Nat) (wz : Nat) (sz : Nat) (ia : Nat) (ft : Nat) (tz : Int32) (w : Nat → Nat) (i : Int32) (hz : wz ≤ 700) (hw : ∀ j, w j ≤ 1) : jMet zl yX9_written wsX9_written ({ frames := 0, cells := 0, slots := 0, locals := 0 }) G [oC y0 9 [.int (nI 0), .ref r1, .int (nI n), .int (nI la), .int (nI lm), .int (nI lw), .ref r2, .ref r3, .ref r4, .int (nI kn), .ref r5, .ref r6, .ref r7, .int (nI k), .int (nI wp), .int (nI bt), .ref r8, .int (nI pn), .int (nI q), .int (nI th), .ref r9, .int (nI os), .int (nI wz), .ref r10, .int (nI sz), .int (nI ia), .ref r11, .ref r12, .int tz, .ref r13, .int (nI ft)], aZ G r9 5600 w] [.ref y0, .int i] (jQi G (fun (r : Int32) (u : Unit) => (wrA w wz i r)) (fun (u : Unit) => [oC y0 9 [.int (nI 0), .ref r1, .int (nI n), .int (nI la), .int (nI lm), .int (nI lw), .ref r2, .ref r3, .ref r4, .int (nI kn), .ref r5, .ref r6, .ref r7, .int (nI k), .int (nI wp), .int (nI bt), .ref r8, .int (nI pn), .int (nI q), .int (nI th), .ref r9, .int (nI os), .int (nI wz), .ref r10, .int (nI sz), .int (nI ia), .ref r11, .ref r12, .int tz, .ref r13, .int (nI ft)], aZ G r9 5600 w])) 0 0 := by
  refine j_enter_i (cc := cX9_written) (nL := 4) (nm := "written") (own := RX9) (lv := [(0, .ref y0), (1, .int i)]) (by decide) rfl (Nat.le_of_ble_eq_true rfl) rfl rfl rfl ?_
  intro zA zp ze zs zm zargs zbelow zmeth zc zQ ls hC hQ hI hl
  have zx := hC.1
  have zb := hC.2.1
  refine lv_aload_n zx zb dX9_written_0 rfl (lv_at hl 0 rfl) ?_
  refine lv_iconst (v := nI 0) zx zb dX9_written_1 (by decide) ?_
  refine j_put (w1 := [oC y0 9 [.int (nI 0), .ref r1, .int (nI n), .int (nI la), .int (nI lm), .int (nI lw), .ref r2, .ref r3, .ref r4, .int (nI kn), .ref r5, .ref r6, .ref r7, .int (nI k), .int (nI wp), .int (nI bt), .ref r8, .int (nI pn), .int (nI q), .int (nI th), .ref r9, .int (nI os), .int (nI wz), .ref r10, .int (nI sz), .int (nI ia), .ref r11, .ref r12, .int tz, .ref r13, .int (nI ft)], aZ G r9 5600 w]) hC hI hin_X9_written_X9 tyX9 tyX9_ok nmX9 0 rfl rfl 0 (by decide) hfl_X9_written_65 rfl rfl rfl rfl (Nat.le_of_ble_eq_true rfl) dX9_written_2 rfl (fun H locs hI => ?_)
  rcases in_or i wz with ⟨j5, hj, rfl⟩ | hno
  · refine lv_iload_n zx zb dX9_written_5 rfl (lv_at hl 1 rfl) ?_
    refine j_if_lt (tgt := 17) hC dX9_written_6 (by decide) (by omega) ?_
    refine lv_iload_n zx zb dX9_written_9 rfl (lv_at hl 1 rfl) ?_
    refine lv_aload_n zx zb dX9_written_10 rfl (lv_at hl 0 rfl) ?_
    refine j_get hC hI hin_X9_written_X9 0 rfl rfl 22 (by decide) hfl_X9_written_138 rfl rfl dX9_written_11 ?_
    refine j_icmp_lt (tgt := 19) hC dX9_written_14 (by decide) (by omega) (by omega) (fun c14 => ?_) (fun c14 => ?_)
    · refine lv_iconst (v := nI 0) zx zb dX9_written_19 (by decide) ?_
      refine lv_istore_n (lv' := [(2, .int (nI 0)), (0, .ref y0), (1, .int (nI j5))]) zx zb dX9_written_20 rfl hl (by decide) rfl (fun ls hl => ?_)
      refine lv_iconst (v := nI 0) zx zb dX9_written_21 (by decide) ?_
      refine lv_istore_n (lv' := [(3, .int (nI 0)), (2, .int (nI 0)), (0, .ref y0), (1, .int (nI j5))]) zx zb dX9_written_22 rfl hl (by decide) rfl (fun ls hl => ?_)
      have loop23 : ∀ (zn23 : Nat) (e : Nat) (v : Nat), (e ≤ 8) → (v = bv w j5 e) → (8 - e) < zn23 → ∀ (H : Heap) (locs : List Loc) (ls : Array Slot), jI G zA zs [oC y0 9 [.int (nI 0), .ref r1, .int (nI n), .int (nI la), .int (nI lm), .int (nI lw), .ref r2, .ref r3, .ref r4, .int (nI kn), .ref r5, .ref r6, .ref r7, .int (nI k), .int (nI wp), .int (nI bt), .ref r8, .int (nI pn), .int (nI q), .int (nI th), .ref r9, .int (nI os), .int (nI wz), .ref r10, .int (nI sz), .int (nI ia), .ref r11, .ref r12, .int tz, .ref r13, .int (nI ft)], aZ G r9 5600 w] H locs → lv_has ls 4 [(0, .ref y0), (1, .int (nI j5)), (2, .int (nI v)), (3, .int (nI e))] → W zp zl ze ({ frames := 0, cells := 0, slots := 0, locals := 0 }) zs zm zargs zbelow zmeth zc H locs 0 0 zQ (F0 zm 23 ls []) := by
        intro zn23
        induction zn23 with
        | zero => intros; omega
        | succ zn23 ih23 =>
          intro e v he hv zm23 H locs ls hI hl
          have hbl : bv w j5 e < 2 ^ e := bv_lt e (fun j _ => hw _)
          have hb2 : 2 ^ e ≤ 256 := Nat.le_trans (Nat.pow_le_pow_right (by decide) he) (by decide)
          have hwe := hw (8 * j5 + e)
          refine lv_iload_n zx zb dX9_written_23 rfl (lv_at hl 3 rfl) ?_
          refine lv_bipush (v := nI 8) zx zb dX9_written_24 (by decide) ?_
          refine j_icmp_ge (tgt := 59) hC dX9_written_26 (by decide) (by omega) (by omega) (fun c26 => ?_) (fun c26 => ?_)
          · refine lv_iload_n zx zb dX9_written_59 rfl (lv_at hl 2 rfl) ?_
            exact hQ _ _ _ _ _ () dX9_written_60 (hI.sub [0, 1] rfl rfl) (Or.inl ⟨j5, hj, rfl, by rw [hv, show e = 8 by omega]⟩)
          · refine lv_iconst (v := nI 2) zx zb dX9_written_29 (by decide) ?_
            refine lv_iload_n zx zb dX9_written_30 rfl (lv_at hl 2 rfl) ?_
            refine j_imul hC dX9_written_31 ?_
            refine lv_aload_n zx zb dX9_written_32 rfl (lv_at hl 0 rfl) ?_
            refine j_get hC hI hin_X9_written_X9 0 rfl rfl 20 (by decide) hfl_X9_written_46 rfl rfl dX9_written_33 ?_
            refine lv_bipush (v := nI 8) zx zb dX9_written_36 (by decide) ?_
            refine lv_iload_n zx zb dX9_written_38 rfl (lv_at hl 1 rfl) ?_
            refine j_imul hC dX9_written_39 ?_
            refine lv_iload_n zx zb dX9_written_40 rfl (lv_at hl 3 rfl) ?_
            refine j_iadd hC dX9_written_41 ?_
            refine j_zald hC hI 1 rfl (by omega) (by omega) dX9_written_42 ?_
            refine j_if_eq (tgt := 50) hC dX9_written_43 (by decide) (by omega) (fun c43 => ?_) (fun c43 => ?_)
            · refine lv_iconst (v := nI 0) zx zb dX9_written_50 (by decide) ?_
              refine j_iadd hC dX9_written_51 ?_
              refine lv_istore_n (lv' := [(2, .int (nI ((2 * v) + 0))), (0, .ref y0), (1, .int (nI j5)), (3, .int (nI e))]) zx zb dX9_written_52 rfl hl (by decide) rfl (fun ls hl => ?_)
              refine lv_iinc (v := nI (e + 1)) (lv' := [(3, .int (nI (e + 1))), (2, .int (nI ((2 * v) + 0))), (0, .ref y0), (1, .int (nI j5))]) zx zb dX9_written_53 hl (k := 3) rfl (j_inc _ _ _ (by decide)) (by decide) rfl (fun ls hl => ?_)
              refine lv_goto (tgt := 23) zx zb dX9_written_56 (by decide) ?_
              exact ih23 (e + 1) ((2 * v) + 0) (by omega) (by rw [bv, ← hv]; omega) (by omega) _ _ _ hI (lv_sub hl [2, 3, 1, 0] rfl)
            · refine lv_iconst (v := nI 1) zx zb dX9_written_46 (by decide) ?_
              refine lv_goto (tgt := 51) zx zb dX9_written_47 (by decide) ?_
              refine j_iadd hC dX9_written_51 ?_
              refine lv_istore_n (lv' := [(2, .int (nI ((2 * v) + 1))), (0, .ref y0), (1, .int (nI j5)), (3, .int (nI e))]) zx zb dX9_written_52 rfl hl (by decide) rfl (fun ls hl => ?_)
              refine lv_iinc (v := nI (e + 1)) (lv' := [(3, .int (nI (e + 1))), (2, .int (nI ((2 * v) + 1))), (0, .ref y0), (1, .int (nI j5))]) zx zb dX9_written_53 hl (k := 3) rfl (j_inc _ _ _ (by decide)) (by decide) rfl (fun ls hl => ?_)
              refine lv_goto (tgt := 23) zx zb dX9_written_56 (by decide) ?_
              exact ih23 (e + 1) ((2 * v) + 1) (by omega) (by rw [bv, ← hv]; omega) (by omega) _ _ _ hI (lv_sub hl [2, 3, 1, 0] rfl)
      exact loop23 _ 0 0 (by omega) rfl (Nat.lt_succ_self _) _ _ _ hI (lv_sub hl [2, 3, 1, 0] rfl)
    · exact (by omega : False).elim
  · refine lv_iload_n zx zb dX9_written_5 rfl (lv_at hl 1 rfl) ?_
    refine jz_if_lt (tgt := 17) hC dX9_written_6 (by decide) (fun c6 => ?_) (fun j6 j6a j6e => ?_)
    · refine lv_iconst (v := (-1)) zx zb dX9_written_17 (by decide) ?_
      exact hQ _ _ _ _ _ () dX9_written_18 (hI.sub [0, 1] rfl rfl) (Or.inr ⟨hno, rfl⟩)
    · subst j6e
      refine lv_iload_n zx zb dX9_written_9 rfl (lv_at hl 1 rfl) ?_
      refine lv_aload_n zx zb dX9_written_10 rfl (lv_at hl 0 rfl) ?_
      refine j_get hC hI hin_X9_written_X9 0 rfl rfl 22 (by decide) hfl_X9_written_138 rfl rfl dX9_written_11 ?_
      refine j_icmp_lt (tgt := 19) hC dX9_written_14 (by decide) (by omega) (by omega) (fun c14 => ?_) (fun c14 => ?_)
      · exact absurd rfl (hno j6 c14)
      · refine lv_iconst (v := (-1)) zx zb dX9_written_17 (by decide) ?_
        exact hQ _ _ _ _ _ () dX9_written_18 (hI.sub [0, 1] rfl rfl) (Or.inr ⟨hno, rfl⟩)

theorem hin_X9_taken_X9 : ∀ w ∈ wsX90, w ∈ wsX9_taken := by decide +kernel
theorem hfl_X9_taken_65 : Cond.fieldLink RX9 65 "CheapParseModel" "thrown" "I" ∈ wsX9_taken := by decide +kernel
theorem hfl_X9_taken_59 : Cond.fieldLink RX9 59 "CheapParseModel" "takenSize" "I" ∈ wsX9_taken := by decide +kernel
set_option maxHeartbeats 4000000 in
set_option maxRecDepth 100000 in
theorem c_X9_taken_no (zl : Launch) (G : jG) (y0 : Nat) (r1 : Nat) (r2 : Nat) (r3 : Nat) (r4 : Nat) (r5 : Nat) (r6 : Nat) (r7 : Nat) (r8 : Nat) (r9 : Nat) (r10 : Nat) (r11 : Nat) (r12 : Nat) (r13 : Nat) (n : Nat) (la : Nat) (lm : Nat) (lw : Nat) (kn : Nat) (k : Nat) (wp : Nat) (bt : Nat) (pn : Nat) (q : Nat) (th : Nat) (os : Nat) (wz : Nat) (sz : Nat) (ia : Nat) (ft : Nat) (i : Int32)  : jMet zl yX9_taken wsX9_taken ({ frames := 0, cells := 0, slots := 0, locals := 0 }) G [oC y0 9 [.int (nI 0), .ref r1, .int (nI n), .int (nI la), .int (nI lm), .int (nI lw), .ref r2, .ref r3, .ref r4, .int (nI kn), .ref r5, .ref r6, .ref r7, .int (nI k), .int (nI wp), .int (nI bt), .ref r8, .int (nI pn), .int (nI q), .int (nI th), .ref r9, .int (nI os), .int (nI wz), .ref r10, .int (nI sz), .int (nI ia), .ref r11, .ref r12, .int ((-1)), .ref r13, .int (nI ft)]] [.ref y0, .int i] (jQi G (fun (r : Int32) (u : Unit) => (r = -1)) (fun (u : Unit) => [oC y0 9 [.int (nI 0), .ref r1, .int (nI n), .int (nI la), .int (nI lm), .int (nI lw), .ref r2, .ref r3, .ref r4, .int (nI kn), .ref r5, .ref r6, .ref r7, .int (nI k), .int (nI wp), .int (nI bt), .ref r8, .int (nI pn), .int (nI q), .int (nI th), .ref r9, .int (nI os), .int (nI wz), .ref r10, .int (nI sz), .int (nI ia), .ref r11, .ref r12, .int ((-1)), .ref r13, .int (nI ft)]])) 0 0 := by
  refine j_enter_i (cc := cX9_taken) (nL := 2) (nm := "taken") (own := RX9) (lv := [(0, .ref y0), (1, .int i)]) (by decide) rfl (Nat.le_of_ble_eq_true rfl) rfl rfl rfl ?_
  intro zA zp ze zs zm zargs zbelow zmeth zc zQ ls hC hQ hI hl
  have zx := hC.1
  have zb := hC.2.1
  refine lv_aload_n zx zb dX9_taken_0 rfl (lv_at hl 0 rfl) ?_
  refine lv_iconst (v := nI 0) zx zb dX9_taken_1 (by decide) ?_
  refine j_put (w1 := [oC y0 9 [.int (nI 0), .ref r1, .int (nI n), .int (nI la), .int (nI lm), .int (nI lw), .ref r2, .ref r3, .ref r4, .int (nI kn), .ref r5, .ref r6, .ref r7, .int (nI k), .int (nI wp), .int (nI bt), .ref r8, .int (nI pn), .int (nI q), .int (nI th), .ref r9, .int (nI os), .int (nI wz), .ref r10, .int (nI sz), .int (nI ia), .ref r11, .ref r12, .int ((-1)), .ref r13, .int (nI ft)]]) hC hI hin_X9_taken_X9 tyX9 tyX9_ok nmX9 0 rfl rfl 0 (by decide) hfl_X9_taken_65 rfl rfl rfl rfl (Nat.le_of_ble_eq_true rfl) dX9_taken_2 rfl (fun H locs hI => ?_)
  refine lv_iload_n zx zb dX9_taken_5 rfl (lv_at hl 1 rfl) ?_
  refine lv_iconst (v := (-1)) zx zb dX9_taken_6 (by decide) ?_
  refine lv_icmp_ne (tgt := 17) zx zb dX9_taken_7 (by decide) (fun c7 => ?_) (fun c7 => ?_)
  · refine lv_iload_n zx zb dX9_taken_17 rfl (lv_at hl 1 rfl) ?_
    refine jz_if_lt (tgt := 38) hC dX9_taken_18 (by decide) (fun c18 => ?_) (fun j18 j18a j18e => ?_)
    · refine lv_iconst (v := (-1)) zx zb dX9_taken_38 (by decide) ?_
      exact hQ _ _ _ _ _ () dX9_taken_39 (hI.sub [0] rfl rfl) (by first | rfl | (congr 1; omega) | omega)
    · subst j18e
      refine lv_iload_n zx zb dX9_taken_21 rfl (lv_at hl 1 rfl) ?_
      refine lv_aload_n zx zb dX9_taken_22 rfl (lv_at hl 0 rfl) ?_
      refine j_get hC hI hin_X9_taken_X9 0 rfl rfl 28 (by decide) hfl_X9_taken_59 rfl rfl dX9_taken_23 ?_
      refine lv_icmp_ge (tgt := 38) zx zb dX9_taken_26 (by decide) (fun c26 => ?_) (fun c26 => ?_)
      · refine lv_iconst (v := (-1)) zx zb dX9_taken_38 (by decide) ?_
        exact hQ _ _ _ _ _ () dX9_taken_39 (hI.sub [0] rfl rfl) (by first | rfl | (congr 1; omega) | omega)
      · exact absurd (Int32.le_of_lt (Int32.lt_of_lt_of_le (by decide) (nI_ge0 (by omega)))) c26
  · refine lv_aload_n zx zb dX9_taken_10 rfl (lv_at hl 0 rfl) ?_
    refine j_get hC hI hin_X9_taken_X9 0 rfl rfl 28 (by decide) hfl_X9_taken_59 rfl rfl dX9_taken_11 ?_
    refine lv_goto (tgt := 39) zx zb dX9_taken_14 (by decide) ?_
    exact hQ _ _ _ _ _ () dX9_taken_39 (hI.sub [0] rfl rfl) (by first | rfl | (congr 1; omega) | omega)

theorem hfl_X9_taken_56 : Cond.fieldLink RX9 56 "CheapParseModel" "taken" "[I" ∈ wsX9_taken := by decide +kernel
set_option maxHeartbeats 4000000 in
set_option maxRecDepth 100000 in
theorem c_X9_taken_yes (zl : Launch) (G : jG) (y0 : Nat) (r1 : Nat) (r2 : Nat) (r3 : Nat) (r4 : Nat) (r5 : Nat) (r6 : Nat) (r7 : Nat) (r8 : Nat) (r9 : Nat) (r10 : Nat) (r11 : Nat) (r12 : Nat) (r13 : Nat) (n : Nat) (la : Nat) (lm : Nat) (lw : Nat) (kn : Nat) (k : Nat) (wp : Nat) (bt : Nat) (pn : Nat) (q : Nat) (th : Nat) (os : Nat) (wz : Nat) (sz : Nat) (ia : Nat) (ft : Nat) (RR : Nat → Nat) (rn : Nat) (i : Int32) (hr : rn ≤ 500) : jMet zl yX9_taken wsX9_taken ({ frames := 0, cells := 0, slots := 0, locals := 0 }) G [oC y0 9 [.int (nI 0), .ref r1, .int (nI n), .int (nI la), .int (nI lm), .int (nI lw), .ref r2, .ref r3, .ref r4, .int (nI kn), .ref r5, .ref r6, .ref r7, .int (nI k), .int (nI wp), .int (nI bt), .ref r8, .int (nI pn), .int (nI q), .int (nI th), .ref r9, .int (nI os), .int (nI wz), .ref r10, .int (nI sz), .int (nI ia), .ref r11, .ref r12, .int (nI rn), .ref r13, .int (nI ft)], aI G r12 500 RR] [.ref y0, .int i] (jQi G (fun (r : Int32) (u : Unit) => (r = tkA RR rn i)) (fun (u : Unit) => [oC y0 9 [.int (nI 0), .ref r1, .int (nI n), .int (nI la), .int (nI lm), .int (nI lw), .ref r2, .ref r3, .ref r4, .int (nI kn), .ref r5, .ref r6, .ref r7, .int (nI k), .int (nI wp), .int (nI bt), .ref r8, .int (nI pn), .int (nI q), .int (nI th), .ref r9, .int (nI os), .int (nI wz), .ref r10, .int (nI sz), .int (nI ia), .ref r11, .ref r12, .int (nI rn), .ref r13, .int (nI ft)], aI G r12 500 RR])) 0 0 := by
  refine j_enter_i (cc := cX9_taken) (nL := 2) (nm := "taken") (own := RX9) (lv := [(0, .ref y0), (1, .int i)]) (by decide) rfl (Nat.le_of_ble_eq_true rfl) rfl rfl rfl ?_
  intro zA zp ze zs zm zargs zbelow zmeth zc zQ ls hC hQ hI hl
  have zx := hC.1
  have zb := hC.2.1
  refine lv_aload_n zx zb dX9_taken_0 rfl (lv_at hl 0 rfl) ?_
  refine lv_iconst (v := nI 0) zx zb dX9_taken_1 (by decide) ?_
  refine j_put (w1 := [oC y0 9 [.int (nI 0), .ref r1, .int (nI n), .int (nI la), .int (nI lm), .int (nI lw), .ref r2, .ref r3, .ref r4, .int (nI kn), .ref r5, .ref r6, .ref r7, .int (nI k), .int (nI wp), .int (nI bt), .ref r8, .int (nI pn), .int (nI q), .int (nI th), .ref r9, .int (nI os), .int (nI wz), .ref r10, .int (nI sz), .int (nI ia), .ref r11, .ref r12, .int (nI rn), .ref r13, .int (nI ft)], aI G r12 500 RR]) hC hI hin_X9_taken_X9 tyX9 tyX9_ok nmX9 0 rfl rfl 0 (by decide) hfl_X9_taken_65 rfl rfl rfl rfl (Nat.le_of_ble_eq_true rfl) dX9_taken_2 rfl (fun H locs hI => ?_)
  refine lv_iload_n zx zb dX9_taken_5 rfl (lv_at hl 1 rfl) ?_
  refine lv_iconst (v := (-1)) zx zb dX9_taken_6 (by decide) ?_
  refine lv_icmp_ne (tgt := 17) zx zb dX9_taken_7 (by decide) (fun c7 => ?_) (fun c7 => ?_)
  · refine lv_iload_n zx zb dX9_taken_17 rfl (lv_at hl 1 rfl) ?_
    refine jz_if_lt (tgt := 38) hC dX9_taken_18 (by decide) (fun c18 => ?_) (fun j18 j18a j18e => ?_)
    · refine lv_iconst (v := (-1)) zx zb dX9_taken_38 (by decide) ?_
      exact hQ _ _ _ _ _ () dX9_taken_39 (hI.sub [0, 1] rfl rfl) (by rw [tkA, if_neg c7, gt_neg c18])
    · subst j18e
      refine lv_iload_n zx zb dX9_taken_21 rfl (lv_at hl 1 rfl) ?_
      refine lv_aload_n zx zb dX9_taken_22 rfl (lv_at hl 0 rfl) ?_
      refine j_get hC hI hin_X9_taken_X9 0 rfl rfl 28 (by decide) hfl_X9_taken_59 rfl rfl dX9_taken_23 ?_
      refine j_icmp_ge (tgt := 38) hC dX9_taken_26 (by decide) (by omega) (by omega) (fun c26 => ?_) (fun c26 => ?_)
      · refine lv_iconst (v := (-1)) zx zb dX9_taken_38 (by decide) ?_
        exact hQ _ _ _ _ _ () dX9_taken_39 (hI.sub [0, 1] rfl rfl) (by rw [tkA, if_neg c7, gt_ge (by omega) (by omega)])
      · refine lv_aload_n zx zb dX9_taken_29 rfl (lv_at hl 0 rfl) ?_
        refine j_get hC hI hin_X9_taken_X9 0 rfl rfl 27 (by decide) hfl_X9_taken_56 rfl rfl dX9_taken_30 ?_
        refine lv_iload_n zx zb dX9_taken_33 rfl (lv_at hl 1 rfl) ?_
        refine j_iald hC hI 1 rfl (by omega) (by omega) dX9_taken_34 ?_
        refine lv_goto (tgt := 39) zx zb dX9_taken_35 (by decide) ?_
        exact hQ _ _ _ _ _ () dX9_taken_39 (hI.sub [0, 1] rfl rfl) (by rw [tkA, if_neg c7, gt_in (by omega) (by omega)])
  · refine lv_aload_n zx zb dX9_taken_10 rfl (lv_at hl 0 rfl) ?_
    refine j_get hC hI hin_X9_taken_X9 0 rfl rfl 28 (by decide) hfl_X9_taken_59 rfl rfl dX9_taken_11 ?_
    refine lv_goto (tgt := 39) zx zb dX9_taken_14 (by decide) ?_
    exact hQ _ _ _ _ _ () dX9_taken_39 (hI.sub [0, 1] rfl rfl) (by rw [tkA, if_pos c7])

theorem hin_X9_check_X9 : ∀ w ∈ wsX90, w ∈ wsX9_check := by decide +kernel
theorem hfl_X9_check_65 : Cond.fieldLink RX9 65 "CheapParseModel" "thrown" "I" ∈ wsX9_check := by decide +kernel
set_option maxHeartbeats 4000000 in
set_option maxRecDepth 100000 in
theorem c_X9_check (zl : Launch) (G : jG) (y0 : Nat) (r1 : Nat) (r2 : Nat) (r3 : Nat) (r4 : Nat) (r5 : Nat) (r6 : Nat) (r7 : Nat) (r8 : Nat) (r9 : Nat) (r10 : Nat) (r11 : Nat) (r12 : Nat) (r13 : Nat) (n : Nat) (la : Nat) (lm : Nat) (lw : Nat) (kn : Nat) (k : Nat) (wp : Nat) (bt : Nat) (pn : Nat) (q : Nat) (th : Nat) (os : Nat) (wz : Nat) (sz : Nat) (ia : Nat) (ft : Nat) (tz : Int32)  : jMet zl yX9_check wsX9_check ({ frames := 0, cells := 0, slots := 0, locals := 0 }) G [oC y0 9 [.int (nI 0), .ref r1, .int (nI n), .int (nI la), .int (nI lm), .int (nI lw), .ref r2, .ref r3, .ref r4, .int (nI kn), .ref r5, .ref r6, .ref r7, .int (nI k), .int (nI wp), .int (nI bt), .ref r8, .int (nI pn), .int (nI q), .int (nI th), .ref r9, .int (nI os), .int (nI wz), .ref r10, .int (nI sz), .int (nI ia), .ref r11, .ref r12, .int tz, .ref r13, .int (nI ft)]] [.ref y0] (jQi G (fun (r : Int32) (u : Unit) => (r = nI 1)) (fun (u : Unit) => [oC y0 9 [.int (nI 0), .ref r1, .int (nI n), .int (nI la), .int (nI lm), .int (nI lw), .ref r2, .ref r3, .ref r4, .int (nI kn), .ref r5, .ref r6, .ref r7, .int (nI k), .int (nI wp), .int (nI bt), .ref r8, .int (nI pn), .int (nI q), .int (nI th), .ref r9, .int (nI os), .int (nI wz), .ref r10, .int (nI sz), .int (nI ia), .ref r11, .ref r12, .int tz, .ref r13, .int (nI ft)]])) 0 0 := by
  refine j_enter_i (cc := cX9_check) (nL := 1) (nm := "check") (own := RX9) (lv := [(0, .ref y0)]) (by decide) rfl (Nat.le_of_ble_eq_true rfl) rfl rfl rfl ?_
  intro zA zp ze zs zm zargs zbelow zmeth zc zQ ls hC hQ hI hl
  have zx := hC.1
  have zb := hC.2.1
  refine lv_aload_n zx zb dX9_check_0 rfl (lv_at hl 0 rfl) ?_
  refine lv_iconst (v := nI 0) zx zb dX9_check_1 (by decide) ?_
  refine j_put (w1 := [oC y0 9 [.int (nI 0), .ref r1, .int (nI n), .int (nI la), .int (nI lm), .int (nI lw), .ref r2, .ref r3, .ref r4, .int (nI kn), .ref r5, .ref r6, .ref r7, .int (nI k), .int (nI wp), .int (nI bt), .ref r8, .int (nI pn), .int (nI q), .int (nI th), .ref r9, .int (nI os), .int (nI wz), .ref r10, .int (nI sz), .int (nI ia), .ref r11, .ref r12, .int tz, .ref r13, .int (nI ft)]]) hC hI hin_X9_check_X9 tyX9 tyX9_ok nmX9 0 rfl rfl 0 (by decide) hfl_X9_check_65 rfl rfl rfl rfl (Nat.le_of_ble_eq_true rfl) dX9_check_2 rfl (fun H locs hI => ?_)
  refine lv_iconst (v := nI 1) zx zb dX9_check_5 (by decide) ?_
  exact hQ _ _ _ _ _ () dX9_check_6 (hI.sub [0] rfl rfl) (by first | rfl | (congr 1; omega) | omega)

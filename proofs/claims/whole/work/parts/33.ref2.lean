theorem hin_X9_findFar_X9 : ∀ w ∈ wsX90, w ∈ wsX9_findFar := by decide +kernel
theorem hfl_X9_findFar_62 : Cond.fieldLink RX9 62 "CheapParseModel" "far" "[I" ∈ wsX9_findFar := by decide +kernel
set_option maxHeartbeats 4000000 in
set_option maxRecDepth 100000 in
theorem c_X9_findFar (zl : Launch) (G : jG) (y0 : Nat) (r1 : Nat) (r2 : Nat) (r3 : Nat) (r4 : Nat) (r5 : Nat) (r6 : Nat) (r7 : Nat) (r8 : Nat) (r9 : Nat) (r10 : Nat) (r11 : Nat) (r12 : Nat) (r13 : Nat) (n : Nat) (la : Nat) (lm : Nat) (lw : Nat) (kn : Nat) (k : Nat) (wp : Nat) (bt : Nat) (pn : Nat) (q : Nat) (th : Nat) (os : Nat) (wz : Nat) (sz : Nat) (ia : Nat) (ft : Nat) (tz : Int32) (T : Nat → Nat) (cm : Nat → Nat) (fa : Nat → Nat) (p : Nat) (hn : n ≤ 500) (hl0 : 2 ≤ la ∧ la ≤ lm ∧ lm ≤ 255 ∧ lw ≤ 500) (hp : p < n) (hc : cmO T n cm p) : jMet zl yX9_findFar wsX9_findFar ({ frames := 1, cells := 0, slots := 0, locals := 23 }) G [oC y0 9 [.int (nI 0), .ref r1, .int (nI n), .int (nI la), .int (nI lm), .int (nI lw), .ref r2, .ref r3, .ref r4, .int (nI kn), .ref r5, .ref r6, .ref r7, .int (nI k), .int (nI wp), .int (nI bt), .ref r8, .int (nI pn), .int (nI q), .int (nI th), .ref r9, .int (nI os), .int (nI wz), .ref r10, .int (nI sz), .int (nI ia), .ref r11, .ref r12, .int tz, .ref r13, .int (nI ft)], aS G r3 251502 cm, aI G r13 9 fa] [.ref y0, .int (nI p)] (jQv G (fun (u : (Nat → Nat)) => (∀ c, c < 9 → u c = rxc la lm lw T n p c)) (fun (u : (Nat → Nat)) => [oC y0 9 [.int (nI 0), .ref r1, .int (nI n), .int (nI la), .int (nI lm), .int (nI lw), .ref r2, .ref r3, .ref r4, .int (nI kn), .ref r5, .ref r6, .ref r7, .int (nI k), .int (nI wp), .int (nI bt), .ref r8, .int (nI pn), .int (nI q), .int (nI th), .ref r9, .int (nI os), .int (nI wz), .ref r10, .int (nI sz), .int (nI ia), .ref r11, .ref r12, .int tz, .ref r13, .int (nI ft)], aS G r3 251502 cm, aI G r13 9 u])) 0 0 := by
  refine j_enter_v (cc := cX9_findFar) (nL := 4) (nm := "findFar") (own := RX9) (lv := [(0, .ref y0), (1, .int (nI p))]) (by decide) rfl (Nat.le_of_ble_eq_true rfl) rfl rfl rfl ?_
  intro zA zp ze zs zm zargs zbelow zmeth zc zQ ls hC hQ hI hl
  have zx := hC.1
  have zb := hC.2.1
  refine lv_iconst (v := nI 0) zx zb dX9_findFar_0 (by decide) ?_
  refine lv_istore_n (lv' := [(2, .int (nI 0)), (0, .ref y0), (1, .int (nI p))]) zx zb dX9_findFar_1 rfl hl (by decide) rfl (fun ls hl => ?_)
  have loop2 : ∀ (zn2 : Nat) (c : Nat) (e : Nat → Nat), (c ≤ 9) → (∀ i, i < c → e i = rxc la lm lw T n p i) → (9 - c) < zn2 → ∀ (H : Heap) (locs : List Loc) (ls : Array Slot), jI G zA zs [oC y0 9 [.int (nI 0), .ref r1, .int (nI n), .int (nI la), .int (nI lm), .int (nI lw), .ref r2, .ref r3, .ref r4, .int (nI kn), .ref r5, .ref r6, .ref r7, .int (nI k), .int (nI wp), .int (nI bt), .ref r8, .int (nI pn), .int (nI q), .int (nI th), .ref r9, .int (nI os), .int (nI wz), .ref r10, .int (nI sz), .int (nI ia), .ref r11, .ref r12, .int tz, .ref r13, .int (nI ft)], aS G r3 251502 cm, aI G r13 9 e] H locs → lv_has ls 4 [(0, .ref y0), (1, .int (nI p)), (2, .int (nI c))] → W zp zl ze ({ frames := 1, cells := 0, slots := 0, locals := 23 }) zs zm zargs zbelow zmeth zc H locs 0 0 zQ (F0 zm 2 ls []) := by
    intro zn2
    induction zn2 with
    | zero => intros; omega
    | succ zn2 ih2 =>
      intro c e h9 he zm2 H locs ls hI hl
      have h2p := Nat.two_pow_pos c
      have h2s : 2 ^ (c + 1) = 2 * 2 ^ c := by rw [Nat.pow_succ]; omega
      refine lv_iload_n zx zb dX9_findFar_2 rfl (lv_at hl 2 rfl) ?_
      refine lv_bipush (v := nI 9) zx zb dX9_findFar_3 (by decide) ?_
      refine j_icmp_ge (tgt := 79) hC dX9_findFar_5 (by decide) (by omega) (by omega) (fun c5 => ?_) (fun c5 => ?_)
      · exact hQ _ _ _ _ e dX9_findFar_79 (hI.sub [0, 1, 2] rfl rfl) (fun i h => he i (by omega))
      · refine lv_aload_n zx zb dX9_findFar_8 rfl (lv_at hl 0 rfl) ?_
        refine j_get hC hI hin_X9_findFar_X9 0 rfl rfl 29 (by decide) hfl_X9_findFar_62 rfl rfl dX9_findFar_9 ?_
        refine lv_iload_n zx zb dX9_findFar_12 rfl (lv_at hl 2 rfl) ?_
        refine lv_iconst (v := nI 0) zx zb dX9_findFar_13 (by decide) ?_
        have h2c := tp_lt (c := c) (by omega)
        refine j_iast (w1 := [oC y0 9 [.int (nI 0), .ref r1, .int (nI n), .int (nI la), .int (nI lm), .int (nI lw), .ref r2, .ref r3, .ref r4, .int (nI kn), .ref r5, .ref r6, .ref r7, .int (nI k), .int (nI wp), .int (nI bt), .ref r8, .int (nI pn), .int (nI q), .int (nI th), .ref r9, .int (nI os), .int (nI wz), .ref r10, .int (nI sz), .int (nI ia), .ref r11, .ref r12, .int tz, .ref r13, .int (nI ft)], aS G r3 251502 cm, aI G r13 9 (up e c 0)]) hC hI 2 rfl (by omega) (by omega) dX9_findFar_14 rfl (fun H locs hI => ?_)
        refine lv_iconst (v := nI 1) zx zb dX9_findFar_15 (by decide) ?_
        refine lv_iload_n zx zb dX9_findFar_16 rfl (lv_at hl 2 rfl) ?_
        refine j_ishl1 hC (by omega) dX9_findFar_17 ?_
        refine lv_istore_n (lv' := [(3, .int (nI (2 ^ c))), (0, .ref y0), (1, .int (nI p)), (2, .int (nI c))]) zx zb dX9_findFar_18 rfl hl (by decide) rfl (fun ls hl => ?_)
        have loop19 : ∀ (zn19 : Nat) (D : Nat) (g : Nat → Nat), (2 ^ c ≤ D ∧ D ≤ 2 * 2 ^ c) → (g c = rx (mt la lm lw T n p) (2 ^ c) (D - 2 ^ c)) → (∀ i, i < c → g i = rxc la lm lw T n p i) → (2 * 2 ^ c - D) < zn19 → ∀ (H : Heap) (locs : List Loc) (ls : Array Slot), jI G zA zs [oC y0 9 [.int (nI 0), .ref r1, .int (nI n), .int (nI la), .int (nI lm), .int (nI lw), .ref r2, .ref r3, .ref r4, .int (nI kn), .ref r5, .ref r6, .ref r7, .int (nI k), .int (nI wp), .int (nI bt), .ref r8, .int (nI pn), .int (nI q), .int (nI th), .ref r9, .int (nI os), .int (nI wz), .ref r10, .int (nI sz), .int (nI ia), .ref r11, .ref r12, .int tz, .ref r13, .int (nI ft)], aS G r3 251502 cm, aI G r13 9 g] H locs → lv_has ls 4 [(0, .ref y0), (1, .int (nI p)), (2, .int (nI c)), (3, .int (nI D))] → W zp zl ze ({ frames := 1, cells := 0, slots := 0, locals := 23 }) zs zm zargs zbelow zmeth zc H locs 0 0 zQ (F0 zm 19 ls []) := by
          intro zn19
          induction zn19 with
          | zero => intros; omega
          | succ zn19 ih19 =>
            intro D g hD kx hk zm19 H locs ls hI hl
            have b2 : rx (mt la lm lw T n p) (2 ^ c) (D - 2 ^ c) ≤ lm := rx_le (fun d => mt_le) _
            have b3 : mt la lm lw T n p D ≤ lm := mt_le
            refine lv_iload_n zx zb dX9_findFar_19 rfl (lv_at hl 3 rfl) ?_
            refine lv_iconst (v := nI 2) zx zb dX9_findFar_20 (by decide) ?_
            refine lv_iload_n zx zb dX9_findFar_21 rfl (lv_at hl 2 rfl) ?_
            refine j_ishl hC (by omega) (by omega) dX9_findFar_22 ?_
            refine j_icmp_ge (tgt := 73) hC dX9_findFar_23 (by decide) (by omega) (by omega) (fun c23 => ?_) (fun c23 => ?_)
            · refine lv_iinc (v := nI (c + 1)) (lv' := [(2, .int (nI (c + 1))), (0, .ref y0), (1, .int (nI p)), (3, .int (nI D))]) zx zb dX9_findFar_73 hl (k := 2) rfl (j_inc _ _ _ (by decide)) (by decide) rfl (fun ls hl => ?_)
              refine lv_goto (tgt := 2) zx zb dX9_findFar_76 (by decide) ?_
              have kx2 : g c = rxc la lm lw T n p c := by rw [rxc, kx, show D - 2 ^ c = 2 ^ c by omega]
              exact ih2 (c + 1) g (by omega) (ff_next hk kx2) (by omega) _ _ _ hI (lv_sub hl [1, 2, 0] rfl)
            · refine lv_iload_n zx zb dX9_findFar_26 rfl (lv_at hl 3 rfl) ?_
              refine lv_iload_n zx zb dX9_findFar_27 rfl (lv_at hl 1 rfl) ?_
              refine j_icmp_gt (tgt := 73) hC dX9_findFar_28 (by decide) (by omega) (by omega) (fun c28 => ?_) (fun c28 => ?_)
              · refine lv_iinc (v := nI (c + 1)) (lv' := [(2, .int (nI (c + 1))), (0, .ref y0), (1, .int (nI p)), (3, .int (nI D))]) zx zb dX9_findFar_73 hl (k := 2) rfl (j_inc _ _ _ (by decide)) (by decide) rfl (fun ls hl => ?_)
                refine lv_goto (tgt := 2) zx zb dX9_findFar_76 (by decide) ?_
                have kx2 : g c = rxc la lm lw T n p c := by rw [rxc, kx]; exact (rx_to (by omega) (fun d h1 h2 => mt_far (by omega))).symm
                exact ih2 (c + 1) g (by omega) (ff_next hk kx2) (by omega) _ _ _ hI (lv_sub hl [1, 2, 0] rfl)
              · refine lv_aload_n zx zb dX9_findFar_31 rfl (lv_at hl 0 rfl) ?_
                refine j_get hC hI hin_X9_findFar_X9 0 rfl rfl 29 (by decide) hfl_X9_findFar_62 rfl rfl dX9_findFar_32 ?_
                refine lv_iload_n zx zb dX9_findFar_35 rfl (lv_at hl 2 rfl) ?_
                refine lv_aload_n zx zb dX9_findFar_36 rfl (lv_at hl 0 rfl) ?_
                refine lv_iload_n zx zb dX9_findFar_37 rfl (lv_at hl 1 rfl) ?_
                refine lv_iload_n zx zb dX9_findFar_38 rfl (lv_at hl 3 rfl) ?_
                refine j_callVi (wr := [aI G r13 9 g]) hC hI (c_X9_longest zl G y0 r1 r2 r3 r4 r5 r6 r7 r8 r9 r10 r11 r12 r13 n la lm lw kn k wp bt pn q th os wz sz ia ft tz T cm p D (by omega) (by omega) (by omega) (by omega) hc) (cwV 2 hC.2.2.2.2.1 gX9_findFar_X9_longest rfl rfl rfl (by decide +kernel) ⟨Nat.le_of_ble_eq_true rfl, Nat.le_of_ble_eq_true rfl⟩) [0, 1] [2] rfl rfl rfl rfl rfl rfl (q0 := 0) rfl rfl rfl hl.1 (Nat.le_of_ble_eq_true rfl) dX9_findFar_39 ⟨Nat.le_of_ble_eq_true rfl, Nat.le_of_ble_eq_true rfl⟩ (fun rv39 u39 H locs hp39 hI => ?_)
                have hI : jI G zA zs [aI G r13 9 g, oC y0 9 [.int (nI 0), .ref r1, .int (nI n), .int (nI la), .int (nI lm), .int (nI lw), .ref r2, .ref r3, .ref r4, .int (nI kn), .ref r5, .ref r6, .ref r7, .int (nI k), .int (nI wp), .int (nI bt), .ref r8, .int (nI pn), .int (nI q), .int (nI th), .ref r9, .int (nI os), .int (nI wz), .ref r10, .int (nI sz), .int (nI ia), .ref r11, .ref r12, .int tz, .ref r13, .int (nI ft)], aS G r3 251502 cm] H locs := hI
                subst hp39
                refine lv_aload_n zx zb dX9_findFar_42 rfl (lv_at hl 0 rfl) ?_
                refine j_get hC hI hin_X9_findFar_X9 1 rfl rfl 29 (by decide) hfl_X9_findFar_62 rfl rfl dX9_findFar_43 ?_
                refine lv_iload_n zx zb dX9_findFar_46 rfl (lv_at hl 2 rfl) ?_
                refine j_iald hC hI 0 rfl (by omega) (by omega) dX9_findFar_47 ?_
                refine j_icmp_le (tgt := 60) hC dX9_findFar_48 (by decide) (by omega) (by omega) (fun c48 => ?_) (fun c48 => ?_)
                · refine lv_aload_n zx zb dX9_findFar_60 rfl (lv_at hl 0 rfl) ?_
                  refine j_get hC hI hin_X9_findFar_X9 1 rfl rfl 29 (by decide) hfl_X9_findFar_62 rfl rfl dX9_findFar_61 ?_
                  refine lv_iload_n zx zb dX9_findFar_64 rfl (lv_at hl 2 rfl) ?_
                  refine j_iald hC hI 0 rfl (by omega) (by omega) dX9_findFar_65 ?_
                  refine j_iast (w1 := [aI G r13 9 (up g c (g c)), oC y0 9 [.int (nI 0), .ref r1, .int (nI n), .int (nI la), .int (nI lm), .int (nI lw), .ref r2, .ref r3, .ref r4, .int (nI kn), .ref r5, .ref r6, .ref r7, .int (nI k), .int (nI wp), .int (nI bt), .ref r8, .int (nI pn), .int (nI q), .int (nI th), .ref r9, .int (nI os), .int (nI wz), .ref r10, .int (nI sz), .int (nI ia), .ref r11, .ref r12, .int tz, .ref r13, .int (nI ft)], aS G r3 251502 cm]) hC hI 0 rfl (by omega) (by omega) dX9_findFar_66 rfl (fun H locs hI => ?_)
                  refine lv_iinc (v := nI (D + 1)) (lv' := [(3, .int (nI (D + 1))), (0, .ref y0), (1, .int (nI p)), (2, .int (nI c))]) zx zb dX9_findFar_67 hl (k := 3) rfl (j_inc _ _ _ (by decide)) (by decide) rfl (fun ls hl => ?_)
                  refine lv_goto (tgt := 19) zx zb dX9_findFar_70 (by decide) ?_
                  exact ih19 (D + 1) (up g c (g c)) (by omega) (by rw [up_s, rx_at (by omega), ← kx]; omega) (fun i h => by rw [up_n (by omega)]; exact hk i h) (by omega) _ _ _ (hI.sub [1, 2, 0] rfl rfl) (lv_sub hl [1, 2, 3, 0] rfl)
                · refine lv_aload_n zx zb dX9_findFar_51 rfl (lv_at hl 0 rfl) ?_
                  refine lv_iload_n zx zb dX9_findFar_52 rfl (lv_at hl 1 rfl) ?_
                  refine lv_iload_n zx zb dX9_findFar_53 rfl (lv_at hl 3 rfl) ?_
                  refine j_callVi (wr := [aI G r13 9 g]) hC hI (c_X9_longest zl G y0 r1 r2 r3 r4 r5 r6 r7 r8 r9 r10 r11 r12 r13 n la lm lw kn k wp bt pn q th os wz sz ia ft tz T cm p D (by omega) (by omega) (by omega) (by omega) hc) (cwV 2 hC.2.2.2.2.1 gX9_findFar_X9_longest rfl rfl rfl (by decide +kernel) ⟨Nat.le_of_ble_eq_true rfl, Nat.le_of_ble_eq_true rfl⟩) [1, 2] [0] rfl rfl rfl rfl rfl rfl (q0 := 0) rfl rfl rfl hl.1 (Nat.le_of_ble_eq_true rfl) dX9_findFar_54 ⟨Nat.le_of_ble_eq_true rfl, Nat.le_of_ble_eq_true rfl⟩ (fun rv54 u54 H locs hp54 hI => ?_)
                  have hI : jI G zA zs [aI G r13 9 g, oC y0 9 [.int (nI 0), .ref r1, .int (nI n), .int (nI la), .int (nI lm), .int (nI lw), .ref r2, .ref r3, .ref r4, .int (nI kn), .ref r5, .ref r6, .ref r7, .int (nI k), .int (nI wp), .int (nI bt), .ref r8, .int (nI pn), .int (nI q), .int (nI th), .ref r9, .int (nI os), .int (nI wz), .ref r10, .int (nI sz), .int (nI ia), .ref r11, .ref r12, .int tz, .ref r13, .int (nI ft)], aS G r3 251502 cm] H locs := hI
                  subst hp54
                  refine lv_goto (tgt := 66) zx zb dX9_findFar_57 (by decide) ?_
                  refine j_iast (w1 := [aI G r13 9 (up g c (mt la lm lw T n p D)), oC y0 9 [.int (nI 0), .ref r1, .int (nI n), .int (nI la), .int (nI lm), .int (nI lw), .ref r2, .ref r3, .ref r4, .int (nI kn), .ref r5, .ref r6, .ref r7, .int (nI k), .int (nI wp), .int (nI bt), .ref r8, .int (nI pn), .int (nI q), .int (nI th), .ref r9, .int (nI os), .int (nI wz), .ref r10, .int (nI sz), .int (nI ia), .ref r11, .ref r12, .int tz, .ref r13, .int (nI ft)], aS G r3 251502 cm]) hC hI 0 rfl (by omega) (by omega) dX9_findFar_66 rfl (fun H locs hI => ?_)
                  refine lv_iinc (v := nI (D + 1)) (lv' := [(3, .int (nI (D + 1))), (0, .ref y0), (1, .int (nI p)), (2, .int (nI c))]) zx zb dX9_findFar_67 hl (k := 3) rfl (j_inc _ _ _ (by decide)) (by decide) rfl (fun ls hl => ?_)
                  refine lv_goto (tgt := 19) zx zb dX9_findFar_70 (by decide) ?_
                  exact ih19 (D + 1) (up g c (mt la lm lw T n p D)) (by omega) (by rw [up_s, rx_at (by omega), ← kx]; omega) (fun i h => by rw [up_n (by omega)]; exact hk i h) (by omega) _ _ _ (hI.sub [1, 2, 0] rfl rfl) (lv_sub hl [1, 2, 3, 0] rfl)
        exact loop19 _ (2 ^ c) (up e c 0) (by omega) (by rw [up_s, Nat.sub_self]; rfl) (fun i h => by rw [up_n (by omega)]; exact he i h) (Nat.lt_succ_self _) _ _ _ hI (lv_sub hl [1, 2, 3, 0] rfl)
  exact loop2 _ 0 fa (by omega) (fun i h => by omega) (Nat.lt_succ_self _) _ _ _ hI (lv_sub hl [1, 2, 0] rfl)

theorem hin_X9_know_X9 : ∀ w ∈ wsX90, w ∈ wsX9_know := by decide +kernel
theorem hfl_X9_know_73 : Cond.fieldLink RX9 73 "CheapParseModel" "known" "Z" ∈ wsX9_know := by decide +kernel
theorem hfl_X9_know_68 : Cond.fieldLink RX9 68 "CheapParseModel" "length" "I" ∈ wsX9_know := by decide +kernel
theorem hfl_X9_know_31 : Cond.fieldLink RX9 31 "CheapParseModel" "cheapest" "[I" ∈ wsX9_know := by decide +kernel
theorem hfl_X9_know_13 : Cond.fieldLink RX9 13 "CheapParseModel" "least" "I" ∈ wsX9_know := by decide +kernel
theorem hfl_X9_know_62 : Cond.fieldLink RX9 62 "CheapParseModel" "far" "[I" ∈ wsX9_know := by decide +kernel
theorem hfl_X9_know_27 : Cond.fieldLink RX9 27 "CheapParseModel" "common" "[S" ∈ wsX9_know := by decide +kernel
theorem hfl_X9_know_7 : Cond.fieldLink RX9 7 "CheapParseModel" "text" "[I" ∈ wsX9_know := by decide +kernel
set_option maxHeartbeats 4000000 in
set_option maxRecDepth 100000 in
theorem c_X9_know (zl : Launch) (G : jG) (y0 : Nat) (r1 : Nat) (r2 : Nat) (r3 : Nat) (r4 : Nat) (r5 : Nat) (r6 : Nat) (r7 : Nat) (r8 : Nat) (r9 : Nat) (r10 : Nat) (r11 : Nat) (r12 : Nat) (r13 : Nat) (n : Nat) (la : Nat) (lm : Nat) (lw : Nat) (kn : Nat) (k : Nat) (wp : Nat) (bt : Nat) (pn : Nat) (q : Nat) (th : Nat) (os : Nat) (wz : Nat) (sz : Nat) (ia : Nat) (ft : Nat) (tz : Int32) (T : Nat → Nat) (pp : Nat → Nat) (cm : Nat → Nat) (C : Nat → Nat) (fa : Nat → Nat) (hn : n ≤ 500) (hl0 : 2 ≤ la ∧ la ≤ lm ∧ lm ≤ 255 ∧ lw ≤ 500) (hT : ∀ j, j < n → T j < 256) (hpp : ∀ j, j < 26 → 1 ≤ pp j ∧ pp j ≤ 1000) (hkn : kn ≤ 1) (hk : kn ≠ 0 → (∀ p, p < n → cmO T n cm p) ∧ cTab la lm lw T n pp (ppA pp) (ppL pp) (ppD pp) C) : jMet zl yX9_know wsX9_know ({ frames := 2, cells := 0, slots := 0, locals := 46 }) G [oC y0 9 [.int (nI 0), .ref r1, .int (nI n), .int (nI la), .int (nI lm), .int (nI lw), .ref r2, .ref r3, .ref r4, .int (nI kn), .ref r5, .ref r6, .ref r7, .int (nI k), .int (nI wp), .int (nI bt), .ref r8, .int (nI pn), .int (nI q), .int (nI th), .ref r9, .int (nI os), .int (nI wz), .ref r10, .int (nI sz), .int (nI ia), .ref r11, .ref r12, .int tz, .ref r13, .int (nI ft)], aI G r1 500 T, aI G r2 26 pp, aS G r3 251502 cm, aI G r4 501 C, aI G r13 9 fa] [.ref y0] (jQv G (fun (u : (Nat → Nat) × (Nat → Nat) × (Nat → Nat)) => (∀ p, p < n → cmO T n u.1 p) ∧ (cTab la lm lw T n pp (ppA pp) (ppL pp) (ppD pp) u.2.1)) (fun (u : (Nat → Nat) × (Nat → Nat) × (Nat → Nat)) => [oC y0 9 [.int (nI 0), .ref r1, .int (nI n), .int (nI la), .int (nI lm), .int (nI lw), .ref r2, .ref r3, .ref r4, .int (nI 1), .ref r5, .ref r6, .ref r7, .int (nI k), .int (nI wp), .int (nI bt), .ref r8, .int (nI pn), .int (nI q), .int (nI th), .ref r9, .int (nI os), .int (nI wz), .ref r10, .int (nI sz), .int (nI ia), .ref r11, .ref r12, .int tz, .ref r13, .int (nI ft)], aI G r1 500 T, aI G r2 26 pp, aS G r3 251502 u.1, aI G r4 501 u.2.1, aI G r13 9 u.2.2])) 0 0 := by
  refine j_enter_v (cc := cX9_know) (nL := 6) (nm := "know") (own := RX9) (lv := [(0, .ref y0)]) (by decide) rfl (Nat.le_of_ble_eq_true rfl) rfl rfl rfl ?_
  intro zA zp ze zs zm zargs zbelow zmeth zc zQ ls hC hQ hI hl
  have zx := hC.1
  have zb := hC.2.1
  have hpp2 := hpp
  refine lv_aload_n zx zb dX9_know_0 rfl (lv_at hl 0 rfl) ?_
  refine j_get hC hI hin_X9_know_X9 0 rfl rfl 9 (by decide) hfl_X9_know_73 rfl rfl dX9_know_1 ?_
  refine j_if_eq (tgt := 8) hC dX9_know_4 (by decide) (by omega) (fun c4 => ?_) (fun c4 => ?_)
  · refine lv_aload_n zx zb dX9_know_8 rfl (lv_at hl 0 rfl) ?_
    refine lv_iconst (v := nI 1) zx zb dX9_know_9 (by decide) ?_
    refine j_put (w1 := [oC y0 9 [.int (nI 0), .ref r1, .int (nI n), .int (nI la), .int (nI lm), .int (nI lw), .ref r2, .ref r3, .ref r4, .int (nI 1), .ref r5, .ref r6, .ref r7, .int (nI k), .int (nI wp), .int (nI bt), .ref r8, .int (nI pn), .int (nI q), .int (nI th), .ref r9, .int (nI os), .int (nI wz), .ref r10, .int (nI sz), .int (nI ia), .ref r11, .ref r12, .int tz, .ref r13, .int (nI ft)], aI G r1 500 T, aI G r2 26 pp, aS G r3 251502 cm, aI G r4 501 C, aI G r13 9 fa]) hC hI hin_X9_know_X9 tyX9 tyX9_ok nmX9 0 rfl rfl 9 (by decide) hfl_X9_know_73 rfl rfl rfl rfl (Nat.le_of_ble_eq_true rfl) dX9_know_10 rfl (fun H locs hI => ?_)
    refine lv_aload_n zx zb dX9_know_13 rfl (lv_at hl 0 rfl) ?_
    refine j_get hC hI hin_X9_know_X9 0 rfl rfl 2 (by decide) hfl_X9_know_68 rfl rfl dX9_know_14 ?_
    refine lv_iconst (v := nI 1) zx zb dX9_know_17 (by decide) ?_
    refine j_isub1 hC dX9_know_18 ?_
    refine lv_istore_n (lv' := [(1, .int (mI n)), (0, .ref y0)]) zx zb dX9_know_19 rfl hl (by decide) rfl (fun ls hl => ?_)
    have loop20 : ∀ (zn20 : Nat) (j : Nat) (c : Nat → Nat), (j ≤ n) → (∀ p, j ≤ p → p < n → cmO T n c p) → j < zn20 → ∀ (H : Heap) (locs : List Loc) (ls : Array Slot), jI G zA zs [oC y0 9 [.int (nI 0), .ref r1, .int (nI n), .int (nI la), .int (nI lm), .int (nI lw), .ref r2, .ref r3, .ref r4, .int (nI 1), .ref r5, .ref r6, .ref r7, .int (nI k), .int (nI wp), .int (nI bt), .ref r8, .int (nI pn), .int (nI q), .int (nI th), .ref r9, .int (nI os), .int (nI wz), .ref r10, .int (nI sz), .int (nI ia), .ref r11, .ref r12, .int tz, .ref r13, .int (nI ft)], aI G r1 500 T, aI G r2 26 pp, aS G r3 251502 c, aI G r4 501 C, aI G r13 9 fa] H locs → lv_has ls 6 [(0, .ref y0), (1, .int (mI j))] → W zp zl ze ({ frames := 2, cells := 0, slots := 0, locals := 46 }) zs zm zargs zbelow zmeth zc H locs 0 0 zQ (F0 zm 20 ls []) := by
      intro zn20
      induction zn20 with
      | zero => intros; omega
      | succ zn20 ih20 =>
        intro j c hj h1 zm20 H locs ls hI hl
        refine lv_iload_n zx zb dX9_know_20 rfl (lv_at hl 1 rfl) ?_
        refine j_ifM_lt (tgt := 109) hC dX9_know_21 (by decide) (by omega) (fun c21 => ?_) (fun c21 => ?_)
        · subst c21
          refine lv_aload_n zx zb dX9_know_109 rfl (lv_at hl 0 rfl) ?_
          refine j_get hC hI hin_X9_know_X9 0 rfl rfl 8 (by decide) hfl_X9_know_31 rfl rfl dX9_know_110 ?_
          refine lv_aload_n zx zb dX9_know_113 rfl (lv_at hl 0 rfl) ?_
          refine j_get hC hI hin_X9_know_X9 0 rfl rfl 2 (by decide) hfl_X9_know_68 rfl rfl dX9_know_114 ?_
          refine lv_iconst (v := nI 0) zx zb dX9_know_117 (by decide) ?_
          refine j_iast (w1 := [oC y0 9 [.int (nI 0), .ref r1, .int (nI n), .int (nI la), .int (nI lm), .int (nI lw), .ref r2, .ref r3, .ref r4, .int (nI 1), .ref r5, .ref r6, .ref r7, .int (nI k), .int (nI wp), .int (nI bt), .ref r8, .int (nI pn), .int (nI q), .int (nI th), .ref r9, .int (nI os), .int (nI wz), .ref r10, .int (nI sz), .int (nI ia), .ref r11, .ref r12, .int tz, .ref r13, .int (nI ft)], aI G r1 500 T, aI G r2 26 pp, aS G r3 251502 c, aI G r4 501 (up C n 0), aI G r13 9 fa]) hC hI 4 rfl (by omega) (by omega) dX9_know_118 rfl (fun H locs hI => ?_)
          refine lv_aload_n zx zb dX9_know_119 rfl (lv_at hl 0 rfl) ?_
          refine j_get hC hI hin_X9_know_X9 0 rfl rfl 2 (by decide) hfl_X9_know_68 rfl rfl dX9_know_120 ?_
          refine lv_iconst (v := nI 1) zx zb dX9_know_123 (by decide) ?_
          refine j_isub1 hC dX9_know_124 ?_
          refine lv_istore_n (lv' := [(1, .int (mI n)), (0, .ref y0)]) zx zb dX9_know_125 rfl hl (by decide) rfl (fun ls hl => ?_)
          have loop126 : ∀ (zn126 : Nat) (jj : Nat) (D : Nat → Nat) (e : Nat → Nat), (jj ≤ n) → (D n = 0) → (∀ q, jj ≤ q → q < n → isC la lm lw T n pp (ppA pp) (ppL pp) (ppD pp) D q (D q)) → (∀ i, jj ≤ i → i ≤ n → D i ≤ 1000 * (n - i)) → jj < zn126 → ∀ (H : Heap) (locs : List Loc) (ls : Array Slot), jI G zA zs [oC y0 9 [.int (nI 0), .ref r1, .int (nI n), .int (nI la), .int (nI lm), .int (nI lw), .ref r2, .ref r3, .ref r4, .int (nI 1), .ref r5, .ref r6, .ref r7, .int (nI k), .int (nI wp), .int (nI bt), .ref r8, .int (nI pn), .int (nI q), .int (nI th), .ref r9, .int (nI os), .int (nI wz), .ref r10, .int (nI sz), .int (nI ia), .ref r11, .ref r12, .int tz, .ref r13, .int (nI ft)], aI G r1 500 T, aI G r2 26 pp, aS G r3 251502 c, aI G r4 501 D, aI G r13 9 e] H locs → lv_has ls 6 [(0, .ref y0), (1, .int (mI jj))] → W zp zl ze ({ frames := 2, cells := 0, slots := 0, locals := 46 }) zs zm zargs zbelow zmeth zc H locs 0 0 zQ (F0 zm 126 ls []) := by
            intro zn126
            induction zn126 with
            | zero => intros; omega
            | succ zn126 ih126 =>
              intro jj D e hj2 h0 hi hb zm126 H locs ls hI hl
              refine lv_iload_n zx zb dX9_know_126 rfl (lv_at hl 1 rfl) ?_
              refine j_ifM_lt (tgt := 237) hC dX9_know_127 (by decide) (by omega) (fun c127 => ?_) (fun c127 => ?_)
              · subst c127
                exact hQ _ _ _ _ ⟨c, D, e⟩ dX9_know_237 (hI.sub [0, 1, 2, 3, 4, 5] rfl rfl) (by (try dsimp only); exact ⟨(fun p a => h1 p (by omega) a), ⟨h0, fun p a => hi p (by omega) a, fun i a => hb i (by omega) a⟩⟩)
              · obtain ⟨j127, rfl⟩ : ∃ z, jj = z + 1 := ⟨jj - 1, by omega⟩
                rw [mI_s] at hl
                have hTp := hT j127 (by omega)
                have hpb := hpp (T j127 / 32) (by omega)
                have hb1 := hb (j127 + 1) (by omega) (by omega)
                have hmn : mx (mt la lm lw T n j127) 511 ≤ n - j127 := mx_le (fun d => mt_n) _
                have hml : mx (mt la lm lw T n j127) 511 ≤ lm := mx_le (fun d => mt_le) _
                refine lv_aload_n zx zb dX9_know_130 rfl (lv_at hl 0 rfl) ?_
                refine lv_iload_n zx zb dX9_know_131 rfl (lv_at hl 1 rfl) ?_
                refine lv_iconst (v := nI 1) zx zb dX9_know_132 (by decide) ?_
                refine lv_iconst (v := nI 0) zx zb dX9_know_133 (by decide) ?_
                refine j_callVi (wr := [aS G r3 251502 c, aI G r4 501 D, aI G r13 9 e]) hC hI (c_X9_priceOf_b zl G y0 r1 r2 r3 r4 r5 r6 r7 r8 r9 r10 r11 r12 r13 n la lm lw 1 k wp bt pn q th os wz sz ia ft tz T pp j127 1 (by omega) (by omega)) (cwV 3 hC.2.2.2.2.1 gX9_know_X9_priceOf rfl rfl rfl (by decide +kernel) ⟨Nat.le_of_ble_eq_true rfl, Nat.le_of_ble_eq_true rfl⟩) [0, 1, 2] [3, 4, 5] rfl rfl rfl rfl rfl rfl (q0 := 0) rfl rfl rfl hl.1 (Nat.le_of_ble_eq_true rfl) dX9_know_134 ⟨Nat.le_of_ble_eq_true rfl, Nat.le_of_ble_eq_true rfl⟩ (fun rv134 u134 H locs hp134 hI => ?_)
                have hI : jI G zA zs [aS G r3 251502 c, aI G r4 501 D, aI G r13 9 e, oC y0 9 [.int (nI 0), .ref r1, .int (nI n), .int (nI la), .int (nI lm), .int (nI lw), .ref r2, .ref r3, .ref r4, .int (nI 1), .ref r5, .ref r6, .ref r7, .int (nI k), .int (nI wp), .int (nI bt), .ref r8, .int (nI pn), .int (nI q), .int (nI th), .ref r9, .int (nI os), .int (nI wz), .ref r10, .int (nI sz), .int (nI ia), .ref r11, .ref r12, .int tz, .ref r13, .int (nI ft)], aI G r1 500 T, aI G r2 26 pp] H locs := hI
                subst hp134
                refine lv_aload_n zx zb dX9_know_137 rfl (lv_at hl 0 rfl) ?_
                refine j_get hC hI hin_X9_know_X9 3 rfl rfl 8 (by decide) hfl_X9_know_31 rfl rfl dX9_know_138 ?_
                refine lv_iload_n zx zb dX9_know_141 rfl (lv_at hl 1 rfl) ?_
                refine lv_iconst (v := nI 1) zx zb dX9_know_142 (by decide) ?_
                refine j_iadd hC dX9_know_143 ?_
                refine j_iald hC hI 1 rfl (by omega) (by omega) dX9_know_144 ?_
                refine j_iadd hC dX9_know_145 ?_
                refine lv_istore_n (lv' := [(2, .int (nI ((pp (T j127 / 32)) + (D (j127 + 1))))), (0, .ref y0), (1, .int (nI j127))]) zx zb dX9_know_146 rfl hl (by decide) rfl (fun ls hl => ?_)
                refine lv_aload_n zx zb dX9_know_147 rfl (lv_at hl 1 rfl) ?_
                refine lv_iload_n zx zb dX9_know_148 rfl (lv_at hl 2 rfl) ?_
                refine j_callVv (wr := [aI G r4 501 D, aI G r1 500 T, aI G r2 26 pp]) hC hI (c_X9_findFar zl G y0 r1 r2 r3 r4 r5 r6 r7 r8 r9 r10 r11 r12 r13 n la lm lw 1 k wp bt pn q th os wz sz ia ft tz T c e j127 (by omega) (by omega) (by omega) (h1 j127 (by omega) (by omega))) (cwV 1 hC.2.2.2.2.1 gX9_know_X9_findFar rfl rfl rfl (by decide +kernel) ⟨Nat.le_of_ble_eq_true rfl, Nat.le_of_ble_eq_true rfl⟩) [3, 0, 2] [1, 4, 5] rfl rfl rfl rfl rfl rfl (q0 := 0) rfl rfl rfl hl.1 (Nat.le_of_ble_eq_true rfl) dX9_know_149 ⟨Nat.le_of_ble_eq_true rfl, Nat.le_of_ble_eq_true rfl⟩ (fun u149 H locs hp149 hI => ?_)
                obtain ⟨v149_0, rfl⟩ : ∃ z, z = u149 := ⟨_, rfl⟩
                have hI : jI G zA zs [aI G r4 501 D, aI G r1 500 T, aI G r2 26 pp, oC y0 9 [.int (nI 0), .ref r1, .int (nI n), .int (nI la), .int (nI lm), .int (nI lw), .ref r2, .ref r3, .ref r4, .int (nI 1), .ref r5, .ref r6, .ref r7, .int (nI k), .int (nI wp), .int (nI bt), .ref r8, .int (nI pn), .int (nI q), .int (nI th), .ref r9, .int (nI os), .int (nI wz), .ref r10, .int (nI sz), .int (nI ia), .ref r11, .ref r12, .int tz, .ref r13, .int (nI ft)], aS G r3 251502 c, aI G r13 9 v149_0] H locs := hI
                have f149_0 := hp149
                refine lv_iconst (v := nI 0) zx zb dX9_know_152 (by decide) ?_
                refine lv_istore_n (lv' := [(3, .int (nI 0)), (2, .int (nI ((pp (T j127 / 32)) + (D (j127 + 1))))), (0, .ref y0), (1, .int (nI j127))]) zx zb dX9_know_153 rfl hl (by decide) rfl (fun ls hl => ?_)
                have loop154 : ∀ (zn154 : Nat) (c3 : Nat) (v : Nat), (c3 ≤ 9) → (kbI la lm lw T n pp (ppA pp) (ppL pp) (ppD pp) D j127 c3 la v) → (9 - c3) < zn154 → ∀ (H : Heap) (locs : List Loc) (ls : Array Slot), jI G zA zs [oC y0 9 [.int (nI 0), .ref r1, .int (nI n), .int (nI la), .int (nI lm), .int (nI lw), .ref r2, .ref r3, .ref r4, .int (nI 1), .ref r5, .ref r6, .ref r7, .int (nI k), .int (nI wp), .int (nI bt), .ref r8, .int (nI pn), .int (nI q), .int (nI th), .ref r9, .int (nI os), .int (nI wz), .ref r10, .int (nI sz), .int (nI ia), .ref r11, .ref r12, .int tz, .ref r13, .int (nI ft)], aI G r1 500 T, aI G r2 26 pp, aS G r3 251502 c, aI G r4 501 D, aI G r13 9 v149_0] H locs → lv_has ls 6 [(0, .ref y0), (1, .int (nI j127)), (2, .int (nI v)), (3, .int (nI c3))] → W zp zl ze ({ frames := 2, cells := 0, slots := 0, locals := 46 }) zs zm zargs zbelow zmeth zc H locs 0 0 zQ (F0 zm 154 ls []) := by
                  intro zn154
                  induction zn154 with
                  | zero => intros; omega
                  | succ zn154 ih154 =>
                    intro c3 v h9 hkb zm154 H locs ls hI hl
                    refine lv_iload_n zx zb dX9_know_154 rfl (lv_at hl 3 rfl) ?_
                    refine lv_bipush (v := nI 9) zx zb dX9_know_155 (by decide) ?_
                    refine j_icmp_ge (tgt := 224) hC dX9_know_157 (by decide) (by omega) (by omega) (fun c157 => ?_) (fun c157 => ?_)
                    · refine lv_aload_n zx zb dX9_know_224 rfl (lv_at hl 0 rfl) ?_
                      refine j_get hC hI hin_X9_know_X9 0 rfl rfl 8 (by decide) hfl_X9_know_31 rfl rfl dX9_know_225 ?_
                      refine lv_iload_n zx zb dX9_know_228 rfl (lv_at hl 1 rfl) ?_
                      refine lv_iload_n zx zb dX9_know_229 rfl (lv_at hl 2 rfl) ?_
                      refine j_iast (w1 := [oC y0 9 [.int (nI 0), .ref r1, .int (nI n), .int (nI la), .int (nI lm), .int (nI lw), .ref r2, .ref r3, .ref r4, .int (nI 1), .ref r5, .ref r6, .ref r7, .int (nI k), .int (nI wp), .int (nI bt), .ref r8, .int (nI pn), .int (nI q), .int (nI th), .ref r9, .int (nI os), .int (nI wz), .ref r10, .int (nI sz), .int (nI ia), .ref r11, .ref r12, .int tz, .ref r13, .int (nI ft)], aI G r1 500 T, aI G r2 26 pp, aS G r3 251502 c, aI G r4 501 (up D j127 v), aI G r13 9 v149_0]) hC hI 4 rfl (by omega) (by omega) dX9_know_230 rfl (fun H locs hI => ?_)
                      refine lv_iinc (v := mI j127) (lv' := [(1, .int (mI j127)), (0, .ref y0), (2, .int (nI v)), (3, .int (nI c3))]) zx zb dX9_know_231 hl (k := 1) rfl (j_dec _) (by decide) rfl (fun ls hl => ?_)
                      refine lv_goto (tgt := 126) zx zb dX9_know_234 (by decide) ?_
                      exact ih126 j127 (up D j127 v) v149_0 (by omega) (by rw [up_n (by omega)]; exact h0) (isC_up (by omega) (by omega) (kb_end hkb (by omega)) hi) (co_bound (kb_end hkb (by omega)) (by omega) hpb.2 hb) (by omega) _ _ _ hI (lv_sub hl [1, 0] rfl)
                    · have h2c := tp_lt (c := c3) (by omega)
                      have h2p := Nat.two_pow_pos c3
                      refine lv_aload_n zx zb dX9_know_160 rfl (lv_at hl 0 rfl) ?_
                      refine j_get hC hI hin_X9_know_X9 0 rfl rfl 3 (by decide) hfl_X9_know_13 rfl rfl dX9_know_161 ?_
                      refine lv_istore (lv' := [(4, .int (nI la)), (0, .ref y0), (1, .int (nI j127)), (2, .int (nI v)), (3, .int (nI c3))]) zx zb dX9_know_164 hl (by decide) rfl (fun ls hl => ?_)
                      have loop166 : ∀ (zn166 : Nat) (x : Nat) (v2 : Nat), (la ≤ x ∧ x ≤ 256) → (kbI la lm lw T n pp (ppA pp) (ppL pp) (ppD pp) D j127 c3 x v2) → (300 - x) < zn166 → ∀ (H : Heap) (locs : List Loc) (ls : Array Slot), jI G zA zs [oC y0 9 [.int (nI 0), .ref r1, .int (nI n), .int (nI la), .int (nI lm), .int (nI lw), .ref r2, .ref r3, .ref r4, .int (nI 1), .ref r5, .ref r6, .ref r7, .int (nI k), .int (nI wp), .int (nI bt), .ref r8, .int (nI pn), .int (nI q), .int (nI th), .ref r9, .int (nI os), .int (nI wz), .ref r10, .int (nI sz), .int (nI ia), .ref r11, .ref r12, .int tz, .ref r13, .int (nI ft)], aI G r1 500 T, aI G r2 26 pp, aS G r3 251502 c, aI G r4 501 D, aI G r13 9 v149_0] H locs → lv_has ls 6 [(0, .ref y0), (1, .int (nI j127)), (2, .int (nI v2)), (3, .int (nI c3)), (4, .int (nI x))] → W zp zl ze ({ frames := 2, cells := 0, slots := 0, locals := 46 }) zs zm zargs zbelow zmeth zc H locs 0 0 zQ (F0 zm 166 ls []) := by
                        intro zn166
                        induction zn166 with
                        | zero => intros; omega
                        | succ zn166 ih166 =>
                          intro x v2 hx hkx zm166 H locs ls hI hl
                          have hv2 := hkx.2.1
                          have hfc := f149_0 c3 (by omega)
                          have hrm := rxc_mx (la := la) (lm := lm) (lw := lw) (T := T) (n := n) (p := j127) (c := c3) (by omega)
                          refine lv_iload zx zb dX9_know_166 (lv_at hl 4 rfl) ?_
                          refine lv_aload_n zx zb dX9_know_168 rfl (lv_at hl 0 rfl) ?_
                          refine j_get hC hI hin_X9_know_X9 0 rfl rfl 29 (by decide) hfl_X9_know_62 rfl rfl dX9_know_169 ?_
                          refine lv_iload_n zx zb dX9_know_172 rfl (lv_at hl 3 rfl) ?_
                          refine j_iald hC hI 5 rfl (by omega) (by omega) dX9_know_173 ?_
                          refine j_icmp_gt (tgt := 218) hC dX9_know_174 (by decide) (by omega) (by omega) (fun c174 => ?_) (fun c174 => ?_)
                          · refine lv_iinc (v := nI (c3 + 1)) (lv' := [(3, .int (nI (c3 + 1))), (0, .ref y0), (1, .int (nI j127)), (2, .int (nI v2)), (4, .int (nI x))]) zx zb dX9_know_218 hl (k := 3) rfl (j_inc _ _ _ (by decide)) (by decide) rfl (fun ls hl => ?_)
                            refine lv_goto (tgt := 154) zx zb dX9_know_221 (by decide) ?_
                            exact ih154 (c3 + 1) v2 (by omega) (kb_c hkx (by have := f149_0 c3 (by omega); omega)) (by omega) _ _ _ hI (lv_sub hl [1, 2, 3, 0] rfl)
                          · refine lv_aload_n zx zb dX9_know_177 rfl (lv_at hl 0 rfl) ?_
                            refine lv_iload_n zx zb dX9_know_178 rfl (lv_at hl 1 rfl) ?_
                            refine lv_iload zx zb dX9_know_179 (lv_at hl 4 rfl) ?_
                            refine lv_iconst (v := nI 1) zx zb dX9_know_181 (by decide) ?_
                            refine lv_iload_n zx zb dX9_know_182 rfl (lv_at hl 3 rfl) ?_
                            refine j_ishl1 hC (by omega) dX9_know_183 ?_
                            refine j_callVi (wr := [aI G r1 500 T, aS G r3 251502 c, aI G r4 501 D, aI G r13 9 v149_0]) hC hI (c_X9_priceOf_m zl G y0 r1 r2 r3 r4 r5 r6 r7 r8 r9 r10 r11 r12 r13 n la lm lw 1 k wp bt pn q th os wz sz ia ft tz pp j127 x (2 ^ c3) (by omega) (by omega)) (cwV 3 hC.2.2.2.2.1 gX9_know_X9_priceOf rfl rfl rfl (by decide +kernel) ⟨Nat.le_of_ble_eq_true rfl, Nat.le_of_ble_eq_true rfl⟩) [0, 2] [1, 3, 4, 5] rfl rfl rfl rfl rfl rfl (q0 := 0) rfl rfl rfl hl.1 (Nat.le_of_ble_eq_true rfl) dX9_know_184 ⟨Nat.le_of_ble_eq_true rfl, Nat.le_of_ble_eq_true rfl⟩ (fun rv184 u184 H locs hp184 hI => ?_)
                            have hI : jI G zA zs [aI G r1 500 T, aS G r3 251502 c, aI G r4 501 D, aI G r13 9 v149_0, oC y0 9 [.int (nI 0), .ref r1, .int (nI n), .int (nI la), .int (nI lm), .int (nI lw), .ref r2, .ref r3, .ref r4, .int (nI 1), .ref r5, .ref r6, .ref r7, .int (nI k), .int (nI wp), .int (nI bt), .ref r8, .int (nI pn), .int (nI q), .int (nI th), .ref r9, .int (nI os), .int (nI wz), .ref r10, .int (nI sz), .int (nI ia), .ref r11, .ref r12, .int tz, .ref r13, .int (nI ft)], aI G r2 26 pp] H locs := hI
                            subst hp184
                            rw [lg_tp]
                            have hx8 : x.log2 ≤ 7 := lg_le (k := 7) (by omega)
                            have hq1 := hpp 8 (by omega)
                            have hq2 := hpp (9 + x.log2) (by omega)
                            have hq3 := hpp (17 + c3) (by omega)
                            have hq4 := hb (j127 + x) (by omega) (by omega)
                            have hcm : cmt (ppA pp) (ppL pp) (ppD pp) D j127 x c3 = pp 8 + pp (9 + x.log2) + pp (17 + c3) + D (j127 + x) := rfl
                            refine lv_aload_n zx zb dX9_know_187 rfl (lv_at hl 0 rfl) ?_
                            refine j_get hC hI hin_X9_know_X9 4 rfl rfl 8 (by decide) hfl_X9_know_31 rfl rfl dX9_know_188 ?_
                            refine lv_iload_n zx zb dX9_know_191 rfl (lv_at hl 1 rfl) ?_
                            refine lv_iload zx zb dX9_know_192 (lv_at hl 4 rfl) ?_
                            refine j_iadd hC dX9_know_194 ?_
                            refine j_iald hC hI 2 rfl (by omega) (by omega) dX9_know_195 ?_
                            refine j_iadd hC dX9_know_196 ?_
                            refine lv_istore (lv' := [(5, .int (nI ((pp 8 + pp (9 + x.log2) + pp (17 + c3)) + (D (j127 + x))))), (0, .ref y0), (1, .int (nI j127)), (2, .int (nI v2)), (3, .int (nI c3)), (4, .int (nI x))]) zx zb dX9_know_197 hl (by decide) rfl (fun ls hl => ?_)
                            refine lv_iload zx zb dX9_know_199 (lv_at hl 0 rfl) ?_
                            refine lv_iload_n zx zb dX9_know_201 rfl (lv_at hl 3 rfl) ?_
                            refine j_icmp_ge (tgt := 210) hC dX9_know_202 (by decide) (by omega) (by omega) (fun c202 => ?_) (fun c202 => ?_)
                            · refine lv_iload_n zx zb dX9_know_210 rfl (lv_at hl 3 rfl) ?_
                              refine lv_istore_n (lv' := [(2, .int (nI v2)), (5, .int (nI ((pp 8 + pp (9 + x.log2) + pp (17 + c3)) + (D (j127 + x))))), (0, .ref y0), (1, .int (nI j127)), (3, .int (nI c3)), (4, .int (nI x))]) zx zb dX9_know_211 rfl hl (by decide) rfl (fun ls hl => ?_)
                              refine lv_iinc (v := nI (x + 1)) (lv' := [(4, .int (nI (x + 1))), (2, .int (nI v2)), (5, .int (nI ((pp 8 + pp (9 + x.log2) + pp (17 + c3)) + (D (j127 + x))))), (0, .ref y0), (1, .int (nI j127)), (3, .int (nI c3))]) zx zb dX9_know_212 hl (k := 5) rfl (j_inc _ _ _ (by decide)) (by decide) rfl (fun ls hl => ?_)
                              refine lv_goto (tgt := 166) zx zb dX9_know_215 (by decide) ?_
                              exact ih166 (x + 1) v2 (by omega) (kb_x hkx (by omega) (by omega) (Or.inr ⟨by rw [hcm]; omega, rfl⟩)) (by omega) _ _ _ (hI.sub [4, 0, 5, 1, 2, 3] rfl rfl) (lv_sub hl [3, 4, 1, 5, 0] rfl)
                            · refine lv_iload zx zb dX9_know_205 (lv_at hl 0 rfl) ?_
                              refine lv_goto (tgt := 211) zx zb dX9_know_207 (by decide) ?_
                              refine lv_istore_n (lv' := [(2, .int (nI ((pp 8 + pp (9 + x.log2) + pp (17 + c3)) + (D (j127 + x))))), (5, .int (nI ((pp 8 + pp (9 + x.log2) + pp (17 + c3)) + (D (j127 + x))))), (0, .ref y0), (1, .int (nI j127)), (3, .int (nI c3)), (4, .int (nI x))]) zx zb dX9_know_211 rfl hl (by decide) rfl (fun ls hl => ?_)
                              refine lv_iinc (v := nI (x + 1)) (lv' := [(4, .int (nI (x + 1))), (2, .int (nI ((pp 8 + pp (9 + x.log2) + pp (17 + c3)) + (D (j127 + x))))), (5, .int (nI ((pp 8 + pp (9 + x.log2) + pp (17 + c3)) + (D (j127 + x))))), (0, .ref y0), (1, .int (nI j127)), (3, .int (nI c3))]) zx zb dX9_know_212 hl (k := 5) rfl (j_inc _ _ _ (by decide)) (by decide) rfl (fun ls hl => ?_)
                              refine lv_goto (tgt := 166) zx zb dX9_know_215 (by decide) ?_
                              exact ih166 (x + 1) ((pp 8 + pp (9 + x.log2) + pp (17 + c3)) + (D (j127 + x))) (by omega) (kb_x hkx (by omega) (by omega) (Or.inl ⟨by rw [hcm]; omega, hcm.symm⟩)) (by omega) _ _ _ (hI.sub [4, 0, 5, 1, 2, 3] rfl rfl) (lv_sub hl [3, 4, 1, 5, 0] rfl)
                      exact loop166 _ la v (by omega) hkb (Nat.lt_succ_self _) _ _ _ hI (lv_sub hl [1, 2, 3, 4, 0] rfl)
                exact loop154 _ 0 ((pp (T j127 / 32)) + (D (j127 + 1))) (by omega) kb_0 (Nat.lt_succ_self _) _ _ _ (hI.sub [3, 1, 2, 4, 0, 5] rfl rfl) (lv_sub hl [2, 3, 1, 0] rfl)
          exact loop126 _ n (up C n 0) fa (by omega) up_s (fun q a b => by omega) (fun i a b => by rw [show i = n by omega, up_s]; omega) (Nat.lt_succ_self _) _ _ _ hI (lv_sub hl [1, 0] rfl)
        · obtain ⟨j21, rfl⟩ : ∃ z, j = z + 1 := ⟨j - 1, by omega⟩
          rw [mI_s] at hl
          refine lv_iconst (v := nI 0) zx zb dX9_know_24 (by decide) ?_
          refine lv_istore_n (lv' := [(2, .int (nI 0)), (0, .ref y0), (1, .int (nI j21))]) zx zb dX9_know_25 rfl hl (by decide) rfl (fun ls hl => ?_)
          have loop26 : ∀ (zn26 : Nat) (x : Nat) (c : Nat → Nat), (x ≤ j21) → (∀ p, j21 + 1 ≤ p → p < n → cmO T n c p) → (∀ y, y < x → c (501 * j21 + y) = lc T (j21 - y) j21 (n - j21)) → (j21 - x) < zn26 → ∀ (H : Heap) (locs : List Loc) (ls : Array Slot), jI G zA zs [oC y0 9 [.int (nI 0), .ref r1, .int (nI n), .int (nI la), .int (nI lm), .int (nI lw), .ref r2, .ref r3, .ref r4, .int (nI 1), .ref r5, .ref r6, .ref r7, .int (nI k), .int (nI wp), .int (nI bt), .ref r8, .int (nI pn), .int (nI q), .int (nI th), .ref r9, .int (nI os), .int (nI wz), .ref r10, .int (nI sz), .int (nI ia), .ref r11, .ref r12, .int tz, .ref r13, .int (nI ft)], aI G r1 500 T, aI G r2 26 pp, aS G r3 251502 c, aI G r4 501 C, aI G r13 9 fa] H locs → lv_has ls 6 [(0, .ref y0), (1, .int (nI j21)), (2, .int (nI x))] → W zp zl ze ({ frames := 2, cells := 0, slots := 0, locals := 46 }) zs zm zargs zbelow zmeth zc H locs 0 0 zQ (F0 zm 26 ls []) := by
            intro zn26
            induction zn26 with
            | zero => intros; omega
            | succ zn26 ih26 =>
              intro x c hx h2 h3 zm26 H locs ls hI hl
              refine lv_iload_n zx zb dX9_know_26 rfl (lv_at hl 2 rfl) ?_
              refine lv_iload_n zx zb dX9_know_27 rfl (lv_at hl 1 rfl) ?_
              refine j_icmp_ge (tgt := 103) hC dX9_know_28 (by decide) (by omega) (by omega) (fun c28 => ?_) (fun c28 => ?_)
              · refine lv_iinc (v := mI j21) (lv' := [(1, .int (mI j21)), (0, .ref y0), (2, .int (nI x))]) zx zb dX9_know_103 hl (k := 1) rfl (j_dec _) (by decide) rfl (fun ls hl => ?_)
                refine lv_goto (tgt := 20) zx zb dX9_know_106 (by decide) ?_
                exact ih20 j21 c (by omega) (cmO_all h2 (cmO_done (by omega) h3)) (by omega) _ _ _ hI (lv_sub hl [1, 0] rfl)
              · have loop61 : ∀ (b : Nat), (b = lc T (j21 - x) (j21 + 1) (n - (j21 + 1))) → ∀ (H : Heap) (locs : List Loc) (ls : Array Slot), jI G zA zs [oC y0 9 [.int (nI 0), .ref r1, .int (nI n), .int (nI la), .int (nI lm), .int (nI lw), .ref r2, .ref r3, .ref r4, .int (nI 1), .ref r5, .ref r6, .ref r7, .int (nI k), .int (nI wp), .int (nI bt), .ref r8, .int (nI pn), .int (nI q), .int (nI th), .ref r9, .int (nI os), .int (nI wz), .ref r10, .int (nI sz), .int (nI ia), .ref r11, .ref r12, .int tz, .ref r13, .int (nI ft)], aI G r1 500 T, aI G r2 26 pp, aS G r3 251502 c, aI G r4 501 C, aI G r13 9 fa] H locs → lv_has ls 6 [(0, .ref y0), (1, .int (nI j21)), (2, .int (nI x))] → W zp zl ze ({ frames := 2, cells := 0, slots := 0, locals := 46 }) zs zm zargs zbelow zmeth zc H locs 0 0 zQ (F0 zm 61 ls [.int (nI b)]) := by
                  intro b hb H locs ls hI hl
                  have hbl := lc_le T (j21 - x) (n - (j21 + 1)) (j21 + 1)
                  have hTp := hT j21 (by omega)
                  have hTx := hT x (by omega)
                  refine lv_istore_n (lv' := [(3, .int (nI b)), (0, .ref y0), (1, .int (nI j21)), (2, .int (nI x))]) zx zb dX9_know_61 rfl hl (by decide) rfl (fun ls hl => ?_)
                  refine lv_aload_n zx zb dX9_know_62 rfl (lv_at hl 1 rfl) ?_
                  refine j_get hC hI hin_X9_know_X9 0 rfl rfl 7 (by decide) hfl_X9_know_27 rfl rfl dX9_know_63 ?_
                  refine lv_sipush (v := nI 501) zx zb dX9_know_66 (by decide) ?_
                  refine lv_iload_n zx zb dX9_know_69 rfl (lv_at hl 2 rfl) ?_
                  refine j_imul hC dX9_know_70 ?_
                  refine lv_iload_n zx zb dX9_know_71 rfl (lv_at hl 3 rfl) ?_
                  refine j_iadd hC dX9_know_72 ?_
                  refine lv_aload_n zx zb dX9_know_73 rfl (lv_at hl 1 rfl) ?_
                  refine j_get hC hI hin_X9_know_X9 0 rfl rfl 1 (by decide) hfl_X9_know_7 rfl rfl dX9_know_74 ?_
                  refine lv_iload_n zx zb dX9_know_77 rfl (lv_at hl 2 rfl) ?_
                  refine j_iald hC hI 1 rfl (by omega) (by omega) dX9_know_78 ?_
                  have b78 := hT j21 (by omega)
                  refine lv_aload_n zx zb dX9_know_79 rfl (lv_at hl 1 rfl) ?_
                  refine j_get hC hI hin_X9_know_X9 0 rfl rfl 1 (by decide) hfl_X9_know_7 rfl rfl dX9_know_80 ?_
                  refine lv_iload_n zx zb dX9_know_83 rfl (lv_at hl 3 rfl) ?_
                  refine j_iald hC hI 1 rfl (by omega) (by omega) dX9_know_84 ?_
                  have b84 := hT x (by omega)
                  refine j_icmp_ne (tgt := 94) hC dX9_know_85 (by decide) (by omega) (by omega) (fun c85 => ?_) (fun c85 => ?_)
                  · refine lv_iconst (v := nI 0) zx zb dX9_know_94 (by decide) ?_
                    refine j_i2s hC (by omega) dX9_know_95 ?_
                    refine j_sast (w1 := [oC y0 9 [.int (nI 0), .ref r1, .int (nI n), .int (nI la), .int (nI lm), .int (nI lw), .ref r2, .ref r3, .ref r4, .int (nI 1), .ref r5, .ref r6, .ref r7, .int (nI k), .int (nI wp), .int (nI bt), .ref r8, .int (nI pn), .int (nI q), .int (nI th), .ref r9, .int (nI os), .int (nI wz), .ref r10, .int (nI sz), .int (nI ia), .ref r11, .ref r12, .int tz, .ref r13, .int (nI ft)], aI G r1 500 T, aI G r2 26 pp, aS G r3 251502 (up c ((501 * j21) + x) 0), aI G r4 501 C, aI G r13 9 fa]) hC hI 3 rfl (by omega) (by omega) (by omega) dX9_know_96 rfl (fun H locs hI => ?_)
                    refine lv_iinc (v := nI (x + 1)) (lv' := [(2, .int (nI (x + 1))), (3, .int (nI b)), (0, .ref y0), (1, .int (nI j21))]) zx zb dX9_know_97 hl (k := 3) rfl (j_inc _ _ _ (by decide)) (by decide) rfl (fun ls hl => ?_)
                    refine lv_goto (tgt := 26) zx zb dX9_know_100 (by decide) ?_
                    exact ih26 (x + 1) (up c ((501 * j21) + x) 0) (by omega) (cmO_next h2 (by omega) (by omega)) (cmr_next h3 (lc_ne (by omega) (by rw [show j21 - (j21 - x) = x by omega]; exact fun q => c85 q.symm)).symm) (by omega) _ _ _ hI (lv_sub hl [2, 3, 0] rfl)
                  · refine lv_iload_n zx zb dX9_know_88 rfl (lv_at hl 0 rfl) ?_
                    refine lv_iconst (v := nI 1) zx zb dX9_know_89 (by decide) ?_
                    refine j_iadd hC dX9_know_90 ?_
                    refine lv_goto (tgt := 95) zx zb dX9_know_91 (by decide) ?_
                    refine j_i2s hC (by omega) dX9_know_95 ?_
                    refine j_sast (w1 := [oC y0 9 [.int (nI 0), .ref r1, .int (nI n), .int (nI la), .int (nI lm), .int (nI lw), .ref r2, .ref r3, .ref r4, .int (nI 1), .ref r5, .ref r6, .ref r7, .int (nI k), .int (nI wp), .int (nI bt), .ref r8, .int (nI pn), .int (nI q), .int (nI th), .ref r9, .int (nI os), .int (nI wz), .ref r10, .int (nI sz), .int (nI ia), .ref r11, .ref r12, .int tz, .ref r13, .int (nI ft)], aI G r1 500 T, aI G r2 26 pp, aS G r3 251502 (up c ((501 * j21) + x) (b + 1)), aI G r4 501 C, aI G r13 9 fa]) hC hI 3 rfl (by omega) (by omega) (by omega) dX9_know_96 rfl (fun H locs hI => ?_)
                    refine lv_iinc (v := nI (x + 1)) (lv' := [(2, .int (nI (x + 1))), (3, .int (nI b)), (0, .ref y0), (1, .int (nI j21))]) zx zb dX9_know_97 hl (k := 3) rfl (j_inc _ _ _ (by decide)) (by decide) rfl (fun ls hl => ?_)
                    refine lv_goto (tgt := 26) zx zb dX9_know_100 (by decide) ?_
                    exact ih26 (x + 1) (up c ((501 * j21) + x) (b + 1)) (by omega) (cmO_next h2 (by omega) (by omega)) (cmr_next h3 (by rw [lc_eq (by omega) (by rw [show j21 - (j21 - x) = x by omega]; exact c85.symm), hb])) (by omega) _ _ _ hI (lv_sub hl [2, 3, 0] rfl)
                refine lv_iload_n zx zb dX9_know_31 rfl (lv_at hl 1 rfl) ?_
                refine lv_iconst (v := nI 1) zx zb dX9_know_32 (by decide) ?_
                refine j_iadd hC dX9_know_33 ?_
                refine lv_aload_n zx zb dX9_know_34 rfl (lv_at hl 0 rfl) ?_
                refine j_get hC hI hin_X9_know_X9 0 rfl rfl 2 (by decide) hfl_X9_know_68 rfl rfl dX9_know_35 ?_
                refine j_icmp_ge (tgt := 60) hC dX9_know_38 (by decide) (by omega) (by omega) (fun c38 => ?_) (fun c38 => ?_)
                · refine lv_iconst (v := nI 0) zx zb dX9_know_60 (by decide) ?_
                  exact loop61 0 (by rw [lc_end T (by omega)])  _ _ _ hI (lv_sub hl [0, 1, 2] rfl)
                · refine lv_aload_n zx zb dX9_know_41 rfl (lv_at hl 0 rfl) ?_
                  refine j_get hC hI hin_X9_know_X9 0 rfl rfl 7 (by decide) hfl_X9_know_27 rfl rfl dX9_know_42 ?_
                  refine lv_sipush (v := nI 501) zx zb dX9_know_45 (by decide) ?_
                  refine lv_iload_n zx zb dX9_know_48 rfl (lv_at hl 1 rfl) ?_
                  refine lv_iconst (v := nI 1) zx zb dX9_know_49 (by decide) ?_
                  refine j_iadd hC dX9_know_50 ?_
                  refine j_imul hC dX9_know_51 ?_
                  refine lv_iload_n zx zb dX9_know_52 rfl (lv_at hl 2 rfl) ?_
                  refine j_iadd hC dX9_know_53 ?_
                  refine lv_iconst (v := nI 1) zx zb dX9_know_54 (by decide) ?_
                  refine j_iadd hC dX9_know_55 ?_
                  have hq5 : c (501 * (j21 + 1) + x + 1) = lc T (j21 - x) (j21 + 1) (n - (j21 + 1)) := by rw [← h2 (j21 + 1) (by omega) (by omega) (j21 - x) (by omega) (by omega)]; congr 1; omega
                  refine j_sald hC hI 3 rfl (by omega) (by omega) dX9_know_56 ?_
                  refine lv_goto (tgt := 61) zx zb dX9_know_57 (by decide) ?_
                  exact loop61 (c (((501 * (j21 + 1)) + x) + 1)) (by rw [← h2 (j21 + 1) (by omega) (by omega) (j21 - x) (by omega) (by omega)]; congr 1; omega)  _ _ _ hI (lv_sub hl [0, 1, 2] rfl)
          exact loop26 _ 0 c (by omega) h1 (fun y h => by omega) (Nat.lt_succ_self _) _ _ _ hI (lv_sub hl [1, 2, 0] rfl)
    exact loop20 _ n cm (by omega) (fun p a b => by omega) (Nat.lt_succ_self _) _ _ _ hI (lv_sub hl [1, 0] rfl)
  · exact hQ _ _ _ _ ⟨cm, C, fa⟩ dX9_know_7 (hI.sub [0, 1, 2, 3, 4, 5] rfl (by rw [show kn = 1 by omega]; rfl)) (by (try dsimp only); exact ⟨(hk c4).1, (hk c4).2⟩)

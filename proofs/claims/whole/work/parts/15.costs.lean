theorem hin_X2_leastFrom_X2 : ∀ w ∈ wsX20, w ∈ wsX2_leastFrom := by decide +kernel
theorem hfl_X2_leastFrom_9 : Cond.fieldLink RX2 9 "CheapParse$Costs" "text" "LCheapParse$Bytes;" ∈ wsX2_leastFrom := by decide +kernel
theorem hfl_X2_leastFrom_27 : Cond.fieldLink RX2 27 "CheapParse$Costs" "least" "[I" ∈ wsX2_leastFrom := by decide +kernel
set_option maxHeartbeats 4000000 in
set_option maxRecDepth 100000 in
theorem c_X2_leastFrom (zl : Launch) (G : jG) (k0 : Nat) (b1 : Nat) (b2 : Nat) (b3 : Nat) (b4 : Nat) (b5 : Nat) (f0 : Nat) (m0 : Nat) (t0 : Nat) (u0 : Nat) (t1 : Nat) (n : Nat) (p : Nat) (C : Nat → Nat) (hn : n ≤ 500) (hp : p ≤ n) : jMet zl yX2_leastFrom wsX2_leastFrom ({ frames := 1, cells := 0, slots := 0, locals := 20 }) G [oC k0 2 [.ref t0, .ref u0, .ref f0, .ref m0, .ref b1, .ref b2, .ref b3, .ref b4, .ref b5], oC t0 1 [.ref t1, .int (nI n)], aI G b1 501 C] [.ref k0, .int (nI p)] (jQi G (fun (r : Int32) (u : Unit) => (r = nI (C p))) (fun (u : Unit) => [oC k0 2 [.ref t0, .ref u0, .ref f0, .ref m0, .ref b1, .ref b2, .ref b3, .ref b4, .ref b5], oC t0 1 [.ref t1, .int (nI n)], aI G b1 501 C])) 0 0 := by
  refine j_enter_i (cc := cX2_leastFrom) (nL := 2) (nm := "leastFrom") (own := RX2) (lv := [(0, .ref k0), (1, .int (nI p))]) (by decide) rfl (Nat.le_of_ble_eq_true rfl) rfl rfl rfl ?_
  intro zA zp ze zs zm zargs zbelow zmeth zc zQ ls hC hQ hI hl
  have zx := hC.1
  have zb := hC.2.1
  refine lv_iload_n zx zb dX2_leastFrom_0 rfl (lv_at hl 1 rfl) ?_
  refine j_if_lt (tgt := 24) hC dX2_leastFrom_1 (by decide) (by omega) ?_
  refine lv_iload_n zx zb dX2_leastFrom_4 rfl (lv_at hl 1 rfl) ?_
  refine lv_aload_n zx zb dX2_leastFrom_5 rfl (lv_at hl 0 rfl) ?_
  refine j_get hC hI hin_X2_leastFrom_X2 0 rfl rfl 0 (by decide) hfl_X2_leastFrom_9 rfl rfl dX2_leastFrom_6 ?_
  refine j_callVi (wr := [oC k0 2 [.ref t0, .ref u0, .ref f0, .ref m0, .ref b1, .ref b2, .ref b3, .ref b4, .ref b5], aI G b1 501 C]) hC hI (c_X1_size zl G t0 t1 n ) (cwV 0 hC.2.2.2.2.1 gX2_leastFrom_X1_size rfl rfl rfl (by decide +kernel) ⟨Nat.le_of_ble_eq_true rfl, Nat.le_of_ble_eq_true rfl⟩) [1] [0, 2] rfl rfl rfl rfl rfl rfl (q0 := 0) rfl rfl rfl hl.1 (Nat.le_of_ble_eq_true rfl) dX2_leastFrom_9 ⟨Nat.le_of_ble_eq_true rfl, Nat.le_of_ble_eq_true rfl⟩ (fun rv9 u9 H locs hp9 hI => ?_)
  have hI : jI G zA zs [oC k0 2 [.ref t0, .ref u0, .ref f0, .ref m0, .ref b1, .ref b2, .ref b3, .ref b4, .ref b5], aI G b1 501 C, oC t0 1 [.ref t1, .int (nI n)]] H locs := hI
  subst hp9
  refine j_icmp_gt (tgt := 24) hC dX2_leastFrom_12 (by decide) (by omega) (by omega) (fun c12 => ?_) (fun c12 => ?_)
  · exact (by omega : False).elim
  · refine lv_aload_n zx zb dX2_leastFrom_15 rfl (lv_at hl 0 rfl) ?_
    refine j_get hC hI hin_X2_leastFrom_X2 0 rfl rfl 4 (by decide) hfl_X2_leastFrom_27 rfl rfl dX2_leastFrom_16 ?_
    refine lv_iload_n zx zb dX2_leastFrom_19 rfl (lv_at hl 1 rfl) ?_
    refine j_iald hC hI 1 rfl (by omega) (by omega) dX2_leastFrom_20 ?_
    refine lv_goto (tgt := 25) zx zb dX2_leastFrom_21 (by decide) ?_
    exact hQ _ _ _ _ _ () dX2_leastFrom_25 (hI.sub [0, 2, 1] rfl rfl) (by first | rfl | (congr 1; omega) | omega)

theorem hin_X2_lengthAt_X2 : ∀ w ∈ wsX20, w ∈ wsX2_lengthAt := by decide +kernel
theorem hfl_X2_lengthAt_9 : Cond.fieldLink RX2 9 "CheapParse$Costs" "text" "LCheapParse$Bytes;" ∈ wsX2_lengthAt := by decide +kernel
theorem hfl_X2_lengthAt_31 : Cond.fieldLink RX2 31 "CheapParse$Costs" "stepLength" "[I" ∈ wsX2_lengthAt := by decide +kernel
set_option maxHeartbeats 4000000 in
set_option maxRecDepth 100000 in
theorem c_X2_lengthAt (zl : Launch) (G : jG) (k0 : Nat) (b1 : Nat) (b2 : Nat) (b3 : Nat) (b4 : Nat) (b5 : Nat) (f0 : Nat) (m0 : Nat) (t0 : Nat) (u0 : Nat) (t1 : Nat) (n : Nat) (p : Nat) (s1 : Nat → Nat) (hn : n ≤ 500) (hp : p < n) : jMet zl yX2_lengthAt wsX2_lengthAt ({ frames := 1, cells := 0, slots := 0, locals := 20 }) G [oC k0 2 [.ref t0, .ref u0, .ref f0, .ref m0, .ref b1, .ref b2, .ref b3, .ref b4, .ref b5], oC t0 1 [.ref t1, .int (nI n)], aI G b2 500 s1] [.ref k0, .int (nI p)] (jQi G (fun (r : Int32) (u : Unit) => (r = nI (s1 p))) (fun (u : Unit) => [oC k0 2 [.ref t0, .ref u0, .ref f0, .ref m0, .ref b1, .ref b2, .ref b3, .ref b4, .ref b5], oC t0 1 [.ref t1, .int (nI n)], aI G b2 500 s1])) 0 0 := by
  refine j_enter_i (cc := cX2_lengthAt) (nL := 2) (nm := "lengthAt") (own := RX2) (lv := [(0, .ref k0), (1, .int (nI p))]) (by decide) rfl (Nat.le_of_ble_eq_true rfl) rfl rfl rfl ?_
  intro zA zp ze zs zm zargs zbelow zmeth zc zQ ls hC hQ hI hl
  have zx := hC.1
  have zb := hC.2.1
  refine lv_iload_n zx zb dX2_lengthAt_0 rfl (lv_at hl 1 rfl) ?_
  refine j_if_lt (tgt := 24) hC dX2_lengthAt_1 (by decide) (by omega) ?_
  refine lv_iload_n zx zb dX2_lengthAt_4 rfl (lv_at hl 1 rfl) ?_
  refine lv_aload_n zx zb dX2_lengthAt_5 rfl (lv_at hl 0 rfl) ?_
  refine j_get hC hI hin_X2_lengthAt_X2 0 rfl rfl 0 (by decide) hfl_X2_lengthAt_9 rfl rfl dX2_lengthAt_6 ?_
  refine j_callVi (wr := [oC k0 2 [.ref t0, .ref u0, .ref f0, .ref m0, .ref b1, .ref b2, .ref b3, .ref b4, .ref b5], aI G b2 500 s1]) hC hI (c_X1_size zl G t0 t1 n ) (cwV 0 hC.2.2.2.2.1 gX2_lengthAt_X1_size rfl rfl rfl (by decide +kernel) ⟨Nat.le_of_ble_eq_true rfl, Nat.le_of_ble_eq_true rfl⟩) [1] [0, 2] rfl rfl rfl rfl rfl rfl (q0 := 0) rfl rfl rfl hl.1 (Nat.le_of_ble_eq_true rfl) dX2_lengthAt_9 ⟨Nat.le_of_ble_eq_true rfl, Nat.le_of_ble_eq_true rfl⟩ (fun rv9 u9 H locs hp9 hI => ?_)
  have hI : jI G zA zs [oC k0 2 [.ref t0, .ref u0, .ref f0, .ref m0, .ref b1, .ref b2, .ref b3, .ref b4, .ref b5], aI G b2 500 s1, oC t0 1 [.ref t1, .int (nI n)]] H locs := hI
  subst hp9
  refine j_icmp_ge (tgt := 24) hC dX2_lengthAt_12 (by decide) (by omega) (by omega) (fun c12 => ?_) (fun c12 => ?_)
  · exact (by omega : False).elim
  · refine lv_aload_n zx zb dX2_lengthAt_15 rfl (lv_at hl 0 rfl) ?_
    refine j_get hC hI hin_X2_lengthAt_X2 0 rfl rfl 5 (by decide) hfl_X2_lengthAt_31 rfl rfl dX2_lengthAt_16 ?_
    refine lv_iload_n zx zb dX2_lengthAt_19 rfl (lv_at hl 1 rfl) ?_
    refine j_iald hC hI 1 rfl (by omega) (by omega) dX2_lengthAt_20 ?_
    refine lv_goto (tgt := 25) zx zb dX2_lengthAt_21 (by decide) ?_
    exact hQ _ _ _ _ _ () dX2_lengthAt_25 (hI.sub [0, 2, 1] rfl rfl) (by first | rfl | (congr 1; omega) | omega)

theorem hin_X2_sortByReach_X2 : ∀ w ∈ wsX20, w ∈ wsX2_sortByReach := by decide +kernel
theorem hfl_X2_sortByReach_23 : Cond.fieldLink RX2 23 "CheapParse$Costs" "matches" "LCheapParse$Matches;" ∈ wsX2_sortByReach := by decide +kernel
theorem hfl_X2_sortByReach_40 : Cond.fieldLink RX2 40 "CheapParse$Costs" "priceByReach" "[I" ∈ wsX2_sortByReach := by decide +kernel
theorem hfl_X2_sortByReach_19 : Cond.fieldLink RX2 19 "CheapParse$Costs" "tariff" "LCheapParse$Tariff;" ∈ wsX2_sortByReach := by decide +kernel
set_option maxHeartbeats 4000000 in
set_option maxRecDepth 100000 in
theorem c_X2_sortByReach (zl : Launch) (G : jG) (k0 : Nat) (b1 : Nat) (b2 : Nat) (b3 : Nat) (b4 : Nat) (b5 : Nat) (f0 : Nat) (f1 : Nat) (f2 : Nat) (f3 : Nat) (f4 : Nat) (m0 : Nat) (t0 : Nat) (u0 : Nat) (a1 : Nat) (a2 : Nat) (a3 : Nat) (a4 : Nat) (a5 : Nat) (n : Nat) (la : Nat) (lm : Nat) (lw : Nat) (p : Nat) (x : Nat) (T : Nat → Nat) (pd : Nat → Nat) (g4 : Nat → Nat) (pr : Nat → Nat) (hp : p < 500) (hx : x ≤ 255) (hpd : ∀ j, j < 9 → pd j ≤ 1000) (hr : ∀ c, c < 9 → g4 (p * 9 + c) = rxc la lm lw T n p c) (hr2 : ∀ c, c < 9 → rxc la lm lw T n p c ≤ x) : jMet zl yX2_sortByReach wsX2_sortByReach ({ frames := 2, cells := 0, slots := 0, locals := 35 }) G [oC k0 2 [.ref t0, .ref u0, .ref f0, .ref m0, .ref b1, .ref b2, .ref b3, .ref b4, .ref b5], oC m0 3 [.ref t0, .ref u0, .ref a1, .ref a2, .ref a3, .ref a4, .ref a5], aI G a4 4500 g4, oC f0 7 [.ref f1, .ref f2, .ref f3, .ref f4], aI G f4 9 pd, aI G b5 256 pr] [.ref k0, .int (nI p), .int (nI x)] (jQv G (fun (u : (Nat → Nat)) => (∀ y, y ≤ x → srt la lm lw T n p pd u 9 y)) (fun (u : (Nat → Nat)) => [oC k0 2 [.ref t0, .ref u0, .ref f0, .ref m0, .ref b1, .ref b2, .ref b3, .ref b4, .ref b5], oC m0 3 [.ref t0, .ref u0, .ref a1, .ref a2, .ref a3, .ref a4, .ref a5], aI G a4 4500 g4, oC f0 7 [.ref f1, .ref f2, .ref f3, .ref f4], aI G f4 9 pd, aI G b5 256 u])) 0 0 := by
  refine j_enter_v (cc := cX2_sortByReach) (nL := 5) (nm := "sortByReach") (own := RX2) (lv := [(0, .ref k0), (1, .int (nI p)), (2, .int (nI x))]) (by decide) rfl (Nat.le_of_ble_eq_true rfl) rfl rfl rfl ?_
  intro zA zp ze zs zm zargs zbelow zmeth zc zQ ls hC hQ hI hl
  have zx := hC.1
  have zb := hC.2.1
  refine lv_iconst (v := nI 0) zx zb dX2_sortByReach_0 (by decide) ?_
  refine lv_istore_n (lv' := [(3, .int (nI 0)), (0, .ref k0), (1, .int (nI p)), (2, .int (nI x))]) zx zb dX2_sortByReach_1 rfl hl (by decide) rfl (fun ls hl => ?_)
  have loop2 : ∀ (zn2 : Nat) (i : Nat) (e : Nat → Nat), (i ≤ x + 1) → (∀ y, y < i → e y = 1000000000) → (x + 1 - i) < zn2 → ∀ (H : Heap) (locs : List Loc) (ls : Array Slot), jI G zA zs [oC k0 2 [.ref t0, .ref u0, .ref f0, .ref m0, .ref b1, .ref b2, .ref b3, .ref b4, .ref b5], oC m0 3 [.ref t0, .ref u0, .ref a1, .ref a2, .ref a3, .ref a4, .ref a5], aI G a4 4500 g4, oC f0 7 [.ref f1, .ref f2, .ref f3, .ref f4], aI G f4 9 pd, aI G b5 256 e] H locs → lv_has ls 5 [(0, .ref k0), (1, .int (nI p)), (2, .int (nI x)), (3, .int (nI i))] → W zp zl ze ({ frames := 2, cells := 0, slots := 0, locals := 35 }) zs zm zargs zbelow zmeth zc H locs 0 0 zQ (F0 zm 2 ls []) := by
    intro zn2
    induction zn2 with
    | zero => intros; omega
    | succ zn2 ih2 =>
      intro i e hi h5 zm2 H locs ls hI hl
      refine lv_iload_n zx zb dX2_sortByReach_2 rfl (lv_at hl 3 rfl) ?_
      refine lv_iload_n zx zb dX2_sortByReach_3 rfl (lv_at hl 2 rfl) ?_
      refine j_icmp_gt (tgt := 21) hC dX2_sortByReach_4 (by decide) (by omega) (by omega) (fun c4 => ?_) (fun c4 => ?_)
      · refine lv_iconst (v := nI 0) zx zb dX2_sortByReach_21 (by decide) ?_
        refine lv_istore_n (lv' := [(3, .int (nI 0)), (0, .ref k0), (1, .int (nI p)), (2, .int (nI x))]) zx zb dX2_sortByReach_22 rfl hl (by decide) rfl (fun ls hl => ?_)
        have loop23 : ∀ (zn23 : Nat) (c : Nat) (e : Nat → Nat), (c ≤ 9) → (∀ y, y ≤ x → srt la lm lw T n p pd e c y) → (∀ y, y ≤ x → e y ≤ 1000000000) → (9 - c) < zn23 → ∀ (H : Heap) (locs : List Loc) (ls : Array Slot), jI G zA zs [oC k0 2 [.ref t0, .ref u0, .ref f0, .ref m0, .ref b1, .ref b2, .ref b3, .ref b4, .ref b5], oC m0 3 [.ref t0, .ref u0, .ref a1, .ref a2, .ref a3, .ref a4, .ref a5], aI G a4 4500 g4, oC f0 7 [.ref f1, .ref f2, .ref f3, .ref f4], aI G f4 9 pd, aI G b5 256 e] H locs → lv_has ls 5 [(0, .ref k0), (1, .int (nI p)), (2, .int (nI x)), (3, .int (nI c))] → W zp zl ze ({ frames := 2, cells := 0, slots := 0, locals := 35 }) zs zm zargs zbelow zmeth zc H locs 0 0 zQ (F0 zm 23 ls []) := by
          intro zn23
          induction zn23 with
          | zero => intros; omega
          | succ zn23 ih23 =>
            intro c e hc h5 hb zm23 H locs ls hI hl
            refine lv_iload_n zx zb dX2_sortByReach_23 rfl (lv_at hl 3 rfl) ?_
            refine lv_bipush (v := nI 9) zx zb dX2_sortByReach_24 (by decide) ?_
            refine j_icmp_ge (tgt := 71) hC dX2_sortByReach_26 (by decide) (by omega) (by omega) (fun c26 => ?_) (fun c26 => ?_)
            · rw [show c = 9 by omega] at h5
              exact hQ _ _ _ _ e dX2_sortByReach_71 (hI.sub [0, 1, 2, 3, 4, 5] rfl rfl) h5
            · refine lv_aload_n zx zb dX2_sortByReach_29 rfl (lv_at hl 0 rfl) ?_
              refine j_get hC hI hin_X2_sortByReach_X2 0 rfl rfl 3 (by decide) hfl_X2_sortByReach_23 rfl rfl dX2_sortByReach_30 ?_
              refine lv_iload_n zx zb dX2_sortByReach_33 rfl (lv_at hl 1 rfl) ?_
              refine lv_iload_n zx zb dX2_sortByReach_34 rfl (lv_at hl 3 rfl) ?_
              refine j_callVi (wr := [oC k0 2 [.ref t0, .ref u0, .ref f0, .ref m0, .ref b1, .ref b2, .ref b3, .ref b4, .ref b5], oC f0 7 [.ref f1, .ref f2, .ref f3, .ref f4], aI G f4 9 pd, aI G b5 256 e]) hC hI (c_X3_reachAt zl G m0 t0 u0 a1 a2 a3 a4 a5 p c g4 (by omega) (by omega)) (cwV 2 hC.2.2.2.2.1 gX2_sortByReach_X3_reachAt rfl rfl rfl (by decide +kernel) ⟨Nat.le_of_ble_eq_true rfl, Nat.le_of_ble_eq_true rfl⟩) [1, 2] [0, 3, 4, 5] rfl rfl rfl rfl rfl rfl (q0 := 0) rfl rfl rfl hl.1 (Nat.le_of_ble_eq_true rfl) dX2_sortByReach_35 ⟨Nat.le_of_ble_eq_true rfl, Nat.le_of_ble_eq_true rfl⟩ (fun rv35 u35 H locs hp35 hI => ?_)
              have hI : jI G zA zs [oC k0 2 [.ref t0, .ref u0, .ref f0, .ref m0, .ref b1, .ref b2, .ref b3, .ref b4, .ref b5], oC f0 7 [.ref f1, .ref f2, .ref f3, .ref f4], aI G f4 9 pd, aI G b5 256 e, oC m0 3 [.ref t0, .ref u0, .ref a1, .ref a2, .ref a3, .ref a4, .ref a5], aI G a4 4500 g4] H locs := hI
              subst hp35
              have hq1 := hr c (by omega)
              have hq2 := hr2 c (by omega)
              refine lv_istore (lv' := [(4, .int (nI (g4 (p * 9 + c)))), (0, .ref k0), (1, .int (nI p)), (2, .int (nI x)), (3, .int (nI c))]) zx zb dX2_sortByReach_38 hl (by decide) rfl (fun ls hl => ?_)
              refine lv_aload_n zx zb dX2_sortByReach_40 rfl (lv_at hl 1 rfl) ?_
              refine j_get hC hI hin_X2_sortByReach_X2 0 rfl rfl 8 (by decide) hfl_X2_sortByReach_40 rfl rfl dX2_sortByReach_41 ?_
              refine lv_iload zx zb dX2_sortByReach_44 (lv_at hl 0 rfl) ?_
              refine lv_aload_n zx zb dX2_sortByReach_46 rfl (lv_at hl 1 rfl) ?_
              refine j_get hC hI hin_X2_sortByReach_X2 0 rfl rfl 8 (by decide) hfl_X2_sortByReach_40 rfl rfl dX2_sortByReach_47 ?_
              refine lv_iload zx zb dX2_sortByReach_50 (lv_at hl 0 rfl) ?_
              refine j_iald hC hI 3 rfl (by omega) (by omega) dX2_sortByReach_52 ?_
              refine lv_aload_n zx zb dX2_sortByReach_53 rfl (lv_at hl 1 rfl) ?_
              refine j_get hC hI hin_X2_sortByReach_X2 0 rfl rfl 2 (by decide) hfl_X2_sortByReach_19 rfl rfl dX2_sortByReach_54 ?_
              refine lv_iload_n zx zb dX2_sortByReach_57 rfl (lv_at hl 4 rfl) ?_
              refine j_callVi (wr := [oC k0 2 [.ref t0, .ref u0, .ref f0, .ref m0, .ref b1, .ref b2, .ref b3, .ref b4, .ref b5], aI G b5 256 e, oC m0 3 [.ref t0, .ref u0, .ref a1, .ref a2, .ref a3, .ref a4, .ref a5], aI G a4 4500 g4]) hC hI (c_X7_ofDistanceClass zl G f0 f1 f2 f3 f4 c pd (by omega)) (cwV 1 hC.2.2.2.2.1 gX2_sortByReach_X7_ofDistanceClass rfl rfl rfl (by decide +kernel) ⟨Nat.le_of_ble_eq_true rfl, Nat.le_of_ble_eq_true rfl⟩) [1, 2] [0, 3, 4, 5] rfl rfl rfl rfl rfl rfl (q0 := 0) rfl rfl rfl hl.1 (Nat.le_of_ble_eq_true rfl) dX2_sortByReach_58 ⟨Nat.le_of_ble_eq_true rfl, Nat.le_of_ble_eq_true rfl⟩ (fun rv58 u58 H locs hp58 hI => ?_)
              have hI : jI G zA zs [oC k0 2 [.ref t0, .ref u0, .ref f0, .ref m0, .ref b1, .ref b2, .ref b3, .ref b4, .ref b5], aI G b5 256 e, oC m0 3 [.ref t0, .ref u0, .ref a1, .ref a2, .ref a3, .ref a4, .ref a5], aI G a4 4500 g4, oC f0 7 [.ref f1, .ref f2, .ref f3, .ref f4], aI G f4 9 pd] H locs := hI
              subst hp58
              have hq3 := hpd c (by omega)
              have hq4 := hb (g4 (p * 9 + c)) (by omega)
              refine j_min hC hl.1 (by decide +kernel) (by decide +kernel) (by decide +kernel) (by decide +kernel) (Nat.le_of_ble_eq_true rfl) (Nat.le_of_ble_eq_true rfl) (Nat.le_of_ble_eq_true rfl) (Nat.le_of_ble_eq_true rfl) (by omega) (by omega) dX2_sortByReach_61 ?_
              refine j_iast (w1 := [oC k0 2 [.ref t0, .ref u0, .ref f0, .ref m0, .ref b1, .ref b2, .ref b3, .ref b4, .ref b5], aI G b5 256 (up e (g4 (p * 9 + c)) (min (e (g4 (p * 9 + c))) (pd c))), oC m0 3 [.ref t0, .ref u0, .ref a1, .ref a2, .ref a3, .ref a4, .ref a5], aI G a4 4500 g4, oC f0 7 [.ref f1, .ref f2, .ref f3, .ref f4], aI G f4 9 pd]) hC hI 1 rfl (by omega) (by omega) dX2_sortByReach_64 rfl (fun H locs hI => ?_)
              refine lv_iinc (v := nI (c + 1)) (lv' := [(3, .int (nI (c + 1))), (4, .int (nI (g4 (p * 9 + c)))), (0, .ref k0), (1, .int (nI p)), (2, .int (nI x))]) zx zb dX2_sortByReach_65 hl (k := 4) rfl (j_inc _ _ _ (by decide)) (by decide) rfl (fun ls hl => ?_)
              refine lv_goto (tgt := 23) zx zb dX2_sortByReach_68 (by decide) ?_
              exact ih23 (c + 1) (up e (g4 (p * 9 + c)) (min (e (g4 (p * 9 + c))) (pd c))) (by omega) (fun y h => by rw [hr c (by omega)]; exact srt_step (h5 y h)) (fun y h => by by_cases q : y = g4 (p * 9 + c); subst q; rw [up_s]; have := hb _ h; omega; rw [up_n q]; exact hb y h) (by omega) _ _ _ (hI.sub [0, 2, 3, 4, 5, 1] rfl rfl) (lv_sub hl [2, 3, 4, 0] rfl)
        exact loop23 _ 0 e (by omega) (fun y h => ⟨fun c h1 h2 => by omega, Or.inl (h5 y (by omega))⟩) (fun y h => Nat.le_of_eq (h5 y (by omega))) (Nat.lt_succ_self _) _ _ _ hI (lv_sub hl [1, 2, 3, 0] rfl)
      · refine lv_aload_n zx zb dX2_sortByReach_7 rfl (lv_at hl 0 rfl) ?_
        refine j_get hC hI hin_X2_sortByReach_X2 0 rfl rfl 8 (by decide) hfl_X2_sortByReach_40 rfl rfl dX2_sortByReach_8 ?_
        refine lv_iload_n zx zb dX2_sortByReach_11 rfl (lv_at hl 3 rfl) ?_
        refine j_ldc (k := 1000000000) (v := 1000000000) hC dX2_sortByReach_12 (by decide +kernel) (by decide) ?_
        refine j_iast (w1 := [oC k0 2 [.ref t0, .ref u0, .ref f0, .ref m0, .ref b1, .ref b2, .ref b3, .ref b4, .ref b5], oC m0 3 [.ref t0, .ref u0, .ref a1, .ref a2, .ref a3, .ref a4, .ref a5], aI G a4 4500 g4, oC f0 7 [.ref f1, .ref f2, .ref f3, .ref f4], aI G f4 9 pd, aI G b5 256 (up e i 1000000000)]) hC hI 5 rfl (by omega) (by omega) dX2_sortByReach_14 rfl (fun H locs hI => ?_)
        refine lv_iinc (v := nI (i + 1)) (lv' := [(3, .int (nI (i + 1))), (0, .ref k0), (1, .int (nI p)), (2, .int (nI x))]) zx zb dX2_sortByReach_15 hl (k := 3) rfl (j_inc _ _ _ (by decide)) (by decide) rfl (fun ls hl => ?_)
        refine lv_goto (tgt := 2) zx zb dX2_sortByReach_18 (by decide) ?_
        exact ih2 (i + 1) (up e i 1000000000) (by omega) (fun y h => by by_cases q : y = i; subst q; rw [up_s]; rw [up_n q]; exact h5 y (by omega)) (by omega) _ _ _ hI (lv_sub hl [1, 2, 3, 0] rfl)
  exact loop2 _ 0 pr (by omega) (fun y h => by omega) (Nat.lt_succ_self _) _ _ _ hI (lv_sub hl [1, 2, 3, 0] rfl)

theorem hin_X2_chooseStep_X2 : ∀ w ∈ wsX20, w ∈ wsX2_chooseStep := by decide +kernel
theorem hfl_X2_chooseStep_23 : Cond.fieldLink RX2 23 "CheapParse$Costs" "matches" "LCheapParse$Matches;" ∈ wsX2_chooseStep := by decide +kernel
theorem hfl_X2_chooseStep_15 : Cond.fieldLink RX2 15 "CheapParse$Costs" "rules" "LCheapParse$Rules;" ∈ wsX2_chooseStep := by decide +kernel
theorem hfl_X2_chooseStep_19 : Cond.fieldLink RX2 19 "CheapParse$Costs" "tariff" "LCheapParse$Tariff;" ∈ wsX2_chooseStep := by decide +kernel
theorem hfl_X2_chooseStep_9 : Cond.fieldLink RX2 9 "CheapParse$Costs" "text" "LCheapParse$Bytes;" ∈ wsX2_chooseStep := by decide +kernel
theorem hfl_X2_chooseStep_27 : Cond.fieldLink RX2 27 "CheapParse$Costs" "least" "[I" ∈ wsX2_chooseStep := by decide +kernel
theorem hfl_X2_chooseStep_31 : Cond.fieldLink RX2 31 "CheapParse$Costs" "stepLength" "[I" ∈ wsX2_chooseStep := by decide +kernel
theorem hfl_X2_chooseStep_34 : Cond.fieldLink RX2 34 "CheapParse$Costs" "stepDistancePrice" "[I" ∈ wsX2_chooseStep := by decide +kernel
theorem hfl_X2_chooseStep_40 : Cond.fieldLink RX2 40 "CheapParse$Costs" "priceByReach" "[I" ∈ wsX2_chooseStep := by decide +kernel
theorem hfl_X2_chooseStep_37 : Cond.fieldLink RX2 37 "CheapParse$Costs" "lengthPrice" "[I" ∈ wsX2_chooseStep := by decide +kernel
set_option maxHeartbeats 4000000 in
set_option maxRecDepth 100000 in
theorem c_X2_chooseStep (zl : Launch) (G : jG) (k0 : Nat) (b1 : Nat) (b2 : Nat) (b3 : Nat) (b4 : Nat) (b5 : Nat) (f0 : Nat) (f1 : Nat) (f2 : Nat) (f3 : Nat) (f4 : Nat) (m0 : Nat) (t0 : Nat) (u0 : Nat) (a1 : Nat) (a2 : Nat) (a3 : Nat) (a4 : Nat) (a5 : Nat) (t1 : Nat) (n : Nat) (la : Nat) (lm : Nat) (lw : Nat) (p : Nat) (T : Nat → Nat) (g1 : Nat → Nat) (g4 : Nat → Nat) (pb : Nat → Nat) (pa : Nat → Nat) (pl : Nat → Nat) (pd : Nat → Nat) (C : Nat → Nat) (s1 : Nat → Nat) (s2 : Nat → Nat) (lp : Nat → Nat) (pr : Nat → Nat) (hn : n ≤ 500) (hl : 1 ≤ la ∧ la ≤ lm ∧ lm ≤ 255 ∧ lw ≤ 500) (hT : ∀ j, j < n → T j < 256) (hP : prOK pb pa pl pd) (h2 : 2 ≤ la) (hp : p < n) (hg1 : g1 p = mx (mt la lm lw T n p) 511) (hg4 : ∀ c, c < 9 → g4 (p * 9 + c) = rxc la lm lw T n p c) (hlp : ∀ x, la ≤ x → x ≤ lm → lp x = pa 0 + pl x.log2) (hCb : ∀ j, p < j → j ≤ n → C j ≤ 1000 * (n - j)) : jMet zl yX2_chooseStep wsX2_chooseStep ({ frames := 3, cells := 0, slots := 0, locals := 59 }) G [oC k0 2 [.ref t0, .ref u0, .ref f0, .ref m0, .ref b1, .ref b2, .ref b3, .ref b4, .ref b5], oC m0 3 [.ref t0, .ref u0, .ref a1, .ref a2, .ref a3, .ref a4, .ref a5], oC t0 1 [.ref t1, .int (nI n)], aI G t1 500 T, oC u0 5 [.int (nI la), .int (nI lm), .int (nI lw)], aI G a1 500 g1, aI G a4 4500 g4, oC f0 7 [.ref f1, .ref f2, .ref f3, .ref f4], aI G f1 8 pb, aI G f2 1 pa, aI G f3 8 pl, aI G f4 9 pd, aI G b1 501 C, aI G b2 500 s1, aI G b3 500 s2, aI G b4 256 lp, aI G b5 256 pr] [.ref k0, .int (nI p)] (jQv G (fun (u : Nat × Nat × Nat × (Nat → Nat)) => (isC la lm lw T n pb pa pl pd C p u.1) ∧ (isS la lm lw T n pb pa pl pd C p u.1 u.2.1 u.2.2.1)) (fun (u : Nat × Nat × Nat × (Nat → Nat)) => [oC k0 2 [.ref t0, .ref u0, .ref f0, .ref m0, .ref b1, .ref b2, .ref b3, .ref b4, .ref b5], oC m0 3 [.ref t0, .ref u0, .ref a1, .ref a2, .ref a3, .ref a4, .ref a5], oC t0 1 [.ref t1, .int (nI n)], aI G t1 500 T, oC u0 5 [.int (nI la), .int (nI lm), .int (nI lw)], aI G a1 500 g1, aI G a4 4500 g4, oC f0 7 [.ref f1, .ref f2, .ref f3, .ref f4], aI G f1 8 pb, aI G f2 1 pa, aI G f3 8 pl, aI G f4 9 pd, aI G b1 501 (up C p u.1), aI G b2 500 (up s1 p u.2.1), aI G b3 500 (up s2 p u.2.2.1), aI G b4 256 lp, aI G b5 256 u.2.2.2])) 0 0 := by
  refine j_enter_v (cc := cX2_chooseStep) (nL := 9) (nm := "chooseStep") (own := RX2) (lv := [(0, .ref k0), (1, .int (nI p))]) (by decide) rfl (Nat.le_of_ble_eq_true rfl) rfl rfl rfl ?_
  intro zA zp ze zs zm zargs zbelow zmeth zc zQ ls hC hQ hI hl
  have zx := hC.1
  have zb := hC.2.1
  have hmx : mx (mt la lm lw T n p) 511 ≤ n - p := mx_le (fun d => mt_n) _
  have hml : mx (mt la lm lw T n p) 511 ≤ lm := mx_le (fun d => mt_le) _
  have hpb := hP.1 (T p / 32) (by have := hT p hp; omega)
  have hC1 := hCb (p + 1) (by omega) (by omega)
  have hTp := hT p hp
  refine lv_aload_n zx zb dX2_chooseStep_0 rfl (lv_at hl 0 rfl) ?_
  refine j_get hC hI hin_X2_chooseStep_X2 0 rfl rfl 3 (by decide) hfl_X2_chooseStep_23 rfl rfl dX2_chooseStep_1 ?_
  refine lv_iload_n zx zb dX2_chooseStep_4 rfl (lv_at hl 1 rfl) ?_
  refine j_callVi (wr := [oC k0 2 [.ref t0, .ref u0, .ref f0, .ref m0, .ref b1, .ref b2, .ref b3, .ref b4, .ref b5], aI G t1 500 T, oC u0 5 [.int (nI la), .int (nI lm), .int (nI lw)], aI G a4 4500 g4, oC f0 7 [.ref f1, .ref f2, .ref f3, .ref f4], aI G f1 8 pb, aI G f2 1 pa, aI G f3 8 pl, aI G f4 9 pd, aI G b1 501 C, aI G b2 500 s1, aI G b3 500 s2, aI G b4 256 lp, aI G b5 256 pr]) hC hI (c_X3_longestAt zl G m0 t0 u0 a1 a2 a3 a4 a5 t1 n p g1 (by omega) (by omega)) (cwV 1 hC.2.2.2.2.1 gX2_chooseStep_X3_longestAt rfl rfl rfl (by decide +kernel) ⟨Nat.le_of_ble_eq_true rfl, Nat.le_of_ble_eq_true rfl⟩) [1, 2, 5] [0, 3, 4, 6, 7, 8, 9, 10, 11, 12, 13, 14, 15, 16] rfl rfl rfl rfl rfl rfl (q0 := 0) rfl rfl rfl hl.1 (Nat.le_of_ble_eq_true rfl) dX2_chooseStep_5 ⟨Nat.le_of_ble_eq_true rfl, Nat.le_of_ble_eq_true rfl⟩ (fun rv5 u5 H locs hp5 hI => ?_)
  have hI : jI G zA zs [oC k0 2 [.ref t0, .ref u0, .ref f0, .ref m0, .ref b1, .ref b2, .ref b3, .ref b4, .ref b5], aI G t1 500 T, oC u0 5 [.int (nI la), .int (nI lm), .int (nI lw)], aI G a4 4500 g4, oC f0 7 [.ref f1, .ref f2, .ref f3, .ref f4], aI G f1 8 pb, aI G f2 1 pa, aI G f3 8 pl, aI G f4 9 pd, aI G b1 501 C, aI G b2 500 s1, aI G b3 500 s2, aI G b4 256 lp, aI G b5 256 pr, oC m0 3 [.ref t0, .ref u0, .ref a1, .ref a2, .ref a3, .ref a4, .ref a5], oC t0 1 [.ref t1, .int (nI n)], aI G a1 500 g1] H locs := hI
  subst hp5
  refine lv_istore_n (lv' := [(2, .int (nI (g1 p))), (0, .ref k0), (1, .int (nI p))]) zx zb dX2_chooseStep_8 rfl hl (by decide) rfl (fun ls hl => ?_)
  refine lv_aload_n zx zb dX2_chooseStep_9 rfl (lv_at hl 1 rfl) ?_
  refine lv_iload_n zx zb dX2_chooseStep_10 rfl (lv_at hl 2 rfl) ?_
  refine lv_iload_n zx zb dX2_chooseStep_11 rfl (lv_at hl 0 rfl) ?_
  refine j_callVv (wr := [aI G t1 500 T, oC u0 5 [.int (nI la), .int (nI lm), .int (nI lw)], aI G f1 8 pb, aI G f2 1 pa, aI G f3 8 pl, aI G b1 501 C, aI G b2 500 s1, aI G b3 500 s2, aI G b4 256 lp, oC t0 1 [.ref t1, .int (nI n)], aI G a1 500 g1]) hC hI (c_X2_sortByReach zl G k0 b1 b2 b3 b4 b5 f0 f1 f2 f3 f4 m0 t0 u0 a1 a2 a3 a4 a5 n la lm lw p (g1 p) T pd g4 pr (by omega) (by omega) (fun j h => (hP.2.2.2 j h).2) hg4 (fun c h => by rw [hg1]; exact rxc_mx h)) (cwV 2 hC.2.2.2.2.1 gX2_chooseStep_X2_sortByReach rfl rfl rfl (by decide +kernel) ⟨Nat.le_of_ble_eq_true rfl, Nat.le_of_ble_eq_true rfl⟩) [0, 14, 3, 4, 8, 13] [1, 2, 5, 6, 7, 9, 10, 11, 12, 15, 16] rfl rfl rfl rfl rfl rfl (q0 := 0) rfl rfl rfl hl.1 (Nat.le_of_ble_eq_true rfl) dX2_chooseStep_12 ⟨Nat.le_of_ble_eq_true rfl, Nat.le_of_ble_eq_true rfl⟩ (fun u12 H locs hp12 hI => ?_)
  obtain ⟨v12_0, rfl⟩ : ∃ z, z = u12 := ⟨_, rfl⟩
  have hI : jI G zA zs [aI G t1 500 T, oC u0 5 [.int (nI la), .int (nI lm), .int (nI lw)], aI G f1 8 pb, aI G f2 1 pa, aI G f3 8 pl, aI G b1 501 C, aI G b2 500 s1, aI G b3 500 s2, aI G b4 256 lp, oC t0 1 [.ref t1, .int (nI n)], aI G a1 500 g1, oC k0 2 [.ref t0, .ref u0, .ref f0, .ref m0, .ref b1, .ref b2, .ref b3, .ref b4, .ref b5], oC m0 3 [.ref t0, .ref u0, .ref a1, .ref a2, .ref a3, .ref a4, .ref a5], aI G a4 4500 g4, oC f0 7 [.ref f1, .ref f2, .ref f3, .ref f4], aI G f4 9 pd, aI G b5 256 v12_0] H locs := hI
  have hsrt := hp12
  refine j_ldc (k := 1000000000) (v := 1000000000) hC dX2_chooseStep_15 (by decide +kernel) (by decide) ?_
  refine lv_istore_n (lv' := [(3, .int (nI 1000000000)), (2, .int (nI (g1 p))), (0, .ref k0), (1, .int (nI p))]) zx zb dX2_chooseStep_17 rfl hl (by decide) rfl (fun ls hl => ?_)
  refine lv_iconst (v := nI 1) zx zb dX2_chooseStep_18 (by decide) ?_
  refine lv_istore (lv' := [(4, .int (nI 1)), (3, .int (nI 1000000000)), (2, .int (nI (g1 p))), (0, .ref k0), (1, .int (nI p))]) zx zb dX2_chooseStep_19 hl (by decide) rfl (fun ls hl => ?_)
  refine lv_iconst (v := nI 0) zx zb dX2_chooseStep_21 (by decide) ?_
  refine lv_istore (lv' := [(5, .int (nI 0)), (4, .int (nI 1)), (3, .int (nI 1000000000)), (2, .int (nI (g1 p))), (0, .ref k0), (1, .int (nI p))]) zx zb dX2_chooseStep_22 hl (by decide) rfl (fun ls hl => ?_)
  refine j_ldc (k := 1000000000) (v := 1000000000) hC dX2_chooseStep_24 (by decide +kernel) (by decide) ?_
  refine lv_istore (lv' := [(6, .int (nI 1000000000)), (5, .int (nI 0)), (4, .int (nI 1)), (3, .int (nI 1000000000)), (2, .int (nI (g1 p))), (0, .ref k0), (1, .int (nI p))]) zx zb dX2_chooseStep_26 hl (by decide) rfl (fun ls hl => ?_)
  refine lv_iload_n zx zb dX2_chooseStep_28 rfl (lv_at hl 4 rfl) ?_
  refine lv_istore (lv' := [(7, .int (nI (g1 p))), (6, .int (nI 1000000000)), (5, .int (nI 0)), (4, .int (nI 1)), (3, .int (nI 1000000000)), (2, .int (nI (g1 p))), (0, .ref k0), (1, .int (nI p))]) zx zb dX2_chooseStep_29 hl (by decide) rfl (fun ls hl => ?_)
  have loop31 : ∀ (zn31 : Nat) (len : Nat) (best : Nat) (L : Nat) (D : Nat) (dp : Nat), (len ≤ g1 p ∧ 1 ≤ len + 1) → (best ≤ 1000000000 ∧ dp ≤ 1000000000) → (dpI la lm lw T n p pd len dp) → (bsI la lm lw T n p pa pl pd C len best L D) → len < zn31 → ∀ (H : Heap) (locs : List Loc) (ls : Array Slot), jI G zA zs [aI G t1 500 T, oC u0 5 [.int (nI la), .int (nI lm), .int (nI lw)], aI G f1 8 pb, aI G f2 1 pa, aI G f3 8 pl, aI G b1 501 C, aI G b2 500 s1, aI G b3 500 s2, aI G b4 256 lp, oC t0 1 [.ref t1, .int (nI n)], aI G a1 500 g1, oC k0 2 [.ref t0, .ref u0, .ref f0, .ref m0, .ref b1, .ref b2, .ref b3, .ref b4, .ref b5], oC m0 3 [.ref t0, .ref u0, .ref a1, .ref a2, .ref a3, .ref a4, .ref a5], aI G a4 4500 g4, oC f0 7 [.ref f1, .ref f2, .ref f3, .ref f4], aI G f4 9 pd, aI G b5 256 v12_0] H locs → lv_has ls 9 [(0, .ref k0), (1, .int (nI p)), (2, .int (nI (g1 p))), (3, .int (nI best)), (4, .int (nI L)), (5, .int (nI D)), (6, .int (nI dp)), (7, .int (nI len))] → W zp zl ze ({ frames := 3, cells := 0, slots := 0, locals := 59 }) zs zm zargs zbelow zmeth zc H locs 0 0 zQ (F0 zm 31 ls []) := by
    intro zn31
    induction zn31 with
    | zero => intros; omega
    | succ zn31 ih31 =>
      intro len best L D dp hlen hbest hdp hbs zm31 H locs ls hI hl
      refine lv_iload zx zb dX2_chooseStep_31 (lv_at hl 7 rfl) ?_
      refine lv_aload_n zx zb dX2_chooseStep_33 rfl (lv_at hl 0 rfl) ?_
      refine j_get hC hI hin_X2_chooseStep_X2 11 rfl rfl 1 (by decide) hfl_X2_chooseStep_15 rfl rfl dX2_chooseStep_34 ?_
      refine j_callVi (wr := [aI G t1 500 T, aI G f1 8 pb, aI G f2 1 pa, aI G f3 8 pl, aI G b1 501 C, aI G b2 500 s1, aI G b3 500 s2, aI G b4 256 lp, oC t0 1 [.ref t1, .int (nI n)], aI G a1 500 g1, oC k0 2 [.ref t0, .ref u0, .ref f0, .ref m0, .ref b1, .ref b2, .ref b3, .ref b4, .ref b5], oC m0 3 [.ref t0, .ref u0, .ref a1, .ref a2, .ref a3, .ref a4, .ref a5], aI G a4 4500 g4, oC f0 7 [.ref f1, .ref f2, .ref f3, .ref f4], aI G f4 9 pd, aI G b5 256 v12_0]) hC hI (c_X5_least zl G u0 la lm lw ) (cwV 0 hC.2.2.2.2.1 gX2_chooseStep_X5_least rfl rfl rfl (by decide +kernel) ⟨Nat.le_of_ble_eq_true rfl, Nat.le_of_ble_eq_true rfl⟩) [1] [0, 2, 3, 4, 5, 6, 7, 8, 9, 10, 11, 12, 13, 14, 15, 16] rfl rfl rfl rfl rfl rfl (q0 := 0) rfl rfl rfl hl.1 (Nat.le_of_ble_eq_true rfl) dX2_chooseStep_37 ⟨Nat.le_of_ble_eq_true rfl, Nat.le_of_ble_eq_true rfl⟩ (fun rv37 u37 H locs hp37 hI => ?_)
      have hI : jI G zA zs [aI G t1 500 T, aI G f1 8 pb, aI G f2 1 pa, aI G f3 8 pl, aI G b1 501 C, aI G b2 500 s1, aI G b3 500 s2, aI G b4 256 lp, oC t0 1 [.ref t1, .int (nI n)], aI G a1 500 g1, oC k0 2 [.ref t0, .ref u0, .ref f0, .ref m0, .ref b1, .ref b2, .ref b3, .ref b4, .ref b5], oC m0 3 [.ref t0, .ref u0, .ref a1, .ref a2, .ref a3, .ref a4, .ref a5], aI G a4 4500 g4, oC f0 7 [.ref f1, .ref f2, .ref f3, .ref f4], aI G f4 9 pd, aI G b5 256 v12_0, oC u0 5 [.int (nI la), .int (nI lm), .int (nI lw)]] H locs := hI
      subst hp37
      refine j_icmp_lt (tgt := 102) hC dX2_chooseStep_40 (by decide) (by omega) (by omega) (fun c40 => ?_) (fun c40 => ?_)
      · refine lv_aload_n zx zb dX2_chooseStep_102 rfl (lv_at hl 0 rfl) ?_
        refine j_get hC hI hin_X2_chooseStep_X2 10 rfl rfl 2 (by decide) hfl_X2_chooseStep_19 rfl rfl dX2_chooseStep_103 ?_
        refine lv_aload_n zx zb dX2_chooseStep_106 rfl (lv_at hl 0 rfl) ?_
        refine j_get hC hI hin_X2_chooseStep_X2 10 rfl rfl 0 (by decide) hfl_X2_chooseStep_9 rfl rfl dX2_chooseStep_107 ?_
        refine lv_iload_n zx zb dX2_chooseStep_110 rfl (lv_at hl 1 rfl) ?_
        refine j_callVi (wr := [aI G f1 8 pb, aI G f2 1 pa, aI G f3 8 pl, aI G b1 501 C, aI G b2 500 s1, aI G b3 500 s2, aI G b4 256 lp, aI G a1 500 g1, oC k0 2 [.ref t0, .ref u0, .ref f0, .ref m0, .ref b1, .ref b2, .ref b3, .ref b4, .ref b5], oC m0 3 [.ref t0, .ref u0, .ref a1, .ref a2, .ref a3, .ref a4, .ref a5], aI G a4 4500 g4, oC f0 7 [.ref f1, .ref f2, .ref f3, .ref f4], aI G f4 9 pd, aI G b5 256 v12_0, oC u0 5 [.int (nI la), .int (nI lm), .int (nI lw)]]) hC hI (c_X1_get_in zl G t0 t1 500 n p T (by omega) (by omega) (by omega)) (cwV 1 hC.2.2.2.2.1 gX2_chooseStep_X1_get rfl rfl rfl (by decide +kernel) ⟨Nat.le_of_ble_eq_true rfl, Nat.le_of_ble_eq_true rfl⟩) [8, 0] [1, 2, 3, 4, 5, 6, 7, 9, 10, 11, 12, 13, 14, 15, 16] rfl rfl rfl rfl rfl rfl (q0 := 0) rfl rfl rfl hl.1 (Nat.le_of_ble_eq_true rfl) dX2_chooseStep_111 ⟨Nat.le_of_ble_eq_true rfl, Nat.le_of_ble_eq_true rfl⟩ (fun rv111 u111 H locs hp111 hI => ?_)
        have hI : jI G zA zs [aI G f1 8 pb, aI G f2 1 pa, aI G f3 8 pl, aI G b1 501 C, aI G b2 500 s1, aI G b3 500 s2, aI G b4 256 lp, aI G a1 500 g1, oC k0 2 [.ref t0, .ref u0, .ref f0, .ref m0, .ref b1, .ref b2, .ref b3, .ref b4, .ref b5], oC m0 3 [.ref t0, .ref u0, .ref a1, .ref a2, .ref a3, .ref a4, .ref a5], aI G a4 4500 g4, oC f0 7 [.ref f1, .ref f2, .ref f3, .ref f4], aI G f4 9 pd, aI G b5 256 v12_0, oC u0 5 [.int (nI la), .int (nI lm), .int (nI lw)], oC t0 1 [.ref t1, .int (nI n)], aI G t1 500 T] H locs := hI
        subst hp111
        refine j_callVi (wr := [aI G f2 1 pa, aI G f3 8 pl, aI G b1 501 C, aI G b2 500 s1, aI G b3 500 s2, aI G b4 256 lp, aI G a1 500 g1, oC k0 2 [.ref t0, .ref u0, .ref f0, .ref m0, .ref b1, .ref b2, .ref b3, .ref b4, .ref b5], oC m0 3 [.ref t0, .ref u0, .ref a1, .ref a2, .ref a3, .ref a4, .ref a5], aI G a4 4500 g4, aI G f4 9 pd, aI G b5 256 v12_0, oC u0 5 [.int (nI la), .int (nI lm), .int (nI lw)], oC t0 1 [.ref t1, .int (nI n)], aI G t1 500 T]) hC hI (c_X7_ofByte zl G f0 f1 f2 f3 f4 (T p) pb (by omega)) (cwV 1 hC.2.2.2.2.1 gX2_chooseStep_X7_ofByte rfl rfl rfl (by decide +kernel) ⟨Nat.le_of_ble_eq_true rfl, Nat.le_of_ble_eq_true rfl⟩) [11, 0] [1, 2, 3, 4, 5, 6, 7, 8, 9, 10, 12, 13, 14, 15, 16] rfl rfl rfl rfl rfl rfl (q0 := 0) rfl rfl rfl hl.1 (Nat.le_of_ble_eq_true rfl) dX2_chooseStep_114 ⟨Nat.le_of_ble_eq_true rfl, Nat.le_of_ble_eq_true rfl⟩ (fun rv114 u114 H locs hp114 hI => ?_)
        have hI : jI G zA zs [aI G f2 1 pa, aI G f3 8 pl, aI G b1 501 C, aI G b2 500 s1, aI G b3 500 s2, aI G b4 256 lp, aI G a1 500 g1, oC k0 2 [.ref t0, .ref u0, .ref f0, .ref m0, .ref b1, .ref b2, .ref b3, .ref b4, .ref b5], oC m0 3 [.ref t0, .ref u0, .ref a1, .ref a2, .ref a3, .ref a4, .ref a5], aI G a4 4500 g4, aI G f4 9 pd, aI G b5 256 v12_0, oC u0 5 [.int (nI la), .int (nI lm), .int (nI lw)], oC t0 1 [.ref t1, .int (nI n)], aI G t1 500 T, oC f0 7 [.ref f1, .ref f2, .ref f3, .ref f4], aI G f1 8 pb] H locs := hI
        subst hp114
        refine lv_aload_n zx zb dX2_chooseStep_117 rfl (lv_at hl 0 rfl) ?_
        refine j_get hC hI hin_X2_chooseStep_X2 7 rfl rfl 4 (by decide) hfl_X2_chooseStep_27 rfl rfl dX2_chooseStep_118 ?_
        refine lv_iload_n zx zb dX2_chooseStep_121 rfl (lv_at hl 1 rfl) ?_
        refine lv_iconst (v := nI 1) zx zb dX2_chooseStep_122 (by decide) ?_
        refine j_iadd hC dX2_chooseStep_123 ?_
        refine j_iald hC hI 2 rfl (by omega) (by omega) dX2_chooseStep_124 ?_
        refine j_iadd hC dX2_chooseStep_125 ?_
        refine lv_istore (lv' := [(7, .int (nI ((pb ((T p) / 32)) + (C (p + 1))))), (0, .ref k0), (1, .int (nI p)), (2, .int (nI (g1 p))), (3, .int (nI best)), (4, .int (nI L)), (5, .int (nI D)), (6, .int (nI dp))]) zx zb dX2_chooseStep_126 hl (by decide) rfl (fun ls hl => ?_)
        refine lv_iload zx zb dX2_chooseStep_128 (lv_at hl 0 rfl) ?_
        refine lv_iload_n zx zb dX2_chooseStep_130 rfl (lv_at hl 4 rfl) ?_
        refine j_icmp_ge (tgt := 143) hC dX2_chooseStep_131 (by decide) (by omega) (by omega) (fun c131 => ?_) (fun c131 => ?_)
        · refine lv_aload_n zx zb dX2_chooseStep_143 rfl (lv_at hl 1 rfl) ?_
          refine j_get hC hI hin_X2_chooseStep_X2 7 rfl rfl 4 (by decide) hfl_X2_chooseStep_27 rfl rfl dX2_chooseStep_144 ?_
          refine lv_iload_n zx zb dX2_chooseStep_147 rfl (lv_at hl 2 rfl) ?_
          refine lv_iload_n zx zb dX2_chooseStep_148 rfl (lv_at hl 4 rfl) ?_
          refine j_iast (w1 := [aI G f2 1 pa, aI G f3 8 pl, aI G b1 501 (up C p best), aI G b2 500 s1, aI G b3 500 s2, aI G b4 256 lp, aI G a1 500 g1, oC k0 2 [.ref t0, .ref u0, .ref f0, .ref m0, .ref b1, .ref b2, .ref b3, .ref b4, .ref b5], oC m0 3 [.ref t0, .ref u0, .ref a1, .ref a2, .ref a3, .ref a4, .ref a5], aI G a4 4500 g4, aI G f4 9 pd, aI G b5 256 v12_0, oC u0 5 [.int (nI la), .int (nI lm), .int (nI lw)], oC t0 1 [.ref t1, .int (nI n)], aI G t1 500 T, oC f0 7 [.ref f1, .ref f2, .ref f3, .ref f4], aI G f1 8 pb]) hC hI 2 rfl (by omega) (by omega) dX2_chooseStep_149 rfl (fun H locs hI => ?_)
          refine lv_aload_n zx zb dX2_chooseStep_150 rfl (lv_at hl 1 rfl) ?_
          refine j_get hC hI hin_X2_chooseStep_X2 7 rfl rfl 5 (by decide) hfl_X2_chooseStep_31 rfl rfl dX2_chooseStep_151 ?_
          refine lv_iload_n zx zb dX2_chooseStep_154 rfl (lv_at hl 2 rfl) ?_
          refine lv_iload zx zb dX2_chooseStep_155 (lv_at hl 5 rfl) ?_
          refine j_iast (w1 := [aI G f2 1 pa, aI G f3 8 pl, aI G b1 501 (up C p best), aI G b2 500 (up s1 p L), aI G b3 500 s2, aI G b4 256 lp, aI G a1 500 g1, oC k0 2 [.ref t0, .ref u0, .ref f0, .ref m0, .ref b1, .ref b2, .ref b3, .ref b4, .ref b5], oC m0 3 [.ref t0, .ref u0, .ref a1, .ref a2, .ref a3, .ref a4, .ref a5], aI G a4 4500 g4, aI G f4 9 pd, aI G b5 256 v12_0, oC u0 5 [.int (nI la), .int (nI lm), .int (nI lw)], oC t0 1 [.ref t1, .int (nI n)], aI G t1 500 T, oC f0 7 [.ref f1, .ref f2, .ref f3, .ref f4], aI G f1 8 pb]) hC hI 3 rfl (by omega) (by omega) dX2_chooseStep_157 rfl (fun H locs hI => ?_)
          refine lv_aload_n zx zb dX2_chooseStep_158 rfl (lv_at hl 1 rfl) ?_
          refine j_get hC hI hin_X2_chooseStep_X2 7 rfl rfl 6 (by decide) hfl_X2_chooseStep_34 rfl rfl dX2_chooseStep_159 ?_
          refine lv_iload_n zx zb dX2_chooseStep_162 rfl (lv_at hl 2 rfl) ?_
          refine lv_iload zx zb dX2_chooseStep_163 (lv_at hl 6 rfl) ?_
          refine j_iast (w1 := [aI G f2 1 pa, aI G f3 8 pl, aI G b1 501 (up C p best), aI G b2 500 (up s1 p L), aI G b3 500 (up s2 p D), aI G b4 256 lp, aI G a1 500 g1, oC k0 2 [.ref t0, .ref u0, .ref f0, .ref m0, .ref b1, .ref b2, .ref b3, .ref b4, .ref b5], oC m0 3 [.ref t0, .ref u0, .ref a1, .ref a2, .ref a3, .ref a4, .ref a5], aI G a4 4500 g4, aI G f4 9 pd, aI G b5 256 v12_0, oC u0 5 [.int (nI la), .int (nI lm), .int (nI lw)], oC t0 1 [.ref t1, .int (nI n)], aI G t1 500 T, oC f0 7 [.ref f1, .ref f2, .ref f3, .ref f4], aI G f1 8 pb]) hC hI 4 rfl (by omega) (by omega) dX2_chooseStep_165 rfl (fun H locs hI => ?_)
          exact hQ _ _ _ _ ⟨best, L, D, v12_0⟩ dX2_chooseStep_166 (hI.sub [7, 8, 13, 14, 12, 6, 9, 15, 16, 0, 1, 10, 2, 3, 4, 5, 11] rfl rfl) (by (try dsimp only); exact ⟨(bs_end hbs (by omega) (by omega) (by omega)).1, (bs_end hbs (by omega) (by omega) (by omega)).2⟩)
        · refine lv_iload zx zb dX2_chooseStep_134 (lv_at hl 0 rfl) ?_
          refine lv_istore_n (lv' := [(3, .int (nI ((pb ((T p) / 32)) + (C (p + 1))))), (7, .int (nI ((pb ((T p) / 32)) + (C (p + 1))))), (0, .ref k0), (1, .int (nI p)), (2, .int (nI (g1 p))), (4, .int (nI L)), (5, .int (nI D)), (6, .int (nI dp))]) zx zb dX2_chooseStep_136 rfl hl (by decide) rfl (fun ls hl => ?_)
          refine lv_iconst (v := nI 1) zx zb dX2_chooseStep_137 (by decide) ?_
          refine lv_istore (lv' := [(4, .int (nI 1)), (3, .int (nI ((pb ((T p) / 32)) + (C (p + 1))))), (7, .int (nI ((pb ((T p) / 32)) + (C (p + 1))))), (0, .ref k0), (1, .int (nI p)), (2, .int (nI (g1 p))), (5, .int (nI D)), (6, .int (nI dp))]) zx zb dX2_chooseStep_138 hl (by decide) rfl (fun ls hl => ?_)
          refine lv_iconst (v := nI 0) zx zb dX2_chooseStep_140 (by decide) ?_
          refine lv_istore (lv' := [(5, .int (nI 0)), (4, .int (nI 1)), (3, .int (nI ((pb ((T p) / 32)) + (C (p + 1))))), (7, .int (nI ((pb ((T p) / 32)) + (C (p + 1))))), (0, .ref k0), (1, .int (nI p)), (2, .int (nI (g1 p))), (6, .int (nI dp))]) zx zb dX2_chooseStep_141 hl (by decide) rfl (fun ls hl => ?_)
          refine lv_aload_n zx zb dX2_chooseStep_143 rfl (lv_at hl 4 rfl) ?_
          refine j_get hC hI hin_X2_chooseStep_X2 7 rfl rfl 4 (by decide) hfl_X2_chooseStep_27 rfl rfl dX2_chooseStep_144 ?_
          refine lv_iload_n zx zb dX2_chooseStep_147 rfl (lv_at hl 5 rfl) ?_
          refine lv_iload_n zx zb dX2_chooseStep_148 rfl (lv_at hl 2 rfl) ?_
          refine j_iast (w1 := [aI G f2 1 pa, aI G f3 8 pl, aI G b1 501 (up C p ((pb ((T p) / 32)) + (C (p + 1)))), aI G b2 500 s1, aI G b3 500 s2, aI G b4 256 lp, aI G a1 500 g1, oC k0 2 [.ref t0, .ref u0, .ref f0, .ref m0, .ref b1, .ref b2, .ref b3, .ref b4, .ref b5], oC m0 3 [.ref t0, .ref u0, .ref a1, .ref a2, .ref a3, .ref a4, .ref a5], aI G a4 4500 g4, aI G f4 9 pd, aI G b5 256 v12_0, oC u0 5 [.int (nI la), .int (nI lm), .int (nI lw)], oC t0 1 [.ref t1, .int (nI n)], aI G t1 500 T, oC f0 7 [.ref f1, .ref f2, .ref f3, .ref f4], aI G f1 8 pb]) hC hI 2 rfl (by omega) (by omega) dX2_chooseStep_149 rfl (fun H locs hI => ?_)
          refine lv_aload_n zx zb dX2_chooseStep_150 rfl (lv_at hl 4 rfl) ?_
          refine j_get hC hI hin_X2_chooseStep_X2 7 rfl rfl 5 (by decide) hfl_X2_chooseStep_31 rfl rfl dX2_chooseStep_151 ?_
          refine lv_iload_n zx zb dX2_chooseStep_154 rfl (lv_at hl 5 rfl) ?_
          refine lv_iload zx zb dX2_chooseStep_155 (lv_at hl 1 rfl) ?_
          refine j_iast (w1 := [aI G f2 1 pa, aI G f3 8 pl, aI G b1 501 (up C p ((pb ((T p) / 32)) + (C (p + 1)))), aI G b2 500 (up s1 p 1), aI G b3 500 s2, aI G b4 256 lp, aI G a1 500 g1, oC k0 2 [.ref t0, .ref u0, .ref f0, .ref m0, .ref b1, .ref b2, .ref b3, .ref b4, .ref b5], oC m0 3 [.ref t0, .ref u0, .ref a1, .ref a2, .ref a3, .ref a4, .ref a5], aI G a4 4500 g4, aI G f4 9 pd, aI G b5 256 v12_0, oC u0 5 [.int (nI la), .int (nI lm), .int (nI lw)], oC t0 1 [.ref t1, .int (nI n)], aI G t1 500 T, oC f0 7 [.ref f1, .ref f2, .ref f3, .ref f4], aI G f1 8 pb]) hC hI 3 rfl (by omega) (by omega) dX2_chooseStep_157 rfl (fun H locs hI => ?_)
          refine lv_aload_n zx zb dX2_chooseStep_158 rfl (lv_at hl 4 rfl) ?_
          refine j_get hC hI hin_X2_chooseStep_X2 7 rfl rfl 6 (by decide) hfl_X2_chooseStep_34 rfl rfl dX2_chooseStep_159 ?_
          refine lv_iload_n zx zb dX2_chooseStep_162 rfl (lv_at hl 5 rfl) ?_
          refine lv_iload zx zb dX2_chooseStep_163 (lv_at hl 0 rfl) ?_
          refine j_iast (w1 := [aI G f2 1 pa, aI G f3 8 pl, aI G b1 501 (up C p ((pb ((T p) / 32)) + (C (p + 1)))), aI G b2 500 (up s1 p 1), aI G b3 500 (up s2 p 0), aI G b4 256 lp, aI G a1 500 g1, oC k0 2 [.ref t0, .ref u0, .ref f0, .ref m0, .ref b1, .ref b2, .ref b3, .ref b4, .ref b5], oC m0 3 [.ref t0, .ref u0, .ref a1, .ref a2, .ref a3, .ref a4, .ref a5], aI G a4 4500 g4, aI G f4 9 pd, aI G b5 256 v12_0, oC u0 5 [.int (nI la), .int (nI lm), .int (nI lw)], oC t0 1 [.ref t1, .int (nI n)], aI G t1 500 T, oC f0 7 [.ref f1, .ref f2, .ref f3, .ref f4], aI G f1 8 pb]) hC hI 4 rfl (by omega) (by omega) dX2_chooseStep_165 rfl (fun H locs hI => ?_)
          exact hQ _ _ _ _ ⟨(pb ((T p) / 32)) + (C (p + 1)), 1, 0, v12_0⟩ dX2_chooseStep_166 (hI.sub [7, 8, 13, 14, 12, 6, 9, 15, 16, 0, 1, 10, 2, 3, 4, 5, 11] rfl rfl) (by (try dsimp only); exact ⟨(bs_alone hbs (by omega) (by omega)).1, (bs_alone hbs (by omega) (by omega)).2⟩)
      · refine lv_iload zx zb dX2_chooseStep_43 (lv_at hl 6 rfl) ?_
        refine lv_aload_n zx zb dX2_chooseStep_45 rfl (lv_at hl 0 rfl) ?_
        refine j_get hC hI hin_X2_chooseStep_X2 10 rfl rfl 8 (by decide) hfl_X2_chooseStep_40 rfl rfl dX2_chooseStep_46 ?_
        have hq1 := hsrt len (by omega)
        have hq2 : v12_0 len ≤ 1000000000 := by rcases hq1.2 with z | ⟨c, z1, z2, z3⟩; omega; have := hP.2.2.2 c z1; omega
        have hdp2 := dp_step hdp hq1 (by omega)
        have hq3 := hlp len (by omega) (by omega)
        have hq4 := hP.2.1
        have hq5 := hP.2.2.1 len.log2 (Nat.lt_succ_of_le (lg_le (k := 7) (by omega)))
        have hq6 := hCb (p + len) (by omega) (by omega)
        refine lv_iload zx zb dX2_chooseStep_49 (lv_at hl 7 rfl) ?_
        refine j_iald hC hI 15 rfl (by omega) (by omega) dX2_chooseStep_51 ?_
        refine j_min hC hl.1 (by decide +kernel) (by decide +kernel) (by decide +kernel) (by decide +kernel) (Nat.le_of_ble_eq_true rfl) (Nat.le_of_ble_eq_true rfl) (Nat.le_of_ble_eq_true rfl) (Nat.le_of_ble_eq_true rfl) (by omega) (by omega) dX2_chooseStep_52 ?_
        refine lv_istore (lv' := [(6, .int (nI (min dp (v12_0 len)))), (0, .ref k0), (1, .int (nI p)), (2, .int (nI (g1 p))), (3, .int (nI best)), (4, .int (nI L)), (5, .int (nI D)), (7, .int (nI len))]) zx zb dX2_chooseStep_55 hl (by decide) rfl (fun ls hl => ?_)
        refine lv_aload_n zx zb dX2_chooseStep_57 rfl (lv_at hl 1 rfl) ?_
        refine j_get hC hI hin_X2_chooseStep_X2 10 rfl rfl 7 (by decide) hfl_X2_chooseStep_37 rfl rfl dX2_chooseStep_58 ?_
        refine lv_iload zx zb dX2_chooseStep_61 (lv_at hl 7 rfl) ?_
        refine j_iald hC hI 7 rfl (by omega) (by omega) dX2_chooseStep_63 ?_
        refine lv_iload zx zb dX2_chooseStep_64 (lv_at hl 0 rfl) ?_
        refine j_iadd hC dX2_chooseStep_66 ?_
        refine lv_aload_n zx zb dX2_chooseStep_67 rfl (lv_at hl 1 rfl) ?_
        refine j_get hC hI hin_X2_chooseStep_X2 10 rfl rfl 4 (by decide) hfl_X2_chooseStep_27 rfl rfl dX2_chooseStep_68 ?_
        refine lv_iload_n zx zb dX2_chooseStep_71 rfl (lv_at hl 2 rfl) ?_
        refine lv_iload zx zb dX2_chooseStep_72 (lv_at hl 7 rfl) ?_
        refine j_iadd hC dX2_chooseStep_74 ?_
        refine j_iald hC hI 4 rfl (by omega) (by omega) dX2_chooseStep_75 ?_
        refine j_iadd hC dX2_chooseStep_76 ?_
        refine lv_istore (lv' := [(8, .int (nI (((lp len) + (min dp (v12_0 len))) + (C (p + len))))), (6, .int (nI (min dp (v12_0 len)))), (0, .ref k0), (1, .int (nI p)), (2, .int (nI (g1 p))), (3, .int (nI best)), (4, .int (nI L)), (5, .int (nI D)), (7, .int (nI len))]) zx zb dX2_chooseStep_77 hl (by decide) rfl (fun ls hl => ?_)
        refine lv_iload zx zb dX2_chooseStep_79 (lv_at hl 0 rfl) ?_
        refine lv_iload_n zx zb dX2_chooseStep_81 rfl (lv_at hl 5 rfl) ?_
        refine j_icmp_ge (tgt := 96) hC dX2_chooseStep_82 (by decide) (by omega) (by omega) (fun c82 => ?_) (fun c82 => ?_)
        · refine lv_iinc (v := nI (len - 1)) (lv' := [(7, .int (nI (len - 1))), (8, .int (nI (((lp len) + (min dp (v12_0 len))) + (C (p + len))))), (6, .int (nI (min dp (v12_0 len)))), (0, .ref k0), (1, .int (nI p)), (2, .int (nI (g1 p))), (3, .int (nI best)), (4, .int (nI L)), (5, .int (nI D))]) zx zb dX2_chooseStep_96 hl (k := 8) rfl (j_decN (by omega)) (by decide) rfl (fun ls hl => ?_)
          refine lv_goto (tgt := 31) zx zb dX2_chooseStep_99 (by decide) ?_
          exact ih31 (len - 1) best L D (min dp (v12_0 len)) (by omega) (by omega) hdp2 (bs_skip hbs hdp2 (by omega) (by omega)) (by omega) _ _ _ (hI.sub [0, 16, 1, 2, 3, 4, 5, 6, 7, 8, 9, 10, 11, 12, 13, 14, 15] rfl rfl) (lv_sub hl [3, 4, 5, 6, 7, 8, 2, 0] rfl)
        · refine lv_iload zx zb dX2_chooseStep_85 (lv_at hl 0 rfl) ?_
          refine lv_istore_n (lv' := [(3, .int (nI (((lp len) + (min dp (v12_0 len))) + (C (p + len))))), (8, .int (nI (((lp len) + (min dp (v12_0 len))) + (C (p + len))))), (6, .int (nI (min dp (v12_0 len)))), (0, .ref k0), (1, .int (nI p)), (2, .int (nI (g1 p))), (4, .int (nI L)), (5, .int (nI D)), (7, .int (nI len))]) zx zb dX2_chooseStep_87 rfl hl (by decide) rfl (fun ls hl => ?_)
          refine lv_iload zx zb dX2_chooseStep_88 (lv_at hl 8 rfl) ?_
          refine lv_istore (lv' := [(4, .int (nI len)), (3, .int (nI (((lp len) + (min dp (v12_0 len))) + (C (p + len))))), (8, .int (nI (((lp len) + (min dp (v12_0 len))) + (C (p + len))))), (6, .int (nI (min dp (v12_0 len)))), (0, .ref k0), (1, .int (nI p)), (2, .int (nI (g1 p))), (5, .int (nI D)), (7, .int (nI len))]) zx zb dX2_chooseStep_90 hl (by decide) rfl (fun ls hl => ?_)
          refine lv_iload zx zb dX2_chooseStep_92 (lv_at hl 3 rfl) ?_
          refine lv_istore (lv' := [(5, .int (nI (min dp (v12_0 len)))), (4, .int (nI len)), (3, .int (nI (((lp len) + (min dp (v12_0 len))) + (C (p + len))))), (8, .int (nI (((lp len) + (min dp (v12_0 len))) + (C (p + len))))), (6, .int (nI (min dp (v12_0 len)))), (0, .ref k0), (1, .int (nI p)), (2, .int (nI (g1 p))), (7, .int (nI len))]) zx zb dX2_chooseStep_94 hl (by decide) rfl (fun ls hl => ?_)
          refine lv_iinc (v := nI (len - 1)) (lv' := [(7, .int (nI (len - 1))), (5, .int (nI (min dp (v12_0 len)))), (4, .int (nI len)), (3, .int (nI (((lp len) + (min dp (v12_0 len))) + (C (p + len))))), (8, .int (nI (((lp len) + (min dp (v12_0 len))) + (C (p + len))))), (6, .int (nI (min dp (v12_0 len)))), (0, .ref k0), (1, .int (nI p)), (2, .int (nI (g1 p)))]) zx zb dX2_chooseStep_96 hl (k := 8) rfl (j_decN (by omega)) (by decide) rfl (fun ls hl => ?_)
          refine lv_goto (tgt := 31) zx zb dX2_chooseStep_99 (by decide) ?_
          exact ih31 (len - 1) (((lp len) + (min dp (v12_0 len))) + (C (p + len))) len (min dp (v12_0 len)) (min dp (v12_0 len)) (by omega) (by omega) hdp2 (by rw [hlp len (by omega) (by omega)]; exact bs_take hbs hdp2 (by omega) hP.2.2.2 (by omega)) (by omega) _ _ _ (hI.sub [0, 16, 1, 2, 3, 4, 5, 6, 7, 8, 9, 10, 11, 12, 13, 14, 15] rfl rfl) (lv_sub hl [6, 7, 8, 3, 2, 1, 5, 0] rfl)
  exact loop31 _ (g1 p) 1000000000 1 0 1000000000 (by omega) (by omega) (⟨fun c h1 h2 => by have := rxc_mx (la := la) (lm := lm) (lw := lw) (T := T) (n := n) (p := p) h1; omega, Or.inl rfl⟩) (⟨fun x c ho hx => by have := rxc_mx (la := la) (lm := lm) (lw := lw) (T := T) (n := n) (p := p) ho.1; have := ho.2.2; omega, Or.inl ⟨rfl, rfl, rfl⟩⟩) (Nat.lt_succ_self _) _ _ _ hI (lv_sub hl [6, 7, 5, 4, 3, 2, 1, 0] rfl)

theorem hin_X2_build_X2 : ∀ w ∈ wsX20, w ∈ wsX2_build := by decide +kernel
theorem hfl_X2_build_15 : Cond.fieldLink RX2 15 "CheapParse$Costs" "rules" "LCheapParse$Rules;" ∈ wsX2_build := by decide +kernel
theorem hfl_X2_build_27 : Cond.fieldLink RX2 27 "CheapParse$Costs" "least" "[I" ∈ wsX2_build := by decide +kernel
theorem hfl_X2_build_9 : Cond.fieldLink RX2 9 "CheapParse$Costs" "text" "LCheapParse$Bytes;" ∈ wsX2_build := by decide +kernel
theorem hfl_X2_build_37 : Cond.fieldLink RX2 37 "CheapParse$Costs" "lengthPrice" "[I" ∈ wsX2_build := by decide +kernel
theorem hfl_X2_build_19 : Cond.fieldLink RX2 19 "CheapParse$Costs" "tariff" "LCheapParse$Tariff;" ∈ wsX2_build := by decide +kernel
set_option maxHeartbeats 4000000 in
set_option maxRecDepth 100000 in
theorem c_X2_build (zl : Launch) (G : jG) (k0 : Nat) (b1 : Nat) (b2 : Nat) (b3 : Nat) (b4 : Nat) (b5 : Nat) (f0 : Nat) (f1 : Nat) (f2 : Nat) (f3 : Nat) (f4 : Nat) (m0 : Nat) (t0 : Nat) (u0 : Nat) (a1 : Nat) (a2 : Nat) (a3 : Nat) (a4 : Nat) (a5 : Nat) (t1 : Nat) (n : Nat) (la : Nat) (lm : Nat) (lw : Nat) (T : Nat → Nat) (g1 : Nat → Nat) (g4 : Nat → Nat) (pb : Nat → Nat) (pa : Nat → Nat) (pl : Nat → Nat) (pd : Nat → Nat) (C : Nat → Nat) (s1 : Nat → Nat) (s2 : Nat → Nat) (lp : Nat → Nat) (pr : Nat → Nat) (hn : n ≤ 500) (hl : 1 ≤ la ∧ la ≤ lm ∧ lm ≤ 255 ∧ lw ≤ 500) (hT : ∀ j, j < n → T j < 256) (hP : prOK pb pa pl pd) (h2 : 2 ≤ la) (hg1 : ∀ p, p < n → g1 p = mx (mt la lm lw T n p) 511) (hg4 : ∀ p, p < n → ∀ c, c < 9 → g4 (p * 9 + c) = rxc la lm lw T n p c) : jMet zl yX2_build wsX2_build ({ frames := 4, cells := 0, slots := 0, locals := 87 }) G [oC k0 2 [.ref t0, .ref u0, .ref f0, .ref m0, .ref b1, .ref b2, .ref b3, .ref b4, .ref b5], oC m0 3 [.ref t0, .ref u0, .ref a1, .ref a2, .ref a3, .ref a4, .ref a5], oC t0 1 [.ref t1, .int (nI n)], aI G t1 500 T, oC u0 5 [.int (nI la), .int (nI lm), .int (nI lw)], aI G a1 500 g1, aI G a4 4500 g4, oC f0 7 [.ref f1, .ref f2, .ref f3, .ref f4], aI G f1 8 pb, aI G f2 1 pa, aI G f3 8 pl, aI G f4 9 pd, aI G b1 501 C, aI G b2 500 s1, aI G b3 500 s2, aI G b4 256 lp, aI G b5 256 pr] [.ref k0] (jQv G (fun (u : (Nat → Nat) × (Nat → Nat) × (Nat → Nat) × (Nat → Nat) × (Nat → Nat)) => (u.1 n = 0) ∧ (∀ p, p < n → cOK la lm lw T n pb pa pl pd u.1 u.2.1 u.2.2.1 p) ∧ (∀ i, i ≤ n → u.1 i ≤ 1000 * (n - i))) (fun (u : (Nat → Nat) × (Nat → Nat) × (Nat → Nat) × (Nat → Nat) × (Nat → Nat)) => [oC k0 2 [.ref t0, .ref u0, .ref f0, .ref m0, .ref b1, .ref b2, .ref b3, .ref b4, .ref b5], oC m0 3 [.ref t0, .ref u0, .ref a1, .ref a2, .ref a3, .ref a4, .ref a5], oC t0 1 [.ref t1, .int (nI n)], aI G t1 500 T, oC u0 5 [.int (nI la), .int (nI lm), .int (nI lw)], aI G a1 500 g1, aI G a4 4500 g4, oC f0 7 [.ref f1, .ref f2, .ref f3, .ref f4], aI G f1 8 pb, aI G f2 1 pa, aI G f3 8 pl, aI G f4 9 pd, aI G b1 501 u.1, aI G b2 500 u.2.1, aI G b3 500 u.2.2.1, aI G b4 256 u.2.2.2.1, aI G b5 256 u.2.2.2.2])) 0 0 := by
  refine j_enter_v (cc := cX2_build) (nL := 2) (nm := "build") (own := RX2) (lv := [(0, .ref k0)]) (by decide) rfl (Nat.le_of_ble_eq_true rfl) rfl rfl rfl ?_
  intro zA zp ze zs zm zargs zbelow zmeth zc zQ ls hC hQ hI hl
  have zx := hC.1
  have zb := hC.2.1
  refine lv_aload_n zx zb dX2_build_0 rfl (lv_at hl 0 rfl) ?_
  refine j_get hC hI hin_X2_build_X2 0 rfl rfl 1 (by decide) hfl_X2_build_15 rfl rfl dX2_build_1 ?_
  refine j_callVi (wr := [oC k0 2 [.ref t0, .ref u0, .ref f0, .ref m0, .ref b1, .ref b2, .ref b3, .ref b4, .ref b5], oC m0 3 [.ref t0, .ref u0, .ref a1, .ref a2, .ref a3, .ref a4, .ref a5], oC t0 1 [.ref t1, .int (nI n)], aI G t1 500 T, aI G a1 500 g1, aI G a4 4500 g4, oC f0 7 [.ref f1, .ref f2, .ref f3, .ref f4], aI G f1 8 pb, aI G f2 1 pa, aI G f3 8 pl, aI G f4 9 pd, aI G b1 501 C, aI G b2 500 s1, aI G b3 500 s2, aI G b4 256 lp, aI G b5 256 pr]) hC hI (c_X5_least zl G u0 la lm lw ) (cwV 0 hC.2.2.2.2.1 gX2_build_X5_least rfl rfl rfl (by decide +kernel) ⟨Nat.le_of_ble_eq_true rfl, Nat.le_of_ble_eq_true rfl⟩) [4] [0, 1, 2, 3, 5, 6, 7, 8, 9, 10, 11, 12, 13, 14, 15, 16] rfl rfl rfl rfl rfl rfl (q0 := 0) rfl rfl rfl hl.1 (Nat.le_of_ble_eq_true rfl) dX2_build_4 ⟨Nat.le_of_ble_eq_true rfl, Nat.le_of_ble_eq_true rfl⟩ (fun rv4 u4 H locs hp4 hI => ?_)
  have hI : jI G zA zs [oC k0 2 [.ref t0, .ref u0, .ref f0, .ref m0, .ref b1, .ref b2, .ref b3, .ref b4, .ref b5], oC m0 3 [.ref t0, .ref u0, .ref a1, .ref a2, .ref a3, .ref a4, .ref a5], oC t0 1 [.ref t1, .int (nI n)], aI G t1 500 T, aI G a1 500 g1, aI G a4 4500 g4, oC f0 7 [.ref f1, .ref f2, .ref f3, .ref f4], aI G f1 8 pb, aI G f2 1 pa, aI G f3 8 pl, aI G f4 9 pd, aI G b1 501 C, aI G b2 500 s1, aI G b3 500 s2, aI G b4 256 lp, aI G b5 256 pr, oC u0 5 [.int (nI la), .int (nI lm), .int (nI lw)]] H locs := hI
  subst hp4
  refine lv_istore_n (lv' := [(1, .int (nI la)), (0, .ref k0)]) zx zb dX2_build_7 rfl hl (by decide) rfl (fun ls hl => ?_)
  have loop8 : ∀ (zn8 : Nat) (x : Nat) (y : Nat → Nat), (la ≤ x ∧ x ≤ lm + 1) → (∀ z, la ≤ z → z < x → y z = pa 0 + pl z.log2) → (lm + 1 - x) < zn8 → ∀ (H : Heap) (locs : List Loc) (ls : Array Slot), jI G zA zs [oC k0 2 [.ref t0, .ref u0, .ref f0, .ref m0, .ref b1, .ref b2, .ref b3, .ref b4, .ref b5], oC m0 3 [.ref t0, .ref u0, .ref a1, .ref a2, .ref a3, .ref a4, .ref a5], oC t0 1 [.ref t1, .int (nI n)], aI G t1 500 T, oC u0 5 [.int (nI la), .int (nI lm), .int (nI lw)], aI G a1 500 g1, aI G a4 4500 g4, oC f0 7 [.ref f1, .ref f2, .ref f3, .ref f4], aI G f1 8 pb, aI G f2 1 pa, aI G f3 8 pl, aI G f4 9 pd, aI G b1 501 C, aI G b2 500 s1, aI G b3 500 s2, aI G b4 256 y, aI G b5 256 pr] H locs → lv_has ls 2 [(0, .ref k0), (1, .int (nI x))] → W zp zl ze ({ frames := 4, cells := 0, slots := 0, locals := 87 }) zs zm zargs zbelow zmeth zc H locs 0 0 zQ (F0 zm 8 ls []) := by
    intro zn8
    induction zn8 with
    | zero => intros; omega
    | succ zn8 ih8 =>
      intro x y hx hy zm8 H locs ls hI hl
      refine lv_iload_n zx zb dX2_build_8 rfl (lv_at hl 1 rfl) ?_
      refine lv_aload_n zx zb dX2_build_9 rfl (lv_at hl 0 rfl) ?_
      refine j_get hC hI hin_X2_build_X2 0 rfl rfl 1 (by decide) hfl_X2_build_15 rfl rfl dX2_build_10 ?_
      refine j_callVi (wr := [oC k0 2 [.ref t0, .ref u0, .ref f0, .ref m0, .ref b1, .ref b2, .ref b3, .ref b4, .ref b5], oC m0 3 [.ref t0, .ref u0, .ref a1, .ref a2, .ref a3, .ref a4, .ref a5], oC t0 1 [.ref t1, .int (nI n)], aI G t1 500 T, aI G a1 500 g1, aI G a4 4500 g4, oC f0 7 [.ref f1, .ref f2, .ref f3, .ref f4], aI G f1 8 pb, aI G f2 1 pa, aI G f3 8 pl, aI G f4 9 pd, aI G b1 501 C, aI G b2 500 s1, aI G b3 500 s2, aI G b4 256 y, aI G b5 256 pr]) hC hI (c_X5_most zl G u0 la lm lw ) (cwV 0 hC.2.2.2.2.1 gX2_build_X5_most rfl rfl rfl (by decide +kernel) ⟨Nat.le_of_ble_eq_true rfl, Nat.le_of_ble_eq_true rfl⟩) [4] [0, 1, 2, 3, 5, 6, 7, 8, 9, 10, 11, 12, 13, 14, 15, 16] rfl rfl rfl rfl rfl rfl (q0 := 0) rfl rfl rfl hl.1 (Nat.le_of_ble_eq_true rfl) dX2_build_13 ⟨Nat.le_of_ble_eq_true rfl, Nat.le_of_ble_eq_true rfl⟩ (fun rv13 u13 H locs hp13 hI => ?_)
      have hI : jI G zA zs [oC k0 2 [.ref t0, .ref u0, .ref f0, .ref m0, .ref b1, .ref b2, .ref b3, .ref b4, .ref b5], oC m0 3 [.ref t0, .ref u0, .ref a1, .ref a2, .ref a3, .ref a4, .ref a5], oC t0 1 [.ref t1, .int (nI n)], aI G t1 500 T, aI G a1 500 g1, aI G a4 4500 g4, oC f0 7 [.ref f1, .ref f2, .ref f3, .ref f4], aI G f1 8 pb, aI G f2 1 pa, aI G f3 8 pl, aI G f4 9 pd, aI G b1 501 C, aI G b2 500 s1, aI G b3 500 s2, aI G b4 256 y, aI G b5 256 pr, oC u0 5 [.int (nI la), .int (nI lm), .int (nI lw)]] H locs := hI
      subst hp13
      refine j_icmp_gt (tgt := 39) hC dX2_build_16 (by decide) (by omega) (by omega) (fun c16 => ?_) (fun c16 => ?_)
      · refine lv_aload_n zx zb dX2_build_39 rfl (lv_at hl 0 rfl) ?_
        refine j_get hC hI hin_X2_build_X2 0 rfl rfl 4 (by decide) hfl_X2_build_27 rfl rfl dX2_build_40 ?_
        refine lv_aload_n zx zb dX2_build_43 rfl (lv_at hl 0 rfl) ?_
        refine j_get hC hI hin_X2_build_X2 0 rfl rfl 0 (by decide) hfl_X2_build_9 rfl rfl dX2_build_44 ?_
        refine j_callVi (wr := [oC k0 2 [.ref t0, .ref u0, .ref f0, .ref m0, .ref b1, .ref b2, .ref b3, .ref b4, .ref b5], oC m0 3 [.ref t0, .ref u0, .ref a1, .ref a2, .ref a3, .ref a4, .ref a5], aI G t1 500 T, aI G a1 500 g1, aI G a4 4500 g4, oC f0 7 [.ref f1, .ref f2, .ref f3, .ref f4], aI G f1 8 pb, aI G f2 1 pa, aI G f3 8 pl, aI G f4 9 pd, aI G b1 501 C, aI G b2 500 s1, aI G b3 500 s2, aI G b4 256 y, aI G b5 256 pr, oC u0 5 [.int (nI la), .int (nI lm), .int (nI lw)]]) hC hI (c_X1_size zl G t0 t1 n ) (cwV 0 hC.2.2.2.2.1 gX2_build_X1_size rfl rfl rfl (by decide +kernel) ⟨Nat.le_of_ble_eq_true rfl, Nat.le_of_ble_eq_true rfl⟩) [2] [0, 1, 3, 4, 5, 6, 7, 8, 9, 10, 11, 12, 13, 14, 15, 16] rfl rfl rfl rfl rfl rfl (q0 := 0) rfl rfl rfl hl.1 (Nat.le_of_ble_eq_true rfl) dX2_build_47 ⟨Nat.le_of_ble_eq_true rfl, Nat.le_of_ble_eq_true rfl⟩ (fun rv47 u47 H locs hp47 hI => ?_)
        have hI : jI G zA zs [oC k0 2 [.ref t0, .ref u0, .ref f0, .ref m0, .ref b1, .ref b2, .ref b3, .ref b4, .ref b5], oC m0 3 [.ref t0, .ref u0, .ref a1, .ref a2, .ref a3, .ref a4, .ref a5], aI G t1 500 T, aI G a1 500 g1, aI G a4 4500 g4, oC f0 7 [.ref f1, .ref f2, .ref f3, .ref f4], aI G f1 8 pb, aI G f2 1 pa, aI G f3 8 pl, aI G f4 9 pd, aI G b1 501 C, aI G b2 500 s1, aI G b3 500 s2, aI G b4 256 y, aI G b5 256 pr, oC u0 5 [.int (nI la), .int (nI lm), .int (nI lw)], oC t0 1 [.ref t1, .int (nI n)]] H locs := hI
        subst hp47
        refine lv_iconst (v := nI 0) zx zb dX2_build_50 (by decide) ?_
        refine j_iast (w1 := [oC k0 2 [.ref t0, .ref u0, .ref f0, .ref m0, .ref b1, .ref b2, .ref b3, .ref b4, .ref b5], oC m0 3 [.ref t0, .ref u0, .ref a1, .ref a2, .ref a3, .ref a4, .ref a5], aI G t1 500 T, aI G a1 500 g1, aI G a4 4500 g4, oC f0 7 [.ref f1, .ref f2, .ref f3, .ref f4], aI G f1 8 pb, aI G f2 1 pa, aI G f3 8 pl, aI G f4 9 pd, aI G b1 501 (up C n 0), aI G b2 500 s1, aI G b3 500 s2, aI G b4 256 y, aI G b5 256 pr, oC u0 5 [.int (nI la), .int (nI lm), .int (nI lw)], oC t0 1 [.ref t1, .int (nI n)]]) hC hI 10 rfl (by omega) (by omega) dX2_build_51 rfl (fun H locs hI => ?_)
        refine lv_aload_n zx zb dX2_build_52 rfl (lv_at hl 0 rfl) ?_
        refine j_get hC hI hin_X2_build_X2 0 rfl rfl 0 (by decide) hfl_X2_build_9 rfl rfl dX2_build_53 ?_
        refine j_callVi (wr := [oC k0 2 [.ref t0, .ref u0, .ref f0, .ref m0, .ref b1, .ref b2, .ref b3, .ref b4, .ref b5], oC m0 3 [.ref t0, .ref u0, .ref a1, .ref a2, .ref a3, .ref a4, .ref a5], aI G t1 500 T, aI G a1 500 g1, aI G a4 4500 g4, oC f0 7 [.ref f1, .ref f2, .ref f3, .ref f4], aI G f1 8 pb, aI G f2 1 pa, aI G f3 8 pl, aI G f4 9 pd, aI G b1 501 (up C n 0), aI G b2 500 s1, aI G b3 500 s2, aI G b4 256 y, aI G b5 256 pr, oC u0 5 [.int (nI la), .int (nI lm), .int (nI lw)]]) hC hI (c_X1_size zl G t0 t1 n ) (cwV 0 hC.2.2.2.2.1 gX2_build_X1_size rfl rfl rfl (by decide +kernel) ⟨Nat.le_of_ble_eq_true rfl, Nat.le_of_ble_eq_true rfl⟩) [16] [0, 1, 2, 3, 4, 5, 6, 7, 8, 9, 10, 11, 12, 13, 14, 15] rfl rfl rfl rfl rfl rfl (q0 := 0) rfl rfl rfl hl.1 (Nat.le_of_ble_eq_true rfl) dX2_build_56 ⟨Nat.le_of_ble_eq_true rfl, Nat.le_of_ble_eq_true rfl⟩ (fun rv56 u56 H locs hp56 hI => ?_)
        have hI : jI G zA zs [oC k0 2 [.ref t0, .ref u0, .ref f0, .ref m0, .ref b1, .ref b2, .ref b3, .ref b4, .ref b5], oC m0 3 [.ref t0, .ref u0, .ref a1, .ref a2, .ref a3, .ref a4, .ref a5], aI G t1 500 T, aI G a1 500 g1, aI G a4 4500 g4, oC f0 7 [.ref f1, .ref f2, .ref f3, .ref f4], aI G f1 8 pb, aI G f2 1 pa, aI G f3 8 pl, aI G f4 9 pd, aI G b1 501 (up C n 0), aI G b2 500 s1, aI G b3 500 s2, aI G b4 256 y, aI G b5 256 pr, oC u0 5 [.int (nI la), .int (nI lm), .int (nI lw)], oC t0 1 [.ref t1, .int (nI n)]] H locs := hI
        subst hp56
        refine lv_iconst (v := nI 1) zx zb dX2_build_59 (by decide) ?_
        refine j_isub1 hC dX2_build_60 ?_
        refine lv_istore_n (lv' := [(1, .int (mI n)), (0, .ref k0)]) zx zb dX2_build_61 rfl hl (by decide) rfl (fun ls hl => ?_)
        have loop62 : ∀ (zn62 : Nat) (j : Nat) (D : Nat → Nat) (y1 : Nat → Nat) (y2 : Nat → Nat) (pr2 : Nat → Nat), (j ≤ n) → (D n = 0) → (∀ q, j ≤ q → q < n → cOK la lm lw T n pb pa pl pd D y1 y2 q) → (∀ i, j ≤ i → i ≤ n → D i ≤ 1000 * (n - i)) → j < zn62 → ∀ (H : Heap) (locs : List Loc) (ls : Array Slot), jI G zA zs [oC k0 2 [.ref t0, .ref u0, .ref f0, .ref m0, .ref b1, .ref b2, .ref b3, .ref b4, .ref b5], oC m0 3 [.ref t0, .ref u0, .ref a1, .ref a2, .ref a3, .ref a4, .ref a5], oC t0 1 [.ref t1, .int (nI n)], aI G t1 500 T, oC u0 5 [.int (nI la), .int (nI lm), .int (nI lw)], aI G a1 500 g1, aI G a4 4500 g4, oC f0 7 [.ref f1, .ref f2, .ref f3, .ref f4], aI G f1 8 pb, aI G f2 1 pa, aI G f3 8 pl, aI G f4 9 pd, aI G b1 501 D, aI G b2 500 y1, aI G b3 500 y2, aI G b4 256 y, aI G b5 256 pr2] H locs → lv_has ls 2 [(0, .ref k0), (1, .int (mI j))] → W zp zl ze ({ frames := 4, cells := 0, slots := 0, locals := 87 }) zs zm zargs zbelow zmeth zc H locs 0 0 zQ (F0 zm 62 ls []) := by
          intro zn62
          induction zn62 with
          | zero => intros; omega
          | succ zn62 ih62 =>
            intro j D y1 y2 pr2 hj h0 hk hb zm62 H locs ls hI hl
            refine lv_iload_n zx zb dX2_build_62 rfl (lv_at hl 1 rfl) ?_
            refine j_ifM_lt (tgt := 77) hC dX2_build_63 (by decide) (by omega) (fun c63 => ?_) (fun c63 => ?_)
            · subst c63
              exact hQ _ _ _ _ ⟨D, y1, y2, y, pr2⟩ dX2_build_77 (hI.sub [0, 1, 2, 3, 4, 5, 6, 7, 8, 9, 10, 11, 12, 13, 14, 15, 16] rfl rfl) (by (try dsimp only); exact ⟨h0, (fun p h => hk p (by omega) h), (fun i h => hb i (by omega) h)⟩)
            · obtain ⟨j63, rfl⟩ : ∃ z, j = z + 1 := ⟨j - 1, by omega⟩
              rw [mI_s] at hl
              refine lv_aload_n zx zb dX2_build_66 rfl (lv_at hl 0 rfl) ?_
              refine lv_iload_n zx zb dX2_build_67 rfl (lv_at hl 1 rfl) ?_
              refine j_callVv (wr := []) hC hI (c_X2_chooseStep zl G k0 b1 b2 b3 b4 b5 f0 f1 f2 f3 f4 m0 t0 u0 a1 a2 a3 a4 a5 t1 n la lm lw j63 T g1 g4 pb pa pl pd D y1 y2 y pr2 (by omega) (by omega) (by omega) (by omega) (by omega) (by omega) (hg1 _ (by omega)) (hg4 _ (by omega)) (fun z h1 h2 => hy z h1 (by omega)) (fun i h1 h2 => hb i (by omega) h2)) (cwV 1 hC.2.2.2.2.1 gX2_build_X2_chooseStep rfl rfl rfl (by decide +kernel) ⟨Nat.le_of_ble_eq_true rfl, Nat.le_of_ble_eq_true rfl⟩) [0, 1, 2, 3, 4, 5, 6, 7, 8, 9, 10, 11, 12, 13, 14, 15, 16] [] rfl rfl rfl rfl rfl rfl (q0 := 0) rfl rfl rfl hl.1 (Nat.le_of_ble_eq_true rfl) dX2_build_68 ⟨Nat.le_of_ble_eq_true rfl, Nat.le_of_ble_eq_true rfl⟩ (fun u68 H locs hp68 hI => ?_)
              obtain ⟨v68_0, v68_1, v68_2, v68_3⟩ := u68
              have hI : jI G zA zs [oC k0 2 [.ref t0, .ref u0, .ref f0, .ref m0, .ref b1, .ref b2, .ref b3, .ref b4, .ref b5], oC m0 3 [.ref t0, .ref u0, .ref a1, .ref a2, .ref a3, .ref a4, .ref a5], oC t0 1 [.ref t1, .int (nI n)], aI G t1 500 T, oC u0 5 [.int (nI la), .int (nI lm), .int (nI lw)], aI G a1 500 g1, aI G a4 4500 g4, oC f0 7 [.ref f1, .ref f2, .ref f3, .ref f4], aI G f1 8 pb, aI G f2 1 pa, aI G f3 8 pl, aI G f4 9 pd, aI G b1 501 (up D j63 v68_0), aI G b2 500 (up y1 j63 v68_1), aI G b3 500 (up y2 j63 v68_2), aI G b4 256 y, aI G b5 256 v68_3] H locs := hI
              dsimp only at hp68
              obtain ⟨f68_0, f68_1⟩ := hp68
              refine lv_iinc (v := mI j63) (lv' := [(1, .int (mI j63)), (0, .ref k0)]) zx zb dX2_build_71 hl (k := 1) rfl (j_dec _) (by decide) rfl (fun ls hl => ?_)
              refine lv_goto (tgt := 62) zx zb dX2_build_74 (by decide) ?_
              exact ih62 j63 (up D j63 v68_0) (up y1 j63 v68_1) (up y2 j63 v68_2) v68_3 (by omega) (by rw [up_n (by omega)]; exact h0) (co_next (by omega) (by omega) f68_0 f68_1 hk) (co_bound f68_0 (by omega) (hP.1 _ (by have := hT j63 (by omega); omega)).2 hb) (by omega) _ _ _ hI (lv_sub hl [1, 0] rfl)
        exact loop62 _ n (up C n 0) s1 s2 pr (by omega) up_s (fun q h1 h2 => by omega) (fun i h1 h2 => by rw [show i = n by omega, up_s]; omega) (Nat.lt_succ_self _) _ _ _ (hI.sub [0, 1, 16, 2, 15, 3, 4, 5, 6, 7, 8, 9, 10, 11, 12, 13, 14] rfl rfl) (lv_sub hl [1, 0] rfl)
      · refine lv_aload_n zx zb dX2_build_19 rfl (lv_at hl 0 rfl) ?_
        refine j_get hC hI hin_X2_build_X2 0 rfl rfl 7 (by decide) hfl_X2_build_37 rfl rfl dX2_build_20 ?_
        refine lv_iload_n zx zb dX2_build_23 rfl (lv_at hl 1 rfl) ?_
        refine lv_aload_n zx zb dX2_build_24 rfl (lv_at hl 0 rfl) ?_
        refine j_get hC hI hin_X2_build_X2 0 rfl rfl 2 (by decide) hfl_X2_build_19 rfl rfl dX2_build_25 ?_
        refine lv_iload_n zx zb dX2_build_28 rfl (lv_at hl 1 rfl) ?_
        refine j_callVi (wr := [oC k0 2 [.ref t0, .ref u0, .ref f0, .ref m0, .ref b1, .ref b2, .ref b3, .ref b4, .ref b5], oC m0 3 [.ref t0, .ref u0, .ref a1, .ref a2, .ref a3, .ref a4, .ref a5], oC t0 1 [.ref t1, .int (nI n)], aI G t1 500 T, aI G a1 500 g1, aI G a4 4500 g4, aI G f1 8 pb, aI G f4 9 pd, aI G b1 501 C, aI G b2 500 s1, aI G b3 500 s2, aI G b4 256 y, aI G b5 256 pr, oC u0 5 [.int (nI la), .int (nI lm), .int (nI lw)]]) hC hI (c_X7_ofLength zl G f0 f1 f2 f3 f4 x pa pl (by omega)) (cwV 1 hC.2.2.2.2.1 gX2_build_X7_ofLength rfl rfl rfl (by decide +kernel) ⟨Nat.le_of_ble_eq_true rfl, Nat.le_of_ble_eq_true rfl⟩) [6, 8, 9] [0, 1, 2, 3, 4, 5, 7, 10, 11, 12, 13, 14, 15, 16] rfl rfl rfl rfl rfl rfl (q0 := 0) rfl rfl rfl hl.1 (Nat.le_of_ble_eq_true rfl) dX2_build_29 ⟨Nat.le_of_ble_eq_true rfl, Nat.le_of_ble_eq_true rfl⟩ (fun rv29 u29 H locs hp29 hI => ?_)
        have hI : jI G zA zs [oC k0 2 [.ref t0, .ref u0, .ref f0, .ref m0, .ref b1, .ref b2, .ref b3, .ref b4, .ref b5], oC m0 3 [.ref t0, .ref u0, .ref a1, .ref a2, .ref a3, .ref a4, .ref a5], oC t0 1 [.ref t1, .int (nI n)], aI G t1 500 T, aI G a1 500 g1, aI G a4 4500 g4, aI G f1 8 pb, aI G f4 9 pd, aI G b1 501 C, aI G b2 500 s1, aI G b3 500 s2, aI G b4 256 y, aI G b5 256 pr, oC u0 5 [.int (nI la), .int (nI lm), .int (nI lw)], oC f0 7 [.ref f1, .ref f2, .ref f3, .ref f4], aI G f2 1 pa, aI G f3 8 pl] H locs := hI
        subst hp29
        refine j_iast (w1 := [oC k0 2 [.ref t0, .ref u0, .ref f0, .ref m0, .ref b1, .ref b2, .ref b3, .ref b4, .ref b5], oC m0 3 [.ref t0, .ref u0, .ref a1, .ref a2, .ref a3, .ref a4, .ref a5], oC t0 1 [.ref t1, .int (nI n)], aI G t1 500 T, aI G a1 500 g1, aI G a4 4500 g4, aI G f1 8 pb, aI G f4 9 pd, aI G b1 501 C, aI G b2 500 s1, aI G b3 500 s2, aI G b4 256 (up y x (pa 0 + pl x.log2)), aI G b5 256 pr, oC u0 5 [.int (nI la), .int (nI lm), .int (nI lw)], oC f0 7 [.ref f1, .ref f2, .ref f3, .ref f4], aI G f2 1 pa, aI G f3 8 pl]) hC hI 11 rfl (by omega) (by omega) dX2_build_32 rfl (fun H locs hI => ?_)
        refine lv_iinc (v := nI (x + 1)) (lv' := [(1, .int (nI (x + 1))), (0, .ref k0)]) zx zb dX2_build_33 hl (k := 1) rfl (j_inc _ _ _ (by decide)) (by decide) rfl (fun ls hl => ?_)
        refine lv_goto (tgt := 8) zx zb dX2_build_36 (by decide) ?_
        exact ih8 (x + 1) (up y x (pa 0 + pl x.log2)) (by omega) (fun z h1 h2 => by by_cases q : z = x; subst q; rw [up_s]; rw [up_n q]; exact hy z h1 (by omega)) (by omega) _ _ _ (hI.sub [0, 1, 2, 3, 13, 4, 5, 14, 6, 15, 16, 7, 8, 9, 10, 11, 12] rfl rfl) (lv_sub hl [1, 0] rfl)
  exact loop8 _ la lp (by omega) (fun z h1 h2 => by omega) (Nat.lt_succ_self _) _ _ _ (hI.sub [0, 1, 2, 3, 16, 4, 5, 6, 7, 8, 9, 10, 11, 12, 13, 14, 15] rfl rfl) (lv_sub hl [1, 0] rfl)

theorem hin_X2_distanceAt_X2 : ∀ w ∈ wsX20, w ∈ wsX2_distanceAt := by decide +kernel
theorem hfl_X2_distanceAt_19 : Cond.fieldLink RX2 19 "CheapParse$Costs" "tariff" "LCheapParse$Tariff;" ∈ wsX2_distanceAt := by decide +kernel
theorem hfl_X2_distanceAt_34 : Cond.fieldLink RX2 34 "CheapParse$Costs" "stepDistancePrice" "[I" ∈ wsX2_distanceAt := by decide +kernel
theorem hfl_X2_distanceAt_23 : Cond.fieldLink RX2 23 "CheapParse$Costs" "matches" "LCheapParse$Matches;" ∈ wsX2_distanceAt := by decide +kernel
set_option maxHeartbeats 4000000 in
set_option maxRecDepth 100000 in
theorem c_X2_distanceAt (zl : Launch) (G : jG) (k0 : Nat) (b1 : Nat) (b2 : Nat) (b3 : Nat) (b4 : Nat) (b5 : Nat) (f0 : Nat) (f1 : Nat) (f2 : Nat) (f3 : Nat) (f4 : Nat) (m0 : Nat) (t0 : Nat) (u0 : Nat) (a1 : Nat) (a2 : Nat) (a3 : Nat) (a4 : Nat) (a5 : Nat) (t1 : Nat) (n : Nat) (la : Nat) (lm : Nat) (lw : Nat) (p : Nat) (v : Nat) (T : Nat → Nat) (g4 : Nat → Nat) (pb : Nat → Nat) (pa : Nat → Nat) (pl : Nat → Nat) (pd : Nat → Nat) (C : Nat → Nat) (s1 : Nat → Nat) (s2 : Nat → Nat) (hn : n ≤ 500) (hl : 1 ≤ la ∧ la ≤ lm ∧ lm ≤ 255 ∧ lw ≤ 500) (hT : ∀ j, j < n → T j < 256) (hP : prOK pb pa pl pd) (h2 : 2 ≤ la) (hp : p < n) (hg4 : ∀ c, c < 9 → g4 (p * 9 + c) = rxc la lm lw T n p c) (hS : isS la lm lw T n pb pa pl pd C p v (s1 p) (s2 p)) (hL : 2 ≤ s1 p) : jMet zl yX2_distanceAt wsX2_distanceAt ({ frames := 3, cells := 0, slots := 0, locals := 68 }) G [oC k0 2 [.ref t0, .ref u0, .ref f0, .ref m0, .ref b1, .ref b2, .ref b3, .ref b4, .ref b5], oC m0 3 [.ref t0, .ref u0, .ref a1, .ref a2, .ref a3, .ref a4, .ref a5], oC t0 1 [.ref t1, .int (nI n)], aI G t1 500 T, oC u0 5 [.int (nI la), .int (nI lm), .int (nI lw)], aI G a4 4500 g4, oC f0 7 [.ref f1, .ref f2, .ref f3, .ref f4], aI G f4 9 pd, aI G b2 500 s1, aI G b3 500 s2] [.ref k0, .int (nI p)] (jQi G (fun (r : Int32) (u : Nat) => (r = nI u) ∧ (isD la lm lw T n pd p (s1 p) (s2 p) u)) (fun (u : Nat) => [oC k0 2 [.ref t0, .ref u0, .ref f0, .ref m0, .ref b1, .ref b2, .ref b3, .ref b4, .ref b5], oC m0 3 [.ref t0, .ref u0, .ref a1, .ref a2, .ref a3, .ref a4, .ref a5], oC t0 1 [.ref t1, .int (nI n)], aI G t1 500 T, oC u0 5 [.int (nI la), .int (nI lm), .int (nI lw)], aI G a4 4500 g4, oC f0 7 [.ref f1, .ref f2, .ref f3, .ref f4], aI G f4 9 pd, aI G b2 500 s1, aI G b3 500 s2])) 0 0 := by
  refine j_enter_i (cc := cX2_distanceAt) (nL := 4) (nm := "distanceAt") (own := RX2) (lv := [(0, .ref k0), (1, .int (nI p))]) (by decide) rfl (Nat.le_of_ble_eq_true rfl) rfl rfl rfl ?_
  intro zA zp ze zs zm zargs zbelow zmeth zc zQ ls hC hQ hI hl
  have zx := hC.1
  have zb := hC.2.1
  obtain ⟨hL2, c9, hc9, hr9, hd9⟩ : la ≤ s1 p ∧ ∃ c, c < 9 ∧ s1 p ≤ rxc la lm lw T n p c ∧ pd c = s2 p := by rcases hS with ⟨z, -, -⟩ | ⟨z1, z2, -, -⟩; omega; exact ⟨z1, z2⟩
  have hr9n := rxc_mx (la := la) (lm := lm) (lw := lw) (T := T) (n := n) (p := p) hc9
  have hmx : mx (mt la lm lw T n p) 511 ≤ n - p := mx_le (fun d => mt_n) _
  have hpd9 := hP.2.2.2 c9 hc9
  refine lv_aload_n zx zb dX2_distanceAt_0 rfl (lv_at hl 0 rfl) ?_
  refine lv_iload_n zx zb dX2_distanceAt_1 rfl (lv_at hl 1 rfl) ?_
  refine j_callVi (wr := [oC m0 3 [.ref t0, .ref u0, .ref a1, .ref a2, .ref a3, .ref a4, .ref a5], aI G t1 500 T, oC u0 5 [.int (nI la), .int (nI lm), .int (nI lw)], aI G a4 4500 g4, oC f0 7 [.ref f1, .ref f2, .ref f3, .ref f4], aI G f4 9 pd, aI G b3 500 s2]) hC hI (c_X2_lengthAt zl G k0 b1 b2 b3 b4 b5 f0 m0 t0 u0 t1 n p s1 (by omega) (by omega)) (cwV 1 hC.2.2.2.2.1 gX2_distanceAt_X2_lengthAt rfl rfl rfl (by decide +kernel) ⟨Nat.le_of_ble_eq_true rfl, Nat.le_of_ble_eq_true rfl⟩) [0, 2, 8] [1, 3, 4, 5, 6, 7, 9] rfl rfl rfl rfl rfl rfl (q0 := 0) rfl rfl rfl hl.1 (Nat.le_of_ble_eq_true rfl) dX2_distanceAt_2 ⟨Nat.le_of_ble_eq_true rfl, Nat.le_of_ble_eq_true rfl⟩ (fun rv2 u2 H locs hp2 hI => ?_)
  have hI : jI G zA zs [oC m0 3 [.ref t0, .ref u0, .ref a1, .ref a2, .ref a3, .ref a4, .ref a5], aI G t1 500 T, oC u0 5 [.int (nI la), .int (nI lm), .int (nI lw)], aI G a4 4500 g4, oC f0 7 [.ref f1, .ref f2, .ref f3, .ref f4], aI G f4 9 pd, aI G b3 500 s2, oC k0 2 [.ref t0, .ref u0, .ref f0, .ref m0, .ref b1, .ref b2, .ref b3, .ref b4, .ref b5], oC t0 1 [.ref t1, .int (nI n)], aI G b2 500 s1] H locs := hI
  subst hp2
  refine lv_istore_n (lv' := [(2, .int (nI (s1 p))), (0, .ref k0), (1, .int (nI p))]) zx zb dX2_distanceAt_5 rfl hl (by decide) rfl (fun ls hl => ?_)
  refine lv_iload_n zx zb dX2_distanceAt_6 rfl (lv_at hl 0 rfl) ?_
  refine lv_iconst (v := nI 1) zx zb dX2_distanceAt_7 (by decide) ?_
  refine j_icmp_gt (tgt := 13) hC dX2_distanceAt_8 (by decide) (by omega) (by omega) (fun c8 => ?_) (fun c8 => ?_)
  · refine lv_iconst (v := nI 0) zx zb dX2_distanceAt_13 (by decide) ?_
    refine lv_istore_n (lv' := [(3, .int (nI 0)), (2, .int (nI (s1 p))), (0, .ref k0), (1, .int (nI p))]) zx zb dX2_distanceAt_14 rfl hl (by decide) rfl (fun ls hl => ?_)
    have loop15 : ∀ (zn15 : Nat) (c : Nat), (c ≤ 9) → (∀ c2, c2 < c → ¬ (pd c2 = s2 p ∧ s1 p ≤ rxc la lm lw T n p c2)) → (9 - c) < zn15 → ∀ (H : Heap) (locs : List Loc) (ls : Array Slot), jI G zA zs [oC m0 3 [.ref t0, .ref u0, .ref a1, .ref a2, .ref a3, .ref a4, .ref a5], aI G t1 500 T, oC u0 5 [.int (nI la), .int (nI lm), .int (nI lw)], aI G a4 4500 g4, oC f0 7 [.ref f1, .ref f2, .ref f3, .ref f4], aI G f4 9 pd, aI G b3 500 s2, oC k0 2 [.ref t0, .ref u0, .ref f0, .ref m0, .ref b1, .ref b2, .ref b3, .ref b4, .ref b5], oC t0 1 [.ref t1, .int (nI n)], aI G b2 500 s1] H locs → lv_has ls 4 [(0, .ref k0), (1, .int (nI p)), (2, .int (nI (s1 p))), (3, .int (nI c))] → W zp zl ze ({ frames := 3, cells := 0, slots := 0, locals := 68 }) zs zm zargs zbelow zmeth zc H locs 0 0 zQ (F0 zm 15 ls []) := by
      intro zn15
      induction zn15 with
      | zero => intros; omega
      | succ zn15 ih15 =>
        intro c hc hno zm15 H locs ls hI hl
        refine lv_iload_n zx zb dX2_distanceAt_15 rfl (lv_at hl 3 rfl) ?_
        refine lv_bipush (v := nI 9) zx zb dX2_distanceAt_16 (by decide) ?_
        refine j_icmp_ge (tgt := 68) hC dX2_distanceAt_18 (by decide) (by omega) (by omega) (fun c18 => ?_) (fun c18 => ?_)
        · exact absurd ⟨hd9, hr9⟩ (hno c9 (by omega))
        · refine lv_aload_n zx zb dX2_distanceAt_21 rfl (lv_at hl 0 rfl) ?_
          refine j_get hC hI hin_X2_distanceAt_X2 7 rfl rfl 2 (by decide) hfl_X2_distanceAt_19 rfl rfl dX2_distanceAt_22 ?_
          refine lv_iload_n zx zb dX2_distanceAt_25 rfl (lv_at hl 3 rfl) ?_
          refine j_callVi (wr := [oC m0 3 [.ref t0, .ref u0, .ref a1, .ref a2, .ref a3, .ref a4, .ref a5], aI G t1 500 T, oC u0 5 [.int (nI la), .int (nI lm), .int (nI lw)], aI G a4 4500 g4, aI G b3 500 s2, oC k0 2 [.ref t0, .ref u0, .ref f0, .ref m0, .ref b1, .ref b2, .ref b3, .ref b4, .ref b5], oC t0 1 [.ref t1, .int (nI n)], aI G b2 500 s1]) hC hI (c_X7_ofDistanceClass zl G f0 f1 f2 f3 f4 c pd (by omega)) (cwV 1 hC.2.2.2.2.1 gX2_distanceAt_X7_ofDistanceClass rfl rfl rfl (by decide +kernel) ⟨Nat.le_of_ble_eq_true rfl, Nat.le_of_ble_eq_true rfl⟩) [4, 5] [0, 1, 2, 3, 6, 7, 8, 9] rfl rfl rfl rfl rfl rfl (q0 := 0) rfl rfl rfl hl.1 (Nat.le_of_ble_eq_true rfl) dX2_distanceAt_26 ⟨Nat.le_of_ble_eq_true rfl, Nat.le_of_ble_eq_true rfl⟩ (fun rv26 u26 H locs hp26 hI => ?_)
          have hI : jI G zA zs [oC m0 3 [.ref t0, .ref u0, .ref a1, .ref a2, .ref a3, .ref a4, .ref a5], aI G t1 500 T, oC u0 5 [.int (nI la), .int (nI lm), .int (nI lw)], aI G a4 4500 g4, aI G b3 500 s2, oC k0 2 [.ref t0, .ref u0, .ref f0, .ref m0, .ref b1, .ref b2, .ref b3, .ref b4, .ref b5], oC t0 1 [.ref t1, .int (nI n)], aI G b2 500 s1, oC f0 7 [.ref f1, .ref f2, .ref f3, .ref f4], aI G f4 9 pd] H locs := hI
          subst hp26
          have hq1 := hP.2.2.2 c (by omega)
          refine lv_aload_n zx zb dX2_distanceAt_29 rfl (lv_at hl 0 rfl) ?_
          refine j_get hC hI hin_X2_distanceAt_X2 5 rfl rfl 6 (by decide) hfl_X2_distanceAt_34 rfl rfl dX2_distanceAt_30 ?_
          refine lv_iload_n zx zb dX2_distanceAt_33 rfl (lv_at hl 1 rfl) ?_
          refine j_iald hC hI 4 rfl (by omega) (by omega) dX2_distanceAt_34 ?_
          refine j_icmp_ne (tgt := 62) hC dX2_distanceAt_35 (by decide) (by omega) (by omega) (fun c35 => ?_) (fun c35 => ?_)
          · refine lv_iinc (v := nI (c + 1)) (lv' := [(3, .int (nI (c + 1))), (0, .ref k0), (1, .int (nI p)), (2, .int (nI (s1 p)))]) zx zb dX2_distanceAt_62 hl (k := 3) rfl (j_inc _ _ _ (by decide)) (by decide) rfl (fun ls hl => ?_)
            refine lv_goto (tgt := 15) zx zb dX2_distanceAt_65 (by decide) ?_
            exact ih15 (c + 1) (by omega) (no_next hno (fun q => absurd q.1 c35)) (by omega) _ _ _ (hI.sub [0, 1, 2, 3, 8, 9, 4, 5, 6, 7] rfl rfl) (lv_sub hl [1, 2, 3, 0] rfl)
          · refine lv_aload_n zx zb dX2_distanceAt_38 rfl (lv_at hl 0 rfl) ?_
            refine j_get hC hI hin_X2_distanceAt_X2 5 rfl rfl 3 (by decide) hfl_X2_distanceAt_23 rfl rfl dX2_distanceAt_39 ?_
            refine lv_iload_n zx zb dX2_distanceAt_42 rfl (lv_at hl 1 rfl) ?_
            refine lv_iload_n zx zb dX2_distanceAt_43 rfl (lv_at hl 3 rfl) ?_
            refine j_callVi (wr := [aI G t1 500 T, oC u0 5 [.int (nI la), .int (nI lm), .int (nI lw)], aI G b3 500 s2, oC k0 2 [.ref t0, .ref u0, .ref f0, .ref m0, .ref b1, .ref b2, .ref b3, .ref b4, .ref b5], oC t0 1 [.ref t1, .int (nI n)], aI G b2 500 s1, oC f0 7 [.ref f1, .ref f2, .ref f3, .ref f4], aI G f4 9 pd]) hC hI (c_X3_reachAt zl G m0 t0 u0 a1 a2 a3 a4 a5 p c g4 (by omega) (by omega)) (cwV 2 hC.2.2.2.2.1 gX2_distanceAt_X3_reachAt rfl rfl rfl (by decide +kernel) ⟨Nat.le_of_ble_eq_true rfl, Nat.le_of_ble_eq_true rfl⟩) [0, 3] [1, 2, 4, 5, 6, 7, 8, 9] rfl rfl rfl rfl rfl rfl (q0 := 0) rfl rfl rfl hl.1 (Nat.le_of_ble_eq_true rfl) dX2_distanceAt_44 ⟨Nat.le_of_ble_eq_true rfl, Nat.le_of_ble_eq_true rfl⟩ (fun rv44 u44 H locs hp44 hI => ?_)
            have hI : jI G zA zs [aI G t1 500 T, oC u0 5 [.int (nI la), .int (nI lm), .int (nI lw)], aI G b3 500 s2, oC k0 2 [.ref t0, .ref u0, .ref f0, .ref m0, .ref b1, .ref b2, .ref b3, .ref b4, .ref b5], oC t0 1 [.ref t1, .int (nI n)], aI G b2 500 s1, oC f0 7 [.ref f1, .ref f2, .ref f3, .ref f4], aI G f4 9 pd, oC m0 3 [.ref t0, .ref u0, .ref a1, .ref a2, .ref a3, .ref a4, .ref a5], aI G a4 4500 g4] H locs := hI
            subst hp44
            have hq2 := hg4 c (by omega)
            have hq3 := rxc_mx (la := la) (lm := lm) (lw := lw) (T := T) (n := n) (p := p) (c := c) (by omega)
            refine lv_iload_n zx zb dX2_distanceAt_47 rfl (lv_at hl 2 rfl) ?_
            refine j_icmp_lt (tgt := 62) hC dX2_distanceAt_48 (by decide) (by omega) (by omega) (fun c48 => ?_) (fun c48 => ?_)
            · refine lv_iinc (v := nI (c + 1)) (lv' := [(3, .int (nI (c + 1))), (0, .ref k0), (1, .int (nI p)), (2, .int (nI (s1 p)))]) zx zb dX2_distanceAt_62 hl (k := 3) rfl (j_inc _ _ _ (by decide)) (by decide) rfl (fun ls hl => ?_)
              refine lv_goto (tgt := 15) zx zb dX2_distanceAt_65 (by decide) ?_
              exact ih15 (c + 1) (by omega) (no_next hno (fun q => by have := q.2; have := hg4 c (by omega); omega)) (by omega) _ _ _ (hI.sub [8, 0, 1, 9, 6, 7, 2, 3, 4, 5] rfl rfl) (lv_sub hl [1, 2, 3, 0] rfl)
            · refine lv_aload_n zx zb dX2_distanceAt_51 rfl (lv_at hl 0 rfl) ?_
              refine j_get hC hI hin_X2_distanceAt_X2 3 rfl rfl 3 (by decide) hfl_X2_distanceAt_23 rfl rfl dX2_distanceAt_52 ?_
              refine lv_iload_n zx zb dX2_distanceAt_55 rfl (lv_at hl 1 rfl) ?_
              refine lv_iload_n zx zb dX2_distanceAt_56 rfl (lv_at hl 2 rfl) ?_
              refine lv_iload_n zx zb dX2_distanceAt_57 rfl (lv_at hl 3 rfl) ?_
              refine j_callVi (wr := [aI G b3 500 s2, oC k0 2 [.ref t0, .ref u0, .ref f0, .ref m0, .ref b1, .ref b2, .ref b3, .ref b4, .ref b5], aI G b2 500 s1, oC f0 7 [.ref f1, .ref f2, .ref f3, .ref f4], aI G f4 9 pd, aI G a4 4500 g4]) hC hI (c_X3_nearestOfClass zl G m0 t0 u0 a1 a2 a3 a4 a5 t1 n la lm lw p (s1 p) c T (by omega) (by omega) (by omega) (by omega) (by omega) (by omega)) (cwV 3 hC.2.2.2.2.1 gX2_distanceAt_X3_nearestOfClass rfl rfl rfl (by decide +kernel) ⟨Nat.le_of_ble_eq_true rfl, Nat.le_of_ble_eq_true rfl⟩) [8, 4, 0, 1] [2, 3, 5, 6, 7, 9] rfl rfl rfl rfl rfl rfl (q0 := 0) rfl rfl rfl hl.1 (Nat.le_of_ble_eq_true rfl) dX2_distanceAt_58 ⟨Nat.le_of_ble_eq_true rfl, Nat.le_of_ble_eq_true rfl⟩ (fun rv58 u58 H locs hp58 hI => ?_)
              obtain ⟨v58_0, rfl⟩ : ∃ z, z = u58 := ⟨_, rfl⟩
              have hI : jI G zA zs [aI G b3 500 s2, oC k0 2 [.ref t0, .ref u0, .ref f0, .ref m0, .ref b1, .ref b2, .ref b3, .ref b4, .ref b5], aI G b2 500 s1, oC f0 7 [.ref f1, .ref f2, .ref f3, .ref f4], aI G f4 9 pd, aI G a4 4500 g4, oC m0 3 [.ref t0, .ref u0, .ref a1, .ref a2, .ref a3, .ref a4, .ref a5], oC t0 1 [.ref t1, .int (nI n)], aI G t1 500 T, oC u0 5 [.int (nI la), .int (nI lm), .int (nI lw)]] H locs := hI
              obtain ⟨rfl, f58_0⟩ := hp58
              exact hQ _ _ _ _ _ v58_0 dX2_distanceAt_61 (hI.sub [1, 6, 7, 8, 9, 5, 3, 4, 2, 0] rfl rfl) ⟨(by first | rfl | (congr 1; omega) | omega), (isD_of (by omega) (by omega) (by omega) c35 hno f58_0)⟩
    exact loop15 _ 0 (by omega) (fun c2 h => by omega) (Nat.lt_succ_self _) _ _ _ hI (lv_sub hl [2, 3, 1, 0] rfl)
  · exact (by omega : False).elim

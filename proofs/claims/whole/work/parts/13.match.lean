theorem hin_X3_longestAt_X3 : ∀ w ∈ wsX30, w ∈ wsX3_longestAt := by decide +kernel
theorem hfl_X3_longestAt_9 : Cond.fieldLink RX3 9 "CheapParse$Matches" "text" "LCheapParse$Bytes;" ∈ wsX3_longestAt := by decide +kernel
theorem hfl_X3_longestAt_19 : Cond.fieldLink RX3 19 "CheapParse$Matches" "longest" "[I" ∈ wsX3_longestAt := by decide +kernel
set_option maxHeartbeats 4000000 in
set_option maxRecDepth 100000 in
theorem c_X3_longestAt (zl : Launch) (G : jG) (m0 : Nat) (t0 : Nat) (u0 : Nat) (a1 : Nat) (a2 : Nat) (a3 : Nat) (a4 : Nat) (a5 : Nat) (t1 : Nat) (n : Nat) (p : Nat) (g1 : Nat → Nat) (hn : n ≤ 500) (hp : p < n) : jMet zl yX3_longestAt wsX3_longestAt ({ frames := 1, cells := 0, slots := 0, locals := 20 }) G [oC m0 3 [.ref t0, .ref u0, .ref a1, .ref a2, .ref a3, .ref a4, .ref a5], oC t0 1 [.ref t1, .int (nI n)], aI G a1 500 g1] [.ref m0, .int (nI p)] (jQi G (fun (r : Int32) (u : Unit) => (r = nI (g1 p))) (fun (u : Unit) => [oC m0 3 [.ref t0, .ref u0, .ref a1, .ref a2, .ref a3, .ref a4, .ref a5], oC t0 1 [.ref t1, .int (nI n)], aI G a1 500 g1])) 0 0 := by
  refine j_enter_i (cc := cX3_longestAt) (nL := 2) (nm := "longestAt") (own := RX3) (lv := [(0, .ref m0), (1, .int (nI p))]) (by decide) rfl (Nat.le_of_ble_eq_true rfl) rfl rfl rfl ?_
  intro zA zp ze zs zm zargs zbelow zmeth zc zQ ls hC hQ hI hl
  have zx := hC.1
  have zb := hC.2.1
  refine lv_iload_n zx zb dX3_longestAt_0 rfl (lv_at hl 1 rfl) ?_
  refine j_if_lt (tgt := 24) hC dX3_longestAt_1 (by decide) (by omega) ?_
  refine lv_iload_n zx zb dX3_longestAt_4 rfl (lv_at hl 1 rfl) ?_
  refine lv_aload_n zx zb dX3_longestAt_5 rfl (lv_at hl 0 rfl) ?_
  refine j_get hC hI hin_X3_longestAt_X3 0 rfl rfl 0 (by decide) hfl_X3_longestAt_9 rfl rfl dX3_longestAt_6 ?_
  refine j_callVi (wr := [oC m0 3 [.ref t0, .ref u0, .ref a1, .ref a2, .ref a3, .ref a4, .ref a5], aI G a1 500 g1]) hC hI (c_X1_size zl G t0 t1 n ) (cwV 0 hC.2.2.2.2.1 gX3_longestAt_X1_size rfl rfl rfl (by decide +kernel) ⟨Nat.le_of_ble_eq_true rfl, Nat.le_of_ble_eq_true rfl⟩) [1] [0, 2] rfl rfl rfl rfl rfl rfl (q0 := 0) rfl rfl rfl hl.1 (Nat.le_of_ble_eq_true rfl) dX3_longestAt_9 ⟨Nat.le_of_ble_eq_true rfl, Nat.le_of_ble_eq_true rfl⟩ (fun rv9 u9 H locs hp9 hI => ?_)
  have hI : jI G zA zs [oC m0 3 [.ref t0, .ref u0, .ref a1, .ref a2, .ref a3, .ref a4, .ref a5], aI G a1 500 g1, oC t0 1 [.ref t1, .int (nI n)]] H locs := hI
  subst hp9
  refine j_icmp_ge (tgt := 24) hC dX3_longestAt_12 (by decide) (by omega) (by omega) (fun c12 => ?_) (fun c12 => ?_)
  · exact (by omega : False).elim
  · refine lv_aload_n zx zb dX3_longestAt_15 rfl (lv_at hl 0 rfl) ?_
    refine j_get hC hI hin_X3_longestAt_X3 0 rfl rfl 2 (by decide) hfl_X3_longestAt_19 rfl rfl dX3_longestAt_16 ?_
    refine lv_iload_n zx zb dX3_longestAt_19 rfl (lv_at hl 1 rfl) ?_
    refine j_iald hC hI 1 rfl (by omega) (by omega) dX3_longestAt_20 ?_
    refine lv_goto (tgt := 25) zx zb dX3_longestAt_21 (by decide) ?_
    exact hQ _ _ _ _ _ () dX3_longestAt_25 (hI.sub [0, 2, 1] rfl rfl) (by first | rfl | (congr 1; omega) | omega)

set_option maxHeartbeats 4000000 in
set_option maxRecDepth 100000 in
theorem c_X3_longestAt_out (zl : Launch) (G : jG) (m0 : Nat) (t0 : Nat) (u0 : Nat) (a1 : Nat) (a2 : Nat) (a3 : Nat) (a4 : Nat) (a5 : Nat) (t1 : Nat) (n : Nat) (p : Nat) (hn : n ≤ 500) (hp : n ≤ p ∧ p ≤ 500) : jMet zl yX3_longestAt wsX3_longestAt ({ frames := 1, cells := 0, slots := 0, locals := 20 }) G [oC m0 3 [.ref t0, .ref u0, .ref a1, .ref a2, .ref a3, .ref a4, .ref a5], oC t0 1 [.ref t1, .int (nI n)]] [.ref m0, .int (nI p)] (jQi G (fun (r : Int32) (u : Unit) => (r = nI 0)) (fun (u : Unit) => [oC m0 3 [.ref t0, .ref u0, .ref a1, .ref a2, .ref a3, .ref a4, .ref a5], oC t0 1 [.ref t1, .int (nI n)]])) 0 0 := by
  refine j_enter_i (cc := cX3_longestAt) (nL := 2) (nm := "longestAt") (own := RX3) (lv := [(0, .ref m0), (1, .int (nI p))]) (by decide) rfl (Nat.le_of_ble_eq_true rfl) rfl rfl rfl ?_
  intro zA zp ze zs zm zargs zbelow zmeth zc zQ ls hC hQ hI hl
  have zx := hC.1
  have zb := hC.2.1
  refine lv_iload_n zx zb dX3_longestAt_0 rfl (lv_at hl 1 rfl) ?_
  refine j_if_lt (tgt := 24) hC dX3_longestAt_1 (by decide) (by omega) ?_
  refine lv_iload_n zx zb dX3_longestAt_4 rfl (lv_at hl 1 rfl) ?_
  refine lv_aload_n zx zb dX3_longestAt_5 rfl (lv_at hl 0 rfl) ?_
  refine j_get hC hI hin_X3_longestAt_X3 0 rfl rfl 0 (by decide) hfl_X3_longestAt_9 rfl rfl dX3_longestAt_6 ?_
  refine j_callVi (wr := [oC m0 3 [.ref t0, .ref u0, .ref a1, .ref a2, .ref a3, .ref a4, .ref a5]]) hC hI (c_X1_size zl G t0 t1 n ) (cwV 0 hC.2.2.2.2.1 gX3_longestAt_X1_size rfl rfl rfl (by decide +kernel) ⟨Nat.le_of_ble_eq_true rfl, Nat.le_of_ble_eq_true rfl⟩) [1] [0] rfl rfl rfl rfl rfl rfl (q0 := 0) rfl rfl rfl hl.1 (Nat.le_of_ble_eq_true rfl) dX3_longestAt_9 ⟨Nat.le_of_ble_eq_true rfl, Nat.le_of_ble_eq_true rfl⟩ (fun rv9 u9 H locs hp9 hI => ?_)
  have hI : jI G zA zs [oC m0 3 [.ref t0, .ref u0, .ref a1, .ref a2, .ref a3, .ref a4, .ref a5], oC t0 1 [.ref t1, .int (nI n)]] H locs := hI
  subst hp9
  refine j_icmp_ge (tgt := 24) hC dX3_longestAt_12 (by decide) (by omega) (by omega) (fun c12 => ?_) (fun c12 => ?_)
  · refine lv_iconst (v := nI 0) zx zb dX3_longestAt_24 (by decide) ?_
    exact hQ _ _ _ _ _ () dX3_longestAt_25 (hI.sub [0, 1] rfl rfl) (by first | rfl | (congr 1; omega) | omega)
  · exact (by omega : False).elim

theorem hin_X3_nearestAt_X3 : ∀ w ∈ wsX30, w ∈ wsX3_nearestAt := by decide +kernel
theorem hfl_X3_nearestAt_9 : Cond.fieldLink RX3 9 "CheapParse$Matches" "text" "LCheapParse$Bytes;" ∈ wsX3_nearestAt := by decide +kernel
theorem hfl_X3_nearestAt_23 : Cond.fieldLink RX3 23 "CheapParse$Matches" "nearest" "[I" ∈ wsX3_nearestAt := by decide +kernel
set_option maxHeartbeats 4000000 in
set_option maxRecDepth 100000 in
theorem c_X3_nearestAt (zl : Launch) (G : jG) (m0 : Nat) (t0 : Nat) (u0 : Nat) (a1 : Nat) (a2 : Nat) (a3 : Nat) (a4 : Nat) (a5 : Nat) (t1 : Nat) (n : Nat) (p : Nat) (g2 : Nat → Nat) (hn : n ≤ 500) (hp : p < n) : jMet zl yX3_nearestAt wsX3_nearestAt ({ frames := 1, cells := 0, slots := 0, locals := 20 }) G [oC m0 3 [.ref t0, .ref u0, .ref a1, .ref a2, .ref a3, .ref a4, .ref a5], oC t0 1 [.ref t1, .int (nI n)], aI G a2 500 g2] [.ref m0, .int (nI p)] (jQi G (fun (r : Int32) (u : Unit) => (r = nI (g2 p))) (fun (u : Unit) => [oC m0 3 [.ref t0, .ref u0, .ref a1, .ref a2, .ref a3, .ref a4, .ref a5], oC t0 1 [.ref t1, .int (nI n)], aI G a2 500 g2])) 0 0 := by
  refine j_enter_i (cc := cX3_nearestAt) (nL := 2) (nm := "nearestAt") (own := RX3) (lv := [(0, .ref m0), (1, .int (nI p))]) (by decide) rfl (Nat.le_of_ble_eq_true rfl) rfl rfl rfl ?_
  intro zA zp ze zs zm zargs zbelow zmeth zc zQ ls hC hQ hI hl
  have zx := hC.1
  have zb := hC.2.1
  refine lv_iload_n zx zb dX3_nearestAt_0 rfl (lv_at hl 1 rfl) ?_
  refine j_if_lt (tgt := 24) hC dX3_nearestAt_1 (by decide) (by omega) ?_
  refine lv_iload_n zx zb dX3_nearestAt_4 rfl (lv_at hl 1 rfl) ?_
  refine lv_aload_n zx zb dX3_nearestAt_5 rfl (lv_at hl 0 rfl) ?_
  refine j_get hC hI hin_X3_nearestAt_X3 0 rfl rfl 0 (by decide) hfl_X3_nearestAt_9 rfl rfl dX3_nearestAt_6 ?_
  refine j_callVi (wr := [oC m0 3 [.ref t0, .ref u0, .ref a1, .ref a2, .ref a3, .ref a4, .ref a5], aI G a2 500 g2]) hC hI (c_X1_size zl G t0 t1 n ) (cwV 0 hC.2.2.2.2.1 gX3_nearestAt_X1_size rfl rfl rfl (by decide +kernel) ⟨Nat.le_of_ble_eq_true rfl, Nat.le_of_ble_eq_true rfl⟩) [1] [0, 2] rfl rfl rfl rfl rfl rfl (q0 := 0) rfl rfl rfl hl.1 (Nat.le_of_ble_eq_true rfl) dX3_nearestAt_9 ⟨Nat.le_of_ble_eq_true rfl, Nat.le_of_ble_eq_true rfl⟩ (fun rv9 u9 H locs hp9 hI => ?_)
  have hI : jI G zA zs [oC m0 3 [.ref t0, .ref u0, .ref a1, .ref a2, .ref a3, .ref a4, .ref a5], aI G a2 500 g2, oC t0 1 [.ref t1, .int (nI n)]] H locs := hI
  subst hp9
  refine j_icmp_ge (tgt := 24) hC dX3_nearestAt_12 (by decide) (by omega) (by omega) (fun c12 => ?_) (fun c12 => ?_)
  · exact (by omega : False).elim
  · refine lv_aload_n zx zb dX3_nearestAt_15 rfl (lv_at hl 0 rfl) ?_
    refine j_get hC hI hin_X3_nearestAt_X3 0 rfl rfl 3 (by decide) hfl_X3_nearestAt_23 rfl rfl dX3_nearestAt_16 ?_
    refine lv_iload_n zx zb dX3_nearestAt_19 rfl (lv_at hl 1 rfl) ?_
    refine j_iald hC hI 1 rfl (by omega) (by omega) dX3_nearestAt_20 ?_
    refine lv_goto (tgt := 25) zx zb dX3_nearestAt_21 (by decide) ?_
    exact hQ _ _ _ _ _ () dX3_nearestAt_25 (hI.sub [0, 2, 1] rfl rfl) (by first | rfl | (congr 1; omega) | omega)

theorem hin_X3_distancesAt_X3 : ∀ w ∈ wsX30, w ∈ wsX3_distancesAt := by decide +kernel
theorem hfl_X3_distancesAt_9 : Cond.fieldLink RX3 9 "CheapParse$Matches" "text" "LCheapParse$Bytes;" ∈ wsX3_distancesAt := by decide +kernel
theorem hfl_X3_distancesAt_26 : Cond.fieldLink RX3 26 "CheapParse$Matches" "distances" "[I" ∈ wsX3_distancesAt := by decide +kernel
set_option maxHeartbeats 4000000 in
set_option maxRecDepth 100000 in
theorem c_X3_distancesAt (zl : Launch) (G : jG) (m0 : Nat) (t0 : Nat) (u0 : Nat) (a1 : Nat) (a2 : Nat) (a3 : Nat) (a4 : Nat) (a5 : Nat) (t1 : Nat) (n : Nat) (p : Nat) (g3 : Nat → Nat) (hn : n ≤ 500) (hp : p < n) : jMet zl yX3_distancesAt wsX3_distancesAt ({ frames := 1, cells := 0, slots := 0, locals := 20 }) G [oC m0 3 [.ref t0, .ref u0, .ref a1, .ref a2, .ref a3, .ref a4, .ref a5], oC t0 1 [.ref t1, .int (nI n)], aI G a3 500 g3] [.ref m0, .int (nI p)] (jQi G (fun (r : Int32) (u : Unit) => (r = nI (g3 p))) (fun (u : Unit) => [oC m0 3 [.ref t0, .ref u0, .ref a1, .ref a2, .ref a3, .ref a4, .ref a5], oC t0 1 [.ref t1, .int (nI n)], aI G a3 500 g3])) 0 0 := by
  refine j_enter_i (cc := cX3_distancesAt) (nL := 2) (nm := "distancesAt") (own := RX3) (lv := [(0, .ref m0), (1, .int (nI p))]) (by decide) rfl (Nat.le_of_ble_eq_true rfl) rfl rfl rfl ?_
  intro zA zp ze zs zm zargs zbelow zmeth zc zQ ls hC hQ hI hl
  have zx := hC.1
  have zb := hC.2.1
  refine lv_iload_n zx zb dX3_distancesAt_0 rfl (lv_at hl 1 rfl) ?_
  refine j_if_lt (tgt := 24) hC dX3_distancesAt_1 (by decide) (by omega) ?_
  refine lv_iload_n zx zb dX3_distancesAt_4 rfl (lv_at hl 1 rfl) ?_
  refine lv_aload_n zx zb dX3_distancesAt_5 rfl (lv_at hl 0 rfl) ?_
  refine j_get hC hI hin_X3_distancesAt_X3 0 rfl rfl 0 (by decide) hfl_X3_distancesAt_9 rfl rfl dX3_distancesAt_6 ?_
  refine j_callVi (wr := [oC m0 3 [.ref t0, .ref u0, .ref a1, .ref a2, .ref a3, .ref a4, .ref a5], aI G a3 500 g3]) hC hI (c_X1_size zl G t0 t1 n ) (cwV 0 hC.2.2.2.2.1 gX3_distancesAt_X1_size rfl rfl rfl (by decide +kernel) ⟨Nat.le_of_ble_eq_true rfl, Nat.le_of_ble_eq_true rfl⟩) [1] [0, 2] rfl rfl rfl rfl rfl rfl (q0 := 0) rfl rfl rfl hl.1 (Nat.le_of_ble_eq_true rfl) dX3_distancesAt_9 ⟨Nat.le_of_ble_eq_true rfl, Nat.le_of_ble_eq_true rfl⟩ (fun rv9 u9 H locs hp9 hI => ?_)
  have hI : jI G zA zs [oC m0 3 [.ref t0, .ref u0, .ref a1, .ref a2, .ref a3, .ref a4, .ref a5], aI G a3 500 g3, oC t0 1 [.ref t1, .int (nI n)]] H locs := hI
  subst hp9
  refine j_icmp_ge (tgt := 24) hC dX3_distancesAt_12 (by decide) (by omega) (by omega) (fun c12 => ?_) (fun c12 => ?_)
  · exact (by omega : False).elim
  · refine lv_aload_n zx zb dX3_distancesAt_15 rfl (lv_at hl 0 rfl) ?_
    refine j_get hC hI hin_X3_distancesAt_X3 0 rfl rfl 4 (by decide) hfl_X3_distancesAt_26 rfl rfl dX3_distancesAt_16 ?_
    refine lv_iload_n zx zb dX3_distancesAt_19 rfl (lv_at hl 1 rfl) ?_
    refine j_iald hC hI 1 rfl (by omega) (by omega) dX3_distancesAt_20 ?_
    refine lv_goto (tgt := 25) zx zb dX3_distancesAt_21 (by decide) ?_
    exact hQ _ _ _ _ _ () dX3_distancesAt_25 (hI.sub [0, 2, 1] rfl rfl) (by first | rfl | (congr 1; omega) | omega)

theorem hin_X3_reachAt_X3 : ∀ w ∈ wsX30, w ∈ wsX3_reachAt := by decide +kernel
theorem hfl_X3_reachAt_29 : Cond.fieldLink RX3 29 "CheapParse$Matches" "reach" "[I" ∈ wsX3_reachAt := by decide +kernel
set_option maxHeartbeats 4000000 in
set_option maxRecDepth 100000 in
theorem c_X3_reachAt (zl : Launch) (G : jG) (m0 : Nat) (t0 : Nat) (u0 : Nat) (a1 : Nat) (a2 : Nat) (a3 : Nat) (a4 : Nat) (a5 : Nat) (p : Nat) (c : Nat) (g4 : Nat → Nat) (hp : p < 500) (hc : c < 9) : jMet zl yX3_reachAt wsX3_reachAt ({ frames := 0, cells := 0, slots := 0, locals := 0 }) G [oC m0 3 [.ref t0, .ref u0, .ref a1, .ref a2, .ref a3, .ref a4, .ref a5], aI G a4 4500 g4] [.ref m0, .int (nI p), .int (nI c)] (jQi G (fun (r : Int32) (u : Unit) => (r = nI (g4 (p * 9 + c)))) (fun (u : Unit) => [oC m0 3 [.ref t0, .ref u0, .ref a1, .ref a2, .ref a3, .ref a4, .ref a5], aI G a4 4500 g4])) 0 0 := by
  refine j_enter_i (cc := cX3_reachAt) (nL := 3) (nm := "reachAt") (own := RX3) (lv := [(0, .ref m0), (1, .int (nI p)), (2, .int (nI c))]) (by decide) rfl (Nat.le_of_ble_eq_true rfl) rfl rfl rfl ?_
  intro zA zp ze zs zm zargs zbelow zmeth zc zQ ls hC hQ hI hl
  have zx := hC.1
  have zb := hC.2.1
  refine lv_aload_n zx zb dX3_reachAt_0 rfl (lv_at hl 0 rfl) ?_
  refine j_get hC hI hin_X3_reachAt_X3 0 rfl rfl 5 (by decide) hfl_X3_reachAt_29 rfl rfl dX3_reachAt_1 ?_
  refine lv_iload_n zx zb dX3_reachAt_4 rfl (lv_at hl 1 rfl) ?_
  refine lv_bipush (v := nI 9) zx zb dX3_reachAt_5 (by decide) ?_
  refine j_imul hC dX3_reachAt_7 ?_
  refine lv_iload_n zx zb dX3_reachAt_8 rfl (lv_at hl 2 rfl) ?_
  refine j_iadd hC dX3_reachAt_9 ?_
  refine j_iald hC hI 1 rfl (by omega) (by omega) dX3_reachAt_10 ?_
  exact hQ _ _ _ _ _ () dX3_reachAt_11 (hI.sub [0, 1] rfl rfl) (by first | rfl | (congr 1; omega) | omega)

theorem hin_X3_lastOfClass_X3 : ∀ w ∈ wsX30, w ∈ wsX3_lastOfClass := by decide +kernel
theorem hfl_X3_lastOfClass_15 : Cond.fieldLink RX3 15 "CheapParse$Matches" "rules" "LCheapParse$Rules;" ∈ wsX3_lastOfClass := by decide +kernel
set_option maxHeartbeats 4000000 in
set_option maxRecDepth 100000 in
theorem c_X3_lastOfClass (zl : Launch) (G : jG) (m0 : Nat) (t0 : Nat) (u0 : Nat) (a1 : Nat) (a2 : Nat) (a3 : Nat) (a4 : Nat) (a5 : Nat) (la : Nat) (lm : Nat) (lw : Nat) (p : Nat) (c : Nat) (hp : p < 500) (hw : lw ≤ 500) (hc : c < 9) : jMet zl yX3_lastOfClass wsX3_lastOfClass ({ frames := 1, cells := 0, slots := 0, locals := 20 }) G [oC m0 3 [.ref t0, .ref u0, .ref a1, .ref a2, .ref a3, .ref a4, .ref a5], oC u0 5 [.int (nI la), .int (nI lm), .int (nI lw)]] [.ref m0, .int (nI p), .int (nI c)] (jQi G (fun (r : Int32) (u : Nat) => (r = nI u) ∧ (u = min (2 * 2 ^ c - 1) (min p lw))) (fun (u : Nat) => [oC m0 3 [.ref t0, .ref u0, .ref a1, .ref a2, .ref a3, .ref a4, .ref a5], oC u0 5 [.int (nI la), .int (nI lm), .int (nI lw)]])) 0 0 := by
  refine j_enter_i (cc := cX3_lastOfClass) (nL := 4) (nm := "lastOfClass") (own := RX3) (lv := [(0, .ref m0), (1, .int (nI p)), (2, .int (nI c))]) (by decide) rfl (Nat.le_of_ble_eq_true rfl) rfl rfl rfl ?_
  intro zA zp ze zs zm zargs zbelow zmeth zc zQ ls hC hQ hI hl
  have zx := hC.1
  have zb := hC.2.1
  have h2c := tp_lt hc
  have h2p := Nat.two_pow_pos c
  refine lv_iload_n zx zb dX3_lastOfClass_0 rfl (lv_at hl 1 rfl) ?_
  refine lv_aload_n zx zb dX3_lastOfClass_1 rfl (lv_at hl 0 rfl) ?_
  refine j_get hC hI hin_X3_lastOfClass_X3 0 rfl rfl 1 (by decide) hfl_X3_lastOfClass_15 rfl rfl dX3_lastOfClass_2 ?_
  refine j_callVi (wr := [oC m0 3 [.ref t0, .ref u0, .ref a1, .ref a2, .ref a3, .ref a4, .ref a5]]) hC hI (c_X5_window zl G u0 la lm lw ) (cwV 0 hC.2.2.2.2.1 gX3_lastOfClass_X5_window rfl rfl rfl (by decide +kernel) ⟨Nat.le_of_ble_eq_true rfl, Nat.le_of_ble_eq_true rfl⟩) [1] [0] rfl rfl rfl rfl rfl rfl (q0 := 0) rfl rfl rfl hl.1 (Nat.le_of_ble_eq_true rfl) dX3_lastOfClass_5 ⟨Nat.le_of_ble_eq_true rfl, Nat.le_of_ble_eq_true rfl⟩ (fun rv5 u5 H locs hp5 hI => ?_)
  have hI : jI G zA zs [oC m0 3 [.ref t0, .ref u0, .ref a1, .ref a2, .ref a3, .ref a4, .ref a5], oC u0 5 [.int (nI la), .int (nI lm), .int (nI lw)]] H locs := hI
  subst hp5
  refine j_min hC hl.1 (by decide +kernel) (by decide +kernel) (by decide +kernel) (by decide +kernel) (Nat.le_of_ble_eq_true rfl) (Nat.le_of_ble_eq_true rfl) (Nat.le_of_ble_eq_true rfl) (Nat.le_of_ble_eq_true rfl) (by omega) (by omega) dX3_lastOfClass_8 ?_
  refine lv_istore_n (lv' := [(3, .int (nI (min p lw))), (0, .ref m0), (1, .int (nI p)), (2, .int (nI c))]) zx zb dX3_lastOfClass_11 rfl hl (by decide) rfl (fun ls hl => ?_)
  refine lv_iconst (v := nI 2) zx zb dX3_lastOfClass_12 (by decide) ?_
  refine lv_iload_n zx zb dX3_lastOfClass_13 rfl (lv_at hl 3 rfl) ?_
  refine j_ishl hC (by omega) (by omega) dX3_lastOfClass_14 ?_
  refine lv_iconst (v := nI 1) zx zb dX3_lastOfClass_15 (by decide) ?_
  refine j_isub hC (by omega) dX3_lastOfClass_16 ?_
  refine lv_iload_n zx zb dX3_lastOfClass_17 rfl (lv_at hl 0 rfl) ?_
  refine j_min hC hl.1 (by decide +kernel) (by decide +kernel) (by decide +kernel) (by decide +kernel) (Nat.le_of_ble_eq_true rfl) (Nat.le_of_ble_eq_true rfl) (Nat.le_of_ble_eq_true rfl) (Nat.le_of_ble_eq_true rfl) (by omega) (by omega) dX3_lastOfClass_18 ?_
  exact hQ _ _ _ _ _ (min ((2 * 2 ^ c) - 1) (min p lw)) dX3_lastOfClass_21 (hI.sub [0, 1] rfl rfl) ⟨(by first | rfl | (congr 1; omega) | omega), rfl⟩

theorem hin_X3_noteMatch_X3 : ∀ w ∈ wsX30, w ∈ wsX3_noteMatch := by decide +kernel
theorem hfl_X3_noteMatch_15 : Cond.fieldLink RX3 15 "CheapParse$Matches" "rules" "LCheapParse$Rules;" ∈ wsX3_noteMatch := by decide +kernel
theorem hfl_X3_noteMatch_26 : Cond.fieldLink RX3 26 "CheapParse$Matches" "distances" "[I" ∈ wsX3_noteMatch := by decide +kernel
theorem hfl_X3_noteMatch_19 : Cond.fieldLink RX3 19 "CheapParse$Matches" "longest" "[I" ∈ wsX3_noteMatch := by decide +kernel
theorem hfl_X3_noteMatch_23 : Cond.fieldLink RX3 23 "CheapParse$Matches" "nearest" "[I" ∈ wsX3_noteMatch := by decide +kernel
set_option maxHeartbeats 4000000 in
set_option maxRecDepth 100000 in
theorem c_X3_noteMatch (zl : Launch) (G : jG) (m0 : Nat) (t0 : Nat) (u0 : Nat) (a1 : Nat) (a2 : Nat) (a3 : Nat) (a4 : Nat) (a5 : Nat) (la : Nat) (lm : Nat) (lw : Nat) (p : Nat) (d : Nat) (k : Nat) (g1 : Nat → Nat) (g2 : Nat → Nat) (g3 : Nat → Nat) (hp : p < 500) (hk : k ≤ 500) (hl : lm ≤ 255) (h3 : g3 p ≤ 600) (h1 : g1 p ≤ 255) : jMet zl yX3_noteMatch wsX3_noteMatch ({ frames := 1, cells := 0, slots := 0, locals := 20 }) G [oC m0 3 [.ref t0, .ref u0, .ref a1, .ref a2, .ref a3, .ref a4, .ref a5], oC u0 5 [.int (nI la), .int (nI lm), .int (nI lw)], aI G a1 500 g1, aI G a2 500 g2, aI G a3 500 g3] [.ref m0, .int (nI p), .int (nI d), .int (nI k)] (jQi G (fun (r : Int32) (u : (Nat → Nat) × (Nat → Nat)) => (r = nI (min k lm)) ∧ (u.1 p = max (g1 p) (min k lm)) ∧ (u.2 p = if g1 p < min k lm then d else g2 p) ∧ (∀ j, j ≠ p → u.1 j = g1 j ∧ u.2 j = g2 j)) (fun (u : (Nat → Nat) × (Nat → Nat)) => [oC m0 3 [.ref t0, .ref u0, .ref a1, .ref a2, .ref a3, .ref a4, .ref a5], oC u0 5 [.int (nI la), .int (nI lm), .int (nI lw)], aI G a1 500 u.1, aI G a2 500 u.2, aI G a3 500 (up g3 p (g3 p + 1))])) 0 0 := by
  refine j_enter_i (cc := cX3_noteMatch) (nL := 5) (nm := "noteMatch") (own := RX3) (lv := [(0, .ref m0), (1, .int (nI p)), (2, .int (nI d)), (3, .int (nI k))]) (by decide) rfl (Nat.le_of_ble_eq_true rfl) rfl rfl rfl ?_
  intro zA zp ze zs zm zargs zbelow zmeth zc zQ ls hC hQ hI hl
  have zx := hC.1
  have zb := hC.2.1
  refine lv_iload_n zx zb dX3_noteMatch_0 rfl (lv_at hl 3 rfl) ?_
  refine lv_aload_n zx zb dX3_noteMatch_1 rfl (lv_at hl 0 rfl) ?_
  refine j_get hC hI hin_X3_noteMatch_X3 0 rfl rfl 1 (by decide) hfl_X3_noteMatch_15 rfl rfl dX3_noteMatch_2 ?_
  refine j_callVi (wr := [oC m0 3 [.ref t0, .ref u0, .ref a1, .ref a2, .ref a3, .ref a4, .ref a5], aI G a1 500 g1, aI G a2 500 g2, aI G a3 500 g3]) hC hI (c_X5_most zl G u0 la lm lw ) (cwV 0 hC.2.2.2.2.1 gX3_noteMatch_X5_most rfl rfl rfl (by decide +kernel) ⟨Nat.le_of_ble_eq_true rfl, Nat.le_of_ble_eq_true rfl⟩) [1] [0, 2, 3, 4] rfl rfl rfl rfl rfl rfl (q0 := 0) rfl rfl rfl hl.1 (Nat.le_of_ble_eq_true rfl) dX3_noteMatch_5 ⟨Nat.le_of_ble_eq_true rfl, Nat.le_of_ble_eq_true rfl⟩ (fun rv5 u5 H locs hp5 hI => ?_)
  have hI : jI G zA zs [oC m0 3 [.ref t0, .ref u0, .ref a1, .ref a2, .ref a3, .ref a4, .ref a5], aI G a1 500 g1, aI G a2 500 g2, aI G a3 500 g3, oC u0 5 [.int (nI la), .int (nI lm), .int (nI lw)]] H locs := hI
  subst hp5
  refine j_min hC hl.1 (by decide +kernel) (by decide +kernel) (by decide +kernel) (by decide +kernel) (Nat.le_of_ble_eq_true rfl) (Nat.le_of_ble_eq_true rfl) (Nat.le_of_ble_eq_true rfl) (Nat.le_of_ble_eq_true rfl) (by omega) (by omega) dX3_noteMatch_8 ?_
  refine lv_istore (lv' := [(4, .int (nI (min k lm))), (0, .ref m0), (1, .int (nI p)), (2, .int (nI d)), (3, .int (nI k))]) zx zb dX3_noteMatch_11 hl (by decide) rfl (fun ls hl => ?_)
  refine lv_aload_n zx zb dX3_noteMatch_13 rfl (lv_at hl 1 rfl) ?_
  refine j_get hC hI hin_X3_noteMatch_X3 0 rfl rfl 4 (by decide) hfl_X3_noteMatch_26 rfl rfl dX3_noteMatch_14 ?_
  refine lv_iload_n zx zb dX3_noteMatch_17 rfl (lv_at hl 2 rfl) ?_
  refine lv_dup2_11 zx zb dX3_noteMatch_18 rfl rfl ?_
  refine j_iald hC hI 3 rfl (by omega) (by omega) dX3_noteMatch_19 ?_
  refine lv_iconst (v := nI 1) zx zb dX3_noteMatch_20 (by decide) ?_
  refine j_iadd hC dX3_noteMatch_21 ?_
  refine j_iast (w1 := [oC m0 3 [.ref t0, .ref u0, .ref a1, .ref a2, .ref a3, .ref a4, .ref a5], aI G a1 500 g1, aI G a2 500 g2, aI G a3 500 (up g3 p ((g3 p) + 1)), oC u0 5 [.int (nI la), .int (nI lm), .int (nI lw)]]) hC hI 3 rfl (by omega) (by omega) dX3_noteMatch_22 rfl (fun H locs hI => ?_)
  refine lv_iload zx zb dX3_noteMatch_23 (lv_at hl 0 rfl) ?_
  refine lv_aload_n zx zb dX3_noteMatch_25 rfl (lv_at hl 1 rfl) ?_
  refine j_get hC hI hin_X3_noteMatch_X3 0 rfl rfl 2 (by decide) hfl_X3_noteMatch_19 rfl rfl dX3_noteMatch_26 ?_
  refine lv_iload_n zx zb dX3_noteMatch_29 rfl (lv_at hl 2 rfl) ?_
  refine j_iald hC hI 1 rfl (by omega) (by omega) dX3_noteMatch_30 ?_
  refine j_icmp_le (tgt := 49) hC dX3_noteMatch_31 (by decide) (by omega) (by omega) (fun c31 => ?_) (fun c31 => ?_)
  · refine lv_iload zx zb dX3_noteMatch_49 (lv_at hl 0 rfl) ?_
    exact hQ _ _ _ _ _ ⟨g1, g2⟩ dX3_noteMatch_51 (hI.sub [0, 4, 1, 2, 3] rfl rfl) (by (try dsimp only); exact ⟨(by first | rfl | (congr 1; omega) | omega), (by omega), (by rw [if_neg (by omega)]), (fun j hj => ⟨rfl, rfl⟩)⟩)
  · refine lv_aload_n zx zb dX3_noteMatch_34 rfl (lv_at hl 1 rfl) ?_
    refine j_get hC hI hin_X3_noteMatch_X3 0 rfl rfl 2 (by decide) hfl_X3_noteMatch_19 rfl rfl dX3_noteMatch_35 ?_
    refine lv_iload_n zx zb dX3_noteMatch_38 rfl (lv_at hl 2 rfl) ?_
    refine lv_iload zx zb dX3_noteMatch_39 (lv_at hl 0 rfl) ?_
    refine j_iast (w1 := [oC m0 3 [.ref t0, .ref u0, .ref a1, .ref a2, .ref a3, .ref a4, .ref a5], aI G a1 500 (up g1 p (min k lm)), aI G a2 500 g2, aI G a3 500 (up g3 p ((g3 p) + 1)), oC u0 5 [.int (nI la), .int (nI lm), .int (nI lw)]]) hC hI 1 rfl (by omega) (by omega) dX3_noteMatch_41 rfl (fun H locs hI => ?_)
    refine lv_aload_n zx zb dX3_noteMatch_42 rfl (lv_at hl 1 rfl) ?_
    refine j_get hC hI hin_X3_noteMatch_X3 0 rfl rfl 3 (by decide) hfl_X3_noteMatch_23 rfl rfl dX3_noteMatch_43 ?_
    refine lv_iload_n zx zb dX3_noteMatch_46 rfl (lv_at hl 2 rfl) ?_
    refine lv_iload_n zx zb dX3_noteMatch_47 rfl (lv_at hl 3 rfl) ?_
    refine j_iast (w1 := [oC m0 3 [.ref t0, .ref u0, .ref a1, .ref a2, .ref a3, .ref a4, .ref a5], aI G a1 500 (up g1 p (min k lm)), aI G a2 500 (up g2 p d), aI G a3 500 (up g3 p ((g3 p) + 1)), oC u0 5 [.int (nI la), .int (nI lm), .int (nI lw)]]) hC hI 2 rfl (by omega) (by omega) dX3_noteMatch_48 rfl (fun H locs hI => ?_)
    refine lv_iload zx zb dX3_noteMatch_49 (lv_at hl 0 rfl) ?_
    exact hQ _ _ _ _ _ ⟨up g1 p (min k lm), up g2 p d⟩ dX3_noteMatch_51 (hI.sub [0, 4, 1, 2, 3] rfl rfl) (by (try dsimp only); exact ⟨(by first | rfl | (congr 1; omega) | omega), (by rw [up_s]; omega), (by rw [up_s, if_pos (by omega)]), (fun j hj => ⟨up_n hj, up_n hj⟩)⟩)

theorem hin_X3_noteClass_X3 : ∀ w ∈ wsX30, w ∈ wsX3_noteClass := by decide +kernel
theorem hfl_X3_noteClass_9 : Cond.fieldLink RX3 9 "CheapParse$Matches" "text" "LCheapParse$Bytes;" ∈ wsX3_noteClass := by decide +kernel
theorem hin_X3_noteClass_X1 : ∀ w ∈ wsX10, w ∈ wsX3_noteClass := by decide +kernel
theorem hfl_X3_noteClass_15 : Cond.fieldLink RX3 15 "CheapParse$Matches" "rules" "LCheapParse$Rules;" ∈ wsX3_noteClass := by decide +kernel
theorem hfl_X3_noteClass_29 : Cond.fieldLink RX3 29 "CheapParse$Matches" "reach" "[I" ∈ wsX3_noteClass := by decide +kernel
theorem hfl_X3_noteClass_32 : Cond.fieldLink RX3 32 "CheapParse$Matches" "same" "[I" ∈ wsX3_noteClass := by decide +kernel
set_option maxHeartbeats 4000000 in
set_option maxRecDepth 100000 in
theorem c_X3_noteClass (zl : Launch) (G : jG) (m0 : Nat) (t0 : Nat) (u0 : Nat) (a1 : Nat) (a2 : Nat) (a3 : Nat) (a4 : Nat) (a5 : Nat) (t1 : Nat) (n : Nat) (la : Nat) (lm : Nat) (lw : Nat) (p : Nat) (c : Nat) (T : Nat → Nat) (g1 : Nat → Nat) (g2 : Nat → Nat) (g3 : Nat → Nat) (g4 : Nat → Nat) (g5 : Nat → Nat) (hn : n ≤ 500) (hl : 1 ≤ la ∧ la ≤ lm ∧ lm ≤ 255 ∧ lw ≤ 500) (hT : ∀ j, j < n → T j < 256) (hp : p < n) (hc : c < 9) (i1 : g1 p = mx (mt la lm lw T n p) (2 ^ c - 1)) (i2 : g2 p = nrs (mt la lm lw T n p) (2 ^ c - 1)) (i3 : g3 p = ct (mt la lm lw T n p) (2 ^ c - 1)) (i5 : ∀ d, 2 ^ c ≤ d → d ≤ p → d ≤ lw → g5 d = lc T d (p + 1) (n - (p + 1))) : jMet zl yX3_noteClass wsX3_noteClass ({ frames := 2, cells := 0, slots := 0, locals := 44 }) G [oC m0 3 [.ref t0, .ref u0, .ref a1, .ref a2, .ref a3, .ref a4, .ref a5], oC t0 1 [.ref t1, .int (nI n)], aI G t1 500 T, oC u0 5 [.int (nI la), .int (nI lm), .int (nI lw)], aI G a1 500 g1, aI G a2 500 g2, aI G a3 500 g3, aI G a4 4500 g4, aI G a5 501 g5] [.ref m0, .int (nI p), .int (nI c)] (jQv G (fun (u : (Nat → Nat) × (Nat → Nat) × (Nat → Nat) × (Nat → Nat) × (Nat → Nat)) => (u.1 p = mx (mt la lm lw T n p) (2 ^ (c + 1) - 1)) ∧ (u.2.1 p = nrs (mt la lm lw T n p) (2 ^ (c + 1) - 1)) ∧ (u.2.2.1 p = ct (mt la lm lw T n p) (2 ^ (c + 1) - 1)) ∧ (u.2.2.2.1 = up g4 (p * 9 + c) (rx (mt la lm lw T n p) (2 ^ c) (2 ^ c))) ∧ (∀ j, j ≠ p → u.1 j = g1 j ∧ u.2.1 j = g2 j ∧ u.2.2.1 j = g3 j) ∧ (∀ d, d ≤ p → d ≤ lw → (2 ^ c ≤ d ∧ d < 2 ^ (c + 1) → u.2.2.2.2 d = lc T d p (n - p)) ∧ (¬ (2 ^ c ≤ d ∧ d < 2 ^ (c + 1)) → u.2.2.2.2 d = g5 d))) (fun (u : (Nat → Nat) × (Nat → Nat) × (Nat → Nat) × (Nat → Nat) × (Nat → Nat)) => [oC m0 3 [.ref t0, .ref u0, .ref a1, .ref a2, .ref a3, .ref a4, .ref a5], oC t0 1 [.ref t1, .int (nI n)], aI G t1 500 T, oC u0 5 [.int (nI la), .int (nI lm), .int (nI lw)], aI G a1 500 u.1, aI G a2 500 u.2.1, aI G a3 500 u.2.2.1, aI G a4 4500 u.2.2.2.1, aI G a5 501 u.2.2.2.2])) 0 0 := by
  refine j_enter_v (cc := cX3_noteClass) (nL := 10) (nm := "noteClass") (own := RX3) (lv := [(0, .ref m0), (1, .int (nI p)), (2, .int (nI c))]) (by decide) rfl (Nat.le_of_ble_eq_true rfl) rfl rfl rfl ?_
  intro zA zp ze zs zm zargs zbelow zmeth zc zQ ls hC hQ hI hl
  have zx := hC.1
  have zb := hC.2.1
  have h2c := tp_lt hc
  have h2p := Nat.two_pow_pos c
  have h2s : 2 ^ (c + 1) = 2 * 2 ^ c := by rw [Nat.pow_succ]; omega
  refine lv_aload_n zx zb dX3_noteClass_0 rfl (lv_at hl 0 rfl) ?_
  refine j_get hC hI hin_X3_noteClass_X3 0 rfl rfl 0 (by decide) hfl_X3_noteClass_9 rfl rfl dX3_noteClass_1 ?_
  refine j_getN (host := "CheapParse") hC hI hin_X3_noteClass_X1 1 rfl rfl 0 (by decide) (by decide +kernel) rfl rfl dX3_noteClass_4 ?_
  refine lv_astore_n (lv' := [(3, .ref t1), (0, .ref m0), (1, .int (nI p)), (2, .int (nI c))]) zx zb dX3_noteClass_7 rfl hl (by decide) rfl (fun ls hl => ?_)
  refine lv_aload_n zx zb dX3_noteClass_8 rfl (lv_at hl 0 rfl) ?_
  refine lv_iload_n zx zb dX3_noteClass_9 rfl (lv_at hl 2 rfl) ?_
  refine j_iald hC hI 2 rfl (by omega) (by omega) dX3_noteClass_10 ?_
  have b10 := hT p (by omega)
  refine lv_istore (lv' := [(4, .int (nI (T p))), (3, .ref t1), (0, .ref m0), (1, .int (nI p)), (2, .int (nI c))]) zx zb dX3_noteClass_11 hl (by decide) rfl (fun ls hl => ?_)
  refine lv_aload_n zx zb dX3_noteClass_13 rfl (lv_at hl 2 rfl) ?_
  refine j_get hC hI hin_X3_noteClass_X3 0 rfl rfl 1 (by decide) hfl_X3_noteClass_15 rfl rfl dX3_noteClass_14 ?_
  refine j_callVi (wr := [oC m0 3 [.ref t0, .ref u0, .ref a1, .ref a2, .ref a3, .ref a4, .ref a5], oC t0 1 [.ref t1, .int (nI n)], aI G t1 500 T, aI G a1 500 g1, aI G a2 500 g2, aI G a3 500 g3, aI G a4 4500 g4, aI G a5 501 g5]) hC hI (c_X5_least zl G u0 la lm lw ) (cwV 0 hC.2.2.2.2.1 gX3_noteClass_X5_least rfl rfl rfl (by decide +kernel) ⟨Nat.le_of_ble_eq_true rfl, Nat.le_of_ble_eq_true rfl⟩) [3] [0, 1, 2, 4, 5, 6, 7, 8] rfl rfl rfl rfl rfl rfl (q0 := 0) rfl rfl rfl hl.1 (Nat.le_of_ble_eq_true rfl) dX3_noteClass_17 ⟨Nat.le_of_ble_eq_true rfl, Nat.le_of_ble_eq_true rfl⟩ (fun rv17 u17 H locs hp17 hI => ?_)
  have hI : jI G zA zs [oC m0 3 [.ref t0, .ref u0, .ref a1, .ref a2, .ref a3, .ref a4, .ref a5], oC t0 1 [.ref t1, .int (nI n)], aI G t1 500 T, aI G a1 500 g1, aI G a2 500 g2, aI G a3 500 g3, aI G a4 4500 g4, aI G a5 501 g5, oC u0 5 [.int (nI la), .int (nI lm), .int (nI lw)]] H locs := hI
  subst hp17
  refine lv_istore (lv' := [(5, .int (nI la)), (4, .int (nI (T p))), (3, .ref t1), (0, .ref m0), (1, .int (nI p)), (2, .int (nI c))]) zx zb dX3_noteClass_20 hl (by decide) rfl (fun ls hl => ?_)
  refine lv_aload_n zx zb dX3_noteClass_22 rfl (lv_at hl 3 rfl) ?_
  refine lv_iload_n zx zb dX3_noteClass_23 rfl (lv_at hl 4 rfl) ?_
  refine lv_iload_n zx zb dX3_noteClass_24 rfl (lv_at hl 5 rfl) ?_
  refine j_callVi (wr := [oC t0 1 [.ref t1, .int (nI n)], aI G t1 500 T, aI G a1 500 g1, aI G a2 500 g2, aI G a3 500 g3, aI G a4 4500 g4, aI G a5 501 g5]) hC hI (c_X3_lastOfClass zl G m0 t0 u0 a1 a2 a3 a4 a5 la lm lw p c (by omega) (by omega) (by omega)) (cwV 2 hC.2.2.2.2.1 gX3_noteClass_X3_lastOfClass rfl rfl rfl (by decide +kernel) ⟨Nat.le_of_ble_eq_true rfl, Nat.le_of_ble_eq_true rfl⟩) [0, 8] [1, 2, 3, 4, 5, 6, 7] rfl rfl rfl rfl rfl rfl (q0 := 0) rfl rfl rfl hl.1 (Nat.le_of_ble_eq_true rfl) dX3_noteClass_25 ⟨Nat.le_of_ble_eq_true rfl, Nat.le_of_ble_eq_true rfl⟩ (fun rv25 u25 H locs hp25 hI => ?_)
  obtain ⟨v25_0, rfl⟩ : ∃ z, z = u25 := ⟨_, rfl⟩
  have hI : jI G zA zs [oC t0 1 [.ref t1, .int (nI n)], aI G t1 500 T, aI G a1 500 g1, aI G a2 500 g2, aI G a3 500 g3, aI G a4 4500 g4, aI G a5 501 g5, oC m0 3 [.ref t0, .ref u0, .ref a1, .ref a2, .ref a3, .ref a4, .ref a5], oC u0 5 [.int (nI la), .int (nI lm), .int (nI lw)]] H locs := hI
  obtain ⟨rfl, f25_0⟩ := hp25
  refine lv_istore (lv' := [(6, .int (nI v25_0)), (5, .int (nI la)), (4, .int (nI (T p))), (3, .ref t1), (0, .ref m0), (1, .int (nI p)), (2, .int (nI c))]) zx zb dX3_noteClass_28 hl (by decide) rfl (fun ls hl => ?_)
  refine lv_iconst (v := nI 0) zx zb dX3_noteClass_30 (by decide) ?_
  refine lv_istore (lv' := [(7, .int (nI 0)), (6, .int (nI v25_0)), (5, .int (nI la)), (4, .int (nI (T p))), (3, .ref t1), (0, .ref m0), (1, .int (nI p)), (2, .int (nI c))]) zx zb dX3_noteClass_31 hl (by decide) rfl (fun ls hl => ?_)
  refine lv_iconst (v := nI 1) zx zb dX3_noteClass_33 (by decide) ?_
  refine lv_iload_n zx zb dX3_noteClass_34 rfl (lv_at hl 7 rfl) ?_
  refine j_ishl1 hC (by omega) dX3_noteClass_35 ?_
  refine lv_istore (lv' := [(8, .int (nI (2 ^ c))), (7, .int (nI 0)), (6, .int (nI v25_0)), (5, .int (nI la)), (4, .int (nI (T p))), (3, .ref t1), (0, .ref m0), (1, .int (nI p)), (2, .int (nI c))]) zx zb dX3_noteClass_36 hl (by decide) rfl (fun ls hl => ?_)
  have loop38 : ∀ (zn38 : Nat) (D : Nat) (x : Nat) (e1 : Nat → Nat) (e2 : Nat → Nat) (e3 : Nat → Nat) (e5 : Nat → Nat), (2 ^ c ≤ D ∧ (D ≤ v25_0 + 1 ∨ D = 2 ^ c)) → (e1 p = mx (mt la lm lw T n p) (D - 1)) → (e2 p = nrs (mt la lm lw T n p) (D - 1)) → (e3 p = ct (mt la lm lw T n p) (D - 1)) → (x = rx (mt la lm lw T n p) (2 ^ c) (D - 2 ^ c)) → (∀ j, j ≠ p → e1 j = g1 j ∧ e2 j = g2 j ∧ e3 j = g3 j) → (∀ d, (2 ^ c ≤ d ∧ d < D → e5 d = lc T d p (n - p)) ∧ (¬ (2 ^ c ≤ d ∧ d < D) → e5 d = g5 d)) → (v25_0 + 1 - D) < zn38 → ∀ (H : Heap) (locs : List Loc) (ls : Array Slot), jI G zA zs [oC m0 3 [.ref t0, .ref u0, .ref a1, .ref a2, .ref a3, .ref a4, .ref a5], oC t0 1 [.ref t1, .int (nI n)], aI G t1 500 T, oC u0 5 [.int (nI la), .int (nI lm), .int (nI lw)], aI G a1 500 e1, aI G a2 500 e2, aI G a3 500 e3, aI G a4 4500 g4, aI G a5 501 e5] H locs → lv_has ls 10 [(0, .ref m0), (1, .int (nI p)), (2, .int (nI c)), (3, .ref t1), (4, .int (nI (T p))), (5, .int (nI la)), (6, .int (nI v25_0)), (7, .int (nI x)), (8, .int (nI D))] → W zp zl ze ({ frames := 2, cells := 0, slots := 0, locals := 44 }) zs zm zargs zbelow zmeth zc H locs 0 0 zQ (F0 zm 38 ls []) := by
    intro zn38
    induction zn38 with
    | zero => intros; omega
    | succ zn38 ih38 =>
      intro D x e1 e2 e3 e5 hD k1 k2 k3 kx ko k5 zm38 H locs ls hI hl
      have b1 : mx (mt la lm lw T n p) (D - 1) ≤ lm := mx_le (fun d => mt_le) _
      have b2 : rx (mt la lm lw T n p) (2 ^ c) (D - 2 ^ c) ≤ lm := rx_le (fun d => mt_le) _
      have b3 : ct (mt la lm lw T n p) (D - 1) ≤ D - 1 := ct_le _
      refine lv_iload zx zb dX3_noteClass_38 (lv_at hl 8 rfl) ?_
      refine lv_iload zx zb dX3_noteClass_40 (lv_at hl 6 rfl) ?_
      refine j_icmp_gt (tgt := 109) hC dX3_noteClass_42 (by decide) (by omega) (by omega) (fun c42 => ?_) (fun c42 => ?_)
      · refine lv_aload_n zx zb dX3_noteClass_109 rfl (lv_at hl 0 rfl) ?_
        refine j_get hC hI hin_X3_noteClass_X3 0 rfl rfl 5 (by decide) hfl_X3_noteClass_29 rfl rfl dX3_noteClass_110 ?_
        refine lv_iload_n zx zb dX3_noteClass_113 rfl (lv_at hl 1 rfl) ?_
        refine lv_bipush (v := nI 9) zx zb dX3_noteClass_114 (by decide) ?_
        refine j_imul hC dX3_noteClass_116 ?_
        refine lv_iload_n zx zb dX3_noteClass_117 rfl (lv_at hl 2 rfl) ?_
        refine j_iadd hC dX3_noteClass_118 ?_
        refine lv_iload zx zb dX3_noteClass_119 (lv_at hl 7 rfl) ?_
        refine j_iast (w1 := [oC m0 3 [.ref t0, .ref u0, .ref a1, .ref a2, .ref a3, .ref a4, .ref a5], oC t0 1 [.ref t1, .int (nI n)], aI G t1 500 T, oC u0 5 [.int (nI la), .int (nI lm), .int (nI lw)], aI G a1 500 e1, aI G a2 500 e2, aI G a3 500 e3, aI G a4 4500 (up g4 ((p * 9) + c) x), aI G a5 501 e5]) hC hI 7 rfl (by omega) (by omega) dX3_noteClass_121 rfl (fun H locs hI => ?_)
        have hz : ∀ d, D - 1 < d → d ≤ 2 ^ (c + 1) - 1 → mt la lm lw T n p d = 0 := fun d h1 h2 => mt_far (by omega)
        exact hQ _ _ _ _ ⟨e1, e2, e3, up g4 ((p * 9) + c) x, e5⟩ dX3_noteClass_122 (hI.sub [0, 1, 2, 3, 4, 5, 6, 7, 8] rfl rfl) (by (try dsimp only); exact ⟨(by rw [mx_to (by omega) hz, k1]), (by rw [nrs_to (by omega) hz, k2]), (by rw [ct_to (by omega) hz, k3]), (by rw [rx_to (a := D - 2 ^ c) (by omega) (fun d h1 h2 => hz d (by omega) (by omega)), kx]), ko, (fun d h1 h2 => ⟨fun h => (k5 d).1 (by omega), fun h => (k5 d).2 (by omega)⟩)⟩)
      · have hq : D ≤ p ∧ D ≤ lw := by omega
        have loop69 : ∀ (y : Nat), (y = lc T D p (n - p)) → ∀ (H : Heap) (locs : List Loc) (ls : Array Slot), jI G zA zs [oC m0 3 [.ref t0, .ref u0, .ref a1, .ref a2, .ref a3, .ref a4, .ref a5], oC t0 1 [.ref t1, .int (nI n)], aI G t1 500 T, oC u0 5 [.int (nI la), .int (nI lm), .int (nI lw)], aI G a1 500 e1, aI G a2 500 e2, aI G a3 500 e3, aI G a4 4500 g4, aI G a5 501 e5] H locs → lv_has ls 10 [(0, .ref m0), (1, .int (nI p)), (2, .int (nI c)), (3, .ref t1), (4, .int (nI (T p))), (5, .int (nI la)), (6, .int (nI v25_0)), (7, .int (nI x)), (8, .int (nI D))] → W zp zl ze ({ frames := 2, cells := 0, slots := 0, locals := 44 }) zs zm zargs zbelow zmeth zc H locs 0 0 zQ (F0 zm 69 ls [.int (nI y)]) := by
          intro y hy H locs ls hI hl
          have by1 := lc_le T D (n - p) p
          refine lv_istore (lv' := [(9, .int (nI y)), (0, .ref m0), (1, .int (nI p)), (2, .int (nI c)), (3, .ref t1), (4, .int (nI (T p))), (5, .int (nI la)), (6, .int (nI v25_0)), (7, .int (nI x)), (8, .int (nI D))]) zx zb dX3_noteClass_69 hl (by decide) rfl (fun ls hl => ?_)
          refine lv_aload_n zx zb dX3_noteClass_71 rfl (lv_at hl 1 rfl) ?_
          refine j_get hC hI hin_X3_noteClass_X3 0 rfl rfl 6 (by decide) hfl_X3_noteClass_32 rfl rfl dX3_noteClass_72 ?_
          refine lv_iload zx zb dX3_noteClass_75 (lv_at hl 9 rfl) ?_
          refine lv_iload zx zb dX3_noteClass_77 (lv_at hl 0 rfl) ?_
          refine j_iast (w1 := [oC m0 3 [.ref t0, .ref u0, .ref a1, .ref a2, .ref a3, .ref a4, .ref a5], oC t0 1 [.ref t1, .int (nI n)], aI G t1 500 T, oC u0 5 [.int (nI la), .int (nI lm), .int (nI lw)], aI G a1 500 e1, aI G a2 500 e2, aI G a3 500 e3, aI G a4 4500 g4, aI G a5 501 (up e5 D y)]) hC hI 8 rfl (by omega) (by omega) dX3_noteClass_79 rfl (fun H locs hI => ?_)
          refine lv_iload zx zb dX3_noteClass_80 (lv_at hl 0 rfl) ?_
          refine lv_iload zx zb dX3_noteClass_82 (lv_at hl 6 rfl) ?_
          refine j_icmp_lt (tgt := 103) hC dX3_noteClass_84 (by decide) (by omega) (by omega) (fun c84 => ?_) (fun c84 => ?_)
          · refine lv_iinc (v := nI (D + 1)) (lv' := [(8, .int (nI (D + 1))), (9, .int (nI y)), (0, .ref m0), (1, .int (nI p)), (2, .int (nI c)), (3, .ref t1), (4, .int (nI (T p))), (5, .int (nI la)), (6, .int (nI v25_0)), (7, .int (nI x))]) zx zb dX3_noteClass_103 hl (k := 9) rfl (j_inc _ _ _ (by decide)) (by decide) rfl (fun ls hl => ?_)
            refine lv_goto (tgt := 38) zx zb dX3_noteClass_106 (by decide) ?_
            have z0 : mt la lm lw T n p D = 0 := mt_short (by omega)
            exact ih38 (D + 1) x e1 e2 e3 (up e5 D y) (by omega) (by rw [mx_at (by omega), z0, k1]; omega) (by rw [nrs_at (by omega), z0, if_neg (by omega), k2]) (by rw [ct_at (by omega), z0, if_pos rfl, k3]; rfl) (by rw [rx_at (by omega), z0, kx]; omega) ko (nc_same k5 hy (by omega)) (by omega) _ _ _ hI (lv_sub hl [2, 3, 4, 5, 6, 7, 8, 9, 0] rfl)
          · refine lv_iload zx zb dX3_noteClass_87 (lv_at hl 8 rfl) ?_
            refine lv_aload_n zx zb dX3_noteClass_89 rfl (lv_at hl 1 rfl) ?_
            refine lv_iload_n zx zb dX3_noteClass_90 rfl (lv_at hl 2 rfl) ?_
            refine lv_iload zx zb dX3_noteClass_91 (lv_at hl 9 rfl) ?_
            refine lv_iload zx zb dX3_noteClass_93 (lv_at hl 0 rfl) ?_
            refine j_callVi (wr := [oC t0 1 [.ref t1, .int (nI n)], aI G t1 500 T, aI G a4 4500 g4, aI G a5 501 (up e5 D y)]) hC hI (c_X3_noteMatch zl G m0 t0 u0 a1 a2 a3 a4 a5 la lm lw p D y e1 e2 e3 (by omega) (by omega) (by omega) (by omega) (by omega)) (cwV 3 hC.2.2.2.2.1 gX3_noteClass_X3_noteMatch rfl rfl rfl (by decide +kernel) ⟨Nat.le_of_ble_eq_true rfl, Nat.le_of_ble_eq_true rfl⟩) [0, 3, 4, 5, 6] [1, 2, 7, 8] rfl rfl rfl rfl rfl rfl (q0 := 0) rfl rfl rfl hl.1 (Nat.le_of_ble_eq_true rfl) dX3_noteClass_95 ⟨Nat.le_of_ble_eq_true rfl, Nat.le_of_ble_eq_true rfl⟩ (fun rv95 u95 H locs hp95 hI => ?_)
            obtain ⟨v95_0, v95_1⟩ := u95
            have hI : jI G zA zs [oC t0 1 [.ref t1, .int (nI n)], aI G t1 500 T, aI G a4 4500 g4, aI G a5 501 (up e5 D y), oC m0 3 [.ref t0, .ref u0, .ref a1, .ref a2, .ref a3, .ref a4, .ref a5], oC u0 5 [.int (nI la), .int (nI lm), .int (nI lw)], aI G a1 500 v95_0, aI G a2 500 v95_1, aI G a3 500 (up e3 p (e3 p + 1))] H locs := hI
            dsimp only at hp95
            obtain ⟨rfl, f95_0, f95_1, f95_2⟩ := hp95
            refine j_max hC hl.1 (by decide +kernel) (by decide +kernel) (by decide +kernel) (by decide +kernel) (Nat.le_of_ble_eq_true rfl) (Nat.le_of_ble_eq_true rfl) (Nat.le_of_ble_eq_true rfl) (Nat.le_of_ble_eq_true rfl) (by omega) (by omega) dX3_noteClass_98 ?_
            refine lv_istore (lv' := [(7, .int (nI (max x (min y lm)))), (9, .int (nI y)), (0, .ref m0), (1, .int (nI p)), (2, .int (nI c)), (3, .ref t1), (4, .int (nI (T p))), (5, .int (nI la)), (6, .int (nI v25_0)), (8, .int (nI D))]) zx zb dX3_noteClass_101 hl (by decide) rfl (fun ls hl => ?_)
            refine lv_iinc (v := nI (D + 1)) (lv' := [(8, .int (nI (D + 1))), (7, .int (nI (max x (min y lm)))), (9, .int (nI y)), (0, .ref m0), (1, .int (nI p)), (2, .int (nI c)), (3, .ref t1), (4, .int (nI (T p))), (5, .int (nI la)), (6, .int (nI v25_0))]) zx zb dX3_noteClass_103 hl (k := 9) rfl (j_inc _ _ _ (by decide)) (by decide) rfl (fun ls hl => ?_)
            refine lv_goto (tgt := 38) zx zb dX3_noteClass_106 (by decide) ?_
            have z0 : mt la lm lw T n p D = min (lc T D p (n - p)) lm := mt_in (by omega) (by omega) (by omega)
            exact ih38 (D + 1) (max x (min y lm)) v95_0 v95_1 (up e3 p (e3 p + 1)) (up e5 D y) (by omega) (by rw [mx_at (by omega), z0, f95_0, k1, hy]) (by rw [nrs_at (by omega), z0, f95_1, k2, k1, hy]) (by rw [up_s, ct_at (by omega), if_neg (by omega), k3]) (by rw [rx_at (by omega), z0, kx, hy]) (fun j hj => ⟨(f95_2 j hj).1.trans (ko j hj).1, (f95_2 j hj).2.trans (ko j hj).2.1, (up_n hj).trans (ko j hj).2.2⟩) (nc_same k5 hy (by omega)) (by omega) _ _ _ (hI.sub [4, 0, 1, 5, 6, 7, 8, 2, 3] rfl rfl) (lv_sub hl [3, 4, 5, 6, 7, 8, 9, 1, 0] rfl)
        refine lv_aload_n zx zb dX3_noteClass_45 rfl (lv_at hl 3 rfl) ?_
        refine lv_iload_n zx zb dX3_noteClass_46 rfl (lv_at hl 1 rfl) ?_
        refine lv_iload zx zb dX3_noteClass_47 (lv_at hl 8 rfl) ?_
        refine j_isub hC (by omega) dX3_noteClass_49 ?_
        refine j_iald hC hI 2 rfl (by omega) (by omega) dX3_noteClass_50 ?_
        have b50 := hT (p - D) (by omega)
        refine lv_iload zx zb dX3_noteClass_51 (lv_at hl 4 rfl) ?_
        refine j_icmp_ne (tgt := 68) hC dX3_noteClass_53 (by decide) (by omega) (by omega) (fun c53 => ?_) (fun c53 => ?_)
        · refine lv_iconst (v := nI 0) zx zb dX3_noteClass_68 (by decide) ?_
          exact loop69 0 (lc_ne (by omega) c53).symm  _ _ _ hI (lv_sub hl [0, 1, 2, 3, 4, 5, 6, 7, 8] rfl)
        · have b5 : e5 D ≤ 500 := by rw [(k5 D).2 (by omega), i5 D (by omega) (by omega) (by omega)]; have := lc_le T D (n - (p + 1)) (p + 1); omega
          refine lv_aload_n zx zb dX3_noteClass_56 rfl (lv_at hl 0 rfl) ?_
          refine j_get hC hI hin_X3_noteClass_X3 0 rfl rfl 6 (by decide) hfl_X3_noteClass_32 rfl rfl dX3_noteClass_57 ?_
          refine lv_iload zx zb dX3_noteClass_60 (lv_at hl 8 rfl) ?_
          refine j_iald hC hI 8 rfl (by omega) (by omega) dX3_noteClass_62 ?_
          refine lv_iconst (v := nI 1) zx zb dX3_noteClass_63 (by decide) ?_
          refine j_iadd hC dX3_noteClass_64 ?_
          refine lv_goto (tgt := 69) zx zb dX3_noteClass_65 (by decide) ?_
          exact loop69 ((e5 D) + 1) (by rw [lc_eq (by omega) c53, (k5 D).2 (by omega), i5 D (by omega) (by omega) (by omega)])  _ _ _ hI (lv_sub hl [0, 1, 2, 3, 4, 5, 6, 7, 8] rfl)
  exact loop38 _ (2 ^ c) 0 g1 g2 g3 g5 (by omega) i1 i2 i3 (by rw [Nat.sub_self]; rfl) (fun j hj => ⟨rfl, rfl, rfl⟩) (fun d => ⟨fun h => by omega, fun h => rfl⟩) (Nat.lt_succ_self _) _ _ _ (hI.sub [7, 0, 1, 8, 2, 3, 4, 5, 6] rfl rfl) (lv_sub hl [6, 7, 8, 5, 4, 3, 2, 1, 0] rfl)

theorem hin_X3_nearestOfClass_X3 : ∀ w ∈ wsX30, w ∈ wsX3_nearestOfClass := by decide +kernel
theorem hfl_X3_nearestOfClass_9 : Cond.fieldLink RX3 9 "CheapParse$Matches" "text" "LCheapParse$Bytes;" ∈ wsX3_nearestOfClass := by decide +kernel
set_option maxHeartbeats 4000000 in
set_option maxRecDepth 100000 in
theorem c_X3_nearestOfClass (zl : Launch) (G : jG) (m0 : Nat) (t0 : Nat) (u0 : Nat) (a1 : Nat) (a2 : Nat) (a3 : Nat) (a4 : Nat) (a5 : Nat) (t1 : Nat) (n : Nat) (la : Nat) (lm : Nat) (lw : Nat) (p : Nat) (k : Nat) (c : Nat) (T : Nat → Nat) (hn : n ≤ 500) (hl : 1 ≤ la ∧ la ≤ lm ∧ lm ≤ 255 ∧ lw ≤ 500) (hT : ∀ j, j < n → T j < 256) (hp : p < n) (hk : p + k ≤ n) (hc : c < 9) : jMet zl yX3_nearestOfClass wsX3_nearestOfClass ({ frames := 2, cells := 0, slots := 0, locals := 43 }) G [oC m0 3 [.ref t0, .ref u0, .ref a1, .ref a2, .ref a3, .ref a4, .ref a5], oC t0 1 [.ref t1, .int (nI n)], aI G t1 500 T, oC u0 5 [.int (nI la), .int (nI lm), .int (nI lw)]] [.ref m0, .int (nI p), .int (nI k), .int (nI c)] (jQi G (fun (r : Int32) (u : Nat) => (r = nI u) ∧ ((u = 0 ∧ ∀ x, 2 ^ c ≤ x → x ≤ (min (2 * 2 ^ c - 1) (min p lw)) → lc T x p (n - p) < k) ∨ (2 ^ c ≤ u ∧ u ≤ (min (2 * 2 ^ c - 1) (min p lw)) ∧ k ≤ lc T u p (n - p) ∧ ∀ x, 2 ^ c ≤ x → x < u → lc T x p (n - p) < k))) (fun (u : Nat) => [oC m0 3 [.ref t0, .ref u0, .ref a1, .ref a2, .ref a3, .ref a4, .ref a5], oC t0 1 [.ref t1, .int (nI n)], aI G t1 500 T, oC u0 5 [.int (nI la), .int (nI lm), .int (nI lw)]])) 0 0 := by
  refine j_enter_i (cc := cX3_nearestOfClass) (nL := 6) (nm := "nearestOfClass") (own := RX3) (lv := [(0, .ref m0), (1, .int (nI p)), (2, .int (nI k)), (3, .int (nI c))]) (by decide) rfl (Nat.le_of_ble_eq_true rfl) rfl rfl rfl ?_
  intro zA zp ze zs zm zargs zbelow zmeth zc zQ ls hC hQ hI hl
  have zx := hC.1
  have zb := hC.2.1
  have h2c := tp_lt hc
  have h2p := Nat.two_pow_pos c
  refine lv_aload_n zx zb dX3_nearestOfClass_0 rfl (lv_at hl 0 rfl) ?_
  refine lv_iload_n zx zb dX3_nearestOfClass_1 rfl (lv_at hl 1 rfl) ?_
  refine lv_iload_n zx zb dX3_nearestOfClass_2 rfl (lv_at hl 3 rfl) ?_
  refine j_callVi (wr := [oC t0 1 [.ref t1, .int (nI n)], aI G t1 500 T]) hC hI (c_X3_lastOfClass zl G m0 t0 u0 a1 a2 a3 a4 a5 la lm lw p c (by omega) (by omega) (by omega)) (cwV 2 hC.2.2.2.2.1 gX3_nearestOfClass_X3_lastOfClass rfl rfl rfl (by decide +kernel) ⟨Nat.le_of_ble_eq_true rfl, Nat.le_of_ble_eq_true rfl⟩) [0, 3] [1, 2] rfl rfl rfl rfl rfl rfl (q0 := 0) rfl rfl rfl hl.1 (Nat.le_of_ble_eq_true rfl) dX3_nearestOfClass_3 ⟨Nat.le_of_ble_eq_true rfl, Nat.le_of_ble_eq_true rfl⟩ (fun rv3 u3 H locs hp3 hI => ?_)
  obtain ⟨v3_0, rfl⟩ : ∃ z, z = u3 := ⟨_, rfl⟩
  have hI : jI G zA zs [oC t0 1 [.ref t1, .int (nI n)], aI G t1 500 T, oC m0 3 [.ref t0, .ref u0, .ref a1, .ref a2, .ref a3, .ref a4, .ref a5], oC u0 5 [.int (nI la), .int (nI lm), .int (nI lw)]] H locs := hI
  obtain ⟨rfl, f3_0⟩ := hp3
  refine lv_istore (lv' := [(4, .int (nI v3_0)), (0, .ref m0), (1, .int (nI p)), (2, .int (nI k)), (3, .int (nI c))]) zx zb dX3_nearestOfClass_6 hl (by decide) rfl (fun ls hl => ?_)
  refine lv_iconst (v := nI 1) zx zb dX3_nearestOfClass_8 (by decide) ?_
  refine lv_iload_n zx zb dX3_nearestOfClass_9 rfl (lv_at hl 4 rfl) ?_
  refine j_ishl1 hC (by omega) dX3_nearestOfClass_10 ?_
  refine lv_istore (lv' := [(5, .int (nI (2 ^ c))), (4, .int (nI v3_0)), (0, .ref m0), (1, .int (nI p)), (2, .int (nI k)), (3, .int (nI c))]) zx zb dX3_nearestOfClass_11 hl (by decide) rfl (fun ls hl => ?_)
  have loop13 : ∀ (zn13 : Nat) (D : Nat), (2 ^ c ≤ D ∧ D ≤ 1000) → (∀ x, 2 ^ c ≤ x → x < D → lc T x p (n - p) < k) → (1001 - D) < zn13 → ∀ (H : Heap) (locs : List Loc) (ls : Array Slot), jI G zA zs [oC t0 1 [.ref t1, .int (nI n)], aI G t1 500 T, oC m0 3 [.ref t0, .ref u0, .ref a1, .ref a2, .ref a3, .ref a4, .ref a5], oC u0 5 [.int (nI la), .int (nI lm), .int (nI lw)]] H locs → lv_has ls 6 [(0, .ref m0), (1, .int (nI p)), (2, .int (nI k)), (3, .int (nI c)), (4, .int (nI v3_0)), (5, .int (nI D))] → W zp zl ze ({ frames := 2, cells := 0, slots := 0, locals := 43 }) zs zm zargs zbelow zmeth zc H locs 0 0 zQ (F0 zm 13 ls []) := by
    intro zn13
    induction zn13 with
    | zero => intros; omega
    | succ zn13 ih13 =>
      intro D hD hx zm13 H locs ls hI hl
      refine lv_iload zx zb dX3_nearestOfClass_13 (lv_at hl 5 rfl) ?_
      refine lv_iload zx zb dX3_nearestOfClass_15 (lv_at hl 4 rfl) ?_
      refine j_icmp_gt (tgt := 43) hC dX3_nearestOfClass_17 (by decide) (by omega) (by omega) (fun c17 => ?_) (fun c17 => ?_)
      · refine lv_iconst (v := nI 0) zx zb dX3_nearestOfClass_43 (by decide) ?_
        exact hQ _ _ _ _ _ 0 dX3_nearestOfClass_44 (hI.sub [2, 0, 1, 3] rfl rfl) ⟨(by first | rfl | (congr 1; omega) | omega), (Or.inl ⟨rfl, fun x h1 h2 => hx x h1 (by omega)⟩)⟩
      · refine lv_aload_n zx zb dX3_nearestOfClass_20 rfl (lv_at hl 0 rfl) ?_
        refine j_get hC hI hin_X3_nearestOfClass_X3 2 rfl rfl 0 (by decide) hfl_X3_nearestOfClass_9 rfl rfl dX3_nearestOfClass_21 ?_
        refine lv_iload_n zx zb dX3_nearestOfClass_24 rfl (lv_at hl 1 rfl) ?_
        refine lv_iload zx zb dX3_nearestOfClass_25 (lv_at hl 5 rfl) ?_
        refine lv_iload_n zx zb dX3_nearestOfClass_27 rfl (lv_at hl 2 rfl) ?_
        refine j_callVi (wr := [oC m0 3 [.ref t0, .ref u0, .ref a1, .ref a2, .ref a3, .ref a4, .ref a5], oC u0 5 [.int (nI la), .int (nI lm), .int (nI lw)]]) hC hI (c_X1_repeats zl G t0 t1 500 n p D k T (by omega) (by omega) (by omega) (by omega) (by omega) (by omega)) (cwV 3 hC.2.2.2.2.1 gX3_nearestOfClass_X1_repeats rfl rfl rfl (by decide +kernel) ⟨Nat.le_of_ble_eq_true rfl, Nat.le_of_ble_eq_true rfl⟩) [0, 1] [2, 3] rfl rfl rfl rfl rfl rfl (q0 := 0) rfl rfl rfl hl.1 (Nat.le_of_ble_eq_true rfl) dX3_nearestOfClass_28 ⟨Nat.le_of_ble_eq_true rfl, Nat.le_of_ble_eq_true rfl⟩ (fun rv28 u28 H locs hp28 hI => ?_)
        obtain ⟨v28_0, rfl⟩ : ∃ z, z = u28 := ⟨_, rfl⟩
        have hI : jI G zA zs [oC m0 3 [.ref t0, .ref u0, .ref a1, .ref a2, .ref a3, .ref a4, .ref a5], oC u0 5 [.int (nI la), .int (nI lm), .int (nI lw)], oC t0 1 [.ref t1, .int (nI n)], aI G t1 500 T] H locs := hI
        obtain ⟨rfl, f28_0, f28_1⟩ := hp28
        refine j_if_eq (tgt := 37) hC dX3_nearestOfClass_31 (by decide) (by omega) (fun c31 => ?_) (fun c31 => ?_)
        · refine lv_iinc (v := nI (D + 1)) (lv' := [(5, .int (nI (D + 1))), (0, .ref m0), (1, .int (nI p)), (2, .int (nI k)), (3, .int (nI c)), (4, .int (nI v3_0))]) zx zb dX3_nearestOfClass_37 hl (k := 5) rfl (j_inc _ _ _ (by decide)) (by decide) rfl (fun ls hl => ?_)
          refine lv_goto (tgt := 13) zx zb dX3_nearestOfClass_40 (by decide) ?_
          exact ih13 (D + 1) (by omega) (fun x h1 h2 => by rcases Nat.lt_or_ge x D with q | q; exact hx x h1 q; rw [show x = D by omega]; exact lc_small hk (fun q2 => by have := f28_1.mpr q2; omega)) (by omega) _ _ _ (hI.sub [2, 3, 0, 1] rfl rfl) (lv_sub hl [1, 2, 3, 4, 5, 0] rfl)
        · refine lv_iload zx zb dX3_nearestOfClass_34 (lv_at hl 5 rfl) ?_
          exact hQ _ _ _ _ _ D dX3_nearestOfClass_36 (hI.sub [0, 2, 3, 1] rfl rfl) ⟨(by first | rfl | (congr 1; omega) | omega), (Or.inr ⟨by omega, by omega, lc_large hk (f28_1.mp (by omega)), fun x h1 h2 => hx x h1 h2⟩)⟩
  exact loop13 _ (2 ^ c) (by omega) (fun x h1 h2 => by omega) (Nat.lt_succ_self _) _ _ _ hI (lv_sub hl [2, 3, 4, 5, 1, 0] rfl)

theorem hin_X3_build_X3 : ∀ w ∈ wsX30, w ∈ wsX3_build := by decide +kernel
theorem hfl_X3_build_9 : Cond.fieldLink RX3 9 "CheapParse$Matches" "text" "LCheapParse$Bytes;" ∈ wsX3_build := by decide +kernel
theorem hfl_X3_build_19 : Cond.fieldLink RX3 19 "CheapParse$Matches" "longest" "[I" ∈ wsX3_build := by decide +kernel
theorem hfl_X3_build_23 : Cond.fieldLink RX3 23 "CheapParse$Matches" "nearest" "[I" ∈ wsX3_build := by decide +kernel
theorem hfl_X3_build_26 : Cond.fieldLink RX3 26 "CheapParse$Matches" "distances" "[I" ∈ wsX3_build := by decide +kernel
theorem hfl_X3_build_32 : Cond.fieldLink RX3 32 "CheapParse$Matches" "same" "[I" ∈ wsX3_build := by decide +kernel
set_option maxHeartbeats 4000000 in
set_option maxRecDepth 100000 in
theorem c_X3_build (zl : Launch) (G : jG) (m0 : Nat) (t0 : Nat) (u0 : Nat) (a1 : Nat) (a2 : Nat) (a3 : Nat) (a4 : Nat) (a5 : Nat) (t1 : Nat) (n : Nat) (la : Nat) (lm : Nat) (lw : Nat) (T : Nat → Nat) (g1 : Nat → Nat) (g2 : Nat → Nat) (g3 : Nat → Nat) (g4 : Nat → Nat) (g5 : Nat → Nat) (hn : n ≤ 500) (hl : 1 ≤ la ∧ la ≤ lm ∧ lm ≤ 255 ∧ lw ≤ 500) (hT : ∀ j, j < n → T j < 256) : jMet zl yX3_build wsX3_build ({ frames := 3, cells := 0, slots := 0, locals := 73 }) G [oC m0 3 [.ref t0, .ref u0, .ref a1, .ref a2, .ref a3, .ref a4, .ref a5], oC t0 1 [.ref t1, .int (nI n)], aI G t1 500 T, oC u0 5 [.int (nI la), .int (nI lm), .int (nI lw)], aI G a1 500 g1, aI G a2 500 g2, aI G a3 500 g3, aI G a4 4500 g4, aI G a5 501 g5] [.ref m0] (jQv G (fun (u : (Nat → Nat) × (Nat → Nat) × (Nat → Nat) × (Nat → Nat) × (Nat → Nat)) => (∀ p, p < n → mOK la lm lw T n u.1 u.2.1 u.2.2.1 u.2.2.2.1 p)) (fun (u : (Nat → Nat) × (Nat → Nat) × (Nat → Nat) × (Nat → Nat) × (Nat → Nat)) => [oC m0 3 [.ref t0, .ref u0, .ref a1, .ref a2, .ref a3, .ref a4, .ref a5], oC t0 1 [.ref t1, .int (nI n)], aI G t1 500 T, oC u0 5 [.int (nI la), .int (nI lm), .int (nI lw)], aI G a1 500 u.1, aI G a2 500 u.2.1, aI G a3 500 u.2.2.1, aI G a4 4500 u.2.2.2.1, aI G a5 501 u.2.2.2.2])) 0 0 := by
  refine j_enter_v (cc := cX3_build) (nL := 3) (nm := "build") (own := RX3) (lv := [(0, .ref m0)]) (by decide) rfl (Nat.le_of_ble_eq_true rfl) rfl rfl rfl ?_
  intro zA zp ze zs zm zargs zbelow zmeth zc zQ ls hC hQ hI hl
  have zx := hC.1
  have zb := hC.2.1
  refine lv_iconst (v := nI 0) zx zb dX3_build_0 (by decide) ?_
  refine lv_istore_n (lv' := [(1, .int (nI 0)), (0, .ref m0)]) zx zb dX3_build_1 rfl hl (by decide) rfl (fun ls hl => ?_)
  have loop2 : ∀ (zn2 : Nat) (i : Nat) (s5 : Nat → Nat), (i ≤ 501) → (∀ d, d < i → s5 d = 0) → (501 - i) < zn2 → ∀ (H : Heap) (locs : List Loc) (ls : Array Slot), jI G zA zs [oC m0 3 [.ref t0, .ref u0, .ref a1, .ref a2, .ref a3, .ref a4, .ref a5], oC t0 1 [.ref t1, .int (nI n)], aI G t1 500 T, oC u0 5 [.int (nI la), .int (nI lm), .int (nI lw)], aI G a1 500 g1, aI G a2 500 g2, aI G a3 500 g3, aI G a4 4500 g4, aI G a5 501 s5] H locs → lv_has ls 3 [(0, .ref m0), (1, .int (nI i))] → W zp zl ze ({ frames := 3, cells := 0, slots := 0, locals := 73 }) zs zm zargs zbelow zmeth zc H locs 0 0 zQ (F0 zm 2 ls []) := by
    intro zn2
    induction zn2 with
    | zero => intros; omega
    | succ zn2 ih2 =>
      intro i s5 hi h5 zm2 H locs ls hI hl
      refine lv_iload_n zx zb dX3_build_2 rfl (lv_at hl 1 rfl) ?_
      refine lv_sipush (v := nI 500) zx zb dX3_build_3 (by decide) ?_
      refine j_icmp_gt (tgt := 22) hC dX3_build_6 (by decide) (by omega) (by omega) (fun c6 => ?_) (fun c6 => ?_)
      · refine lv_aload_n zx zb dX3_build_22 rfl (lv_at hl 0 rfl) ?_
        refine j_get hC hI hin_X3_build_X3 0 rfl rfl 0 (by decide) hfl_X3_build_9 rfl rfl dX3_build_23 ?_
        refine j_callVi (wr := [oC m0 3 [.ref t0, .ref u0, .ref a1, .ref a2, .ref a3, .ref a4, .ref a5], aI G t1 500 T, oC u0 5 [.int (nI la), .int (nI lm), .int (nI lw)], aI G a1 500 g1, aI G a2 500 g2, aI G a3 500 g3, aI G a4 4500 g4, aI G a5 501 s5]) hC hI (c_X1_size zl G t0 t1 n ) (cwV 0 hC.2.2.2.2.1 gX3_build_X1_size rfl rfl rfl (by decide +kernel) ⟨Nat.le_of_ble_eq_true rfl, Nat.le_of_ble_eq_true rfl⟩) [1] [0, 2, 3, 4, 5, 6, 7, 8] rfl rfl rfl rfl rfl rfl (q0 := 0) rfl rfl rfl hl.1 (Nat.le_of_ble_eq_true rfl) dX3_build_26 ⟨Nat.le_of_ble_eq_true rfl, Nat.le_of_ble_eq_true rfl⟩ (fun rv26 u26 H locs hp26 hI => ?_)
        have hI : jI G zA zs [oC m0 3 [.ref t0, .ref u0, .ref a1, .ref a2, .ref a3, .ref a4, .ref a5], aI G t1 500 T, oC u0 5 [.int (nI la), .int (nI lm), .int (nI lw)], aI G a1 500 g1, aI G a2 500 g2, aI G a3 500 g3, aI G a4 4500 g4, aI G a5 501 s5, oC t0 1 [.ref t1, .int (nI n)]] H locs := hI
        subst hp26
        refine lv_iconst (v := nI 1) zx zb dX3_build_29 (by decide) ?_
        refine j_isub1 hC dX3_build_30 ?_
        refine lv_istore_n (lv' := [(1, .int (mI n)), (0, .ref m0)]) zx zb dX3_build_31 rfl hl (by decide) rfl (fun ls hl => ?_)
        have loop32 : ∀ (zn32 : Nat) (j : Nat) (e1 : Nat → Nat) (e2 : Nat → Nat) (e3 : Nat → Nat) (e4 : Nat → Nat) (e5 : Nat → Nat), (j ≤ n) → (∀ p, j ≤ p → p < n → mOK la lm lw T n e1 e2 e3 e4 p) → (∀ d, 1 ≤ d → d ≤ j → d ≤ lw → e5 d = lc T d j (n - j)) → j < zn32 → ∀ (H : Heap) (locs : List Loc) (ls : Array Slot), jI G zA zs [oC m0 3 [.ref t0, .ref u0, .ref a1, .ref a2, .ref a3, .ref a4, .ref a5], oC t0 1 [.ref t1, .int (nI n)], aI G t1 500 T, oC u0 5 [.int (nI la), .int (nI lm), .int (nI lw)], aI G a1 500 e1, aI G a2 500 e2, aI G a3 500 e3, aI G a4 4500 e4, aI G a5 501 e5] H locs → lv_has ls 3 [(0, .ref m0), (1, .int (mI j))] → W zp zl ze ({ frames := 3, cells := 0, slots := 0, locals := 73 }) zs zm zargs zbelow zmeth zc H locs 0 0 zQ (F0 zm 32 ls []) := by
          intro zn32
          induction zn32 with
          | zero => intros; omega
          | succ zn32 ih32 =>
            intro j e1 e2 e3 e4 e5 hj hm h5 zm32 H locs ls hI hl
            refine lv_iload_n zx zb dX3_build_32 rfl (lv_at hl 1 rfl) ?_
            refine j_ifM_lt (tgt := 83) hC dX3_build_33 (by decide) (by omega) (fun c33 => ?_) (fun c33 => ?_)
            · subst c33
              exact hQ _ _ _ _ ⟨e1, e2, e3, e4, e5⟩ dX3_build_83 (hI.sub [0, 1, 2, 3, 4, 5, 6, 7, 8] rfl rfl) (by (try dsimp only); exact (fun p h => hm p (by omega) h))
            · obtain ⟨j33, rfl⟩ : ∃ z, j = z + 1 := ⟨j - 1, by omega⟩
              rw [mI_s] at hl
              refine lv_aload_n zx zb dX3_build_36 rfl (lv_at hl 0 rfl) ?_
              refine j_get hC hI hin_X3_build_X3 0 rfl rfl 2 (by decide) hfl_X3_build_19 rfl rfl dX3_build_37 ?_
              refine lv_iload_n zx zb dX3_build_40 rfl (lv_at hl 1 rfl) ?_
              refine lv_iconst (v := nI 0) zx zb dX3_build_41 (by decide) ?_
              refine j_iast (w1 := [oC m0 3 [.ref t0, .ref u0, .ref a1, .ref a2, .ref a3, .ref a4, .ref a5], oC t0 1 [.ref t1, .int (nI n)], aI G t1 500 T, oC u0 5 [.int (nI la), .int (nI lm), .int (nI lw)], aI G a1 500 (up e1 j33 0), aI G a2 500 e2, aI G a3 500 e3, aI G a4 4500 e4, aI G a5 501 e5]) hC hI 4 rfl (by omega) (by omega) dX3_build_42 rfl (fun H locs hI => ?_)
              refine lv_aload_n zx zb dX3_build_43 rfl (lv_at hl 0 rfl) ?_
              refine j_get hC hI hin_X3_build_X3 0 rfl rfl 3 (by decide) hfl_X3_build_23 rfl rfl dX3_build_44 ?_
              refine lv_iload_n zx zb dX3_build_47 rfl (lv_at hl 1 rfl) ?_
              refine lv_iconst (v := nI 0) zx zb dX3_build_48 (by decide) ?_
              refine j_iast (w1 := [oC m0 3 [.ref t0, .ref u0, .ref a1, .ref a2, .ref a3, .ref a4, .ref a5], oC t0 1 [.ref t1, .int (nI n)], aI G t1 500 T, oC u0 5 [.int (nI la), .int (nI lm), .int (nI lw)], aI G a1 500 (up e1 j33 0), aI G a2 500 (up e2 j33 0), aI G a3 500 e3, aI G a4 4500 e4, aI G a5 501 e5]) hC hI 5 rfl (by omega) (by omega) dX3_build_49 rfl (fun H locs hI => ?_)
              refine lv_aload_n zx zb dX3_build_50 rfl (lv_at hl 0 rfl) ?_
              refine j_get hC hI hin_X3_build_X3 0 rfl rfl 4 (by decide) hfl_X3_build_26 rfl rfl dX3_build_51 ?_
              refine lv_iload_n zx zb dX3_build_54 rfl (lv_at hl 1 rfl) ?_
              refine lv_iconst (v := nI 0) zx zb dX3_build_55 (by decide) ?_
              refine j_iast (w1 := [oC m0 3 [.ref t0, .ref u0, .ref a1, .ref a2, .ref a3, .ref a4, .ref a5], oC t0 1 [.ref t1, .int (nI n)], aI G t1 500 T, oC u0 5 [.int (nI la), .int (nI lm), .int (nI lw)], aI G a1 500 (up e1 j33 0), aI G a2 500 (up e2 j33 0), aI G a3 500 (up e3 j33 0), aI G a4 4500 e4, aI G a5 501 e5]) hC hI 6 rfl (by omega) (by omega) dX3_build_56 rfl (fun H locs hI => ?_)
              refine lv_iconst (v := nI 0) zx zb dX3_build_57 (by decide) ?_
              refine lv_istore_n (lv' := [(2, .int (nI 0)), (0, .ref m0), (1, .int (nI j33))]) zx zb dX3_build_58 rfl hl (by decide) rfl (fun ls hl => ?_)
              have loop59 : ∀ (zn59 : Nat) (c : Nat) (y1 : Nat → Nat) (y2 : Nat → Nat) (y3 : Nat → Nat) (y4 : Nat → Nat) (y5 : Nat → Nat), (c ≤ 9) → (∀ p, j33 + 1 ≤ p → p < n → mOK la lm lw T n y1 y2 y3 y4 p) → (y1 j33 = mx (mt la lm lw T n j33) (2 ^ c - 1)) → (y2 j33 = nrs (mt la lm lw T n j33) (2 ^ c - 1)) → (y3 j33 = ct (mt la lm lw T n j33) (2 ^ c - 1)) → (∀ c2, c2 < c → y4 (j33 * 9 + c2) = rx (mt la lm lw T n j33) (2 ^ c2) (2 ^ c2)) → (∀ d, 1 ≤ d → d ≤ j33 → d ≤ lw → (d < 2 ^ c → y5 d = lc T d j33 (n - j33)) ∧ (2 ^ c ≤ d → y5 d = lc T d (j33 + 1) (n - (j33 + 1)))) → (9 - c) < zn59 → ∀ (H : Heap) (locs : List Loc) (ls : Array Slot), jI G zA zs [oC m0 3 [.ref t0, .ref u0, .ref a1, .ref a2, .ref a3, .ref a4, .ref a5], oC t0 1 [.ref t1, .int (nI n)], aI G t1 500 T, oC u0 5 [.int (nI la), .int (nI lm), .int (nI lw)], aI G a1 500 y1, aI G a2 500 y2, aI G a3 500 y3, aI G a4 4500 y4, aI G a5 501 y5] H locs → lv_has ls 3 [(0, .ref m0), (1, .int (nI j33)), (2, .int (nI c))] → W zp zl ze ({ frames := 3, cells := 0, slots := 0, locals := 73 }) zs zm zargs zbelow zmeth zc H locs 0 0 zQ (F0 zm 59 ls []) := by
                intro zn59
                induction zn59 with
                | zero => intros; omega
                | succ zn59 ih59 =>
                  intro c y1 y2 y3 y4 y5 hc hm2 k1 k2 k3 k4 k5 zm59 H locs ls hI hl
                  refine lv_iload_n zx zb dX3_build_59 rfl (lv_at hl 2 rfl) ?_
                  refine lv_bipush (v := nI 9) zx zb dX3_build_60 (by decide) ?_
                  refine j_icmp_ge (tgt := 77) hC dX3_build_62 (by decide) (by omega) (by omega) (fun c62 => ?_) (fun c62 => ?_)
                  · rw [show c = 9 by omega] at k1 k2 k3 k4 k5
                    refine lv_iinc (v := mI j33) (lv' := [(1, .int (mI j33)), (0, .ref m0), (2, .int (nI c))]) zx zb dX3_build_77 hl (k := 1) rfl (j_dec _) (by decide) rfl (fun ls hl => ?_)
                    refine lv_goto (tgt := 32) zx zb dX3_build_80 (by decide) ?_
                    exact ih32 j33 y1 y2 y3 y4 y5 (by omega) (bd_next hm2 k1 k2 k3 k4 (by omega)) (fun d h1 h2 h3 => (k5 d h1 (by omega) h3).1 (by omega)) (by omega) _ _ _ hI (lv_sub hl [1, 0] rfl)
                  · refine lv_aload_n zx zb dX3_build_65 rfl (lv_at hl 0 rfl) ?_
                    refine lv_iload_n zx zb dX3_build_66 rfl (lv_at hl 1 rfl) ?_
                    refine lv_iload_n zx zb dX3_build_67 rfl (lv_at hl 2 rfl) ?_
                    refine j_callVv (wr := []) hC hI (c_X3_noteClass zl G m0 t0 u0 a1 a2 a3 a4 a5 t1 n la lm lw j33 c T y1 y2 y3 y4 y5 (by omega) (by omega) (by omega) (by omega) (by omega) k1 k2 k3 (fun d h1 h2 h3 => (k5 d (by have := Nat.two_pow_pos c; omega) h2 h3).2 h1)) (cwV 2 hC.2.2.2.2.1 gX3_build_X3_noteClass rfl rfl rfl (by decide +kernel) ⟨Nat.le_of_ble_eq_true rfl, Nat.le_of_ble_eq_true rfl⟩) [0, 1, 2, 3, 4, 5, 6, 7, 8] [] rfl rfl rfl rfl rfl rfl (q0 := 0) rfl rfl rfl hl.1 (Nat.le_of_ble_eq_true rfl) dX3_build_68 ⟨Nat.le_of_ble_eq_true rfl, Nat.le_of_ble_eq_true rfl⟩ (fun u68 H locs hp68 hI => ?_)
                    obtain ⟨v68_0, v68_1, v68_2, v68_3, v68_4⟩ := u68
                    have hI : jI G zA zs [oC m0 3 [.ref t0, .ref u0, .ref a1, .ref a2, .ref a3, .ref a4, .ref a5], oC t0 1 [.ref t1, .int (nI n)], aI G t1 500 T, oC u0 5 [.int (nI la), .int (nI lm), .int (nI lw)], aI G a1 500 v68_0, aI G a2 500 v68_1, aI G a3 500 v68_2, aI G a4 4500 v68_3, aI G a5 501 v68_4] H locs := hI
                    dsimp only at hp68
                    obtain ⟨f68_0, f68_1, f68_2, f68_3, f68_4, f68_5⟩ := hp68
                    refine lv_iinc (v := nI (c + 1)) (lv' := [(2, .int (nI (c + 1))), (0, .ref m0), (1, .int (nI j33))]) zx zb dX3_build_71 hl (k := 2) rfl (j_inc _ _ _ (by decide)) (by decide) rfl (fun ls hl => ?_)
                    refine lv_goto (tgt := 59) zx zb dX3_build_74 (by decide) ?_
                    exact ih59 (c + 1) v68_0 v68_1 v68_2 v68_3 v68_4 (by omega) (fun p h1 h2 => bd_keep (hm2 p h1 h2) f68_4 f68_3 (by omega) (by omega)) f68_0 f68_1 f68_2 (bd_k4 k4 f68_3) (bd_k5 k5 f68_5) (by omega) _ _ _ hI (lv_sub hl [1, 2, 0] rfl)
              exact loop59 _ 0 (up e1 j33 0) (up e2 j33 0) (up e3 j33 0) e4 e5 (by omega) (fun p h1 h2 => bd_off (hm p h1 h2) (by omega)) up_s up_s up_s (fun c2 h => by omega) (fun d h1 h2 h3 => ⟨fun h => by omega, fun h => h5 d h1 (by omega) h3⟩) (Nat.lt_succ_self _) _ _ _ hI (lv_sub hl [1, 2, 0] rfl)
        exact loop32 _ n g1 g2 g3 g4 s5 (by omega) (fun p h1 h2 => by omega) (fun d h1 h2 h3 => by rw [Nat.sub_self]; exact h5 d (by omega)) (Nat.lt_succ_self _) _ _ _ (hI.sub [0, 8, 1, 2, 3, 4, 5, 6, 7] rfl rfl) (lv_sub hl [1, 0] rfl)
      · refine lv_aload_n zx zb dX3_build_9 rfl (lv_at hl 0 rfl) ?_
        refine j_get hC hI hin_X3_build_X3 0 rfl rfl 6 (by decide) hfl_X3_build_32 rfl rfl dX3_build_10 ?_
        refine lv_iload_n zx zb dX3_build_13 rfl (lv_at hl 1 rfl) ?_
        refine lv_iconst (v := nI 0) zx zb dX3_build_14 (by decide) ?_
        refine j_iast (w1 := [oC m0 3 [.ref t0, .ref u0, .ref a1, .ref a2, .ref a3, .ref a4, .ref a5], oC t0 1 [.ref t1, .int (nI n)], aI G t1 500 T, oC u0 5 [.int (nI la), .int (nI lm), .int (nI lw)], aI G a1 500 g1, aI G a2 500 g2, aI G a3 500 g3, aI G a4 4500 g4, aI G a5 501 (up s5 i 0)]) hC hI 8 rfl (by omega) (by omega) dX3_build_15 rfl (fun H locs hI => ?_)
        refine lv_iinc (v := nI (i + 1)) (lv' := [(1, .int (nI (i + 1))), (0, .ref m0)]) zx zb dX3_build_16 hl (k := 1) rfl (j_inc _ _ _ (by decide)) (by decide) rfl (fun ls hl => ?_)
        refine lv_goto (tgt := 2) zx zb dX3_build_19 (by decide) ?_
        exact ih2 (i + 1) (up s5 i 0) (by omega) (fun d h => by by_cases e : d = i; subst e; rw [up_s]; rw [up_n e]; exact h5 d (by omega)) (by omega) _ _ _ hI (lv_sub hl [1, 0] rfl)
  exact loop2 _ 0 g5 (by omega) (fun d h => by omega) (Nat.lt_succ_self _) _ _ _ hI (lv_sub hl [1, 0] rfl)

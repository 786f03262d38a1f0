theorem hin_X7_ofByte_X7 : ∀ w ∈ wsX70, w ∈ wsX7_ofByte := by decide +kernel
theorem hfl_X7_ofByte_15 : Cond.fieldLink RX7 15 "CheapParse$Tariff" "bytes" "[I" ∈ wsX7_ofByte := by decide +kernel
set_option maxHeartbeats 4000000 in
set_option maxRecDepth 100000 in
theorem c_X7_ofByte (zl : Launch) (G : jG) (h0 : Nat) (h1 : Nat) (h2 : Nat) (h3 : Nat) (h4 : Nat) (v : Nat) (pb : Nat → Nat) (hv : v < 256) : jMet zl yX7_ofByte wsX7_ofByte ({ frames := 0, cells := 0, slots := 0, locals := 0 }) G [oC h0 7 [.ref h1, .ref h2, .ref h3, .ref h4], aI G h1 8 pb] [.ref h0, .int (nI v)] (jQi G (fun (r : Int32) (u : Unit) => (r = nI (pb (v / 32)))) (fun (u : Unit) => [oC h0 7 [.ref h1, .ref h2, .ref h3, .ref h4], aI G h1 8 pb])) 0 0 := by
  refine j_enter_i (cc := cX7_ofByte) (nL := 2) (nm := "ofByte") (own := RX7) (lv := [(0, .ref h0), (1, .int (nI v))]) (by decide) rfl (Nat.le_of_ble_eq_true rfl) rfl rfl rfl ?_
  intro zA zp ze zs zm zargs zbelow zmeth zc zQ ls hC hQ hI hl
  have zx := hC.1
  have zb := hC.2.1
  refine lv_aload_n zx zb dX7_ofByte_0 rfl (lv_at hl 0 rfl) ?_
  refine j_get hC hI hin_X7_ofByte_X7 0 rfl rfl 0 (by decide) hfl_X7_ofByte_15 rfl rfl dX7_ofByte_1 ?_
  refine lv_iload_n zx zb dX7_ofByte_4 rfl (lv_at hl 1 rfl) ?_
  refine lv_sipush (v := nI 255) zx zb dX7_ofByte_5 (by decide) ?_
  refine j_and255N hC hv dX7_ofByte_8 ?_
  refine lv_bipush (v := nI 32) zx zb dX7_ofByte_9 (by decide) ?_
  refine j_idiv hC (by omega) (by omega) (by omega) dX7_ofByte_11 ?_
  refine j_iald hC hI 1 rfl (by omega) (by omega) dX7_ofByte_12 ?_
  exact hQ _ _ _ _ _ () dX7_ofByte_13 (hI.sub [0, 1] rfl rfl) (by first | rfl | (congr 1; omega) | omega)

theorem hin_X7_ofDistanceClass_X7 : ∀ w ∈ wsX70, w ∈ wsX7_ofDistanceClass := by decide +kernel
theorem hfl_X7_ofDistanceClass_25 : Cond.fieldLink RX7 25 "CheapParse$Tariff" "distances" "[I" ∈ wsX7_ofDistanceClass := by decide +kernel
set_option maxHeartbeats 4000000 in
set_option maxRecDepth 100000 in
theorem c_X7_ofDistanceClass (zl : Launch) (G : jG) (h0 : Nat) (h1 : Nat) (h2 : Nat) (h3 : Nat) (h4 : Nat) (c : Nat) (pd : Nat → Nat) (hc : c ≤ 8) : jMet zl yX7_ofDistanceClass wsX7_ofDistanceClass ({ frames := 1, cells := 0, slots := 0, locals := 14 }) G [oC h0 7 [.ref h1, .ref h2, .ref h3, .ref h4], aI G h4 9 pd] [.ref h0, .int (nI c)] (jQi G (fun (r : Int32) (u : Unit) => (r = nI (pd c))) (fun (u : Unit) => [oC h0 7 [.ref h1, .ref h2, .ref h3, .ref h4], aI G h4 9 pd])) 0 0 := by
  refine j_enter_i (cc := cX7_ofDistanceClass) (nL := 2) (nm := "ofDistanceClass") (own := RX7) (lv := [(0, .ref h0), (1, .int (nI c))]) (by decide) rfl (Nat.le_of_ble_eq_true rfl) rfl rfl rfl ?_
  intro zA zp ze zs zm zargs zbelow zmeth zc zQ ls hC hQ hI hl
  have zx := hC.1
  have zb := hC.2.1
  refine lv_aload_n zx zb dX7_ofDistanceClass_0 rfl (lv_at hl 0 rfl) ?_
  refine j_get hC hI hin_X7_ofDistanceClass_X7 0 rfl rfl 3 (by decide) hfl_X7_ofDistanceClass_25 rfl rfl dX7_ofDistanceClass_1 ?_
  refine lv_iload_n zx zb dX7_ofDistanceClass_4 rfl (lv_at hl 1 rfl) ?_
  refine lv_bipush (v := nI 8) zx zb dX7_ofDistanceClass_5 (by decide) ?_
  refine j_min hC hl.1 (by decide +kernel) (by decide +kernel) (by decide +kernel) (by decide +kernel) (Nat.le_of_ble_eq_true rfl) (Nat.le_of_ble_eq_true rfl) (Nat.le_of_ble_eq_true rfl) (Nat.le_of_ble_eq_true rfl) (by omega) (by omega) dX7_ofDistanceClass_7 ?_
  rw [Nat.min_eq_left hc]
  refine j_iald hC hI 1 rfl (by omega) (by omega) dX7_ofDistanceClass_10 ?_
  exact hQ _ _ _ _ _ () dX7_ofDistanceClass_11 (hI.sub [0, 1] rfl rfl) (by first | rfl | (congr 1; omega) | omega)

theorem hin_X7_ofLength_X7 : ∀ w ∈ wsX70, w ∈ wsX7_ofLength := by decide +kernel
theorem hfl_X7_ofLength_19 : Cond.fieldLink RX7 19 "CheapParse$Tariff" "allMatches" "[I" ∈ wsX7_ofLength := by decide +kernel
theorem hfl_X7_ofLength_22 : Cond.fieldLink RX7 22 "CheapParse$Tariff" "lengths" "[I" ∈ wsX7_ofLength := by decide +kernel
set_option maxHeartbeats 4000000 in
set_option maxRecDepth 100000 in
theorem c_X7_ofLength (zl : Launch) (G : jG) (h0 : Nat) (h1 : Nat) (h2 : Nat) (h3 : Nat) (h4 : Nat) (n : Nat) (pa : Nat → Nat) (pl : Nat → Nat) (hn : n < 256) : jMet zl yX7_ofLength wsX7_ofLength ({ frames := 1, cells := 0, slots := 0, locals := 22 }) G [oC h0 7 [.ref h1, .ref h2, .ref h3, .ref h4], aI G h2 1 pa, aI G h3 8 pl] [.ref h0, .int (nI n)] (jQi G (fun (r : Int32) (u : Unit) => (r = nI (pa 0 + pl n.log2))) (fun (u : Unit) => [oC h0 7 [.ref h1, .ref h2, .ref h3, .ref h4], aI G h2 1 pa, aI G h3 8 pl])) 0 0 := by
  refine j_enter_i (cc := cX7_ofLength) (nL := 2) (nm := "ofLength") (own := RX7) (lv := [(0, .ref h0), (1, .int (nI n))]) (by decide) rfl (Nat.le_of_ble_eq_true rfl) rfl rfl rfl ?_
  intro zA zp ze zs zm zargs zbelow zmeth zc zQ ls hC hQ hI hl
  have zx := hC.1
  have zb := hC.2.1
  have hlg : n.log2 ≤ 7 := lg_le (k := 7) hn
  refine lv_aload_n zx zb dX7_ofLength_0 rfl (lv_at hl 0 rfl) ?_
  refine j_get hC hI hin_X7_ofLength_X7 0 rfl rfl 1 (by decide) hfl_X7_ofLength_19 rfl rfl dX7_ofLength_1 ?_
  refine lv_iconst (v := nI 0) zx zb dX7_ofLength_4 (by decide) ?_
  refine j_iald hC hI 1 rfl (by omega) (by omega) dX7_ofLength_5 ?_
  refine lv_aload_n zx zb dX7_ofLength_6 rfl (lv_at hl 0 rfl) ?_
  refine j_get hC hI hin_X7_ofLength_X7 0 rfl rfl 2 (by decide) hfl_X7_ofLength_22 rfl rfl dX7_ofLength_7 ?_
  refine lv_iload_n zx zb dX7_ofLength_10 rfl (lv_at hl 1 rfl) ?_
  refine j_callSNi (wr := [oC h0 7 [.ref h1, .ref h2, .ref h3, .ref h4], aI G h2 1 pa, aI G h3 8 pl]) hC hI (c_X8_classOf zl G n (by omega)) ⟨va_cnB (host := "CheapParse") 1 hC.2.2.2.2.1 ggX7_ofLength_X8_classOf rfl rfl rfl (hI.2.2.2.2.2 _ (by decide +kernel)) (hC.2.2.2.2.1 _ (by decide +kernel)) (by decide +kernel) ⟨Nat.le_of_ble_eq_true rfl, Nat.le_of_ble_eq_true rfl⟩, hC.2.2.2.2.1 _ (by decide +kernel), trivial⟩ [] [0, 1, 2] rfl rfl rfl rfl rfl rfl rfl hl.1 (Nat.le_of_ble_eq_true rfl) dX7_ofLength_11 ⟨Nat.le_of_ble_eq_true rfl, Nat.le_of_ble_eq_true rfl⟩ (fun rv11 u11 H locs hp11 hI => ?_)
  have hI : jI G zA zs [oC h0 7 [.ref h1, .ref h2, .ref h3, .ref h4], aI G h2 1 pa, aI G h3 8 pl] H locs := hI
  subst hp11
  refine lv_bipush (v := nI 7) zx zb dX7_ofLength_14 (by decide) ?_
  refine j_min hC hl.1 (by decide +kernel) (by decide +kernel) (by decide +kernel) (by decide +kernel) (Nat.le_of_ble_eq_true rfl) (Nat.le_of_ble_eq_true rfl) (Nat.le_of_ble_eq_true rfl) (Nat.le_of_ble_eq_true rfl) (by omega) (by omega) dX7_ofLength_16 ?_
  rw [Nat.min_eq_left hlg]
  refine j_iald hC hI 2 rfl (by omega) (by omega) dX7_ofLength_19 ?_
  refine j_iadd hC dX7_ofLength_20 ?_
  exact hQ _ _ _ _ _ () dX7_ofLength_21 (hI.sub [0, 1, 2] rfl rfl) (by first | rfl | (congr 1; omega) | omega)

set_option maxHeartbeats 4000000 in
set_option maxRecDepth 100000 in
theorem c_X7_ofMatch (zl : Launch) (G : jG) (h0 : Nat) (h1 : Nat) (h2 : Nat) (h3 : Nat) (h4 : Nat) (n : Nat) (d : Nat) (pa : Nat → Nat) (pl : Nat → Nat) (pd : Nat → Nat) (hn : n < 256) (hd : d < 512) : jMet zl yX7_ofMatch wsX7_ofMatch ({ frames := 2, cells := 0, slots := 0, locals := 43 }) G [oC h0 7 [.ref h1, .ref h2, .ref h3, .ref h4], aI G h2 1 pa, aI G h3 8 pl, aI G h4 9 pd] [.ref h0, .int (nI n), .int (nI d)] (jQi G (fun (r : Int32) (u : Unit) => (r = nI (pa 0 + pl n.log2 + pd d.log2))) (fun (u : Unit) => [oC h0 7 [.ref h1, .ref h2, .ref h3, .ref h4], aI G h2 1 pa, aI G h3 8 pl, aI G h4 9 pd])) 0 0 := by
  refine j_enter_i (cc := cX7_ofMatch) (nL := 3) (nm := "ofMatch") (own := RX7) (lv := [(0, .ref h0), (1, .int (nI n)), (2, .int (nI d))]) (by decide) rfl (Nat.le_of_ble_eq_true rfl) rfl rfl rfl ?_
  intro zA zp ze zs zm zargs zbelow zmeth zc zQ ls hC hQ hI hl
  have zx := hC.1
  have zb := hC.2.1
  have hlg : d.log2 ≤ 8 := lg_le (k := 8) hd
  refine lv_aload_n zx zb dX7_ofMatch_0 rfl (lv_at hl 0 rfl) ?_
  refine lv_iload_n zx zb dX7_ofMatch_1 rfl (lv_at hl 1 rfl) ?_
  refine j_callVi (wr := [aI G h4 9 pd]) hC hI (c_X7_ofLength zl G h0 h1 h2 h3 h4 n pa pl (by omega)) (cwV 1 hC.2.2.2.2.1 gX7_ofMatch_X7_ofLength rfl rfl rfl (by decide +kernel) ⟨Nat.le_of_ble_eq_true rfl, Nat.le_of_ble_eq_true rfl⟩) [0, 1, 2] [3] rfl rfl rfl rfl rfl rfl (q0 := 0) rfl rfl rfl hl.1 (Nat.le_of_ble_eq_true rfl) dX7_ofMatch_2 ⟨Nat.le_of_ble_eq_true rfl, Nat.le_of_ble_eq_true rfl⟩ (fun rv2 u2 H locs hp2 hI => ?_)
  have hI : jI G zA zs [aI G h4 9 pd, oC h0 7 [.ref h1, .ref h2, .ref h3, .ref h4], aI G h2 1 pa, aI G h3 8 pl] H locs := hI
  subst hp2
  refine lv_aload_n zx zb dX7_ofMatch_5 rfl (lv_at hl 0 rfl) ?_
  refine lv_iload_n zx zb dX7_ofMatch_6 rfl (lv_at hl 2 rfl) ?_
  refine j_callSNi (wr := [aI G h4 9 pd, oC h0 7 [.ref h1, .ref h2, .ref h3, .ref h4], aI G h2 1 pa, aI G h3 8 pl]) hC hI (c_X8_classOf zl G d (by omega)) ⟨va_cnB (host := "CheapParse") 1 hC.2.2.2.2.1 ggX7_ofMatch_X8_classOf rfl rfl rfl (hI.2.2.2.2.2 _ (by decide +kernel)) (hC.2.2.2.2.1 _ (by decide +kernel)) (by decide +kernel) ⟨Nat.le_of_ble_eq_true rfl, Nat.le_of_ble_eq_true rfl⟩, hC.2.2.2.2.1 _ (by decide +kernel), trivial⟩ [] [0, 1, 2, 3] rfl rfl rfl rfl rfl rfl rfl hl.1 (Nat.le_of_ble_eq_true rfl) dX7_ofMatch_7 ⟨Nat.le_of_ble_eq_true rfl, Nat.le_of_ble_eq_true rfl⟩ (fun rv7 u7 H locs hp7 hI => ?_)
  have hI : jI G zA zs [aI G h4 9 pd, oC h0 7 [.ref h1, .ref h2, .ref h3, .ref h4], aI G h2 1 pa, aI G h3 8 pl] H locs := hI
  subst hp7
  refine j_callVi (wr := [aI G h2 1 pa, aI G h3 8 pl]) hC hI (c_X7_ofDistanceClass zl G h0 h1 h2 h3 h4 d.log2 pd (by omega)) (cwV 1 hC.2.2.2.2.1 gX7_ofMatch_X7_ofDistanceClass rfl rfl rfl (by decide +kernel) ⟨Nat.le_of_ble_eq_true rfl, Nat.le_of_ble_eq_true rfl⟩) [1, 0] [2, 3] rfl rfl rfl rfl rfl rfl (q0 := 0) rfl rfl rfl hl.1 (Nat.le_of_ble_eq_true rfl) dX7_ofMatch_10 ⟨Nat.le_of_ble_eq_true rfl, Nat.le_of_ble_eq_true rfl⟩ (fun rv10 u10 H locs hp10 hI => ?_)
  have hI : jI G zA zs [aI G h2 1 pa, aI G h3 8 pl, oC h0 7 [.ref h1, .ref h2, .ref h3, .ref h4], aI G h4 9 pd] H locs := hI
  subst hp10
  refine j_iadd hC dX7_ofMatch_13 ?_
  exact hQ _ _ _ _ _ () dX7_ofMatch_14 (hI.sub [2, 0, 1, 3] rfl rfl) (by first | rfl | (congr 1; omega) | omega)

theorem hin_X7_rowOf_X7 : ∀ w ∈ wsX70, w ∈ wsX7_rowOf := by decide +kernel
theorem hfl_X7_rowOf_15 : Cond.fieldLink RX7 15 "CheapParse$Tariff" "bytes" "[I" ∈ wsX7_rowOf := by decide +kernel
set_option maxHeartbeats 4000000 in
set_option maxRecDepth 100000 in
theorem c_X7_rowOf_0 (zl : Launch) (G : jG) (h0 : Nat) (h1 : Nat) (h2 : Nat) (h3 : Nat) (h4 : Nat)  : jMet zl yX7_rowOf wsX7_rowOf ({ frames := 0, cells := 0, slots := 0, locals := 0 }) G [oC h0 7 [.ref h1, .ref h2, .ref h3, .ref h4]] [.ref h0, .int (nI 0)] (jQq G (fun (r : Option Nat) (u : Unit) => (r = some h1)) (fun (u : Unit) => [oC h0 7 [.ref h1, .ref h2, .ref h3, .ref h4]])) 0 0 := by
  refine j_enter_q (cc := cX7_rowOf) (nL := 2) (nm := "rowOf") (own := RX7) (lv := [(0, .ref h0), (1, .int (nI 0))]) (by decide) rfl (Nat.le_of_ble_eq_true rfl) rfl rfl rfl ?_
  intro zA zp ze zs zm zargs zbelow zmeth zc zQ ls hC hQ hI hl
  have zx := hC.1
  have zb := hC.2.1
  refine lv_iload_n zx zb dX7_rowOf_0 rfl (lv_at hl 1 rfl) ?_
  refine j_tabIn (tgt := 32) hC dX7_rowOf_1 0 (by decide) (by decide) rfl (by decide) ?_
  refine lv_aload_n zx zb dX7_rowOf_32 rfl (lv_at hl 0 rfl) ?_
  refine j_get hC hI hin_X7_rowOf_X7 0 rfl rfl 0 (by decide) hfl_X7_rowOf_15 rfl rfl dX7_rowOf_33 ?_
  exact hQ _ _ _ _ (some h1) () dX7_rowOf_36 (hI.sub [0] rfl rfl) (by first | rfl | (congr 1; omega) | omega)

theorem hfl_X7_rowOf_19 : Cond.fieldLink RX7 19 "CheapParse$Tariff" "allMatches" "[I" ∈ wsX7_rowOf := by decide +kernel
set_option maxHeartbeats 4000000 in
set_option maxRecDepth 100000 in
theorem c_X7_rowOf_1 (zl : Launch) (G : jG) (h0 : Nat) (h1 : Nat) (h2 : Nat) (h3 : Nat) (h4 : Nat)  : jMet zl yX7_rowOf wsX7_rowOf ({ frames := 0, cells := 0, slots := 0, locals := 0 }) G [oC h0 7 [.ref h1, .ref h2, .ref h3, .ref h4]] [.ref h0, .int (nI 1)] (jQq G (fun (r : Option Nat) (u : Unit) => (r = some h2)) (fun (u : Unit) => [oC h0 7 [.ref h1, .ref h2, .ref h3, .ref h4]])) 0 0 := by
  refine j_enter_q (cc := cX7_rowOf) (nL := 2) (nm := "rowOf") (own := RX7) (lv := [(0, .ref h0), (1, .int (nI 1))]) (by decide) rfl (Nat.le_of_ble_eq_true rfl) rfl rfl rfl ?_
  intro zA zp ze zs zm zargs zbelow zmeth zc zQ ls hC hQ hI hl
  have zx := hC.1
  have zb := hC.2.1
  refine lv_iload_n zx zb dX7_rowOf_0 rfl (lv_at hl 1 rfl) ?_
  refine j_tabIn (tgt := 37) hC dX7_rowOf_1 1 (by decide) (by decide) rfl (by decide) ?_
  refine lv_aload_n zx zb dX7_rowOf_37 rfl (lv_at hl 0 rfl) ?_
  refine j_get hC hI hin_X7_rowOf_X7 0 rfl rfl 1 (by decide) hfl_X7_rowOf_19 rfl rfl dX7_rowOf_38 ?_
  exact hQ _ _ _ _ (some h2) () dX7_rowOf_41 (hI.sub [0] rfl rfl) (by first | rfl | (congr 1; omega) | omega)

theorem hfl_X7_rowOf_22 : Cond.fieldLink RX7 22 "CheapParse$Tariff" "lengths" "[I" ∈ wsX7_rowOf := by decide +kernel
set_option maxHeartbeats 4000000 in
set_option maxRecDepth 100000 in
theorem c_X7_rowOf_2 (zl : Launch) (G : jG) (h0 : Nat) (h1 : Nat) (h2 : Nat) (h3 : Nat) (h4 : Nat)  : jMet zl yX7_rowOf wsX7_rowOf ({ frames := 0, cells := 0, slots := 0, locals := 0 }) G [oC h0 7 [.ref h1, .ref h2, .ref h3, .ref h4]] [.ref h0, .int (nI 2)] (jQq G (fun (r : Option Nat) (u : Unit) => (r = some h3)) (fun (u : Unit) => [oC h0 7 [.ref h1, .ref h2, .ref h3, .ref h4]])) 0 0 := by
  refine j_enter_q (cc := cX7_rowOf) (nL := 2) (nm := "rowOf") (own := RX7) (lv := [(0, .ref h0), (1, .int (nI 2))]) (by decide) rfl (Nat.le_of_ble_eq_true rfl) rfl rfl rfl ?_
  intro zA zp ze zs zm zargs zbelow zmeth zc zQ ls hC hQ hI hl
  have zx := hC.1
  have zb := hC.2.1
  refine lv_iload_n zx zb dX7_rowOf_0 rfl (lv_at hl 1 rfl) ?_
  refine j_tabIn (tgt := 42) hC dX7_rowOf_1 2 (by decide) (by decide) rfl (by decide) ?_
  refine lv_aload_n zx zb dX7_rowOf_42 rfl (lv_at hl 0 rfl) ?_
  refine j_get hC hI hin_X7_rowOf_X7 0 rfl rfl 2 (by decide) hfl_X7_rowOf_22 rfl rfl dX7_rowOf_43 ?_
  exact hQ _ _ _ _ (some h3) () dX7_rowOf_46 (hI.sub [0] rfl rfl) (by first | rfl | (congr 1; omega) | omega)

theorem hfl_X7_rowOf_25 : Cond.fieldLink RX7 25 "CheapParse$Tariff" "distances" "[I" ∈ wsX7_rowOf := by decide +kernel
set_option maxHeartbeats 4000000 in
set_option maxRecDepth 100000 in
theorem c_X7_rowOf_3 (zl : Launch) (G : jG) (h0 : Nat) (h1 : Nat) (h2 : Nat) (h3 : Nat) (h4 : Nat)  : jMet zl yX7_rowOf wsX7_rowOf ({ frames := 0, cells := 0, slots := 0, locals := 0 }) G [oC h0 7 [.ref h1, .ref h2, .ref h3, .ref h4]] [.ref h0, .int (nI 3)] (jQq G (fun (r : Option Nat) (u : Unit) => (r = some h4)) (fun (u : Unit) => [oC h0 7 [.ref h1, .ref h2, .ref h3, .ref h4]])) 0 0 := by
  refine j_enter_q (cc := cX7_rowOf) (nL := 2) (nm := "rowOf") (own := RX7) (lv := [(0, .ref h0), (1, .int (nI 3))]) (by decide) rfl (Nat.le_of_ble_eq_true rfl) rfl rfl rfl ?_
  intro zA zp ze zs zm zargs zbelow zmeth zc zQ ls hC hQ hI hl
  have zx := hC.1
  have zb := hC.2.1
  refine lv_iload_n zx zb dX7_rowOf_0 rfl (lv_at hl 1 rfl) ?_
  refine j_tabIn (tgt := 47) hC dX7_rowOf_1 3 (by decide) (by decide) rfl (by decide) ?_
  refine lv_aload_n zx zb dX7_rowOf_47 rfl (lv_at hl 0 rfl) ?_
  refine j_get hC hI hin_X7_rowOf_X7 0 rfl rfl 3 (by decide) hfl_X7_rowOf_25 rfl rfl dX7_rowOf_48 ?_
  exact hQ _ _ _ _ (some h4) () dX7_rowOf_51 (hI.sub [0] rfl rfl) (by first | rfl | (congr 1; omega) | omega)

set_option maxHeartbeats 4000000 in
set_option maxRecDepth 100000 in
theorem c_X7_rowOf_n (zl : Launch) (G : jG) (h0 : Nat) (h1 : Nat) (h2 : Nat) (h3 : Nat) (h4 : Nat) (w : Int32) (hsw : w.toInt < 0 ∨ (4 : Nat) - 1 < w.toInt) : jMet zl yX7_rowOf wsX7_rowOf ({ frames := 0, cells := 0, slots := 0, locals := 0 }) G [oC h0 7 [.ref h1, .ref h2, .ref h3, .ref h4]] [.ref h0, .int w] (jQq G (fun (r : Option Nat) (u : Unit) => (r = none)) (fun (u : Unit) => [oC h0 7 [.ref h1, .ref h2, .ref h3, .ref h4]])) 0 0 := by
  refine j_enter_q (cc := cX7_rowOf) (nL := 2) (nm := "rowOf") (own := RX7) (lv := [(0, .ref h0), (1, .int w)]) (by decide) rfl (Nat.le_of_ble_eq_true rfl) rfl rfl rfl ?_
  intro zA zp ze zs zm zargs zbelow zmeth zc zQ ls hC hQ hI hl
  have zx := hC.1
  have zb := hC.2.1
  refine lv_iload_n zx zb dX7_rowOf_0 rfl (lv_at hl 1 rfl) ?_
  refine j_tabOut (n := 4) (tgt := 52) hC dX7_rowOf_1 (by decide) hsw (by decide) ?_
  refine lv_null zx zb dX7_rowOf_52 ?_
  exact hQ _ _ _ _ none () dX7_rowOf_53 (hI.sub [0] rfl rfl) (by first | rfl | (congr 1; omega) | omega)

set_option maxHeartbeats 4000000 in
set_option maxRecDepth 100000 in
theorem c_X7_change (zl : Launch) (G : jG) (h0 : Nat) (h1 : Nat) (h2 : Nat) (h3 : Nat) (h4 : Nat) (pb : Nat → Nat) (pa : Nat → Nat) (pl : Nat → Nat) (pd : Nat → Nat) (w : Int32) (k : Int32) (v : Int32)  : jMet zl yX7_change wsX7_change ({ frames := 1, cells := 0, slots := 0, locals := 21 }) G [oC h0 7 [.ref h1, .ref h2, .ref h3, .ref h4], aI G h1 8 pb, aI G h2 1 pa, aI G h3 8 pl, aI G h4 9 pd] [.ref h0, .int w, .int k, .int v] (jQi G (fun (r : Int32) (u : (Nat → Nat) × (Nat → Nat) × (Nat → Nat) × (Nat → Nat)) => (pr_rel pb pa pl pd w k v r u.1 u.2.1 u.2.2.1 u.2.2.2)) (fun (u : (Nat → Nat) × (Nat → Nat) × (Nat → Nat) × (Nat → Nat)) => [oC h0 7 [.ref h1, .ref h2, .ref h3, .ref h4], aI G h1 8 u.1, aI G h2 1 u.2.1, aI G h3 8 u.2.2.1, aI G h4 9 u.2.2.2])) 0 0 := by
  refine j_enter_z (cc := cX7_change) (nL := 5) (nm := "change") (own := RX7) (lv := [(0, .ref h0), (1, .int w), (2, .int k), (3, .int v)]) (by decide) rfl (Nat.le_of_ble_eq_true rfl) rfl rfl rfl ?_
  intro zA zp ze zs zm zargs zbelow zmeth zc zQ ls hC hQ hI hl
  have zx := hC.1
  have zb := hC.2.1
  refine lv_aload_n zx zb dX7_change_0 rfl (lv_at hl 0 rfl) ?_
  refine lv_iload_n zx zb dX7_change_1 rfl (lv_at hl 1 rfl) ?_
  rcases pr_sw w with rfl | rfl | rfl | rfl | hsw
  · refine j_callVq (wr := [aI G h1 8 pb, aI G h2 1 pa, aI G h3 8 pl, aI G h4 9 pd]) hC hI (c_X7_rowOf_0 zl G h0 h1 h2 h3 h4 ) (cwV 1 hC.2.2.2.2.1 gX7_change_X7_rowOf rfl rfl rfl (by decide +kernel) ⟨Nat.le_of_ble_eq_true rfl, Nat.le_of_ble_eq_true rfl⟩) (ra := fun u => h1) (fun r u h => h) [0] [1, 2, 3, 4] rfl rfl rfl rfl rfl rfl (q0 := 0) rfl rfl rfl hl.1 (Nat.le_of_ble_eq_true rfl) dX7_change_2 ⟨Nat.le_of_ble_eq_true rfl, Nat.le_of_ble_eq_true rfl⟩ (fun u2 H locs hp2 hI => ?_)
    have hI : jI G zA zs [aI G h1 8 pb, aI G h2 1 pa, aI G h3 8 pl, aI G h4 9 pd, oC h0 7 [.ref h1, .ref h2, .ref h3, .ref h4]] H locs := hI
    refine lv_astore (lv' := [(4, .ref h1), (0, .ref h0), (1, .int (nI 0)), (2, .int k), (3, .int v)]) zx zb dX7_change_5 hl (by decide) rfl (fun ls hl => ?_)
    refine lv_aload zx zb dX7_change_7 (lv_at hl 0 rfl) ?_
    refine lv_ifnull zx zb dX7_change_9 ?_
    refine lv_iload_n zx zb dX7_change_12 rfl (lv_at hl 3 rfl) ?_
    refine jz_if_lt (tgt := 35) hC dX7_change_13 (by decide) (fun c13 => ?_) (fun j13 j13a j13e => ?_)
    · refine lv_iconst (v := nI 0) zx zb dX7_change_35 (by decide) ?_
      exact hQ _ _ _ _ _ ⟨pb, pa, pl, pd⟩ dX7_change_36 rfl (hI.sub [4, 0, 1, 2, 3] rfl rfl) (by (try dsimp only); exact (Or.inr ⟨pr_no1 c13, rfl, rfl, rfl, rfl, rfl⟩))
    · subst j13e
      refine lv_iload_n zx zb dX7_change_16 rfl (lv_at hl 3 rfl) ?_
      refine lv_aload zx zb dX7_change_17 (lv_at hl 0 rfl) ?_
      refine j_alen hC hI 0 rfl dX7_change_19 ?_
      refine j_icmp_ge (tgt := 35) hC dX7_change_20 (by decide) (by omega) (by omega) (fun c20 => ?_) (fun c20 => ?_)
      · refine lv_iconst (v := nI 0) zx zb dX7_change_35 (by decide) ?_
        exact hQ _ _ _ _ _ ⟨pb, pa, pl, pd⟩ dX7_change_36 rfl (hI.sub [4, 0, 1, 2, 3] rfl rfl) (by (try dsimp only); exact (Or.inr ⟨pr_no02 (by omega), rfl, rfl, rfl, rfl, rfl⟩))
      · refine lv_iload_n zx zb dX7_change_23 rfl (lv_at hl 4 rfl) ?_
        refine lv_iconst (v := nI 1) zx zb dX7_change_24 (by decide) ?_
        refine jz_icmp_lt (tgt := 35) hC dX7_change_25 (by decide) (by omega) (fun c25 => ?_) (fun j25 j25a j25b j25e => ?_)
        · refine lv_iconst (v := nI 0) zx zb dX7_change_35 (by decide) ?_
          exact hQ _ _ _ _ _ ⟨pb, pa, pl, pd⟩ dX7_change_36 rfl (hI.sub [4, 0, 1, 2, 3] rfl rfl) (by (try dsimp only); exact (Or.inr ⟨pr_no3 c25, rfl, rfl, rfl, rfl, rfl⟩))
        · subst j25e
          refine lv_iload_n zx zb dX7_change_28 rfl (lv_at hl 4 rfl) ?_
          refine lv_sipush (v := nI 1000) zx zb dX7_change_29 (by decide) ?_
          refine j_icmp_le (tgt := 37) hC dX7_change_32 (by decide) (by omega) (by omega) (fun c32 => ?_) (fun c32 => ?_)
          · refine lv_aload zx zb dX7_change_37 (lv_at hl 0 rfl) ?_
            refine lv_iload_n zx zb dX7_change_39 rfl (lv_at hl 3 rfl) ?_
            refine lv_iload_n zx zb dX7_change_40 rfl (lv_at hl 4 rfl) ?_
            refine j_iast (w1 := [aI G h1 8 (up pb j13 j25), aI G h2 1 pa, aI G h3 8 pl, aI G h4 9 pd, oC h0 7 [.ref h1, .ref h2, .ref h3, .ref h4]]) hC hI 0 rfl (by omega) (by omega) dX7_change_41 rfl (fun H locs hI => ?_)
            refine lv_iconst (v := nI 1) zx zb dX7_change_42 (by decide) ?_
            exact hQ _ _ _ _ _ ⟨up pb j13 j25, pa, pl, pd⟩ dX7_change_43 rfl (hI.sub [4, 0, 1, 2, 3] rfl rfl) (by (try dsimp only); exact (Or.inl ⟨j13, j25, by omega, by omega, rfl, rfl, rfl, Or.inl ⟨rfl, by omega, rfl, rfl, rfl, rfl⟩⟩))
          · refine lv_iconst (v := nI 0) zx zb dX7_change_35 (by decide) ?_
            exact hQ _ _ _ _ _ ⟨pb, pa, pl, pd⟩ dX7_change_36 rfl (hI.sub [4, 0, 1, 2, 3] rfl rfl) (by (try dsimp only); exact (Or.inr ⟨pr_no5 (by omega), rfl, rfl, rfl, rfl, rfl⟩))
  · refine j_callVq (wr := [aI G h1 8 pb, aI G h2 1 pa, aI G h3 8 pl, aI G h4 9 pd]) hC hI (c_X7_rowOf_1 zl G h0 h1 h2 h3 h4 ) (cwV 1 hC.2.2.2.2.1 gX7_change_X7_rowOf rfl rfl rfl (by decide +kernel) ⟨Nat.le_of_ble_eq_true rfl, Nat.le_of_ble_eq_true rfl⟩) (ra := fun u => h2) (fun r u h => h) [0] [1, 2, 3, 4] rfl rfl rfl rfl rfl rfl (q0 := 0) rfl rfl rfl hl.1 (Nat.le_of_ble_eq_true rfl) dX7_change_2 ⟨Nat.le_of_ble_eq_true rfl, Nat.le_of_ble_eq_true rfl⟩ (fun u2 H locs hp2 hI => ?_)
    have hI : jI G zA zs [aI G h1 8 pb, aI G h2 1 pa, aI G h3 8 pl, aI G h4 9 pd, oC h0 7 [.ref h1, .ref h2, .ref h3, .ref h4]] H locs := hI
    refine lv_astore (lv' := [(4, .ref h2), (0, .ref h0), (1, .int (nI 1)), (2, .int k), (3, .int v)]) zx zb dX7_change_5 hl (by decide) rfl (fun ls hl => ?_)
    refine lv_aload zx zb dX7_change_7 (lv_at hl 0 rfl) ?_
    refine lv_ifnull zx zb dX7_change_9 ?_
    refine lv_iload_n zx zb dX7_change_12 rfl (lv_at hl 3 rfl) ?_
    refine jz_if_lt (tgt := 35) hC dX7_change_13 (by decide) (fun c13 => ?_) (fun j13 j13a j13e => ?_)
    · refine lv_iconst (v := nI 0) zx zb dX7_change_35 (by decide) ?_
      exact hQ _ _ _ _ _ ⟨pb, pa, pl, pd⟩ dX7_change_36 rfl (hI.sub [4, 0, 1, 2, 3] rfl rfl) (by (try dsimp only); exact (Or.inr ⟨pr_no1 c13, rfl, rfl, rfl, rfl, rfl⟩))
    · subst j13e
      refine lv_iload_n zx zb dX7_change_16 rfl (lv_at hl 3 rfl) ?_
      refine lv_aload zx zb dX7_change_17 (lv_at hl 0 rfl) ?_
      refine j_alen hC hI 1 rfl dX7_change_19 ?_
      refine j_icmp_ge (tgt := 35) hC dX7_change_20 (by decide) (by omega) (by omega) (fun c20 => ?_) (fun c20 => ?_)
      · refine lv_iconst (v := nI 0) zx zb dX7_change_35 (by decide) ?_
        exact hQ _ _ _ _ _ ⟨pb, pa, pl, pd⟩ dX7_change_36 rfl (hI.sub [4, 0, 1, 2, 3] rfl rfl) (by (try dsimp only); exact (Or.inr ⟨pr_no12 (by omega), rfl, rfl, rfl, rfl, rfl⟩))
      · refine lv_iload_n zx zb dX7_change_23 rfl (lv_at hl 4 rfl) ?_
        refine lv_iconst (v := nI 1) zx zb dX7_change_24 (by decide) ?_
        refine jz_icmp_lt (tgt := 35) hC dX7_change_25 (by decide) (by omega) (fun c25 => ?_) (fun j25 j25a j25b j25e => ?_)
        · refine lv_iconst (v := nI 0) zx zb dX7_change_35 (by decide) ?_
          exact hQ _ _ _ _ _ ⟨pb, pa, pl, pd⟩ dX7_change_36 rfl (hI.sub [4, 0, 1, 2, 3] rfl rfl) (by (try dsimp only); exact (Or.inr ⟨pr_no3 c25, rfl, rfl, rfl, rfl, rfl⟩))
        · subst j25e
          refine lv_iload_n zx zb dX7_change_28 rfl (lv_at hl 4 rfl) ?_
          refine lv_sipush (v := nI 1000) zx zb dX7_change_29 (by decide) ?_
          refine j_icmp_le (tgt := 37) hC dX7_change_32 (by decide) (by omega) (by omega) (fun c32 => ?_) (fun c32 => ?_)
          · refine lv_aload zx zb dX7_change_37 (lv_at hl 0 rfl) ?_
            refine lv_iload_n zx zb dX7_change_39 rfl (lv_at hl 3 rfl) ?_
            refine lv_iload_n zx zb dX7_change_40 rfl (lv_at hl 4 rfl) ?_
            refine j_iast (w1 := [aI G h1 8 pb, aI G h2 1 (up pa j13 j25), aI G h3 8 pl, aI G h4 9 pd, oC h0 7 [.ref h1, .ref h2, .ref h3, .ref h4]]) hC hI 1 rfl (by omega) (by omega) dX7_change_41 rfl (fun H locs hI => ?_)
            refine lv_iconst (v := nI 1) zx zb dX7_change_42 (by decide) ?_
            exact hQ _ _ _ _ _ ⟨pb, up pa j13 j25, pl, pd⟩ dX7_change_43 rfl (hI.sub [4, 0, 1, 2, 3] rfl rfl) (by (try dsimp only); exact (Or.inl ⟨j13, j25, by omega, by omega, rfl, rfl, rfl, Or.inr (Or.inl ⟨rfl, by omega, rfl, rfl, rfl, rfl⟩)⟩))
          · refine lv_iconst (v := nI 0) zx zb dX7_change_35 (by decide) ?_
            exact hQ _ _ _ _ _ ⟨pb, pa, pl, pd⟩ dX7_change_36 rfl (hI.sub [4, 0, 1, 2, 3] rfl rfl) (by (try dsimp only); exact (Or.inr ⟨pr_no5 (by omega), rfl, rfl, rfl, rfl, rfl⟩))
  · refine j_callVq (wr := [aI G h1 8 pb, aI G h2 1 pa, aI G h3 8 pl, aI G h4 9 pd]) hC hI (c_X7_rowOf_2 zl G h0 h1 h2 h3 h4 ) (cwV 1 hC.2.2.2.2.1 gX7_change_X7_rowOf rfl rfl rfl (by decide +kernel) ⟨Nat.le_of_ble_eq_true rfl, Nat.le_of_ble_eq_true rfl⟩) (ra := fun u => h3) (fun r u h => h) [0] [1, 2, 3, 4] rfl rfl rfl rfl rfl rfl (q0 := 0) rfl rfl rfl hl.1 (Nat.le_of_ble_eq_true rfl) dX7_change_2 ⟨Nat.le_of_ble_eq_true rfl, Nat.le_of_ble_eq_true rfl⟩ (fun u2 H locs hp2 hI => ?_)
    have hI : jI G zA zs [aI G h1 8 pb, aI G h2 1 pa, aI G h3 8 pl, aI G h4 9 pd, oC h0 7 [.ref h1, .ref h2, .ref h3, .ref h4]] H locs := hI
    refine lv_astore (lv' := [(4, .ref h3), (0, .ref h0), (1, .int (nI 2)), (2, .int k), (3, .int v)]) zx zb dX7_change_5 hl (by decide) rfl (fun ls hl => ?_)
    refine lv_aload zx zb dX7_change_7 (lv_at hl 0 rfl) ?_
    refine lv_ifnull zx zb dX7_change_9 ?_
    refine lv_iload_n zx zb dX7_change_12 rfl (lv_at hl 3 rfl) ?_
    refine jz_if_lt (tgt := 35) hC dX7_change_13 (by decide) (fun c13 => ?_) (fun j13 j13a j13e => ?_)
    · refine lv_iconst (v := nI 0) zx zb dX7_change_35 (by decide) ?_
      exact hQ _ _ _ _ _ ⟨pb, pa, pl, pd⟩ dX7_change_36 rfl (hI.sub [4, 0, 1, 2, 3] rfl rfl) (by (try dsimp only); exact (Or.inr ⟨pr_no1 c13, rfl, rfl, rfl, rfl, rfl⟩))
    · subst j13e
      refine lv_iload_n zx zb dX7_change_16 rfl (lv_at hl 3 rfl) ?_
      refine lv_aload zx zb dX7_change_17 (lv_at hl 0 rfl) ?_
      refine j_alen hC hI 2 rfl dX7_change_19 ?_
      refine j_icmp_ge (tgt := 35) hC dX7_change_20 (by decide) (by omega) (by omega) (fun c20 => ?_) (fun c20 => ?_)
      · refine lv_iconst (v := nI 0) zx zb dX7_change_35 (by decide) ?_
        exact hQ _ _ _ _ _ ⟨pb, pa, pl, pd⟩ dX7_change_36 rfl (hI.sub [4, 0, 1, 2, 3] rfl rfl) (by (try dsimp only); exact (Or.inr ⟨pr_no22 (by omega), rfl, rfl, rfl, rfl, rfl⟩))
      · refine lv_iload_n zx zb dX7_change_23 rfl (lv_at hl 4 rfl) ?_
        refine lv_iconst (v := nI 1) zx zb dX7_change_24 (by decide) ?_
        refine jz_icmp_lt (tgt := 35) hC dX7_change_25 (by decide) (by omega) (fun c25 => ?_) (fun j25 j25a j25b j25e => ?_)
        · refine lv_iconst (v := nI 0) zx zb dX7_change_35 (by decide) ?_
          exact hQ _ _ _ _ _ ⟨pb, pa, pl, pd⟩ dX7_change_36 rfl (hI.sub [4, 0, 1, 2, 3] rfl rfl) (by (try dsimp only); exact (Or.inr ⟨pr_no3 c25, rfl, rfl, rfl, rfl, rfl⟩))
        · subst j25e
          refine lv_iload_n zx zb dX7_change_28 rfl (lv_at hl 4 rfl) ?_
          refine lv_sipush (v := nI 1000) zx zb dX7_change_29 (by decide) ?_
          refine j_icmp_le (tgt := 37) hC dX7_change_32 (by decide) (by omega) (by omega) (fun c32 => ?_) (fun c32 => ?_)
          · refine lv_aload zx zb dX7_change_37 (lv_at hl 0 rfl) ?_
            refine lv_iload_n zx zb dX7_change_39 rfl (lv_at hl 3 rfl) ?_
            refine lv_iload_n zx zb dX7_change_40 rfl (lv_at hl 4 rfl) ?_
            refine j_iast (w1 := [aI G h1 8 pb, aI G h2 1 pa, aI G h3 8 (up pl j13 j25), aI G h4 9 pd, oC h0 7 [.ref h1, .ref h2, .ref h3, .ref h4]]) hC hI 2 rfl (by omega) (by omega) dX7_change_41 rfl (fun H locs hI => ?_)
            refine lv_iconst (v := nI 1) zx zb dX7_change_42 (by decide) ?_
            exact hQ _ _ _ _ _ ⟨pb, pa, up pl j13 j25, pd⟩ dX7_change_43 rfl (hI.sub [4, 0, 1, 2, 3] rfl rfl) (by (try dsimp only); exact (Or.inl ⟨j13, j25, by omega, by omega, rfl, rfl, rfl, Or.inr (Or.inr (Or.inl ⟨rfl, by omega, rfl, rfl, rfl, rfl⟩))⟩))
          · refine lv_iconst (v := nI 0) zx zb dX7_change_35 (by decide) ?_
            exact hQ _ _ _ _ _ ⟨pb, pa, pl, pd⟩ dX7_change_36 rfl (hI.sub [4, 0, 1, 2, 3] rfl rfl) (by (try dsimp only); exact (Or.inr ⟨pr_no5 (by omega), rfl, rfl, rfl, rfl, rfl⟩))
  · refine j_callVq (wr := [aI G h1 8 pb, aI G h2 1 pa, aI G h3 8 pl, aI G h4 9 pd]) hC hI (c_X7_rowOf_3 zl G h0 h1 h2 h3 h4 ) (cwV 1 hC.2.2.2.2.1 gX7_change_X7_rowOf rfl rfl rfl (by decide +kernel) ⟨Nat.le_of_ble_eq_true rfl, Nat.le_of_ble_eq_true rfl⟩) (ra := fun u => h4) (fun r u h => h) [0] [1, 2, 3, 4] rfl rfl rfl rfl rfl rfl (q0 := 0) rfl rfl rfl hl.1 (Nat.le_of_ble_eq_true rfl) dX7_change_2 ⟨Nat.le_of_ble_eq_true rfl, Nat.le_of_ble_eq_true rfl⟩ (fun u2 H locs hp2 hI => ?_)
    have hI : jI G zA zs [aI G h1 8 pb, aI G h2 1 pa, aI G h3 8 pl, aI G h4 9 pd, oC h0 7 [.ref h1, .ref h2, .ref h3, .ref h4]] H locs := hI
    refine lv_astore (lv' := [(4, .ref h4), (0, .ref h0), (1, .int (nI 3)), (2, .int k), (3, .int v)]) zx zb dX7_change_5 hl (by decide) rfl (fun ls hl => ?_)
    refine lv_aload zx zb dX7_change_7 (lv_at hl 0 rfl) ?_
    refine lv_ifnull zx zb dX7_change_9 ?_
    refine lv_iload_n zx zb dX7_change_12 rfl (lv_at hl 3 rfl) ?_
    refine jz_if_lt (tgt := 35) hC dX7_change_13 (by decide) (fun c13 => ?_) (fun j13 j13a j13e => ?_)
    · refine lv_iconst (v := nI 0) zx zb dX7_change_35 (by decide) ?_
      exact hQ _ _ _ _ _ ⟨pb, pa, pl, pd⟩ dX7_change_36 rfl (hI.sub [4, 0, 1, 2, 3] rfl rfl) (by (try dsimp only); exact (Or.inr ⟨pr_no1 c13, rfl, rfl, rfl, rfl, rfl⟩))
    · subst j13e
      refine lv_iload_n zx zb dX7_change_16 rfl (lv_at hl 3 rfl) ?_
      refine lv_aload zx zb dX7_change_17 (lv_at hl 0 rfl) ?_
      refine j_alen hC hI 3 rfl dX7_change_19 ?_
      refine j_icmp_ge (tgt := 35) hC dX7_change_20 (by decide) (by omega) (by omega) (fun c20 => ?_) (fun c20 => ?_)
      · refine lv_iconst (v := nI 0) zx zb dX7_change_35 (by decide) ?_
        exact hQ _ _ _ _ _ ⟨pb, pa, pl, pd⟩ dX7_change_36 rfl (hI.sub [4, 0, 1, 2, 3] rfl rfl) (by (try dsimp only); exact (Or.inr ⟨pr_no32 (by omega), rfl, rfl, rfl, rfl, rfl⟩))
      · refine lv_iload_n zx zb dX7_change_23 rfl (lv_at hl 4 rfl) ?_
        refine lv_iconst (v := nI 1) zx zb dX7_change_24 (by decide) ?_
        refine jz_icmp_lt (tgt := 35) hC dX7_change_25 (by decide) (by omega) (fun c25 => ?_) (fun j25 j25a j25b j25e => ?_)
        · refine lv_iconst (v := nI 0) zx zb dX7_change_35 (by decide) ?_
          exact hQ _ _ _ _ _ ⟨pb, pa, pl, pd⟩ dX7_change_36 rfl (hI.sub [4, 0, 1, 2, 3] rfl rfl) (by (try dsimp only); exact (Or.inr ⟨pr_no3 c25, rfl, rfl, rfl, rfl, rfl⟩))
        · subst j25e
          refine lv_iload_n zx zb dX7_change_28 rfl (lv_at hl 4 rfl) ?_
          refine lv_sipush (v := nI 1000) zx zb dX7_change_29 (by decide) ?_
          refine j_icmp_le (tgt := 37) hC dX7_change_32 (by decide) (by omega) (by omega) (fun c32 => ?_) (fun c32 => ?_)
          · refine lv_aload zx zb dX7_change_37 (lv_at hl 0 rfl) ?_
            refine lv_iload_n zx zb dX7_change_39 rfl (lv_at hl 3 rfl) ?_
            refine lv_iload_n zx zb dX7_change_40 rfl (lv_at hl 4 rfl) ?_
            refine j_iast (w1 := [aI G h1 8 pb, aI G h2 1 pa, aI G h3 8 pl, aI G h4 9 (up pd j13 j25), oC h0 7 [.ref h1, .ref h2, .ref h3, .ref h4]]) hC hI 3 rfl (by omega) (by omega) dX7_change_41 rfl (fun H locs hI => ?_)
            refine lv_iconst (v := nI 1) zx zb dX7_change_42 (by decide) ?_
            exact hQ _ _ _ _ _ ⟨pb, pa, pl, up pd j13 j25⟩ dX7_change_43 rfl (hI.sub [4, 0, 1, 2, 3] rfl rfl) (by (try dsimp only); exact (Or.inl ⟨j13, j25, by omega, by omega, rfl, rfl, rfl, Or.inr (Or.inr (Or.inr ⟨rfl, by omega, rfl, rfl, rfl, rfl⟩))⟩))
          · refine lv_iconst (v := nI 0) zx zb dX7_change_35 (by decide) ?_
            exact hQ _ _ _ _ _ ⟨pb, pa, pl, pd⟩ dX7_change_36 rfl (hI.sub [4, 0, 1, 2, 3] rfl rfl) (by (try dsimp only); exact (Or.inr ⟨pr_no5 (by omega), rfl, rfl, rfl, rfl, rfl⟩))
  · refine j_callVqN (wr := [aI G h1 8 pb, aI G h2 1 pa, aI G h3 8 pl, aI G h4 9 pd]) hC hI (c_X7_rowOf_n zl G h0 h1 h2 h3 h4 w (by omega)) (cwV 1 hC.2.2.2.2.1 gX7_change_X7_rowOf rfl rfl rfl (by decide +kernel) ⟨Nat.le_of_ble_eq_true rfl, Nat.le_of_ble_eq_true rfl⟩) (fun r u h => h) [0] [1, 2, 3, 4] rfl rfl rfl rfl rfl rfl (q0 := 0) rfl rfl rfl hl.1 (Nat.le_of_ble_eq_true rfl) dX7_change_2 ⟨Nat.le_of_ble_eq_true rfl, Nat.le_of_ble_eq_true rfl⟩ (fun u2 H locs hp2 hI => ?_)
    have hI : jI G zA zs [aI G h1 8 pb, aI G h2 1 pa, aI G h3 8 pl, aI G h4 9 pd, oC h0 7 [.ref h1, .ref h2, .ref h3, .ref h4]] H locs := hI
    refine lv_astoreN (lv' := [(4, .null), (0, .ref h0), (1, .int w), (2, .int k), (3, .int v)]) zx zb dX7_change_5 hl (by decide) rfl (fun ls hl => ?_)
    refine lv_aloadN zx zb dX7_change_7 (lv_at hl 0 rfl) ?_
    refine lv_ifnullN (tgt := 35) zx zb dX7_change_9 (by decide) ?_
    refine lv_iconst (v := nI 0) zx zb dX7_change_35 (by decide) ?_
    exact hQ _ _ _ _ _ ⟨pb, pa, pl, pd⟩ dX7_change_36 rfl (hI.sub [4, 0, 1, 2, 3] rfl rfl) (by (try dsimp only); exact (Or.inr ⟨pr_no6 hsw, rfl, rfl, rfl, rfl, rfl⟩))

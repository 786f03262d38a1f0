theorem hin_X6_begin_X6 : ∀ w ∈ wsX60, w ∈ wsX6_begin := by decide +kernel
theorem hfl_X6_begin_14 : Cond.fieldLink RX6 14 "CheapParse$Steps" "text" "LCheapParse$Bytes;" ∈ wsX6_begin := by decide +kernel
theorem hfl_X6_begin_30 : Cond.fieldLink RX6 30 "CheapParse$Steps" "least" "I" ∈ wsX6_begin := by decide +kernel
theorem hfl_X6_begin_34 : Cond.fieldLink RX6 34 "CheapParse$Steps" "count" "I" ∈ wsX6_begin := by decide +kernel
theorem hfl_X6_begin_37 : Cond.fieldLink RX6 37 "CheapParse$Steps" "matchCount" "I" ∈ wsX6_begin := by decide +kernel
theorem hfl_X6_begin_40 : Cond.fieldLink RX6 40 "CheapParse$Steps" "wholePrice" "I" ∈ wsX6_begin := by decide +kernel
theorem hfl_X6_begin_43 : Cond.fieldLink RX6 43 "CheapParse$Steps" "bits" "I" ∈ wsX6_begin := by decide +kernel
theorem hfl_X6_begin_46 : Cond.fieldLink RX6 46 "CheapParse$Steps" "made" "Z" ∈ wsX6_begin := by decide +kernel
set_option maxHeartbeats 4000000 in
set_option maxRecDepth 100000 in
theorem c_X6_begin (zl : Launch) (G : jG) (s0 : Nat) (w0 : Nat) (w1 : Nat) (s1 : Nat) (s2 : Nat) (s3 : Nat) (q : Nat) (k : Nat) (mc : Nat) (wp : Nat) (bt : Nat) (md : Nat) (pn : Nat) (P : Nat → Nat) (t0 : Nat) (t1 : Nat) (n : Nat) (qq : Nat) (T : Nat → Nat) (hn : n ≤ 500) : jMet zl yX6_begin wsX6_begin ({ frames := 2, cells := 0, slots := 0, locals := 51 }) G [oC s0 6 [.ref w0, .ref s1, .ref s2, .ref s3, .int (nI q), .int (nI k), .int (nI mc), .int (nI wp), .int (nI bt), .int (nI md)], oC w0 1 [.ref w1, .int (nI pn)], aI G w1 500 P, oC t0 1 [.ref t1, .int (nI n)], aI G t1 500 T] [.ref s0, .ref t0, .int (nI qq)] (jQv G (fun (u : Unit) => True) (fun (u : Unit) => [oC s0 6 [.ref w0, .ref s1, .ref s2, .ref s3, .int (nI qq), .int (nI 0), .int (nI 0), .int (nI 0), .int (nI 16), .int (nI 1)], oC w0 1 [.ref w1, .int (nI n)], aI G w1 500 (cpy T P n), oC t0 1 [.ref t1, .int (nI n)], aI G t1 500 T])) 0 0 := by
  refine j_enter_v (cc := cX6_begin) (nL := 3) (nm := "begin") (own := RX6) (lv := [(0, .ref s0), (1, .ref t0), (2, .int (nI qq))]) (by decide) rfl (Nat.le_of_ble_eq_true rfl) rfl rfl rfl ?_
  intro zA zp ze zs zm zargs zbelow zmeth zc zQ ls hC hQ hI hl
  have zx := hC.1
  have zb := hC.2.1
  refine lv_aload_n zx zb dX6_begin_0 rfl (lv_at hl 0 rfl) ?_
  refine j_get hC hI hin_X6_begin_X6 0 rfl rfl 0 (by decide) hfl_X6_begin_14 rfl rfl dX6_begin_1 ?_
  refine lv_aload_n zx zb dX6_begin_4 rfl (lv_at hl 1 rfl) ?_
  refine j_callVv (wr := [oC s0 6 [.ref w0, .ref s1, .ref s2, .ref s3, .int (nI q), .int (nI k), .int (nI mc), .int (nI wp), .int (nI bt), .int (nI md)]]) hC hI (c_X1_copyOf zl G w0 w1 t0 t1 500 pn 500 n P T (by omega) (by omega) (by omega)) (cwV 1 hC.2.2.2.2.1 gX6_begin_X1_copyOf rfl rfl rfl (by decide +kernel) ⟨Nat.le_of_ble_eq_true rfl, Nat.le_of_ble_eq_true rfl⟩) [1, 2, 3, 4] [0] rfl rfl rfl rfl rfl rfl (q0 := 0) rfl rfl rfl hl.1 (Nat.le_of_ble_eq_true rfl) dX6_begin_5 ⟨Nat.le_of_ble_eq_true rfl, Nat.le_of_ble_eq_true rfl⟩ (fun u5 H locs hp5 hI => ?_)
  have hI : jI G zA zs [oC s0 6 [.ref w0, .ref s1, .ref s2, .ref s3, .int (nI q), .int (nI k), .int (nI mc), .int (nI wp), .int (nI bt), .int (nI md)], oC w0 1 [.ref w1, .int (nI n)], aI G w1 500 (cpy T P n), oC t0 1 [.ref t1, .int (nI n)], aI G t1 500 T] H locs := hI
  refine lv_aload_n zx zb dX6_begin_8 rfl (lv_at hl 0 rfl) ?_
  refine lv_iload_n zx zb dX6_begin_9 rfl (lv_at hl 2 rfl) ?_
  refine j_put (w1 := [oC s0 6 [.ref w0, .ref s1, .ref s2, .ref s3, .int (nI qq), .int (nI k), .int (nI mc), .int (nI wp), .int (nI bt), .int (nI md)], oC w0 1 [.ref w1, .int (nI n)], aI G w1 500 (cpy T P n), oC t0 1 [.ref t1, .int (nI n)], aI G t1 500 T]) hC hI hin_X6_begin_X6 tyX6 tyX6_ok nmX6 0 rfl rfl 4 (by decide) hfl_X6_begin_30 rfl rfl rfl rfl (Nat.le_of_ble_eq_true rfl) dX6_begin_10 rfl (fun H locs hI => ?_)
  refine lv_aload_n zx zb dX6_begin_13 rfl (lv_at hl 0 rfl) ?_
  refine lv_iconst (v := nI 0) zx zb dX6_begin_14 (by decide) ?_
  refine j_put (w1 := [oC s0 6 [.ref w0, .ref s1, .ref s2, .ref s3, .int (nI qq), .int (nI 0), .int (nI mc), .int (nI wp), .int (nI bt), .int (nI md)], oC w0 1 [.ref w1, .int (nI n)], aI G w1 500 (cpy T P n), oC t0 1 [.ref t1, .int (nI n)], aI G t1 500 T]) hC hI hin_X6_begin_X6 tyX6 tyX6_ok nmX6 0 rfl rfl 5 (by decide) hfl_X6_begin_34 rfl rfl rfl rfl (Nat.le_of_ble_eq_true rfl) dX6_begin_15 rfl (fun H locs hI => ?_)
  refine lv_aload_n zx zb dX6_begin_18 rfl (lv_at hl 0 rfl) ?_
  refine lv_iconst (v := nI 0) zx zb dX6_begin_19 (by decide) ?_
  refine j_put (w1 := [oC s0 6 [.ref w0, .ref s1, .ref s2, .ref s3, .int (nI qq), .int (nI 0), .int (nI 0), .int (nI wp), .int (nI bt), .int (nI md)], oC w0 1 [.ref w1, .int (nI n)], aI G w1 500 (cpy T P n), oC t0 1 [.ref t1, .int (nI n)], aI G t1 500 T]) hC hI hin_X6_begin_X6 tyX6 tyX6_ok nmX6 0 rfl rfl 6 (by decide) hfl_X6_begin_37 rfl rfl rfl rfl (Nat.le_of_ble_eq_true rfl) dX6_begin_20 rfl (fun H locs hI => ?_)
  refine lv_aload_n zx zb dX6_begin_23 rfl (lv_at hl 0 rfl) ?_
  refine lv_iconst (v := nI 0) zx zb dX6_begin_24 (by decide) ?_
  refine j_put (w1 := [oC s0 6 [.ref w0, .ref s1, .ref s2, .ref s3, .int (nI qq), .int (nI 0), .int (nI 0), .int (nI 0), .int (nI bt), .int (nI md)], oC w0 1 [.ref w1, .int (nI n)], aI G w1 500 (cpy T P n), oC t0 1 [.ref t1, .int (nI n)], aI G t1 500 T]) hC hI hin_X6_begin_X6 tyX6 tyX6_ok nmX6 0 rfl rfl 7 (by decide) hfl_X6_begin_40 rfl rfl rfl rfl (Nat.le_of_ble_eq_true rfl) dX6_begin_25 rfl (fun H locs hI => ?_)
  refine lv_aload_n zx zb dX6_begin_28 rfl (lv_at hl 0 rfl) ?_
  refine lv_bipush (v := nI 16) zx zb dX6_begin_29 (by decide) ?_
  refine j_put (w1 := [oC s0 6 [.ref w0, .ref s1, .ref s2, .ref s3, .int (nI qq), .int (nI 0), .int (nI 0), .int (nI 0), .int (nI 16), .int (nI md)], oC w0 1 [.ref w1, .int (nI n)], aI G w1 500 (cpy T P n), oC t0 1 [.ref t1, .int (nI n)], aI G t1 500 T]) hC hI hin_X6_begin_X6 tyX6 tyX6_ok nmX6 0 rfl rfl 8 (by decide) hfl_X6_begin_43 rfl rfl rfl rfl (Nat.le_of_ble_eq_true rfl) dX6_begin_31 rfl (fun H locs hI => ?_)
  refine lv_aload_n zx zb dX6_begin_34 rfl (lv_at hl 0 rfl) ?_
  refine lv_iconst (v := nI 1) zx zb dX6_begin_35 (by decide) ?_
  refine j_put (w1 := [oC s0 6 [.ref w0, .ref s1, .ref s2, .ref s3, .int (nI qq), .int (nI 0), .int (nI 0), .int (nI 0), .int (nI 16), .int (nI 1)], oC w0 1 [.ref w1, .int (nI n)], aI G w1 500 (cpy T P n), oC t0 1 [.ref t1, .int (nI n)], aI G t1 500 T]) hC hI hin_X6_begin_X6 tyX6 tyX6_ok nmX6 0 rfl rfl 9 (by decide) hfl_X6_begin_46 rfl rfl rfl rfl (Nat.le_of_ble_eq_true rfl) dX6_begin_36 rfl (fun H locs hI => ?_)
  exact hQ _ _ _ _ () dX6_begin_39 (hI.sub [0, 1, 2, 3, 4] rfl rfl) trivial

theorem hin_X6_addOne_X6 : ∀ w ∈ wsX60, w ∈ wsX6_addOne := by decide +kernel
theorem hfl_X6_addOne_34 : Cond.fieldLink RX6 34 "CheapParse$Steps" "count" "I" ∈ wsX6_addOne := by decide +kernel
theorem hfl_X6_addOne_20 : Cond.fieldLink RX6 20 "CheapParse$Steps" "places" "[I" ∈ wsX6_addOne := by decide +kernel
theorem hfl_X6_addOne_24 : Cond.fieldLink RX6 24 "CheapParse$Steps" "lengths" "[I" ∈ wsX6_addOne := by decide +kernel
theorem hfl_X6_addOne_27 : Cond.fieldLink RX6 27 "CheapParse$Steps" "distances" "[I" ∈ wsX6_addOne := by decide +kernel
theorem hfl_X6_addOne_40 : Cond.fieldLink RX6 40 "CheapParse$Steps" "wholePrice" "I" ∈ wsX6_addOne := by decide +kernel
set_option maxHeartbeats 4000000 in
set_option maxRecDepth 100000 in
theorem c_X6_addOne (zl : Launch) (G : jG) (s0 : Nat) (w0 : Nat) (s1 : Nat) (s2 : Nat) (s3 : Nat) (q : Nat) (k : Nat) (mc : Nat) (wp : Nat) (bt : Nat) (md : Nat) (pl : Nat → Nat) (ln : Nat → Nat) (ds : Nat → Nat) (a : Nat) (b : Nat) (d : Nat) (v : Nat) (hk : k < 500) : jMet zl yX6_addOne wsX6_addOne ({ frames := 0, cells := 0, slots := 0, locals := 0 }) G [oC s0 6 [.ref w0, .ref s1, .ref s2, .ref s3, .int (nI q), .int (nI k), .int (nI mc), .int (nI wp), .int (nI bt), .int (nI md)], aI G s1 500 pl, aI G s2 500 ln, aI G s3 500 ds] [.ref s0, .int (nI a), .int (nI b), .int (nI d), .int (nI v)] (jQv G (fun (u : Unit) => True) (fun (u : Unit) => [oC s0 6 [.ref w0, .ref s1, .ref s2, .ref s3, .int (nI q), .int (nI (k + 1)), .int (nI mc), .int (nI (wp + v)), .int (nI bt), .int (nI md)], aI G s1 500 (up pl k a), aI G s2 500 (up ln k b), aI G s3 500 (up ds k d)])) 0 0 := by
  refine j_enter_v (cc := cX6_addOne) (nL := 5) (nm := "addOne") (own := RX6) (lv := [(0, .ref s0), (1, .int (nI a)), (2, .int (nI b)), (3, .int (nI d)), (4, .int (nI v))]) (by decide) rfl (Nat.le_of_ble_eq_true rfl) rfl rfl rfl ?_
  intro zA zp ze zs zm zargs zbelow zmeth zc zQ ls hC hQ hI hl
  have zx := hC.1
  have zb := hC.2.1
  refine lv_aload_n zx zb dX6_addOne_0 rfl (lv_at hl 0 rfl) ?_
  refine j_get hC hI hin_X6_addOne_X6 0 rfl rfl 5 (by decide) hfl_X6_addOne_34 rfl rfl dX6_addOne_1 ?_
  refine lv_sipush (v := nI 500) zx zb dX6_addOne_4 (by decide) ?_
  refine j_icmp_ge (tgt := 61) hC dX6_addOne_7 (by decide) (by omega) (by omega) (fun c7 => ?_) (fun c7 => ?_)
  · exact (by omega : False).elim
  · refine lv_aload_n zx zb dX6_addOne_10 rfl (lv_at hl 0 rfl) ?_
    refine j_get hC hI hin_X6_addOne_X6 0 rfl rfl 1 (by decide) hfl_X6_addOne_20 rfl rfl dX6_addOne_11 ?_
    refine lv_aload_n zx zb dX6_addOne_14 rfl (lv_at hl 0 rfl) ?_
    refine j_get hC hI hin_X6_addOne_X6 0 rfl rfl 5 (by decide) hfl_X6_addOne_34 rfl rfl dX6_addOne_15 ?_
    refine lv_iload_n zx zb dX6_addOne_18 rfl (lv_at hl 1 rfl) ?_
    refine j_iast (w1 := [oC s0 6 [.ref w0, .ref s1, .ref s2, .ref s3, .int (nI q), .int (nI k), .int (nI mc), .int (nI wp), .int (nI bt), .int (nI md)], aI G s1 500 (up pl k a), aI G s2 500 ln, aI G s3 500 ds]) hC hI 1 rfl (by omega) (by omega) dX6_addOne_19 rfl (fun H locs hI => ?_)
    refine lv_aload_n zx zb dX6_addOne_20 rfl (lv_at hl 0 rfl) ?_
    refine j_get hC hI hin_X6_addOne_X6 0 rfl rfl 2 (by decide) hfl_X6_addOne_24 rfl rfl dX6_addOne_21 ?_
    refine lv_aload_n zx zb dX6_addOne_24 rfl (lv_at hl 0 rfl) ?_
    refine j_get hC hI hin_X6_addOne_X6 0 rfl rfl 5 (by decide) hfl_X6_addOne_34 rfl rfl dX6_addOne_25 ?_
    refine lv_iload_n zx zb dX6_addOne_28 rfl (lv_at hl 2 rfl) ?_
    refine j_iast (w1 := [oC s0 6 [.ref w0, .ref s1, .ref s2, .ref s3, .int (nI q), .int (nI k), .int (nI mc), .int (nI wp), .int (nI bt), .int (nI md)], aI G s1 500 (up pl k a), aI G s2 500 (up ln k b), aI G s3 500 ds]) hC hI 2 rfl (by omega) (by omega) dX6_addOne_29 rfl (fun H locs hI => ?_)
    refine lv_aload_n zx zb dX6_addOne_30 rfl (lv_at hl 0 rfl) ?_
    refine j_get hC hI hin_X6_addOne_X6 0 rfl rfl 3 (by decide) hfl_X6_addOne_27 rfl rfl dX6_addOne_31 ?_
    refine lv_aload_n zx zb dX6_addOne_34 rfl (lv_at hl 0 rfl) ?_
    refine j_get hC hI hin_X6_addOne_X6 0 rfl rfl 5 (by decide) hfl_X6_addOne_34 rfl rfl dX6_addOne_35 ?_
    refine lv_iload_n zx zb dX6_addOne_38 rfl (lv_at hl 3 rfl) ?_
    refine j_iast (w1 := [oC s0 6 [.ref w0, .ref s1, .ref s2, .ref s3, .int (nI q), .int (nI k), .int (nI mc), .int (nI wp), .int (nI bt), .int (nI md)], aI G s1 500 (up pl k a), aI G s2 500 (up ln k b), aI G s3 500 (up ds k d)]) hC hI 3 rfl (by omega) (by omega) dX6_addOne_39 rfl (fun H locs hI => ?_)
    refine lv_aload_n zx zb dX6_addOne_40 rfl (lv_at hl 0 rfl) ?_
    refine lv_dup zx zb dX6_addOne_41 rfl ?_
    refine j_get hC hI hin_X6_addOne_X6 0 rfl rfl 5 (by decide) hfl_X6_addOne_34 rfl rfl dX6_addOne_42 ?_
    refine lv_iconst (v := nI 1) zx zb dX6_addOne_45 (by decide) ?_
    refine j_iadd hC dX6_addOne_46 ?_
    refine j_put (w1 := [oC s0 6 [.ref w0, .ref s1, .ref s2, .ref s3, .int (nI q), .int (nI (k + 1)), .int (nI mc), .int (nI wp), .int (nI bt), .int (nI md)], aI G s1 500 (up pl k a), aI G s2 500 (up ln k b), aI G s3 500 (up ds k d)]) hC hI hin_X6_addOne_X6 tyX6 tyX6_ok nmX6 0 rfl rfl 5 (by decide) hfl_X6_addOne_34 rfl rfl rfl rfl (Nat.le_of_ble_eq_true rfl) dX6_addOne_47 rfl (fun H locs hI => ?_)
    refine lv_aload_n zx zb dX6_addOne_50 rfl (lv_at hl 0 rfl) ?_
    refine lv_dup zx zb dX6_addOne_51 rfl ?_
    refine j_get hC hI hin_X6_addOne_X6 0 rfl rfl 7 (by decide) hfl_X6_addOne_40 rfl rfl dX6_addOne_52 ?_
    refine lv_iload zx zb dX6_addOne_55 (lv_at hl 4 rfl) ?_
    refine j_iadd hC dX6_addOne_57 ?_
    refine j_put (w1 := [oC s0 6 [.ref w0, .ref s1, .ref s2, .ref s3, .int (nI q), .int (nI (k + 1)), .int (nI mc), .int (nI (wp + v)), .int (nI bt), .int (nI md)], aI G s1 500 (up pl k a), aI G s2 500 (up ln k b), aI G s3 500 (up ds k d)]) hC hI hin_X6_addOne_X6 tyX6 tyX6_ok nmX6 0 rfl rfl 7 (by decide) hfl_X6_addOne_40 rfl rfl rfl rfl (Nat.le_of_ble_eq_true rfl) dX6_addOne_58 rfl (fun H locs hI => ?_)
    exact hQ _ _ _ _ () dX6_addOne_61 (hI.sub [0, 1, 2, 3] rfl rfl) trivial

theorem hin_X6_addByte_X6 : ∀ w ∈ wsX60, w ∈ wsX6_addByte := by decide +kernel
theorem hfl_X6_addByte_43 : Cond.fieldLink RX6 43 "CheapParse$Steps" "bits" "I" ∈ wsX6_addByte := by decide +kernel
set_option maxHeartbeats 4000000 in
set_option maxRecDepth 100000 in
theorem c_X6_addByte (zl : Launch) (G : jG) (s0 : Nat) (w0 : Nat) (s1 : Nat) (s2 : Nat) (s3 : Nat) (q : Nat) (k : Nat) (mc : Nat) (wp : Nat) (bt : Nat) (md : Nat) (pl : Nat → Nat) (ln : Nat → Nat) (ds : Nat → Nat) (a : Nat) (v : Nat) (hk : k < 500) : jMet zl yX6_addByte wsX6_addByte ({ frames := 1, cells := 0, slots := 0, locals := 24 }) G [oC s0 6 [.ref w0, .ref s1, .ref s2, .ref s3, .int (nI q), .int (nI k), .int (nI mc), .int (nI wp), .int (nI bt), .int (nI md)], aI G s1 500 pl, aI G s2 500 ln, aI G s3 500 ds] [.ref s0, .int (nI a), .int (nI v)] (jQv G (fun (u : Unit) => True) (fun (u : Unit) => [oC s0 6 [.ref w0, .ref s1, .ref s2, .ref s3, .int (nI q), .int (nI (k + 1)), .int (nI mc), .int (nI (wp + v)), .int (nI (bt + 9)), .int (nI md)], aI G s1 500 (up pl k a), aI G s2 500 (up ln k 1), aI G s3 500 (up ds k 0)])) 0 0 := by
  refine j_enter_v (cc := cX6_addByte) (nL := 3) (nm := "addByte") (own := RX6) (lv := [(0, .ref s0), (1, .int (nI a)), (2, .int (nI v))]) (by decide) rfl (Nat.le_of_ble_eq_true rfl) rfl rfl rfl ?_
  intro zA zp ze zs zm zargs zbelow zmeth zc zQ ls hC hQ hI hl
  have zx := hC.1
  have zb := hC.2.1
  refine lv_aload_n zx zb dX6_addByte_0 rfl (lv_at hl 0 rfl) ?_
  refine lv_iload_n zx zb dX6_addByte_1 rfl (lv_at hl 1 rfl) ?_
  refine lv_iconst (v := nI 1) zx zb dX6_addByte_2 (by decide) ?_
  refine lv_iconst (v := nI 0) zx zb dX6_addByte_3 (by decide) ?_
  refine lv_iload_n zx zb dX6_addByte_4 rfl (lv_at hl 2 rfl) ?_
  refine j_callVv (wr := []) hC hI (c_X6_addOne zl G s0 w0 s1 s2 s3 q k mc wp bt md pl ln ds a 1 0 v (by omega)) (cwV 4 hC.2.2.2.2.1 gX6_addByte_X6_addOne rfl rfl rfl (by decide +kernel) ⟨Nat.le_of_ble_eq_true rfl, Nat.le_of_ble_eq_true rfl⟩) [0, 1, 2, 3] [] rfl rfl rfl rfl rfl rfl (q0 := 0) rfl rfl rfl hl.1 (Nat.le_of_ble_eq_true rfl) dX6_addByte_5 ⟨Nat.le_of_ble_eq_true rfl, Nat.le_of_ble_eq_true rfl⟩ (fun u5 H locs hp5 hI => ?_)
  have hI : jI G zA zs [oC s0 6 [.ref w0, .ref s1, .ref s2, .ref s3, .int (nI q), .int (nI (k + 1)), .int (nI mc), .int (nI (wp + v)), .int (nI bt), .int (nI md)], aI G s1 500 (up pl k a), aI G s2 500 (up ln k 1), aI G s3 500 (up ds k 0)] H locs := hI
  refine lv_aload_n zx zb dX6_addByte_8 rfl (lv_at hl 0 rfl) ?_
  refine lv_dup zx zb dX6_addByte_9 rfl ?_
  refine j_get hC hI hin_X6_addByte_X6 0 rfl rfl 8 (by decide) hfl_X6_addByte_43 rfl rfl dX6_addByte_10 ?_
  refine lv_bipush (v := nI 9) zx zb dX6_addByte_13 (by decide) ?_
  refine j_iadd hC dX6_addByte_15 ?_
  refine j_put (w1 := [oC s0 6 [.ref w0, .ref s1, .ref s2, .ref s3, .int (nI q), .int (nI (k + 1)), .int (nI mc), .int (nI (wp + v)), .int (nI (bt + 9)), .int (nI md)], aI G s1 500 (up pl k a), aI G s2 500 (up ln k 1), aI G s3 500 (up ds k 0)]) hC hI hin_X6_addByte_X6 tyX6 tyX6_ok nmX6 0 rfl rfl 8 (by decide) hfl_X6_addByte_43 rfl rfl rfl rfl (Nat.le_of_ble_eq_true rfl) dX6_addByte_16 rfl (fun H locs hI => ?_)
  exact hQ _ _ _ _ () dX6_addByte_19 (hI.sub [0, 1, 2, 3] rfl rfl) trivial

theorem hin_X6_lengthTold_X6 : ∀ w ∈ wsX60, w ∈ wsX6_lengthTold := by decide +kernel
theorem hfl_X6_lengthTold_30 : Cond.fieldLink RX6 30 "CheapParse$Steps" "least" "I" ∈ wsX6_lengthTold := by decide +kernel
set_option maxHeartbeats 4000000 in
set_option maxRecDepth 100000 in
theorem c_X6_lengthTold (zl : Launch) (G : jG) (s0 : Nat) (w0 : Nat) (s1 : Nat) (s2 : Nat) (s3 : Nat) (q : Nat) (k : Nat) (mc : Nat) (wp : Nat) (bt : Nat) (md : Nat) (b : Nat) (hb : q ≤ b) : jMet zl yX6_lengthTold wsX6_lengthTold ({ frames := 0, cells := 0, slots := 0, locals := 0 }) G [oC s0 6 [.ref w0, .ref s1, .ref s2, .ref s3, .int (nI q), .int (nI k), .int (nI mc), .int (nI wp), .int (nI bt), .int (nI md)]] [.ref s0, .int (nI b)] (jQi G (fun (r : Int32) (u : Unit) => (r = nI (b - q + 1))) (fun (u : Unit) => [oC s0 6 [.ref w0, .ref s1, .ref s2, .ref s3, .int (nI q), .int (nI k), .int (nI mc), .int (nI wp), .int (nI bt), .int (nI md)]])) 0 0 := by
  refine j_enter_i (cc := cX6_lengthTold) (nL := 2) (nm := "lengthTold") (own := RX6) (lv := [(0, .ref s0), (1, .int (nI b))]) (by decide) rfl (Nat.le_of_ble_eq_true rfl) rfl rfl rfl ?_
  intro zA zp ze zs zm zargs zbelow zmeth zc zQ ls hC hQ hI hl
  have zx := hC.1
  have zb := hC.2.1
  refine lv_iload_n zx zb dX6_lengthTold_0 rfl (lv_at hl 1 rfl) ?_
  refine lv_aload_n zx zb dX6_lengthTold_1 rfl (lv_at hl 0 rfl) ?_
  refine j_get hC hI hin_X6_lengthTold_X6 0 rfl rfl 4 (by decide) hfl_X6_lengthTold_30 rfl rfl dX6_lengthTold_2 ?_
  refine j_isub hC (by omega) dX6_lengthTold_5 ?_
  refine lv_iconst (v := nI 1) zx zb dX6_lengthTold_6 (by decide) ?_
  refine j_iadd hC dX6_lengthTold_7 ?_
  exact hQ _ _ _ _ _ () dX6_lengthTold_8 (hI.sub [0] rfl rfl) (by first | rfl | (congr 1; omega) | omega)

set_option maxHeartbeats 4000000 in
set_option maxRecDepth 100000 in
theorem c_X6_lengthBits (zl : Launch) (G : jG) (s0 : Nat) (w0 : Nat) (s1 : Nat) (s2 : Nat) (s3 : Nat) (q : Nat) (k : Nat) (mc : Nat) (wp : Nat) (bt : Nat) (md : Nat) (b : Nat) (hb : q ≤ b) (hb2 : b ≤ 255) : jMet zl yX6_lengthBits wsX6_lengthBits ({ frames := 1, cells := 0, slots := 0, locals := 22 }) G [oC s0 6 [.ref w0, .ref s1, .ref s2, .ref s3, .int (nI q), .int (nI k), .int (nI mc), .int (nI wp), .int (nI bt), .int (nI md)]] [.ref s0, .int (nI b)] (jQi G (fun (r : Int32) (u : Unit) => (r = nI (2 * (b - q + 1).log2 + 1))) (fun (u : Unit) => [oC s0 6 [.ref w0, .ref s1, .ref s2, .ref s3, .int (nI q), .int (nI k), .int (nI mc), .int (nI wp), .int (nI bt), .int (nI md)]])) 0 0 := by
  refine j_enter_i (cc := cX6_lengthBits) (nL := 2) (nm := "lengthBits") (own := RX6) (lv := [(0, .ref s0), (1, .int (nI b))]) (by decide) rfl (Nat.le_of_ble_eq_true rfl) rfl rfl rfl ?_
  intro zA zp ze zs zm zargs zbelow zmeth zc zQ ls hC hQ hI hl
  have zx := hC.1
  have zb := hC.2.1
  refine lv_iconst (v := nI 2) zx zb dX6_lengthBits_0 (by decide) ?_
  refine lv_aload_n zx zb dX6_lengthBits_1 rfl (lv_at hl 0 rfl) ?_
  refine lv_iload_n zx zb dX6_lengthBits_2 rfl (lv_at hl 1 rfl) ?_
  refine j_callVi (wr := []) hC hI (c_X6_lengthTold zl G s0 w0 s1 s2 s3 q k mc wp bt md b (by omega)) (cwV 1 hC.2.2.2.2.1 gX6_lengthBits_X6_lengthTold rfl rfl rfl (by decide +kernel) ⟨Nat.le_of_ble_eq_true rfl, Nat.le_of_ble_eq_true rfl⟩) [0] [] rfl rfl rfl rfl rfl rfl (q0 := 0) rfl rfl rfl hl.1 (Nat.le_of_ble_eq_true rfl) dX6_lengthBits_3 ⟨Nat.le_of_ble_eq_true rfl, Nat.le_of_ble_eq_true rfl⟩ (fun rv3 u3 H locs hp3 hI => ?_)
  have hI : jI G zA zs [oC s0 6 [.ref w0, .ref s1, .ref s2, .ref s3, .int (nI q), .int (nI k), .int (nI mc), .int (nI wp), .int (nI bt), .int (nI md)]] H locs := hI
  subst hp3
  refine j_callSNi (wr := [oC s0 6 [.ref w0, .ref s1, .ref s2, .ref s3, .int (nI q), .int (nI k), .int (nI mc), .int (nI wp), .int (nI bt), .int (nI md)]]) hC hI (c_X8_classOf zl G (b - q + 1) (by omega)) ⟨va_cnB (host := "CheapParse") 1 hC.2.2.2.2.1 ggX6_lengthBits_X8_classOf rfl rfl rfl (hI.2.2.2.2.2 _ (by decide +kernel)) (hC.2.2.2.2.1 _ (by decide +kernel)) (by decide +kernel) ⟨Nat.le_of_ble_eq_true rfl, Nat.le_of_ble_eq_true rfl⟩, hC.2.2.2.2.1 _ (by decide +kernel), trivial⟩ [] [0] rfl rfl rfl rfl rfl rfl rfl hl.1 (Nat.le_of_ble_eq_true rfl) dX6_lengthBits_6 ⟨Nat.le_of_ble_eq_true rfl, Nat.le_of_ble_eq_true rfl⟩ (fun rv6 u6 H locs hp6 hI => ?_)
  have hI : jI G zA zs [oC s0 6 [.ref w0, .ref s1, .ref s2, .ref s3, .int (nI q), .int (nI k), .int (nI mc), .int (nI wp), .int (nI bt), .int (nI md)]] H locs := hI
  subst hp6
  refine j_imul hC dX6_lengthBits_9 ?_
  refine lv_iconst (v := nI 1) zx zb dX6_lengthBits_10 (by decide) ?_
  refine j_iadd hC dX6_lengthBits_11 ?_
  exact hQ _ _ _ _ _ () dX6_lengthBits_12 (hI.sub [0] rfl rfl) (by first | rfl | (congr 1; omega) | omega)

theorem hin_X6_addMatch_X6 : ∀ w ∈ wsX60, w ∈ wsX6_addMatch := by decide +kernel
theorem hfl_X6_addMatch_37 : Cond.fieldLink RX6 37 "CheapParse$Steps" "matchCount" "I" ∈ wsX6_addMatch := by decide +kernel
theorem hfl_X6_addMatch_43 : Cond.fieldLink RX6 43 "CheapParse$Steps" "bits" "I" ∈ wsX6_addMatch := by decide +kernel
set_option maxHeartbeats 4000000 in
set_option maxRecDepth 100000 in
theorem c_X6_addMatch (zl : Launch) (G : jG) (s0 : Nat) (w0 : Nat) (s1 : Nat) (s2 : Nat) (s3 : Nat) (q : Nat) (k : Nat) (mc : Nat) (wp : Nat) (bt : Nat) (md : Nat) (pl : Nat → Nat) (ln : Nat → Nat) (ds : Nat → Nat) (a : Nat) (b : Nat) (d : Nat) (v : Nat) (hk : k < 500) (hb : q ≤ b) (hb2 : b ≤ 255) (hd : d < 512) : jMet zl yX6_addMatch wsX6_addMatch ({ frames := 2, cells := 0, slots := 0, locals := 43 }) G [oC s0 6 [.ref w0, .ref s1, .ref s2, .ref s3, .int (nI q), .int (nI k), .int (nI mc), .int (nI wp), .int (nI bt), .int (nI md)], aI G s1 500 pl, aI G s2 500 ln, aI G s3 500 ds] [.ref s0, .int (nI a), .int (nI b), .int (nI d), .int (nI v)] (jQv G (fun (u : Unit) => True) (fun (u : Unit) => [oC s0 6 [.ref w0, .ref s1, .ref s2, .ref s3, .int (nI q), .int (nI (k + 1)), .int (nI (mc + 1)), .int (nI (wp + v)), .int (nI (bt + (1 + (2 * (b - q + 1).log2 + 1) + 4 + d.log2))), .int (nI md)], aI G s1 500 (up pl k a), aI G s2 500 (up ln k b), aI G s3 500 (up ds k d)])) 0 0 := by
  refine j_enter_v (cc := cX6_addMatch) (nL := 5) (nm := "addMatch") (own := RX6) (lv := [(0, .ref s0), (1, .int (nI a)), (2, .int (nI b)), (3, .int (nI d)), (4, .int (nI v))]) (by decide) rfl (Nat.le_of_ble_eq_true rfl) rfl rfl rfl ?_
  intro zA zp ze zs zm zargs zbelow zmeth zc zQ ls hC hQ hI hl
  have zx := hC.1
  have zb := hC.2.1
  refine lv_aload_n zx zb dX6_addMatch_0 rfl (lv_at hl 0 rfl) ?_
  refine lv_iload_n zx zb dX6_addMatch_1 rfl (lv_at hl 1 rfl) ?_
  refine lv_iload_n zx zb dX6_addMatch_2 rfl (lv_at hl 2 rfl) ?_
  refine lv_iload_n zx zb dX6_addMatch_3 rfl (lv_at hl 3 rfl) ?_
  refine lv_iload zx zb dX6_addMatch_4 (lv_at hl 4 rfl) ?_
  refine j_callVv (wr := []) hC hI (c_X6_addOne zl G s0 w0 s1 s2 s3 q k mc wp bt md pl ln ds a b d v (by omega)) (cwV 4 hC.2.2.2.2.1 gX6_addMatch_X6_addOne rfl rfl rfl (by decide +kernel) ⟨Nat.le_of_ble_eq_true rfl, Nat.le_of_ble_eq_true rfl⟩) [0, 1, 2, 3] [] rfl rfl rfl rfl rfl rfl (q0 := 0) rfl rfl rfl hl.1 (Nat.le_of_ble_eq_true rfl) dX6_addMatch_6 ⟨Nat.le_of_ble_eq_true rfl, Nat.le_of_ble_eq_true rfl⟩ (fun u6 H locs hp6 hI => ?_)
  have hI : jI G zA zs [oC s0 6 [.ref w0, .ref s1, .ref s2, .ref s3, .int (nI q), .int (nI (k + 1)), .int (nI mc), .int (nI (wp + v)), .int (nI bt), .int (nI md)], aI G s1 500 (up pl k a), aI G s2 500 (up ln k b), aI G s3 500 (up ds k d)] H locs := hI
  refine lv_aload_n zx zb dX6_addMatch_9 rfl (lv_at hl 0 rfl) ?_
  refine lv_dup zx zb dX6_addMatch_10 rfl ?_
  refine j_get hC hI hin_X6_addMatch_X6 0 rfl rfl 6 (by decide) hfl_X6_addMatch_37 rfl rfl dX6_addMatch_11 ?_
  refine lv_iconst (v := nI 1) zx zb dX6_addMatch_14 (by decide) ?_
  refine j_iadd hC dX6_addMatch_15 ?_
  refine j_put (w1 := [oC s0 6 [.ref w0, .ref s1, .ref s2, .ref s3, .int (nI q), .int (nI (k + 1)), .int (nI (mc + 1)), .int (nI (wp + v)), .int (nI bt), .int (nI md)], aI G s1 500 (up pl k a), aI G s2 500 (up ln k b), aI G s3 500 (up ds k d)]) hC hI hin_X6_addMatch_X6 tyX6 tyX6_ok nmX6 0 rfl rfl 6 (by decide) hfl_X6_addMatch_37 rfl rfl rfl rfl (Nat.le_of_ble_eq_true rfl) dX6_addMatch_16 rfl (fun H locs hI => ?_)
  refine lv_aload_n zx zb dX6_addMatch_19 rfl (lv_at hl 0 rfl) ?_
  refine lv_dup zx zb dX6_addMatch_20 rfl ?_
  refine j_get hC hI hin_X6_addMatch_X6 0 rfl rfl 8 (by decide) hfl_X6_addMatch_43 rfl rfl dX6_addMatch_21 ?_
  refine lv_iconst (v := nI 1) zx zb dX6_addMatch_24 (by decide) ?_
  refine lv_aload_n zx zb dX6_addMatch_25 rfl (lv_at hl 0 rfl) ?_
  refine lv_iload_n zx zb dX6_addMatch_26 rfl (lv_at hl 2 rfl) ?_
  refine j_callVi (wr := [aI G s1 500 (up pl k a), aI G s2 500 (up ln k b), aI G s3 500 (up ds k d)]) hC hI (c_X6_lengthBits zl G s0 w0 s1 s2 s3 q (k + 1) (mc + 1) (wp + v) bt md b (by omega) (by omega)) (cwV 1 hC.2.2.2.2.1 gX6_addMatch_X6_lengthBits rfl rfl rfl (by decide +kernel) ⟨Nat.le_of_ble_eq_true rfl, Nat.le_of_ble_eq_true rfl⟩) [0] [1, 2, 3] rfl rfl rfl rfl rfl rfl (q0 := 0) rfl rfl rfl hl.1 (Nat.le_of_ble_eq_true rfl) dX6_addMatch_27 ⟨Nat.le_of_ble_eq_true rfl, Nat.le_of_ble_eq_true rfl⟩ (fun rv27 u27 H locs hp27 hI => ?_)
  have hI : jI G zA zs [aI G s1 500 (up pl k a), aI G s2 500 (up ln k b), aI G s3 500 (up ds k d), oC s0 6 [.ref w0, .ref s1, .ref s2, .ref s3, .int (nI q), .int (nI (k + 1)), .int (nI (mc + 1)), .int (nI (wp + v)), .int (nI bt), .int (nI md)]] H locs := hI
  subst hp27
  refine j_iadd hC dX6_addMatch_30 ?_
  refine lv_iconst (v := nI 4) zx zb dX6_addMatch_31 (by decide) ?_
  refine j_iadd hC dX6_addMatch_32 ?_
  refine lv_iload_n zx zb dX6_addMatch_33 rfl (lv_at hl 3 rfl) ?_
  refine j_callSNi (wr := [aI G s1 500 (up pl k a), aI G s2 500 (up ln k b), aI G s3 500 (up ds k d), oC s0 6 [.ref w0, .ref s1, .ref s2, .ref s3, .int (nI q), .int (nI (k + 1)), .int (nI (mc + 1)), .int (nI (wp + v)), .int (nI bt), .int (nI md)]]) hC hI (c_X8_classOf zl G d (by omega)) ⟨va_cnB (host := "CheapParse") 1 hC.2.2.2.2.1 ggX6_addMatch_X8_classOf rfl rfl rfl (hI.2.2.2.2.2 _ (by decide +kernel)) (hC.2.2.2.2.1 _ (by decide +kernel)) (by decide +kernel) ⟨Nat.le_of_ble_eq_true rfl, Nat.le_of_ble_eq_true rfl⟩, hC.2.2.2.2.1 _ (by decide +kernel), trivial⟩ [] [0, 1, 2, 3] rfl rfl rfl rfl rfl rfl rfl hl.1 (Nat.le_of_ble_eq_true rfl) dX6_addMatch_34 ⟨Nat.le_of_ble_eq_true rfl, Nat.le_of_ble_eq_true rfl⟩ (fun rv34 u34 H locs hp34 hI => ?_)
  have hI : jI G zA zs [aI G s1 500 (up pl k a), aI G s2 500 (up ln k b), aI G s3 500 (up ds k d), oC s0 6 [.ref w0, .ref s1, .ref s2, .ref s3, .int (nI q), .int (nI (k + 1)), .int (nI (mc + 1)), .int (nI (wp + v)), .int (nI bt), .int (nI md)]] H locs := hI
  subst hp34
  refine j_iadd hC dX6_addMatch_37 ?_
  refine j_iadd hC dX6_addMatch_38 ?_
  refine j_put (w1 := [aI G s1 500 (up pl k a), aI G s2 500 (up ln k b), aI G s3 500 (up ds k d), oC s0 6 [.ref w0, .ref s1, .ref s2, .ref s3, .int (nI q), .int (nI (k + 1)), .int (nI (mc + 1)), .int (nI (wp + v)), .int (nI (bt + (((1 + (2 * (b - q + 1).log2 + 1)) + 4) + d.log2))), .int (nI md)]]) hC hI hin_X6_addMatch_X6 tyX6 tyX6_ok nmX6 3 rfl rfl 8 (by decide) hfl_X6_addMatch_43 rfl rfl rfl rfl (Nat.le_of_ble_eq_true rfl) dX6_addMatch_39 rfl (fun H locs hI => ?_)
  exact hQ _ _ _ _ () dX6_addMatch_42 (hI.sub [3, 0, 1, 2] rfl rfl) trivial

theorem hin_X6_made_X6 : ∀ w ∈ wsX60, w ∈ wsX6_made := by decide +kernel
theorem hfl_X6_made_46 : Cond.fieldLink RX6 46 "CheapParse$Steps" "made" "Z" ∈ wsX6_made := by decide +kernel
set_option maxHeartbeats 4000000 in
set_option maxRecDepth 100000 in
theorem c_X6_made (zl : Launch) (G : jG) (s0 : Nat) (w0 : Nat) (s1 : Nat) (s2 : Nat) (s3 : Nat) (q : Nat) (k : Nat) (mc : Nat) (wp : Nat) (bt : Nat) (md : Nat) (hmd : md ≤ 1) : jMet zl yX6_made wsX6_made ({ frames := 0, cells := 0, slots := 0, locals := 0 }) G [oC s0 6 [.ref w0, .ref s1, .ref s2, .ref s3, .int (nI q), .int (nI k), .int (nI mc), .int (nI wp), .int (nI bt), .int (nI md)]] [.ref s0] (jQi G (fun (r : Int32) (u : Unit) => (r = nI md)) (fun (u : Unit) => [oC s0 6 [.ref w0, .ref s1, .ref s2, .ref s3, .int (nI q), .int (nI k), .int (nI mc), .int (nI wp), .int (nI bt), .int (nI md)]])) 0 0 := by
  refine j_enter_z (cc := cX6_made) (nL := 1) (nm := "made") (own := RX6) (lv := [(0, .ref s0)]) (by decide) rfl (Nat.le_of_ble_eq_true rfl) rfl rfl rfl ?_
  intro zA zp ze zs zm zargs zbelow zmeth zc zQ ls hC hQ hI hl
  have zx := hC.1
  have zb := hC.2.1
  refine lv_aload_n zx zb dX6_made_0 rfl (lv_at hl 0 rfl) ?_
  refine j_get hC hI hin_X6_made_X6 0 rfl rfl 9 (by decide) hfl_X6_made_46 rfl rfl dX6_made_1 ?_
  exact hQ _ _ _ _ _ () dX6_made_4 (z01 hmd) (hI.sub [0] rfl rfl) (by first | rfl | (congr 1; omega) | omega)

theorem hin_X6_count_X6 : ∀ w ∈ wsX60, w ∈ wsX6_count := by decide +kernel
theorem hfl_X6_count_34 : Cond.fieldLink RX6 34 "CheapParse$Steps" "count" "I" ∈ wsX6_count := by decide +kernel
set_option maxHeartbeats 4000000 in
set_option maxRecDepth 100000 in
theorem c_X6_count (zl : Launch) (G : jG) (s0 : Nat) (w0 : Nat) (s1 : Nat) (s2 : Nat) (s3 : Nat) (q : Nat) (k : Nat) (mc : Nat) (wp : Nat) (bt : Nat) (md : Nat)  : jMet zl yX6_count wsX6_count ({ frames := 0, cells := 0, slots := 0, locals := 0 }) G [oC s0 6 [.ref w0, .ref s1, .ref s2, .ref s3, .int (nI q), .int (nI k), .int (nI mc), .int (nI wp), .int (nI bt), .int (nI md)]] [.ref s0] (jQi G (fun (r : Int32) (u : Unit) => (r = nI k)) (fun (u : Unit) => [oC s0 6 [.ref w0, .ref s1, .ref s2, .ref s3, .int (nI q), .int (nI k), .int (nI mc), .int (nI wp), .int (nI bt), .int (nI md)]])) 0 0 := by
  refine j_enter_i (cc := cX6_count) (nL := 1) (nm := "count") (own := RX6) (lv := [(0, .ref s0)]) (by decide) rfl (Nat.le_of_ble_eq_true rfl) rfl rfl rfl ?_
  intro zA zp ze zs zm zargs zbelow zmeth zc zQ ls hC hQ hI hl
  have zx := hC.1
  have zb := hC.2.1
  refine lv_aload_n zx zb dX6_count_0 rfl (lv_at hl 0 rfl) ?_
  refine j_get hC hI hin_X6_count_X6 0 rfl rfl 5 (by decide) hfl_X6_count_34 rfl rfl dX6_count_1 ?_
  exact hQ _ _ _ _ _ () dX6_count_4 (hI.sub [0] rfl rfl) (by first | rfl | (congr 1; omega) | omega)

theorem hin_X6_matchCount_X6 : ∀ w ∈ wsX60, w ∈ wsX6_matchCount := by decide +kernel
theorem hfl_X6_matchCount_37 : Cond.fieldLink RX6 37 "CheapParse$Steps" "matchCount" "I" ∈ wsX6_matchCount := by decide +kernel
set_option maxHeartbeats 4000000 in
set_option maxRecDepth 100000 in
theorem c_X6_matchCount (zl : Launch) (G : jG) (s0 : Nat) (w0 : Nat) (s1 : Nat) (s2 : Nat) (s3 : Nat) (q : Nat) (k : Nat) (mc : Nat) (wp : Nat) (bt : Nat) (md : Nat)  : jMet zl yX6_matchCount wsX6_matchCount ({ frames := 0, cells := 0, slots := 0, locals := 0 }) G [oC s0 6 [.ref w0, .ref s1, .ref s2, .ref s3, .int (nI q), .int (nI k), .int (nI mc), .int (nI wp), .int (nI bt), .int (nI md)]] [.ref s0] (jQi G (fun (r : Int32) (u : Unit) => (r = nI mc)) (fun (u : Unit) => [oC s0 6 [.ref w0, .ref s1, .ref s2, .ref s3, .int (nI q), .int (nI k), .int (nI mc), .int (nI wp), .int (nI bt), .int (nI md)]])) 0 0 := by
  refine j_enter_i (cc := cX6_matchCount) (nL := 1) (nm := "matchCount") (own := RX6) (lv := [(0, .ref s0)]) (by decide) rfl (Nat.le_of_ble_eq_true rfl) rfl rfl rfl ?_
  intro zA zp ze zs zm zargs zbelow zmeth zc zQ ls hC hQ hI hl
  have zx := hC.1
  have zb := hC.2.1
  refine lv_aload_n zx zb dX6_matchCount_0 rfl (lv_at hl 0 rfl) ?_
  refine j_get hC hI hin_X6_matchCount_X6 0 rfl rfl 6 (by decide) hfl_X6_matchCount_37 rfl rfl dX6_matchCount_1 ?_
  exact hQ _ _ _ _ _ () dX6_matchCount_4 (hI.sub [0] rfl rfl) (by first | rfl | (congr 1; omega) | omega)

theorem hin_X6_wholePrice_X6 : ∀ w ∈ wsX60, w ∈ wsX6_wholePrice := by decide +kernel
theorem hfl_X6_wholePrice_40 : Cond.fieldLink RX6 40 "CheapParse$Steps" "wholePrice" "I" ∈ wsX6_wholePrice := by decide +kernel
set_option maxHeartbeats 4000000 in
set_option maxRecDepth 100000 in
theorem c_X6_wholePrice (zl : Launch) (G : jG) (s0 : Nat) (w0 : Nat) (s1 : Nat) (s2 : Nat) (s3 : Nat) (q : Nat) (k : Nat) (mc : Nat) (wp : Nat) (bt : Nat) (md : Nat)  : jMet zl yX6_wholePrice wsX6_wholePrice ({ frames := 0, cells := 0, slots := 0, locals := 0 }) G [oC s0 6 [.ref w0, .ref s1, .ref s2, .ref s3, .int (nI q), .int (nI k), .int (nI mc), .int (nI wp), .int (nI bt), .int (nI md)]] [.ref s0] (jQi G (fun (r : Int32) (u : Unit) => (r = nI wp)) (fun (u : Unit) => [oC s0 6 [.ref w0, .ref s1, .ref s2, .ref s3, .int (nI q), .int (nI k), .int (nI mc), .int (nI wp), .int (nI bt), .int (nI md)]])) 0 0 := by
  refine j_enter_i (cc := cX6_wholePrice) (nL := 1) (nm := "wholePrice") (own := RX6) (lv := [(0, .ref s0)]) (by decide) rfl (Nat.le_of_ble_eq_true rfl) rfl rfl rfl ?_
  intro zA zp ze zs zm zargs zbelow zmeth zc zQ ls hC hQ hI hl
  have zx := hC.1
  have zb := hC.2.1
  refine lv_aload_n zx zb dX6_wholePrice_0 rfl (lv_at hl 0 rfl) ?_
  refine j_get hC hI hin_X6_wholePrice_X6 0 rfl rfl 7 (by decide) hfl_X6_wholePrice_40 rfl rfl dX6_wholePrice_1 ?_
  exact hQ _ _ _ _ _ () dX6_wholePrice_4 (hI.sub [0] rfl rfl) (by first | rfl | (congr 1; omega) | omega)

theorem hin_X6_bits_X6 : ∀ w ∈ wsX60, w ∈ wsX6_bits := by decide +kernel
theorem hfl_X6_bits_43 : Cond.fieldLink RX6 43 "CheapParse$Steps" "bits" "I" ∈ wsX6_bits := by decide +kernel
set_option maxHeartbeats 4000000 in
set_option maxRecDepth 100000 in
theorem c_X6_bits (zl : Launch) (G : jG) (s0 : Nat) (w0 : Nat) (s1 : Nat) (s2 : Nat) (s3 : Nat) (q : Nat) (k : Nat) (mc : Nat) (wp : Nat) (bt : Nat) (md : Nat)  : jMet zl yX6_bits wsX6_bits ({ frames := 0, cells := 0, slots := 0, locals := 0 }) G [oC s0 6 [.ref w0, .ref s1, .ref s2, .ref s3, .int (nI q), .int (nI k), .int (nI mc), .int (nI wp), .int (nI bt), .int (nI md)]] [.ref s0] (jQi G (fun (r : Int32) (u : Unit) => (r = nI bt)) (fun (u : Unit) => [oC s0 6 [.ref w0, .ref s1, .ref s2, .ref s3, .int (nI q), .int (nI k), .int (nI mc), .int (nI wp), .int (nI bt), .int (nI md)]])) 0 0 := by
  refine j_enter_i (cc := cX6_bits) (nL := 1) (nm := "bits") (own := RX6) (lv := [(0, .ref s0)]) (by decide) rfl (Nat.le_of_ble_eq_true rfl) rfl rfl rfl ?_
  intro zA zp ze zs zm zargs zbelow zmeth zc zQ ls hC hQ hI hl
  have zx := hC.1
  have zb := hC.2.1
  refine lv_aload_n zx zb dX6_bits_0 rfl (lv_at hl 0 rfl) ?_
  refine j_get hC hI hin_X6_bits_X6 0 rfl rfl 8 (by decide) hfl_X6_bits_43 rfl rfl dX6_bits_1 ?_
  exact hQ _ _ _ _ _ () dX6_bits_4 (hI.sub [0] rfl rfl) (by first | rfl | (congr 1; omega) | omega)

theorem hin_X6_textSize_X6 : ∀ w ∈ wsX60, w ∈ wsX6_textSize := by decide +kernel
theorem hfl_X6_textSize_14 : Cond.fieldLink RX6 14 "CheapParse$Steps" "text" "LCheapParse$Bytes;" ∈ wsX6_textSize := by decide +kernel
set_option maxHeartbeats 4000000 in
set_option maxRecDepth 100000 in
theorem c_X6_textSize (zl : Launch) (G : jG) (s0 : Nat) (w0 : Nat) (w1 : Nat) (s1 : Nat) (s2 : Nat) (s3 : Nat) (q : Nat) (k : Nat) (mc : Nat) (wp : Nat) (bt : Nat) (md : Nat) (pn : Nat)  : jMet zl yX6_textSize wsX6_textSize ({ frames := 1, cells := 0, slots := 0, locals := 20 }) G [oC s0 6 [.ref w0, .ref s1, .ref s2, .ref s3, .int (nI q), .int (nI k), .int (nI mc), .int (nI wp), .int (nI bt), .int (nI md)], oC w0 1 [.ref w1, .int (nI pn)]] [.ref s0] (jQi G (fun (r : Int32) (u : Unit) => (r = nI pn)) (fun (u : Unit) => [oC s0 6 [.ref w0, .ref s1, .ref s2, .ref s3, .int (nI q), .int (nI k), .int (nI mc), .int (nI wp), .int (nI bt), .int (nI md)], oC w0 1 [.ref w1, .int (nI pn)]])) 0 0 := by
  refine j_enter_i (cc := cX6_textSize) (nL := 1) (nm := "textSize") (own := RX6) (lv := [(0, .ref s0)]) (by decide) rfl (Nat.le_of_ble_eq_true rfl) rfl rfl rfl ?_
  intro zA zp ze zs zm zargs zbelow zmeth zc zQ ls hC hQ hI hl
  have zx := hC.1
  have zb := hC.2.1
  refine lv_aload_n zx zb dX6_textSize_0 rfl (lv_at hl 0 rfl) ?_
  refine j_get hC hI hin_X6_textSize_X6 0 rfl rfl 0 (by decide) hfl_X6_textSize_14 rfl rfl dX6_textSize_1 ?_
  refine j_callVi (wr := [oC s0 6 [.ref w0, .ref s1, .ref s2, .ref s3, .int (nI q), .int (nI k), .int (nI mc), .int (nI wp), .int (nI bt), .int (nI md)]]) hC hI (c_X1_size zl G w0 w1 pn ) (cwV 0 hC.2.2.2.2.1 gX6_textSize_X1_size rfl rfl rfl (by decide +kernel) ⟨Nat.le_of_ble_eq_true rfl, Nat.le_of_ble_eq_true rfl⟩) [1] [0] rfl rfl rfl rfl rfl rfl (q0 := 0) rfl rfl rfl hl.1 (Nat.le_of_ble_eq_true rfl) dX6_textSize_4 ⟨Nat.le_of_ble_eq_true rfl, Nat.le_of_ble_eq_true rfl⟩ (fun rv4 u4 H locs hp4 hI => ?_)
  have hI : jI G zA zs [oC s0 6 [.ref w0, .ref s1, .ref s2, .ref s3, .int (nI q), .int (nI k), .int (nI mc), .int (nI wp), .int (nI bt), .int (nI md)], oC w0 1 [.ref w1, .int (nI pn)]] H locs := hI
  subst hp4
  exact hQ _ _ _ _ _ () dX6_textSize_7 (hI.sub [0, 1] rfl rfl) (by first | rfl | (congr 1; omega) | omega)

theorem hin_X6_has_X6 : ∀ w ∈ wsX60, w ∈ wsX6_has := by decide +kernel
theorem hfl_X6_has_34 : Cond.fieldLink RX6 34 "CheapParse$Steps" "count" "I" ∈ wsX6_has := by decide +kernel
set_option maxHeartbeats 4000000 in
set_option maxRecDepth 100000 in
theorem c_X6_has (zl : Launch) (G : jG) (s0 : Nat) (w0 : Nat) (s1 : Nat) (s2 : Nat) (s3 : Nat) (q : Nat) (k : Nat) (mc : Nat) (wp : Nat) (bt : Nat) (md : Nat) (i : Nat) (hk : k ≤ 500) (hi : i < k) : jMet zl yX6_has wsX6_has ({ frames := 0, cells := 0, slots := 0, locals := 0 }) G [oC s0 6 [.ref w0, .ref s1, .ref s2, .ref s3, .int (nI q), .int (nI k), .int (nI mc), .int (nI wp), .int (nI bt), .int (nI md)]] [.ref s0, .int (nI i)] (jQi G (fun (r : Int32) (u : Unit) => (r = nI 1)) (fun (u : Unit) => [oC s0 6 [.ref w0, .ref s1, .ref s2, .ref s3, .int (nI q), .int (nI k), .int (nI mc), .int (nI wp), .int (nI bt), .int (nI md)]])) 0 0 := by
  refine j_enter_z (cc := cX6_has) (nL := 2) (nm := "has") (own := RX6) (lv := [(0, .ref s0), (1, .int (nI i))]) (by decide) rfl (Nat.le_of_ble_eq_true rfl) rfl rfl rfl ?_
  intro zA zp ze zs zm zargs zbelow zmeth zc zQ ls hC hQ hI hl
  have zx := hC.1
  have zb := hC.2.1
  refine lv_iload_n zx zb dX6_has_0 rfl (lv_at hl 1 rfl) ?_
  refine j_if_lt (tgt := 16) hC dX6_has_1 (by decide) (by omega) ?_
  refine lv_iload_n zx zb dX6_has_4 rfl (lv_at hl 1 rfl) ?_
  refine lv_aload_n zx zb dX6_has_5 rfl (lv_at hl 0 rfl) ?_
  refine j_get hC hI hin_X6_has_X6 0 rfl rfl 5 (by decide) hfl_X6_has_34 rfl rfl dX6_has_6 ?_
  refine j_icmp_ge (tgt := 16) hC dX6_has_9 (by decide) (by omega) (by omega) (fun c9 => ?_) (fun c9 => ?_)
  · exact (by omega : False).elim
  · refine lv_iconst (v := nI 1) zx zb dX6_has_12 (by decide) ?_
    refine lv_goto (tgt := 17) zx zb dX6_has_13 (by decide) ?_
    exact hQ _ _ _ _ _ () dX6_has_17 rfl (hI.sub [0] rfl rfl) (by first | rfl | (congr 1; omega) | omega)

set_option maxHeartbeats 4000000 in
set_option maxRecDepth 100000 in
theorem c_X6_has_out (zl : Launch) (G : jG) (s0 : Nat) (w0 : Nat) (s1 : Nat) (s2 : Nat) (s3 : Nat) (q : Nat) (k : Nat) (mc : Nat) (wp : Nat) (bt : Nat) (md : Nat) (i : Int32) (hk : k ≤ 500) (hi : ∀ j, j < k → i ≠ nI j) : jMet zl yX6_has wsX6_has ({ frames := 0, cells := 0, slots := 0, locals := 0 }) G [oC s0 6 [.ref w0, .ref s1, .ref s2, .ref s3, .int (nI q), .int (nI k), .int (nI mc), .int (nI wp), .int (nI bt), .int (nI md)]] [.ref s0, .int i] (jQi G (fun (r : Int32) (u : Unit) => (r = nI 0)) (fun (u : Unit) => [oC s0 6 [.ref w0, .ref s1, .ref s2, .ref s3, .int (nI q), .int (nI k), .int (nI mc), .int (nI wp), .int (nI bt), .int (nI md)]])) 0 0 := by
  refine j_enter_z (cc := cX6_has) (nL := 2) (nm := "has") (own := RX6) (lv := [(0, .ref s0), (1, .int i)]) (by decide) rfl (Nat.le_of_ble_eq_true rfl) rfl rfl rfl ?_
  intro zA zp ze zs zm zargs zbelow zmeth zc zQ ls hC hQ hI hl
  have zx := hC.1
  have zb := hC.2.1
  refine lv_iload_n zx zb dX6_has_0 rfl (lv_at hl 1 rfl) ?_
  refine jz_if_lt (tgt := 16) hC dX6_has_1 (by decide) (fun c1 => ?_) (fun j1 j1a j1e => ?_)
  · refine lv_iconst (v := nI 0) zx zb dX6_has_16 (by decide) ?_
    exact hQ _ _ _ _ _ () dX6_has_17 rfl (hI.sub [0] rfl rfl) (by first | rfl | (congr 1; omega) | omega)
  · subst j1e
    refine lv_iload_n zx zb dX6_has_4 rfl (lv_at hl 1 rfl) ?_
    refine lv_aload_n zx zb dX6_has_5 rfl (lv_at hl 0 rfl) ?_
    refine j_get hC hI hin_X6_has_X6 0 rfl rfl 5 (by decide) hfl_X6_has_34 rfl rfl dX6_has_6 ?_
    refine j_icmp_ge (tgt := 16) hC dX6_has_9 (by decide) (by omega) (by omega) (fun c9 => ?_) (fun c9 => ?_)
    · refine lv_iconst (v := nI 0) zx zb dX6_has_16 (by decide) ?_
      exact hQ _ _ _ _ _ () dX6_has_17 rfl (hI.sub [0] rfl rfl) (by first | rfl | (congr 1; omega) | omega)
    · exact absurd rfl (hi j1 c9)

theorem hin_X6_placeOf_X6 : ∀ w ∈ wsX60, w ∈ wsX6_placeOf := by decide +kernel
theorem hfl_X6_placeOf_20 : Cond.fieldLink RX6 20 "CheapParse$Steps" "places" "[I" ∈ wsX6_placeOf := by decide +kernel
set_option maxHeartbeats 4000000 in
set_option maxRecDepth 100000 in
theorem c_X6_placeOf (zl : Launch) (G : jG) (s0 : Nat) (w0 : Nat) (s1 : Nat) (s2 : Nat) (s3 : Nat) (q : Nat) (k : Nat) (mc : Nat) (wp : Nat) (bt : Nat) (md : Nat) (pl : Nat → Nat) (i : Nat) (hk : k ≤ 500) (hi : i < k) : jMet zl yX6_placeOf wsX6_placeOf ({ frames := 1, cells := 0, slots := 0, locals := 21 }) G [oC s0 6 [.ref w0, .ref s1, .ref s2, .ref s3, .int (nI q), .int (nI k), .int (nI mc), .int (nI wp), .int (nI bt), .int (nI md)], aI G s1 500 pl] [.ref s0, .int (nI i)] (jQi G (fun (r : Int32) (u : Unit) => (r = nI (pl i))) (fun (u : Unit) => [oC s0 6 [.ref w0, .ref s1, .ref s2, .ref s3, .int (nI q), .int (nI k), .int (nI mc), .int (nI wp), .int (nI bt), .int (nI md)], aI G s1 500 pl])) 0 0 := by
  refine j_enter_i (cc := cX6_placeOf) (nL := 2) (nm := "placeOf") (own := RX6) (lv := [(0, .ref s0), (1, .int (nI i))]) (by decide) rfl (Nat.le_of_ble_eq_true rfl) rfl rfl rfl ?_
  intro zA zp ze zs zm zargs zbelow zmeth zc zQ ls hC hQ hI hl
  have zx := hC.1
  have zb := hC.2.1
  refine lv_aload_n zx zb dX6_placeOf_0 rfl (lv_at hl 0 rfl) ?_
  refine lv_iload_n zx zb dX6_placeOf_1 rfl (lv_at hl 1 rfl) ?_
  refine j_callVi (wr := [aI G s1 500 pl]) hC hI (c_X6_has zl G s0 w0 s1 s2 s3 q k mc wp bt md i (by omega) (by omega)) (cwV 1 hC.2.2.2.2.1 gX6_placeOf_X6_has rfl rfl rfl (by decide +kernel) ⟨Nat.le_of_ble_eq_true rfl, Nat.le_of_ble_eq_true rfl⟩) [0] [1] rfl rfl rfl rfl rfl rfl (q0 := 0) rfl rfl rfl hl.1 (Nat.le_of_ble_eq_true rfl) dX6_placeOf_2 ⟨Nat.le_of_ble_eq_true rfl, Nat.le_of_ble_eq_true rfl⟩ (fun rv2 u2 H locs hp2 hI => ?_)
  have hI : jI G zA zs [aI G s1 500 pl, oC s0 6 [.ref w0, .ref s1, .ref s2, .ref s3, .int (nI q), .int (nI k), .int (nI mc), .int (nI wp), .int (nI bt), .int (nI md)]] H locs := hI
  subst hp2
  refine j_if_eq (tgt := 17) hC dX6_placeOf_5 (by decide) (by omega) (fun c5 => ?_) (fun c5 => ?_)
  · exact (by omega : False).elim
  · refine lv_aload_n zx zb dX6_placeOf_8 rfl (lv_at hl 0 rfl) ?_
    refine j_get hC hI hin_X6_placeOf_X6 1 rfl rfl 1 (by decide) hfl_X6_placeOf_20 rfl rfl dX6_placeOf_9 ?_
    refine lv_iload_n zx zb dX6_placeOf_12 rfl (lv_at hl 1 rfl) ?_
    refine j_iald hC hI 0 rfl (by omega) (by omega) dX6_placeOf_13 ?_
    refine lv_goto (tgt := 18) zx zb dX6_placeOf_14 (by decide) ?_
    exact hQ _ _ _ _ _ () dX6_placeOf_18 (hI.sub [1, 0] rfl rfl) (by first | rfl | (congr 1; omega) | omega)

theorem hin_X6_lengthOf_X6 : ∀ w ∈ wsX60, w ∈ wsX6_lengthOf := by decide +kernel
theorem hfl_X6_lengthOf_24 : Cond.fieldLink RX6 24 "CheapParse$Steps" "lengths" "[I" ∈ wsX6_lengthOf := by decide +kernel
set_option maxHeartbeats 4000000 in
set_option maxRecDepth 100000 in
theorem c_X6_lengthOf (zl : Launch) (G : jG) (s0 : Nat) (w0 : Nat) (s1 : Nat) (s2 : Nat) (s3 : Nat) (q : Nat) (k : Nat) (mc : Nat) (wp : Nat) (bt : Nat) (md : Nat) (ln : Nat → Nat) (i : Nat) (hk : k ≤ 500) (hi : i < k) : jMet zl yX6_lengthOf wsX6_lengthOf ({ frames := 1, cells := 0, slots := 0, locals := 21 }) G [oC s0 6 [.ref w0, .ref s1, .ref s2, .ref s3, .int (nI q), .int (nI k), .int (nI mc), .int (nI wp), .int (nI bt), .int (nI md)], aI G s2 500 ln] [.ref s0, .int (nI i)] (jQi G (fun (r : Int32) (u : Unit) => (r = nI (ln i))) (fun (u : Unit) => [oC s0 6 [.ref w0, .ref s1, .ref s2, .ref s3, .int (nI q), .int (nI k), .int (nI mc), .int (nI wp), .int (nI bt), .int (nI md)], aI G s2 500 ln])) 0 0 := by
  refine j_enter_i (cc := cX6_lengthOf) (nL := 2) (nm := "lengthOf") (own := RX6) (lv := [(0, .ref s0), (1, .int (nI i))]) (by decide) rfl (Nat.le_of_ble_eq_true rfl) rfl rfl rfl ?_
  intro zA zp ze zs zm zargs zbelow zmeth zc zQ ls hC hQ hI hl
  have zx := hC.1
  have zb := hC.2.1
  refine lv_aload_n zx zb dX6_lengthOf_0 rfl (lv_at hl 0 rfl) ?_
  refine lv_iload_n zx zb dX6_lengthOf_1 rfl (lv_at hl 1 rfl) ?_
  refine j_callVi (wr := [aI G s2 500 ln]) hC hI (c_X6_has zl G s0 w0 s1 s2 s3 q k mc wp bt md i (by omega) (by omega)) (cwV 1 hC.2.2.2.2.1 gX6_lengthOf_X6_has rfl rfl rfl (by decide +kernel) ⟨Nat.le_of_ble_eq_true rfl, Nat.le_of_ble_eq_true rfl⟩) [0] [1] rfl rfl rfl rfl rfl rfl (q0 := 0) rfl rfl rfl hl.1 (Nat.le_of_ble_eq_true rfl) dX6_lengthOf_2 ⟨Nat.le_of_ble_eq_true rfl, Nat.le_of_ble_eq_true rfl⟩ (fun rv2 u2 H locs hp2 hI => ?_)
  have hI : jI G zA zs [aI G s2 500 ln, oC s0 6 [.ref w0, .ref s1, .ref s2, .ref s3, .int (nI q), .int (nI k), .int (nI mc), .int (nI wp), .int (nI bt), .int (nI md)]] H locs := hI
  subst hp2
  refine j_if_eq (tgt := 17) hC dX6_lengthOf_5 (by decide) (by omega) (fun c5 => ?_) (fun c5 => ?_)
  · exact (by omega : False).elim
  · refine lv_aload_n zx zb dX6_lengthOf_8 rfl (lv_at hl 0 rfl) ?_
    refine j_get hC hI hin_X6_lengthOf_X6 1 rfl rfl 2 (by decide) hfl_X6_lengthOf_24 rfl rfl dX6_lengthOf_9 ?_
    refine lv_iload_n zx zb dX6_lengthOf_12 rfl (lv_at hl 1 rfl) ?_
    refine j_iald hC hI 0 rfl (by omega) (by omega) dX6_lengthOf_13 ?_
    refine lv_goto (tgt := 18) zx zb dX6_lengthOf_14 (by decide) ?_
    exact hQ _ _ _ _ _ () dX6_lengthOf_18 (hI.sub [1, 0] rfl rfl) (by first | rfl | (congr 1; omega) | omega)

theorem hin_X6_distanceOf_X6 : ∀ w ∈ wsX60, w ∈ wsX6_distanceOf := by decide +kernel
theorem hfl_X6_distanceOf_27 : Cond.fieldLink RX6 27 "CheapParse$Steps" "distances" "[I" ∈ wsX6_distanceOf := by decide +kernel
set_option maxHeartbeats 4000000 in
set_option maxRecDepth 100000 in
theorem c_X6_distanceOf (zl : Launch) (G : jG) (s0 : Nat) (w0 : Nat) (s1 : Nat) (s2 : Nat) (s3 : Nat) (q : Nat) (k : Nat) (mc : Nat) (wp : Nat) (bt : Nat) (md : Nat) (ds : Nat → Nat) (i : Nat) (hk : k ≤ 500) (hi : i < k) : jMet zl yX6_distanceOf wsX6_distanceOf ({ frames := 1, cells := 0, slots := 0, locals := 21 }) G [oC s0 6 [.ref w0, .ref s1, .ref s2, .ref s3, .int (nI q), .int (nI k), .int (nI mc), .int (nI wp), .int (nI bt), .int (nI md)], aI G s3 500 ds] [.ref s0, .int (nI i)] (jQi G (fun (r : Int32) (u : Unit) => (r = nI (ds i))) (fun (u : Unit) => [oC s0 6 [.ref w0, .ref s1, .ref s2, .ref s3, .int (nI q), .int (nI k), .int (nI mc), .int (nI wp), .int (nI bt), .int (nI md)], aI G s3 500 ds])) 0 0 := by
  refine j_enter_i (cc := cX6_distanceOf) (nL := 2) (nm := "distanceOf") (own := RX6) (lv := [(0, .ref s0), (1, .int (nI i))]) (by decide) rfl (Nat.le_of_ble_eq_true rfl) rfl rfl rfl ?_
  intro zA zp ze zs zm zargs zbelow zmeth zc zQ ls hC hQ hI hl
  have zx := hC.1
  have zb := hC.2.1
  refine lv_aload_n zx zb dX6_distanceOf_0 rfl (lv_at hl 0 rfl) ?_
  refine lv_iload_n zx zb dX6_distanceOf_1 rfl (lv_at hl 1 rfl) ?_
  refine j_callVi (wr := [aI G s3 500 ds]) hC hI (c_X6_has zl G s0 w0 s1 s2 s3 q k mc wp bt md i (by omega) (by omega)) (cwV 1 hC.2.2.2.2.1 gX6_distanceOf_X6_has rfl rfl rfl (by decide +kernel) ⟨Nat.le_of_ble_eq_true rfl, Nat.le_of_ble_eq_true rfl⟩) [0] [1] rfl rfl rfl rfl rfl rfl (q0 := 0) rfl rfl rfl hl.1 (Nat.le_of_ble_eq_true rfl) dX6_distanceOf_2 ⟨Nat.le_of_ble_eq_true rfl, Nat.le_of_ble_eq_true rfl⟩ (fun rv2 u2 H locs hp2 hI => ?_)
  have hI : jI G zA zs [aI G s3 500 ds, oC s0 6 [.ref w0, .ref s1, .ref s2, .ref s3, .int (nI q), .int (nI k), .int (nI mc), .int (nI wp), .int (nI bt), .int (nI md)]] H locs := hI
  subst hp2
  refine j_if_eq (tgt := 17) hC dX6_distanceOf_5 (by decide) (by omega) (fun c5 => ?_) (fun c5 => ?_)
  · exact (by omega : False).elim
  · refine lv_aload_n zx zb dX6_distanceOf_8 rfl (lv_at hl 0 rfl) ?_
    refine j_get hC hI hin_X6_distanceOf_X6 1 rfl rfl 3 (by decide) hfl_X6_distanceOf_27 rfl rfl dX6_distanceOf_9 ?_
    refine lv_iload_n zx zb dX6_distanceOf_12 rfl (lv_at hl 1 rfl) ?_
    refine j_iald hC hI 0 rfl (by omega) (by omega) dX6_distanceOf_13 ?_
    refine lv_goto (tgt := 18) zx zb dX6_distanceOf_14 (by decide) ?_
    exact hQ _ _ _ _ _ () dX6_distanceOf_18 (hI.sub [1, 0] rfl rfl) (by first | rfl | (congr 1; omega) | omega)

theorem hin_X6_byteOf_X6 : ∀ w ∈ wsX60, w ∈ wsX6_byteOf := by decide +kernel
theorem hfl_X6_byteOf_27 : Cond.fieldLink RX6 27 "CheapParse$Steps" "distances" "[I" ∈ wsX6_byteOf := by decide +kernel
theorem hfl_X6_byteOf_14 : Cond.fieldLink RX6 14 "CheapParse$Steps" "text" "LCheapParse$Bytes;" ∈ wsX6_byteOf := by decide +kernel
theorem hfl_X6_byteOf_20 : Cond.fieldLink RX6 20 "CheapParse$Steps" "places" "[I" ∈ wsX6_byteOf := by decide +kernel
set_option maxHeartbeats 4000000 in
set_option maxRecDepth 100000 in
theorem c_X6_byteOf (zl : Launch) (G : jG) (s0 : Nat) (w0 : Nat) (w1 : Nat) (s1 : Nat) (s2 : Nat) (s3 : Nat) (q : Nat) (k : Nat) (mc : Nat) (wp : Nat) (bt : Nat) (md : Nat) (pn : Nat) (P : Nat → Nat) (pl : Nat → Nat) (ds : Nat → Nat) (i : Nat) (hk : k ≤ 500) (hi : i < k) (hn : pn ≤ 500) (hd : ds i = 0) (hp : pl i < pn) : jMet zl yX6_byteOf wsX6_byteOf ({ frames := 1, cells := 0, slots := 0, locals := 21 }) G [oC s0 6 [.ref w0, .ref s1, .ref s2, .ref s3, .int (nI q), .int (nI k), .int (nI mc), .int (nI wp), .int (nI bt), .int (nI md)], oC w0 1 [.ref w1, .int (nI pn)], aI G w1 500 P, aI G s1 500 pl, aI G s3 500 ds] [.ref s0, .int (nI i)] (jQi G (fun (r : Int32) (u : Unit) => (r = nI (P (pl i)))) (fun (u : Unit) => [oC s0 6 [.ref w0, .ref s1, .ref s2, .ref s3, .int (nI q), .int (nI k), .int (nI mc), .int (nI wp), .int (nI bt), .int (nI md)], oC w0 1 [.ref w1, .int (nI pn)], aI G w1 500 P, aI G s1 500 pl, aI G s3 500 ds])) 0 0 := by
  refine j_enter_i (cc := cX6_byteOf) (nL := 2) (nm := "byteOf") (own := RX6) (lv := [(0, .ref s0), (1, .int (nI i))]) (by decide) rfl (Nat.le_of_ble_eq_true rfl) rfl rfl rfl ?_
  intro zA zp ze zs zm zargs zbelow zmeth zc zQ ls hC hQ hI hl
  have zx := hC.1
  have zb := hC.2.1
  refine lv_aload_n zx zb dX6_byteOf_0 rfl (lv_at hl 0 rfl) ?_
  refine lv_iload_n zx zb dX6_byteOf_1 rfl (lv_at hl 1 rfl) ?_
  refine j_callVi (wr := [oC w0 1 [.ref w1, .int (nI pn)], aI G w1 500 P, aI G s1 500 pl, aI G s3 500 ds]) hC hI (c_X6_has zl G s0 w0 s1 s2 s3 q k mc wp bt md i (by omega) (by omega)) (cwV 1 hC.2.2.2.2.1 gX6_byteOf_X6_has rfl rfl rfl (by decide +kernel) ⟨Nat.le_of_ble_eq_true rfl, Nat.le_of_ble_eq_true rfl⟩) [0] [1, 2, 3, 4] rfl rfl rfl rfl rfl rfl (q0 := 0) rfl rfl rfl hl.1 (Nat.le_of_ble_eq_true rfl) dX6_byteOf_2 ⟨Nat.le_of_ble_eq_true rfl, Nat.le_of_ble_eq_true rfl⟩ (fun rv2 u2 H locs hp2 hI => ?_)
  have hI : jI G zA zs [oC w0 1 [.ref w1, .int (nI pn)], aI G w1 500 P, aI G s1 500 pl, aI G s3 500 ds, oC s0 6 [.ref w0, .ref s1, .ref s2, .ref s3, .int (nI q), .int (nI k), .int (nI mc), .int (nI wp), .int (nI bt), .int (nI md)]] H locs := hI
  subst hp2
  refine j_if_eq (tgt := 33) hC dX6_byteOf_5 (by decide) (by omega) (fun c5 => ?_) (fun c5 => ?_)
  · exact (by omega : False).elim
  · refine lv_aload_n zx zb dX6_byteOf_8 rfl (lv_at hl 0 rfl) ?_
    refine j_get hC hI hin_X6_byteOf_X6 4 rfl rfl 3 (by decide) hfl_X6_byteOf_27 rfl rfl dX6_byteOf_9 ?_
    refine lv_iload_n zx zb dX6_byteOf_12 rfl (lv_at hl 1 rfl) ?_
    refine j_iald hC hI 3 rfl (by omega) (by omega) dX6_byteOf_13 ?_
    refine j_if_ne (tgt := 33) hC dX6_byteOf_14 (by decide) (by omega) (fun c14 => ?_) (fun c14 => ?_)
    · exact (by omega : False).elim
    · refine lv_aload_n zx zb dX6_byteOf_17 rfl (lv_at hl 0 rfl) ?_
      refine j_get hC hI hin_X6_byteOf_X6 4 rfl rfl 0 (by decide) hfl_X6_byteOf_14 rfl rfl dX6_byteOf_18 ?_
      refine lv_aload_n zx zb dX6_byteOf_21 rfl (lv_at hl 0 rfl) ?_
      refine j_get hC hI hin_X6_byteOf_X6 4 rfl rfl 1 (by decide) hfl_X6_byteOf_20 rfl rfl dX6_byteOf_22 ?_
      refine lv_iload_n zx zb dX6_byteOf_25 rfl (lv_at hl 1 rfl) ?_
      refine j_iald hC hI 2 rfl (by omega) (by omega) dX6_byteOf_26 ?_
      refine j_callVi (wr := [aI G s1 500 pl, aI G s3 500 ds, oC s0 6 [.ref w0, .ref s1, .ref s2, .ref s3, .int (nI q), .int (nI k), .int (nI mc), .int (nI wp), .int (nI bt), .int (nI md)]]) hC hI (c_X1_get_in zl G w0 w1 500 pn (pl i) P (by omega) (by omega) (by omega)) (cwV 1 hC.2.2.2.2.1 gX6_byteOf_X1_get rfl rfl rfl (by decide +kernel) ⟨Nat.le_of_ble_eq_true rfl, Nat.le_of_ble_eq_true rfl⟩) [0, 1] [2, 3, 4] rfl rfl rfl rfl rfl rfl (q0 := 0) rfl rfl rfl hl.1 (Nat.le_of_ble_eq_true rfl) dX6_byteOf_27 ⟨Nat.le_of_ble_eq_true rfl, Nat.le_of_ble_eq_true rfl⟩ (fun rv27 u27 H locs hp27 hI => ?_)
      have hI : jI G zA zs [aI G s1 500 pl, aI G s3 500 ds, oC s0 6 [.ref w0, .ref s1, .ref s2, .ref s3, .int (nI q), .int (nI k), .int (nI mc), .int (nI wp), .int (nI bt), .int (nI md)], oC w0 1 [.ref w1, .int (nI pn)], aI G w1 500 P] H locs := hI
      subst hp27
      refine lv_goto (tgt := 34) zx zb dX6_byteOf_30 (by decide) ?_
      exact hQ _ _ _ _ _ () dX6_byteOf_34 (hI.sub [2, 3, 4, 0, 1] rfl rfl) (by first | rfl | (congr 1; omega) | omega)

set_option maxHeartbeats 4000000 in
set_option maxRecDepth 100000 in
theorem c_X6_byteOf_m (zl : Launch) (G : jG) (s0 : Nat) (w0 : Nat) (s1 : Nat) (s2 : Nat) (s3 : Nat) (q : Nat) (k : Nat) (mc : Nat) (wp : Nat) (bt : Nat) (md : Nat) (ds : Nat → Nat) (i : Nat) (hk : k ≤ 500) (hi : i < k) (hd : ds i ≠ 0) (hd2 : ds i < 1000) : jMet zl yX6_byteOf wsX6_byteOf ({ frames := 1, cells := 0, slots := 0, locals := 21 }) G [oC s0 6 [.ref w0, .ref s1, .ref s2, .ref s3, .int (nI q), .int (nI k), .int (nI mc), .int (nI wp), .int (nI bt), .int (nI md)], aI G s3 500 ds] [.ref s0, .int (nI i)] (jQi G (fun (r : Int32) (u : Unit) => (r = -1)) (fun (u : Unit) => [oC s0 6 [.ref w0, .ref s1, .ref s2, .ref s3, .int (nI q), .int (nI k), .int (nI mc), .int (nI wp), .int (nI bt), .int (nI md)], aI G s3 500 ds])) 0 0 := by
  refine j_enter_i (cc := cX6_byteOf) (nL := 2) (nm := "byteOf") (own := RX6) (lv := [(0, .ref s0), (1, .int (nI i))]) (by decide) rfl (Nat.le_of_ble_eq_true rfl) rfl rfl rfl ?_
  intro zA zp ze zs zm zargs zbelow zmeth zc zQ ls hC hQ hI hl
  have zx := hC.1
  have zb := hC.2.1
  refine lv_aload_n zx zb dX6_byteOf_0 rfl (lv_at hl 0 rfl) ?_
  refine lv_iload_n zx zb dX6_byteOf_1 rfl (lv_at hl 1 rfl) ?_
  refine j_callVi (wr := [aI G s3 500 ds]) hC hI (c_X6_has zl G s0 w0 s1 s2 s3 q k mc wp bt md i (by omega) (by omega)) (cwV 1 hC.2.2.2.2.1 gX6_byteOf_X6_has rfl rfl rfl (by decide +kernel) ⟨Nat.le_of_ble_eq_true rfl, Nat.le_of_ble_eq_true rfl⟩) [0] [1] rfl rfl rfl rfl rfl rfl (q0 := 0) rfl rfl rfl hl.1 (Nat.le_of_ble_eq_true rfl) dX6_byteOf_2 ⟨Nat.le_of_ble_eq_true rfl, Nat.le_of_ble_eq_true rfl⟩ (fun rv2 u2 H locs hp2 hI => ?_)
  have hI : jI G zA zs [aI G s3 500 ds, oC s0 6 [.ref w0, .ref s1, .ref s2, .ref s3, .int (nI q), .int (nI k), .int (nI mc), .int (nI wp), .int (nI bt), .int (nI md)]] H locs := hI
  subst hp2
  refine j_if_eq (tgt := 33) hC dX6_byteOf_5 (by decide) (by omega) (fun c5 => ?_) (fun c5 => ?_)
  · exact (by omega : False).elim
  · refine lv_aload_n zx zb dX6_byteOf_8 rfl (lv_at hl 0 rfl) ?_
    refine j_get hC hI hin_X6_byteOf_X6 1 rfl rfl 3 (by decide) hfl_X6_byteOf_27 rfl rfl dX6_byteOf_9 ?_
    refine lv_iload_n zx zb dX6_byteOf_12 rfl (lv_at hl 1 rfl) ?_
    refine j_iald hC hI 0 rfl (by omega) (by omega) dX6_byteOf_13 ?_
    refine j_if_ne (tgt := 33) hC dX6_byteOf_14 (by decide) (by omega) (fun c14 => ?_) (fun c14 => ?_)
    · refine lv_iconst (v := (-1)) zx zb dX6_byteOf_33 (by decide) ?_
      exact hQ _ _ _ _ _ () dX6_byteOf_34 (hI.sub [1, 0] rfl rfl) (by first | rfl | (congr 1; omega) | omega)
    · exact (by omega : False).elim

set_option maxHeartbeats 4000000 in
set_option maxRecDepth 100000 in
theorem c_X6_putMatch (zl : Launch) (G : jG) (s0 : Nat) (w0 : Nat) (s1 : Nat) (s2 : Nat) (s3 : Nat) (q : Nat) (k : Nat) (mc : Nat) (wp : Nat) (bt : Nat) (md : Nat) (z0 : Nat) (z1 : Nat) (b : Nat) (d : Nat) (bb : Nat) (f : Nat → Nat) (w : Nat → Nat) (hb : q ≤ b) (hb2 : b ≤ 255) (hd : d < 512) (hw : bwOK f bb w) (hbb : bb + 6 + 2 * (b - q + 1).log2 + d.log2 ≤ 4520) : jMet zl yX6_putMatch wsX6_putMatch ({ frames := 2, cells := 0, slots := 0, locals := 45 }) G [oC s0 6 [.ref w0, .ref s1, .ref s2, .ref s3, .int (nI q), .int (nI k), .int (nI mc), .int (nI wp), .int (nI bt), .int (nI md)], oC z0 0 [.ref z1, .int (nI bb)], aI G z1 565 f] [.ref s0, .ref z0, .int (nI b), .int (nI d)] (jQv G (fun (u : (Nat → Nat)) => (bwOK u (bb + 1 + (2 * (b - q + 1).log2 + 1) + 4 + d.log2) (pt d d.log2 (pt d.log2 4 (pt (b - q + 1) (2 * (b - q + 1).log2 + 1) (pt 1 1 w bb) (bb + 1)) (bb + 1 + (2 * (b - q + 1).log2 + 1))) (bb + 1 + (2 * (b - q + 1).log2 + 1) + 4)))) (fun (u : (Nat → Nat)) => [oC s0 6 [.ref w0, .ref s1, .ref s2, .ref s3, .int (nI q), .int (nI k), .int (nI mc), .int (nI wp), .int (nI bt), .int (nI md)], oC z0 0 [.ref z1, .int (nI (bb + 1 + (2 * (b - q + 1).log2 + 1) + 4 + d.log2))], aI G z1 565 u])) 0 0 := by
  refine j_enter_v (cc := cX6_putMatch) (nL := 5) (nm := "putMatch") (own := RX6) (lv := [(0, .ref s0), (1, .ref z0), (2, .int (nI b)), (3, .int (nI d))]) (by decide) rfl (Nat.le_of_ble_eq_true rfl) rfl rfl rfl ?_
  intro zA zp ze zs zm zargs zbelow zmeth zc zQ ls hC hQ hI hl
  have zx := hC.1
  have zb := hC.2.1
  have hl1 : (b - q + 1).log2 ≤ 8 := lg_le (k := 8) (by omega)
  have hl2 : d.log2 ≤ 8 := lg_le (k := 8) hd
  refine lv_aload_n zx zb dX6_putMatch_0 rfl (lv_at hl 1 rfl) ?_
  refine lv_iconst (v := nI 1) zx zb dX6_putMatch_1 (by decide) ?_
  refine lv_iconst (v := nI 1) zx zb dX6_putMatch_2 (by decide) ?_
  refine j_callVv (wr := [oC s0 6 [.ref w0, .ref s1, .ref s2, .ref s3, .int (nI q), .int (nI k), .int (nI mc), .int (nI wp), .int (nI bt), .int (nI md)]]) hC hI (c_X0_put zl G z0 z1 bb 1 1 f w (by omega) (by omega) (by omega) hw) (cwV 2 hC.2.2.2.2.1 gX6_putMatch_X0_put rfl rfl rfl (by decide +kernel) ⟨Nat.le_of_ble_eq_true rfl, Nat.le_of_ble_eq_true rfl⟩) [1, 2] [0] rfl rfl rfl rfl rfl rfl (q0 := 0) rfl rfl rfl hl.1 (Nat.le_of_ble_eq_true rfl) dX6_putMatch_3 ⟨Nat.le_of_ble_eq_true rfl, Nat.le_of_ble_eq_true rfl⟩ (fun u3 H locs hp3 hI => ?_)
  obtain ⟨v3_0, rfl⟩ : ∃ z, z = u3 := ⟨_, rfl⟩
  have hI : jI G zA zs [oC s0 6 [.ref w0, .ref s1, .ref s2, .ref s3, .int (nI q), .int (nI k), .int (nI mc), .int (nI wp), .int (nI bt), .int (nI md)], oC z0 0 [.ref z1, .int (nI (bb + 1))], aI G z1 565 v3_0] H locs := hI
  have f3_0 := hp3
  refine lv_aload_n zx zb dX6_putMatch_6 rfl (lv_at hl 1 rfl) ?_
  refine lv_aload_n zx zb dX6_putMatch_7 rfl (lv_at hl 0 rfl) ?_
  refine lv_iload_n zx zb dX6_putMatch_8 rfl (lv_at hl 2 rfl) ?_
  refine j_callVi (wr := [oC z0 0 [.ref z1, .int (nI (bb + 1))], aI G z1 565 v3_0]) hC hI (c_X6_lengthTold zl G s0 w0 s1 s2 s3 q k mc wp bt md b (by omega)) (cwV 1 hC.2.2.2.2.1 gX6_putMatch_X6_lengthTold rfl rfl rfl (by decide +kernel) ⟨Nat.le_of_ble_eq_true rfl, Nat.le_of_ble_eq_true rfl⟩) [0] [1, 2] rfl rfl rfl rfl rfl rfl (q0 := 0) rfl rfl rfl hl.1 (Nat.le_of_ble_eq_true rfl) dX6_putMatch_9 ⟨Nat.le_of_ble_eq_true rfl, Nat.le_of_ble_eq_true rfl⟩ (fun rv9 u9 H locs hp9 hI => ?_)
  have hI : jI G zA zs [oC z0 0 [.ref z1, .int (nI (bb + 1))], aI G z1 565 v3_0, oC s0 6 [.ref w0, .ref s1, .ref s2, .ref s3, .int (nI q), .int (nI k), .int (nI mc), .int (nI wp), .int (nI bt), .int (nI md)]] H locs := hI
  subst hp9
  refine lv_aload_n zx zb dX6_putMatch_12 rfl (lv_at hl 0 rfl) ?_
  refine lv_iload_n zx zb dX6_putMatch_13 rfl (lv_at hl 2 rfl) ?_
  refine j_callVi (wr := [oC z0 0 [.ref z1, .int (nI (bb + 1))], aI G z1 565 v3_0]) hC hI (c_X6_lengthBits zl G s0 w0 s1 s2 s3 q k mc wp bt md b (by omega) (by omega)) (cwV 1 hC.2.2.2.2.1 gX6_putMatch_X6_lengthBits rfl rfl rfl (by decide +kernel) ⟨Nat.le_of_ble_eq_true rfl, Nat.le_of_ble_eq_true rfl⟩) [2] [0, 1] rfl rfl rfl rfl rfl rfl (q0 := 0) rfl rfl rfl hl.1 (Nat.le_of_ble_eq_true rfl) dX6_putMatch_14 ⟨Nat.le_of_ble_eq_true rfl, Nat.le_of_ble_eq_true rfl⟩ (fun rv14 u14 H locs hp14 hI => ?_)
  have hI : jI G zA zs [oC z0 0 [.ref z1, .int (nI (bb + 1))], aI G z1 565 v3_0, oC s0 6 [.ref w0, .ref s1, .ref s2, .ref s3, .int (nI q), .int (nI k), .int (nI mc), .int (nI wp), .int (nI bt), .int (nI md)]] H locs := hI
  subst hp14
  refine j_callVv (wr := [oC s0 6 [.ref w0, .ref s1, .ref s2, .ref s3, .int (nI q), .int (nI k), .int (nI mc), .int (nI wp), .int (nI bt), .int (nI md)]]) hC hI (c_X0_put zl G z0 z1 (bb + 1) (b - q + 1) (2 * (b - q + 1).log2 + 1) v3_0 (pt 1 1 w bb) (by omega) (by omega) (by omega) f3_0) (cwV 2 hC.2.2.2.2.1 gX6_putMatch_X0_put rfl rfl rfl (by decide +kernel) ⟨Nat.le_of_ble_eq_true rfl, Nat.le_of_ble_eq_true rfl⟩) [0, 1] [2] rfl rfl rfl rfl rfl rfl (q0 := 0) rfl rfl rfl hl.1 (Nat.le_of_ble_eq_true rfl) dX6_putMatch_17 ⟨Nat.le_of_ble_eq_true rfl, Nat.le_of_ble_eq_true rfl⟩ (fun u17 H locs hp17 hI => ?_)
  obtain ⟨v17_0, rfl⟩ : ∃ z, z = u17 := ⟨_, rfl⟩
  have hI : jI G zA zs [oC s0 6 [.ref w0, .ref s1, .ref s2, .ref s3, .int (nI q), .int (nI k), .int (nI mc), .int (nI wp), .int (nI bt), .int (nI md)], oC z0 0 [.ref z1, .int (nI ((bb + 1) + (2 * (b - q + 1).log2 + 1)))], aI G z1 565 v17_0] H locs := hI
  have f17_0 := hp17
  refine lv_iload_n zx zb dX6_putMatch_20 rfl (lv_at hl 3 rfl) ?_
  refine j_callSNi (wr := [oC s0 6 [.ref w0, .ref s1, .ref s2, .ref s3, .int (nI q), .int (nI k), .int (nI mc), .int (nI wp), .int (nI bt), .int (nI md)], oC z0 0 [.ref z1, .int (nI ((bb + 1) + (2 * (b - q + 1).log2 + 1)))], aI G z1 565 v17_0]) hC hI (c_X8_classOf zl G d (by omega)) ⟨va_cnB (host := "CheapParse") 1 hC.2.2.2.2.1 ggX6_putMatch_X8_classOf rfl rfl rfl (hI.2.2.2.2.2 _ (by decide +kernel)) (hC.2.2.2.2.1 _ (by decide +kernel)) (by decide +kernel) ⟨Nat.le_of_ble_eq_true rfl, Nat.le_of_ble_eq_true rfl⟩, hC.2.2.2.2.1 _ (by decide +kernel), trivial⟩ [] [0, 1, 2] rfl rfl rfl rfl rfl rfl rfl hl.1 (Nat.le_of_ble_eq_true rfl) dX6_putMatch_21 ⟨Nat.le_of_ble_eq_true rfl, Nat.le_of_ble_eq_true rfl⟩ (fun rv21 u21 H locs hp21 hI => ?_)
  have hI : jI G zA zs [oC s0 6 [.ref w0, .ref s1, .ref s2, .ref s3, .int (nI q), .int (nI k), .int (nI mc), .int (nI wp), .int (nI bt), .int (nI md)], oC z0 0 [.ref z1, .int (nI ((bb + 1) + (2 * (b - q + 1).log2 + 1)))], aI G z1 565 v17_0] H locs := hI
  subst hp21
  refine lv_istore (lv' := [(4, .int (nI d.log2)), (0, .ref s0), (1, .ref z0), (2, .int (nI b)), (3, .int (nI d))]) zx zb dX6_putMatch_24 hl (by decide) rfl (fun ls hl => ?_)
  refine lv_aload_n zx zb dX6_putMatch_26 rfl (lv_at hl 2 rfl) ?_
  refine lv_iload zx zb dX6_putMatch_27 (lv_at hl 0 rfl) ?_
  refine lv_iconst (v := nI 4) zx zb dX6_putMatch_29 (by decide) ?_
  refine j_callVv (wr := [oC s0 6 [.ref w0, .ref s1, .ref s2, .ref s3, .int (nI q), .int (nI k), .int (nI mc), .int (nI wp), .int (nI bt), .int (nI md)]]) hC hI (c_X0_put zl G z0 z1 ((bb + 1) + (2 * (b - q + 1).log2 + 1)) d.log2 4 v17_0 (pt (b - q + 1) (2 * (b - q + 1).log2 + 1) (pt 1 1 w bb) (bb + 1)) (by omega) (by omega) (by omega) f17_0) (cwV 2 hC.2.2.2.2.1 gX6_putMatch_X0_put rfl rfl rfl (by decide +kernel) ⟨Nat.le_of_ble_eq_true rfl, Nat.le_of_ble_eq_true rfl⟩) [1, 2] [0] rfl rfl rfl rfl rfl rfl (q0 := 0) rfl rfl rfl hl.1 (Nat.le_of_ble_eq_true rfl) dX6_putMatch_30 ⟨Nat.le_of_ble_eq_true rfl, Nat.le_of_ble_eq_true rfl⟩ (fun u30 H locs hp30 hI => ?_)
  obtain ⟨v30_0, rfl⟩ : ∃ z, z = u30 := ⟨_, rfl⟩
  have hI : jI G zA zs [oC s0 6 [.ref w0, .ref s1, .ref s2, .ref s3, .int (nI q), .int (nI k), .int (nI mc), .int (nI wp), .int (nI bt), .int (nI md)], oC z0 0 [.ref z1, .int (nI (((bb + 1) + (2 * (b - q + 1).log2 + 1)) + 4))], aI G z1 565 v30_0] H locs := hI
  have f30_0 := hp30
  refine lv_aload_n zx zb dX6_putMatch_33 rfl (lv_at hl 2 rfl) ?_
  refine lv_iload_n zx zb dX6_putMatch_34 rfl (lv_at hl 4 rfl) ?_
  refine lv_iload zx zb dX6_putMatch_35 (lv_at hl 0 rfl) ?_
  refine j_callVv (wr := [oC s0 6 [.ref w0, .ref s1, .ref s2, .ref s3, .int (nI q), .int (nI k), .int (nI mc), .int (nI wp), .int (nI bt), .int (nI md)]]) hC hI (c_X0_put zl G z0 z1 (((bb + 1) + (2 * (b - q + 1).log2 + 1)) + 4) d d.log2 v30_0 (pt d.log2 4 (pt (b - q + 1) (2 * (b - q + 1).log2 + 1) (pt 1 1 w bb) (bb + 1)) (bb + 1 + (2 * (b - q + 1).log2 + 1))) (by omega) (by omega) (by omega) f30_0) (cwV 2 hC.2.2.2.2.1 gX6_putMatch_X0_put rfl rfl rfl (by decide +kernel) ⟨Nat.le_of_ble_eq_true rfl, Nat.le_of_ble_eq_true rfl⟩) [1, 2] [0] rfl rfl rfl rfl rfl rfl (q0 := 0) rfl rfl rfl hl.1 (Nat.le_of_ble_eq_true rfl) dX6_putMatch_37 ⟨Nat.le_of_ble_eq_true rfl, Nat.le_of_ble_eq_true rfl⟩ (fun u37 H locs hp37 hI => ?_)
  obtain ⟨v37_0, rfl⟩ : ∃ z, z = u37 := ⟨_, rfl⟩
  have hI : jI G zA zs [oC s0 6 [.ref w0, .ref s1, .ref s2, .ref s3, .int (nI q), .int (nI k), .int (nI mc), .int (nI wp), .int (nI bt), .int (nI md)], oC z0 0 [.ref z1, .int (nI ((((bb + 1) + (2 * (b - q + 1).log2 + 1)) + 4) + d.log2))], aI G z1 565 v37_0] H locs := hI
  have f37_0 := hp37
  exact hQ _ _ _ _ v37_0 dX6_putMatch_40 (hI.sub [0, 1, 2] rfl rfl) f37_0

theorem hin_X6_putInto_X6 : ∀ w ∈ wsX60, w ∈ wsX6_putInto := by decide +kernel
theorem hfl_X6_putInto_14 : Cond.fieldLink RX6 14 "CheapParse$Steps" "text" "LCheapParse$Bytes;" ∈ wsX6_putInto := by decide +kernel
theorem hfl_X6_putInto_34 : Cond.fieldLink RX6 34 "CheapParse$Steps" "count" "I" ∈ wsX6_putInto := by decide +kernel
theorem hfl_X6_putInto_27 : Cond.fieldLink RX6 27 "CheapParse$Steps" "distances" "[I" ∈ wsX6_putInto := by decide +kernel
theorem hfl_X6_putInto_24 : Cond.fieldLink RX6 24 "CheapParse$Steps" "lengths" "[I" ∈ wsX6_putInto := by decide +kernel
set_option maxHeartbeats 4000000 in
set_option maxRecDepth 100000 in
theorem c_X6_putInto (zl : Launch) (G : jG) (s0 : Nat) (w0 : Nat) (w1 : Nat) (s1 : Nat) (s2 : Nat) (s3 : Nat) (q : Nat) (k : Nat) (mc : Nat) (wp : Nat) (bt : Nat) (md : Nat) (pn : Nat) (P : Nat → Nat) (pl : Nat → Nat) (ln : Nat → Nat) (ds : Nat → Nat) (z0 : Nat) (z1 : Nat) (bb : Nat) (f : Nat → Nat) (w : Nat → Nat) (hk : k ≤ 500) (hn : pn ≤ 500) (hPb : ∀ j, j < pn → P j < 256) (ht : tile P q pl ln ds k pn) : jMet zl yX6_putInto wsX6_putInto ({ frames := 3, cells := 0, slots := 0, locals := 69 }) G [oC s0 6 [.ref w0, .ref s1, .ref s2, .ref s3, .int (nI q), .int (nI k), .int (nI mc), .int (nI wp), .int (nI bt), .int (nI md)], oC w0 1 [.ref w1, .int (nI pn)], aI G w1 500 P, aI G s1 500 pl, aI G s2 500 ln, aI G s3 500 ds, oC z0 0 [.ref z1, .int (nI bb)], aI G z1 565 f] [.ref s0, .ref z0] (jQv G (fun (u : (Nat → Nat)) => (bwOK u (wal P q pl ln ds (pt pn 16 w 0, 16) k).2 (wal P q pl ln ds (pt pn 16 w 0, 16) k).1)) (fun (u : (Nat → Nat)) => [oC s0 6 [.ref w0, .ref s1, .ref s2, .ref s3, .int (nI q), .int (nI k), .int (nI mc), .int (nI wp), .int (nI bt), .int (nI md)], oC w0 1 [.ref w1, .int (nI pn)], aI G w1 500 P, aI G s1 500 pl, aI G s2 500 ln, aI G s3 500 ds, oC z0 0 [.ref z1, .int (nI ((wal P q pl ln ds (pt pn 16 w 0, 16) k).2))], aI G z1 565 u])) 0 0 := by
  refine j_enter_v (cc := cX6_putInto) (nL := 3) (nm := "putInto") (own := RX6) (lv := [(0, .ref s0), (1, .ref z0)]) (by decide) rfl (Nat.le_of_ble_eq_true rfl) rfl rfl rfl ?_
  intro zA zp ze zs zm zargs zbelow zmeth zc zQ ls hC hQ hI hl
  have zx := hC.1
  have zb := hC.2.1
  refine lv_aload_n zx zb dX6_putInto_0 rfl (lv_at hl 1 rfl) ?_
  refine j_callVv (wr := [oC s0 6 [.ref w0, .ref s1, .ref s2, .ref s3, .int (nI q), .int (nI k), .int (nI mc), .int (nI wp), .int (nI bt), .int (nI md)], oC w0 1 [.ref w1, .int (nI pn)], aI G w1 500 P, aI G s1 500 pl, aI G s2 500 ln, aI G s3 500 ds, aI G z1 565 f]) hC hI (c_X0_begin zl G z0 z1 bb ) (cwV 0 hC.2.2.2.2.1 gX6_putInto_X0_begin rfl rfl rfl (by decide +kernel) ⟨Nat.le_of_ble_eq_true rfl, Nat.le_of_ble_eq_true rfl⟩) [6] [0, 1, 2, 3, 4, 5, 7] rfl rfl rfl rfl rfl rfl (q0 := 0) rfl rfl rfl hl.1 (Nat.le_of_ble_eq_true rfl) dX6_putInto_1 ⟨Nat.le_of_ble_eq_true rfl, Nat.le_of_ble_eq_true rfl⟩ (fun u1 H locs hp1 hI => ?_)
  have hI : jI G zA zs [oC s0 6 [.ref w0, .ref s1, .ref s2, .ref s3, .int (nI q), .int (nI k), .int (nI mc), .int (nI wp), .int (nI bt), .int (nI md)], oC w0 1 [.ref w1, .int (nI pn)], aI G w1 500 P, aI G s1 500 pl, aI G s2 500 ln, aI G s3 500 ds, aI G z1 565 f, oC z0 0 [.ref z1, .int (nI 0)]] H locs := hI
  refine lv_aload_n zx zb dX6_putInto_4 rfl (lv_at hl 1 rfl) ?_
  refine lv_aload_n zx zb dX6_putInto_5 rfl (lv_at hl 0 rfl) ?_
  refine j_get hC hI hin_X6_putInto_X6 0 rfl rfl 0 (by decide) hfl_X6_putInto_14 rfl rfl dX6_putInto_6 ?_
  refine j_callVi (wr := [oC s0 6 [.ref w0, .ref s1, .ref s2, .ref s3, .int (nI q), .int (nI k), .int (nI mc), .int (nI wp), .int (nI bt), .int (nI md)], aI G w1 500 P, aI G s1 500 pl, aI G s2 500 ln, aI G s3 500 ds, aI G z1 565 f, oC z0 0 [.ref z1, .int (nI 0)]]) hC hI (c_X1_size zl G w0 w1 pn ) (cwV 0 hC.2.2.2.2.1 gX6_putInto_X1_size rfl rfl rfl (by decide +kernel) ⟨Nat.le_of_ble_eq_true rfl, Nat.le_of_ble_eq_true rfl⟩) [1] [0, 2, 3, 4, 5, 6, 7] rfl rfl rfl rfl rfl rfl (q0 := 0) rfl rfl rfl hl.1 (Nat.le_of_ble_eq_true rfl) dX6_putInto_9 ⟨Nat.le_of_ble_eq_true rfl, Nat.le_of_ble_eq_true rfl⟩ (fun rv9 u9 H locs hp9 hI => ?_)
  have hI : jI G zA zs [oC s0 6 [.ref w0, .ref s1, .ref s2, .ref s3, .int (nI q), .int (nI k), .int (nI mc), .int (nI wp), .int (nI bt), .int (nI md)], aI G w1 500 P, aI G s1 500 pl, aI G s2 500 ln, aI G s3 500 ds, aI G z1 565 f, oC z0 0 [.ref z1, .int (nI 0)], oC w0 1 [.ref w1, .int (nI pn)]] H locs := hI
  subst hp9
  refine lv_bipush (v := nI 16) zx zb dX6_putInto_12 (by decide) ?_
  refine j_callVv (wr := [oC s0 6 [.ref w0, .ref s1, .ref s2, .ref s3, .int (nI q), .int (nI k), .int (nI mc), .int (nI wp), .int (nI bt), .int (nI md)], aI G w1 500 P, aI G s1 500 pl, aI G s2 500 ln, aI G s3 500 ds, oC w0 1 [.ref w1, .int (nI pn)]]) hC hI (c_X0_put zl G z0 z1 0 pn 16 f w (by omega) (by omega) (by omega) (bw_0 _ _)) (cwV 2 hC.2.2.2.2.1 gX6_putInto_X0_put rfl rfl rfl (by decide +kernel) ⟨Nat.le_of_ble_eq_true rfl, Nat.le_of_ble_eq_true rfl⟩) [6, 5] [0, 1, 2, 3, 4, 7] rfl rfl rfl rfl rfl rfl (q0 := 0) rfl rfl rfl hl.1 (Nat.le_of_ble_eq_true rfl) dX6_putInto_14 ⟨Nat.le_of_ble_eq_true rfl, Nat.le_of_ble_eq_true rfl⟩ (fun u14 H locs hp14 hI => ?_)
  obtain ⟨v14_0, rfl⟩ : ∃ z, z = u14 := ⟨_, rfl⟩
  have hI : jI G zA zs [oC s0 6 [.ref w0, .ref s1, .ref s2, .ref s3, .int (nI q), .int (nI k), .int (nI mc), .int (nI wp), .int (nI bt), .int (nI md)], aI G w1 500 P, aI G s1 500 pl, aI G s2 500 ln, aI G s3 500 ds, oC w0 1 [.ref w1, .int (nI pn)], oC z0 0 [.ref z1, .int (nI (0 + 16))], aI G z1 565 v14_0] H locs := hI
  have f14_0 := hp14
  refine lv_iconst (v := nI 0) zx zb dX6_putInto_17 (by decide) ?_
  refine lv_istore_n (lv' := [(2, .int (nI 0)), (0, .ref s0), (1, .ref z0)]) zx zb dX6_putInto_18 rfl hl (by decide) rfl (fun ls hl => ?_)
  have loop19 : ∀ (zn19 : Nat) (i : Nat) (b2 : Nat) (g : Nat → Nat), (i ≤ k) → (b2 = (wal P q pl ln ds (pt pn 16 w 0, 16) i).2) → (bwOK g b2 (wal P q pl ln ds (pt pn 16 w 0, 16) i).1) → (k - i) < zn19 → ∀ (H : Heap) (locs : List Loc) (ls : Array Slot), jI G zA zs [oC s0 6 [.ref w0, .ref s1, .ref s2, .ref s3, .int (nI q), .int (nI k), .int (nI mc), .int (nI wp), .int (nI bt), .int (nI md)], oC w0 1 [.ref w1, .int (nI pn)], aI G w1 500 P, aI G s1 500 pl, aI G s2 500 ln, aI G s3 500 ds, oC z0 0 [.ref z1, .int (nI b2)], aI G z1 565 g] H locs → lv_has ls 3 [(0, .ref s0), (1, .ref z0), (2, .int (nI i))] → W zp zl ze ({ frames := 3, cells := 0, slots := 0, locals := 69 }) zs zm zargs zbelow zmeth zc H locs 0 0 zQ (F0 zm 19 ls []) := by
    intro zn19
    induction zn19 with
    | zero => intros; omega
    | succ zn19 ih19 =>
      intro i b2 g hi hb2 hg zm19 H locs ls hI hl
      have hwl := wal_le (x := (pt pn 16 w 0, 16)) ht hn i hi
      have hpk : pos ln i ≤ pn := by rw [← ht.1]; have := pos_le (ln := ln) (a := i) (k - i); rwa [show i + (k - i) = k by omega] at this
      refine lv_iload_n zx zb dX6_putInto_19 rfl (lv_at hl 2 rfl) ?_
      refine lv_aload_n zx zb dX6_putInto_20 rfl (lv_at hl 0 rfl) ?_
      refine j_get hC hI hin_X6_putInto_X6 0 rfl rfl 5 (by decide) hfl_X6_putInto_34 rfl rfl dX6_putInto_21 ?_
      refine j_icmp_ge (tgt := 79) hC dX6_putInto_24 (by decide) (by omega) (by omega) (fun c24 => ?_) (fun c24 => ?_)
      · have ek : i = k := by omega
        subst ek
        exact hQ _ _ _ _ g dX6_putInto_79 (hI.sub [0, 1, 2, 3, 4, 5, 6, 7] rfl (by rw [← hb2]; rfl)) (by rw [← hb2]; exact hg)
      · obtain ⟨hs1, hs2, hs3, hs4⟩ := tile_i ht c24
        have hsl := wst_le (x := wal P q pl ln ds (pt pn 16 w 0, 16) i) hs1 (ht.2.1 (by omega)) (by omega)
        have hps : pos ln i + ln i ≤ pn := by omega
        have hwn : 16 + 9 * pn ≤ 4516 := by omega
        have hdl : ds i < 512 := by rcases hs1.2 with z | z <;> omega
        refine lv_aload_n zx zb dX6_putInto_27 rfl (lv_at hl 0 rfl) ?_
        refine j_get hC hI hin_X6_putInto_X6 0 rfl rfl 3 (by decide) hfl_X6_putInto_27 rfl rfl dX6_putInto_28 ?_
        refine lv_iload_n zx zb dX6_putInto_31 rfl (lv_at hl 2 rfl) ?_
        refine j_iald hC hI 5 rfl (by omega) (by omega) dX6_putInto_32 ?_
        refine j_if_ne (tgt := 56) hC dX6_putInto_33 (by decide) (by omega) (fun c33 => ?_) (fun c33 => ?_)
        · refine lv_aload_n zx zb dX6_putInto_56 rfl (lv_at hl 0 rfl) ?_
          refine lv_aload_n zx zb dX6_putInto_57 rfl (lv_at hl 1 rfl) ?_
          refine lv_aload_n zx zb dX6_putInto_58 rfl (lv_at hl 0 rfl) ?_
          refine j_get hC hI hin_X6_putInto_X6 0 rfl rfl 2 (by decide) hfl_X6_putInto_24 rfl rfl dX6_putInto_59 ?_
          refine lv_iload_n zx zb dX6_putInto_62 rfl (lv_at hl 2 rfl) ?_
          refine j_iald hC hI 4 rfl (by omega) (by omega) dX6_putInto_63 ?_
          refine lv_aload_n zx zb dX6_putInto_64 rfl (lv_at hl 0 rfl) ?_
          refine j_get hC hI hin_X6_putInto_X6 0 rfl rfl 3 (by decide) hfl_X6_putInto_27 rfl rfl dX6_putInto_65 ?_
          refine lv_iload_n zx zb dX6_putInto_68 rfl (lv_at hl 2 rfl) ?_
          refine j_iald hC hI 5 rfl (by omega) (by omega) dX6_putInto_69 ?_
          have hm2 : q ≤ ln i ∧ ln i ≤ 255 := by rcases hs1.2 with z | z; exact absurd z.1 c33; omega
          rw [wst, if_neg c33] at hsl
          have hsl2 : (wal P q pl ln ds (pt pn 16 w 0, 16) i).2 + 1 + (2 * (ln i - q + 1).log2 + 1) + 4 + (ds i).log2 ≤ (wal P q pl ln ds (pt pn 16 w 0, 16) i).2 + 9 * ln i := hsl.1
          refine j_callVv (wr := [oC w0 1 [.ref w1, .int (nI pn)], aI G w1 500 P, aI G s1 500 pl, aI G s2 500 ln, aI G s3 500 ds]) hC hI (c_X6_putMatch zl G s0 w0 s1 s2 s3 q k mc wp bt md z0 z1 (ln i) (ds i) b2 g ((wal P q pl ln ds (pt pn 16 w 0, 16) i).1) (by omega) (by omega) (by omega) hg (by omega)) (cwV 3 hC.2.2.2.2.1 gX6_putInto_X6_putMatch rfl rfl rfl (by decide +kernel) ⟨Nat.le_of_ble_eq_true rfl, Nat.le_of_ble_eq_true rfl⟩) [0, 6, 7] [1, 2, 3, 4, 5] rfl rfl rfl rfl rfl rfl (q0 := 0) rfl rfl rfl hl.1 (Nat.le_of_ble_eq_true rfl) dX6_putInto_70 ⟨Nat.le_of_ble_eq_true rfl, Nat.le_of_ble_eq_true rfl⟩ (fun u70 H locs hp70 hI => ?_)
          obtain ⟨v70_0, rfl⟩ : ∃ z, z = u70 := ⟨_, rfl⟩
          have hI : jI G zA zs [oC w0 1 [.ref w1, .int (nI pn)], aI G w1 500 P, aI G s1 500 pl, aI G s2 500 ln, aI G s3 500 ds, oC s0 6 [.ref w0, .ref s1, .ref s2, .ref s3, .int (nI q), .int (nI k), .int (nI mc), .int (nI wp), .int (nI bt), .int (nI md)], oC z0 0 [.ref z1, .int (nI (b2 + 1 + (2 * ((ln i) - q + 1).log2 + 1) + 4 + (ds i).log2))], aI G z1 565 v70_0] H locs := hI
          have f70_0 := hp70
          refine lv_iinc (v := nI (i + 1)) (lv' := [(2, .int (nI (i + 1))), (0, .ref s0), (1, .ref z0)]) zx zb dX6_putInto_73 hl (k := 2) rfl (j_inc _ _ _ (by decide)) (by decide) rfl (fun ls hl => ?_)
          refine lv_goto (tgt := 19) zx zb dX6_putInto_76 (by decide) ?_
          exact ih19 (i + 1) (b2 + 1 + (2 * ((ln i) - q + 1).log2 + 1) + 4 + (ds i).log2) v70_0 (by omega) (by rw [wal, wst, if_neg c33, hb2]) (by rw [wal, wst, if_neg c33, ← hb2]; exact f70_0) (by omega) _ _ _ (hI.sub [5, 0, 1, 2, 3, 4, 6, 7] rfl rfl) (lv_sub hl [1, 2, 0] rfl)
        · refine lv_aload_n zx zb dX6_putInto_36 rfl (lv_at hl 1 rfl) ?_
          refine lv_iconst (v := nI 0) zx zb dX6_putInto_37 (by decide) ?_
          refine lv_iconst (v := nI 1) zx zb dX6_putInto_38 (by decide) ?_
          refine j_callVv (wr := [oC s0 6 [.ref w0, .ref s1, .ref s2, .ref s3, .int (nI q), .int (nI k), .int (nI mc), .int (nI wp), .int (nI bt), .int (nI md)], oC w0 1 [.ref w1, .int (nI pn)], aI G w1 500 P, aI G s1 500 pl, aI G s2 500 ln, aI G s3 500 ds]) hC hI (c_X0_put zl G z0 z1 b2 0 1 g ((wal P q pl ln ds (pt pn 16 w 0, 16) i).1) (by omega) (by omega) (by omega) hg) (cwV 2 hC.2.2.2.2.1 gX6_putInto_X0_put rfl rfl rfl (by decide +kernel) ⟨Nat.le_of_ble_eq_true rfl, Nat.le_of_ble_eq_true rfl⟩) [6, 7] [0, 1, 2, 3, 4, 5] rfl rfl rfl rfl rfl rfl (q0 := 0) rfl rfl rfl hl.1 (Nat.le_of_ble_eq_true rfl) dX6_putInto_39 ⟨Nat.le_of_ble_eq_true rfl, Nat.le_of_ble_eq_true rfl⟩ (fun u39 H locs hp39 hI => ?_)
          obtain ⟨v39_0, rfl⟩ : ∃ z, z = u39 := ⟨_, rfl⟩
          have hI : jI G zA zs [oC s0 6 [.ref w0, .ref s1, .ref s2, .ref s3, .int (nI q), .int (nI k), .int (nI mc), .int (nI wp), .int (nI bt), .int (nI md)], oC w0 1 [.ref w1, .int (nI pn)], aI G w1 500 P, aI G s1 500 pl, aI G s2 500 ln, aI G s3 500 ds, oC z0 0 [.ref z1, .int (nI (b2 + 1))], aI G z1 565 v39_0] H locs := hI
          have f39_0 := hp39
          refine lv_aload_n zx zb dX6_putInto_42 rfl (lv_at hl 1 rfl) ?_
          refine lv_aload_n zx zb dX6_putInto_43 rfl (lv_at hl 0 rfl) ?_
          refine lv_iload_n zx zb dX6_putInto_44 rfl (lv_at hl 2 rfl) ?_
          refine j_callVi (wr := [aI G s2 500 ln, oC z0 0 [.ref z1, .int (nI (b2 + 1))], aI G z1 565 v39_0]) hC hI (c_X6_byteOf zl G s0 w0 w1 s1 s2 s3 q k mc wp bt md pn P pl ds i (by omega) (by omega) (by omega) (by omega) (by omega)) (cwV 1 hC.2.2.2.2.1 gX6_putInto_X6_byteOf rfl rfl rfl (by decide +kernel) ⟨Nat.le_of_ble_eq_true rfl, Nat.le_of_ble_eq_true rfl⟩) [0, 1, 2, 3, 5] [4, 6, 7] rfl rfl rfl rfl rfl rfl (q0 := 0) rfl rfl rfl hl.1 (Nat.le_of_ble_eq_true rfl) dX6_putInto_45 ⟨Nat.le_of_ble_eq_true rfl, Nat.le_of_ble_eq_true rfl⟩ (fun rv45 u45 H locs hp45 hI => ?_)
          have hI : jI G zA zs [aI G s2 500 ln, oC z0 0 [.ref z1, .int (nI (b2 + 1))], aI G z1 565 v39_0, oC s0 6 [.ref w0, .ref s1, .ref s2, .ref s3, .int (nI q), .int (nI k), .int (nI mc), .int (nI wp), .int (nI bt), .int (nI md)], oC w0 1 [.ref w1, .int (nI pn)], aI G w1 500 P, aI G s1 500 pl, aI G s3 500 ds] H locs := hI
          subst hp45
          have hq7 := hPb (pl i) (by omega)
          refine lv_bipush (v := nI 8) zx zb dX6_putInto_48 (by decide) ?_
          refine j_callVv (wr := [aI G s2 500 ln, oC s0 6 [.ref w0, .ref s1, .ref s2, .ref s3, .int (nI q), .int (nI k), .int (nI mc), .int (nI wp), .int (nI bt), .int (nI md)], oC w0 1 [.ref w1, .int (nI pn)], aI G w1 500 P, aI G s1 500 pl, aI G s3 500 ds]) hC hI (c_X0_put zl G z0 z1 (b2 + 1) (P (pl i)) 8 v39_0 (pt 0 1 (wal P q pl ln ds (pt pn 16 w 0, 16) i).1 b2) (by omega) (by omega) (by omega) f39_0) (cwV 2 hC.2.2.2.2.1 gX6_putInto_X0_put rfl rfl rfl (by decide +kernel) ⟨Nat.le_of_ble_eq_true rfl, Nat.le_of_ble_eq_true rfl⟩) [1, 2] [0, 3, 4, 5, 6, 7] rfl rfl rfl rfl rfl rfl (q0 := 0) rfl rfl rfl hl.1 (Nat.le_of_ble_eq_true rfl) dX6_putInto_50 ⟨Nat.le_of_ble_eq_true rfl, Nat.le_of_ble_eq_true rfl⟩ (fun u50 H locs hp50 hI => ?_)
          obtain ⟨v50_0, rfl⟩ : ∃ z, z = u50 := ⟨_, rfl⟩
          have hI : jI G zA zs [aI G s2 500 ln, oC s0 6 [.ref w0, .ref s1, .ref s2, .ref s3, .int (nI q), .int (nI k), .int (nI mc), .int (nI wp), .int (nI bt), .int (nI md)], oC w0 1 [.ref w1, .int (nI pn)], aI G w1 500 P, aI G s1 500 pl, aI G s3 500 ds, oC z0 0 [.ref z1, .int (nI ((b2 + 1) + 8))], aI G z1 565 v50_0] H locs := hI
          have f50_0 := hp50
          refine lv_goto (tgt := 73) zx zb dX6_putInto_53 (by decide) ?_
          refine lv_iinc (v := nI (i + 1)) (lv' := [(2, .int (nI (i + 1))), (0, .ref s0), (1, .ref z0)]) zx zb dX6_putInto_73 hl (k := 2) rfl (j_inc _ _ _ (by decide)) (by decide) rfl (fun ls hl => ?_)
          refine lv_goto (tgt := 19) zx zb dX6_putInto_76 (by decide) ?_
          exact ih19 (i + 1) ((b2 + 1) + 8) v50_0 (by omega) (by rw [wal, wst, if_pos c33, hb2]) (by rw [wal, wst, if_pos c33, ← hb2]; exact f50_0) (by omega) _ _ _ (hI.sub [1, 2, 3, 4, 0, 5, 6, 7] rfl rfl) (lv_sub hl [1, 2, 0] rfl)
  exact loop19 _ 0 (0 + 16) v14_0 (by omega) rfl f14_0 (Nat.lt_succ_self _) _ _ _ (hI.sub [0, 5, 1, 2, 3, 4, 6, 7] rfl rfl) (lv_sub hl [1, 2, 0] rfl)

theorem hin_X6_makeTheirText_X6 : ∀ w ∈ wsX60, w ∈ wsX6_makeTheirText := by decide +kernel
theorem hfl_X6_makeTheirText_34 : Cond.fieldLink RX6 34 "CheapParse$Steps" "count" "I" ∈ wsX6_makeTheirText := by decide +kernel
theorem hfl_X6_makeTheirText_14 : Cond.fieldLink RX6 14 "CheapParse$Steps" "text" "LCheapParse$Bytes;" ∈ wsX6_makeTheirText := by decide +kernel
theorem hfl_X6_makeTheirText_20 : Cond.fieldLink RX6 20 "CheapParse$Steps" "places" "[I" ∈ wsX6_makeTheirText := by decide +kernel
theorem hfl_X6_makeTheirText_27 : Cond.fieldLink RX6 27 "CheapParse$Steps" "distances" "[I" ∈ wsX6_makeTheirText := by decide +kernel
theorem hfl_X6_makeTheirText_24 : Cond.fieldLink RX6 24 "CheapParse$Steps" "lengths" "[I" ∈ wsX6_makeTheirText := by decide +kernel
set_option maxHeartbeats 4000000 in
set_option maxRecDepth 100000 in
theorem c_X6_makeTheirText (zl : Launch) (G : jG) (s0 : Nat) (w0 : Nat) (w1 : Nat) (s1 : Nat) (s2 : Nat) (s3 : Nat) (q : Nat) (k : Nat) (mc : Nat) (wp : Nat) (bt : Nat) (md : Nat) (pn : Nat) (P : Nat → Nat) (pl : Nat → Nat) (ln : Nat → Nat) (ds : Nat → Nat) (g0 : Nat) (g1 : Nat) (n2 : Nat) (g : Nat → Nat) (hk : k ≤ 500) (hn : pn ≤ 500) (hPb : ∀ j, j < pn → P j < 256) (ht : tile P q pl ln ds k pn) : jMet zl yX6_makeTheirText wsX6_makeTheirText ({ frames := 2, cells := 0, slots := 0, locals := 44 }) G [oC s0 6 [.ref w0, .ref s1, .ref s2, .ref s3, .int (nI q), .int (nI k), .int (nI mc), .int (nI wp), .int (nI bt), .int (nI md)], oC w0 1 [.ref w1, .int (nI pn)], aI G w1 500 P, aI G s1 500 pl, aI G s2 500 ln, aI G s3 500 ds, oC g0 1 [.ref g1, .int (nI n2)], aI G g1 500 g] [.ref s0, .ref g0] (jQi G (fun (r : Int32) (u : (Nat → Nat)) => (r = nI 1)) (fun (u : (Nat → Nat)) => [oC s0 6 [.ref w0, .ref s1, .ref s2, .ref s3, .int (nI q), .int (nI k), .int (nI mc), .int (nI wp), .int (nI bt), .int (nI md)], oC w0 1 [.ref w1, .int (nI pn)], aI G w1 500 P, aI G s1 500 pl, aI G s2 500 ln, aI G s3 500 ds, oC g0 1 [.ref g1, .int (nI pn)], aI G g1 500 u])) 0 0 := by
  refine j_enter_z (cc := cX6_makeTheirText) (nL := 3) (nm := "makeTheirText") (own := RX6) (lv := [(0, .ref s0), (1, .ref g0)]) (by decide) rfl (Nat.le_of_ble_eq_true rfl) rfl rfl rfl ?_
  intro zA zp ze zs zm zargs zbelow zmeth zc zQ ls hC hQ hI hl
  have zx := hC.1
  have zb := hC.2.1
  refine lv_aload_n zx zb dX6_makeTheirText_0 rfl (lv_at hl 1 rfl) ?_
  refine j_callVv (wr := [oC s0 6 [.ref w0, .ref s1, .ref s2, .ref s3, .int (nI q), .int (nI k), .int (nI mc), .int (nI wp), .int (nI bt), .int (nI md)], oC w0 1 [.ref w1, .int (nI pn)], aI G w1 500 P, aI G s1 500 pl, aI G s2 500 ln, aI G s3 500 ds, aI G g1 500 g]) hC hI (c_X1_empty zl G g0 g1 n2 ) (cwV 0 hC.2.2.2.2.1 gX6_makeTheirText_X1_empty rfl rfl rfl (by decide +kernel) ⟨Nat.le_of_ble_eq_true rfl, Nat.le_of_ble_eq_true rfl⟩) [6] [0, 1, 2, 3, 4, 5, 7] rfl rfl rfl rfl rfl rfl (q0 := 0) rfl rfl rfl hl.1 (Nat.le_of_ble_eq_true rfl) dX6_makeTheirText_1 ⟨Nat.le_of_ble_eq_true rfl, Nat.le_of_ble_eq_true rfl⟩ (fun u1 H locs hp1 hI => ?_)
  have hI : jI G zA zs [oC s0 6 [.ref w0, .ref s1, .ref s2, .ref s3, .int (nI q), .int (nI k), .int (nI mc), .int (nI wp), .int (nI bt), .int (nI md)], oC w0 1 [.ref w1, .int (nI pn)], aI G w1 500 P, aI G s1 500 pl, aI G s2 500 ln, aI G s3 500 ds, aI G g1 500 g, oC g0 1 [.ref g1, .int (nI 0)]] H locs := hI
  refine lv_iconst (v := nI 0) zx zb dX6_makeTheirText_4 (by decide) ?_
  refine lv_istore_n (lv' := [(2, .int (nI 0)), (0, .ref s0), (1, .ref g0)]) zx zb dX6_makeTheirText_5 rfl hl (by decide) rfl (fun ls hl => ?_)
  have loop6 : ∀ (zn6 : Nat) (i : Nat) (m : Nat) (e : Nat → Nat), (i ≤ k) → (m = pos ln i) → (∀ j, j < m → e j = P j) → (k - i) < zn6 → ∀ (H : Heap) (locs : List Loc) (ls : Array Slot), jI G zA zs [oC s0 6 [.ref w0, .ref s1, .ref s2, .ref s3, .int (nI q), .int (nI k), .int (nI mc), .int (nI wp), .int (nI bt), .int (nI md)], oC w0 1 [.ref w1, .int (nI pn)], aI G w1 500 P, aI G s1 500 pl, aI G s2 500 ln, aI G s3 500 ds, oC g0 1 [.ref g1, .int (nI m)], aI G g1 500 e] H locs → lv_has ls 3 [(0, .ref s0), (1, .ref g0), (2, .int (nI i))] → W zp zl ze ({ frames := 2, cells := 0, slots := 0, locals := 44 }) zs zm zargs zbelow zmeth zc H locs 0 0 zQ (F0 zm 6 ls []) := by
    intro zn6
    induction zn6 with
    | zero => intros; omega
    | succ zn6 ih6 =>
      intro i m e hi hm he zm6 H locs ls hI hl
      refine lv_iload_n zx zb dX6_makeTheirText_6 rfl (lv_at hl 2 rfl) ?_
      refine lv_aload_n zx zb dX6_makeTheirText_7 rfl (lv_at hl 0 rfl) ?_
      refine j_get hC hI hin_X6_makeTheirText_X6 0 rfl rfl 5 (by decide) hfl_X6_makeTheirText_34 rfl rfl dX6_makeTheirText_8 ?_
      refine j_icmp_ge (tgt := 72) hC dX6_makeTheirText_11 (by decide) (by omega) (by omega) (fun c11 => ?_) (fun c11 => ?_)
      · have ek : i = k := by omega
        have em : m = pn := by rw [hm, ek]; exact ht.1
        refine lv_aload_n zx zb dX6_makeTheirText_72 rfl (lv_at hl 1 rfl) ?_
        refine lv_aload_n zx zb dX6_makeTheirText_73 rfl (lv_at hl 0 rfl) ?_
        refine j_get hC hI hin_X6_makeTheirText_X6 0 rfl rfl 0 (by decide) hfl_X6_makeTheirText_14 rfl rfl dX6_makeTheirText_74 ?_
        refine j_callVi (wr := [oC s0 6 [.ref w0, .ref s1, .ref s2, .ref s3, .int (nI q), .int (nI k), .int (nI mc), .int (nI wp), .int (nI bt), .int (nI md)], aI G s1 500 pl, aI G s2 500 ln, aI G s3 500 ds]) hC hI (c_X1_sameAs zl G g0 g1 w0 w1 500 m 500 pn e P (by omega) (by omega) (by omega) (by omega) (fun j h => by rw [he j h]; exact hPb j (by omega)) hPb (by omega) he) (cwV 1 hC.2.2.2.2.1 gX6_makeTheirText_X1_sameAs rfl rfl rfl (by decide +kernel) ⟨Nat.le_of_ble_eq_true rfl, Nat.le_of_ble_eq_true rfl⟩) [6, 7, 1, 2] [0, 3, 4, 5] rfl rfl rfl rfl rfl rfl (q0 := 0) rfl rfl rfl hl.1 (Nat.le_of_ble_eq_true rfl) dX6_makeTheirText_77 ⟨Nat.le_of_ble_eq_true rfl, Nat.le_of_ble_eq_true rfl⟩ (fun rv77 u77 H locs hp77 hI => ?_)
        have hI : jI G zA zs [oC s0 6 [.ref w0, .ref s1, .ref s2, .ref s3, .int (nI q), .int (nI k), .int (nI mc), .int (nI wp), .int (nI bt), .int (nI md)], aI G s1 500 pl, aI G s2 500 ln, aI G s3 500 ds, oC g0 1 [.ref g1, .int (nI m)], aI G g1 500 e, oC w0 1 [.ref w1, .int (nI pn)], aI G w1 500 P] H locs := hI
        subst hp77
        exact hQ _ _ _ _ _ e dX6_makeTheirText_80 rfl (hI.sub [0, 6, 7, 1, 2, 3, 4, 5] rfl (by rw [em]; rfl)) (by first | rfl | (congr 1; omega) | omega)
      · obtain ⟨hs1, hs2, hs3, hs4⟩ := tile_i ht c11
        refine lv_aload_n zx zb dX6_makeTheirText_14 rfl (lv_at hl 0 rfl) ?_
        refine j_get hC hI hin_X6_makeTheirText_X6 0 rfl rfl 1 (by decide) hfl_X6_makeTheirText_20 rfl rfl dX6_makeTheirText_15 ?_
        refine lv_iload_n zx zb dX6_makeTheirText_18 rfl (lv_at hl 2 rfl) ?_
        refine j_iald hC hI 3 rfl (by omega) (by omega) dX6_makeTheirText_19 ?_
        refine lv_aload_n zx zb dX6_makeTheirText_20 rfl (lv_at hl 1 rfl) ?_
        refine j_callVi (wr := [oC s0 6 [.ref w0, .ref s1, .ref s2, .ref s3, .int (nI q), .int (nI k), .int (nI mc), .int (nI wp), .int (nI bt), .int (nI md)], oC w0 1 [.ref w1, .int (nI pn)], aI G w1 500 P, aI G s1 500 pl, aI G s2 500 ln, aI G s3 500 ds, aI G g1 500 e]) hC hI (c_X1_size zl G g0 g1 m ) (cwV 0 hC.2.2.2.2.1 gX6_makeTheirText_X1_size rfl rfl rfl (by decide +kernel) ⟨Nat.le_of_ble_eq_true rfl, Nat.le_of_ble_eq_true rfl⟩) [6] [0, 1, 2, 3, 4, 5, 7] rfl rfl rfl rfl rfl rfl (q0 := 0) rfl rfl rfl hl.1 (Nat.le_of_ble_eq_true rfl) dX6_makeTheirText_21 ⟨Nat.le_of_ble_eq_true rfl, Nat.le_of_ble_eq_true rfl⟩ (fun rv21 u21 H locs hp21 hI => ?_)
        have hI : jI G zA zs [oC s0 6 [.ref w0, .ref s1, .ref s2, .ref s3, .int (nI q), .int (nI k), .int (nI mc), .int (nI wp), .int (nI bt), .int (nI md)], oC w0 1 [.ref w1, .int (nI pn)], aI G w1 500 P, aI G s1 500 pl, aI G s2 500 ln, aI G s3 500 ds, aI G g1 500 e, oC g0 1 [.ref g1, .int (nI m)]] H locs := hI
        subst hp21
        refine j_icmp_eq (tgt := 29) hC dX6_makeTheirText_24 (by decide) (by omega) (by omega) (fun c24 => ?_) (fun c24 => ?_)
        · have hdl : ds i < 512 := by rcases hs1.2 with z | z <;> omega
          refine lv_aload_n zx zb dX6_makeTheirText_29 rfl (lv_at hl 0 rfl) ?_
          refine j_get hC hI hin_X6_makeTheirText_X6 0 rfl rfl 3 (by decide) hfl_X6_makeTheirText_27 rfl rfl dX6_makeTheirText_30 ?_
          refine lv_iload_n zx zb dX6_makeTheirText_33 rfl (lv_at hl 2 rfl) ?_
          refine j_iald hC hI 5 rfl (by omega) (by omega) dX6_makeTheirText_34 ?_
          refine j_if_ne (tgt := 50) hC dX6_makeTheirText_35 (by decide) (by omega) (fun c35 => ?_) (fun c35 => ?_)
          · refine lv_aload_n zx zb dX6_makeTheirText_50 rfl (lv_at hl 1 rfl) ?_
            refine lv_aload_n zx zb dX6_makeTheirText_51 rfl (lv_at hl 0 rfl) ?_
            refine j_get hC hI hin_X6_makeTheirText_X6 0 rfl rfl 3 (by decide) hfl_X6_makeTheirText_27 rfl rfl dX6_makeTheirText_52 ?_
            refine lv_iload_n zx zb dX6_makeTheirText_55 rfl (lv_at hl 2 rfl) ?_
            refine j_iald hC hI 5 rfl (by omega) (by omega) dX6_makeTheirText_56 ?_
            refine lv_aload_n zx zb dX6_makeTheirText_57 rfl (lv_at hl 0 rfl) ?_
            refine j_get hC hI hin_X6_makeTheirText_X6 0 rfl rfl 2 (by decide) hfl_X6_makeTheirText_24 rfl rfl dX6_makeTheirText_58 ?_
            refine lv_iload_n zx zb dX6_makeTheirText_61 rfl (lv_at hl 2 rfl) ?_
            refine j_iald hC hI 4 rfl (by omega) (by omega) dX6_makeTheirText_62 ?_
            have hm2 : 1 ≤ ds i ∧ ds i ≤ pl i := by rcases hs1.2 with z | z; exact absurd z.1 c35; omega
            refine j_callVv (wr := [oC s0 6 [.ref w0, .ref s1, .ref s2, .ref s3, .int (nI q), .int (nI k), .int (nI mc), .int (nI wp), .int (nI bt), .int (nI md)], oC w0 1 [.ref w1, .int (nI pn)], aI G w1 500 P, aI G s1 500 pl, aI G s2 500 ln, aI G s3 500 ds]) hC hI (c_X1_addAgain zl G g0 g1 500 m (ds i) (ln i) e (by omega) (by omega) (by omega) (by omega) (fun j h => by rw [he j h]; exact hPb j (by omega))) (cwV 2 hC.2.2.2.2.1 gX6_makeTheirText_X1_addAgain rfl rfl rfl (by decide +kernel) ⟨Nat.le_of_ble_eq_true rfl, Nat.le_of_ble_eq_true rfl⟩) [7, 6] [0, 1, 2, 3, 4, 5] rfl rfl rfl rfl rfl rfl (q0 := 0) rfl rfl rfl hl.1 (Nat.le_of_ble_eq_true rfl) dX6_makeTheirText_63 ⟨Nat.le_of_ble_eq_true rfl, Nat.le_of_ble_eq_true rfl⟩ (fun u63 H locs hp63 hI => ?_)
            have hI : jI G zA zs [oC s0 6 [.ref w0, .ref s1, .ref s2, .ref s3, .int (nI q), .int (nI k), .int (nI mc), .int (nI wp), .int (nI bt), .int (nI md)], oC w0 1 [.ref w1, .int (nI pn)], aI G w1 500 P, aI G s1 500 pl, aI G s2 500 ln, aI G s3 500 ds, oC g0 1 [.ref g1, .int (nI (m + (ln i)))], aI G g1 500 (agn (ds i) (ln i) e m)] H locs := hI
            refine lv_iinc (v := nI (i + 1)) (lv' := [(2, .int (nI (i + 1))), (0, .ref s0), (1, .ref g0)]) zx zb dX6_makeTheirText_66 hl (k := 2) rfl (j_inc _ _ _ (by decide)) (by decide) rfl (fun ls hl => ?_)
            refine lv_goto (tgt := 6) zx zb dX6_makeTheirText_69 (by decide) ?_
            exact ih6 (i + 1) (m + (ln i)) (agn (ds i) (ln i) e m) (by omega) (by rw [pos, hm]) (by rw [hm, ← hs4]; exact agn_get _ _ _ P (by omega) (by omega) (fun j h => he j (by omega)) (by rcases hs1.2 with z | z; exact absurd z.1 c35; exact z.2.2.2.2)) (by omega) _ _ _ hI (lv_sub hl [1, 2, 0] rfl)
          · refine lv_aload_n zx zb dX6_makeTheirText_38 rfl (lv_at hl 1 rfl) ?_
            refine lv_aload_n zx zb dX6_makeTheirText_39 rfl (lv_at hl 0 rfl) ?_
            refine lv_iload_n zx zb dX6_makeTheirText_40 rfl (lv_at hl 2 rfl) ?_
            refine j_callVi (wr := [aI G s2 500 ln, aI G g1 500 e, oC g0 1 [.ref g1, .int (nI m)]]) hC hI (c_X6_byteOf zl G s0 w0 w1 s1 s2 s3 q k mc wp bt md pn P pl ds i (by omega) (by omega) (by omega) (by omega) (by omega)) (cwV 1 hC.2.2.2.2.1 gX6_makeTheirText_X6_byteOf rfl rfl rfl (by decide +kernel) ⟨Nat.le_of_ble_eq_true rfl, Nat.le_of_ble_eq_true rfl⟩) [0, 1, 2, 3, 5] [4, 6, 7] rfl rfl rfl rfl rfl rfl (q0 := 0) rfl rfl rfl hl.1 (Nat.le_of_ble_eq_true rfl) dX6_makeTheirText_41 ⟨Nat.le_of_ble_eq_true rfl, Nat.le_of_ble_eq_true rfl⟩ (fun rv41 u41 H locs hp41 hI => ?_)
            have hI : jI G zA zs [aI G s2 500 ln, aI G g1 500 e, oC g0 1 [.ref g1, .int (nI m)], oC s0 6 [.ref w0, .ref s1, .ref s2, .ref s3, .int (nI q), .int (nI k), .int (nI mc), .int (nI wp), .int (nI bt), .int (nI md)], oC w0 1 [.ref w1, .int (nI pn)], aI G w1 500 P, aI G s1 500 pl, aI G s3 500 ds] H locs := hI
            subst hp41
            have hq7 := hPb (pl i) (by omega)
            have hl1 : ln i = 1 := by rcases hs1.2 with z | z; exact z.2; omega
            refine j_callVv (wr := [aI G s2 500 ln, oC s0 6 [.ref w0, .ref s1, .ref s2, .ref s3, .int (nI q), .int (nI k), .int (nI mc), .int (nI wp), .int (nI bt), .int (nI md)], oC w0 1 [.ref w1, .int (nI pn)], aI G w1 500 P, aI G s1 500 pl, aI G s3 500 ds]) hC hI (c_X1_add zl G g0 g1 500 m e (nI (P (pl i))) (by omega) (by omega)) (cwV 1 hC.2.2.2.2.1 gX6_makeTheirText_X1_add rfl rfl rfl (by decide +kernel) ⟨Nat.le_of_ble_eq_true rfl, Nat.le_of_ble_eq_true rfl⟩) [2, 1] [0, 3, 4, 5, 6, 7] rfl rfl rfl rfl rfl rfl (q0 := 0) rfl rfl rfl hl.1 (Nat.le_of_ble_eq_true rfl) dX6_makeTheirText_44 ⟨Nat.le_of_ble_eq_true rfl, Nat.le_of_ble_eq_true rfl⟩ (fun u44 H locs hp44 hI => ?_)
            have hI : jI G zA zs [aI G s2 500 ln, oC s0 6 [.ref w0, .ref s1, .ref s2, .ref s3, .int (nI q), .int (nI k), .int (nI mc), .int (nI wp), .int (nI bt), .int (nI md)], oC w0 1 [.ref w1, .int (nI pn)], aI G w1 500 P, aI G s1 500 pl, aI G s3 500 ds, oC g0 1 [.ref g1, .int (nI (m + 1))], aI G g1 500 (up e m (by8 (nI (P (pl i)))))] H locs := hI
            refine lv_goto (tgt := 66) zx zb dX6_makeTheirText_47 (by decide) ?_
            refine lv_iinc (v := nI (i + 1)) (lv' := [(2, .int (nI (i + 1))), (0, .ref s0), (1, .ref g0)]) zx zb dX6_makeTheirText_66 hl (k := 2) rfl (j_inc _ _ _ (by decide)) (by decide) rfl (fun ls hl => ?_)
            refine lv_goto (tgt := 6) zx zb dX6_makeTheirText_69 (by decide) ?_
            exact ih6 (i + 1) (m + 1) (up e m (by8 (nI (P (pl i))))) (by omega) (by rw [pos, hm, hl1]) (mk_next he (by rw [by8_nI (by omega), Nat.mod_eq_of_lt hq7, hs4, hm])) (by omega) _ _ _ (hI.sub [1, 2, 3, 4, 0, 5, 6, 7] rfl rfl) (lv_sub hl [1, 2, 0] rfl)
        · exact (by omega : False).elim
  exact loop6 _ 0 0 g (by omega) rfl (fun j h => by omega) (Nat.lt_succ_self _) _ _ _ (hI.sub [0, 1, 2, 3, 4, 5, 7, 6] rfl rfl) (lv_sub hl [1, 2, 0] rfl)

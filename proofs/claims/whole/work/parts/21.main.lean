theorem hin_X8_forgetMatches_X8 : ∀ w ∈ wsX80, w ∈ wsX8_forgetMatches := by decide +kernel
theorem hfl_X8_forgetMatches_82 : Cond.fieldLink RX8 82 "CheapParse" "matchesStale" "Z" ∈ wsX8_forgetMatches := by decide +kernel
theorem hfl_X8_forgetMatches_86 : Cond.fieldLink RX8 86 "CheapParse" "costsStale" "Z" ∈ wsX8_forgetMatches := by decide +kernel
set_option maxHeartbeats 4000000 in
set_option maxRecDepth 100000 in
theorem c_X8_forgetMatches (zl : Launch) (G : jG) (x0 : Nat) (t0 : Nat) (l0 : Nat) (e0 : Nat) (g0 : Nat) (u0 : Nat) (f0 : Nat) (m0 : Nat) (k0 : Nat) (s0 : Nat) (z0 : Nat) (d0 : Nat) (ms : Nat) (cs : Nat) (ar : Nat)  : jMet zl yX8_forgetMatches wsX8_forgetMatches ({ frames := 0, cells := 0, slots := 0, locals := 0 }) G [oC x0 8 [.ref t0, .ref l0, .ref e0, .ref g0, .ref u0, .ref f0, .ref m0, .ref k0, .ref s0, .ref z0, .ref d0, .int (nI ms), .int (nI cs), .int (nI ar)]] [.ref x0] (jQv G (fun (u : Unit) => True) (fun (u : Unit) => [oC x0 8 [.ref t0, .ref l0, .ref e0, .ref g0, .ref u0, .ref f0, .ref m0, .ref k0, .ref s0, .ref z0, .ref d0, .int (nI 1), .int (nI 1), .int (nI ar)]])) 0 0 := by
  refine j_enter_v (cc := cX8_forgetMatches) (nL := 1) (nm := "forgetMatches") (own := RX8) (lv := [(0, .ref x0)]) (by decide) rfl (Nat.le_of_ble_eq_true rfl) rfl rfl rfl ?_
  intro zA zp ze zs zm zargs zbelow zmeth zc zQ ls hC hQ hI hl
  have zx := hC.1
  have zb := hC.2.1
  refine lv_aload_n zx zb dX8_forgetMatches_0 rfl (lv_at hl 0 rfl) ?_
  refine lv_iconst (v := nI 1) zx zb dX8_forgetMatches_1 (by decide) ?_
  refine j_put (w1 := [oC x0 8 [.ref t0, .ref l0, .ref e0, .ref g0, .ref u0, .ref f0, .ref m0, .ref k0, .ref s0, .ref z0, .ref d0, .int (nI 1), .int (nI cs), .int (nI ar)]]) hC hI hin_X8_forgetMatches_X8 tyX8 tyX8_ok nmX8 0 rfl rfl 11 (by decide) hfl_X8_forgetMatches_82 rfl rfl rfl rfl (Nat.le_of_ble_eq_true rfl) dX8_forgetMatches_2 rfl (fun H locs hI => ?_)
  refine lv_aload_n zx zb dX8_forgetMatches_5 rfl (lv_at hl 0 rfl) ?_
  refine lv_iconst (v := nI 1) zx zb dX8_forgetMatches_6 (by decide) ?_
  refine j_put (w1 := [oC x0 8 [.ref t0, .ref l0, .ref e0, .ref g0, .ref u0, .ref f0, .ref m0, .ref k0, .ref s0, .ref z0, .ref d0, .int (nI 1), .int (nI 1), .int (nI ar)]]) hC hI hin_X8_forgetMatches_X8 tyX8 tyX8_ok nmX8 0 rfl rfl 12 (by decide) hfl_X8_forgetMatches_86 rfl rfl rfl rfl (Nat.le_of_ble_eq_true rfl) dX8_forgetMatches_7 rfl (fun H locs hI => ?_)
  exact hQ _ _ _ _ () dX8_forgetMatches_10 (hI.sub [0] rfl rfl) trivial

theorem hin_X8_type_X8 : ∀ w ∈ wsX80, w ∈ wsX8_type := by decide +kernel
theorem hfl_X8_type_14 : Cond.fieldLink RX8 14 "CheapParse" "text" "LCheapParse$Bytes;" ∈ wsX8_type := by decide +kernel
set_option maxHeartbeats 4000000 in
set_option maxRecDepth 100000 in
theorem c_X8_type (zl : Launch) (G : jG) (x0 : Nat) (t0 : Nat) (t1 : Nat) (l0 : Nat) (e0 : Nat) (g0 : Nat) (u0 : Nat) (f0 : Nat) (m0 : Nat) (k0 : Nat) (s0 : Nat) (z0 : Nat) (d0 : Nat) (ms : Nat) (cs : Nat) (ar : Nat) (n : Nat) (T : Nat → Nat) (x : Int64) (k : Int32) (hn : n ≤ 500) : jMet zl yX8_type wsX8_type ({ frames := 2, cells := 0, slots := 0, locals := 45 }) G [oC x0 8 [.ref t0, .ref l0, .ref e0, .ref g0, .ref u0, .ref f0, .ref m0, .ref k0, .ref s0, .ref z0, .ref d0, .int (nI ms), .int (nI cs), .int (nI ar)], oC t0 1 [.ref t1, .int (nI n)], aI G t1 500 T] [.ref x0, .long x, .int k] (jQi G (fun (r : Int32) (u : Nat × Nat × Nat × (Nat → Nat)) => (ad_low 500 T n x k r u.2.2.2 u.2.2.1) ∧ ((u.2.2.2 = T ∧ u.2.2.1 = n ∧ u.1 = ms ∧ u.2.1 = cs) ∨ (u.1 = 1 ∧ u.2.1 = 1))) (fun (u : Nat × Nat × Nat × (Nat → Nat)) => [oC x0 8 [.ref t0, .ref l0, .ref e0, .ref g0, .ref u0, .ref f0, .ref m0, .ref k0, .ref s0, .ref z0, .ref d0, .int (nI u.1), .int (nI u.2.1), .int (nI ar)], oC t0 1 [.ref t1, .int (nI u.2.2.1)], aI G t1 500 u.2.2.2])) 0 0 := by
  refine j_enter_i (cc := cX8_type) (nL := 5) (nm := "type") (own := RX8) (lv := [(0, .ref x0), (1, .long x), (3, .int k)]) (by decide) rfl (Nat.le_of_ble_eq_true rfl) rfl rfl rfl ?_
  intro zA zp ze zs zm zargs zbelow zmeth zc zQ ls hC hQ hI hl
  have zx := hC.1
  have zb := hC.2.1
  refine lv_aload_n zx zb dX8_type_0 rfl (lv_at hl 0 rfl) ?_
  refine j_get hC hI hin_X8_type_X8 0 rfl rfl 0 (by decide) hfl_X8_type_14 rfl rfl dX8_type_1 ?_
  refine lv_lload_n zx zb dX8_type_4 rfl (lv_at hl 1 rfl) ?_
  refine lv_iload_n zx zb dX8_type_5 rfl (lv_at hl 2 rfl) ?_
  refine j_callVi (wr := [oC x0 8 [.ref t0, .ref l0, .ref e0, .ref g0, .ref u0, .ref f0, .ref m0, .ref k0, .ref s0, .ref z0, .ref d0, .int (nI ms), .int (nI cs), .int (nI ar)]]) hC hI (c_X1_addLowest zl G t0 t1 500 n T x k (by omega) (by omega)) (cwV 2 hC.2.2.2.2.1 gX8_type_X1_addLowest rfl rfl rfl (by decide +kernel) ⟨Nat.le_of_ble_eq_true rfl, Nat.le_of_ble_eq_true rfl⟩) [1, 2] [0] rfl rfl rfl rfl rfl rfl (q0 := 0) rfl rfl rfl hl.1 (Nat.le_of_ble_eq_true rfl) dX8_type_6 ⟨Nat.le_of_ble_eq_true rfl, Nat.le_of_ble_eq_true rfl⟩ (fun rv6 u6 H locs hp6 hI => ?_)
  obtain ⟨v6_0, v6_1⟩ := u6
  have hI : jI G zA zs [oC x0 8 [.ref t0, .ref l0, .ref e0, .ref g0, .ref u0, .ref f0, .ref m0, .ref k0, .ref s0, .ref z0, .ref d0, .int (nI ms), .int (nI cs), .int (nI ar)], oC t0 1 [.ref t1, .int (nI v6_1)], aI G t1 500 v6_0] H locs := hI
  dsimp only at hp6
  have f6_0 := hp6
  rcases f6_0 with ⟨j, j1, j2, j3, rfl, rfl, rfl, rfl⟩ | ⟨hno, rfl, ef, en⟩
  · refine lv_istore (lv' := [(4, .int (nI (n + j))), (0, .ref x0), (1, .long x), (3, .int (nI j))]) zx zb dX8_type_9 hl (by decide) rfl (fun ls hl => ?_)
    refine lv_iload zx zb dX8_type_11 (lv_at hl 0 rfl) ?_
    refine lv_iconst (v := (-1)) zx zb dX8_type_13 (by decide) ?_
    refine lv_icmp_eq (tgt := 21) zx zb dX8_type_14 (by decide) (fun c14 => ?_) (fun c14 => ?_)
    · exact absurd c14 (nI_m1 (by omega))
    · refine lv_aload_n zx zb dX8_type_17 rfl (lv_at hl 1 rfl) ?_
      refine j_callVv (wr := [oC t0 1 [.ref t1, .int (nI (n + j))], aI G t1 500 (low x j T n)]) hC hI (c_X8_forgetMatches zl G x0 t0 l0 e0 g0 u0 f0 m0 k0 s0 z0 d0 ms cs ar ) (cwV 0 hC.2.2.2.2.1 gX8_type_X8_forgetMatches rfl rfl rfl (by decide +kernel) ⟨Nat.le_of_ble_eq_true rfl, Nat.le_of_ble_eq_true rfl⟩) [0] [1, 2] rfl rfl rfl rfl rfl rfl (q0 := 0) rfl rfl rfl hl.1 (Nat.le_of_ble_eq_true rfl) dX8_type_18 ⟨Nat.le_of_ble_eq_true rfl, Nat.le_of_ble_eq_true rfl⟩ (fun u18 H locs hp18 hI => ?_)
      have hI : jI G zA zs [oC t0 1 [.ref t1, .int (nI (n + j))], aI G t1 500 (low x j T n), oC x0 8 [.ref t0, .ref l0, .ref e0, .ref g0, .ref u0, .ref f0, .ref m0, .ref k0, .ref s0, .ref z0, .ref d0, .int (nI 1), .int (nI 1), .int (nI ar)]] H locs := hI
      refine lv_iload zx zb dX8_type_21 (lv_at hl 0 rfl) ?_
      exact hQ _ _ _ _ _ ⟨1, 1, n + j, low x j T n⟩ dX8_type_23 (hI.sub [2, 0, 1] rfl rfl) (by (try dsimp only); exact ⟨(Or.inl ⟨j, j1, j2, j3, rfl, rfl, rfl, rfl⟩), (Or.inr ⟨rfl, rfl⟩)⟩)
  · replace ef := ef.symm
    replace en := en.symm
    subst ef
    subst en
    refine lv_istore (lv' := [(4, .int ((-1))), (0, .ref x0), (1, .long x), (3, .int k)]) zx zb dX8_type_9 hl (by decide) rfl (fun ls hl => ?_)
    refine lv_iload zx zb dX8_type_11 (lv_at hl 0 rfl) ?_
    refine lv_iconst (v := (-1)) zx zb dX8_type_13 (by decide) ?_
    refine lv_icmp_eq (tgt := 21) zx zb dX8_type_14 (by decide) (fun c14 => ?_) (fun c14 => ?_)
    · refine lv_iload zx zb dX8_type_21 (lv_at hl 0 rfl) ?_
      exact hQ _ _ _ _ _ ⟨ms, cs, n, T⟩ dX8_type_23 (hI.sub [0, 1, 2] rfl rfl) (by (try dsimp only); exact ⟨(Or.inr ⟨hno, rfl, rfl, rfl⟩), (Or.inl ⟨rfl, rfl, rfl, rfl⟩)⟩)
    · exact absurd rfl c14

theorem hin_X8_fill_X8 : ∀ w ∈ wsX80, w ∈ wsX8_fill := by decide +kernel
theorem hfl_X8_fill_14 : Cond.fieldLink RX8 14 "CheapParse" "text" "LCheapParse$Bytes;" ∈ wsX8_fill := by decide +kernel
set_option maxHeartbeats 4000000 in
set_option maxRecDepth 100000 in
theorem c_X8_fill (zl : Launch) (G : jG) (x0 : Nat) (t0 : Nat) (t1 : Nat) (l0 : Nat) (e0 : Nat) (g0 : Nat) (u0 : Nat) (f0 : Nat) (m0 : Nat) (k0 : Nat) (s0 : Nat) (z0 : Nat) (d0 : Nat) (ms : Nat) (cs : Nat) (ar : Nat) (n : Nat) (T : Nat → Nat) (v : Int32) (k : Int32) (hn : n ≤ 500) : jMet zl yX8_fill wsX8_fill ({ frames := 2, cells := 0, slots := 0, locals := 44 }) G [oC x0 8 [.ref t0, .ref l0, .ref e0, .ref g0, .ref u0, .ref f0, .ref m0, .ref k0, .ref s0, .ref z0, .ref d0, .int (nI ms), .int (nI cs), .int (nI ar)], oC t0 1 [.ref t1, .int (nI n)], aI G t1 500 T] [.ref x0, .int v, .int k] (jQi G (fun (r : Int32) (u : Nat × Nat × Nat × (Nat → Nat)) => (ad_rep 500 T n v k r u.2.2.2 u.2.2.1) ∧ ((u.2.2.2 = T ∧ u.2.2.1 = n ∧ u.1 = ms ∧ u.2.1 = cs) ∨ (u.1 = 1 ∧ u.2.1 = 1))) (fun (u : Nat × Nat × Nat × (Nat → Nat)) => [oC x0 8 [.ref t0, .ref l0, .ref e0, .ref g0, .ref u0, .ref f0, .ref m0, .ref k0, .ref s0, .ref z0, .ref d0, .int (nI u.1), .int (nI u.2.1), .int (nI ar)], oC t0 1 [.ref t1, .int (nI u.2.2.1)], aI G t1 500 u.2.2.2])) 0 0 := by
  refine j_enter_i (cc := cX8_fill) (nL := 4) (nm := "fill") (own := RX8) (lv := [(0, .ref x0), (1, .int v), (2, .int k)]) (by decide) rfl (Nat.le_of_ble_eq_true rfl) rfl rfl rfl ?_
  intro zA zp ze zs zm zargs zbelow zmeth zc zQ ls hC hQ hI hl
  have zx := hC.1
  have zb := hC.2.1
  refine lv_aload_n zx zb dX8_fill_0 rfl (lv_at hl 0 rfl) ?_
  refine j_get hC hI hin_X8_fill_X8 0 rfl rfl 0 (by decide) hfl_X8_fill_14 rfl rfl dX8_fill_1 ?_
  refine lv_iload_n zx zb dX8_fill_4 rfl (lv_at hl 1 rfl) ?_
  refine lv_iload_n zx zb dX8_fill_5 rfl (lv_at hl 2 rfl) ?_
  refine j_callVi (wr := [oC x0 8 [.ref t0, .ref l0, .ref e0, .ref g0, .ref u0, .ref f0, .ref m0, .ref k0, .ref s0, .ref z0, .ref d0, .int (nI ms), .int (nI cs), .int (nI ar)]]) hC hI (c_X1_addTimes zl G t0 t1 500 n T v k (by omega) (by omega)) (cwV 2 hC.2.2.2.2.1 gX8_fill_X1_addTimes rfl rfl rfl (by decide +kernel) ⟨Nat.le_of_ble_eq_true rfl, Nat.le_of_ble_eq_true rfl⟩) [1, 2] [0] rfl rfl rfl rfl rfl rfl (q0 := 0) rfl rfl rfl hl.1 (Nat.le_of_ble_eq_true rfl) dX8_fill_6 ⟨Nat.le_of_ble_eq_true rfl, Nat.le_of_ble_eq_true rfl⟩ (fun rv6 u6 H locs hp6 hI => ?_)
  obtain ⟨v6_0, v6_1⟩ := u6
  have hI : jI G zA zs [oC x0 8 [.ref t0, .ref l0, .ref e0, .ref g0, .ref u0, .ref f0, .ref m0, .ref k0, .ref s0, .ref z0, .ref d0, .int (nI ms), .int (nI cs), .int (nI ar)], oC t0 1 [.ref t1, .int (nI v6_1)], aI G t1 500 v6_0] H locs := hI
  dsimp only at hp6
  have f6_0 := hp6
  rcases f6_0 with ⟨j, j1, j3, rfl, rfl, rfl, rfl⟩ | ⟨hno, rfl, ef, en⟩
  · refine lv_istore_n (lv' := [(3, .int (nI (n + j))), (0, .ref x0), (1, .int v), (2, .int (nI j))]) zx zb dX8_fill_9 rfl hl (by decide) rfl (fun ls hl => ?_)
    refine lv_iload_n zx zb dX8_fill_10 rfl (lv_at hl 0 rfl) ?_
    refine lv_iconst (v := (-1)) zx zb dX8_fill_11 (by decide) ?_
    refine lv_icmp_eq (tgt := 19) zx zb dX8_fill_12 (by decide) (fun c12 => ?_) (fun c12 => ?_)
    · exact absurd c12 (nI_m1 (by omega))
    · refine lv_aload_n zx zb dX8_fill_15 rfl (lv_at hl 1 rfl) ?_
      refine j_callVv (wr := [oC t0 1 [.ref t1, .int (nI (n + j))], aI G t1 500 (rep (by8 v) j T n)]) hC hI (c_X8_forgetMatches zl G x0 t0 l0 e0 g0 u0 f0 m0 k0 s0 z0 d0 ms cs ar ) (cwV 0 hC.2.2.2.2.1 gX8_fill_X8_forgetMatches rfl rfl rfl (by decide +kernel) ⟨Nat.le_of_ble_eq_true rfl, Nat.le_of_ble_eq_true rfl⟩) [0] [1, 2] rfl rfl rfl rfl rfl rfl (q0 := 0) rfl rfl rfl hl.1 (Nat.le_of_ble_eq_true rfl) dX8_fill_16 ⟨Nat.le_of_ble_eq_true rfl, Nat.le_of_ble_eq_true rfl⟩ (fun u16 H locs hp16 hI => ?_)
      have hI : jI G zA zs [oC t0 1 [.ref t1, .int (nI (n + j))], aI G t1 500 (rep (by8 v) j T n), oC x0 8 [.ref t0, .ref l0, .ref e0, .ref g0, .ref u0, .ref f0, .ref m0, .ref k0, .ref s0, .ref z0, .ref d0, .int (nI 1), .int (nI 1), .int (nI ar)]] H locs := hI
      refine lv_iload_n zx zb dX8_fill_19 rfl (lv_at hl 0 rfl) ?_
      exact hQ _ _ _ _ _ ⟨1, 1, n + j, rep (by8 v) j T n⟩ dX8_fill_20 (hI.sub [2, 0, 1] rfl rfl) (by (try dsimp only); exact ⟨(Or.inl ⟨j, j1, j3, rfl, rfl, rfl, rfl⟩), (Or.inr ⟨rfl, rfl⟩)⟩)
  · replace ef := ef.symm
    replace en := en.symm
    subst ef
    subst en
    refine lv_istore_n (lv' := [(3, .int ((-1))), (0, .ref x0), (1, .int v), (2, .int k)]) zx zb dX8_fill_9 rfl hl (by decide) rfl (fun ls hl => ?_)
    refine lv_iload_n zx zb dX8_fill_10 rfl (lv_at hl 0 rfl) ?_
    refine lv_iconst (v := (-1)) zx zb dX8_fill_11 (by decide) ?_
    refine lv_icmp_eq (tgt := 19) zx zb dX8_fill_12 (by decide) (fun c12 => ?_) (fun c12 => ?_)
    · refine lv_iload_n zx zb dX8_fill_19 rfl (lv_at hl 0 rfl) ?_
      exact hQ _ _ _ _ _ ⟨ms, cs, n, T⟩ dX8_fill_20 (hI.sub [0, 1, 2] rfl rfl) (by (try dsimp only); exact ⟨(Or.inr ⟨hno, rfl, rfl, rfl⟩), (Or.inl ⟨rfl, rfl, rfl, rfl⟩)⟩)
    · exact absurd rfl c12

theorem hin_X8_clear_X8 : ∀ w ∈ wsX80, w ∈ wsX8_clear := by decide +kernel
theorem hfl_X8_clear_14 : Cond.fieldLink RX8 14 "CheapParse" "text" "LCheapParse$Bytes;" ∈ wsX8_clear := by decide +kernel
set_option maxHeartbeats 4000000 in
set_option maxRecDepth 100000 in
theorem c_X8_clear (zl : Launch) (G : jG) (x0 : Nat) (t0 : Nat) (t1 : Nat) (l0 : Nat) (e0 : Nat) (g0 : Nat) (u0 : Nat) (f0 : Nat) (m0 : Nat) (k0 : Nat) (s0 : Nat) (z0 : Nat) (d0 : Nat) (ms : Nat) (cs : Nat) (ar : Nat) (n : Nat)  : jMet zl yX8_clear wsX8_clear ({ frames := 1, cells := 0, slots := 0, locals := 20 }) G [oC x0 8 [.ref t0, .ref l0, .ref e0, .ref g0, .ref u0, .ref f0, .ref m0, .ref k0, .ref s0, .ref z0, .ref d0, .int (nI ms), .int (nI cs), .int (nI ar)], oC t0 1 [.ref t1, .int (nI n)]] [.ref x0] (jQi G (fun (r : Int32) (u : Unit) => (r = nI n)) (fun (u : Unit) => [oC x0 8 [.ref t0, .ref l0, .ref e0, .ref g0, .ref u0, .ref f0, .ref m0, .ref k0, .ref s0, .ref z0, .ref d0, .int (nI 1), .int (nI 1), .int (nI ar)], oC t0 1 [.ref t1, .int (nI 0)]])) 0 0 := by
  refine j_enter_i (cc := cX8_clear) (nL := 2) (nm := "clear") (own := RX8) (lv := [(0, .ref x0)]) (by decide) rfl (Nat.le_of_ble_eq_true rfl) rfl rfl rfl ?_
  intro zA zp ze zs zm zargs zbelow zmeth zc zQ ls hC hQ hI hl
  have zx := hC.1
  have zb := hC.2.1
  refine lv_aload_n zx zb dX8_clear_0 rfl (lv_at hl 0 rfl) ?_
  refine j_get hC hI hin_X8_clear_X8 0 rfl rfl 0 (by decide) hfl_X8_clear_14 rfl rfl dX8_clear_1 ?_
  refine j_callVi (wr := [oC x0 8 [.ref t0, .ref l0, .ref e0, .ref g0, .ref u0, .ref f0, .ref m0, .ref k0, .ref s0, .ref z0, .ref d0, .int (nI ms), .int (nI cs), .int (nI ar)]]) hC hI (c_X1_size zl G t0 t1 n ) (cwV 0 hC.2.2.2.2.1 gX8_clear_X1_size rfl rfl rfl (by decide +kernel) ⟨Nat.le_of_ble_eq_true rfl, Nat.le_of_ble_eq_true rfl⟩) [1] [0] rfl rfl rfl rfl rfl rfl (q0 := 0) rfl rfl rfl hl.1 (Nat.le_of_ble_eq_true rfl) dX8_clear_4 ⟨Nat.le_of_ble_eq_true rfl, Nat.le_of_ble_eq_true rfl⟩ (fun rv4 u4 H locs hp4 hI => ?_)
  have hI : jI G zA zs [oC x0 8 [.ref t0, .ref l0, .ref e0, .ref g0, .ref u0, .ref f0, .ref m0, .ref k0, .ref s0, .ref z0, .ref d0, .int (nI ms), .int (nI cs), .int (nI ar)], oC t0 1 [.ref t1, .int (nI n)]] H locs := hI
  subst hp4
  refine lv_istore_n (lv' := [(1, .int (nI n)), (0, .ref x0)]) zx zb dX8_clear_7 rfl hl (by decide) rfl (fun ls hl => ?_)
  refine lv_aload_n zx zb dX8_clear_8 rfl (lv_at hl 1 rfl) ?_
  refine j_get hC hI hin_X8_clear_X8 0 rfl rfl 0 (by decide) hfl_X8_clear_14 rfl rfl dX8_clear_9 ?_
  refine j_callVv (wr := [oC x0 8 [.ref t0, .ref l0, .ref e0, .ref g0, .ref u0, .ref f0, .ref m0, .ref k0, .ref s0, .ref z0, .ref d0, .int (nI ms), .int (nI cs), .int (nI ar)]]) hC hI (c_X1_empty zl G t0 t1 n ) (cwV 0 hC.2.2.2.2.1 gX8_clear_X1_empty rfl rfl rfl (by decide +kernel) ⟨Nat.le_of_ble_eq_true rfl, Nat.le_of_ble_eq_true rfl⟩) [1] [0] rfl rfl rfl rfl rfl rfl (q0 := 0) rfl rfl rfl hl.1 (Nat.le_of_ble_eq_true rfl) dX8_clear_12 ⟨Nat.le_of_ble_eq_true rfl, Nat.le_of_ble_eq_true rfl⟩ (fun u12 H locs hp12 hI => ?_)
  have hI : jI G zA zs [oC x0 8 [.ref t0, .ref l0, .ref e0, .ref g0, .ref u0, .ref f0, .ref m0, .ref k0, .ref s0, .ref z0, .ref d0, .int (nI ms), .int (nI cs), .int (nI ar)], oC t0 1 [.ref t1, .int (nI 0)]] H locs := hI
  refine lv_aload_n zx zb dX8_clear_15 rfl (lv_at hl 1 rfl) ?_
  refine j_callVv (wr := [oC t0 1 [.ref t1, .int (nI 0)]]) hC hI (c_X8_forgetMatches zl G x0 t0 l0 e0 g0 u0 f0 m0 k0 s0 z0 d0 ms cs ar ) (cwV 0 hC.2.2.2.2.1 gX8_clear_X8_forgetMatches rfl rfl rfl (by decide +kernel) ⟨Nat.le_of_ble_eq_true rfl, Nat.le_of_ble_eq_true rfl⟩) [0] [1] rfl rfl rfl rfl rfl rfl (q0 := 0) rfl rfl rfl hl.1 (Nat.le_of_ble_eq_true rfl) dX8_clear_16 ⟨Nat.le_of_ble_eq_true rfl, Nat.le_of_ble_eq_true rfl⟩ (fun u16 H locs hp16 hI => ?_)
  have hI : jI G zA zs [oC t0 1 [.ref t1, .int (nI 0)], oC x0 8 [.ref t0, .ref l0, .ref e0, .ref g0, .ref u0, .ref f0, .ref m0, .ref k0, .ref s0, .ref z0, .ref d0, .int (nI 1), .int (nI 1), .int (nI ar)]] H locs := hI
  refine lv_iload_n zx zb dX8_clear_19 rfl (lv_at hl 0 rfl) ?_
  exact hQ _ _ _ _ _ () dX8_clear_20 (hI.sub [1, 0] rfl rfl) (by first | rfl | (congr 1; omega) | omega)

theorem hin_X8_limits_X8 : ∀ w ∈ wsX80, w ∈ wsX8_limits := by decide +kernel
theorem hfl_X8_limits_30 : Cond.fieldLink RX8 30 "CheapParse" "rules" "LCheapParse$Rules;" ∈ wsX8_limits := by decide +kernel
set_option maxHeartbeats 4000000 in
set_option maxRecDepth 100000 in
theorem c_X8_limits (zl : Launch) (G : jG) (x0 : Nat) (t0 : Nat) (l0 : Nat) (e0 : Nat) (g0 : Nat) (u0 : Nat) (f0 : Nat) (m0 : Nat) (k0 : Nat) (s0 : Nat) (z0 : Nat) (d0 : Nat) (ms : Nat) (cs : Nat) (ar : Nat) (la : Nat) (lm : Nat) (lw : Nat) (a : Int32) (m : Int32) (w : Int32)  : jMet zl yX8_limits wsX8_limits ({ frames := 1, cells := 0, slots := 0, locals := 24 }) G [oC x0 8 [.ref t0, .ref l0, .ref e0, .ref g0, .ref u0, .ref f0, .ref m0, .ref k0, .ref s0, .ref z0, .ref d0, .int (nI ms), .int (nI cs), .int (nI ar)], oC u0 5 [.int (nI la), .int (nI lm), .int (nI lw)]] [.ref x0, .int a, .int m, .int w] (jQi G (fun (r : Int32) (u : Nat × Nat × Nat × Nat × Nat) => (lim_rel la lm lw a m w r u.2.2.1 u.2.2.2.1 u.2.2.2.2) ∧ (((u.2.2.1 = la ∧ u.2.2.2.1 = lm ∧ u.2.2.2.2 = lw) ∧ u.1 = ms ∧ u.2.1 = cs) ∨ (u.1 = 1 ∧ u.2.1 = 1))) (fun (u : Nat × Nat × Nat × Nat × Nat) => [oC x0 8 [.ref t0, .ref l0, .ref e0, .ref g0, .ref u0, .ref f0, .ref m0, .ref k0, .ref s0, .ref z0, .ref d0, .int (nI u.1), .int (nI u.2.1), .int (nI ar)], oC u0 5 [.int (nI u.2.2.1), .int (nI u.2.2.2.1), .int (nI u.2.2.2.2)]])) 0 0 := by
  refine j_enter_i (cc := cX8_limits) (nL := 4) (nm := "limits") (own := RX8) (lv := [(0, .ref x0), (1, .int a), (2, .int m), (3, .int w)]) (by decide) rfl (Nat.le_of_ble_eq_true rfl) rfl rfl rfl ?_
  intro zA zp ze zs zm zargs zbelow zmeth zc zQ ls hC hQ hI hl
  have zx := hC.1
  have zb := hC.2.1
  refine lv_aload_n zx zb dX8_limits_0 rfl (lv_at hl 0 rfl) ?_
  refine j_get hC hI hin_X8_limits_X8 0 rfl rfl 4 (by decide) hfl_X8_limits_30 rfl rfl dX8_limits_1 ?_
  refine lv_iload_n zx zb dX8_limits_4 rfl (lv_at hl 1 rfl) ?_
  refine lv_iload_n zx zb dX8_limits_5 rfl (lv_at hl 2 rfl) ?_
  refine lv_iload_n zx zb dX8_limits_6 rfl (lv_at hl 3 rfl) ?_
  refine j_callVi (wr := [oC x0 8 [.ref t0, .ref l0, .ref e0, .ref g0, .ref u0, .ref f0, .ref m0, .ref k0, .ref s0, .ref z0, .ref d0, .int (nI ms), .int (nI cs), .int (nI ar)]]) hC hI (c_X5_change zl G u0 la lm lw a m w ) (cwV 3 hC.2.2.2.2.1 gX8_limits_X5_change rfl rfl rfl (by decide +kernel) ⟨Nat.le_of_ble_eq_true rfl, Nat.le_of_ble_eq_true rfl⟩) [1] [0] rfl rfl rfl rfl rfl rfl (q0 := 0) rfl rfl rfl hl.1 (Nat.le_of_ble_eq_true rfl) dX8_limits_7 ⟨Nat.le_of_ble_eq_true rfl, Nat.le_of_ble_eq_true rfl⟩ (fun rv7 u7 H locs hp7 hI => ?_)
  obtain ⟨v7_0, v7_1, v7_2⟩ := u7
  have hI : jI G zA zs [oC x0 8 [.ref t0, .ref l0, .ref e0, .ref g0, .ref u0, .ref f0, .ref m0, .ref k0, .ref s0, .ref z0, .ref d0, .int (nI ms), .int (nI cs), .int (nI ar)], oC u0 5 [.int (nI v7_0), .int (nI v7_1), .int (nI v7_2)]] H locs := hI
  dsimp only at hp7
  have f7_0 := hp7
  rcases f7_0 with ⟨q1, q2, q3, q4, q5, q6, rfl, rfl, rfl, rfl⟩ | ⟨hno, rfl, e1, e2, e3⟩
  · refine j_if_ne (tgt := 15) hC dX8_limits_10 (by decide) (by omega) (fun c10 => ?_) (fun c10 => ?_)
    · refine lv_aload_n zx zb dX8_limits_15 rfl (lv_at hl 0 rfl) ?_
      refine j_callVv (wr := [oC u0 5 [.int (nI v7_0), .int (nI v7_1), .int (nI v7_2)]]) hC hI (c_X8_forgetMatches zl G x0 t0 l0 e0 g0 u0 f0 m0 k0 s0 z0 d0 ms cs ar ) (cwV 0 hC.2.2.2.2.1 gX8_limits_X8_forgetMatches rfl rfl rfl (by decide +kernel) ⟨Nat.le_of_ble_eq_true rfl, Nat.le_of_ble_eq_true rfl⟩) [0] [1] rfl rfl rfl rfl rfl rfl (q0 := 0) rfl rfl rfl hl.1 (Nat.le_of_ble_eq_true rfl) dX8_limits_16 ⟨Nat.le_of_ble_eq_true rfl, Nat.le_of_ble_eq_true rfl⟩ (fun u16 H locs hp16 hI => ?_)
      have hI : jI G zA zs [oC u0 5 [.int (nI v7_0), .int (nI v7_1), .int (nI v7_2)], oC x0 8 [.ref t0, .ref l0, .ref e0, .ref g0, .ref u0, .ref f0, .ref m0, .ref k0, .ref s0, .ref z0, .ref d0, .int (nI 1), .int (nI 1), .int (nI ar)]] H locs := hI
      refine lv_iconst (v := nI 1) zx zb dX8_limits_19 (by decide) ?_
      exact hQ _ _ _ _ _ ⟨1, 1, v7_0, v7_1, v7_2⟩ dX8_limits_20 (hI.sub [1, 0] rfl rfl) (by (try dsimp only); exact ⟨(Or.inl ⟨q1, q2, q3, q4, q5, q6, rfl, rfl, rfl, rfl⟩), (Or.inr ⟨rfl, rfl⟩)⟩)
    · exact (by omega : False).elim
  · replace e1 := e1.symm
    replace e2 := e2.symm
    replace e3 := e3.symm
    subst e1
    subst e2
    subst e3
    refine j_if_ne (tgt := 15) hC dX8_limits_10 (by decide) (by omega) (fun c10 => ?_) (fun c10 => ?_)
    · exact (by omega : False).elim
    · refine lv_iconst (v := nI 0) zx zb dX8_limits_13 (by decide) ?_
      exact hQ _ _ _ _ _ ⟨ms, cs, la, lm, lw⟩ dX8_limits_14 (hI.sub [0, 1] rfl rfl) (by (try dsimp only); exact ⟨(Or.inr ⟨hno, rfl, rfl, rfl, rfl⟩), (Or.inl ⟨⟨rfl, rfl, rfl⟩, rfl, rfl⟩)⟩)

theorem hin_X8_price_X8 : ∀ w ∈ wsX80, w ∈ wsX8_price := by decide +kernel
theorem hfl_X8_price_37 : Cond.fieldLink RX8 37 "CheapParse" "tariff" "LCheapParse$Tariff;" ∈ wsX8_price := by decide +kernel
theorem hfl_X8_price_86 : Cond.fieldLink RX8 86 "CheapParse" "costsStale" "Z" ∈ wsX8_price := by decide +kernel
set_option maxHeartbeats 4000000 in
set_option maxRecDepth 100000 in
theorem c_X8_price (zl : Launch) (G : jG) (x0 : Nat) (t0 : Nat) (l0 : Nat) (e0 : Nat) (g0 : Nat) (u0 : Nat) (f0 : Nat) (f1 : Nat) (f2 : Nat) (f3 : Nat) (f4 : Nat) (m0 : Nat) (k0 : Nat) (s0 : Nat) (z0 : Nat) (d0 : Nat) (ms : Nat) (cs : Nat) (ar : Nat) (pb : Nat → Nat) (pa : Nat → Nat) (pl : Nat → Nat) (pd : Nat → Nat) (a : Int32) (k : Int32) (v : Int32)  : jMet zl yX8_price wsX8_price ({ frames := 2, cells := 0, slots := 0, locals := 45 }) G [oC x0 8 [.ref t0, .ref l0, .ref e0, .ref g0, .ref u0, .ref f0, .ref m0, .ref k0, .ref s0, .ref z0, .ref d0, .int (nI ms), .int (nI cs), .int (nI ar)], oC f0 7 [.ref f1, .ref f2, .ref f3, .ref f4], aI G f1 8 pb, aI G f2 1 pa, aI G f3 8 pl, aI G f4 9 pd] [.ref x0, .int a, .int k, .int v] (jQi G (fun (r : Int32) (u : Nat × (Nat → Nat) × (Nat → Nat) × (Nat → Nat) × (Nat → Nat)) => (pr_rel pb pa pl pd a k v r u.2.1 u.2.2.1 u.2.2.2.1 u.2.2.2.2) ∧ (((u.2.1 = pb ∧ u.2.2.1 = pa ∧ u.2.2.2.1 = pl ∧ u.2.2.2.2 = pd) ∧ u.1 = cs) ∨ u.1 = 1)) (fun (u : Nat × (Nat → Nat) × (Nat → Nat) × (Nat → Nat) × (Nat → Nat)) => [oC x0 8 [.ref t0, .ref l0, .ref e0, .ref g0, .ref u0, .ref f0, .ref m0, .ref k0, .ref s0, .ref z0, .ref d0, .int (nI ms), .int (nI u.1), .int (nI ar)], oC f0 7 [.ref f1, .ref f2, .ref f3, .ref f4], aI G f1 8 u.2.1, aI G f2 1 u.2.2.1, aI G f3 8 u.2.2.2.1, aI G f4 9 u.2.2.2.2])) 0 0 := by
  refine j_enter_i (cc := cX8_price) (nL := 4) (nm := "price") (own := RX8) (lv := [(0, .ref x0), (1, .int a), (2, .int k), (3, .int v)]) (by decide) rfl (Nat.le_of_ble_eq_true rfl) rfl rfl rfl ?_
  intro zA zp ze zs zm zargs zbelow zmeth zc zQ ls hC hQ hI hl
  have zx := hC.1
  have zb := hC.2.1
  refine lv_aload_n zx zb dX8_price_0 rfl (lv_at hl 0 rfl) ?_
  refine j_get hC hI hin_X8_price_X8 0 rfl rfl 5 (by decide) hfl_X8_price_37 rfl rfl dX8_price_1 ?_
  refine lv_iload_n zx zb dX8_price_4 rfl (lv_at hl 1 rfl) ?_
  refine lv_iload_n zx zb dX8_price_5 rfl (lv_at hl 2 rfl) ?_
  refine lv_iload_n zx zb dX8_price_6 rfl (lv_at hl 3 rfl) ?_
  refine j_callVi (wr := [oC x0 8 [.ref t0, .ref l0, .ref e0, .ref g0, .ref u0, .ref f0, .ref m0, .ref k0, .ref s0, .ref z0, .ref d0, .int (nI ms), .int (nI cs), .int (nI ar)]]) hC hI (c_X7_change zl G f0 f1 f2 f3 f4 pb pa pl pd a k v ) (cwV 3 hC.2.2.2.2.1 gX8_price_X7_change rfl rfl rfl (by decide +kernel) ⟨Nat.le_of_ble_eq_true rfl, Nat.le_of_ble_eq_true rfl⟩) [1, 2, 3, 4, 5] [0] rfl rfl rfl rfl rfl rfl (q0 := 0) rfl rfl rfl hl.1 (Nat.le_of_ble_eq_true rfl) dX8_price_7 ⟨Nat.le_of_ble_eq_true rfl, Nat.le_of_ble_eq_true rfl⟩ (fun rv7 u7 H locs hp7 hI => ?_)
  obtain ⟨v7_0, v7_1, v7_2, v7_3⟩ := u7
  have hI : jI G zA zs [oC x0 8 [.ref t0, .ref l0, .ref e0, .ref g0, .ref u0, .ref f0, .ref m0, .ref k0, .ref s0, .ref z0, .ref d0, .int (nI ms), .int (nI cs), .int (nI ar)], oC f0 7 [.ref f1, .ref f2, .ref f3, .ref f4], aI G f1 8 v7_0, aI G f2 1 v7_1, aI G f3 8 v7_2, aI G f4 9 v7_3] H locs := hI
  dsimp only at hp7
  have f7_0 := hp7
  rcases pr_two f7_0 with ⟨rfl, hy⟩ | ⟨hno, rfl, e1, e2, e3, e4⟩
  · refine j_if_ne (tgt := 15) hC dX8_price_10 (by decide) (by omega) (fun c10 => ?_) (fun c10 => ?_)
    · refine lv_aload_n zx zb dX8_price_15 rfl (lv_at hl 0 rfl) ?_
      refine lv_iconst (v := nI 1) zx zb dX8_price_16 (by decide) ?_
      refine j_put (w1 := [oC x0 8 [.ref t0, .ref l0, .ref e0, .ref g0, .ref u0, .ref f0, .ref m0, .ref k0, .ref s0, .ref z0, .ref d0, .int (nI ms), .int (nI 1), .int (nI ar)], oC f0 7 [.ref f1, .ref f2, .ref f3, .ref f4], aI G f1 8 v7_0, aI G f2 1 v7_1, aI G f3 8 v7_2, aI G f4 9 v7_3]) hC hI hin_X8_price_X8 tyX8 tyX8_ok nmX8 0 rfl rfl 12 (by decide) hfl_X8_price_86 rfl rfl rfl rfl (Nat.le_of_ble_eq_true rfl) dX8_price_17 rfl (fun H locs hI => ?_)
      refine lv_iconst (v := nI 1) zx zb dX8_price_20 (by decide) ?_
      exact hQ _ _ _ _ _ ⟨1, v7_0, v7_1, v7_2, v7_3⟩ dX8_price_21 (hI.sub [0, 1, 2, 3, 4, 5] rfl rfl) (by (try dsimp only); exact ⟨hy, (Or.inr rfl)⟩)
    · exact (by omega : False).elim
  · replace e1 := e1.symm
    replace e2 := e2.symm
    replace e3 := e3.symm
    replace e4 := e4.symm
    subst e1
    subst e2
    subst e3
    subst e4
    refine j_if_ne (tgt := 15) hC dX8_price_10 (by decide) (by omega) (fun c10 => ?_) (fun c10 => ?_)
    · exact (by omega : False).elim
    · refine lv_iconst (v := nI 0) zx zb dX8_price_13 (by decide) ?_
      exact hQ _ _ _ _ _ ⟨cs, pb, pa, pl, pd⟩ dX8_price_14 (hI.sub [0, 1, 2, 3, 4, 5] rfl rfl) (by (try dsimp only); exact ⟨(Or.inr ⟨hno, rfl, rfl, rfl, rfl, rfl⟩), (Or.inl ⟨⟨rfl, rfl, rfl, rfl⟩, rfl⟩)⟩)

theorem hin_X8_load_X8 : ∀ w ∈ wsX80, w ∈ wsX8_load := by decide +kernel
theorem hfl_X8_load_18 : Cond.fieldLink RX8 18 "CheapParse" "loaded" "LCheapParse$Bytes;" ∈ wsX8_load := by decide +kernel
set_option maxHeartbeats 4000000 in
set_option maxRecDepth 100000 in
theorem c_X8_load (zl : Launch) (G : jG) (x0 : Nat) (t0 : Nat) (l0 : Nat) (l1 : Nat) (e0 : Nat) (g0 : Nat) (u0 : Nat) (f0 : Nat) (m0 : Nat) (k0 : Nat) (s0 : Nat) (z0 : Nat) (d0 : Nat) (ms : Nat) (cs : Nat) (ar : Nat) (sz : Nat) (L : Nat → Nat) (x : Int64) (k : Int32) (hs : sz ≤ 700) : jMet zl yX8_load wsX8_load ({ frames := 2, cells := 0, slots := 0, locals := 45 }) G [oC x0 8 [.ref t0, .ref l0, .ref e0, .ref g0, .ref u0, .ref f0, .ref m0, .ref k0, .ref s0, .ref z0, .ref d0, .int (nI ms), .int (nI cs), .int (nI ar)], oC l0 1 [.ref l1, .int (nI sz)], aI G l1 700 L] [.ref x0, .long x, .int k] (jQi G (fun (r : Int32) (u : (Nat → Nat) × Nat) => (ad_low 700 L sz x k r u.1 u.2)) (fun (u : (Nat → Nat) × Nat) => [oC x0 8 [.ref t0, .ref l0, .ref e0, .ref g0, .ref u0, .ref f0, .ref m0, .ref k0, .ref s0, .ref z0, .ref d0, .int (nI ms), .int (nI cs), .int (nI ar)], oC l0 1 [.ref l1, .int (nI u.2)], aI G l1 700 u.1])) 0 0 := by
  refine j_enter_i (cc := cX8_load) (nL := 4) (nm := "load") (own := RX8) (lv := [(0, .ref x0), (1, .long x), (3, .int k)]) (by decide) rfl (Nat.le_of_ble_eq_true rfl) rfl rfl rfl ?_
  intro zA zp ze zs zm zargs zbelow zmeth zc zQ ls hC hQ hI hl
  have zx := hC.1
  have zb := hC.2.1
  refine lv_aload_n zx zb dX8_load_0 rfl (lv_at hl 0 rfl) ?_
  refine j_get hC hI hin_X8_load_X8 0 rfl rfl 1 (by decide) hfl_X8_load_18 rfl rfl dX8_load_1 ?_
  refine lv_lload_n zx zb dX8_load_4 rfl (lv_at hl 1 rfl) ?_
  refine lv_iload_n zx zb dX8_load_5 rfl (lv_at hl 2 rfl) ?_
  refine j_callVi (wr := [oC x0 8 [.ref t0, .ref l0, .ref e0, .ref g0, .ref u0, .ref f0, .ref m0, .ref k0, .ref s0, .ref z0, .ref d0, .int (nI ms), .int (nI cs), .int (nI ar)]]) hC hI (c_X1_addLowest zl G l0 l1 700 sz L x k (by omega) (by omega)) (cwV 2 hC.2.2.2.2.1 gX8_load_X1_addLowest rfl rfl rfl (by decide +kernel) ⟨Nat.le_of_ble_eq_true rfl, Nat.le_of_ble_eq_true rfl⟩) [1, 2] [0] rfl rfl rfl rfl rfl rfl (q0 := 0) rfl rfl rfl hl.1 (Nat.le_of_ble_eq_true rfl) dX8_load_6 ⟨Nat.le_of_ble_eq_true rfl, Nat.le_of_ble_eq_true rfl⟩ (fun rv6 u6 H locs hp6 hI => ?_)
  obtain ⟨v6_0, v6_1⟩ := u6
  have hI : jI G zA zs [oC x0 8 [.ref t0, .ref l0, .ref e0, .ref g0, .ref u0, .ref f0, .ref m0, .ref k0, .ref s0, .ref z0, .ref d0, .int (nI ms), .int (nI cs), .int (nI ar)], oC l0 1 [.ref l1, .int (nI v6_1)], aI G l1 700 v6_0] H locs := hI
  dsimp only at hp6
  have f6_0 := hp6
  exact hQ _ _ _ _ _ ⟨v6_0, v6_1⟩ dX8_load_9 (hI.sub [0, 1, 2] rfl rfl) (by (try dsimp only); exact f6_0)

theorem hin_X8_renewMatches_X8 : ∀ w ∈ wsX80, w ∈ wsX8_renewMatches := by decide +kernel
theorem hfl_X8_renewMatches_82 : Cond.fieldLink RX8 82 "CheapParse" "matchesStale" "Z" ∈ wsX8_renewMatches := by decide +kernel
theorem hfl_X8_renewMatches_46 : Cond.fieldLink RX8 46 "CheapParse" "matches" "LCheapParse$Matches;" ∈ wsX8_renewMatches := by decide +kernel
set_option maxHeartbeats 4000000 in
set_option maxRecDepth 100000 in
theorem c_X8_renewMatches (zl : Launch) (G : jG) (x0 : Nat) (t0 : Nat) (t1 : Nat) (l0 : Nat) (e0 : Nat) (g0 : Nat) (u0 : Nat) (f0 : Nat) (m0 : Nat) (a1 : Nat) (a2 : Nat) (a3 : Nat) (a4 : Nat) (a5 : Nat) (k0 : Nat) (s0 : Nat) (z0 : Nat) (d0 : Nat) (ms : Nat) (cs : Nat) (ar : Nat) (n : Nat) (la : Nat) (lm : Nat) (lw : Nat) (T : Nat → Nat) (q1 : Nat → Nat) (q2 : Nat → Nat) (q3 : Nat → Nat) (q4 : Nat → Nat) (q5 : Nat → Nat) (hn : n ≤ 500) (hl0 : 2 ≤ la ∧ la ≤ lm ∧ lm ≤ 255 ∧ lw ≤ 500) (hT : ∀ j, j < n → T j < 256) (hms : ms ≤ 1) (hmi : ms = 0 → ∀ p, p < n → mOK la lm lw T n q1 q2 q3 q4 p) : jMet zl yX8_renewMatches wsX8_renewMatches ({ frames := 4, cells := 0, slots := 0, locals := 95 }) G [oC x0 8 [.ref t0, .ref l0, .ref e0, .ref g0, .ref u0, .ref f0, .ref m0, .ref k0, .ref s0, .ref z0, .ref d0, .int (nI ms), .int (nI cs), .int (nI ar)], oC m0 3 [.ref t0, .ref u0, .ref a1, .ref a2, .ref a3, .ref a4, .ref a5], oC t0 1 [.ref t1, .int (nI n)], aI G t1 500 T, oC u0 5 [.int (nI la), .int (nI lm), .int (nI lw)], aI G a1 500 q1, aI G a2 500 q2, aI G a3 500 q3, aI G a4 4500 q4, aI G a5 501 q5] [.ref x0] (jQv G (fun (u : (Nat → Nat) × (Nat → Nat) × (Nat → Nat) × (Nat → Nat) × (Nat → Nat)) => (∀ p, p < n → mOK la lm lw T n u.1 u.2.1 u.2.2.1 u.2.2.2.1 p)) (fun (u : (Nat → Nat) × (Nat → Nat) × (Nat → Nat) × (Nat → Nat) × (Nat → Nat)) => [oC x0 8 [.ref t0, .ref l0, .ref e0, .ref g0, .ref u0, .ref f0, .ref m0, .ref k0, .ref s0, .ref z0, .ref d0, .int (nI 0), .int (nI cs), .int (nI ar)], oC m0 3 [.ref t0, .ref u0, .ref a1, .ref a2, .ref a3, .ref a4, .ref a5], oC t0 1 [.ref t1, .int (nI n)], aI G t1 500 T, oC u0 5 [.int (nI la), .int (nI lm), .int (nI lw)], aI G a1 500 u.1, aI G a2 500 u.2.1, aI G a3 500 u.2.2.1, aI G a4 4500 u.2.2.2.1, aI G a5 501 u.2.2.2.2])) 0 0 := by
  refine j_enter_v (cc := cX8_renewMatches) (nL := 1) (nm := "renewMatches") (own := RX8) (lv := [(0, .ref x0)]) (by decide) rfl (Nat.le_of_ble_eq_true rfl) rfl rfl rfl ?_
  intro zA zp ze zs zm zargs zbelow zmeth zc zQ ls hC hQ hI hl
  have zx := hC.1
  have zb := hC.2.1
  refine lv_aload_n zx zb dX8_renewMatches_0 rfl (lv_at hl 0 rfl) ?_
  refine j_get hC hI hin_X8_renewMatches_X8 0 rfl rfl 11 (by decide) hfl_X8_renewMatches_82 rfl rfl dX8_renewMatches_1 ?_
  refine j_if_eq (tgt := 19) hC dX8_renewMatches_4 (by decide) (by omega) (fun c4 => ?_) (fun c4 => ?_)
  · exact hQ _ _ _ _ ⟨q1, q2, q3, q4, q5⟩ dX8_renewMatches_19 (hI.sub [0, 1, 2, 3, 4, 5, 6, 7, 8, 9] rfl (by rw [c4]; rfl)) (by (try dsimp only); exact (hmi c4))
  · refine lv_aload_n zx zb dX8_renewMatches_7 rfl (lv_at hl 0 rfl) ?_
    refine j_get hC hI hin_X8_renewMatches_X8 0 rfl rfl 6 (by decide) hfl_X8_renewMatches_46 rfl rfl dX8_renewMatches_8 ?_
    refine j_callVv (wr := [oC x0 8 [.ref t0, .ref l0, .ref e0, .ref g0, .ref u0, .ref f0, .ref m0, .ref k0, .ref s0, .ref z0, .ref d0, .int (nI ms), .int (nI cs), .int (nI ar)]]) hC hI (c_X3_build zl G m0 t0 u0 a1 a2 a3 a4 a5 t1 n la lm lw T q1 q2 q3 q4 q5 (by omega) (by omega) (by omega)) (cwV 0 hC.2.2.2.2.1 gX8_renewMatches_X3_build rfl rfl rfl (by decide +kernel) ⟨Nat.le_of_ble_eq_true rfl, Nat.le_of_ble_eq_true rfl⟩) [1, 2, 3, 4, 5, 6, 7, 8, 9] [0] rfl rfl rfl rfl rfl rfl (q0 := 0) rfl rfl rfl hl.1 (Nat.le_of_ble_eq_true rfl) dX8_renewMatches_11 ⟨Nat.le_of_ble_eq_true rfl, Nat.le_of_ble_eq_true rfl⟩ (fun u11 H locs hp11 hI => ?_)
    obtain ⟨v11_0, v11_1, v11_2, v11_3, v11_4⟩ := u11
    have hI : jI G zA zs [oC x0 8 [.ref t0, .ref l0, .ref e0, .ref g0, .ref u0, .ref f0, .ref m0, .ref k0, .ref s0, .ref z0, .ref d0, .int (nI ms), .int (nI cs), .int (nI ar)], oC m0 3 [.ref t0, .ref u0, .ref a1, .ref a2, .ref a3, .ref a4, .ref a5], oC t0 1 [.ref t1, .int (nI n)], aI G t1 500 T, oC u0 5 [.int (nI la), .int (nI lm), .int (nI lw)], aI G a1 500 v11_0, aI G a2 500 v11_1, aI G a3 500 v11_2, aI G a4 4500 v11_3, aI G a5 501 v11_4] H locs := hI
    dsimp only at hp11
    have f11_0 := hp11
    refine lv_aload_n zx zb dX8_renewMatches_14 rfl (lv_at hl 0 rfl) ?_
    refine lv_iconst (v := nI 0) zx zb dX8_renewMatches_15 (by decide) ?_
    refine j_put (w1 := [oC x0 8 [.ref t0, .ref l0, .ref e0, .ref g0, .ref u0, .ref f0, .ref m0, .ref k0, .ref s0, .ref z0, .ref d0, .int (nI 0), .int (nI cs), .int (nI ar)], oC m0 3 [.ref t0, .ref u0, .ref a1, .ref a2, .ref a3, .ref a4, .ref a5], oC t0 1 [.ref t1, .int (nI n)], aI G t1 500 T, oC u0 5 [.int (nI la), .int (nI lm), .int (nI lw)], aI G a1 500 v11_0, aI G a2 500 v11_1, aI G a3 500 v11_2, aI G a4 4500 v11_3, aI G a5 501 v11_4]) hC hI hin_X8_renewMatches_X8 tyX8 tyX8_ok nmX8 0 rfl rfl 11 (by decide) hfl_X8_renewMatches_82 rfl rfl rfl rfl (Nat.le_of_ble_eq_true rfl) dX8_renewMatches_16 rfl (fun H locs hI => ?_)
    exact hQ _ _ _ _ ⟨v11_0, v11_1, v11_2, v11_3, v11_4⟩ dX8_renewMatches_19 (hI.sub [0, 1, 2, 3, 4, 5, 6, 7, 8, 9] rfl rfl) (by (try dsimp only); exact f11_0)

theorem hin_X8_renewCosts_X8 : ∀ w ∈ wsX80, w ∈ wsX8_renewCosts := by decide +kernel
theorem hfl_X8_renewCosts_86 : Cond.fieldLink RX8 86 "CheapParse" "costsStale" "Z" ∈ wsX8_renewCosts := by decide +kernel
theorem hfl_X8_renewCosts_55 : Cond.fieldLink RX8 55 "CheapParse" "costs" "LCheapParse$Costs;" ∈ wsX8_renewCosts := by decide +kernel
set_option maxHeartbeats 4000000 in
set_option maxRecDepth 100000 in
theorem c_X8_renewCosts (zl : Launch) (G : jG) (x0 : Nat) (t0 : Nat) (t1 : Nat) (l0 : Nat) (e0 : Nat) (g0 : Nat) (u0 : Nat) (f0 : Nat) (f1 : Nat) (f2 : Nat) (f3 : Nat) (f4 : Nat) (m0 : Nat) (a1 : Nat) (a2 : Nat) (a3 : Nat) (a4 : Nat) (a5 : Nat) (k0 : Nat) (b1 : Nat) (b2 : Nat) (b3 : Nat) (b4 : Nat) (b5 : Nat) (s0 : Nat) (z0 : Nat) (d0 : Nat) (ms : Nat) (cs : Nat) (ar : Nat) (n : Nat) (la : Nat) (lm : Nat) (lw : Nat) (T : Nat → Nat) (pb : Nat → Nat) (pa : Nat → Nat) (pl : Nat → Nat) (pd : Nat → Nat) (q1 : Nat → Nat) (q2 : Nat → Nat) (q3 : Nat → Nat) (q4 : Nat → Nat) (q5 : Nat → Nat) (C : Nat → Nat) (o1 : Nat → Nat) (o2 : Nat → Nat) (o4 : Nat → Nat) (o5 : Nat → Nat) (hn : n ≤ 500) (hl0 : 2 ≤ la ∧ la ≤ lm ∧ lm ≤ 255 ∧ lw ≤ 500) (hT : ∀ j, j < n → T j < 256) (hP : prOK pb pa pl pd) (hms : ms ≤ 1 ∧ cs ≤ 1) (hmi : ms = 0 → ∀ p, p < n → mOK la lm lw T n q1 q2 q3 q4 p) (hci : cs = 0 → cTab la lm lw T n pb pa pl pd C ∧ ∀ p, p < n → cOK la lm lw T n pb pa pl pd C o1 o2 p) : jMet zl yX8_renewCosts wsX8_renewCosts ({ frames := 5, cells := 0, slots := 0, locals := 115 }) G [oC x0 8 [.ref t0, .ref l0, .ref e0, .ref g0, .ref u0, .ref f0, .ref m0, .ref k0, .ref s0, .ref z0, .ref d0, .int (nI ms), .int (nI cs), .int (nI ar)], oC m0 3 [.ref t0, .ref u0, .ref a1, .ref a2, .ref a3, .ref a4, .ref a5], oC t0 1 [.ref t1, .int (nI n)], aI G t1 500 T, oC u0 5 [.int (nI la), .int (nI lm), .int (nI lw)], aI G a1 500 q1, aI G a2 500 q2, aI G a3 500 q3, aI G a4 4500 q4, aI G a5 501 q5, oC k0 2 [.ref t0, .ref u0, .ref f0, .ref m0, .ref b1, .ref b2, .ref b3, .ref b4, .ref b5], oC f0 7 [.ref f1, .ref f2, .ref f3, .ref f4], aI G f1 8 pb, aI G f2 1 pa, aI G f3 8 pl, aI G f4 9 pd, aI G b1 501 C, aI G b2 500 o1, aI G b3 500 o2, aI G b4 256 o4, aI G b5 256 o5] [.ref x0] (jQv G (fun (u : (Nat → Nat) × (Nat → Nat) × (Nat → Nat) × (Nat → Nat) × (Nat → Nat) × (Nat → Nat) × (Nat → Nat) × (Nat → Nat) × (Nat → Nat) × (Nat → Nat)) => (∀ p, p < n → mOK la lm lw T n u.1 u.2.1 u.2.2.1 u.2.2.2.1 p) ∧ (cTab la lm lw T n pb pa pl pd u.2.2.2.2.2.1) ∧ (∀ p, p < n → cOK la lm lw T n pb pa pl pd u.2.2.2.2.2.1 u.2.2.2.2.2.2.1 u.2.2.2.2.2.2.2.1 p)) (fun (u : (Nat → Nat) × (Nat → Nat) × (Nat → Nat) × (Nat → Nat) × (Nat → Nat) × (Nat → Nat) × (Nat → Nat) × (Nat → Nat) × (Nat → Nat) × (Nat → Nat)) => [oC x0 8 [.ref t0, .ref l0, .ref e0, .ref g0, .ref u0, .ref f0, .ref m0, .ref k0, .ref s0, .ref z0, .ref d0, .int (nI 0), .int (nI 0), .int (nI ar)], oC m0 3 [.ref t0, .ref u0, .ref a1, .ref a2, .ref a3, .ref a4, .ref a5], oC t0 1 [.ref t1, .int (nI n)], aI G t1 500 T, oC u0 5 [.int (nI la), .int (nI lm), .int (nI lw)], aI G a1 500 u.1, aI G a2 500 u.2.1, aI G a3 500 u.2.2.1, aI G a4 4500 u.2.2.2.1, aI G a5 501 u.2.2.2.2.1, oC k0 2 [.ref t0, .ref u0, .ref f0, .ref m0, .ref b1, .ref b2, .ref b3, .ref b4, .ref b5], oC f0 7 [.ref f1, .ref f2, .ref f3, .ref f4], aI G f1 8 pb, aI G f2 1 pa, aI G f3 8 pl, aI G f4 9 pd, aI G b1 501 u.2.2.2.2.2.1, aI G b2 500 u.2.2.2.2.2.2.1, aI G b3 500 u.2.2.2.2.2.2.2.1, aI G b4 256 u.2.2.2.2.2.2.2.2.1, aI G b5 256 u.2.2.2.2.2.2.2.2.2])) 0 0 := by
  refine j_enter_v (cc := cX8_renewCosts) (nL := 1) (nm := "renewCosts") (own := RX8) (lv := [(0, .ref x0)]) (by decide) rfl (Nat.le_of_ble_eq_true rfl) rfl rfl rfl ?_
  intro zA zp ze zs zm zargs zbelow zmeth zc zQ ls hC hQ hI hl
  have zx := hC.1
  have zb := hC.2.1
  refine lv_aload_n zx zb dX8_renewCosts_0 rfl (lv_at hl 0 rfl) ?_
  refine j_callVv (wr := [oC k0 2 [.ref t0, .ref u0, .ref f0, .ref m0, .ref b1, .ref b2, .ref b3, .ref b4, .ref b5], oC f0 7 [.ref f1, .ref f2, .ref f3, .ref f4], aI G f1 8 pb, aI G f2 1 pa, aI G f3 8 pl, aI G f4 9 pd, aI G b1 501 C, aI G b2 500 o1, aI G b3 500 o2, aI G b4 256 o4, aI G b5 256 o5]) hC hI (c_X8_renewMatches zl G x0 t0 t1 l0 e0 g0 u0 f0 m0 a1 a2 a3 a4 a5 k0 s0 z0 d0 ms cs ar n la lm lw T q1 q2 q3 q4 q5 (by omega) (by omega) (by omega) (by omega) hmi) (cwV 0 hC.2.2.2.2.1 gX8_renewCosts_X8_renewMatches rfl rfl rfl (by decide +kernel) ⟨Nat.le_of_ble_eq_true rfl, Nat.le_of_ble_eq_true rfl⟩) [0, 1, 2, 3, 4, 5, 6, 7, 8, 9] [10, 11, 12, 13, 14, 15, 16, 17, 18, 19, 20] rfl rfl rfl rfl rfl rfl (q0 := 0) rfl rfl rfl hl.1 (Nat.le_of_ble_eq_true rfl) dX8_renewCosts_1 ⟨Nat.le_of_ble_eq_true rfl, Nat.le_of_ble_eq_true rfl⟩ (fun u1 H locs hp1 hI => ?_)
  obtain ⟨v1_0, v1_1, v1_2, v1_3, v1_4⟩ := u1
  have hI : jI G zA zs [oC k0 2 [.ref t0, .ref u0, .ref f0, .ref m0, .ref b1, .ref b2, .ref b3, .ref b4, .ref b5], oC f0 7 [.ref f1, .ref f2, .ref f3, .ref f4], aI G f1 8 pb, aI G f2 1 pa, aI G f3 8 pl, aI G f4 9 pd, aI G b1 501 C, aI G b2 500 o1, aI G b3 500 o2, aI G b4 256 o4, aI G b5 256 o5, oC x0 8 [.ref t0, .ref l0, .ref e0, .ref g0, .ref u0, .ref f0, .ref m0, .ref k0, .ref s0, .ref z0, .ref d0, .int (nI 0), .int (nI cs), .int (nI ar)], oC m0 3 [.ref t0, .ref u0, .ref a1, .ref a2, .ref a3, .ref a4, .ref a5], oC t0 1 [.ref t1, .int (nI n)], aI G t1 500 T, oC u0 5 [.int (nI la), .int (nI lm), .int (nI lw)], aI G a1 500 v1_0, aI G a2 500 v1_1, aI G a3 500 v1_2, aI G a4 4500 v1_3, aI G a5 501 v1_4] H locs := hI
  dsimp only at hp1
  have f1_0 := hp1
  refine lv_aload_n zx zb dX8_renewCosts_4 rfl (lv_at hl 0 rfl) ?_
  refine j_get hC hI hin_X8_renewCosts_X8 11 rfl rfl 12 (by decide) hfl_X8_renewCosts_86 rfl rfl dX8_renewCosts_5 ?_
  refine j_if_eq (tgt := 23) hC dX8_renewCosts_8 (by decide) (by omega) (fun c8 => ?_) (fun c8 => ?_)
  · exact hQ _ _ _ _ ⟨v1_0, v1_1, v1_2, v1_3, v1_4, C, o1, o2, o4, o5⟩ dX8_renewCosts_23 (hI.sub [11, 12, 13, 14, 15, 16, 17, 18, 19, 20, 0, 1, 2, 3, 4, 5, 6, 7, 8, 9, 10] rfl (by rw [c8]; rfl)) (by (try dsimp only); exact ⟨f1_0, (hci c8).1, (hci c8).2⟩)
  · refine lv_aload_n zx zb dX8_renewCosts_11 rfl (lv_at hl 0 rfl) ?_
    refine j_get hC hI hin_X8_renewCosts_X8 11 rfl rfl 7 (by decide) hfl_X8_renewCosts_55 rfl rfl dX8_renewCosts_12 ?_
    refine j_callVv (wr := [oC x0 8 [.ref t0, .ref l0, .ref e0, .ref g0, .ref u0, .ref f0, .ref m0, .ref k0, .ref s0, .ref z0, .ref d0, .int (nI 0), .int (nI cs), .int (nI ar)], aI G a2 500 v1_1, aI G a3 500 v1_2, aI G a5 501 v1_4]) hC hI (c_X2_build zl G k0 b1 b2 b3 b4 b5 f0 f1 f2 f3 f4 m0 t0 u0 a1 a2 a3 a4 a5 t1 n la lm lw T v1_0 v1_3 pb pa pl pd C o1 o2 o4 o5 (by omega) (by omega) (by omega) hP (by omega) (fun p h => (f1_0 p h).1) (fun p h c hc => (f1_0 p h).2.2.2 c hc)) (cwV 0 hC.2.2.2.2.1 gX8_renewCosts_X2_build rfl rfl rfl (by decide +kernel) ⟨Nat.le_of_ble_eq_true rfl, Nat.le_of_ble_eq_true rfl⟩) [0, 12, 13, 14, 15, 16, 19, 1, 2, 3, 4, 5, 6, 7, 8, 9, 10] [11, 17, 18, 20] rfl rfl rfl rfl rfl rfl (q0 := 0) rfl rfl rfl hl.1 (Nat.le_of_ble_eq_true rfl) dX8_renewCosts_15 ⟨Nat.le_of_ble_eq_true rfl, Nat.le_of_ble_eq_true rfl⟩ (fun u15 H locs hp15 hI => ?_)
    obtain ⟨v15_0, v15_1, v15_2, v15_3, v15_4⟩ := u15
    have hI : jI G zA zs [oC x0 8 [.ref t0, .ref l0, .ref e0, .ref g0, .ref u0, .ref f0, .ref m0, .ref k0, .ref s0, .ref z0, .ref d0, .int (nI 0), .int (nI cs), .int (nI ar)], aI G a2 500 v1_1, aI G a3 500 v1_2, aI G a5 501 v1_4, oC k0 2 [.ref t0, .ref u0, .ref f0, .ref m0, .ref b1, .ref b2, .ref b3, .ref b4, .ref b5], oC m0 3 [.ref t0, .ref u0, .ref a1, .ref a2, .ref a3, .ref a4, .ref a5], oC t0 1 [.ref t1, .int (nI n)], aI G t1 500 T, oC u0 5 [.int (nI la), .int (nI lm), .int (nI lw)], aI G a1 500 v1_0, aI G a4 4500 v1_3, oC f0 7 [.ref f1, .ref f2, .ref f3, .ref f4], aI G f1 8 pb, aI G f2 1 pa, aI G f3 8 pl, aI G f4 9 pd, aI G b1 501 v15_0, aI G b2 500 v15_1, aI G b3 500 v15_2, aI G b4 256 v15_3, aI G b5 256 v15_4] H locs := hI
    dsimp only at hp15
    obtain ⟨f15_0, f15_1, f15_2⟩ := hp15
    refine lv_aload_n zx zb dX8_renewCosts_18 rfl (lv_at hl 0 rfl) ?_
    refine lv_iconst (v := nI 0) zx zb dX8_renewCosts_19 (by decide) ?_
    refine j_put (w1 := [oC x0 8 [.ref t0, .ref l0, .ref e0, .ref g0, .ref u0, .ref f0, .ref m0, .ref k0, .ref s0, .ref z0, .ref d0, .int (nI 0), .int (nI 0), .int (nI ar)], aI G a2 500 v1_1, aI G a3 500 v1_2, aI G a5 501 v1_4, oC k0 2 [.ref t0, .ref u0, .ref f0, .ref m0, .ref b1, .ref b2, .ref b3, .ref b4, .ref b5], oC m0 3 [.ref t0, .ref u0, .ref a1, .ref a2, .ref a3, .ref a4, .ref a5], oC t0 1 [.ref t1, .int (nI n)], aI G t1 500 T, oC u0 5 [.int (nI la), .int (nI lm), .int (nI lw)], aI G a1 500 v1_0, aI G a4 4500 v1_3, oC f0 7 [.ref f1, .ref f2, .ref f3, .ref f4], aI G f1 8 pb, aI G f2 1 pa, aI G f3 8 pl, aI G f4 9 pd, aI G b1 501 v15_0, aI G b2 500 v15_1, aI G b3 500 v15_2, aI G b4 256 v15_3, aI G b5 256 v15_4]) hC hI hin_X8_renewCosts_X8 tyX8 tyX8_ok nmX8 0 rfl rfl 12 (by decide) hfl_X8_renewCosts_86 rfl rfl rfl rfl (Nat.le_of_ble_eq_true rfl) dX8_renewCosts_20 rfl (fun H locs hI => ?_)
    exact hQ _ _ _ _ ⟨v1_0, v1_1, v1_2, v1_3, v1_4, v15_0, v15_1, v15_2, v15_3, v15_4⟩ dX8_renewCosts_23 (hI.sub [0, 5, 6, 7, 8, 9, 1, 2, 10, 3, 4, 11, 12, 13, 14, 15, 16, 17, 18, 19, 20] rfl rfl) (by (try dsimp only); exact ⟨f1_0, ⟨f15_0, fun p h => (f15_1 p h).1, f15_2⟩, f15_1⟩)

theorem hin_X8_longestStep_X8 : ∀ w ∈ wsX80, w ∈ wsX8_longestStep := by decide +kernel
theorem hfl_X8_longestStep_46 : Cond.fieldLink RX8 46 "CheapParse" "matches" "LCheapParse$Matches;" ∈ wsX8_longestStep := by decide +kernel
set_option maxHeartbeats 4000000 in
set_option maxRecDepth 100000 in
theorem c_X8_longestStep (zl : Launch) (G : jG) (x0 : Nat) (t0 : Nat) (t1 : Nat) (l0 : Nat) (e0 : Nat) (g0 : Nat) (u0 : Nat) (f0 : Nat) (m0 : Nat) (a1 : Nat) (a2 : Nat) (a3 : Nat) (a4 : Nat) (a5 : Nat) (k0 : Nat) (s0 : Nat) (z0 : Nat) (d0 : Nat) (ms : Nat) (cs : Nat) (ar : Nat) (n : Nat) (la : Nat) (lm : Nat) (lw : Nat) (T : Nat → Nat) (w : Nat) (p : Nat) (q1 : Nat → Nat) (hn : n ≤ 500) (hw : w = 1 ∨ w = 2) (hp : p < n) (hm : ∀ p, p < n → q1 p = mx (mt la lm lw T n p) 511) (hlm : lm ≤ 255) : jMet zl yX8_longestStep wsX8_longestStep ({ frames := 2, cells := 0, slots := 0, locals := 41 }) G [oC x0 8 [.ref t0, .ref l0, .ref e0, .ref g0, .ref u0, .ref f0, .ref m0, .ref k0, .ref s0, .ref z0, .ref d0, .int (nI ms), .int (nI cs), .int (nI ar)], oC m0 3 [.ref t0, .ref u0, .ref a1, .ref a2, .ref a3, .ref a4, .ref a5], oC t0 1 [.ref t1, .int (nI n)], aI G a1 500 q1] [.ref x0, .int (nI w), .int (nI p)] (jQi G (fun (r : Int32) (u : Unit) => (r = nI (if w = 2 ∧ lgA la lm lw T n p < lgA la lm lw T n (p + 1) then 1 else mx (mt la lm lw T n p) 511))) (fun (u : Unit) => [oC x0 8 [.ref t0, .ref l0, .ref e0, .ref g0, .ref u0, .ref f0, .ref m0, .ref k0, .ref s0, .ref z0, .ref d0, .int (nI ms), .int (nI cs), .int (nI ar)], oC m0 3 [.ref t0, .ref u0, .ref a1, .ref a2, .ref a3, .ref a4, .ref a5], oC t0 1 [.ref t1, .int (nI n)], aI G a1 500 q1])) 0 0 := by
  refine j_enter_i (cc := cX8_longestStep) (nL := 5) (nm := "longestStep") (own := RX8) (lv := [(0, .ref x0), (1, .int (nI w)), (2, .int (nI p))]) (by decide) rfl (Nat.le_of_ble_eq_true rfl) rfl rfl rfl ?_
  intro zA zp ze zs zm zargs zbelow zmeth zc zQ ls hC hQ hI hl
  have zx := hC.1
  have zb := hC.2.1
  have hb1 : mx (mt la lm lw T n p) 511 ≤ lm := mx_le (fun d => mt_le) _
  have hb2 : mx (mt la lm lw T n (p + 1)) 511 ≤ lm := mx_le (fun d => mt_le) _
  have hq1 := hm p hp
  have hlp : lgA la lm lw T n p = mx (mt la lm lw T n p) 511 := if_pos hp
  refine lv_aload_n zx zb dX8_longestStep_0 rfl (lv_at hl 0 rfl) ?_
  refine j_get hC hI hin_X8_longestStep_X8 0 rfl rfl 6 (by decide) hfl_X8_longestStep_46 rfl rfl dX8_longestStep_1 ?_
  refine lv_iload_n zx zb dX8_longestStep_4 rfl (lv_at hl 2 rfl) ?_
  refine j_callVi (wr := [oC x0 8 [.ref t0, .ref l0, .ref e0, .ref g0, .ref u0, .ref f0, .ref m0, .ref k0, .ref s0, .ref z0, .ref d0, .int (nI ms), .int (nI cs), .int (nI ar)]]) hC hI (c_X3_longestAt zl G m0 t0 u0 a1 a2 a3 a4 a5 t1 n p q1 (by omega) (by omega)) (cwV 1 hC.2.2.2.2.1 gX8_longestStep_X3_longestAt rfl rfl rfl (by decide +kernel) ⟨Nat.le_of_ble_eq_true rfl, Nat.le_of_ble_eq_true rfl⟩) [1, 2, 3] [0] rfl rfl rfl rfl rfl rfl (q0 := 0) rfl rfl rfl hl.1 (Nat.le_of_ble_eq_true rfl) dX8_longestStep_5 ⟨Nat.le_of_ble_eq_true rfl, Nat.le_of_ble_eq_true rfl⟩ (fun rv5 u5 H locs hp5 hI => ?_)
  have hI : jI G zA zs [oC x0 8 [.ref t0, .ref l0, .ref e0, .ref g0, .ref u0, .ref f0, .ref m0, .ref k0, .ref s0, .ref z0, .ref d0, .int (nI ms), .int (nI cs), .int (nI ar)], oC m0 3 [.ref t0, .ref u0, .ref a1, .ref a2, .ref a3, .ref a4, .ref a5], oC t0 1 [.ref t1, .int (nI n)], aI G a1 500 q1] H locs := hI
  subst hp5
  refine lv_istore_n (lv' := [(3, .int (nI (q1 p))), (0, .ref x0), (1, .int (nI w)), (2, .int (nI p))]) zx zb dX8_longestStep_8 rfl hl (by decide) rfl (fun ls hl => ?_)
  refine lv_iload_n zx zb dX8_longestStep_9 rfl (lv_at hl 2 rfl) ?_
  refine lv_iconst (v := nI 2) zx zb dX8_longestStep_10 (by decide) ?_
  refine j_icmp_ne (tgt := 32) hC dX8_longestStep_11 (by decide) (by omega) (by omega) (fun c11 => ?_) (fun c11 => ?_)
  · refine lv_iconst (v := nI 0) zx zb dX8_longestStep_32 (by decide) ?_
    refine lv_istore (lv' := [(4, .int (nI 0)), (3, .int (nI (q1 p))), (0, .ref x0), (1, .int (nI w)), (2, .int (nI p))]) zx zb dX8_longestStep_33 hl (by decide) rfl (fun ls hl => ?_)
    refine lv_iload zx zb dX8_longestStep_35 (lv_at hl 0 rfl) ?_
    refine j_if_eq (tgt := 44) hC dX8_longestStep_37 (by decide) (by omega) (fun c37 => ?_) (fun c37 => ?_)
    · refine lv_iload_n zx zb dX8_longestStep_44 rfl (lv_at hl 1 rfl) ?_
      exact hQ _ _ _ _ _ () dX8_longestStep_45 (hI.sub [0, 1, 2, 3] rfl rfl) (by rw [if_neg (by omega), hq1])
    · exact (by omega : False).elim
  · refine lv_iload_n zx zb dX8_longestStep_14 rfl (lv_at hl 0 rfl) ?_
    refine lv_aload_n zx zb dX8_longestStep_15 rfl (lv_at hl 1 rfl) ?_
    refine j_get hC hI hin_X8_longestStep_X8 0 rfl rfl 6 (by decide) hfl_X8_longestStep_46 rfl rfl dX8_longestStep_16 ?_
    refine lv_iload_n zx zb dX8_longestStep_19 rfl (lv_at hl 3 rfl) ?_
    refine lv_iconst (v := nI 1) zx zb dX8_longestStep_20 (by decide) ?_
    refine j_iadd hC dX8_longestStep_21 ?_
    rcases Nat.lt_or_ge (p + 1) n with hc | hc
    · have hq2 := hm (p + 1) hc
      have hln : lgA la lm lw T n (p + 1) = mx (mt la lm lw T n (p + 1)) 511 := if_pos hc
      refine j_callVi (wr := [oC x0 8 [.ref t0, .ref l0, .ref e0, .ref g0, .ref u0, .ref f0, .ref m0, .ref k0, .ref s0, .ref z0, .ref d0, .int (nI ms), .int (nI cs), .int (nI ar)]]) hC hI (c_X3_longestAt zl G m0 t0 u0 a1 a2 a3 a4 a5 t1 n (p + 1) q1 (by omega) (by omega)) (cwV 1 hC.2.2.2.2.1 gX8_longestStep_X3_longestAt rfl rfl rfl (by decide +kernel) ⟨Nat.le_of_ble_eq_true rfl, Nat.le_of_ble_eq_true rfl⟩) [1, 2, 3] [0] rfl rfl rfl rfl rfl rfl (q0 := 0) rfl rfl rfl hl.1 (Nat.le_of_ble_eq_true rfl) dX8_longestStep_22 ⟨Nat.le_of_ble_eq_true rfl, Nat.le_of_ble_eq_true rfl⟩ (fun rv22 u22 H locs hp22 hI => ?_)
      have hI : jI G zA zs [oC x0 8 [.ref t0, .ref l0, .ref e0, .ref g0, .ref u0, .ref f0, .ref m0, .ref k0, .ref s0, .ref z0, .ref d0, .int (nI ms), .int (nI cs), .int (nI ar)], oC m0 3 [.ref t0, .ref u0, .ref a1, .ref a2, .ref a3, .ref a4, .ref a5], oC t0 1 [.ref t1, .int (nI n)], aI G a1 500 q1] H locs := hI
      subst hp22
      refine j_icmp_ge (tgt := 32) hC dX8_longestStep_25 (by decide) (by omega) (by omega) (fun c25 => ?_) (fun c25 => ?_)
      · refine lv_iconst (v := nI 0) zx zb dX8_longestStep_32 (by decide) ?_
        refine lv_istore (lv' := [(4, .int (nI 0)), (3, .int (nI (q1 p))), (0, .ref x0), (1, .int (nI w)), (2, .int (nI p))]) zx zb dX8_longestStep_33 hl (by decide) rfl (fun ls hl => ?_)
        refine lv_iload zx zb dX8_longestStep_35 (lv_at hl 0 rfl) ?_
        refine j_if_eq (tgt := 44) hC dX8_longestStep_37 (by decide) (by omega) (fun c37 => ?_) (fun c37 => ?_)
        · refine lv_iload_n zx zb dX8_longestStep_44 rfl (lv_at hl 1 rfl) ?_
          exact hQ _ _ _ _ _ () dX8_longestStep_45 (hI.sub [0, 1, 2, 3] rfl rfl) (by rw [if_neg (by omega), hq1])
        · exact (by omega : False).elim
      · refine lv_iconst (v := nI 1) zx zb dX8_longestStep_28 (by decide) ?_
        refine lv_goto (tgt := 33) zx zb dX8_longestStep_29 (by decide) ?_
        refine lv_istore (lv' := [(4, .int (nI 1)), (3, .int (nI (q1 p))), (0, .ref x0), (1, .int (nI w)), (2, .int (nI p))]) zx zb dX8_longestStep_33 hl (by decide) rfl (fun ls hl => ?_)
        refine lv_iload zx zb dX8_longestStep_35 (lv_at hl 0 rfl) ?_
        refine j_if_eq (tgt := 44) hC dX8_longestStep_37 (by decide) (by omega) (fun c37 => ?_) (fun c37 => ?_)
        · exact (by omega : False).elim
        · refine lv_iconst (v := nI 1) zx zb dX8_longestStep_40 (by decide) ?_
          refine lv_goto (tgt := 45) zx zb dX8_longestStep_41 (by decide) ?_
          exact hQ _ _ _ _ _ () dX8_longestStep_45 (hI.sub [0, 1, 2, 3] rfl rfl) (by rw [if_pos (by omega)])
    · have hln : lgA la lm lw T n (p + 1) = 0 := if_neg (by omega)
      refine j_callVi (wr := [oC x0 8 [.ref t0, .ref l0, .ref e0, .ref g0, .ref u0, .ref f0, .ref m0, .ref k0, .ref s0, .ref z0, .ref d0, .int (nI ms), .int (nI cs), .int (nI ar)], aI G a1 500 q1]) hC hI (c_X3_longestAt_out zl G m0 t0 u0 a1 a2 a3 a4 a5 t1 n (p + 1) (by omega) (by omega)) (cwV 1 hC.2.2.2.2.1 gX8_longestStep_X3_longestAt rfl rfl rfl (by decide +kernel) ⟨Nat.le_of_ble_eq_true rfl, Nat.le_of_ble_eq_true rfl⟩) [1, 2] [0, 3] rfl rfl rfl rfl rfl rfl (q0 := 0) rfl rfl rfl hl.1 (Nat.le_of_ble_eq_true rfl) dX8_longestStep_22 ⟨Nat.le_of_ble_eq_true rfl, Nat.le_of_ble_eq_true rfl⟩ (fun rv22 u22 H locs hp22 hI => ?_)
      have hI : jI G zA zs [oC x0 8 [.ref t0, .ref l0, .ref e0, .ref g0, .ref u0, .ref f0, .ref m0, .ref k0, .ref s0, .ref z0, .ref d0, .int (nI ms), .int (nI cs), .int (nI ar)], aI G a1 500 q1, oC m0 3 [.ref t0, .ref u0, .ref a1, .ref a2, .ref a3, .ref a4, .ref a5], oC t0 1 [.ref t1, .int (nI n)]] H locs := hI
      subst hp22
      refine j_icmp_ge (tgt := 32) hC dX8_longestStep_25 (by decide) (by omega) (by omega) (fun c25 => ?_) (fun c25 => ?_)
      · refine lv_iconst (v := nI 0) zx zb dX8_longestStep_32 (by decide) ?_
        refine lv_istore (lv' := [(4, .int (nI 0)), (3, .int (nI (q1 p))), (0, .ref x0), (1, .int (nI w)), (2, .int (nI p))]) zx zb dX8_longestStep_33 hl (by decide) rfl (fun ls hl => ?_)
        refine lv_iload zx zb dX8_longestStep_35 (lv_at hl 0 rfl) ?_
        refine j_if_eq (tgt := 44) hC dX8_longestStep_37 (by decide) (by omega) (fun c37 => ?_) (fun c37 => ?_)
        · refine lv_iload_n zx zb dX8_longestStep_44 rfl (lv_at hl 1 rfl) ?_
          exact hQ _ _ _ _ _ () dX8_longestStep_45 (hI.sub [0, 2, 3, 1] rfl rfl) (by rw [if_neg (by omega), hq1])
        · exact (by omega : False).elim
      · refine lv_iconst (v := nI 1) zx zb dX8_longestStep_28 (by decide) ?_
        refine lv_goto (tgt := 33) zx zb dX8_longestStep_29 (by decide) ?_
        refine lv_istore (lv' := [(4, .int (nI 1)), (3, .int (nI (q1 p))), (0, .ref x0), (1, .int (nI w)), (2, .int (nI p))]) zx zb dX8_longestStep_33 hl (by decide) rfl (fun ls hl => ?_)
        refine lv_iload zx zb dX8_longestStep_35 (lv_at hl 0 rfl) ?_
        refine j_if_eq (tgt := 44) hC dX8_longestStep_37 (by decide) (by omega) (fun c37 => ?_) (fun c37 => ?_)
        · exact (by omega : False).elim
        · refine lv_iconst (v := nI 1) zx zb dX8_longestStep_40 (by decide) ?_
          refine lv_goto (tgt := 45) zx zb dX8_longestStep_41 (by decide) ?_
          exact hQ _ _ _ _ _ () dX8_longestStep_45 (hI.sub [0, 2, 3, 1] rfl rfl) (by exfalso; omega)

theorem hin_X8_addStep_X8 : ∀ w ∈ wsX80, w ∈ wsX8_addStep := by decide +kernel
theorem hfl_X8_addStep_55 : Cond.fieldLink RX8 55 "CheapParse" "costs" "LCheapParse$Costs;" ∈ wsX8_addStep := by decide +kernel
theorem hfl_X8_addStep_62 : Cond.fieldLink RX8 62 "CheapParse" "latest" "LCheapParse$Steps;" ∈ wsX8_addStep := by decide +kernel
theorem hfl_X8_addStep_37 : Cond.fieldLink RX8 37 "CheapParse" "tariff" "LCheapParse$Tariff;" ∈ wsX8_addStep := by decide +kernel
theorem hfl_X8_addStep_14 : Cond.fieldLink RX8 14 "CheapParse" "text" "LCheapParse$Bytes;" ∈ wsX8_addStep := by decide +kernel
set_option maxHeartbeats 4000000 in
set_option maxRecDepth 100000 in
theorem c_X8_addStep_0 (zl : Launch) (G : jG) (x0 : Nat) (t0 : Nat) (t1 : Nat) (l0 : Nat) (e0 : Nat) (g0 : Nat) (u0 : Nat) (f0 : Nat) (f1 : Nat) (f2 : Nat) (f3 : Nat) (f4 : Nat) (m0 : Nat) (a1 : Nat) (a2 : Nat) (a3 : Nat) (a4 : Nat) (a5 : Nat) (k0 : Nat) (b1 : Nat) (b2 : Nat) (b3 : Nat) (b4 : Nat) (b5 : Nat) (s0 : Nat) (w0 : Nat) (s1 : Nat) (s2 : Nat) (s3 : Nat) (z0 : Nat) (d0 : Nat) (ms : Nat) (cs : Nat) (ar : Nat) (n : Nat) (la : Nat) (lm : Nat) (lw : Nat) (T : Nat → Nat) (pb : Nat → Nat) (pa : Nat → Nat) (pl : Nat → Nat) (pd : Nat → Nat) (q1 : Nat → Nat) (q2 : Nat → Nat) (q3 : Nat → Nat) (q4 : Nat → Nat) (C : Nat → Nat) (o1 : Nat → Nat) (o2 : Nat → Nat) (q : Nat) (k : Nat) (mc : Nat) (wp : Nat) (bt : Nat) (md : Nat) (sp : Nat → Nat) (sl : Nat → Nat) (sd : Nat → Nat) (p : Nat) (hn : n ≤ 500) (hl0 : 2 ≤ la ∧ la ≤ lm ∧ lm ≤ 255 ∧ lw ≤ 500) (hT : ∀ j, j < n → T j < 256) (hP : prOK pb pa pl pd) (hq : q = la) (hk : k < 500) (hp : p < n) (hm : ∀ p, p < n → mOK la lm lw T n q1 q2 q3 q4 p) (hc : ∀ p, p < n → cOK la lm lw T n pb pa pl pd C o1 o2 p) : jMet zl yX8_addStep wsX8_addStep ({ frames := 4, cells := 0, slots := 0, locals := 91 }) G [oC x0 8 [.ref t0, .ref l0, .ref e0, .ref g0, .ref u0, .ref f0, .ref m0, .ref k0, .ref s0, .ref z0, .ref d0, .int (nI ms), .int (nI cs), .int (nI ar)], oC k0 2 [.ref t0, .ref u0, .ref f0, .ref m0, .ref b1, .ref b2, .ref b3, .ref b4, .ref b5], oC f0 7 [.ref f1, .ref f2, .ref f3, .ref f4], aI G f1 8 pb, aI G f2 1 pa, aI G f3 8 pl, aI G f4 9 pd, aI G b2 500 o1, aI G b3 500 o2, oC m0 3 [.ref t0, .ref u0, .ref a1, .ref a2, .ref a3, .ref a4, .ref a5], oC t0 1 [.ref t1, .int (nI n)], aI G t1 500 T, oC u0 5 [.int (nI la), .int (nI lm), .int (nI lw)], aI G a1 500 q1, aI G a2 500 q2, aI G a4 4500 q4, oC s0 6 [.ref w0, .ref s1, .ref s2, .ref s3, .int (nI q), .int (nI k), .int (nI mc), .int (nI wp), .int (nI bt), .int (nI md)], aI G s1 500 sp, aI G s2 500 sl, aI G s3 500 sd] [.ref x0, .int (nI 0), .int (nI p)] (jQi G (fun (r : Int32) (u : Nat × Nat × Nat × Nat × Nat) => (r = nI u.1) ∧ (stepR 0 la lm lw T n pb pa pl pd C p u.1 u.2.1) ∧ (u.2.2.1 = mc + (if u.2.1 = 0 then 0 else 1)) ∧ (u.2.2.2.1 = wp + pri T pb pa pl pd p u.1 u.2.1) ∧ (u.2.2.2.2 = bt + bts q u.1 u.2.1)) (fun (u : Nat × Nat × Nat × Nat × Nat) => [oC x0 8 [.ref t0, .ref l0, .ref e0, .ref g0, .ref u0, .ref f0, .ref m0, .ref k0, .ref s0, .ref z0, .ref d0, .int (nI ms), .int (nI cs), .int (nI ar)], oC k0 2 [.ref t0, .ref u0, .ref f0, .ref m0, .ref b1, .ref b2, .ref b3, .ref b4, .ref b5], oC f0 7 [.ref f1, .ref f2, .ref f3, .ref f4], aI G f1 8 pb, aI G f2 1 pa, aI G f3 8 pl, aI G f4 9 pd, aI G b2 500 o1, aI G b3 500 o2, oC m0 3 [.ref t0, .ref u0, .ref a1, .ref a2, .ref a3, .ref a4, .ref a5], oC t0 1 [.ref t1, .int (nI n)], aI G t1 500 T, oC u0 5 [.int (nI la), .int (nI lm), .int (nI lw)], aI G a1 500 q1, aI G a2 500 q2, aI G a4 4500 q4, oC s0 6 [.ref w0, .ref s1, .ref s2, .ref s3, .int (nI q), .int (nI (k + 1)), .int (nI u.2.2.1), .int (nI u.2.2.2.1), .int (nI u.2.2.2.2), .int (nI md)], aI G s1 500 (up sp k p), aI G s2 500 (up sl k u.1), aI G s3 500 (up sd k u.2.1)])) 0 0 := by
  refine j_enter_i (cc := cX8_addStep) (nL := 5) (nm := "addStep") (own := RX8) (lv := [(0, .ref x0), (1, .int (nI 0)), (2, .int (nI p))]) (by decide) rfl (Nat.le_of_ble_eq_true rfl) rfl rfl rfl ?_
  intro zA zp ze zs zm zargs zbelow zmeth zc zQ ls hC hQ hI hl
  have zx := hC.1
  have zb := hC.2.1
  have hS := (hc p hp).2
  have hmx : mx (mt la lm lw T n p) 511 ≤ n - p := mx_le (fun d => mt_n) _
  have hml : mx (mt la lm lw T n p) 511 ≤ lm := mx_le (fun d => mt_le) _
  have hTp := hT p hp
  have hc255 : o1 p ≤ 255 := by rcases hS with ⟨z, -, -⟩ | ⟨z1, ⟨c, z2, z3, -⟩, -, -⟩; omega; have := rxc_mx (la := la) (lm := lm) (lw := lw) (T := T) (n := n) (p := p) z2; omega
  refine lv_iload_n zx zb dX8_addStep_0 rfl (lv_at hl 1 rfl) ?_
  refine j_if_ne (tgt := 15) hC dX8_addStep_1 (by decide) (by omega) (fun c1 => ?_) (fun c1 => ?_)
  · exact (by omega : False).elim
  · refine lv_aload_n zx zb dX8_addStep_4 rfl (lv_at hl 0 rfl) ?_
    refine j_get hC hI hin_X8_addStep_X8 0 rfl rfl 7 (by decide) hfl_X8_addStep_55 rfl rfl dX8_addStep_5 ?_
    refine lv_iload_n zx zb dX8_addStep_8 rfl (lv_at hl 2 rfl) ?_
    refine j_callVi (wr := [oC x0 8 [.ref t0, .ref l0, .ref e0, .ref g0, .ref u0, .ref f0, .ref m0, .ref k0, .ref s0, .ref z0, .ref d0, .int (nI ms), .int (nI cs), .int (nI ar)], oC f0 7 [.ref f1, .ref f2, .ref f3, .ref f4], aI G f1 8 pb, aI G f2 1 pa, aI G f3 8 pl, aI G f4 9 pd, aI G b3 500 o2, oC m0 3 [.ref t0, .ref u0, .ref a1, .ref a2, .ref a3, .ref a4, .ref a5], aI G t1 500 T, oC u0 5 [.int (nI la), .int (nI lm), .int (nI lw)], aI G a1 500 q1, aI G a2 500 q2, aI G a4 4500 q4, oC s0 6 [.ref w0, .ref s1, .ref s2, .ref s3, .int (nI q), .int (nI k), .int (nI mc), .int (nI wp), .int (nI bt), .int (nI md)], aI G s1 500 sp, aI G s2 500 sl, aI G s3 500 sd]) hC hI (c_X2_lengthAt zl G k0 b1 b2 b3 b4 b5 f0 m0 t0 u0 t1 n p o1 (by omega) (by omega)) (cwV 1 hC.2.2.2.2.1 gX8_addStep_X2_lengthAt rfl rfl rfl (by decide +kernel) ⟨Nat.le_of_ble_eq_true rfl, Nat.le_of_ble_eq_true rfl⟩) [1, 10, 7] [0, 2, 3, 4, 5, 6, 8, 9, 11, 12, 13, 14, 15, 16, 17, 18, 19] rfl rfl rfl rfl rfl rfl (q0 := 0) rfl rfl rfl hl.1 (Nat.le_of_ble_eq_true rfl) dX8_addStep_9 ⟨Nat.le_of_ble_eq_true rfl, Nat.le_of_ble_eq_true rfl⟩ (fun rv9 u9 H locs hp9 hI => ?_)
    have hI : jI G zA zs [oC x0 8 [.ref t0, .ref l0, .ref e0, .ref g0, .ref u0, .ref f0, .ref m0, .ref k0, .ref s0, .ref z0, .ref d0, .int (nI ms), .int (nI cs), .int (nI ar)], oC f0 7 [.ref f1, .ref f2, .ref f3, .ref f4], aI G f1 8 pb, aI G f2 1 pa, aI G f3 8 pl, aI G f4 9 pd, aI G b3 500 o2, oC m0 3 [.ref t0, .ref u0, .ref a1, .ref a2, .ref a3, .ref a4, .ref a5], aI G t1 500 T, oC u0 5 [.int (nI la), .int (nI lm), .int (nI lw)], aI G a1 500 q1, aI G a2 500 q2, aI G a4 4500 q4, oC s0 6 [.ref w0, .ref s1, .ref s2, .ref s3, .int (nI q), .int (nI k), .int (nI mc), .int (nI wp), .int (nI bt), .int (nI md)], aI G s1 500 sp, aI G s2 500 sl, aI G s3 500 sd, oC k0 2 [.ref t0, .ref u0, .ref f0, .ref m0, .ref b1, .ref b2, .ref b3, .ref b4, .ref b5], oC t0 1 [.ref t1, .int (nI n)], aI G b2 500 o1] H locs := hI
    subst hp9
    refine lv_goto (tgt := 21) zx zb dX8_addStep_12 (by decide) ?_
    refine lv_istore_n (lv' := [(3, .int (nI (o1 p))), (0, .ref x0), (1, .int (nI 0)), (2, .int (nI p))]) zx zb dX8_addStep_21 rfl hl (by decide) rfl (fun ls hl => ?_)
    refine lv_iload_n zx zb dX8_addStep_22 rfl (lv_at hl 0 rfl) ?_
    refine lv_iconst (v := nI 1) zx zb dX8_addStep_23 (by decide) ?_
    refine j_icmp_gt (tgt := 52) hC dX8_addStep_24 (by decide) (by omega) (by omega) (fun c24 => ?_) (fun c24 => ?_)
    · refine lv_iload_n zx zb dX8_addStep_52 rfl (lv_at hl 2 rfl) ?_
      refine j_if_ne (tgt := 67) hC dX8_addStep_53 (by decide) (by omega) (fun c53 => ?_) (fun c53 => ?_)
      · exact (by omega : False).elim
      · refine lv_aload_n zx zb dX8_addStep_56 rfl (lv_at hl 1 rfl) ?_
        refine j_get hC hI hin_X8_addStep_X8 0 rfl rfl 7 (by decide) hfl_X8_addStep_55 rfl rfl dX8_addStep_57 ?_
        refine lv_iload_n zx zb dX8_addStep_60 rfl (lv_at hl 3 rfl) ?_
        refine j_callVi (wr := [oC x0 8 [.ref t0, .ref l0, .ref e0, .ref g0, .ref u0, .ref f0, .ref m0, .ref k0, .ref s0, .ref z0, .ref d0, .int (nI ms), .int (nI cs), .int (nI ar)], aI G f1 8 pb, aI G f2 1 pa, aI G f3 8 pl, aI G a1 500 q1, aI G a2 500 q2, oC s0 6 [.ref w0, .ref s1, .ref s2, .ref s3, .int (nI q), .int (nI k), .int (nI mc), .int (nI wp), .int (nI bt), .int (nI md)], aI G s1 500 sp, aI G s2 500 sl, aI G s3 500 sd]) hC hI (c_X2_distanceAt zl G k0 b1 b2 b3 b4 b5 f0 f1 f2 f3 f4 m0 t0 u0 a1 a2 a3 a4 a5 t1 n la lm lw p (C p) T q4 pb pa pl pd C o1 o2 (by omega) (by omega) (by omega) hP (by omega) (by omega) (fun c h => (hm p hp).2.2.2 c h) hS (by omega)) (cwV 1 hC.2.2.2.2.1 gX8_addStep_X2_distanceAt rfl rfl rfl (by decide +kernel) ⟨Nat.le_of_ble_eq_true rfl, Nat.le_of_ble_eq_true rfl⟩) [17, 7, 18, 8, 9, 12, 1, 5, 19, 6] [0, 2, 3, 4, 10, 11, 13, 14, 15, 16] rfl rfl rfl rfl rfl rfl (q0 := 0) rfl rfl rfl hl.1 (Nat.le_of_ble_eq_true rfl) dX8_addStep_61 ⟨Nat.le_of_ble_eq_true rfl, Nat.le_of_ble_eq_true rfl⟩ (fun rv61 u61 H locs hp61 hI => ?_)
        obtain ⟨v61_0, rfl⟩ : ∃ z, z = u61 := ⟨_, rfl⟩
        have hI : jI G zA zs [oC x0 8 [.ref t0, .ref l0, .ref e0, .ref g0, .ref u0, .ref f0, .ref m0, .ref k0, .ref s0, .ref z0, .ref d0, .int (nI ms), .int (nI cs), .int (nI ar)], aI G f1 8 pb, aI G f2 1 pa, aI G f3 8 pl, aI G a1 500 q1, aI G a2 500 q2, oC s0 6 [.ref w0, .ref s1, .ref s2, .ref s3, .int (nI q), .int (nI k), .int (nI mc), .int (nI wp), .int (nI bt), .int (nI md)], aI G s1 500 sp, aI G s2 500 sl, aI G s3 500 sd, oC k0 2 [.ref t0, .ref u0, .ref f0, .ref m0, .ref b1, .ref b2, .ref b3, .ref b4, .ref b5], oC m0 3 [.ref t0, .ref u0, .ref a1, .ref a2, .ref a3, .ref a4, .ref a5], oC t0 1 [.ref t1, .int (nI n)], aI G t1 500 T, oC u0 5 [.int (nI la), .int (nI lm), .int (nI lw)], aI G a4 4500 q4, oC f0 7 [.ref f1, .ref f2, .ref f3, .ref f4], aI G f4 9 pd, aI G b2 500 o1, aI G b3 500 o2] H locs := hI
        obtain ⟨rfl, f61_0⟩ := hp61
        have hR : stepR 0 la lm lw T n pb pa pl pd C p (o1 p) v61_0 := Or.inl ⟨rfl, Or.inr (by rcases hS with ⟨z, -, -⟩ | ⟨z1, z2, z3, z4⟩; omega; exact ⟨z1, _, z2, z3, z4, f61_0⟩)⟩
        have hok := stepR_ok (by omega) hR
        have hd1 : 1 ≤ v61_0 := f61_0.1
        refine lv_goto (tgt := 75) zx zb dX8_addStep_64 (by decide) ?_
        refine lv_istore (lv' := [(4, .int (nI v61_0)), (3, .int (nI (o1 p))), (0, .ref x0), (1, .int (nI 0)), (2, .int (nI p))]) zx zb dX8_addStep_75 hl (by decide) rfl (fun ls hl => ?_)
        refine lv_aload_n zx zb dX8_addStep_77 rfl (lv_at hl 2 rfl) ?_
        refine j_get hC hI hin_X8_addStep_X8 0 rfl rfl 8 (by decide) hfl_X8_addStep_62 rfl rfl dX8_addStep_78 ?_
        refine lv_iload_n zx zb dX8_addStep_81 rfl (lv_at hl 4 rfl) ?_
        refine lv_iload_n zx zb dX8_addStep_82 rfl (lv_at hl 1 rfl) ?_
        refine lv_iload zx zb dX8_addStep_83 (lv_at hl 0 rfl) ?_
        refine lv_aload_n zx zb dX8_addStep_85 rfl (lv_at hl 2 rfl) ?_
        refine j_get hC hI hin_X8_addStep_X8 0 rfl rfl 5 (by decide) hfl_X8_addStep_37 rfl rfl dX8_addStep_86 ?_
        refine lv_iload_n zx zb dX8_addStep_89 rfl (lv_at hl 1 rfl) ?_
        refine lv_iload zx zb dX8_addStep_90 (lv_at hl 0 rfl) ?_
        refine j_callVi (wr := [oC x0 8 [.ref t0, .ref l0, .ref e0, .ref g0, .ref u0, .ref f0, .ref m0, .ref k0, .ref s0, .ref z0, .ref d0, .int (nI ms), .int (nI cs), .int (nI ar)], aI G f1 8 pb, aI G a1 500 q1, aI G a2 500 q2, oC s0 6 [.ref w0, .ref s1, .ref s2, .ref s3, .int (nI q), .int (nI k), .int (nI mc), .int (nI wp), .int (nI bt), .int (nI md)], aI G s1 500 sp, aI G s2 500 sl, aI G s3 500 sd, oC k0 2 [.ref t0, .ref u0, .ref f0, .ref m0, .ref b1, .ref b2, .ref b3, .ref b4, .ref b5], oC m0 3 [.ref t0, .ref u0, .ref a1, .ref a2, .ref a3, .ref a4, .ref a5], oC t0 1 [.ref t1, .int (nI n)], aI G t1 500 T, oC u0 5 [.int (nI la), .int (nI lm), .int (nI lw)], aI G a4 4500 q4, aI G b2 500 o1, aI G b3 500 o2]) hC hI (c_X7_ofMatch zl G f0 f1 f2 f3 f4 (o1 p) v61_0 pa pl pd (by omega) (by omega)) (cwV 2 hC.2.2.2.2.1 gX8_addStep_X7_ofMatch rfl rfl rfl (by decide +kernel) ⟨Nat.le_of_ble_eq_true rfl, Nat.le_of_ble_eq_true rfl⟩) [16, 2, 3, 17] [0, 1, 4, 5, 6, 7, 8, 9, 10, 11, 12, 13, 14, 15, 18, 19] rfl rfl rfl rfl rfl rfl (q0 := 0) rfl rfl rfl hl.1 (Nat.le_of_ble_eq_true rfl) dX8_addStep_92 ⟨Nat.le_of_ble_eq_true rfl, Nat.le_of_ble_eq_true rfl⟩ (fun rv92 u92 H locs hp92 hI => ?_)
        have hI : jI G zA zs [oC x0 8 [.ref t0, .ref l0, .ref e0, .ref g0, .ref u0, .ref f0, .ref m0, .ref k0, .ref s0, .ref z0, .ref d0, .int (nI ms), .int (nI cs), .int (nI ar)], aI G f1 8 pb, aI G a1 500 q1, aI G a2 500 q2, oC s0 6 [.ref w0, .ref s1, .ref s2, .ref s3, .int (nI q), .int (nI k), .int (nI mc), .int (nI wp), .int (nI bt), .int (nI md)], aI G s1 500 sp, aI G s2 500 sl, aI G s3 500 sd, oC k0 2 [.ref t0, .ref u0, .ref f0, .ref m0, .ref b1, .ref b2, .ref b3, .ref b4, .ref b5], oC m0 3 [.ref t0, .ref u0, .ref a1, .ref a2, .ref a3, .ref a4, .ref a5], oC t0 1 [.ref t1, .int (nI n)], aI G t1 500 T, oC u0 5 [.int (nI la), .int (nI lm), .int (nI lw)], aI G a4 4500 q4, aI G b2 500 o1, aI G b3 500 o2, oC f0 7 [.ref f1, .ref f2, .ref f3, .ref f4], aI G f2 1 pa, aI G f3 8 pl, aI G f4 9 pd] H locs := hI
        subst hp92
        refine j_callVv (wr := [oC x0 8 [.ref t0, .ref l0, .ref e0, .ref g0, .ref u0, .ref f0, .ref m0, .ref k0, .ref s0, .ref z0, .ref d0, .int (nI ms), .int (nI cs), .int (nI ar)], aI G f1 8 pb, aI G a1 500 q1, aI G a2 500 q2, oC k0 2 [.ref t0, .ref u0, .ref f0, .ref m0, .ref b1, .ref b2, .ref b3, .ref b4, .ref b5], oC m0 3 [.ref t0, .ref u0, .ref a1, .ref a2, .ref a3, .ref a4, .ref a5], oC t0 1 [.ref t1, .int (nI n)], aI G t1 500 T, oC u0 5 [.int (nI la), .int (nI lm), .int (nI lw)], aI G a4 4500 q4, aI G b2 500 o1, aI G b3 500 o2, oC f0 7 [.ref f1, .ref f2, .ref f3, .ref f4], aI G f2 1 pa, aI G f3 8 pl, aI G f4 9 pd]) hC hI (c_X6_addMatch zl G s0 w0 s1 s2 s3 q k mc wp bt md sp sl sd p (o1 p) v61_0 (pa 0 + pl (o1 p).log2 + pd v61_0.log2) (by omega) (by omega) (by omega) (by omega)) (cwV 4 hC.2.2.2.2.1 gX8_addStep_X6_addMatch rfl rfl rfl (by decide +kernel) ⟨Nat.le_of_ble_eq_true rfl, Nat.le_of_ble_eq_true rfl⟩) [4, 5, 6, 7] [0, 1, 2, 3, 8, 9, 10, 11, 12, 13, 14, 15, 16, 17, 18, 19] rfl rfl rfl rfl rfl rfl (q0 := 0) rfl rfl rfl hl.1 (Nat.le_of_ble_eq_true rfl) dX8_addStep_95 ⟨Nat.le_of_ble_eq_true rfl, Nat.le_of_ble_eq_true rfl⟩ (fun u95 H locs hp95 hI => ?_)
        have hI : jI G zA zs [oC x0 8 [.ref t0, .ref l0, .ref e0, .ref g0, .ref u0, .ref f0, .ref m0, .ref k0, .ref s0, .ref z0, .ref d0, .int (nI ms), .int (nI cs), .int (nI ar)], aI G f1 8 pb, aI G a1 500 q1, aI G a2 500 q2, oC k0 2 [.ref t0, .ref u0, .ref f0, .ref m0, .ref b1, .ref b2, .ref b3, .ref b4, .ref b5], oC m0 3 [.ref t0, .ref u0, .ref a1, .ref a2, .ref a3, .ref a4, .ref a5], oC t0 1 [.ref t1, .int (nI n)], aI G t1 500 T, oC u0 5 [.int (nI la), .int (nI lm), .int (nI lw)], aI G a4 4500 q4, aI G b2 500 o1, aI G b3 500 o2, oC f0 7 [.ref f1, .ref f2, .ref f3, .ref f4], aI G f2 1 pa, aI G f3 8 pl, aI G f4 9 pd, oC s0 6 [.ref w0, .ref s1, .ref s2, .ref s3, .int (nI q), .int (nI (k + 1)), .int (nI (mc + 1)), .int (nI (wp + (pa 0 + pl (o1 p).log2 + pd v61_0.log2))), .int (nI (bt + (1 + (2 * ((o1 p) - q + 1).log2 + 1) + 4 + v61_0.log2))), .int (nI md)], aI G s1 500 (up sp k p), aI G s2 500 (up sl k (o1 p)), aI G s3 500 (up sd k v61_0)] H locs := hI
        refine lv_iload_n zx zb dX8_addStep_98 rfl (lv_at hl 1 rfl) ?_
        exact hQ _ _ _ _ _ ⟨o1 p, v61_0, mc + 1, wp + (pa 0 + pl (o1 p).log2 + pd v61_0.log2), bt + (1 + (2 * ((o1 p) - q + 1).log2 + 1) + 4 + v61_0.log2)⟩ dX8_addStep_99 (hI.sub [0, 4, 12, 1, 13, 14, 15, 10, 11, 5, 6, 7, 8, 2, 3, 9, 16, 17, 18, 19] rfl rfl) (by (try dsimp only); exact ⟨(by first | rfl | (congr 1; omega) | omega), hR, (by rw [if_neg (by omega)]), (by rw [pri, if_neg (by omega)]), (by rw [bts, if_neg (by omega)])⟩)
    · refine lv_aload_n zx zb dX8_addStep_27 rfl (lv_at hl 1 rfl) ?_
      refine j_get hC hI hin_X8_addStep_X8 0 rfl rfl 8 (by decide) hfl_X8_addStep_62 rfl rfl dX8_addStep_28 ?_
      refine lv_iload_n zx zb dX8_addStep_31 rfl (lv_at hl 3 rfl) ?_
      refine lv_aload_n zx zb dX8_addStep_32 rfl (lv_at hl 1 rfl) ?_
      refine j_get hC hI hin_X8_addStep_X8 0 rfl rfl 5 (by decide) hfl_X8_addStep_37 rfl rfl dX8_addStep_33 ?_
      refine lv_aload_n zx zb dX8_addStep_36 rfl (lv_at hl 1 rfl) ?_
      refine j_get hC hI hin_X8_addStep_X8 0 rfl rfl 0 (by decide) hfl_X8_addStep_14 rfl rfl dX8_addStep_37 ?_
      refine lv_iload_n zx zb dX8_addStep_40 rfl (lv_at hl 3 rfl) ?_
      refine j_callVi (wr := [oC x0 8 [.ref t0, .ref l0, .ref e0, .ref g0, .ref u0, .ref f0, .ref m0, .ref k0, .ref s0, .ref z0, .ref d0, .int (nI ms), .int (nI cs), .int (nI ar)], oC f0 7 [.ref f1, .ref f2, .ref f3, .ref f4], aI G f1 8 pb, aI G f2 1 pa, aI G f3 8 pl, aI G f4 9 pd, aI G b3 500 o2, oC m0 3 [.ref t0, .ref u0, .ref a1, .ref a2, .ref a3, .ref a4, .ref a5], oC u0 5 [.int (nI la), .int (nI lm), .int (nI lw)], aI G a1 500 q1, aI G a2 500 q2, aI G a4 4500 q4, oC s0 6 [.ref w0, .ref s1, .ref s2, .ref s3, .int (nI q), .int (nI k), .int (nI mc), .int (nI wp), .int (nI bt), .int (nI md)], aI G s1 500 sp, aI G s2 500 sl, aI G s3 500 sd, oC k0 2 [.ref t0, .ref u0, .ref f0, .ref m0, .ref b1, .ref b2, .ref b3, .ref b4, .ref b5], aI G b2 500 o1]) hC hI (c_X1_get_in zl G t0 t1 500 n p T (by omega) (by omega) (by omega)) (cwV 1 hC.2.2.2.2.1 gX8_addStep_X1_get rfl rfl rfl (by decide +kernel) ⟨Nat.le_of_ble_eq_true rfl, Nat.le_of_ble_eq_true rfl⟩) [18, 8] [0, 1, 2, 3, 4, 5, 6, 7, 9, 10, 11, 12, 13, 14, 15, 16, 17, 19] rfl rfl rfl rfl rfl rfl (q0 := 0) rfl rfl rfl hl.1 (Nat.le_of_ble_eq_true rfl) dX8_addStep_41 ⟨Nat.le_of_ble_eq_true rfl, Nat.le_of_ble_eq_true rfl⟩ (fun rv41 u41 H locs hp41 hI => ?_)
      have hI : jI G zA zs [oC x0 8 [.ref t0, .ref l0, .ref e0, .ref g0, .ref u0, .ref f0, .ref m0, .ref k0, .ref s0, .ref z0, .ref d0, .int (nI ms), .int (nI cs), .int (nI ar)], oC f0 7 [.ref f1, .ref f2, .ref f3, .ref f4], aI G f1 8 pb, aI G f2 1 pa, aI G f3 8 pl, aI G f4 9 pd, aI G b3 500 o2, oC m0 3 [.ref t0, .ref u0, .ref a1, .ref a2, .ref a3, .ref a4, .ref a5], oC u0 5 [.int (nI la), .int (nI lm), .int (nI lw)], aI G a1 500 q1, aI G a2 500 q2, aI G a4 4500 q4, oC s0 6 [.ref w0, .ref s1, .ref s2, .ref s3, .int (nI q), .int (nI k), .int (nI mc), .int (nI wp), .int (nI bt), .int (nI md)], aI G s1 500 sp, aI G s2 500 sl, aI G s3 500 sd, oC k0 2 [.ref t0, .ref u0, .ref f0, .ref m0, .ref b1, .ref b2, .ref b3, .ref b4, .ref b5], aI G b2 500 o1, oC t0 1 [.ref t1, .int (nI n)], aI G t1 500 T] H locs := hI
      subst hp41
      refine j_callVi (wr := [oC x0 8 [.ref t0, .ref l0, .ref e0, .ref g0, .ref u0, .ref f0, .ref m0, .ref k0, .ref s0, .ref z0, .ref d0, .int (nI ms), .int (nI cs), .int (nI ar)], aI G f2 1 pa, aI G f3 8 pl, aI G f4 9 pd, aI G b3 500 o2, oC m0 3 [.ref t0, .ref u0, .ref a1, .ref a2, .ref a3, .ref a4, .ref a5], oC u0 5 [.int (nI la), .int (nI lm), .int (nI lw)], aI G a1 500 q1, aI G a2 500 q2, aI G a4 4500 q4, oC s0 6 [.ref w0, .ref s1, .ref s2, .ref s3, .int (nI q), .int (nI k), .int (nI mc), .int (nI wp), .int (nI bt), .int (nI md)], aI G s1 500 sp, aI G s2 500 sl, aI G s3 500 sd, oC k0 2 [.ref t0, .ref u0, .ref f0, .ref m0, .ref b1, .ref b2, .ref b3, .ref b4, .ref b5], aI G b2 500 o1, oC t0 1 [.ref t1, .int (nI n)], aI G t1 500 T]) hC hI (c_X7_ofByte zl G f0 f1 f2 f3 f4 (T p) pb (by omega)) (cwV 1 hC.2.2.2.2.1 gX8_addStep_X7_ofByte rfl rfl rfl (by decide +kernel) ⟨Nat.le_of_ble_eq_true rfl, Nat.le_of_ble_eq_true rfl⟩) [1, 2] [0, 3, 4, 5, 6, 7, 8, 9, 10, 11, 12, 13, 14, 15, 16, 17, 18, 19] rfl rfl rfl rfl rfl rfl (q0 := 0) rfl rfl rfl hl.1 (Nat.le_of_ble_eq_true rfl) dX8_addStep_44 ⟨Nat.le_of_ble_eq_true rfl, Nat.le_of_ble_eq_true rfl⟩ (fun rv44 u44 H locs hp44 hI => ?_)
      have hI : jI G zA zs [oC x0 8 [.ref t0, .ref l0, .ref e0, .ref g0, .ref u0, .ref f0, .ref m0, .ref k0, .ref s0, .ref z0, .ref d0, .int (nI ms), .int (nI cs), .int (nI ar)], aI G f2 1 pa, aI G f3 8 pl, aI G f4 9 pd, aI G b3 500 o2, oC m0 3 [.ref t0, .ref u0, .ref a1, .ref a2, .ref a3, .ref a4, .ref a5], oC u0 5 [.int (nI la), .int (nI lm), .int (nI lw)], aI G a1 500 q1, aI G a2 500 q2, aI G a4 4500 q4, oC s0 6 [.ref w0, .ref s1, .ref s2, .ref s3, .int (nI q), .int (nI k), .int (nI mc), .int (nI wp), .int (nI bt), .int (nI md)], aI G s1 500 sp, aI G s2 500 sl, aI G s3 500 sd, oC k0 2 [.ref t0, .ref u0, .ref f0, .ref m0, .ref b1, .ref b2, .ref b3, .ref b4, .ref b5], aI G b2 500 o1, oC t0 1 [.ref t1, .int (nI n)], aI G t1 500 T, oC f0 7 [.ref f1, .ref f2, .ref f3, .ref f4], aI G f1 8 pb] H locs := hI
      subst hp44
      refine j_callVv (wr := [oC x0 8 [.ref t0, .ref l0, .ref e0, .ref g0, .ref u0, .ref f0, .ref m0, .ref k0, .ref s0, .ref z0, .ref d0, .int (nI ms), .int (nI cs), .int (nI ar)], aI G f2 1 pa, aI G f3 8 pl, aI G f4 9 pd, aI G b3 500 o2, oC m0 3 [.ref t0, .ref u0, .ref a1, .ref a2, .ref a3, .ref a4, .ref a5], oC u0 5 [.int (nI la), .int (nI lm), .int (nI lw)], aI G a1 500 q1, aI G a2 500 q2, aI G a4 4500 q4, oC k0 2 [.ref t0, .ref u0, .ref f0, .ref m0, .ref b1, .ref b2, .ref b3, .ref b4, .ref b5], aI G b2 500 o1, oC t0 1 [.ref t1, .int (nI n)], aI G t1 500 T, oC f0 7 [.ref f1, .ref f2, .ref f3, .ref f4], aI G f1 8 pb]) hC hI (c_X6_addByte zl G s0 w0 s1 s2 s3 q k mc wp bt md sp sl sd p (pb ((T p) / 32)) (by omega)) (cwV 2 hC.2.2.2.2.1 gX8_addStep_X6_addByte rfl rfl rfl (by decide +kernel) ⟨Nat.le_of_ble_eq_true rfl, Nat.le_of_ble_eq_true rfl⟩) [10, 11, 12, 13] [0, 1, 2, 3, 4, 5, 6, 7, 8, 9, 14, 15, 16, 17, 18, 19] rfl rfl rfl rfl rfl rfl (q0 := 0) rfl rfl rfl hl.1 (Nat.le_of_ble_eq_true rfl) dX8_addStep_47 ⟨Nat.le_of_ble_eq_true rfl, Nat.le_of_ble_eq_true rfl⟩ (fun u47 H locs hp47 hI => ?_)
      have hI : jI G zA zs [oC x0 8 [.ref t0, .ref l0, .ref e0, .ref g0, .ref u0, .ref f0, .ref m0, .ref k0, .ref s0, .ref z0, .ref d0, .int (nI ms), .int (nI cs), .int (nI ar)], aI G f2 1 pa, aI G f3 8 pl, aI G f4 9 pd, aI G b3 500 o2, oC m0 3 [.ref t0, .ref u0, .ref a1, .ref a2, .ref a3, .ref a4, .ref a5], oC u0 5 [.int (nI la), .int (nI lm), .int (nI lw)], aI G a1 500 q1, aI G a2 500 q2, aI G a4 4500 q4, oC k0 2 [.ref t0, .ref u0, .ref f0, .ref m0, .ref b1, .ref b2, .ref b3, .ref b4, .ref b5], aI G b2 500 o1, oC t0 1 [.ref t1, .int (nI n)], aI G t1 500 T, oC f0 7 [.ref f1, .ref f2, .ref f3, .ref f4], aI G f1 8 pb, oC s0 6 [.ref w0, .ref s1, .ref s2, .ref s3, .int (nI q), .int (nI (k + 1)), .int (nI mc), .int (nI (wp + (pb ((T p) / 32)))), .int (nI (bt + 9)), .int (nI md)], aI G s1 500 (up sp k p), aI G s2 500 (up sl k 1), aI G s3 500 (up sd k 0)] H locs := hI
      refine lv_iconst (v := nI 1) zx zb dX8_addStep_50 (by decide) ?_
      exact hQ _ _ _ _ _ ⟨1, 0, mc, wp + (pb ((T p) / 32)), bt + 9⟩ dX8_addStep_51 (hI.sub [0, 10, 14, 15, 1, 2, 3, 11, 4, 5, 12, 13, 6, 7, 8, 9, 16, 17, 18, 19] rfl rfl) (by (try dsimp only); exact ⟨(by first | rfl | (congr 1; omega) | omega), (Or.inl ⟨rfl, Or.inl (by rcases hS with ⟨z1, z2, z3⟩ | ⟨z1, -, -, -⟩; exact ⟨rfl, rfl, z2, z3⟩; omega)⟩), (by simp), (by rw [pri, if_pos rfl]), (by rw [bts, if_pos rfl])⟩)

theorem hfl_X8_addStep_46 : Cond.fieldLink RX8 46 "CheapParse" "matches" "LCheapParse$Matches;" ∈ wsX8_addStep := by decide +kernel
set_option maxHeartbeats 4000000 in
set_option maxRecDepth 100000 in
theorem c_X8_addStep_g (zl : Launch) (G : jG) (x0 : Nat) (t0 : Nat) (t1 : Nat) (l0 : Nat) (e0 : Nat) (g0 : Nat) (u0 : Nat) (f0 : Nat) (f1 : Nat) (f2 : Nat) (f3 : Nat) (f4 : Nat) (m0 : Nat) (a1 : Nat) (a2 : Nat) (a3 : Nat) (a4 : Nat) (a5 : Nat) (k0 : Nat) (s0 : Nat) (w0 : Nat) (s1 : Nat) (s2 : Nat) (s3 : Nat) (z0 : Nat) (d0 : Nat) (ms : Nat) (cs : Nat) (ar : Nat) (n : Nat) (la : Nat) (lm : Nat) (lw : Nat) (T : Nat → Nat) (pb : Nat → Nat) (pa : Nat → Nat) (pl : Nat → Nat) (pd : Nat → Nat) (q1 : Nat → Nat) (q2 : Nat → Nat) (q3 : Nat → Nat) (q4 : Nat → Nat) (C : Nat → Nat) (q : Nat) (k : Nat) (mc : Nat) (wp : Nat) (bt : Nat) (md : Nat) (sp : Nat → Nat) (sl : Nat → Nat) (sd : Nat → Nat) (w : Nat) (p : Nat) (hn : n ≤ 500) (hl0 : 2 ≤ la ∧ la ≤ lm ∧ lm ≤ 255 ∧ lw ≤ 500) (hT : ∀ j, j < n → T j < 256) (hP : prOK pb pa pl pd) (hq : q = la) (hk : k < 500) (hp : p < n) (hm : ∀ p, p < n → mOK la lm lw T n q1 q2 q3 q4 p) (hw : w = 1 ∨ w = 2) : jMet zl yX8_addStep wsX8_addStep ({ frames := 3, cells := 0, slots := 0, locals := 67 }) G [oC x0 8 [.ref t0, .ref l0, .ref e0, .ref g0, .ref u0, .ref f0, .ref m0, .ref k0, .ref s0, .ref z0, .ref d0, .int (nI ms), .int (nI cs), .int (nI ar)], oC f0 7 [.ref f1, .ref f2, .ref f3, .ref f4], aI G f1 8 pb, aI G f2 1 pa, aI G f3 8 pl, aI G f4 9 pd, oC m0 3 [.ref t0, .ref u0, .ref a1, .ref a2, .ref a3, .ref a4, .ref a5], oC t0 1 [.ref t1, .int (nI n)], aI G t1 500 T, oC u0 5 [.int (nI la), .int (nI lm), .int (nI lw)], aI G a1 500 q1, aI G a2 500 q2, aI G a4 4500 q4, oC s0 6 [.ref w0, .ref s1, .ref s2, .ref s3, .int (nI q), .int (nI k), .int (nI mc), .int (nI wp), .int (nI bt), .int (nI md)], aI G s1 500 sp, aI G s2 500 sl, aI G s3 500 sd] [.ref x0, .int (nI w), .int (nI p)] (jQi G (fun (r : Int32) (u : Nat × Nat × Nat × Nat × Nat) => (r = nI u.1) ∧ (stepR w la lm lw T n pb pa pl pd C p u.1 u.2.1) ∧ (u.2.2.1 = mc + (if u.2.1 = 0 then 0 else 1)) ∧ (u.2.2.2.1 = wp + pri T pb pa pl pd p u.1 u.2.1) ∧ (u.2.2.2.2 = bt + bts q u.1 u.2.1)) (fun (u : Nat × Nat × Nat × Nat × Nat) => [oC x0 8 [.ref t0, .ref l0, .ref e0, .ref g0, .ref u0, .ref f0, .ref m0, .ref k0, .ref s0, .ref z0, .ref d0, .int (nI ms), .int (nI cs), .int (nI ar)], oC f0 7 [.ref f1, .ref f2, .ref f3, .ref f4], aI G f1 8 pb, aI G f2 1 pa, aI G f3 8 pl, aI G f4 9 pd, oC m0 3 [.ref t0, .ref u0, .ref a1, .ref a2, .ref a3, .ref a4, .ref a5], oC t0 1 [.ref t1, .int (nI n)], aI G t1 500 T, oC u0 5 [.int (nI la), .int (nI lm), .int (nI lw)], aI G a1 500 q1, aI G a2 500 q2, aI G a4 4500 q4, oC s0 6 [.ref w0, .ref s1, .ref s2, .ref s3, .int (nI q), .int (nI (k + 1)), .int (nI u.2.2.1), .int (nI u.2.2.2.1), .int (nI u.2.2.2.2), .int (nI md)], aI G s1 500 (up sp k p), aI G s2 500 (up sl k u.1), aI G s3 500 (up sd k u.2.1)])) 0 0 := by
  refine j_enter_i (cc := cX8_addStep) (nL := 5) (nm := "addStep") (own := RX8) (lv := [(0, .ref x0), (1, .int (nI w)), (2, .int (nI p))]) (by decide) rfl (Nat.le_of_ble_eq_true rfl) rfl rfl rfl ?_
  intro zA zp ze zs zm zargs zbelow zmeth zc zQ ls hC hQ hI hl
  have zx := hC.1
  have zb := hC.2.1
  have hmx : mx (mt la lm lw T n p) 511 ≤ n - p := mx_le (fun d => mt_n) _
  have hml : mx (mt la lm lw T n p) 511 ≤ lm := mx_le (fun d => mt_le) _
  have hTp := hT p hp
  have hlp : lgA la lm lw T n p = mx (mt la lm lw T n p) 511 := if_pos hp
  refine lv_iload_n zx zb dX8_addStep_0 rfl (lv_at hl 1 rfl) ?_
  refine j_if_ne (tgt := 15) hC dX8_addStep_1 (by decide) (by omega) (fun c1 => ?_) (fun c1 => ?_)
  · refine lv_aload_n zx zb dX8_addStep_15 rfl (lv_at hl 0 rfl) ?_
    refine lv_iload_n zx zb dX8_addStep_16 rfl (lv_at hl 1 rfl) ?_
    refine lv_iload_n zx zb dX8_addStep_17 rfl (lv_at hl 2 rfl) ?_
    refine j_callVi (wr := [oC f0 7 [.ref f1, .ref f2, .ref f3, .ref f4], aI G f1 8 pb, aI G f2 1 pa, aI G f3 8 pl, aI G f4 9 pd, aI G t1 500 T, oC u0 5 [.int (nI la), .int (nI lm), .int (nI lw)], aI G a2 500 q2, aI G a4 4500 q4, oC s0 6 [.ref w0, .ref s1, .ref s2, .ref s3, .int (nI q), .int (nI k), .int (nI mc), .int (nI wp), .int (nI bt), .int (nI md)], aI G s1 500 sp, aI G s2 500 sl, aI G s3 500 sd]) hC hI (c_X8_longestStep zl G x0 t0 t1 l0 e0 g0 u0 f0 m0 a1 a2 a3 a4 a5 k0 s0 z0 d0 ms cs ar n la lm lw T w p q1 (by omega) (by omega) (by omega) (fun p h => (hm p h).1) (by omega)) (cwV 2 hC.2.2.2.2.1 gX8_addStep_X8_longestStep rfl rfl rfl (by decide +kernel) ⟨Nat.le_of_ble_eq_true rfl, Nat.le_of_ble_eq_true rfl⟩) [0, 6, 7, 10] [1, 2, 3, 4, 5, 8, 9, 11, 12, 13, 14, 15, 16] rfl rfl rfl rfl rfl rfl (q0 := 0) rfl rfl rfl hl.1 (Nat.le_of_ble_eq_true rfl) dX8_addStep_18 ⟨Nat.le_of_ble_eq_true rfl, Nat.le_of_ble_eq_true rfl⟩ (fun rv18 u18 H locs hp18 hI => ?_)
    have hI : jI G zA zs [oC f0 7 [.ref f1, .ref f2, .ref f3, .ref f4], aI G f1 8 pb, aI G f2 1 pa, aI G f3 8 pl, aI G f4 9 pd, aI G t1 500 T, oC u0 5 [.int (nI la), .int (nI lm), .int (nI lw)], aI G a2 500 q2, aI G a4 4500 q4, oC s0 6 [.ref w0, .ref s1, .ref s2, .ref s3, .int (nI q), .int (nI k), .int (nI mc), .int (nI wp), .int (nI bt), .int (nI md)], aI G s1 500 sp, aI G s2 500 sl, aI G s3 500 sd, oC x0 8 [.ref t0, .ref l0, .ref e0, .ref g0, .ref u0, .ref f0, .ref m0, .ref k0, .ref s0, .ref z0, .ref d0, .int (nI ms), .int (nI cs), .int (nI ar)], oC m0 3 [.ref t0, .ref u0, .ref a1, .ref a2, .ref a3, .ref a4, .ref a5], oC t0 1 [.ref t1, .int (nI n)], aI G a1 500 q1] H locs := hI
    subst hp18
    obtain ⟨LL, hLL⟩ : ∃ z, z = (if w = 2 ∧ lgA la lm lw T n p < lgA la lm lw T n (p + 1) then 1 else mx (mt la lm lw T n p) 511) := ⟨_, rfl⟩
    rw [← hLL]
    have hL2 : (w = 2 ∧ lgA la lm lw T n p < lgA la lm lw T n (p + 1) ∧ LL = 1) ∨ (¬ (w = 2 ∧ lgA la lm lw T n p < lgA la lm lw T n (p + 1)) ∧ LL = mx (mt la lm lw T n p) 511) := by rw [hLL]; split; exact Or.inl ⟨by omega, by omega, rfl⟩; exact Or.inr ⟨by omega, rfl⟩
    have hL3 : LL ≤ 255 := by omega
    refine lv_istore_n (lv' := [(3, .int (nI LL)), (0, .ref x0), (1, .int (nI w)), (2, .int (nI p))]) zx zb dX8_addStep_21 rfl hl (by decide) rfl (fun ls hl => ?_)
    refine lv_iload_n zx zb dX8_addStep_22 rfl (lv_at hl 0 rfl) ?_
    refine lv_iconst (v := nI 1) zx zb dX8_addStep_23 (by decide) ?_
    refine j_icmp_gt (tgt := 52) hC dX8_addStep_24 (by decide) (by omega) (by omega) (fun c24 => ?_) (fun c24 => ?_)
    · refine lv_iload_n zx zb dX8_addStep_52 rfl (lv_at hl 2 rfl) ?_
      refine j_if_ne (tgt := 67) hC dX8_addStep_53 (by decide) (by omega) (fun c53 => ?_) (fun c53 => ?_)
      · refine lv_aload_n zx zb dX8_addStep_67 rfl (lv_at hl 1 rfl) ?_
        refine j_get hC hI hin_X8_addStep_X8 13 rfl rfl 6 (by decide) hfl_X8_addStep_46 rfl rfl dX8_addStep_68 ?_
        refine lv_iload_n zx zb dX8_addStep_71 rfl (lv_at hl 3 rfl) ?_
        refine j_callVi (wr := [oC f0 7 [.ref f1, .ref f2, .ref f3, .ref f4], aI G f1 8 pb, aI G f2 1 pa, aI G f3 8 pl, aI G f4 9 pd, aI G t1 500 T, oC u0 5 [.int (nI la), .int (nI lm), .int (nI lw)], aI G a4 4500 q4, oC s0 6 [.ref w0, .ref s1, .ref s2, .ref s3, .int (nI q), .int (nI k), .int (nI mc), .int (nI wp), .int (nI bt), .int (nI md)], aI G s1 500 sp, aI G s2 500 sl, aI G s3 500 sd, oC x0 8 [.ref t0, .ref l0, .ref e0, .ref g0, .ref u0, .ref f0, .ref m0, .ref k0, .ref s0, .ref z0, .ref d0, .int (nI ms), .int (nI cs), .int (nI ar)], aI G a1 500 q1]) hC hI (c_X3_nearestAt zl G m0 t0 u0 a1 a2 a3 a4 a5 t1 n p q2 (by omega) (by omega)) (cwV 1 hC.2.2.2.2.1 gX8_addStep_X3_nearestAt rfl rfl rfl (by decide +kernel) ⟨Nat.le_of_ble_eq_true rfl, Nat.le_of_ble_eq_true rfl⟩) [14, 15, 7] [0, 1, 2, 3, 4, 5, 6, 8, 9, 10, 11, 12, 13, 16] rfl rfl rfl rfl rfl rfl (q0 := 0) rfl rfl rfl hl.1 (Nat.le_of_ble_eq_true rfl) dX8_addStep_72 ⟨Nat.le_of_ble_eq_true rfl, Nat.le_of_ble_eq_true rfl⟩ (fun rv72 u72 H locs hp72 hI => ?_)
        have hI : jI G zA zs [oC f0 7 [.ref f1, .ref f2, .ref f3, .ref f4], aI G f1 8 pb, aI G f2 1 pa, aI G f3 8 pl, aI G f4 9 pd, aI G t1 500 T, oC u0 5 [.int (nI la), .int (nI lm), .int (nI lw)], aI G a4 4500 q4, oC s0 6 [.ref w0, .ref s1, .ref s2, .ref s3, .int (nI q), .int (nI k), .int (nI mc), .int (nI wp), .int (nI bt), .int (nI md)], aI G s1 500 sp, aI G s2 500 sl, aI G s3 500 sd, oC x0 8 [.ref t0, .ref l0, .ref e0, .ref g0, .ref u0, .ref f0, .ref m0, .ref k0, .ref s0, .ref z0, .ref d0, .int (nI ms), .int (nI cs), .int (nI ar)], aI G a1 500 q1, oC m0 3 [.ref t0, .ref u0, .ref a1, .ref a2, .ref a3, .ref a4, .ref a5], oC t0 1 [.ref t1, .int (nI n)], aI G a2 500 q2] H locs := hI
        subst hp72
        have hq2 := (hm p hp).2.1
        have hL4 : 0 < mx (mt la lm lw T n p) 511 ∧ LL = mx (mt la lm lw T n p) 511 := by omega
        have hR : stepR w la lm lw T n pb pa pl pd C p LL (q2 p) := ws_match hw hL4 hq2 (by omega)
        have hok := stepR_ok (by omega) hR
        have hd1 : 1 ≤ q2 p ∧ q2 p ≤ p := by omega
        refine lv_istore (lv' := [(4, .int (nI (q2 p))), (3, .int (nI LL)), (0, .ref x0), (1, .int (nI w)), (2, .int (nI p))]) zx zb dX8_addStep_75 hl (by decide) rfl (fun ls hl => ?_)
        refine lv_aload_n zx zb dX8_addStep_77 rfl (lv_at hl 2 rfl) ?_
        refine j_get hC hI hin_X8_addStep_X8 12 rfl rfl 8 (by decide) hfl_X8_addStep_62 rfl rfl dX8_addStep_78 ?_
        refine lv_iload_n zx zb dX8_addStep_81 rfl (lv_at hl 4 rfl) ?_
        refine lv_iload_n zx zb dX8_addStep_82 rfl (lv_at hl 1 rfl) ?_
        refine lv_iload zx zb dX8_addStep_83 (lv_at hl 0 rfl) ?_
        refine lv_aload_n zx zb dX8_addStep_85 rfl (lv_at hl 2 rfl) ?_
        refine j_get hC hI hin_X8_addStep_X8 12 rfl rfl 5 (by decide) hfl_X8_addStep_37 rfl rfl dX8_addStep_86 ?_
        refine lv_iload_n zx zb dX8_addStep_89 rfl (lv_at hl 1 rfl) ?_
        refine lv_iload zx zb dX8_addStep_90 (lv_at hl 0 rfl) ?_
        refine j_callVi (wr := [aI G f1 8 pb, aI G t1 500 T, oC u0 5 [.int (nI la), .int (nI lm), .int (nI lw)], aI G a4 4500 q4, oC s0 6 [.ref w0, .ref s1, .ref s2, .ref s3, .int (nI q), .int (nI k), .int (nI mc), .int (nI wp), .int (nI bt), .int (nI md)], aI G s1 500 sp, aI G s2 500 sl, aI G s3 500 sd, oC x0 8 [.ref t0, .ref l0, .ref e0, .ref g0, .ref u0, .ref f0, .ref m0, .ref k0, .ref s0, .ref z0, .ref d0, .int (nI ms), .int (nI cs), .int (nI ar)], aI G a1 500 q1, oC m0 3 [.ref t0, .ref u0, .ref a1, .ref a2, .ref a3, .ref a4, .ref a5], oC t0 1 [.ref t1, .int (nI n)], aI G a2 500 q2]) hC hI (c_X7_ofMatch zl G f0 f1 f2 f3 f4 LL (q2 p) pa pl pd (by omega) (by omega)) (cwV 2 hC.2.2.2.2.1 gX8_addStep_X7_ofMatch rfl rfl rfl (by decide +kernel) ⟨Nat.le_of_ble_eq_true rfl, Nat.le_of_ble_eq_true rfl⟩) [0, 2, 3, 4] [1, 5, 6, 7, 8, 9, 10, 11, 12, 13, 14, 15, 16] rfl rfl rfl rfl rfl rfl (q0 := 0) rfl rfl rfl hl.1 (Nat.le_of_ble_eq_true rfl) dX8_addStep_92 ⟨Nat.le_of_ble_eq_true rfl, Nat.le_of_ble_eq_true rfl⟩ (fun rv92 u92 H locs hp92 hI => ?_)
        have hI : jI G zA zs [aI G f1 8 pb, aI G t1 500 T, oC u0 5 [.int (nI la), .int (nI lm), .int (nI lw)], aI G a4 4500 q4, oC s0 6 [.ref w0, .ref s1, .ref s2, .ref s3, .int (nI q), .int (nI k), .int (nI mc), .int (nI wp), .int (nI bt), .int (nI md)], aI G s1 500 sp, aI G s2 500 sl, aI G s3 500 sd, oC x0 8 [.ref t0, .ref l0, .ref e0, .ref g0, .ref u0, .ref f0, .ref m0, .ref k0, .ref s0, .ref z0, .ref d0, .int (nI ms), .int (nI cs), .int (nI ar)], aI G a1 500 q1, oC m0 3 [.ref t0, .ref u0, .ref a1, .ref a2, .ref a3, .ref a4, .ref a5], oC t0 1 [.ref t1, .int (nI n)], aI G a2 500 q2, oC f0 7 [.ref f1, .ref f2, .ref f3, .ref f4], aI G f2 1 pa, aI G f3 8 pl, aI G f4 9 pd] H locs := hI
        subst hp92
        refine j_callVv (wr := [aI G f1 8 pb, aI G t1 500 T, oC u0 5 [.int (nI la), .int (nI lm), .int (nI lw)], aI G a4 4500 q4, oC x0 8 [.ref t0, .ref l0, .ref e0, .ref g0, .ref u0, .ref f0, .ref m0, .ref k0, .ref s0, .ref z0, .ref d0, .int (nI ms), .int (nI cs), .int (nI ar)], aI G a1 500 q1, oC m0 3 [.ref t0, .ref u0, .ref a1, .ref a2, .ref a3, .ref a4, .ref a5], oC t0 1 [.ref t1, .int (nI n)], aI G a2 500 q2, oC f0 7 [.ref f1, .ref f2, .ref f3, .ref f4], aI G f2 1 pa, aI G f3 8 pl, aI G f4 9 pd]) hC hI (c_X6_addMatch zl G s0 w0 s1 s2 s3 q k mc wp bt md sp sl sd p LL (q2 p) (pa 0 + pl LL.log2 + pd (q2 p).log2) (by omega) (by omega) (by omega) (by omega)) (cwV 4 hC.2.2.2.2.1 gX8_addStep_X6_addMatch rfl rfl rfl (by decide +kernel) ⟨Nat.le_of_ble_eq_true rfl, Nat.le_of_ble_eq_true rfl⟩) [4, 5, 6, 7] [0, 1, 2, 3, 8, 9, 10, 11, 12, 13, 14, 15, 16] rfl rfl rfl rfl rfl rfl (q0 := 0) rfl rfl rfl hl.1 (Nat.le_of_ble_eq_true rfl) dX8_addStep_95 ⟨Nat.le_of_ble_eq_true rfl, Nat.le_of_ble_eq_true rfl⟩ (fun u95 H locs hp95 hI => ?_)
        have hI : jI G zA zs [aI G f1 8 pb, aI G t1 500 T, oC u0 5 [.int (nI la), .int (nI lm), .int (nI lw)], aI G a4 4500 q4, oC x0 8 [.ref t0, .ref l0, .ref e0, .ref g0, .ref u0, .ref f0, .ref m0, .ref k0, .ref s0, .ref z0, .ref d0, .int (nI ms), .int (nI cs), .int (nI ar)], aI G a1 500 q1, oC m0 3 [.ref t0, .ref u0, .ref a1, .ref a2, .ref a3, .ref a4, .ref a5], oC t0 1 [.ref t1, .int (nI n)], aI G a2 500 q2, oC f0 7 [.ref f1, .ref f2, .ref f3, .ref f4], aI G f2 1 pa, aI G f3 8 pl, aI G f4 9 pd, oC s0 6 [.ref w0, .ref s1, .ref s2, .ref s3, .int (nI q), .int (nI (k + 1)), .int (nI (mc + 1)), .int (nI (wp + (pa 0 + pl LL.log2 + pd (q2 p).log2))), .int (nI (bt + (1 + (2 * (LL - q + 1).log2 + 1) + 4 + (q2 p).log2))), .int (nI md)], aI G s1 500 (up sp k p), aI G s2 500 (up sl k LL), aI G s3 500 (up sd k (q2 p))] H locs := hI
        refine lv_iload_n zx zb dX8_addStep_98 rfl (lv_at hl 1 rfl) ?_
        exact hQ _ _ _ _ _ ⟨LL, q2 p, mc + 1, wp + (pa 0 + pl LL.log2 + pd (q2 p).log2), bt + (1 + (2 * (LL - q + 1).log2 + 1) + 4 + (q2 p).log2)⟩ dX8_addStep_99 (hI.sub [4, 9, 0, 10, 11, 12, 6, 7, 1, 2, 5, 8, 3, 13, 14, 15, 16] rfl rfl) (by (try dsimp only); exact ⟨(by first | rfl | (congr 1; omega) | omega), hR, (by rw [if_neg (by omega)]), (by rw [pri, if_neg (by omega)]), (by rw [bts, if_neg (by omega)])⟩)
      · exact (by omega : False).elim
    · refine lv_aload_n zx zb dX8_addStep_27 rfl (lv_at hl 1 rfl) ?_
      refine j_get hC hI hin_X8_addStep_X8 13 rfl rfl 8 (by decide) hfl_X8_addStep_62 rfl rfl dX8_addStep_28 ?_
      refine lv_iload_n zx zb dX8_addStep_31 rfl (lv_at hl 3 rfl) ?_
      refine lv_aload_n zx zb dX8_addStep_32 rfl (lv_at hl 1 rfl) ?_
      refine j_get hC hI hin_X8_addStep_X8 13 rfl rfl 5 (by decide) hfl_X8_addStep_37 rfl rfl dX8_addStep_33 ?_
      refine lv_aload_n zx zb dX8_addStep_36 rfl (lv_at hl 1 rfl) ?_
      refine j_get hC hI hin_X8_addStep_X8 13 rfl rfl 0 (by decide) hfl_X8_addStep_14 rfl rfl dX8_addStep_37 ?_
      refine lv_iload_n zx zb dX8_addStep_40 rfl (lv_at hl 3 rfl) ?_
      refine j_callVi (wr := [oC f0 7 [.ref f1, .ref f2, .ref f3, .ref f4], aI G f1 8 pb, aI G f2 1 pa, aI G f3 8 pl, aI G f4 9 pd, oC u0 5 [.int (nI la), .int (nI lm), .int (nI lw)], aI G a2 500 q2, aI G a4 4500 q4, oC s0 6 [.ref w0, .ref s1, .ref s2, .ref s3, .int (nI q), .int (nI k), .int (nI mc), .int (nI wp), .int (nI bt), .int (nI md)], aI G s1 500 sp, aI G s2 500 sl, aI G s3 500 sd, oC x0 8 [.ref t0, .ref l0, .ref e0, .ref g0, .ref u0, .ref f0, .ref m0, .ref k0, .ref s0, .ref z0, .ref d0, .int (nI ms), .int (nI cs), .int (nI ar)], oC m0 3 [.ref t0, .ref u0, .ref a1, .ref a2, .ref a3, .ref a4, .ref a5], aI G a1 500 q1]) hC hI (c_X1_get_in zl G t0 t1 500 n p T (by omega) (by omega) (by omega)) (cwV 1 hC.2.2.2.2.1 gX8_addStep_X1_get rfl rfl rfl (by decide +kernel) ⟨Nat.le_of_ble_eq_true rfl, Nat.le_of_ble_eq_true rfl⟩) [15, 5] [0, 1, 2, 3, 4, 6, 7, 8, 9, 10, 11, 12, 13, 14, 16] rfl rfl rfl rfl rfl rfl (q0 := 0) rfl rfl rfl hl.1 (Nat.le_of_ble_eq_true rfl) dX8_addStep_41 ⟨Nat.le_of_ble_eq_true rfl, Nat.le_of_ble_eq_true rfl⟩ (fun rv41 u41 H locs hp41 hI => ?_)
      have hI : jI G zA zs [oC f0 7 [.ref f1, .ref f2, .ref f3, .ref f4], aI G f1 8 pb, aI G f2 1 pa, aI G f3 8 pl, aI G f4 9 pd, oC u0 5 [.int (nI la), .int (nI lm), .int (nI lw)], aI G a2 500 q2, aI G a4 4500 q4, oC s0 6 [.ref w0, .ref s1, .ref s2, .ref s3, .int (nI q), .int (nI k), .int (nI mc), .int (nI wp), .int (nI bt), .int (nI md)], aI G s1 500 sp, aI G s2 500 sl, aI G s3 500 sd, oC x0 8 [.ref t0, .ref l0, .ref e0, .ref g0, .ref u0, .ref f0, .ref m0, .ref k0, .ref s0, .ref z0, .ref d0, .int (nI ms), .int (nI cs), .int (nI ar)], oC m0 3 [.ref t0, .ref u0, .ref a1, .ref a2, .ref a3, .ref a4, .ref a5], aI G a1 500 q1, oC t0 1 [.ref t1, .int (nI n)], aI G t1 500 T] H locs := hI
      subst hp41
      refine j_callVi (wr := [aI G f2 1 pa, aI G f3 8 pl, aI G f4 9 pd, oC u0 5 [.int (nI la), .int (nI lm), .int (nI lw)], aI G a2 500 q2, aI G a4 4500 q4, oC s0 6 [.ref w0, .ref s1, .ref s2, .ref s3, .int (nI q), .int (nI k), .int (nI mc), .int (nI wp), .int (nI bt), .int (nI md)], aI G s1 500 sp, aI G s2 500 sl, aI G s3 500 sd, oC x0 8 [.ref t0, .ref l0, .ref e0, .ref g0, .ref u0, .ref f0, .ref m0, .ref k0, .ref s0, .ref z0, .ref d0, .int (nI ms), .int (nI cs), .int (nI ar)], oC m0 3 [.ref t0, .ref u0, .ref a1, .ref a2, .ref a3, .ref a4, .ref a5], aI G a1 500 q1, oC t0 1 [.ref t1, .int (nI n)], aI G t1 500 T]) hC hI (c_X7_ofByte zl G f0 f1 f2 f3 f4 (T p) pb (by omega)) (cwV 1 hC.2.2.2.2.1 gX8_addStep_X7_ofByte rfl rfl rfl (by decide +kernel) ⟨Nat.le_of_ble_eq_true rfl, Nat.le_of_ble_eq_true rfl⟩) [0, 1] [2, 3, 4, 5, 6, 7, 8, 9, 10, 11, 12, 13, 14, 15, 16] rfl rfl rfl rfl rfl rfl (q0 := 0) rfl rfl rfl hl.1 (Nat.le_of_ble_eq_true rfl) dX8_addStep_44 ⟨Nat.le_of_ble_eq_true rfl, Nat.le_of_ble_eq_true rfl⟩ (fun rv44 u44 H locs hp44 hI => ?_)
      have hI : jI G zA zs [aI G f2 1 pa, aI G f3 8 pl, aI G f4 9 pd, oC u0 5 [.int (nI la), .int (nI lm), .int (nI lw)], aI G a2 500 q2, aI G a4 4500 q4, oC s0 6 [.ref w0, .ref s1, .ref s2, .ref s3, .int (nI q), .int (nI k), .int (nI mc), .int (nI wp), .int (nI bt), .int (nI md)], aI G s1 500 sp, aI G s2 500 sl, aI G s3 500 sd, oC x0 8 [.ref t0, .ref l0, .ref e0, .ref g0, .ref u0, .ref f0, .ref m0, .ref k0, .ref s0, .ref z0, .ref d0, .int (nI ms), .int (nI cs), .int (nI ar)], oC m0 3 [.ref t0, .ref u0, .ref a1, .ref a2, .ref a3, .ref a4, .ref a5], aI G a1 500 q1, oC t0 1 [.ref t1, .int (nI n)], aI G t1 500 T, oC f0 7 [.ref f1, .ref f2, .ref f3, .ref f4], aI G f1 8 pb] H locs := hI
      subst hp44
      refine j_callVv (wr := [aI G f2 1 pa, aI G f3 8 pl, aI G f4 9 pd, oC u0 5 [.int (nI la), .int (nI lm), .int (nI lw)], aI G a2 500 q2, aI G a4 4500 q4, oC x0 8 [.ref t0, .ref l0, .ref e0, .ref g0, .ref u0, .ref f0, .ref m0, .ref k0, .ref s0, .ref z0, .ref d0, .int (nI ms), .int (nI cs), .int (nI ar)], oC m0 3 [.ref t0, .ref u0, .ref a1, .ref a2, .ref a3, .ref a4, .ref a5], aI G a1 500 q1, oC t0 1 [.ref t1, .int (nI n)], aI G t1 500 T, oC f0 7 [.ref f1, .ref f2, .ref f3, .ref f4], aI G f1 8 pb]) hC hI (c_X6_addByte zl G s0 w0 s1 s2 s3 q k mc wp bt md sp sl sd p (pb ((T p) / 32)) (by omega)) (cwV 2 hC.2.2.2.2.1 gX8_addStep_X6_addByte rfl rfl rfl (by decide +kernel) ⟨Nat.le_of_ble_eq_true rfl, Nat.le_of_ble_eq_true rfl⟩) [6, 7, 8, 9] [0, 1, 2, 3, 4, 5, 10, 11, 12, 13, 14, 15, 16] rfl rfl rfl rfl rfl rfl (q0 := 0) rfl rfl rfl hl.1 (Nat.le_of_ble_eq_true rfl) dX8_addStep_47 ⟨Nat.le_of_ble_eq_true rfl, Nat.le_of_ble_eq_true rfl⟩ (fun u47 H locs hp47 hI => ?_)
      have hI : jI G zA zs [aI G f2 1 pa, aI G f3 8 pl, aI G f4 9 pd, oC u0 5 [.int (nI la), .int (nI lm), .int (nI lw)], aI G a2 500 q2, aI G a4 4500 q4, oC x0 8 [.ref t0, .ref l0, .ref e0, .ref g0, .ref u0, .ref f0, .ref m0, .ref k0, .ref s0, .ref z0, .ref d0, .int (nI ms), .int (nI cs), .int (nI ar)], oC m0 3 [.ref t0, .ref u0, .ref a1, .ref a2, .ref a3, .ref a4, .ref a5], aI G a1 500 q1, oC t0 1 [.ref t1, .int (nI n)], aI G t1 500 T, oC f0 7 [.ref f1, .ref f2, .ref f3, .ref f4], aI G f1 8 pb, oC s0 6 [.ref w0, .ref s1, .ref s2, .ref s3, .int (nI q), .int (nI (k + 1)), .int (nI mc), .int (nI (wp + (pb ((T p) / 32)))), .int (nI (bt + 9)), .int (nI md)], aI G s1 500 (up sp k p), aI G s2 500 (up sl k 1), aI G s3 500 (up sd k 0)] H locs := hI
      refine lv_iconst (v := nI 1) zx zb dX8_addStep_50 (by decide) ?_
      exact hQ _ _ _ _ _ ⟨1, 0, mc, wp + (pb ((T p) / 32)), bt + 9⟩ dX8_addStep_51 (hI.sub [6, 11, 12, 0, 1, 2, 7, 9, 10, 3, 8, 4, 5, 13, 14, 15, 16] rfl rfl) (by (try dsimp only); exact ⟨(by first | rfl | (congr 1; omega) | omega), (ws_byte hw (by rcases Nat.eq_zero_or_pos (mx (mt la lm lw T n p) 511) with z | z; exact Or.inl z; obtain ⟨_, _, _, _, _, h5⟩ := mx_mt z; exact Or.inr (by omega))), (by simp), (by rw [pri, if_pos rfl]), (by rw [bts, if_pos rfl])⟩)
  · exact (by omega : False).elim

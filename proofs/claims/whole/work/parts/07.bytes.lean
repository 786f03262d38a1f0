theorem hin_X1_size_X1 : ∀ w ∈ wsX10, w ∈ wsX1_size := by decide +kernel
theorem hfl_X1_size_15 : Cond.fieldLink RX1 15 "CheapParse$Bytes" "size" "I" ∈ wsX1_size := by decide +kernel
set_option maxHeartbeats 4000000 in
set_option maxRecDepth 100000 in
theorem c_X1_size (zl : Launch) (G : jG) (h0 : Nat) (h1 : Nat) (n : Nat)  : jMet zl yX1_size wsX1_size ({ frames := 0, cells := 0, slots := 0, locals := 0 }) G [oC h0 1 [.ref h1, .int (nI n)]] [.ref h0] (jQi G (fun (r : Int32) (u : Unit) => (r = nI n)) (fun (u : Unit) => [oC h0 1 [.ref h1, .int (nI n)]])) 0 0 := by
  refine j_enter_i (cc := cX1_size) (nL := 1) (nm := "size") (own := RX1) (lv := [(0, .ref h0)]) (by decide) rfl (Nat.le_of_ble_eq_true rfl) rfl rfl rfl ?_
  intro zA zp ze zs zm zargs zbelow zmeth zc zQ ls hC hQ hI hl
  have zx := hC.1
  have zb := hC.2.1
  refine lv_aload_n zx zb dX1_size_0 rfl (lv_at hl 0 rfl) ?_
  refine j_get hC hI hin_X1_size_X1 0 rfl rfl 1 (by decide) hfl_X1_size_15 rfl rfl dX1_size_1 ?_
  exact hQ _ _ _ _ _ () dX1_size_4 (hI.sub [0] rfl rfl) (by first | rfl | (congr 1; omega) | omega)

theorem hin_X1_get_X1 : ∀ w ∈ wsX10, w ∈ wsX1_get := by decide +kernel
theorem hfl_X1_get_15 : Cond.fieldLink RX1 15 "CheapParse$Bytes" "size" "I" ∈ wsX1_get := by decide +kernel
theorem hfl_X1_get_9 : Cond.fieldLink RX1 9 "CheapParse$Bytes" "row" "[I" ∈ wsX1_get := by decide +kernel
set_option maxHeartbeats 4000000 in
set_option maxRecDepth 100000 in
theorem c_X1_get (zl : Launch) (G : jG) (h0 : Nat) (h1 : Nat) (R : Nat) (n : Nat) (f : Nat → Nat) (k : Int32) (hn : n ≤ R) (hR : R ≤ 700) : jMet zl yX1_get wsX1_get ({ frames := 0, cells := 0, slots := 0, locals := 0 }) G [oC h0 1 [.ref h1, .int (nI n)], aI G h1 R f] [.ref h0, .int k] (jQi G (fun (r : Int32) (u : Unit) => (r = gt f n k)) (fun (u : Unit) => [oC h0 1 [.ref h1, .int (nI n)], aI G h1 R f])) 0 0 := by
  refine j_enter_i (cc := cX1_get) (nL := 2) (nm := "get") (own := RX1) (lv := [(0, .ref h0), (1, .int k)]) (by decide) rfl (Nat.le_of_ble_eq_true rfl) rfl rfl rfl ?_
  intro zA zp ze zs zm zargs zbelow zmeth zc zQ ls hC hQ hI hl
  have zx := hC.1
  have zb := hC.2.1
  refine lv_iload_n zx zb dX1_get_0 rfl (lv_at hl 1 rfl) ?_
  refine jz_if_lt (tgt := 21) hC dX1_get_1 (by decide) (fun c1 => ?_) (fun j1 j1a j1e => ?_)
  · refine lv_iconst (v := (-1)) zx zb dX1_get_21 (by decide) ?_
    exact hQ _ _ _ _ _ () dX1_get_22 (hI.sub [0, 1] rfl rfl) (gt_neg c1).symm
  · subst j1e
    refine lv_iload_n zx zb dX1_get_4 rfl (lv_at hl 1 rfl) ?_
    refine lv_aload_n zx zb dX1_get_5 rfl (lv_at hl 0 rfl) ?_
    refine j_get hC hI hin_X1_get_X1 0 rfl rfl 1 (by decide) hfl_X1_get_15 rfl rfl dX1_get_6 ?_
    refine j_icmp_ge (tgt := 21) hC dX1_get_9 (by decide) (by omega) (by omega) (fun c9 => ?_) (fun c9 => ?_)
    · refine lv_iconst (v := (-1)) zx zb dX1_get_21 (by decide) ?_
      exact hQ _ _ _ _ _ () dX1_get_22 (hI.sub [0, 1] rfl rfl) (gt_ge (by omega) (by omega)).symm
    · refine lv_aload_n zx zb dX1_get_12 rfl (lv_at hl 0 rfl) ?_
      refine j_get hC hI hin_X1_get_X1 0 rfl rfl 0 (by decide) hfl_X1_get_9 rfl rfl dX1_get_13 ?_
      refine lv_iload_n zx zb dX1_get_16 rfl (lv_at hl 1 rfl) ?_
      refine j_iald hC hI 1 rfl (by omega) (by omega) dX1_get_17 ?_
      refine lv_goto (tgt := 22) zx zb dX1_get_18 (by decide) ?_
      exact hQ _ _ _ _ _ () dX1_get_22 (hI.sub [0, 1] rfl rfl) (gt_in (by omega) (by omega)).symm

set_option maxHeartbeats 4000000 in
set_option maxRecDepth 100000 in
theorem c_X1_get_in (zl : Launch) (G : jG) (h0 : Nat) (h1 : Nat) (R : Nat) (n : Nat) (k : Nat) (f : Nat → Nat) (hn : n ≤ R) (hR : R ≤ 700) (hk : k < n) : jMet zl yX1_get wsX1_get ({ frames := 0, cells := 0, slots := 0, locals := 0 }) G [oC h0 1 [.ref h1, .int (nI n)], aI G h1 R f] [.ref h0, .int (nI k)] (jQi G (fun (r : Int32) (u : Unit) => (r = nI (f k))) (fun (u : Unit) => [oC h0 1 [.ref h1, .int (nI n)], aI G h1 R f])) 0 0 := by
  refine j_enter_i (cc := cX1_get) (nL := 2) (nm := "get") (own := RX1) (lv := [(0, .ref h0), (1, .int (nI k))]) (by decide) rfl (Nat.le_of_ble_eq_true rfl) rfl rfl rfl ?_
  intro zA zp ze zs zm zargs zbelow zmeth zc zQ ls hC hQ hI hl
  have zx := hC.1
  have zb := hC.2.1
  refine lv_iload_n zx zb dX1_get_0 rfl (lv_at hl 1 rfl) ?_
  refine j_if_lt (tgt := 21) hC dX1_get_1 (by decide) (by omega) ?_
  refine lv_iload_n zx zb dX1_get_4 rfl (lv_at hl 1 rfl) ?_
  refine lv_aload_n zx zb dX1_get_5 rfl (lv_at hl 0 rfl) ?_
  refine j_get hC hI hin_X1_get_X1 0 rfl rfl 1 (by decide) hfl_X1_get_15 rfl rfl dX1_get_6 ?_
  refine j_icmp_ge (tgt := 21) hC dX1_get_9 (by decide) (by omega) (by omega) (fun c9 => ?_) (fun c9 => ?_)
  · exact (by omega : False).elim
  · refine lv_aload_n zx zb dX1_get_12 rfl (lv_at hl 0 rfl) ?_
    refine j_get hC hI hin_X1_get_X1 0 rfl rfl 0 (by decide) hfl_X1_get_9 rfl rfl dX1_get_13 ?_
    refine lv_iload_n zx zb dX1_get_16 rfl (lv_at hl 1 rfl) ?_
    refine j_iald hC hI 1 rfl (by omega) (by omega) dX1_get_17 ?_
    refine lv_goto (tgt := 22) zx zb dX1_get_18 (by decide) ?_
    exact hQ _ _ _ _ _ () dX1_get_22 (hI.sub [0, 1] rfl rfl) (by first | rfl | (congr 1; omega) | omega)

theorem hin_X1_empty_X1 : ∀ w ∈ wsX10, w ∈ wsX1_empty := by decide +kernel
theorem hfl_X1_empty_15 : Cond.fieldLink RX1 15 "CheapParse$Bytes" "size" "I" ∈ wsX1_empty := by decide +kernel
set_option maxHeartbeats 4000000 in
set_option maxRecDepth 100000 in
theorem c_X1_empty (zl : Launch) (G : jG) (h0 : Nat) (h1 : Nat) (n : Nat)  : jMet zl yX1_empty wsX1_empty ({ frames := 0, cells := 0, slots := 0, locals := 0 }) G [oC h0 1 [.ref h1, .int (nI n)]] [.ref h0] (jQv G (fun (u : Unit) => True) (fun (u : Unit) => [oC h0 1 [.ref h1, .int (nI 0)]])) 0 0 := by
  refine j_enter_v (cc := cX1_empty) (nL := 1) (nm := "empty") (own := RX1) (lv := [(0, .ref h0)]) (by decide) rfl (Nat.le_of_ble_eq_true rfl) rfl rfl rfl ?_
  intro zA zp ze zs zm zargs zbelow zmeth zc zQ ls hC hQ hI hl
  have zx := hC.1
  have zb := hC.2.1
  refine lv_aload_n zx zb dX1_empty_0 rfl (lv_at hl 0 rfl) ?_
  refine lv_iconst (v := nI 0) zx zb dX1_empty_1 (by decide) ?_
  refine j_put (w1 := [oC h0 1 [.ref h1, .int (nI 0)]]) hC hI hin_X1_empty_X1 tyX1 tyX1_ok nmX1 0 rfl rfl 1 (by decide) hfl_X1_empty_15 rfl rfl rfl rfl (Nat.le_of_ble_eq_true rfl) dX1_empty_2 rfl (fun H locs hI => ?_)
  exact hQ _ _ _ _ () dX1_empty_5 (hI.sub [0] rfl rfl) trivial

theorem hin_X1_add_X1 : ∀ w ∈ wsX10, w ∈ wsX1_add := by decide +kernel
theorem hfl_X1_add_15 : Cond.fieldLink RX1 15 "CheapParse$Bytes" "size" "I" ∈ wsX1_add := by decide +kernel
theorem hfl_X1_add_9 : Cond.fieldLink RX1 9 "CheapParse$Bytes" "row" "[I" ∈ wsX1_add := by decide +kernel
set_option maxHeartbeats 4000000 in
set_option maxRecDepth 100000 in
theorem c_X1_add (zl : Launch) (G : jG) (h0 : Nat) (h1 : Nat) (R : Nat) (n : Nat) (f : Nat → Nat) (v : Int32) (hn : n < R) (hR : R ≤ 700) : jMet zl yX1_add wsX1_add ({ frames := 0, cells := 0, slots := 0, locals := 0 }) G [oC h0 1 [.ref h1, .int (nI n)], aI G h1 R f] [.ref h0, .int v] (jQv G (fun (u : Unit) => True) (fun (u : Unit) => [oC h0 1 [.ref h1, .int (nI (n + 1))], aI G h1 R (up f n (by8 v))])) 0 0 := by
  refine j_enter_v (cc := cX1_add) (nL := 2) (nm := "add") (own := RX1) (lv := [(0, .ref h0), (1, .int v)]) (by decide) rfl (Nat.le_of_ble_eq_true rfl) rfl rfl rfl ?_
  intro zA zp ze zs zm zargs zbelow zmeth zc zQ ls hC hQ hI hl
  have zx := hC.1
  have zb := hC.2.1
  refine lv_aload_n zx zb dX1_add_0 rfl (lv_at hl 0 rfl) ?_
  refine j_get hC hI hin_X1_add_X1 0 rfl rfl 1 (by decide) hfl_X1_add_15 rfl rfl dX1_add_1 ?_
  refine lv_aload_n zx zb dX1_add_4 rfl (lv_at hl 0 rfl) ?_
  refine j_get hC hI hin_X1_add_X1 0 rfl rfl 0 (by decide) hfl_X1_add_9 rfl rfl dX1_add_5 ?_
  refine j_alen hC hI 1 rfl dX1_add_8 ?_
  refine j_icmp_ge (tgt := 36) hC dX1_add_9 (by decide) (by omega) (by omega) (fun c9 => ?_) (fun c9 => ?_)
  · exact (by omega : False).elim
  · refine lv_aload_n zx zb dX1_add_12 rfl (lv_at hl 0 rfl) ?_
    refine j_get hC hI hin_X1_add_X1 0 rfl rfl 0 (by decide) hfl_X1_add_9 rfl rfl dX1_add_13 ?_
    refine lv_aload_n zx zb dX1_add_16 rfl (lv_at hl 0 rfl) ?_
    refine j_get hC hI hin_X1_add_X1 0 rfl rfl 1 (by decide) hfl_X1_add_15 rfl rfl dX1_add_17 ?_
    refine lv_iload_n zx zb dX1_add_20 rfl (lv_at hl 1 rfl) ?_
    refine lv_sipush (v := nI 255) zx zb dX1_add_21 (by decide) ?_
    refine j_and255 hC dX1_add_24 ?_
    refine j_iast (w1 := [oC h0 1 [.ref h1, .int (nI n)], aI G h1 R (up f n (by8 v))]) hC hI 1 rfl (by omega) (by omega) dX1_add_25 rfl (fun H locs hI => ?_)
    refine lv_aload_n zx zb dX1_add_26 rfl (lv_at hl 0 rfl) ?_
    refine lv_dup zx zb dX1_add_27 rfl ?_
    refine j_get hC hI hin_X1_add_X1 0 rfl rfl 1 (by decide) hfl_X1_add_15 rfl rfl dX1_add_28 ?_
    refine lv_iconst (v := nI 1) zx zb dX1_add_31 (by decide) ?_
    refine j_iadd hC dX1_add_32 ?_
    refine j_put (w1 := [oC h0 1 [.ref h1, .int (nI (n + 1))], aI G h1 R (up f n (by8 v))]) hC hI hin_X1_add_X1 tyX1 tyX1_ok nmX1 0 rfl rfl 1 (by decide) hfl_X1_add_15 rfl rfl rfl rfl (Nat.le_of_ble_eq_true rfl) dX1_add_33 rfl (fun H locs hI => ?_)
    exact hQ _ _ _ _ () dX1_add_36 (hI.sub [0, 1] rfl rfl) trivial

theorem hin_X1_addLowest_X1 : ∀ w ∈ wsX10, w ∈ wsX1_addLowest := by decide +kernel
theorem hfl_X1_addLowest_9 : Cond.fieldLink RX1 9 "CheapParse$Bytes" "row" "[I" ∈ wsX1_addLowest := by decide +kernel
theorem hfl_X1_addLowest_15 : Cond.fieldLink RX1 15 "CheapParse$Bytes" "size" "I" ∈ wsX1_addLowest := by decide +kernel
set_option maxHeartbeats 4000000 in
set_option maxRecDepth 100000 in
theorem c_X1_addLowest (zl : Launch) (G : jG) (h0 : Nat) (h1 : Nat) (R : Nat) (n : Nat) (f : Nat → Nat) (x : Int64) (k : Int32) (hn : n ≤ R) (hR : R ≤ 700) : jMet zl yX1_addLowest wsX1_addLowest ({ frames := 1, cells := 0, slots := 0, locals := 21 }) G [oC h0 1 [.ref h1, .int (nI n)], aI G h1 R f] [.ref h0, .long x, .int k] (jQi G (fun (r : Int32) (u : (Nat → Nat) × Nat) => (ad_low R f n x k r u.1 u.2)) (fun (u : (Nat → Nat) × Nat) => [oC h0 1 [.ref h1, .int (nI u.2)], aI G h1 R u.1])) 0 0 := by
  refine j_enter_i (cc := cX1_addLowest) (nL := 5) (nm := "addLowest") (own := RX1) (lv := [(0, .ref h0), (1, .long x), (3, .int k)]) (by decide) rfl (Nat.le_of_ble_eq_true rfl) rfl rfl rfl ?_
  intro zA zp ze zs zm zargs zbelow zmeth zc zQ ls hC hQ hI hl
  have zx := hC.1
  have zb := hC.2.1
  refine lv_iload_n zx zb dX1_addLowest_0 rfl (lv_at hl 2 rfl) ?_
  refine lv_iconst (v := nI 1) zx zb dX1_addLowest_1 (by decide) ?_
  refine jz_icmp_lt (tgt := 25) hC dX1_addLowest_2 (by decide) (by omega) (fun c2 => ?_) (fun j2 j2a j2b j2e => ?_)
  · refine lv_iconst (v := (-1)) zx zb dX1_addLowest_25 (by decide) ?_
    exact hQ _ _ _ _ _ ⟨f, n⟩ dX1_addLowest_26 (hI.sub [0, 1] rfl rfl) (by (try dsimp only); exact (Or.inr ⟨ad_no1 c2, rfl, rfl, rfl⟩))
  · subst j2e
    refine lv_iload_n zx zb dX1_addLowest_5 rfl (lv_at hl 2 rfl) ?_
    refine lv_bipush (v := nI 8) zx zb dX1_addLowest_6 (by decide) ?_
    refine j_icmp_gt (tgt := 25) hC dX1_addLowest_8 (by decide) (by omega) (by omega) (fun c8 => ?_) (fun c8 => ?_)
    · refine lv_iconst (v := (-1)) zx zb dX1_addLowest_25 (by decide) ?_
      exact hQ _ _ _ _ _ ⟨f, n⟩ dX1_addLowest_26 (hI.sub [0, 1] rfl rfl) (by (try dsimp only); exact (Or.inr ⟨ad_no2 (by omega), rfl, rfl, rfl⟩))
    · refine lv_iload_n zx zb dX1_addLowest_11 rfl (lv_at hl 2 rfl) ?_
      refine lv_aload_n zx zb dX1_addLowest_12 rfl (lv_at hl 0 rfl) ?_
      refine j_get hC hI hin_X1_addLowest_X1 0 rfl rfl 0 (by decide) hfl_X1_addLowest_9 rfl rfl dX1_addLowest_13 ?_
      refine j_alen hC hI 1 rfl dX1_addLowest_16 ?_
      refine lv_aload_n zx zb dX1_addLowest_17 rfl (lv_at hl 0 rfl) ?_
      refine j_get hC hI hin_X1_addLowest_X1 0 rfl rfl 1 (by decide) hfl_X1_addLowest_15 rfl rfl dX1_addLowest_18 ?_
      refine j_isub hC (by omega) dX1_addLowest_21 ?_
      refine j_icmp_le (tgt := 27) hC dX1_addLowest_22 (by decide) (by omega) (by omega) (fun c22 => ?_) (fun c22 => ?_)
      · refine lv_iload_n zx zb dX1_addLowest_27 rfl (lv_at hl 2 rfl) ?_
        refine lv_iconst (v := nI 1) zx zb dX1_addLowest_28 (by decide) ?_
        refine j_isub1 hC dX1_addLowest_29 ?_
        refine lv_istore (lv' := [(4, .int (mI j2)), (0, .ref h0), (1, .long x), (3, .int (nI j2))]) zx zb dX1_addLowest_30 hl (by decide) rfl (fun ls hl => ?_)
        have loop32 : ∀ (zn32 : Nat) (j : Nat) (m : Nat) (g : Nat → Nat), (m + j = n + j2) → (low x j g m = low x j2 f n) → (j ≤ 8) → (n + j2 ≤ R) → j < zn32 → ∀ (H : Heap) (locs : List Loc) (ls : Array Slot), jI G zA zs [oC h0 1 [.ref h1, .int (nI m)], aI G h1 R g] H locs → lv_has ls 5 [(0, .ref h0), (1, .long x), (4, .int (mI j))] → W zp zl ze ({ frames := 1, cells := 0, slots := 0, locals := 21 }) zs zm zargs zbelow zmeth zc H locs 0 0 zQ (F0 zm 32 ls []) := by
          intro zn32
          induction zn32 with
          | zero => intros; omega
          | succ zn32 ih32 =>
            intro j m g ej eg ek em zm32 H locs ls hI hl
            refine lv_iload zx zb dX1_addLowest_32 (lv_at hl 2 rfl) ?_
            refine j_ifM_lt (tgt := 55) hC dX1_addLowest_34 (by decide) (by omega) (fun c34 => ?_) (fun c34 => ?_)
            · subst c34
              refine lv_aload_n zx zb dX1_addLowest_55 rfl (lv_at hl 0 rfl) ?_
              refine j_get hC hI hin_X1_addLowest_X1 0 rfl rfl 1 (by decide) hfl_X1_addLowest_15 rfl rfl dX1_addLowest_56 ?_
              exact hQ _ _ _ _ _ ⟨g, m⟩ dX1_addLowest_59 (hI.sub [0, 1] rfl rfl) (by (try dsimp only); exact (Or.inl ⟨_, by omega, by omega, by omega, rfl, congrArg nI (by omega), eg, by omega⟩))
            · obtain ⟨j34, rfl⟩ : ∃ z, j = z + 1 := ⟨j - 1, by omega⟩
              rw [mI_s] at hl
              refine lv_aload_n zx zb dX1_addLowest_37 rfl (lv_at hl 0 rfl) ?_
              refine lv_lload_n zx zb dX1_addLowest_38 rfl (lv_at hl 1 rfl) ?_
              refine lv_bipush (v := nI 8) zx zb dX1_addLowest_39 (by decide) ?_
              refine lv_iload zx zb dX1_addLowest_41 (lv_at hl 2 rfl) ?_
              refine j_imul hC dX1_addLowest_43 ?_
              refine lv_lushr zx zb dX1_addLowest_44 rfl ?_
              refine lv_l2i zx zb dX1_addLowest_45 rfl ?_
              refine j_callVv (wr := []) hC hI (c_X1_add zl G h0 h1 R m g (((x.toUInt64 >>> ((nI (8 * j34)).toInt64.toUInt64 &&& Int64.toUInt64 63)).toInt64).toInt32) (by omega) (by omega)) (cwV 1 hC.2.2.2.2.1 gX1_addLowest_X1_add rfl rfl rfl (by decide +kernel) ⟨Nat.le_of_ble_eq_true rfl, Nat.le_of_ble_eq_true rfl⟩) [0, 1] [] rfl rfl rfl rfl rfl rfl (q0 := 0) rfl rfl rfl hl.1 (Nat.le_of_ble_eq_true rfl) dX1_addLowest_46 ⟨Nat.le_of_ble_eq_true rfl, Nat.le_of_ble_eq_true rfl⟩ (fun u46 H locs hp46 hI => ?_)
              have hI : jI G zA zs [oC h0 1 [.ref h1, .int (nI (m + 1))], aI G h1 R (up g m (by8 (((x.toUInt64 >>> ((nI (8 * j34)).toInt64.toUInt64 &&& Int64.toUInt64 63)).toInt64).toInt32)))] H locs := hI
              refine lv_iinc (v := mI j34) (lv' := [(4, .int (mI j34)), (0, .ref h0), (1, .long x)]) zx zb dX1_addLowest_49 hl (k := 2) rfl (j_dec _) (by decide) rfl (fun ls hl => ?_)
              refine lv_goto (tgt := 32) zx zb dX1_addLowest_52 (by decide) ?_
              exact ih32 j34 (m + 1) (up g m (by8 (((x.toUInt64 >>> ((nI (8 * j34)).toInt64.toUInt64 &&& Int64.toUInt64 63)).toInt64).toInt32))) (by omega) (by rw [← eg, by8_ushr (by omega)]; rfl) (by omega) (by omega) (by omega) _ _ _ hI (lv_sub hl [1, 2, 0] rfl)
        exact loop32 _ j2 n f (by omega) rfl (by omega) (by omega) (Nat.lt_succ_self _) _ _ _ hI (lv_sub hl [1, 2, 0] rfl)
      · refine lv_iconst (v := (-1)) zx zb dX1_addLowest_25 (by decide) ?_
        exact hQ _ _ _ _ _ ⟨f, n⟩ dX1_addLowest_26 (hI.sub [0, 1] rfl rfl) (by (try dsimp only); exact (Or.inr ⟨ad_no2 (by omega), rfl, rfl, rfl⟩))

theorem hin_X1_addTimes_X1 : ∀ w ∈ wsX10, w ∈ wsX1_addTimes := by decide +kernel
theorem hfl_X1_addTimes_9 : Cond.fieldLink RX1 9 "CheapParse$Bytes" "row" "[I" ∈ wsX1_addTimes := by decide +kernel
theorem hfl_X1_addTimes_15 : Cond.fieldLink RX1 15 "CheapParse$Bytes" "size" "I" ∈ wsX1_addTimes := by decide +kernel
set_option maxHeartbeats 4000000 in
set_option maxRecDepth 100000 in
theorem c_X1_addTimes (zl : Launch) (G : jG) (h0 : Nat) (h1 : Nat) (R : Nat) (n : Nat) (f : Nat → Nat) (v : Int32) (k : Int32) (hn : n ≤ R) (hR : R ≤ 700) : jMet zl yX1_addTimes wsX1_addTimes ({ frames := 1, cells := 0, slots := 0, locals := 21 }) G [oC h0 1 [.ref h1, .int (nI n)], aI G h1 R f] [.ref h0, .int v, .int k] (jQi G (fun (r : Int32) (u : (Nat → Nat) × Nat) => (ad_rep R f n v k r u.1 u.2)) (fun (u : (Nat → Nat) × Nat) => [oC h0 1 [.ref h1, .int (nI u.2)], aI G h1 R u.1])) 0 0 := by
  refine j_enter_i (cc := cX1_addTimes) (nL := 4) (nm := "addTimes") (own := RX1) (lv := [(0, .ref h0), (1, .int v), (2, .int k)]) (by decide) rfl (Nat.le_of_ble_eq_true rfl) rfl rfl rfl ?_
  intro zA zp ze zs zm zargs zbelow zmeth zc zQ ls hC hQ hI hl
  have zx := hC.1
  have zb := hC.2.1
  refine lv_iload_n zx zb dX1_addTimes_0 rfl (lv_at hl 2 rfl) ?_
  refine lv_iconst (v := nI 1) zx zb dX1_addTimes_1 (by decide) ?_
  refine jz_icmp_lt (tgt := 19) hC dX1_addTimes_2 (by decide) (by omega) (fun c2 => ?_) (fun j2 j2a j2b j2e => ?_)
  · refine lv_iconst (v := (-1)) zx zb dX1_addTimes_19 (by decide) ?_
    exact hQ _ _ _ _ _ ⟨f, n⟩ dX1_addTimes_20 (hI.sub [0, 1] rfl rfl) (by (try dsimp only); exact (Or.inr ⟨ad_no3 c2 hR, rfl, rfl, rfl⟩))
  · subst j2e
    refine lv_iload_n zx zb dX1_addTimes_5 rfl (lv_at hl 2 rfl) ?_
    refine lv_aload_n zx zb dX1_addTimes_6 rfl (lv_at hl 0 rfl) ?_
    refine j_get hC hI hin_X1_addTimes_X1 0 rfl rfl 0 (by decide) hfl_X1_addTimes_9 rfl rfl dX1_addTimes_7 ?_
    refine j_alen hC hI 1 rfl dX1_addTimes_10 ?_
    refine lv_aload_n zx zb dX1_addTimes_11 rfl (lv_at hl 0 rfl) ?_
    refine j_get hC hI hin_X1_addTimes_X1 0 rfl rfl 1 (by decide) hfl_X1_addTimes_15 rfl rfl dX1_addTimes_12 ?_
    refine j_isub hC (by omega) dX1_addTimes_15 ?_
    refine j_icmp_le (tgt := 21) hC dX1_addTimes_16 (by decide) (by omega) (by omega) (fun c16 => ?_) (fun c16 => ?_)
    · refine lv_iconst (v := nI 0) zx zb dX1_addTimes_21 (by decide) ?_
      refine lv_istore_n (lv' := [(3, .int (nI 0)), (0, .ref h0), (1, .int v), (2, .int (nI j2))]) zx zb dX1_addTimes_22 rfl hl (by decide) rfl (fun ls hl => ?_)
      have loop23 : ∀ (zn23 : Nat) (i : Nat) (m : Nat) (g : Nat → Nat), (m = n + i) → (rep (by8 v) (j2 - i) g m = rep (by8 v) j2 f n) → (i ≤ j2) → (n + j2 ≤ R) → (j2 - i) < zn23 → ∀ (H : Heap) (locs : List Loc) (ls : Array Slot), jI G zA zs [oC h0 1 [.ref h1, .int (nI m)], aI G h1 R g] H locs → lv_has ls 4 [(0, .ref h0), (1, .int v), (2, .int (nI j2)), (3, .int (nI i))] → W zp zl ze ({ frames := 1, cells := 0, slots := 0, locals := 21 }) zs zm zargs zbelow zmeth zc H locs 0 0 zQ (F0 zm 23 ls []) := by
        intro zn23
        induction zn23 with
        | zero => intros; omega
        | succ zn23 ih23 =>
          intro i m g ej eg ek em zm23 H locs ls hI hl
          refine lv_iload_n zx zb dX1_addTimes_23 rfl (lv_at hl 3 rfl) ?_
          refine lv_iload_n zx zb dX1_addTimes_24 rfl (lv_at hl 2 rfl) ?_
          refine j_icmp_ge (tgt := 39) hC dX1_addTimes_25 (by decide) (by omega) (by omega) (fun c25 => ?_) (fun c25 => ?_)
          · refine lv_aload_n zx zb dX1_addTimes_39 rfl (lv_at hl 0 rfl) ?_
            refine j_get hC hI hin_X1_addTimes_X1 0 rfl rfl 1 (by decide) hfl_X1_addTimes_15 rfl rfl dX1_addTimes_40 ?_
            exact hQ _ _ _ _ _ ⟨g, m⟩ dX1_addTimes_43 (hI.sub [0, 1] rfl rfl) (by (try dsimp only); exact (Or.inl ⟨_, by omega, by omega, rfl, congrArg nI (by omega), by rw [← eg, show j2 - i = 0 by omega]; rfl, by omega⟩))
          · refine lv_aload_n zx zb dX1_addTimes_28 rfl (lv_at hl 0 rfl) ?_
            refine lv_iload_n zx zb dX1_addTimes_29 rfl (lv_at hl 1 rfl) ?_
            refine j_callVv (wr := []) hC hI (c_X1_add zl G h0 h1 R m g v (by omega) (by omega)) (cwV 1 hC.2.2.2.2.1 gX1_addTimes_X1_add rfl rfl rfl (by decide +kernel) ⟨Nat.le_of_ble_eq_true rfl, Nat.le_of_ble_eq_true rfl⟩) [0, 1] [] rfl rfl rfl rfl rfl rfl (q0 := 0) rfl rfl rfl hl.1 (Nat.le_of_ble_eq_true rfl) dX1_addTimes_30 ⟨Nat.le_of_ble_eq_true rfl, Nat.le_of_ble_eq_true rfl⟩ (fun u30 H locs hp30 hI => ?_)
            have hI : jI G zA zs [oC h0 1 [.ref h1, .int (nI (m + 1))], aI G h1 R (up g m (by8 v))] H locs := hI
            refine lv_iinc (v := nI (i + 1)) (lv' := [(3, .int (nI (i + 1))), (0, .ref h0), (1, .int v), (2, .int (nI j2))]) zx zb dX1_addTimes_33 hl (k := 3) rfl (j_inc _ _ _ (by decide)) (by decide) rfl (fun ls hl => ?_)
            refine lv_goto (tgt := 23) zx zb dX1_addTimes_36 (by decide) ?_
            exact ih23 (i + 1) (m + 1) (up g m (by8 v)) (by omega) (by rw [← eg, show j2 - i = (j2 - (i + 1)) + 1 by omega]; rfl) (by omega) (by omega) (by omega) _ _ _ hI (lv_sub hl [1, 2, 3, 0] rfl)
      exact loop23 _ 0 n f (by omega) rfl (by omega) (by omega) (Nat.lt_succ_self _) _ _ _ hI (lv_sub hl [1, 2, 3, 0] rfl)
    · refine lv_iconst (v := (-1)) zx zb dX1_addTimes_19 (by decide) ?_
      exact hQ _ _ _ _ _ ⟨f, n⟩ dX1_addTimes_20 (hI.sub [0, 1] rfl rfl) (by (try dsimp only); exact (Or.inr ⟨ad_no4 hR (by omega), rfl, rfl, rfl⟩))

theorem hin_X1_addAgain_X1 : ∀ w ∈ wsX10, w ∈ wsX1_addAgain := by decide +kernel
theorem hfl_X1_addAgain_15 : Cond.fieldLink RX1 15 "CheapParse$Bytes" "size" "I" ∈ wsX1_addAgain := by decide +kernel
set_option maxHeartbeats 4000000 in
set_option maxRecDepth 100000 in
theorem c_X1_addAgain (zl : Launch) (G : jG) (h0 : Nat) (h1 : Nat) (R : Nat) (n : Nat) (d : Nat) (k : Nat) (f : Nat → Nat) (hR : R ≤ 700) (hk : n + k ≤ R) (hd1 : 1 ≤ d) (hd2 : d ≤ n) (hf : ∀ j, j < n → f j < 256) : jMet zl yX1_addAgain wsX1_addAgain ({ frames := 1, cells := 0, slots := 0, locals := 21 }) G [oC h0 1 [.ref h1, .int (nI n)], aI G h1 R f] [.ref h0, .int (nI d), .int (nI k)] (jQv G (fun (u : Unit) => True) (fun (u : Unit) => [oC h0 1 [.ref h1, .int (nI (n + k))], aI G h1 R (agn d k f n)])) 0 0 := by
  refine j_enter_v (cc := cX1_addAgain) (nL := 4) (nm := "addAgain") (own := RX1) (lv := [(0, .ref h0), (1, .int (nI d)), (2, .int (nI k))]) (by decide) rfl (Nat.le_of_ble_eq_true rfl) rfl rfl rfl ?_
  intro zA zp ze zs zm zargs zbelow zmeth zc zQ ls hC hQ hI hl
  have zx := hC.1
  have zb := hC.2.1
  refine lv_iconst (v := nI 0) zx zb dX1_addAgain_0 (by decide) ?_
  refine lv_istore_n (lv' := [(3, .int (nI 0)), (0, .ref h0), (1, .int (nI d)), (2, .int (nI k))]) zx zb dX1_addAgain_1 rfl hl (by decide) rfl (fun ls hl => ?_)
  have loop2 : ∀ (zn2 : Nat) (i : Nat) (m : Nat) (g : Nat → Nat), (m = n + i) → (agn d (k - i) g m = agn d k f n) → (i ≤ k) → (∀ j, j < m → g j < 256) → (k - i) < zn2 → ∀ (H : Heap) (locs : List Loc) (ls : Array Slot), jI G zA zs [oC h0 1 [.ref h1, .int (nI m)], aI G h1 R g] H locs → lv_has ls 4 [(0, .ref h0), (1, .int (nI d)), (2, .int (nI k)), (3, .int (nI i))] → W zp zl ze ({ frames := 1, cells := 0, slots := 0, locals := 21 }) zs zm zargs zbelow zmeth zc H locs 0 0 zQ (F0 zm 2 ls []) := by
    intro zn2
    induction zn2 with
    | zero => intros; omega
    | succ zn2 ih2 =>
      intro i m g ej eg ek hg zm2 H locs ls hI hl
      refine lv_iload_n zx zb dX1_addAgain_2 rfl (lv_at hl 3 rfl) ?_
      refine lv_iload_n zx zb dX1_addAgain_3 rfl (lv_at hl 2 rfl) ?_
      refine j_icmp_ge (tgt := 27) hC dX1_addAgain_4 (by decide) (by omega) (by omega) (fun c4 => ?_) (fun c4 => ?_)
      · have em : m = n + k := by omega
        subst em
        rw [show k - i = 0 by omega] at eg
        exact hQ _ _ _ _ () dX1_addAgain_27 (hI.sub [0, 1] rfl (by rw [← eg]; rfl)) trivial
      · refine lv_aload_n zx zb dX1_addAgain_7 rfl (lv_at hl 0 rfl) ?_
        refine lv_aload_n zx zb dX1_addAgain_8 rfl (lv_at hl 0 rfl) ?_
        refine lv_aload_n zx zb dX1_addAgain_9 rfl (lv_at hl 0 rfl) ?_
        refine j_get hC hI hin_X1_addAgain_X1 0 rfl rfl 1 (by decide) hfl_X1_addAgain_15 rfl rfl dX1_addAgain_10 ?_
        refine lv_iload_n zx zb dX1_addAgain_13 rfl (lv_at hl 1 rfl) ?_
        refine j_isub hC (by omega) dX1_addAgain_14 ?_
        refine j_callVi (wr := []) hC hI (c_X1_get_in zl G h0 h1 R m (m - d) g (by omega) (by omega) (by omega)) (cwV 1 hC.2.2.2.2.1 gX1_addAgain_X1_get rfl rfl rfl (by decide +kernel) ⟨Nat.le_of_ble_eq_true rfl, Nat.le_of_ble_eq_true rfl⟩) [0, 1] [] rfl rfl rfl rfl rfl rfl (q0 := 0) rfl rfl rfl hl.1 (Nat.le_of_ble_eq_true rfl) dX1_addAgain_15 ⟨Nat.le_of_ble_eq_true rfl, Nat.le_of_ble_eq_true rfl⟩ (fun rv15 u15 H locs hp15 hI => ?_)
        have hI : jI G zA zs [oC h0 1 [.ref h1, .int (nI m)], aI G h1 R g] H locs := hI
        subst hp15
        refine j_callVv (wr := []) hC hI (c_X1_add zl G h0 h1 R m g (nI (g (m - d))) (by omega) (by omega)) (cwV 1 hC.2.2.2.2.1 gX1_addAgain_X1_add rfl rfl rfl (by decide +kernel) ⟨Nat.le_of_ble_eq_true rfl, Nat.le_of_ble_eq_true rfl⟩) [0, 1] [] rfl rfl rfl rfl rfl rfl (q0 := 0) rfl rfl rfl hl.1 (Nat.le_of_ble_eq_true rfl) dX1_addAgain_18 ⟨Nat.le_of_ble_eq_true rfl, Nat.le_of_ble_eq_true rfl⟩ (fun u18 H locs hp18 hI => ?_)
        have hI : jI G zA zs [oC h0 1 [.ref h1, .int (nI (m + 1))], aI G h1 R (up g m (by8 (nI (g (m - d)))))] H locs := hI
        refine lv_iinc (v := nI (i + 1)) (lv' := [(3, .int (nI (i + 1))), (0, .ref h0), (1, .int (nI d)), (2, .int (nI k))]) zx zb dX1_addAgain_21 hl (k := 3) rfl (j_inc _ _ _ (by decide)) (by decide) rfl (fun ls hl => ?_)
        refine lv_goto (tgt := 2) zx zb dX1_addAgain_24 (by decide) ?_
        rw [by8_nI (by have := hg (m - d) (by omega); omega), Nat.mod_eq_of_lt (hg (m - d) (by omega))] at hI
        exact ih2 (i + 1) (m + 1) (up g m (g (m - d))) (by omega) (by rw [← eg, show k - i = (k - (i + 1)) + 1 by omega]; rfl) (by omega) (up_lt hg (hg _ (by omega))) (by omega) _ _ _ hI (lv_sub hl [1, 2, 3, 0] rfl)
  exact loop2 _ 0 n f (by omega) rfl (by omega) hf (Nat.lt_succ_self _) _ _ _ hI (lv_sub hl [1, 2, 3, 0] rfl)

theorem hin_X1_copyOf_X1 : ∀ w ∈ wsX10, w ∈ wsX1_copyOf := by decide +kernel
theorem hfl_X1_copyOf_15 : Cond.fieldLink RX1 15 "CheapParse$Bytes" "size" "I" ∈ wsX1_copyOf := by decide +kernel
theorem hfl_X1_copyOf_9 : Cond.fieldLink RX1 9 "CheapParse$Bytes" "row" "[I" ∈ wsX1_copyOf := by decide +kernel
set_option maxHeartbeats 4000000 in
set_option maxRecDepth 100000 in
theorem c_X1_copyOf (zl : Launch) (G : jG) (h0 : Nat) (h1 : Nat) (g0 : Nat) (g1 : Nat) (R : Nat) (n : Nat) (R2 : Nat) (n2 : Nat) (f : Nat → Nat) (g : Nat → Nat) (hR : R ≤ 700) (h2 : n2 ≤ R) (h3 : n2 ≤ R2) : jMet zl yX1_copyOf wsX1_copyOf ({ frames := 1, cells := 0, slots := 0, locals := 30 }) G [oC h0 1 [.ref h1, .int (nI n)], aI G h1 R f, oC g0 1 [.ref g1, .int (nI n2)], aI G g1 R2 g] [.ref h0, .ref g0] (jQv G (fun (u : Unit) => True) (fun (u : Unit) => [oC h0 1 [.ref h1, .int (nI n2)], aI G h1 R (cpy g f n2), oC g0 1 [.ref g1, .int (nI n2)], aI G g1 R2 g])) 0 0 := by
  refine j_enter_v (cc := cX1_copyOf) (nL := 2) (nm := "copyOf") (own := RX1) (lv := [(0, .ref h0), (1, .ref g0)]) (by decide) rfl (Nat.le_of_ble_eq_true rfl) rfl rfl rfl ?_
  intro zA zp ze zs zm zargs zbelow zmeth zc zQ ls hC hQ hI hl
  have zx := hC.1
  have zb := hC.2.1
  refine lv_aload_n zx zb dX1_copyOf_0 rfl (lv_at hl 0 rfl) ?_
  refine lv_aload_n zx zb dX1_copyOf_1 rfl (lv_at hl 1 rfl) ?_
  refine j_get hC hI hin_X1_copyOf_X1 2 rfl rfl 1 (by decide) hfl_X1_copyOf_15 rfl rfl dX1_copyOf_2 ?_
  refine lv_aload_n zx zb dX1_copyOf_5 rfl (lv_at hl 0 rfl) ?_
  refine j_get hC hI hin_X1_copyOf_X1 0 rfl rfl 0 (by decide) hfl_X1_copyOf_9 rfl rfl dX1_copyOf_6 ?_
  refine j_alen hC hI 1 rfl dX1_copyOf_9 ?_
  refine j_min hC hl.1 (by decide +kernel) (by decide +kernel) (by decide +kernel) (by decide +kernel) (Nat.le_of_ble_eq_true rfl) (Nat.le_of_ble_eq_true rfl) (Nat.le_of_ble_eq_true rfl) (Nat.le_of_ble_eq_true rfl) (by omega) (by omega) dX1_copyOf_10 ?_
  rw [Nat.min_eq_left h2]
  refine j_put (w1 := [oC h0 1 [.ref h1, .int (nI n2)], aI G h1 R f, oC g0 1 [.ref g1, .int (nI n2)], aI G g1 R2 g]) hC hI hin_X1_copyOf_X1 tyX1 tyX1_ok nmX1 0 rfl rfl 1 (by decide) hfl_X1_copyOf_15 rfl rfl rfl rfl (Nat.le_of_ble_eq_true rfl) dX1_copyOf_13 rfl (fun H locs hI => ?_)
  refine lv_aload_n zx zb dX1_copyOf_16 rfl (lv_at hl 1 rfl) ?_
  refine j_get hC hI hin_X1_copyOf_X1 2 rfl rfl 0 (by decide) hfl_X1_copyOf_9 rfl rfl dX1_copyOf_17 ?_
  refine lv_iconst (v := nI 0) zx zb dX1_copyOf_20 (by decide) ?_
  refine lv_aload_n zx zb dX1_copyOf_21 rfl (lv_at hl 0 rfl) ?_
  refine j_get hC hI hin_X1_copyOf_X1 0 rfl rfl 0 (by decide) hfl_X1_copyOf_9 rfl rfl dX1_copyOf_22 ?_
  refine lv_iconst (v := nI 0) zx zb dX1_copyOf_25 (by decide) ?_
  refine lv_aload_n zx zb dX1_copyOf_26 rfl (lv_at hl 0 rfl) ?_
  refine j_get hC hI hin_X1_copyOf_X1 0 rfl rfl 1 (by decide) hfl_X1_copyOf_15 rfl rfl dX1_copyOf_27 ?_
  refine j_copy0 (w1 := [oC h0 1 [.ref h1, .int (nI n2)], aI G h1 R (cpy g f n2), oC g0 1 [.ref g1, .int (nI n2)], aI G g1 R2 g]) hC hl.1 (by decide +kernel) (by decide +kernel) (by decide +kernel) (by decide +kernel) hI 3 1 rfl rfl (by omega) (by omega) (by omega) (Nat.le_of_ble_eq_true rfl) (by decide) dX1_copyOf_30 rfl (fun H locs hI => ?_)
  exact hQ _ _ _ _ () dX1_copyOf_33 (hI.sub [0, 1, 2, 3] rfl rfl) trivial

theorem hin_X1_sameAs_X1 : ∀ w ∈ wsX10, w ∈ wsX1_sameAs := by decide +kernel
theorem hfl_X1_sameAs_15 : Cond.fieldLink RX1 15 "CheapParse$Bytes" "size" "I" ∈ wsX1_sameAs := by decide +kernel
theorem hfl_X1_sameAs_9 : Cond.fieldLink RX1 9 "CheapParse$Bytes" "row" "[I" ∈ wsX1_sameAs := by decide +kernel
set_option maxHeartbeats 4000000 in
set_option maxRecDepth 100000 in
theorem c_X1_sameAs (zl : Launch) (G : jG) (h0 : Nat) (h1 : Nat) (g0 : Nat) (g1 : Nat) (R : Nat) (n : Nat) (R2 : Nat) (n2 : Nat) (f : Nat → Nat) (g : Nat → Nat) (hR : R ≤ 700) (hR2 : R2 ≤ 700) (h2 : n ≤ R) (h3 : n2 ≤ R2) (hf : ∀ j, j < n → f j < 256) (hg : ∀ j, j < n2 → g j < 256) (hn : n = n2) (hfg : ∀ j, j < n → f j = g j) : jMet zl yX1_sameAs wsX1_sameAs ({ frames := 0, cells := 0, slots := 0, locals := 0 }) G [oC h0 1 [.ref h1, .int (nI n)], aI G h1 R f, oC g0 1 [.ref g1, .int (nI n2)], aI G g1 R2 g] [.ref h0, .ref g0] (jQi G (fun (r : Int32) (u : Unit) => (r = nI 1)) (fun (u : Unit) => [oC h0 1 [.ref h1, .int (nI n)], aI G h1 R f, oC g0 1 [.ref g1, .int (nI n2)], aI G g1 R2 g])) 0 0 := by
  refine j_enter_z (cc := cX1_sameAs) (nL := 3) (nm := "sameAs") (own := RX1) (lv := [(0, .ref h0), (1, .ref g0)]) (by decide) rfl (Nat.le_of_ble_eq_true rfl) rfl rfl rfl ?_
  intro zA zp ze zs zm zargs zbelow zmeth zc zQ ls hC hQ hI hl
  have zx := hC.1
  have zb := hC.2.1
  refine lv_aload_n zx zb dX1_sameAs_0 rfl (lv_at hl 0 rfl) ?_
  refine j_get hC hI hin_X1_sameAs_X1 0 rfl rfl 1 (by decide) hfl_X1_sameAs_15 rfl rfl dX1_sameAs_1 ?_
  refine lv_aload_n zx zb dX1_sameAs_4 rfl (lv_at hl 1 rfl) ?_
  refine j_get hC hI hin_X1_sameAs_X1 2 rfl rfl 1 (by decide) hfl_X1_sameAs_15 rfl rfl dX1_sameAs_5 ?_
  refine j_icmp_eq (tgt := 13) hC dX1_sameAs_8 (by decide) (by omega) (by omega) (fun c8 => ?_) (fun c8 => ?_)
  · refine lv_iconst (v := nI 0) zx zb dX1_sameAs_13 (by decide) ?_
    refine lv_istore_n (lv' := [(2, .int (nI 0)), (0, .ref h0), (1, .ref g0)]) zx zb dX1_sameAs_14 rfl hl (by decide) rfl (fun ls hl => ?_)
    have loop15 : ∀ (zn15 : Nat) (i : Nat), (i ≤ n) → (n - i) < zn15 → ∀ (H : Heap) (locs : List Loc) (ls : Array Slot), jI G zA zs [oC h0 1 [.ref h1, .int (nI n)], aI G h1 R f, oC g0 1 [.ref g1, .int (nI n2)], aI G g1 R2 g] H locs → lv_has ls 3 [(0, .ref h0), (1, .ref g0), (2, .int (nI i))] → W zp zl ze ({ frames := 0, cells := 0, slots := 0, locals := 0 }) zs zm zargs zbelow zmeth zc H locs 0 0 zQ (F0 zm 15 ls []) := by
      intro zn15
      induction zn15 with
      | zero => intros; omega
      | succ zn15 ih15 =>
        intro i hi zm15 H locs ls hI hl
        refine lv_iload_n zx zb dX1_sameAs_15 rfl (lv_at hl 2 rfl) ?_
        refine lv_aload_n zx zb dX1_sameAs_16 rfl (lv_at hl 0 rfl) ?_
        refine j_get hC hI hin_X1_sameAs_X1 0 rfl rfl 1 (by decide) hfl_X1_sameAs_15 rfl rfl dX1_sameAs_17 ?_
        refine j_icmp_ge (tgt := 46) hC dX1_sameAs_20 (by decide) (by omega) (by omega) (fun c20 => ?_) (fun c20 => ?_)
        · refine lv_iconst (v := nI 1) zx zb dX1_sameAs_46 (by decide) ?_
          exact hQ _ _ _ _ _ () dX1_sameAs_47 rfl (hI.sub [0, 1, 2, 3] rfl rfl) (by first | rfl | (congr 1; omega) | omega)
        · refine lv_aload_n zx zb dX1_sameAs_23 rfl (lv_at hl 0 rfl) ?_
          refine j_get hC hI hin_X1_sameAs_X1 0 rfl rfl 0 (by decide) hfl_X1_sameAs_9 rfl rfl dX1_sameAs_24 ?_
          refine lv_iload_n zx zb dX1_sameAs_27 rfl (lv_at hl 2 rfl) ?_
          refine j_iald hC hI 1 rfl (by omega) (by omega) dX1_sameAs_28 ?_
          have b28 := hf i (by omega)
          refine lv_aload_n zx zb dX1_sameAs_29 rfl (lv_at hl 1 rfl) ?_
          refine j_get hC hI hin_X1_sameAs_X1 2 rfl rfl 0 (by decide) hfl_X1_sameAs_9 rfl rfl dX1_sameAs_30 ?_
          refine lv_iload_n zx zb dX1_sameAs_33 rfl (lv_at hl 2 rfl) ?_
          refine j_iald hC hI 3 rfl (by omega) (by omega) dX1_sameAs_34 ?_
          have b34 := hg i (by omega)
          refine j_icmp_eq (tgt := 40) hC dX1_sameAs_35 (by decide) (by omega) (by omega) (fun c35 => ?_) (fun c35 => ?_)
          · refine lv_iinc (v := nI (i + 1)) (lv' := [(2, .int (nI (i + 1))), (0, .ref h0), (1, .ref g0)]) zx zb dX1_sameAs_40 hl (k := 2) rfl (j_inc _ _ _ (by decide)) (by decide) rfl (fun ls hl => ?_)
            refine lv_goto (tgt := 15) zx zb dX1_sameAs_43 (by decide) ?_
            exact ih15 (i + 1) (by omega) (by omega) _ _ _ hI (lv_sub hl [1, 2, 0] rfl)
          · exact absurd (hfg i (by omega)) c35
    exact loop15 _ 0 (by omega) (Nat.lt_succ_self _) _ _ _ hI (lv_sub hl [1, 2, 0] rfl)
  · exact (by omega : False).elim

theorem hin_X1_repeats_X1 : ∀ w ∈ wsX10, w ∈ wsX1_repeats := by decide +kernel
theorem hfl_X1_repeats_15 : Cond.fieldLink RX1 15 "CheapParse$Bytes" "size" "I" ∈ wsX1_repeats := by decide +kernel
theorem hfl_X1_repeats_9 : Cond.fieldLink RX1 9 "CheapParse$Bytes" "row" "[I" ∈ wsX1_repeats := by decide +kernel
set_option maxHeartbeats 4000000 in
set_option maxRecDepth 100000 in
theorem c_X1_repeats (zl : Launch) (G : jG) (h0 : Nat) (h1 : Nat) (R : Nat) (n : Nat) (p : Nat) (d : Nat) (k : Nat) (f : Nat → Nat) (hR : R ≤ 700) (h2 : n ≤ R) (hf : ∀ j, j < n → f j < 256) (hp : p + k ≤ n) (hd1 : 1 ≤ d) (hd2 : d ≤ p) : jMet zl yX1_repeats wsX1_repeats ({ frames := 0, cells := 0, slots := 0, locals := 0 }) G [oC h0 1 [.ref h1, .int (nI n)], aI G h1 R f] [.ref h0, .int (nI p), .int (nI d), .int (nI k)] (jQi G (fun (r : Int32) (u : Nat) => (r = nI u) ∧ (u ≤ 1) ∧ (u = 1 ↔ ∀ j, j < k → f (p + j) = f (p + j - d))) (fun (u : Nat) => [oC h0 1 [.ref h1, .int (nI n)], aI G h1 R f])) 0 0 := by
  refine j_enter_z (cc := cX1_repeats) (nL := 5) (nm := "repeats") (own := RX1) (lv := [(0, .ref h0), (1, .int (nI p)), (2, .int (nI d)), (3, .int (nI k))]) (by decide) rfl (Nat.le_of_ble_eq_true rfl) rfl rfl rfl ?_
  intro zA zp ze zs zm zargs zbelow zmeth zc zQ ls hC hQ hI hl
  have zx := hC.1
  have zb := hC.2.1
  refine lv_iload_n zx zb dX1_repeats_0 rfl (lv_at hl 2 rfl) ?_
  refine lv_iconst (v := nI 1) zx zb dX1_repeats_1 (by decide) ?_
  refine j_icmp_lt (tgt := 20) hC dX1_repeats_2 (by decide) (by omega) (by omega) (fun c2 => ?_) (fun c2 => ?_)
  · exact (by omega : False).elim
  · refine lv_iload_n zx zb dX1_repeats_5 rfl (lv_at hl 2 rfl) ?_
    refine lv_iload_n zx zb dX1_repeats_6 rfl (lv_at hl 1 rfl) ?_
    refine j_icmp_gt (tgt := 20) hC dX1_repeats_7 (by decide) (by omega) (by omega) (fun c7 => ?_) (fun c7 => ?_)
    · exact (by omega : False).elim
    · refine lv_iload_n zx zb dX1_repeats_10 rfl (lv_at hl 3 rfl) ?_
      refine lv_aload_n zx zb dX1_repeats_11 rfl (lv_at hl 0 rfl) ?_
      refine j_get hC hI hin_X1_repeats_X1 0 rfl rfl 1 (by decide) hfl_X1_repeats_15 rfl rfl dX1_repeats_12 ?_
      refine lv_iload_n zx zb dX1_repeats_15 rfl (lv_at hl 1 rfl) ?_
      refine j_isub hC (by omega) dX1_repeats_16 ?_
      refine j_icmp_le (tgt := 22) hC dX1_repeats_17 (by decide) (by omega) (by omega) (fun c17 => ?_) (fun c17 => ?_)
      · refine lv_iload_n zx zb dX1_repeats_22 rfl (lv_at hl 1 rfl) ?_
        refine lv_istore (lv' := [(4, .int (nI p)), (0, .ref h0), (1, .int (nI p)), (2, .int (nI d)), (3, .int (nI k))]) zx zb dX1_repeats_23 hl (by decide) rfl (fun ls hl => ?_)
        have loop25 : ∀ (zn25 : Nat) (i : Nat), (p ≤ i ∧ i ≤ p + k) → (∀ j, j < i - p → f (p + j) = f (p + j - d)) → (p + k - i) < zn25 → ∀ (H : Heap) (locs : List Loc) (ls : Array Slot), jI G zA zs [oC h0 1 [.ref h1, .int (nI n)], aI G h1 R f] H locs → lv_has ls 5 [(0, .ref h0), (1, .int (nI p)), (2, .int (nI d)), (3, .int (nI k)), (4, .int (nI i))] → W zp zl ze ({ frames := 0, cells := 0, slots := 0, locals := 0 }) zs zm zargs zbelow zmeth zc H locs 0 0 zQ (F0 zm 25 ls []) := by
          intro zn25
          induction zn25 with
          | zero => intros; omega
          | succ zn25 ih25 =>
            intro i hi hs zm25 H locs ls hI hl
            refine lv_iload zx zb dX1_repeats_25 (lv_at hl 4 rfl) ?_
            refine lv_iload_n zx zb dX1_repeats_27 rfl (lv_at hl 1 rfl) ?_
            refine lv_iload_n zx zb dX1_repeats_28 rfl (lv_at hl 3 rfl) ?_
            refine j_iadd hC dX1_repeats_29 ?_
            refine j_icmp_ge (tgt := 60) hC dX1_repeats_30 (by decide) (by omega) (by omega) (fun c30 => ?_) (fun c30 => ?_)
            · refine lv_iconst (v := nI 1) zx zb dX1_repeats_60 (by decide) ?_
              exact hQ _ _ _ _ _ 1 dX1_repeats_61 rfl (hI.sub [0, 1] rfl rfl) ⟨(by first | rfl | (congr 1; omega) | omega), (by omega), (by rw [show i - p = k by omega] at hs; exact ⟨fun _ => hs, fun _ => rfl⟩)⟩
            · refine lv_aload_n zx zb dX1_repeats_33 rfl (lv_at hl 0 rfl) ?_
              refine j_get hC hI hin_X1_repeats_X1 0 rfl rfl 0 (by decide) hfl_X1_repeats_9 rfl rfl dX1_repeats_34 ?_
              refine lv_iload zx zb dX1_repeats_37 (lv_at hl 4 rfl) ?_
              refine j_iald hC hI 1 rfl (by omega) (by omega) dX1_repeats_39 ?_
              have b39 := hf i (by omega)
              refine lv_aload_n zx zb dX1_repeats_40 rfl (lv_at hl 0 rfl) ?_
              refine j_get hC hI hin_X1_repeats_X1 0 rfl rfl 0 (by decide) hfl_X1_repeats_9 rfl rfl dX1_repeats_41 ?_
              refine lv_iload zx zb dX1_repeats_44 (lv_at hl 4 rfl) ?_
              refine lv_iload_n zx zb dX1_repeats_46 rfl (lv_at hl 2 rfl) ?_
              refine j_isub hC (by omega) dX1_repeats_47 ?_
              refine j_iald hC hI 1 rfl (by omega) (by omega) dX1_repeats_48 ?_
              have b48 := hf (i - d) (by omega)
              refine j_icmp_eq (tgt := 54) hC dX1_repeats_49 (by decide) (by omega) (by omega) (fun c49 => ?_) (fun c49 => ?_)
              · refine lv_iinc (v := nI (i + 1)) (lv' := [(4, .int (nI (i + 1))), (0, .ref h0), (1, .int (nI p)), (2, .int (nI d)), (3, .int (nI k))]) zx zb dX1_repeats_54 hl (k := 4) rfl (j_inc _ _ _ (by decide)) (by decide) rfl (fun ls hl => ?_)
                refine lv_goto (tgt := 25) zx zb dX1_repeats_57 (by decide) ?_
                exact ih25 (i + 1) (by omega) (rp_step hs (by omega) c49) (by omega) _ _ _ hI (lv_sub hl [1, 2, 3, 4, 0] rfl)
              · refine lv_iconst (v := nI 0) zx zb dX1_repeats_52 (by decide) ?_
                exact hQ _ _ _ _ _ 0 dX1_repeats_53 rfl (hI.sub [0, 1] rfl rfl) ⟨(by first | rfl | (congr 1; omega) | omega), (by omega), (rp_no (by omega) (by omega) c49)⟩
        exact loop25 _ p (by omega) (fun j hj => by omega) (Nat.lt_succ_self _) _ _ _ hI (lv_sub hl [1, 2, 3, 4, 0] rfl)
      · exact (by omega : False).elim

set_option maxHeartbeats 4000000 in
set_option maxRecDepth 100000 in
theorem c_X1_get_out (zl : Launch) (G : jG) (h0 : Nat) (h1 : Nat) (R : Nat) (n : Nat) (k : Nat) (f : Nat → Nat) (hn : n ≤ R) (hR : R ≤ 700) (hk : n ≤ k ∧ k < 2147483648) : jMet zl yX1_get wsX1_get ({ frames := 0, cells := 0, slots := 0, locals := 0 }) G [oC h0 1 [.ref h1, .int (nI n)], aI G h1 R f] [.ref h0, .int (nI k)] (jQi G (fun (r : Int32) (u : Unit) => (r = -1)) (fun (u : Unit) => [oC h0 1 [.ref h1, .int (nI n)], aI G h1 R f])) 0 0 := by
  refine j_enter_i (cc := cX1_get) (nL := 2) (nm := "get") (own := RX1) (lv := [(0, .ref h0), (1, .int (nI k))]) (by decide) rfl (Nat.le_of_ble_eq_true rfl) rfl rfl rfl ?_
  intro zA zp ze zs zm zargs zbelow zmeth zc zQ ls hC hQ hI hl
  have zx := hC.1
  have zb := hC.2.1
  refine lv_iload_n zx zb dX1_get_0 rfl (lv_at hl 1 rfl) ?_
  refine j_if_lt (tgt := 21) hC dX1_get_1 (by decide) (by omega) ?_
  refine lv_iload_n zx zb dX1_get_4 rfl (lv_at hl 1 rfl) ?_
  refine lv_aload_n zx zb dX1_get_5 rfl (lv_at hl 0 rfl) ?_
  refine j_get hC hI hin_X1_get_X1 0 rfl rfl 1 (by decide) hfl_X1_get_15 rfl rfl dX1_get_6 ?_
  refine j_icmp_ge (tgt := 21) hC dX1_get_9 (by decide) (by omega) (by omega) (fun c9 => ?_) (fun c9 => ?_)
  · refine lv_iconst (v := (-1)) zx zb dX1_get_21 (by decide) ?_
    exact hQ _ _ _ _ _ () dX1_get_22 (hI.sub [0, 1] rfl rfl) (by first | rfl | (congr 1; omega) | omega)
  · exact (by omega : False).elim

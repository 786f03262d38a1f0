theorem hin_X4_number_X4 : ∀ w ∈ wsX40, w ∈ wsX4_number := by decide +kernel
theorem hfl_X4_number_9 : Cond.fieldLink RX4 9 "CheapParse$Reader" "source" "LCheapParse$Bytes;" ∈ wsX4_number := by decide +kernel
theorem hfl_X4_number_22 : Cond.fieldLink RX4 22 "CheapParse$Reader" "bits" "I" ∈ wsX4_number := by decide +kernel
set_option maxHeartbeats 4000000 in
set_option maxRecDepth 100000 in
theorem c_X4_number_ok (zl : Launch) (G : jG) (d0 : Nat) (l0 : Nat) (l1 : Nat) (u0 : Nat) (g0 : Nat) (b : Nat) (sz : Nat) (L : Nat → Nat) (k : Nat) (hs : sz ≤ 700) (hLb : ∀ j, j < sz → L j < 256) (hbs : b ≤ 8 * sz) (hk : k ≤ 16) (he : b + k ≤ 8 * sz) : jMet zl yX4_number wsX4_number ({ frames := 1, cells := 0, slots := 0, locals := 21 }) G [oC d0 4 [.ref l0, .ref u0, .ref g0, .int (nI b)], oC l0 1 [.ref l1, .int (nI sz)], aI G l1 700 L] [.ref d0, .int (nI k)] (jQi G (fun (r : Int32) (u : Unit) => (r = nI (nb L b k))) (fun (u : Unit) => [oC d0 4 [.ref l0, .ref u0, .ref g0, .int (nI (b + k))], oC l0 1 [.ref l1, .int (nI sz)], aI G l1 700 L])) 0 0 := by
  refine j_enter_i (cc := cX4_number) (nL := 5) (nm := "number") (own := RX4) (lv := [(0, .ref d0), (1, .int (nI k))]) (by decide) rfl (Nat.le_of_ble_eq_true rfl) rfl rfl rfl ?_
  intro zA zp ze zs zm zargs zbelow zmeth zc zQ ls hC hQ hI hl
  have zx := hC.1
  have zb := hC.2.1
  refine lv_iconst (v := nI 0) zx zb dX4_number_0 (by decide) ?_
  refine lv_istore_n (lv' := [(2, .int (nI 0)), (0, .ref d0), (1, .int (nI k))]) zx zb dX4_number_1 rfl hl (by decide) rfl (fun ls hl => ?_)
  refine lv_iconst (v := nI 0) zx zb dX4_number_2 (by decide) ?_
  refine lv_istore_n (lv' := [(3, .int (nI 0)), (2, .int (nI 0)), (0, .ref d0), (1, .int (nI k))]) zx zb dX4_number_3 rfl hl (by decide) rfl (fun ls hl => ?_)
  have loop4 : ∀ (zn4 : Nat) (i : Nat), (i ≤ k) → (b + i ≤ 8 * sz) → (k - i) < zn4 → ∀ (H : Heap) (locs : List Loc) (ls : Array Slot), jI G zA zs [oC d0 4 [.ref l0, .ref u0, .ref g0, .int (nI (b + i))], oC l0 1 [.ref l1, .int (nI sz)], aI G l1 700 L] H locs → lv_has ls 5 [(0, .ref d0), (1, .int (nI k)), (2, .int (nI (nb L b i))), (3, .int (nI i))] → W zp zl ze ({ frames := 1, cells := 0, slots := 0, locals := 21 }) zs zm zargs zbelow zmeth zc H locs 0 0 zQ (F0 zm 4 ls []) := by
    intro zn4
    induction zn4 with
    | zero => intros; omega
    | succ zn4 ih4 =>
      intro i hi hbi zm4 H locs ls hI hl
      have hnb := nb_lt L b i
      have hnb2 : 2 ^ i ≤ 65536 := Nat.le_trans (Nat.pow_le_pow_right (by decide) (show i ≤ 16 by omega)) (by decide)
      refine lv_iload_n zx zb dX4_number_4 rfl (lv_at hl 3 rfl) ?_
      refine lv_iload_n zx zb dX4_number_5 rfl (lv_at hl 1 rfl) ?_
      refine j_icmp_ge (tgt := 69) hC dX4_number_6 (by decide) (by omega) (by omega) (fun c6 => ?_) (fun c6 => ?_)
      · refine lv_iload_n zx zb dX4_number_69 rfl (lv_at hl 2 rfl) ?_
        have ei : i = k := by omega
        subst ei
        exact hQ _ _ _ _ _ () dX4_number_70 (hI.sub [0, 1, 2] rfl rfl) (by first | rfl | (congr 1; omega) | omega)
      · refine lv_aload_n zx zb dX4_number_9 rfl (lv_at hl 0 rfl) ?_
        refine j_get hC hI hin_X4_number_X4 0 rfl rfl 0 (by decide) hfl_X4_number_9 rfl rfl dX4_number_10 ?_
        refine lv_aload_n zx zb dX4_number_13 rfl (lv_at hl 0 rfl) ?_
        refine j_get hC hI hin_X4_number_X4 0 rfl rfl 3 (by decide) hfl_X4_number_22 rfl rfl dX4_number_14 ?_
        refine lv_bipush (v := nI 8) zx zb dX4_number_17 (by decide) ?_
        refine j_idiv hC (by omega) (by omega) (by omega) dX4_number_19 ?_
        refine j_callVi (wr := [oC d0 4 [.ref l0, .ref u0, .ref g0, .int (nI (b + i))]]) hC hI (c_X1_get_in zl G l0 l1 700 sz ((b + i) / 8) L (by omega) (by omega) (by omega)) (cwV 1 hC.2.2.2.2.1 gX4_number_X1_get rfl rfl rfl (by decide +kernel) ⟨Nat.le_of_ble_eq_true rfl, Nat.le_of_ble_eq_true rfl⟩) [1, 2] [0] rfl rfl rfl rfl rfl rfl (q0 := 0) rfl rfl rfl hl.1 (Nat.le_of_ble_eq_true rfl) dX4_number_20 ⟨Nat.le_of_ble_eq_true rfl, Nat.le_of_ble_eq_true rfl⟩ (fun rv20 u20 H locs hp20 hI => ?_)
        have hI : jI G zA zs [oC d0 4 [.ref l0, .ref u0, .ref g0, .int (nI (b + i))], oC l0 1 [.ref l1, .int (nI sz)], aI G l1 700 L] H locs := hI
        subst hp20
        have hq := hLb ((b + i) / 8) (by omega)
        refine lv_istore (lv' := [(4, .int (nI (L ((b + i) / 8)))), (0, .ref d0), (1, .int (nI k)), (2, .int (nI (nb L b i))), (3, .int (nI i))]) zx zb dX4_number_23 hl (by decide) rfl (fun ls hl => ?_)
        refine lv_iload zx zb dX4_number_25 (lv_at hl 0 rfl) ?_
        refine lv_iconst (v := (-1)) zx zb dX4_number_27 (by decide) ?_
        refine lv_icmp_ne (tgt := 33) zx zb dX4_number_28 (by decide) (fun c28 => ?_) (fun c28 => ?_)
        · refine lv_iconst (v := nI 2) zx zb dX4_number_33 (by decide) ?_
          refine lv_iload_n zx zb dX4_number_34 rfl (lv_at hl 3 rfl) ?_
          refine j_imul hC dX4_number_35 ?_
          refine lv_iload zx zb dX4_number_36 (lv_at hl 0 rfl) ?_
          refine lv_bipush (v := nI 7) zx zb dX4_number_38 (by decide) ?_
          refine lv_aload_n zx zb dX4_number_40 rfl (lv_at hl 1 rfl) ?_
          refine j_get hC hI hin_X4_number_X4 0 rfl rfl 3 (by decide) hfl_X4_number_22 rfl rfl dX4_number_41 ?_
          refine lv_bipush (v := nI 8) zx zb dX4_number_44 (by decide) ?_
          refine j_irem hC (by omega) (by omega) (by omega) dX4_number_46 ?_
          refine j_isub hC (by omega) dX4_number_47 ?_
          refine j_ishr hC (by omega) (by omega) dX4_number_48 ?_
          refine lv_iconst (v := nI 1) zx zb dX4_number_49 (by decide) ?_
          refine j_and1 hC dX4_number_50 ?_
          refine j_iadd hC dX4_number_51 ?_
          rw [show 2 * nb L b i + L ((b + i) / 8) / 2 ^ (7 - (b + i) % 8) % 2 = nb L b (i + 1) from rfl]
          refine lv_istore_n (lv' := [(2, .int (nI ((2 * (nb L b i)) + (((L ((b + i) / 8)) / 2 ^ (7 - ((b + i) % 8))) % 2)))), (4, .int (nI (L ((b + i) / 8)))), (0, .ref d0), (1, .int (nI k)), (3, .int (nI i))]) zx zb dX4_number_52 rfl hl (by decide) rfl (fun ls hl => ?_)
          refine lv_aload_n zx zb dX4_number_53 rfl (lv_at hl 2 rfl) ?_
          refine lv_dup zx zb dX4_number_54 rfl ?_
          refine j_get hC hI hin_X4_number_X4 0 rfl rfl 3 (by decide) hfl_X4_number_22 rfl rfl dX4_number_55 ?_
          refine lv_iconst (v := nI 1) zx zb dX4_number_58 (by decide) ?_
          refine j_iadd hC dX4_number_59 ?_
          refine j_put (w1 := [oC d0 4 [.ref l0, .ref u0, .ref g0, .int (nI ((b + i) + 1))], oC l0 1 [.ref l1, .int (nI sz)], aI G l1 700 L]) hC hI hin_X4_number_X4 tyX4 tyX4_ok nmX4 0 rfl rfl 3 (by decide) hfl_X4_number_22 rfl rfl rfl rfl (Nat.le_of_ble_eq_true rfl) dX4_number_60 rfl (fun H locs hI => ?_)
          refine lv_iinc (v := nI (i + 1)) (lv' := [(3, .int (nI (i + 1))), (2, .int (nI ((2 * (nb L b i)) + (((L ((b + i) / 8)) / 2 ^ (7 - ((b + i) % 8))) % 2)))), (4, .int (nI (L ((b + i) / 8)))), (0, .ref d0), (1, .int (nI k))]) zx zb dX4_number_63 hl (k := 4) rfl (j_inc _ _ _ (by decide)) (by decide) rfl (fun ls hl => ?_)
          refine lv_goto (tgt := 4) zx zb dX4_number_66 (by decide) ?_
          exact ih4 (i + 1) (by omega) (by omega) (by omega) _ _ _ hI (lv_sub hl [3, 4, 1, 0] rfl)
        · exact absurd c28 (nI_m1 (by omega))
  exact loop4 _ 0 (by omega) (by omega) (Nat.lt_succ_self _) _ _ _ hI (lv_sub hl [2, 3, 1, 0] rfl)

set_option maxHeartbeats 4000000 in
set_option maxRecDepth 100000 in
theorem c_X4_number_end (zl : Launch) (G : jG) (d0 : Nat) (l0 : Nat) (l1 : Nat) (u0 : Nat) (g0 : Nat) (b : Nat) (sz : Nat) (L : Nat → Nat) (k : Nat) (hs : sz ≤ 700) (hLb : ∀ j, j < sz → L j < 256) (hbs : b ≤ 8 * sz) (hk : k ≤ 16) (he : 8 * sz < b + k) : jMet zl yX4_number wsX4_number ({ frames := 1, cells := 0, slots := 0, locals := 21 }) G [oC d0 4 [.ref l0, .ref u0, .ref g0, .int (nI b)], oC l0 1 [.ref l1, .int (nI sz)], aI G l1 700 L] [.ref d0, .int (nI k)] (jQi G (fun (r : Int32) (u : Unit) => (r = -1)) (fun (u : Unit) => [oC d0 4 [.ref l0, .ref u0, .ref g0, .int (nI (8 * sz))], oC l0 1 [.ref l1, .int (nI sz)], aI G l1 700 L])) 0 0 := by
  refine j_enter_i (cc := cX4_number) (nL := 5) (nm := "number") (own := RX4) (lv := [(0, .ref d0), (1, .int (nI k))]) (by decide) rfl (Nat.le_of_ble_eq_true rfl) rfl rfl rfl ?_
  intro zA zp ze zs zm zargs zbelow zmeth zc zQ ls hC hQ hI hl
  have zx := hC.1
  have zb := hC.2.1
  refine lv_iconst (v := nI 0) zx zb dX4_number_0 (by decide) ?_
  refine lv_istore_n (lv' := [(2, .int (nI 0)), (0, .ref d0), (1, .int (nI k))]) zx zb dX4_number_1 rfl hl (by decide) rfl (fun ls hl => ?_)
  refine lv_iconst (v := nI 0) zx zb dX4_number_2 (by decide) ?_
  refine lv_istore_n (lv' := [(3, .int (nI 0)), (2, .int (nI 0)), (0, .ref d0), (1, .int (nI k))]) zx zb dX4_number_3 rfl hl (by decide) rfl (fun ls hl => ?_)
  have loop4 : ∀ (zn4 : Nat) (i : Nat), (i ≤ k) → (b + i ≤ 8 * sz) → (k - i) < zn4 → ∀ (H : Heap) (locs : List Loc) (ls : Array Slot), jI G zA zs [oC d0 4 [.ref l0, .ref u0, .ref g0, .int (nI (b + i))], oC l0 1 [.ref l1, .int (nI sz)], aI G l1 700 L] H locs → lv_has ls 5 [(0, .ref d0), (1, .int (nI k)), (2, .int (nI (nb L b i))), (3, .int (nI i))] → W zp zl ze ({ frames := 1, cells := 0, slots := 0, locals := 21 }) zs zm zargs zbelow zmeth zc H locs 0 0 zQ (F0 zm 4 ls []) := by
    intro zn4
    induction zn4 with
    | zero => intros; omega
    | succ zn4 ih4 =>
      intro i hi hbi zm4 H locs ls hI hl
      have hnb := nb_lt L b i
      have hnb2 : 2 ^ i ≤ 65536 := Nat.le_trans (Nat.pow_le_pow_right (by decide) (show i ≤ 16 by omega)) (by decide)
      refine lv_iload_n zx zb dX4_number_4 rfl (lv_at hl 3 rfl) ?_
      refine lv_iload_n zx zb dX4_number_5 rfl (lv_at hl 1 rfl) ?_
      refine j_icmp_ge (tgt := 69) hC dX4_number_6 (by decide) (by omega) (by omega) (fun c6 => ?_) (fun c6 => ?_)
      · exact (by omega : False).elim
      · refine lv_aload_n zx zb dX4_number_9 rfl (lv_at hl 0 rfl) ?_
        refine j_get hC hI hin_X4_number_X4 0 rfl rfl 0 (by decide) hfl_X4_number_9 rfl rfl dX4_number_10 ?_
        refine lv_aload_n zx zb dX4_number_13 rfl (lv_at hl 0 rfl) ?_
        refine j_get hC hI hin_X4_number_X4 0 rfl rfl 3 (by decide) hfl_X4_number_22 rfl rfl dX4_number_14 ?_
        refine lv_bipush (v := nI 8) zx zb dX4_number_17 (by decide) ?_
        refine j_idiv hC (by omega) (by omega) (by omega) dX4_number_19 ?_
        rcases Nat.lt_or_ge (b + i) (8 * sz) with hc | hc
        · have hq := hLb ((b + i) / 8) (by omega)
          refine j_callVi (wr := [oC d0 4 [.ref l0, .ref u0, .ref g0, .int (nI (b + i))]]) hC hI (c_X1_get_in zl G l0 l1 700 sz ((b + i) / 8) L (by omega) (by omega) (by omega)) (cwV 1 hC.2.2.2.2.1 gX4_number_X1_get rfl rfl rfl (by decide +kernel) ⟨Nat.le_of_ble_eq_true rfl, Nat.le_of_ble_eq_true rfl⟩) [1, 2] [0] rfl rfl rfl rfl rfl rfl (q0 := 0) rfl rfl rfl hl.1 (Nat.le_of_ble_eq_true rfl) dX4_number_20 ⟨Nat.le_of_ble_eq_true rfl, Nat.le_of_ble_eq_true rfl⟩ (fun rv20 u20 H locs hp20 hI => ?_)
          have hI : jI G zA zs [oC d0 4 [.ref l0, .ref u0, .ref g0, .int (nI (b + i))], oC l0 1 [.ref l1, .int (nI sz)], aI G l1 700 L] H locs := hI
          subst hp20
          refine lv_istore (lv' := [(4, .int (nI (L ((b + i) / 8)))), (0, .ref d0), (1, .int (nI k)), (2, .int (nI (nb L b i))), (3, .int (nI i))]) zx zb dX4_number_23 hl (by decide) rfl (fun ls hl => ?_)
          refine lv_iload zx zb dX4_number_25 (lv_at hl 0 rfl) ?_
          refine lv_iconst (v := (-1)) zx zb dX4_number_27 (by decide) ?_
          refine lv_icmp_ne (tgt := 33) zx zb dX4_number_28 (by decide) (fun c28 => ?_) (fun c28 => ?_)
          · refine lv_iconst (v := nI 2) zx zb dX4_number_33 (by decide) ?_
            refine lv_iload_n zx zb dX4_number_34 rfl (lv_at hl 3 rfl) ?_
            refine j_imul hC dX4_number_35 ?_
            refine lv_iload zx zb dX4_number_36 (lv_at hl 0 rfl) ?_
            refine lv_bipush (v := nI 7) zx zb dX4_number_38 (by decide) ?_
            refine lv_aload_n zx zb dX4_number_40 rfl (lv_at hl 1 rfl) ?_
            refine j_get hC hI hin_X4_number_X4 0 rfl rfl 3 (by decide) hfl_X4_number_22 rfl rfl dX4_number_41 ?_
            refine lv_bipush (v := nI 8) zx zb dX4_number_44 (by decide) ?_
            refine j_irem hC (by omega) (by omega) (by omega) dX4_number_46 ?_
            refine j_isub hC (by omega) dX4_number_47 ?_
            refine j_ishr hC (by omega) (by omega) dX4_number_48 ?_
            refine lv_iconst (v := nI 1) zx zb dX4_number_49 (by decide) ?_
            refine j_and1 hC dX4_number_50 ?_
            refine j_iadd hC dX4_number_51 ?_
            rw [show 2 * nb L b i + L ((b + i) / 8) / 2 ^ (7 - (b + i) % 8) % 2 = nb L b (i + 1) from rfl]
            refine lv_istore_n (lv' := [(2, .int (nI ((2 * (nb L b i)) + (((L ((b + i) / 8)) / 2 ^ (7 - ((b + i) % 8))) % 2)))), (4, .int (nI (L ((b + i) / 8)))), (0, .ref d0), (1, .int (nI k)), (3, .int (nI i))]) zx zb dX4_number_52 rfl hl (by decide) rfl (fun ls hl => ?_)
            refine lv_aload_n zx zb dX4_number_53 rfl (lv_at hl 2 rfl) ?_
            refine lv_dup zx zb dX4_number_54 rfl ?_
            refine j_get hC hI hin_X4_number_X4 0 rfl rfl 3 (by decide) hfl_X4_number_22 rfl rfl dX4_number_55 ?_
            refine lv_iconst (v := nI 1) zx zb dX4_number_58 (by decide) ?_
            refine j_iadd hC dX4_number_59 ?_
            refine j_put (w1 := [oC d0 4 [.ref l0, .ref u0, .ref g0, .int (nI ((b + i) + 1))], oC l0 1 [.ref l1, .int (nI sz)], aI G l1 700 L]) hC hI hin_X4_number_X4 tyX4 tyX4_ok nmX4 0 rfl rfl 3 (by decide) hfl_X4_number_22 rfl rfl rfl rfl (Nat.le_of_ble_eq_true rfl) dX4_number_60 rfl (fun H locs hI => ?_)
            refine lv_iinc (v := nI (i + 1)) (lv' := [(3, .int (nI (i + 1))), (2, .int (nI ((2 * (nb L b i)) + (((L ((b + i) / 8)) / 2 ^ (7 - ((b + i) % 8))) % 2)))), (4, .int (nI (L ((b + i) / 8)))), (0, .ref d0), (1, .int (nI k))]) zx zb dX4_number_63 hl (k := 4) rfl (j_inc _ _ _ (by decide)) (by decide) rfl (fun ls hl => ?_)
            refine lv_goto (tgt := 4) zx zb dX4_number_66 (by decide) ?_
            exact ih4 (i + 1) (by omega) (by omega) (by omega) _ _ _ hI (lv_sub hl [3, 4, 1, 0] rfl)
          · exact absurd c28 (nI_m1 (by omega))
        · refine j_callVi (wr := [oC d0 4 [.ref l0, .ref u0, .ref g0, .int (nI (b + i))]]) hC hI (c_X1_get_out zl G l0 l1 700 sz ((b + i) / 8) L (by omega) (by omega) (by omega)) (cwV 1 hC.2.2.2.2.1 gX4_number_X1_get rfl rfl rfl (by decide +kernel) ⟨Nat.le_of_ble_eq_true rfl, Nat.le_of_ble_eq_true rfl⟩) [1, 2] [0] rfl rfl rfl rfl rfl rfl (q0 := 0) rfl rfl rfl hl.1 (Nat.le_of_ble_eq_true rfl) dX4_number_20 ⟨Nat.le_of_ble_eq_true rfl, Nat.le_of_ble_eq_true rfl⟩ (fun rv20 u20 H locs hp20 hI => ?_)
          have hI : jI G zA zs [oC d0 4 [.ref l0, .ref u0, .ref g0, .int (nI (b + i))], oC l0 1 [.ref l1, .int (nI sz)], aI G l1 700 L] H locs := hI
          subst hp20
          refine lv_istore (lv' := [(4, .int ((-1))), (0, .ref d0), (1, .int (nI k)), (2, .int (nI (nb L b i))), (3, .int (nI i))]) zx zb dX4_number_23 hl (by decide) rfl (fun ls hl => ?_)
          refine lv_iload zx zb dX4_number_25 (lv_at hl 0 rfl) ?_
          refine lv_iconst (v := (-1)) zx zb dX4_number_27 (by decide) ?_
          refine lv_icmp_ne (tgt := 33) zx zb dX4_number_28 (by decide) (fun c28 => ?_) (fun c28 => ?_)
          · exact absurd rfl c28
          · refine lv_iconst (v := (-1)) zx zb dX4_number_31 (by decide) ?_
            exact hQ _ _ _ _ _ () dX4_number_32 (hI.sub [0, 1, 2] rfl (by rw [show b + i = 8 * sz by omega]; rfl)) (by first | rfl | (congr 1; omega) | omega)
  exact loop4 _ 0 (by omega) (by omega) (Nat.lt_succ_self _) _ _ _ hI (lv_sub hl [2, 3, 1, 0] rfl)

set_option maxHeartbeats 4000000 in
set_option maxRecDepth 100000 in
theorem c_X4_numberOfClass_ok (zl : Launch) (G : jG) (d0 : Nat) (l0 : Nat) (l1 : Nat) (u0 : Nat) (g0 : Nat) (b : Nat) (sz : Nat) (L : Nat → Nat) (k : Nat) (hs : sz ≤ 700) (hLb : ∀ j, j < sz → L j < 256) (hbs : b ≤ 8 * sz) (hk : k ≤ 15) (he : b + k ≤ 8 * sz) : jMet zl yX4_numberOfClass wsX4_numberOfClass ({ frames := 2, cells := 0, slots := 0, locals := 45 }) G [oC d0 4 [.ref l0, .ref u0, .ref g0, .int (nI b)], oC l0 1 [.ref l1, .int (nI sz)], aI G l1 700 L] [.ref d0, .int (nI k)] (jQi G (fun (r : Int32) (u : Unit) => (r = nI (2 ^ k + nb L b k))) (fun (u : Unit) => [oC d0 4 [.ref l0, .ref u0, .ref g0, .int (nI (b + k))], oC l0 1 [.ref l1, .int (nI sz)], aI G l1 700 L])) 0 0 := by
  refine j_enter_i (cc := cX4_numberOfClass) (nL := 3) (nm := "numberOfClass") (own := RX4) (lv := [(0, .ref d0), (1, .int (nI k))]) (by decide) rfl (Nat.le_of_ble_eq_true rfl) rfl rfl rfl ?_
  intro zA zp ze zs zm zargs zbelow zmeth zc zQ ls hC hQ hI hl
  have zx := hC.1
  have zb := hC.2.1
  have hnb := nb_lt L b k
  have hnb2 : 2 ^ k ≤ 65536 := Nat.le_trans (Nat.pow_le_pow_right (by decide) (show k ≤ 16 by omega)) (by decide)
  refine lv_iload_n zx zb dX4_numberOfClass_0 rfl (lv_at hl 1 rfl) ?_
  refine lv_iconst (v := (-1)) zx zb dX4_numberOfClass_1 (by decide) ?_
  refine lv_icmp_ne (tgt := 7) zx zb dX4_numberOfClass_2 (by decide) (fun c2 => ?_) (fun c2 => ?_)
  · refine lv_aload_n zx zb dX4_numberOfClass_7 rfl (lv_at hl 0 rfl) ?_
    refine lv_iload_n zx zb dX4_numberOfClass_8 rfl (lv_at hl 1 rfl) ?_
    refine j_callVi (wr := []) hC hI (c_X4_number_ok zl G d0 l0 l1 u0 g0 b sz L k (by omega) (by omega) (by omega) (by omega) (by omega)) (cwV 1 hC.2.2.2.2.1 gX4_numberOfClass_X4_number rfl rfl rfl (by decide +kernel) ⟨Nat.le_of_ble_eq_true rfl, Nat.le_of_ble_eq_true rfl⟩) [0, 1, 2] [] rfl rfl rfl rfl rfl rfl (q0 := 0) rfl rfl rfl hl.1 (Nat.le_of_ble_eq_true rfl) dX4_numberOfClass_9 ⟨Nat.le_of_ble_eq_true rfl, Nat.le_of_ble_eq_true rfl⟩ (fun rv9 u9 H locs hp9 hI => ?_)
    have hI : jI G zA zs [oC d0 4 [.ref l0, .ref u0, .ref g0, .int (nI (b + k))], oC l0 1 [.ref l1, .int (nI sz)], aI G l1 700 L] H locs := hI
    subst hp9
    refine lv_istore_n (lv' := [(2, .int (nI (nb L b k))), (0, .ref d0), (1, .int (nI k))]) zx zb dX4_numberOfClass_12 rfl hl (by decide) rfl (fun ls hl => ?_)
    refine lv_iload_n zx zb dX4_numberOfClass_13 rfl (lv_at hl 0 rfl) ?_
    refine lv_iconst (v := (-1)) zx zb dX4_numberOfClass_14 (by decide) ?_
    refine lv_icmp_ne (tgt := 22) zx zb dX4_numberOfClass_15 (by decide) (fun c15 => ?_) (fun c15 => ?_)
    · refine lv_iconst (v := nI 1) zx zb dX4_numberOfClass_22 (by decide) ?_
      refine lv_iload_n zx zb dX4_numberOfClass_23 rfl (lv_at hl 2 rfl) ?_
      refine j_ishl1 hC (by omega) dX4_numberOfClass_24 ?_
      refine lv_iload_n zx zb dX4_numberOfClass_25 rfl (lv_at hl 0 rfl) ?_
      refine j_iadd hC dX4_numberOfClass_26 ?_
      exact hQ _ _ _ _ _ () dX4_numberOfClass_27 (hI.sub [0, 1, 2] rfl rfl) (by first | rfl | (congr 1; omega) | omega)
    · exact absurd c15 (nI_m1 (by omega))
  · exact absurd c2 (nI_m1 (by omega))

set_option maxHeartbeats 4000000 in
set_option maxRecDepth 100000 in
theorem c_X4_numberOfClass_end (zl : Launch) (G : jG) (d0 : Nat) (l0 : Nat) (l1 : Nat) (u0 : Nat) (g0 : Nat) (b : Nat) (sz : Nat) (L : Nat → Nat) (k : Nat) (hs : sz ≤ 700) (hLb : ∀ j, j < sz → L j < 256) (hbs : b ≤ 8 * sz) (hk : k ≤ 15) (he : 8 * sz < b + k) : jMet zl yX4_numberOfClass wsX4_numberOfClass ({ frames := 2, cells := 0, slots := 0, locals := 45 }) G [oC d0 4 [.ref l0, .ref u0, .ref g0, .int (nI b)], oC l0 1 [.ref l1, .int (nI sz)], aI G l1 700 L] [.ref d0, .int (nI k)] (jQi G (fun (r : Int32) (u : Unit) => (r = -1)) (fun (u : Unit) => [oC d0 4 [.ref l0, .ref u0, .ref g0, .int (nI (8 * sz))], oC l0 1 [.ref l1, .int (nI sz)], aI G l1 700 L])) 0 0 := by
  refine j_enter_i (cc := cX4_numberOfClass) (nL := 3) (nm := "numberOfClass") (own := RX4) (lv := [(0, .ref d0), (1, .int (nI k))]) (by decide) rfl (Nat.le_of_ble_eq_true rfl) rfl rfl rfl ?_
  intro zA zp ze zs zm zargs zbelow zmeth zc zQ ls hC hQ hI hl
  have zx := hC.1
  have zb := hC.2.1
  refine lv_iload_n zx zb dX4_numberOfClass_0 rfl (lv_at hl 1 rfl) ?_
  refine lv_iconst (v := (-1)) zx zb dX4_numberOfClass_1 (by decide) ?_
  refine lv_icmp_ne (tgt := 7) zx zb dX4_numberOfClass_2 (by decide) (fun c2 => ?_) (fun c2 => ?_)
  · refine lv_aload_n zx zb dX4_numberOfClass_7 rfl (lv_at hl 0 rfl) ?_
    refine lv_iload_n zx zb dX4_numberOfClass_8 rfl (lv_at hl 1 rfl) ?_
    refine j_callVi (wr := []) hC hI (c_X4_number_end zl G d0 l0 l1 u0 g0 b sz L k (by omega) (by omega) (by omega) (by omega) (by omega)) (cwV 1 hC.2.2.2.2.1 gX4_numberOfClass_X4_number rfl rfl rfl (by decide +kernel) ⟨Nat.le_of_ble_eq_true rfl, Nat.le_of_ble_eq_true rfl⟩) [0, 1, 2] [] rfl rfl rfl rfl rfl rfl (q0 := 0) rfl rfl rfl hl.1 (Nat.le_of_ble_eq_true rfl) dX4_numberOfClass_9 ⟨Nat.le_of_ble_eq_true rfl, Nat.le_of_ble_eq_true rfl⟩ (fun rv9 u9 H locs hp9 hI => ?_)
    have hI : jI G zA zs [oC d0 4 [.ref l0, .ref u0, .ref g0, .int (nI (8 * sz))], oC l0 1 [.ref l1, .int (nI sz)], aI G l1 700 L] H locs := hI
    subst hp9
    refine lv_istore_n (lv' := [(2, .int ((-1))), (0, .ref d0), (1, .int (nI k))]) zx zb dX4_numberOfClass_12 rfl hl (by decide) rfl (fun ls hl => ?_)
    refine lv_iload_n zx zb dX4_numberOfClass_13 rfl (lv_at hl 0 rfl) ?_
    refine lv_iconst (v := (-1)) zx zb dX4_numberOfClass_14 (by decide) ?_
    refine lv_icmp_ne (tgt := 22) zx zb dX4_numberOfClass_15 (by decide) (fun c15 => ?_) (fun c15 => ?_)
    · exact absurd rfl c15
    · refine lv_iconst (v := (-1)) zx zb dX4_numberOfClass_18 (by decide) ?_
      refine lv_goto (tgt := 27) zx zb dX4_numberOfClass_19 (by decide) ?_
      exact hQ _ _ _ _ _ () dX4_numberOfClass_27 (hI.sub [0, 1, 2] rfl rfl) (by first | rfl | (congr 1; omega) | omega)
  · exact absurd c2 (nI_m1 (by omega))

set_option maxHeartbeats 4000000 in
set_option maxRecDepth 100000 in
theorem c_X4_numberOfClass_none (zl : Launch) (G : jG) (d0 : Nat) (l0 : Nat) (u0 : Nat) (g0 : Nat) (b : Nat)  : jMet zl yX4_numberOfClass wsX4_numberOfClass ({ frames := 0, cells := 0, slots := 0, locals := 0 }) G [oC d0 4 [.ref l0, .ref u0, .ref g0, .int (nI b)]] [.ref d0, .int ((-1))] (jQi G (fun (r : Int32) (u : Unit) => (r = -1)) (fun (u : Unit) => [oC d0 4 [.ref l0, .ref u0, .ref g0, .int (nI b)]])) 0 0 := by
  refine j_enter_i (cc := cX4_numberOfClass) (nL := 3) (nm := "numberOfClass") (own := RX4) (lv := [(0, .ref d0), (1, .int ((-1)))]) (by decide) rfl (Nat.le_of_ble_eq_true rfl) rfl rfl rfl ?_
  intro zA zp ze zs zm zargs zbelow zmeth zc zQ ls hC hQ hI hl
  have zx := hC.1
  have zb := hC.2.1
  refine lv_iload_n zx zb dX4_numberOfClass_0 rfl (lv_at hl 1 rfl) ?_
  refine lv_iconst (v := (-1)) zx zb dX4_numberOfClass_1 (by decide) ?_
  refine lv_icmp_ne (tgt := 7) zx zb dX4_numberOfClass_2 (by decide) (fun c2 => ?_) (fun c2 => ?_)
  · exact absurd rfl c2
  · refine lv_iconst (v := (-1)) zx zb dX4_numberOfClass_5 (by decide) ?_
    exact hQ _ _ _ _ _ () dX4_numberOfClass_6 (hI.sub [0] rfl rfl) (by first | rfl | (congr 1; omega) | omega)

set_option maxHeartbeats 4000000 in
set_option maxRecDepth 100000 in
theorem c_X4_countZeros_ok (zl : Launch) (G : jG) (d0 : Nat) (l0 : Nat) (l1 : Nat) (u0 : Nat) (g0 : Nat) (b : Nat) (sz : Nat) (L : Nat → Nat) (z : Nat) (hs : sz ≤ 700) (hLb : ∀ j, j < sz → L j < 256) (hbs : b ≤ 8 * sz) (hz : zer L b (min 9 (8 * sz - b)) = z) (hz9 : z < min 9 (8 * sz - b)) : jMet zl yX4_countZeros wsX4_countZeros ({ frames := 2, cells := 0, slots := 0, locals := 45 }) G [oC d0 4 [.ref l0, .ref u0, .ref g0, .int (nI b)], oC l0 1 [.ref l1, .int (nI sz)], aI G l1 700 L] [.ref d0] (jQi G (fun (r : Int32) (u : Unit) => (r = nI z)) (fun (u : Unit) => [oC d0 4 [.ref l0, .ref u0, .ref g0, .int (nI (b + z + 1))], oC l0 1 [.ref l1, .int (nI sz)], aI G l1 700 L])) 0 0 := by
  refine j_enter_i (cc := cX4_countZeros) (nL := 3) (nm := "countZeros") (own := RX4) (lv := [(0, .ref d0)]) (by decide) rfl (Nat.le_of_ble_eq_true rfl) rfl rfl rfl ?_
  intro zA zp ze zs zm zargs zbelow zmeth zc zQ ls hC hQ hI hl
  have zx := hC.1
  have zb := hC.2.1
  refine lv_iconst (v := nI 0) zx zb dX4_countZeros_0 (by decide) ?_
  refine lv_istore_n (lv' := [(1, .int (nI 0)), (0, .ref d0)]) zx zb dX4_countZeros_1 rfl hl (by decide) rfl (fun ls hl => ?_)
  have loop2 : ∀ (zn2 : Nat) (i : Nat), (i ≤ z) → (∀ j, j < i → bitAt L (b + j) = 0) → (10 - i) < zn2 → ∀ (H : Heap) (locs : List Loc) (ls : Array Slot), jI G zA zs [oC d0 4 [.ref l0, .ref u0, .ref g0, .int (nI (b + i))], oC l0 1 [.ref l1, .int (nI sz)], aI G l1 700 L] H locs → lv_has ls 3 [(0, .ref d0), (1, .int (nI i))] → W zp zl ze ({ frames := 2, cells := 0, slots := 0, locals := 45 }) zs zm zargs zbelow zmeth zc H locs 0 0 zQ (F0 zm 2 ls []) := by
    intro zn2
    induction zn2 with
    | zero => intros; omega
    | succ zn2 ih2 =>
      intro i hi h0 zm2 H locs ls hI hl
      have hzl := zer_le L (min 9 (8 * sz - b)) b
      refine lv_iload_n zx zb dX4_countZeros_2 rfl (lv_at hl 1 rfl) ?_
      refine lv_bipush (v := nI 9) zx zb dX4_countZeros_3 (by decide) ?_
      refine j_icmp_ge (tgt := 35) hC dX4_countZeros_5 (by decide) (by omega) (by omega) (fun c5 => ?_) (fun c5 => ?_)
      · exact (by omega : False).elim
      · refine lv_aload_n zx zb dX4_countZeros_8 rfl (lv_at hl 0 rfl) ?_
        refine lv_iconst (v := nI 1) zx zb dX4_countZeros_9 (by decide) ?_
        refine j_callVi (wr := []) hC hI (c_X4_number_ok zl G d0 l0 l1 u0 g0 (b + i) sz L 1 (by omega) (by omega) (by omega) (by omega) (by omega)) (cwV 1 hC.2.2.2.2.1 gX4_countZeros_X4_number rfl rfl rfl (by decide +kernel) ⟨Nat.le_of_ble_eq_true rfl, Nat.le_of_ble_eq_true rfl⟩) [0, 1, 2] [] rfl rfl rfl rfl rfl rfl (q0 := 0) rfl rfl rfl hl.1 (Nat.le_of_ble_eq_true rfl) dX4_countZeros_10 ⟨Nat.le_of_ble_eq_true rfl, Nat.le_of_ble_eq_true rfl⟩ (fun rv10 u10 H locs hp10 hI => ?_)
        have hI : jI G zA zs [oC d0 4 [.ref l0, .ref u0, .ref g0, .int (nI ((b + i) + 1))], oC l0 1 [.ref l1, .int (nI sz)], aI G l1 700 L] H locs := hI
        subst hp10
        rw [show nb L (b + i) 1 = bitAt L (b + i) by rw [nb, nb]; simp]
        have hbl := bitAt_le L (b + i)
        refine lv_istore_n (lv' := [(2, .int (nI (bitAt L (b + i)))), (0, .ref d0), (1, .int (nI i))]) zx zb dX4_countZeros_13 rfl hl (by decide) rfl (fun ls hl => ?_)
        refine lv_iload_n zx zb dX4_countZeros_14 rfl (lv_at hl 0 rfl) ?_
        refine j_if_eq (tgt := 29) hC dX4_countZeros_15 (by decide) (by omega) (fun c15 => ?_) (fun c15 => ?_)
        · have hiz : i < z := zc_lt hz hz9 hi c15
          refine lv_iinc (v := nI (i + 1)) (lv' := [(1, .int (nI (i + 1))), (2, .int (nI (bitAt L (b + i)))), (0, .ref d0)]) zx zb dX4_countZeros_29 hl (k := 2) rfl (j_inc _ _ _ (by decide)) (by decide) rfl (fun ls hl => ?_)
          refine lv_goto (tgt := 2) zx zb dX4_countZeros_32 (by decide) ?_
          exact ih2 (i + 1) (by omega) (fun j h => zer_0 (k := min 9 (8 * sz - b)) (by omega)) (by omega) _ _ _ hI (lv_sub hl [2, 0] rfl)
        · have hiz : i = z := by rcases Nat.lt_or_ge i z with q | q; exact absurd (zer_0 (k := min 9 (8 * sz - b)) (by omega)) c15; omega
          refine lv_iload_n zx zb dX4_countZeros_18 rfl (lv_at hl 0 rfl) ?_
          refine lv_iconst (v := (-1)) zx zb dX4_countZeros_19 (by decide) ?_
          refine lv_icmp_ne (tgt := 27) zx zb dX4_countZeros_20 (by decide) (fun c20 => ?_) (fun c20 => ?_)
          · refine lv_iload_n zx zb dX4_countZeros_27 rfl (lv_at hl 2 rfl) ?_
            subst hiz
            exact hQ _ _ _ _ _ () dX4_countZeros_28 (hI.sub [0, 1, 2] rfl rfl) (by first | rfl | (congr 1; omega) | omega)
          · exact absurd c20 (nI_m1 (by omega))
  exact loop2 _ 0 (by omega) (fun j h => by omega) (Nat.lt_succ_self _) _ _ _ hI (lv_sub hl [1, 0] rfl)

set_option maxHeartbeats 4000000 in
set_option maxRecDepth 100000 in
theorem c_X4_countZeros_end (zl : Launch) (G : jG) (d0 : Nat) (l0 : Nat) (l1 : Nat) (u0 : Nat) (g0 : Nat) (b : Nat) (sz : Nat) (L : Nat → Nat) (z : Nat) (hs : sz ≤ 700) (hLb : ∀ j, j < sz → L j < 256) (hbs : b ≤ 8 * sz) (hz : zer L b (min 9 (8 * sz - b)) = z) (hz9 : z = 8 * sz - b ∧ z < 9) : jMet zl yX4_countZeros wsX4_countZeros ({ frames := 2, cells := 0, slots := 0, locals := 45 }) G [oC d0 4 [.ref l0, .ref u0, .ref g0, .int (nI b)], oC l0 1 [.ref l1, .int (nI sz)], aI G l1 700 L] [.ref d0] (jQi G (fun (r : Int32) (u : Unit) => (r = -1)) (fun (u : Unit) => [oC d0 4 [.ref l0, .ref u0, .ref g0, .int (nI (8 * sz))], oC l0 1 [.ref l1, .int (nI sz)], aI G l1 700 L])) 0 0 := by
  refine j_enter_i (cc := cX4_countZeros) (nL := 3) (nm := "countZeros") (own := RX4) (lv := [(0, .ref d0)]) (by decide) rfl (Nat.le_of_ble_eq_true rfl) rfl rfl rfl ?_
  intro zA zp ze zs zm zargs zbelow zmeth zc zQ ls hC hQ hI hl
  have zx := hC.1
  have zb := hC.2.1
  refine lv_iconst (v := nI 0) zx zb dX4_countZeros_0 (by decide) ?_
  refine lv_istore_n (lv' := [(1, .int (nI 0)), (0, .ref d0)]) zx zb dX4_countZeros_1 rfl hl (by decide) rfl (fun ls hl => ?_)
  have loop2 : ∀ (zn2 : Nat) (i : Nat), (i ≤ z) → (∀ j, j < i → bitAt L (b + j) = 0) → (10 - i) < zn2 → ∀ (H : Heap) (locs : List Loc) (ls : Array Slot), jI G zA zs [oC d0 4 [.ref l0, .ref u0, .ref g0, .int (nI (b + i))], oC l0 1 [.ref l1, .int (nI sz)], aI G l1 700 L] H locs → lv_has ls 3 [(0, .ref d0), (1, .int (nI i))] → W zp zl ze ({ frames := 2, cells := 0, slots := 0, locals := 45 }) zs zm zargs zbelow zmeth zc H locs 0 0 zQ (F0 zm 2 ls []) := by
    intro zn2
    induction zn2 with
    | zero => intros; omega
    | succ zn2 ih2 =>
      intro i hi h0 zm2 H locs ls hI hl
      have hzl := zer_le L (min 9 (8 * sz - b)) b
      refine lv_iload_n zx zb dX4_countZeros_2 rfl (lv_at hl 1 rfl) ?_
      refine lv_bipush (v := nI 9) zx zb dX4_countZeros_3 (by decide) ?_
      refine j_icmp_ge (tgt := 35) hC dX4_countZeros_5 (by decide) (by omega) (by omega) (fun c5 => ?_) (fun c5 => ?_)
      · exact (by omega : False).elim
      · refine lv_aload_n zx zb dX4_countZeros_8 rfl (lv_at hl 0 rfl) ?_
        refine lv_iconst (v := nI 1) zx zb dX4_countZeros_9 (by decide) ?_
        rcases Nat.lt_or_ge i z with hc | hc
        · refine j_callVi (wr := []) hC hI (c_X4_number_ok zl G d0 l0 l1 u0 g0 (b + i) sz L 1 (by omega) (by omega) (by omega) (by omega) (by omega)) (cwV 1 hC.2.2.2.2.1 gX4_countZeros_X4_number rfl rfl rfl (by decide +kernel) ⟨Nat.le_of_ble_eq_true rfl, Nat.le_of_ble_eq_true rfl⟩) [0, 1, 2] [] rfl rfl rfl rfl rfl rfl (q0 := 0) rfl rfl rfl hl.1 (Nat.le_of_ble_eq_true rfl) dX4_countZeros_10 ⟨Nat.le_of_ble_eq_true rfl, Nat.le_of_ble_eq_true rfl⟩ (fun rv10 u10 H locs hp10 hI => ?_)
          have hI : jI G zA zs [oC d0 4 [.ref l0, .ref u0, .ref g0, .int (nI ((b + i) + 1))], oC l0 1 [.ref l1, .int (nI sz)], aI G l1 700 L] H locs := hI
          subst hp10
          rw [show nb L (b + i) 1 = bitAt L (b + i) by rw [nb, nb]; simp]
          have hb0 : bitAt L (b + i) = 0 := zer_0 (k := min 9 (8 * sz - b)) (by omega)
          refine lv_istore_n (lv' := [(2, .int (nI (bitAt L (b + i)))), (0, .ref d0), (1, .int (nI i))]) zx zb dX4_countZeros_13 rfl hl (by decide) rfl (fun ls hl => ?_)
          refine lv_iload_n zx zb dX4_countZeros_14 rfl (lv_at hl 0 rfl) ?_
          refine j_if_eq (tgt := 29) hC dX4_countZeros_15 (by decide) (by omega) (fun c15 => ?_) (fun c15 => ?_)
          · refine lv_iinc (v := nI (i + 1)) (lv' := [(1, .int (nI (i + 1))), (2, .int (nI (bitAt L (b + i)))), (0, .ref d0)]) zx zb dX4_countZeros_29 hl (k := 2) rfl (j_inc _ _ _ (by decide)) (by decide) rfl (fun ls hl => ?_)
            refine lv_goto (tgt := 2) zx zb dX4_countZeros_32 (by decide) ?_
            exact ih2 (i + 1) (by omega) (fun j h => zer_0 (k := min 9 (8 * sz - b)) (by omega)) (by omega) _ _ _ hI (lv_sub hl [2, 0] rfl)
          · exact (by omega : False).elim
        · refine j_callVi (wr := []) hC hI (c_X4_number_end zl G d0 l0 l1 u0 g0 (b + i) sz L 1 (by omega) (by omega) (by omega) (by omega) (by omega)) (cwV 1 hC.2.2.2.2.1 gX4_countZeros_X4_number rfl rfl rfl (by decide +kernel) ⟨Nat.le_of_ble_eq_true rfl, Nat.le_of_ble_eq_true rfl⟩) [0, 1, 2] [] rfl rfl rfl rfl rfl rfl (q0 := 0) rfl rfl rfl hl.1 (Nat.le_of_ble_eq_true rfl) dX4_countZeros_10 ⟨Nat.le_of_ble_eq_true rfl, Nat.le_of_ble_eq_true rfl⟩ (fun rv10 u10 H locs hp10 hI => ?_)
          have hI : jI G zA zs [oC d0 4 [.ref l0, .ref u0, .ref g0, .int (nI (8 * sz))], oC l0 1 [.ref l1, .int (nI sz)], aI G l1 700 L] H locs := hI
          subst hp10
          refine lv_istore_n (lv' := [(2, .int ((-1))), (0, .ref d0), (1, .int (nI i))]) zx zb dX4_countZeros_13 rfl hl (by decide) rfl (fun ls hl => ?_)
          refine lv_iload_n zx zb dX4_countZeros_14 rfl (lv_at hl 0 rfl) ?_
          refine lv_if_eq (tgt := 29) zx zb dX4_countZeros_15 (by decide) (fun c15 => ?_) (fun c15 => ?_)
          · exact absurd c15 (by decide)
          · refine lv_iload_n zx zb dX4_countZeros_18 rfl (lv_at hl 0 rfl) ?_
            refine lv_iconst (v := (-1)) zx zb dX4_countZeros_19 (by decide) ?_
            refine lv_icmp_ne (tgt := 27) zx zb dX4_countZeros_20 (by decide) (fun c20 => ?_) (fun c20 => ?_)
            · exact absurd rfl c20
            · refine lv_iconst (v := (-1)) zx zb dX4_countZeros_23 (by decide) ?_
              refine lv_goto (tgt := 28) zx zb dX4_countZeros_24 (by decide) ?_
              exact hQ _ _ _ _ _ () dX4_countZeros_28 (hI.sub [0, 1, 2] rfl rfl) (by first | rfl | (congr 1; omega) | omega)
  exact loop2 _ 0 (by omega) (fun j h => by omega) (Nat.lt_succ_self _) _ _ _ hI (lv_sub hl [1, 0] rfl)

set_option maxHeartbeats 4000000 in
set_option maxRecDepth 100000 in
theorem c_X4_countZeros_nine (zl : Launch) (G : jG) (d0 : Nat) (l0 : Nat) (l1 : Nat) (u0 : Nat) (g0 : Nat) (b : Nat) (sz : Nat) (L : Nat → Nat) (z : Nat) (hs : sz ≤ 700) (hLb : ∀ j, j < sz → L j < 256) (hbs : b ≤ 8 * sz) (hz : zer L b (min 9 (8 * sz - b)) = z) (hz9 : z = 9) : jMet zl yX4_countZeros wsX4_countZeros ({ frames := 2, cells := 0, slots := 0, locals := 45 }) G [oC d0 4 [.ref l0, .ref u0, .ref g0, .int (nI b)], oC l0 1 [.ref l1, .int (nI sz)], aI G l1 700 L] [.ref d0] (jQi G (fun (r : Int32) (u : Unit) => (r = nI 9)) (fun (u : Unit) => [oC d0 4 [.ref l0, .ref u0, .ref g0, .int (nI (b + 9))], oC l0 1 [.ref l1, .int (nI sz)], aI G l1 700 L])) 0 0 := by
  refine j_enter_i (cc := cX4_countZeros) (nL := 3) (nm := "countZeros") (own := RX4) (lv := [(0, .ref d0)]) (by decide) rfl (Nat.le_of_ble_eq_true rfl) rfl rfl rfl ?_
  intro zA zp ze zs zm zargs zbelow zmeth zc zQ ls hC hQ hI hl
  have zx := hC.1
  have zb := hC.2.1
  refine lv_iconst (v := nI 0) zx zb dX4_countZeros_0 (by decide) ?_
  refine lv_istore_n (lv' := [(1, .int (nI 0)), (0, .ref d0)]) zx zb dX4_countZeros_1 rfl hl (by decide) rfl (fun ls hl => ?_)
  have loop2 : ∀ (zn2 : Nat) (i : Nat), (i ≤ z) → (∀ j, j < i → bitAt L (b + j) = 0) → (10 - i) < zn2 → ∀ (H : Heap) (locs : List Loc) (ls : Array Slot), jI G zA zs [oC d0 4 [.ref l0, .ref u0, .ref g0, .int (nI (b + i))], oC l0 1 [.ref l1, .int (nI sz)], aI G l1 700 L] H locs → lv_has ls 3 [(0, .ref d0), (1, .int (nI i))] → W zp zl ze ({ frames := 2, cells := 0, slots := 0, locals := 45 }) zs zm zargs zbelow zmeth zc H locs 0 0 zQ (F0 zm 2 ls []) := by
    intro zn2
    induction zn2 with
    | zero => intros; omega
    | succ zn2 ih2 =>
      intro i hi h0 zm2 H locs ls hI hl
      have hzl := zer_le L (min 9 (8 * sz - b)) b
      refine lv_iload_n zx zb dX4_countZeros_2 rfl (lv_at hl 1 rfl) ?_
      refine lv_bipush (v := nI 9) zx zb dX4_countZeros_3 (by decide) ?_
      refine j_icmp_ge (tgt := 35) hC dX4_countZeros_5 (by decide) (by omega) (by omega) (fun c5 => ?_) (fun c5 => ?_)
      · refine lv_bipush (v := nI 9) zx zb dX4_countZeros_35 (by decide) ?_
        exact hQ _ _ _ _ _ () dX4_countZeros_37 (hI.sub [0, 1, 2] rfl (by rw [show i = 9 by omega]; rfl)) (by first | rfl | (congr 1; omega) | omega)
      · refine lv_aload_n zx zb dX4_countZeros_8 rfl (lv_at hl 0 rfl) ?_
        refine lv_iconst (v := nI 1) zx zb dX4_countZeros_9 (by decide) ?_
        refine j_callVi (wr := []) hC hI (c_X4_number_ok zl G d0 l0 l1 u0 g0 (b + i) sz L 1 (by omega) (by omega) (by omega) (by omega) (by omega)) (cwV 1 hC.2.2.2.2.1 gX4_countZeros_X4_number rfl rfl rfl (by decide +kernel) ⟨Nat.le_of_ble_eq_true rfl, Nat.le_of_ble_eq_true rfl⟩) [0, 1, 2] [] rfl rfl rfl rfl rfl rfl (q0 := 0) rfl rfl rfl hl.1 (Nat.le_of_ble_eq_true rfl) dX4_countZeros_10 ⟨Nat.le_of_ble_eq_true rfl, Nat.le_of_ble_eq_true rfl⟩ (fun rv10 u10 H locs hp10 hI => ?_)
        have hI : jI G zA zs [oC d0 4 [.ref l0, .ref u0, .ref g0, .int (nI ((b + i) + 1))], oC l0 1 [.ref l1, .int (nI sz)], aI G l1 700 L] H locs := hI
        subst hp10
        rw [show nb L (b + i) 1 = bitAt L (b + i) by rw [nb, nb]; simp]
        have hbl := bitAt_le L (b + i)
        have hb0 : bitAt L (b + i) = 0 := zer_0 (k := min 9 (8 * sz - b)) (by omega)
        refine lv_istore_n (lv' := [(2, .int (nI (bitAt L (b + i)))), (0, .ref d0), (1, .int (nI i))]) zx zb dX4_countZeros_13 rfl hl (by decide) rfl (fun ls hl => ?_)
        refine lv_iload_n zx zb dX4_countZeros_14 rfl (lv_at hl 0 rfl) ?_
        refine j_if_eq (tgt := 29) hC dX4_countZeros_15 (by decide) (by omega) (fun c15 => ?_) (fun c15 => ?_)
        · refine lv_iinc (v := nI (i + 1)) (lv' := [(1, .int (nI (i + 1))), (2, .int (nI (bitAt L (b + i)))), (0, .ref d0)]) zx zb dX4_countZeros_29 hl (k := 2) rfl (j_inc _ _ _ (by decide)) (by decide) rfl (fun ls hl => ?_)
          refine lv_goto (tgt := 2) zx zb dX4_countZeros_32 (by decide) ?_
          exact ih2 (i + 1) (by omega) (fun j h => zer_0 (k := min 9 (8 * sz - b)) (by omega)) (by omega) _ _ _ hI (lv_sub hl [2, 0] rfl)
        · exact (by omega : False).elim
  exact loop2 _ 0 (by omega) (fun j h => by omega) (Nat.lt_succ_self _) _ _ _ hI (lv_sub hl [1, 0] rfl)

theorem hin_X4_readMatch_X4 : ∀ w ∈ wsX40, w ∈ wsX4_readMatch := by decide +kernel
theorem hfl_X4_readMatch_15 : Cond.fieldLink RX4 15 "CheapParse$Reader" "rules" "LCheapParse$Rules;" ∈ wsX4_readMatch := by decide +kernel
theorem hfl_X4_readMatch_19 : Cond.fieldLink RX4 19 "CheapParse$Reader" "made" "LCheapParse$Bytes;" ∈ wsX4_readMatch := by decide +kernel
set_option maxHeartbeats 4000000 in
set_option maxRecDepth 100000 in
theorem c_X4_readMatch (zl : Launch) (G : jG) (d0 : Nat) (l0 : Nat) (l1 : Nat) (u0 : Nat) (g0 : Nat) (g1 : Nat) (b : Nat) (sz : Nat) (L : Nat → Nat) (la : Nat) (lm : Nat) (lw : Nat) (all : Nat) (m : Nat) (f : Nat → Nat) (hs : sz ≤ 700) (hLb : ∀ j, j < sz → L j < 256) (hbs : b ≤ 8 * sz) (hl0 : 1 ≤ la ∧ la ≤ lm ∧ lm ≤ 255 ∧ lw ≤ 500) (hall : m ≤ all ∧ all ≤ 500) (hf : ∀ j, j < m → f j < 256) : jMet zl yX4_readMatch wsX4_readMatch ({ frames := 3, cells := 0, slots := 0, locals := 67 }) G [oC d0 4 [.ref l0, .ref u0, .ref g0, .int (nI b)], oC l0 1 [.ref l1, .int (nI sz)], aI G l1 700 L, oC g0 1 [.ref g1, .int (nI m)], aI G g1 500 f, oC u0 5 [.int (nI la), .int (nI lm), .int (nI lw)]] [.ref d0, .int (nI all)] (jQi G (fun (r : Int32) (u : Nat × Nat × (Nat → Nat)) => (r = nI ((rdM L (8 * sz) la lm lw all b m f).1)) ∧ (u.1 ≤ 8 * sz ∧ u.2.1 ≤ all ∧ m ≤ u.2.1) ∧ ((rdM L (8 * sz) la lm lw all b m f).1 = 0 → u.1 = (rdM L (8 * sz) la lm lw all b m f).2.1 ∧ u.2.1 = (rdM L (8 * sz) la lm lw all b m f).2.2.1 ∧ u.2.2 = (rdM L (8 * sz) la lm lw all b m f).2.2.2) ∧ (∀ j, j < u.2.1 → u.2.2 j < 256)) (fun (u : Nat × Nat × (Nat → Nat)) => [oC d0 4 [.ref l0, .ref u0, .ref g0, .int (nI u.1)], oC l0 1 [.ref l1, .int (nI sz)], aI G l1 700 L, oC g0 1 [.ref g1, .int (nI u.2.1)], aI G g1 500 u.2.2, oC u0 5 [.int (nI la), .int (nI lm), .int (nI lw)]])) 0 0 := by
  refine j_enter_i (cc := cX4_readMatch) (nL := 6) (nm := "readMatch") (own := RX4) (lv := [(0, .ref d0), (1, .int (nI all))]) (by decide) rfl (Nat.le_of_ble_eq_true rfl) rfl rfl rfl ?_
  intro zA zp ze zs zm zargs zbelow zmeth zc zQ ls hC hQ hI hl
  have zx := hC.1
  have zb := hC.2.1
  have hzl := zer_le L (min 9 (8 * sz - b)) b
  refine lv_aload_n zx zb dX4_readMatch_0 rfl (lv_at hl 0 rfl) ?_
  rcases zr3 L hbs with ⟨z, hz, hz9⟩ | ⟨z, hz, hz9⟩ | ⟨z, hz, hz9⟩
  · refine j_callVi (wr := [oC g0 1 [.ref g1, .int (nI m)], aI G g1 500 f, oC u0 5 [.int (nI la), .int (nI lm), .int (nI lw)]]) hC hI (c_X4_countZeros_ok zl G d0 l0 l1 u0 g0 b sz L z (by omega) (by omega) (by omega) (by omega) (by omega)) (cwV 0 hC.2.2.2.2.1 gX4_readMatch_X4_countZeros rfl rfl rfl (by decide +kernel) ⟨Nat.le_of_ble_eq_true rfl, Nat.le_of_ble_eq_true rfl⟩) [0, 1, 2] [3, 4, 5] rfl rfl rfl rfl rfl rfl (q0 := 0) rfl rfl rfl hl.1 (Nat.le_of_ble_eq_true rfl) dX4_readMatch_1 ⟨Nat.le_of_ble_eq_true rfl, Nat.le_of_ble_eq_true rfl⟩ (fun rv1 u1 H locs hp1 hI => ?_)
    have hI : jI G zA zs [oC g0 1 [.ref g1, .int (nI m)], aI G g1 500 f, oC u0 5 [.int (nI la), .int (nI lm), .int (nI lw)], oC d0 4 [.ref l0, .ref u0, .ref g0, .int (nI (b + z + 1))], oC l0 1 [.ref l1, .int (nI sz)], aI G l1 700 L] H locs := hI
    subst hp1
    refine lv_istore_n (lv' := [(2, .int (nI z)), (0, .ref d0), (1, .int (nI all))]) zx zb dX4_readMatch_4 rfl hl (by decide) rfl (fun ls hl => ?_)
    refine lv_iload_n zx zb dX4_readMatch_5 rfl (lv_at hl 0 rfl) ?_
    refine lv_bipush (v := nI 9) zx zb dX4_readMatch_6 (by decide) ?_
    refine j_icmp_ne (tgt := 13) hC dX4_readMatch_8 (by decide) (by omega) (by omega) (fun c8 => ?_) (fun c8 => ?_)
    · refine lv_aload_n zx zb dX4_readMatch_13 rfl (lv_at hl 1 rfl) ?_
      refine lv_iload_n zx zb dX4_readMatch_14 rfl (lv_at hl 0 rfl) ?_
      rcases Nat.lt_or_ge (8 * sz) (b + z + 1 + z) with hc | hc
      · refine j_callVi (wr := [oC g0 1 [.ref g1, .int (nI m)], aI G g1 500 f, oC u0 5 [.int (nI la), .int (nI lm), .int (nI lw)]]) hC hI (c_X4_numberOfClass_end zl G d0 l0 l1 u0 g0 (b + z + 1) sz L z (by omega) (by omega) (by omega) (by omega) (by omega)) (cwV 1 hC.2.2.2.2.1 gX4_readMatch_X4_numberOfClass rfl rfl rfl (by decide +kernel) ⟨Nat.le_of_ble_eq_true rfl, Nat.le_of_ble_eq_true rfl⟩) [3, 4, 5] [0, 1, 2] rfl rfl rfl rfl rfl rfl (q0 := 0) rfl rfl rfl hl.1 (Nat.le_of_ble_eq_true rfl) dX4_readMatch_15 ⟨Nat.le_of_ble_eq_true rfl, Nat.le_of_ble_eq_true rfl⟩ (fun rv15 u15 H locs hp15 hI => ?_)
        have hI : jI G zA zs [oC g0 1 [.ref g1, .int (nI m)], aI G g1 500 f, oC u0 5 [.int (nI la), .int (nI lm), .int (nI lw)], oC d0 4 [.ref l0, .ref u0, .ref g0, .int (nI (8 * sz))], oC l0 1 [.ref l1, .int (nI sz)], aI G l1 700 L] H locs := hI
        subst hp15
        refine lv_istore_n (lv' := [(3, .int ((-1))), (2, .int (nI z)), (0, .ref d0), (1, .int (nI all))]) zx zb dX4_readMatch_18 rfl hl (by decide) rfl (fun ls hl => ?_)
        refine lv_iload_n zx zb dX4_readMatch_19 rfl (lv_at hl 0 rfl) ?_
        refine lv_iconst (v := (-1)) zx zb dX4_readMatch_20 (by decide) ?_
        refine lv_icmp_ne (tgt := 26) zx zb dX4_readMatch_21 (by decide) (fun c21 => ?_) (fun c21 => ?_)
        · exact absurd rfl c21
        · refine lv_iconst (v := nI 1) zx zb dX4_readMatch_24 (by decide) ?_
          have hR : rdM L (8 * sz) la lm lw all b m f = (1, b, m, f) := by rw [rdM_of hz, if_neg (by omega), if_neg (by omega), if_pos (by omega)]
          exact hQ _ _ _ _ _ ⟨8 * sz, m, f⟩ dX4_readMatch_25 (hI.sub [3, 4, 5, 0, 1, 2] rfl rfl) (by (try dsimp only); exact ⟨(by rw [hR]), (by omega), (fun h => by rw [hR] at h; simp at h), hf⟩)
      · have hnb := nb_lt L (b + z + 1) z
        have hz2 : 2 ^ z ≤ 256 := tp_lt (by omega)
        have hz3 := Nat.two_pow_pos z
        refine j_callVi (wr := [oC g0 1 [.ref g1, .int (nI m)], aI G g1 500 f, oC u0 5 [.int (nI la), .int (nI lm), .int (nI lw)]]) hC hI (c_X4_numberOfClass_ok zl G d0 l0 l1 u0 g0 (b + z + 1) sz L z (by omega) (by omega) (by omega) (by omega) (by omega)) (cwV 1 hC.2.2.2.2.1 gX4_readMatch_X4_numberOfClass rfl rfl rfl (by decide +kernel) ⟨Nat.le_of_ble_eq_true rfl, Nat.le_of_ble_eq_true rfl⟩) [3, 4, 5] [0, 1, 2] rfl rfl rfl rfl rfl rfl (q0 := 0) rfl rfl rfl hl.1 (Nat.le_of_ble_eq_true rfl) dX4_readMatch_15 ⟨Nat.le_of_ble_eq_true rfl, Nat.le_of_ble_eq_true rfl⟩ (fun rv15 u15 H locs hp15 hI => ?_)
        have hI : jI G zA zs [oC g0 1 [.ref g1, .int (nI m)], aI G g1 500 f, oC u0 5 [.int (nI la), .int (nI lm), .int (nI lw)], oC d0 4 [.ref l0, .ref u0, .ref g0, .int (nI ((b + z + 1) + z))], oC l0 1 [.ref l1, .int (nI sz)], aI G l1 700 L] H locs := hI
        subst hp15
        refine lv_istore_n (lv' := [(3, .int (nI (2 ^ z + nb L (b + z + 1) z))), (2, .int (nI z)), (0, .ref d0), (1, .int (nI all))]) zx zb dX4_readMatch_18 rfl hl (by decide) rfl (fun ls hl => ?_)
        refine lv_iload_n zx zb dX4_readMatch_19 rfl (lv_at hl 0 rfl) ?_
        refine lv_iconst (v := (-1)) zx zb dX4_readMatch_20 (by decide) ?_
        refine lv_icmp_ne (tgt := 26) zx zb dX4_readMatch_21 (by decide) (fun c21 => ?_) (fun c21 => ?_)
        · refine lv_iload_n zx zb dX4_readMatch_26 rfl (lv_at hl 0 rfl) ?_
          refine lv_iconst (v := nI 1) zx zb dX4_readMatch_27 (by decide) ?_
          refine j_isub hC (by omega) dX4_readMatch_28 ?_
          refine lv_aload_n zx zb dX4_readMatch_29 rfl (lv_at hl 2 rfl) ?_
          refine j_get hC hI hin_X4_readMatch_X4 3 rfl rfl 1 (by decide) hfl_X4_readMatch_15 rfl rfl dX4_readMatch_30 ?_
          refine j_callVi (wr := [oC g0 1 [.ref g1, .int (nI m)], aI G g1 500 f, oC d0 4 [.ref l0, .ref u0, .ref g0, .int (nI ((b + z + 1) + z))], oC l0 1 [.ref l1, .int (nI sz)], aI G l1 700 L]) hC hI (c_X5_least zl G u0 la lm lw ) (cwV 0 hC.2.2.2.2.1 gX4_readMatch_X5_least rfl rfl rfl (by decide +kernel) ⟨Nat.le_of_ble_eq_true rfl, Nat.le_of_ble_eq_true rfl⟩) [2] [0, 1, 3, 4, 5] rfl rfl rfl rfl rfl rfl (q0 := 0) rfl rfl rfl hl.1 (Nat.le_of_ble_eq_true rfl) dX4_readMatch_33 ⟨Nat.le_of_ble_eq_true rfl, Nat.le_of_ble_eq_true rfl⟩ (fun rv33 u33 H locs hp33 hI => ?_)
          have hI : jI G zA zs [oC g0 1 [.ref g1, .int (nI m)], aI G g1 500 f, oC d0 4 [.ref l0, .ref u0, .ref g0, .int (nI ((b + z + 1) + z))], oC l0 1 [.ref l1, .int (nI sz)], aI G l1 700 L, oC u0 5 [.int (nI la), .int (nI lm), .int (nI lw)]] H locs := hI
          subst hp33
          refine j_iadd hC dX4_readMatch_36 ?_
          refine lv_istore (lv' := [(4, .int (nI (((2 ^ z + nb L (b + z + 1) z) - 1) + la))), (3, .int (nI (2 ^ z + nb L (b + z + 1) z))), (2, .int (nI z)), (0, .ref d0), (1, .int (nI all))]) zx zb dX4_readMatch_37 hl (by decide) rfl (fun ls hl => ?_)
          refine lv_iload zx zb dX4_readMatch_39 (lv_at hl 0 rfl) ?_
          refine lv_aload_n zx zb dX4_readMatch_41 rfl (lv_at hl 3 rfl) ?_
          refine j_get hC hI hin_X4_readMatch_X4 2 rfl rfl 1 (by decide) hfl_X4_readMatch_15 rfl rfl dX4_readMatch_42 ?_
          refine j_callVi (wr := [oC g0 1 [.ref g1, .int (nI m)], aI G g1 500 f, oC d0 4 [.ref l0, .ref u0, .ref g0, .int (nI ((b + z + 1) + z))], oC l0 1 [.ref l1, .int (nI sz)], aI G l1 700 L]) hC hI (c_X5_most zl G u0 la lm lw ) (cwV 0 hC.2.2.2.2.1 gX4_readMatch_X5_most rfl rfl rfl (by decide +kernel) ⟨Nat.le_of_ble_eq_true rfl, Nat.le_of_ble_eq_true rfl⟩) [5] [0, 1, 2, 3, 4] rfl rfl rfl rfl rfl rfl (q0 := 0) rfl rfl rfl hl.1 (Nat.le_of_ble_eq_true rfl) dX4_readMatch_45 ⟨Nat.le_of_ble_eq_true rfl, Nat.le_of_ble_eq_true rfl⟩ (fun rv45 u45 H locs hp45 hI => ?_)
          have hI : jI G zA zs [oC g0 1 [.ref g1, .int (nI m)], aI G g1 500 f, oC d0 4 [.ref l0, .ref u0, .ref g0, .int (nI ((b + z + 1) + z))], oC l0 1 [.ref l1, .int (nI sz)], aI G l1 700 L, oC u0 5 [.int (nI la), .int (nI lm), .int (nI lw)]] H locs := hI
          subst hp45
          refine j_icmp_gt (tgt := 65) hC dX4_readMatch_48 (by decide) (by omega) (by omega) (fun c48 => ?_) (fun c48 => ?_)
          · refine lv_iconst (v := nI 3) zx zb dX4_readMatch_65 (by decide) ?_
            have hR : rdM L (8 * sz) la lm lw all b m f = (3, b, m, f) := by rw [rdM_of hz, if_neg (by omega), if_neg (by omega), if_neg (by omega), if_pos (by omega)]
            exact hQ _ _ _ _ _ ⟨(b + z + 1) + z, m, f⟩ dX4_readMatch_66 (hI.sub [2, 3, 4, 0, 1, 5] rfl rfl) (by (try dsimp only); exact ⟨(by rw [hR]), (by omega), (fun h => by rw [hR] at h; simp at h), hf⟩)
          · refine lv_iload zx zb dX4_readMatch_51 (lv_at hl 0 rfl) ?_
            refine lv_iload_n zx zb dX4_readMatch_53 rfl (lv_at hl 4 rfl) ?_
            refine lv_aload_n zx zb dX4_readMatch_54 rfl (lv_at hl 3 rfl) ?_
            refine j_get hC hI hin_X4_readMatch_X4 2 rfl rfl 2 (by decide) hfl_X4_readMatch_19 rfl rfl dX4_readMatch_55 ?_
            refine j_callVi (wr := [aI G g1 500 f, oC d0 4 [.ref l0, .ref u0, .ref g0, .int (nI ((b + z + 1) + z))], oC l0 1 [.ref l1, .int (nI sz)], aI G l1 700 L, oC u0 5 [.int (nI la), .int (nI lm), .int (nI lw)]]) hC hI (c_X1_size zl G g0 g1 m ) (cwV 0 hC.2.2.2.2.1 gX4_readMatch_X1_size rfl rfl rfl (by decide +kernel) ⟨Nat.le_of_ble_eq_true rfl, Nat.le_of_ble_eq_true rfl⟩) [0] [1, 2, 3, 4, 5] rfl rfl rfl rfl rfl rfl (q0 := 0) rfl rfl rfl hl.1 (Nat.le_of_ble_eq_true rfl) dX4_readMatch_58 ⟨Nat.le_of_ble_eq_true rfl, Nat.le_of_ble_eq_true rfl⟩ (fun rv58 u58 H locs hp58 hI => ?_)
            have hI : jI G zA zs [aI G g1 500 f, oC d0 4 [.ref l0, .ref u0, .ref g0, .int (nI ((b + z + 1) + z))], oC l0 1 [.ref l1, .int (nI sz)], aI G l1 700 L, oC u0 5 [.int (nI la), .int (nI lm), .int (nI lw)], oC g0 1 [.ref g1, .int (nI m)]] H locs := hI
            subst hp58
            refine j_isub hC (by omega) dX4_readMatch_61 ?_
            refine j_icmp_le (tgt := 67) hC dX4_readMatch_62 (by decide) (by omega) (by omega) (fun c62 => ?_) (fun c62 => ?_)
            · refine lv_aload_n zx zb dX4_readMatch_67 rfl (lv_at hl 3 rfl) ?_
              refine lv_aload_n zx zb dX4_readMatch_68 rfl (lv_at hl 3 rfl) ?_
              refine lv_iconst (v := nI 4) zx zb dX4_readMatch_69 (by decide) ?_
              rcases Nat.lt_or_ge (8 * sz) (b + z + 1 + z + 4) with hc2 | hc2
              · refine j_callVi (wr := [aI G g1 500 f, oC u0 5 [.int (nI la), .int (nI lm), .int (nI lw)], oC g0 1 [.ref g1, .int (nI m)]]) hC hI (c_X4_number_end zl G d0 l0 l1 u0 g0 ((b + z + 1) + z) sz L 4 (by omega) (by omega) (by omega) (by omega) (by omega)) (cwV 1 hC.2.2.2.2.1 gX4_readMatch_X4_number rfl rfl rfl (by decide +kernel) ⟨Nat.le_of_ble_eq_true rfl, Nat.le_of_ble_eq_true rfl⟩) [1, 2, 3] [0, 4, 5] rfl rfl rfl rfl rfl rfl (q0 := 0) rfl rfl rfl hl.1 (Nat.le_of_ble_eq_true rfl) dX4_readMatch_70 ⟨Nat.le_of_ble_eq_true rfl, Nat.le_of_ble_eq_true rfl⟩ (fun rv70 u70 H locs hp70 hI => ?_)
                have hI : jI G zA zs [aI G g1 500 f, oC u0 5 [.int (nI la), .int (nI lm), .int (nI lw)], oC g0 1 [.ref g1, .int (nI m)], oC d0 4 [.ref l0, .ref u0, .ref g0, .int (nI (8 * sz))], oC l0 1 [.ref l1, .int (nI sz)], aI G l1 700 L] H locs := hI
                subst hp70
                refine j_callVi (wr := [aI G g1 500 f, oC u0 5 [.int (nI la), .int (nI lm), .int (nI lw)], oC g0 1 [.ref g1, .int (nI m)], oC l0 1 [.ref l1, .int (nI sz)], aI G l1 700 L]) hC hI (c_X4_numberOfClass_none zl G d0 l0 u0 g0 (8 * sz) ) (cwV 1 hC.2.2.2.2.1 gX4_readMatch_X4_numberOfClass rfl rfl rfl (by decide +kernel) ⟨Nat.le_of_ble_eq_true rfl, Nat.le_of_ble_eq_true rfl⟩) [3] [0, 1, 2, 4, 5] rfl rfl rfl rfl rfl rfl (q0 := 0) rfl rfl rfl hl.1 (Nat.le_of_ble_eq_true rfl) dX4_readMatch_73 ⟨Nat.le_of_ble_eq_true rfl, Nat.le_of_ble_eq_true rfl⟩ (fun rv73 u73 H locs hp73 hI => ?_)
                have hI : jI G zA zs [aI G g1 500 f, oC u0 5 [.int (nI la), .int (nI lm), .int (nI lw)], oC g0 1 [.ref g1, .int (nI m)], oC l0 1 [.ref l1, .int (nI sz)], aI G l1 700 L, oC d0 4 [.ref l0, .ref u0, .ref g0, .int (nI (8 * sz))]] H locs := hI
                subst hp73
                refine lv_istore (lv' := [(5, .int ((-1))), (4, .int (nI (((2 ^ z + nb L (b + z + 1) z) - 1) + la))), (3, .int (nI (2 ^ z + nb L (b + z + 1) z))), (2, .int (nI z)), (0, .ref d0), (1, .int (nI all))]) zx zb dX4_readMatch_76 hl (by decide) rfl (fun ls hl => ?_)
                refine lv_iload zx zb dX4_readMatch_78 (lv_at hl 0 rfl) ?_
                refine lv_iconst (v := (-1)) zx zb dX4_readMatch_80 (by decide) ?_
                refine lv_icmp_ne (tgt := 86) zx zb dX4_readMatch_81 (by decide) (fun c81 => ?_) (fun c81 => ?_)
                · exact absurd rfl c81
                · refine lv_iconst (v := nI 1) zx zb dX4_readMatch_84 (by decide) ?_
                  have hR : rdM L (8 * sz) la lm lw all b m f = (1, b, m, f) := by rw [rdM_of hz, if_neg (by omega), if_neg (by omega), if_neg (by omega), if_neg (by omega), if_pos (by omega)]
                  exact hQ _ _ _ _ _ ⟨8 * sz, m, f⟩ dX4_readMatch_85 (hI.sub [5, 3, 4, 2, 0, 1] rfl rfl) (by (try dsimp only); exact ⟨(by rw [hR]), (by omega), (fun h => by rw [hR] at h; simp at h), hf⟩)
              · have hnb4 := nb_lt L (b + z + 1 + z) 4
                refine j_callVi (wr := [aI G g1 500 f, oC u0 5 [.int (nI la), .int (nI lm), .int (nI lw)], oC g0 1 [.ref g1, .int (nI m)]]) hC hI (c_X4_number_ok zl G d0 l0 l1 u0 g0 ((b + z + 1) + z) sz L 4 (by omega) (by omega) (by omega) (by omega) (by omega)) (cwV 1 hC.2.2.2.2.1 gX4_readMatch_X4_number rfl rfl rfl (by decide +kernel) ⟨Nat.le_of_ble_eq_true rfl, Nat.le_of_ble_eq_true rfl⟩) [1, 2, 3] [0, 4, 5] rfl rfl rfl rfl rfl rfl (q0 := 0) rfl rfl rfl hl.1 (Nat.le_of_ble_eq_true rfl) dX4_readMatch_70 ⟨Nat.le_of_ble_eq_true rfl, Nat.le_of_ble_eq_true rfl⟩ (fun rv70 u70 H locs hp70 hI => ?_)
                have hI : jI G zA zs [aI G g1 500 f, oC u0 5 [.int (nI la), .int (nI lm), .int (nI lw)], oC g0 1 [.ref g1, .int (nI m)], oC d0 4 [.ref l0, .ref u0, .ref g0, .int (nI (((b + z + 1) + z) + 4))], oC l0 1 [.ref l1, .int (nI sz)], aI G l1 700 L] H locs := hI
                subst hp70
                rcases Nat.lt_or_ge (8 * sz) (b + z + 1 + z + 4 + nb L (b + z + 1 + z) 4) with hc3 | hc3
                · refine j_callVi (wr := [aI G g1 500 f, oC u0 5 [.int (nI la), .int (nI lm), .int (nI lw)], oC g0 1 [.ref g1, .int (nI m)]]) hC hI (c_X4_numberOfClass_end zl G d0 l0 l1 u0 g0 (((b + z + 1) + z) + 4) sz L (nb L ((b + z + 1) + z) 4) (by omega) (by omega) (by omega) (by omega) (by omega)) (cwV 1 hC.2.2.2.2.1 gX4_readMatch_X4_numberOfClass rfl rfl rfl (by decide +kernel) ⟨Nat.le_of_ble_eq_true rfl, Nat.le_of_ble_eq_true rfl⟩) [3, 4, 5] [0, 1, 2] rfl rfl rfl rfl rfl rfl (q0 := 0) rfl rfl rfl hl.1 (Nat.le_of_ble_eq_true rfl) dX4_readMatch_73 ⟨Nat.le_of_ble_eq_true rfl, Nat.le_of_ble_eq_true rfl⟩ (fun rv73 u73 H locs hp73 hI => ?_)
                  have hI : jI G zA zs [aI G g1 500 f, oC u0 5 [.int (nI la), .int (nI lm), .int (nI lw)], oC g0 1 [.ref g1, .int (nI m)], oC d0 4 [.ref l0, .ref u0, .ref g0, .int (nI (8 * sz))], oC l0 1 [.ref l1, .int (nI sz)], aI G l1 700 L] H locs := hI
                  subst hp73
                  refine lv_istore (lv' := [(5, .int ((-1))), (4, .int (nI (((2 ^ z + nb L (b + z + 1) z) - 1) + la))), (3, .int (nI (2 ^ z + nb L (b + z + 1) z))), (2, .int (nI z)), (0, .ref d0), (1, .int (nI all))]) zx zb dX4_readMatch_76 hl (by decide) rfl (fun ls hl => ?_)
                  refine lv_iload zx zb dX4_readMatch_78 (lv_at hl 0 rfl) ?_
                  refine lv_iconst (v := (-1)) zx zb dX4_readMatch_80 (by decide) ?_
                  refine lv_icmp_ne (tgt := 86) zx zb dX4_readMatch_81 (by decide) (fun c81 => ?_) (fun c81 => ?_)
                  · exact absurd rfl c81
                  · refine lv_iconst (v := nI 1) zx zb dX4_readMatch_84 (by decide) ?_
                    have hR : rdM L (8 * sz) la lm lw all b m f = (1, b, m, f) := by rw [rdM_of hz, if_neg (by omega), if_neg (by omega), if_neg (by omega), if_neg (by omega), if_neg (by omega), if_pos (by omega)]
                    exact hQ _ _ _ _ _ ⟨8 * sz, m, f⟩ dX4_readMatch_85 (hI.sub [3, 4, 5, 2, 0, 1] rfl rfl) (by (try dsimp only); exact ⟨(by rw [hR]), (by omega), (fun h => by rw [hR] at h; simp at h), hf⟩)
                · have hnb5 := nb_lt L (b + z + 1 + z + 4) (nb L (b + z + 1 + z) 4)
                  have hz5 : 2 ^ nb L (b + z + 1 + z) 4 ≤ 2 ^ 15 := Nat.pow_le_pow_right (by decide) (by omega)
                  have hz6 := Nat.two_pow_pos (nb L (b + z + 1 + z) 4)
                  refine j_callVi (wr := [aI G g1 500 f, oC u0 5 [.int (nI la), .int (nI lm), .int (nI lw)], oC g0 1 [.ref g1, .int (nI m)]]) hC hI (c_X4_numberOfClass_ok zl G d0 l0 l1 u0 g0 (((b + z + 1) + z) + 4) sz L (nb L ((b + z + 1) + z) 4) (by omega) (by omega) (by omega) (by omega) (by omega)) (cwV 1 hC.2.2.2.2.1 gX4_readMatch_X4_numberOfClass rfl rfl rfl (by decide +kernel) ⟨Nat.le_of_ble_eq_true rfl, Nat.le_of_ble_eq_true rfl⟩) [3, 4, 5] [0, 1, 2] rfl rfl rfl rfl rfl rfl (q0 := 0) rfl rfl rfl hl.1 (Nat.le_of_ble_eq_true rfl) dX4_readMatch_73 ⟨Nat.le_of_ble_eq_true rfl, Nat.le_of_ble_eq_true rfl⟩ (fun rv73 u73 H locs hp73 hI => ?_)
                  have hI : jI G zA zs [aI G g1 500 f, oC u0 5 [.int (nI la), .int (nI lm), .int (nI lw)], oC g0 1 [.ref g1, .int (nI m)], oC d0 4 [.ref l0, .ref u0, .ref g0, .int (nI ((((b + z + 1) + z) + 4) + (nb L ((b + z + 1) + z) 4)))], oC l0 1 [.ref l1, .int (nI sz)], aI G l1 700 L] H locs := hI
                  subst hp73
                  refine lv_istore (lv' := [(5, .int (nI (2 ^ (nb L ((b + z + 1) + z) 4) + nb L (((b + z + 1) + z) + 4) (nb L ((b + z + 1) + z) 4)))), (4, .int (nI (((2 ^ z + nb L (b + z + 1) z) - 1) + la))), (3, .int (nI (2 ^ z + nb L (b + z + 1) z))), (2, .int (nI z)), (0, .ref d0), (1, .int (nI all))]) zx zb dX4_readMatch_76 hl (by decide) rfl (fun ls hl => ?_)
                  refine lv_iload zx zb dX4_readMatch_78 (lv_at hl 0 rfl) ?_
                  refine lv_iconst (v := (-1)) zx zb dX4_readMatch_80 (by decide) ?_
                  refine lv_icmp_ne (tgt := 86) zx zb dX4_readMatch_81 (by decide) (fun c81 => ?_) (fun c81 => ?_)
                  · refine lv_iload zx zb dX4_readMatch_86 (lv_at hl 0 rfl) ?_
                    refine lv_aload_n zx zb dX4_readMatch_88 rfl (lv_at hl 4 rfl) ?_
                    refine j_get hC hI hin_X4_readMatch_X4 3 rfl rfl 1 (by decide) hfl_X4_readMatch_15 rfl rfl dX4_readMatch_89 ?_
                    refine j_callVi (wr := [aI G g1 500 f, oC g0 1 [.ref g1, .int (nI m)], oC d0 4 [.ref l0, .ref u0, .ref g0, .int (nI ((((b + z + 1) + z) + 4) + (nb L ((b + z + 1) + z) 4)))], oC l0 1 [.ref l1, .int (nI sz)], aI G l1 700 L]) hC hI (c_X5_window zl G u0 la lm lw ) (cwV 0 hC.2.2.2.2.1 gX4_readMatch_X5_window rfl rfl rfl (by decide +kernel) ⟨Nat.le_of_ble_eq_true rfl, Nat.le_of_ble_eq_true rfl⟩) [1] [0, 2, 3, 4, 5] rfl rfl rfl rfl rfl rfl (q0 := 0) rfl rfl rfl hl.1 (Nat.le_of_ble_eq_true rfl) dX4_readMatch_92 ⟨Nat.le_of_ble_eq_true rfl, Nat.le_of_ble_eq_true rfl⟩ (fun rv92 u92 H locs hp92 hI => ?_)
                    have hI : jI G zA zs [aI G g1 500 f, oC g0 1 [.ref g1, .int (nI m)], oC d0 4 [.ref l0, .ref u0, .ref g0, .int (nI ((((b + z + 1) + z) + 4) + (nb L ((b + z + 1) + z) 4)))], oC l0 1 [.ref l1, .int (nI sz)], aI G l1 700 L, oC u0 5 [.int (nI la), .int (nI lm), .int (nI lw)]] H locs := hI
                    subst hp92
                    refine j_icmp_gt (tgt := 110) hC dX4_readMatch_95 (by decide) (by omega) (by omega) (fun c95 => ?_) (fun c95 => ?_)
                    · refine lv_iconst (v := nI 4) zx zb dX4_readMatch_110 (by decide) ?_
                      have hR : rdM L (8 * sz) la lm lw all b m f = (4, b, m, f) := by rw [rdM_of hz, if_neg (by omega), if_neg (by omega), if_neg (by omega), if_neg (by omega), if_neg (by omega), if_neg (by omega), if_pos (by omega)]
                      exact hQ _ _ _ _ _ ⟨(((b + z + 1) + z) + 4) + (nb L ((b + z + 1) + z) 4), m, f⟩ dX4_readMatch_111 (hI.sub [2, 3, 4, 1, 0, 5] rfl rfl) (by (try dsimp only); exact ⟨(by rw [hR]), (by omega), (fun h => by rw [hR] at h; simp at h), hf⟩)
                    · refine lv_iload zx zb dX4_readMatch_98 (lv_at hl 0 rfl) ?_
                      refine lv_aload_n zx zb dX4_readMatch_100 rfl (lv_at hl 4 rfl) ?_
                      refine j_get hC hI hin_X4_readMatch_X4 2 rfl rfl 2 (by decide) hfl_X4_readMatch_19 rfl rfl dX4_readMatch_101 ?_
                      refine j_callVi (wr := [aI G g1 500 f, oC d0 4 [.ref l0, .ref u0, .ref g0, .int (nI ((((b + z + 1) + z) + 4) + (nb L ((b + z + 1) + z) 4)))], oC l0 1 [.ref l1, .int (nI sz)], aI G l1 700 L, oC u0 5 [.int (nI la), .int (nI lm), .int (nI lw)]]) hC hI (c_X1_size zl G g0 g1 m ) (cwV 0 hC.2.2.2.2.1 gX4_readMatch_X1_size rfl rfl rfl (by decide +kernel) ⟨Nat.le_of_ble_eq_true rfl, Nat.le_of_ble_eq_true rfl⟩) [1] [0, 2, 3, 4, 5] rfl rfl rfl rfl rfl rfl (q0 := 0) rfl rfl rfl hl.1 (Nat.le_of_ble_eq_true rfl) dX4_readMatch_104 ⟨Nat.le_of_ble_eq_true rfl, Nat.le_of_ble_eq_true rfl⟩ (fun rv104 u104 H locs hp104 hI => ?_)
                      have hI : jI G zA zs [aI G g1 500 f, oC d0 4 [.ref l0, .ref u0, .ref g0, .int (nI ((((b + z + 1) + z) + 4) + (nb L ((b + z + 1) + z) 4)))], oC l0 1 [.ref l1, .int (nI sz)], aI G l1 700 L, oC u0 5 [.int (nI la), .int (nI lm), .int (nI lw)], oC g0 1 [.ref g1, .int (nI m)]] H locs := hI
                      subst hp104
                      refine j_icmp_le (tgt := 112) hC dX4_readMatch_107 (by decide) (by omega) (by omega) (fun c107 => ?_) (fun c107 => ?_)
                      · refine lv_aload_n zx zb dX4_readMatch_112 rfl (lv_at hl 4 rfl) ?_
                        refine j_get hC hI hin_X4_readMatch_X4 1 rfl rfl 2 (by decide) hfl_X4_readMatch_19 rfl rfl dX4_readMatch_113 ?_
                        refine lv_iload zx zb dX4_readMatch_116 (lv_at hl 0 rfl) ?_
                        refine lv_iload zx zb dX4_readMatch_118 (lv_at hl 1 rfl) ?_
                        refine j_callVv (wr := [oC d0 4 [.ref l0, .ref u0, .ref g0, .int (nI ((((b + z + 1) + z) + 4) + (nb L ((b + z + 1) + z) 4)))], oC l0 1 [.ref l1, .int (nI sz)], aI G l1 700 L, oC u0 5 [.int (nI la), .int (nI lm), .int (nI lw)]]) hC hI (c_X1_addAgain zl G g0 g1 500 m (2 ^ (nb L ((b + z + 1) + z) 4) + nb L (((b + z + 1) + z) + 4) (nb L ((b + z + 1) + z) 4)) (((2 ^ z + nb L (b + z + 1) z) - 1) + la) f (by omega) (by omega) (by omega) (by omega) hf) (cwV 2 hC.2.2.2.2.1 gX4_readMatch_X1_addAgain rfl rfl rfl (by decide +kernel) ⟨Nat.le_of_ble_eq_true rfl, Nat.le_of_ble_eq_true rfl⟩) [5, 0] [1, 2, 3, 4] rfl rfl rfl rfl rfl rfl (q0 := 0) rfl rfl rfl hl.1 (Nat.le_of_ble_eq_true rfl) dX4_readMatch_120 ⟨Nat.le_of_ble_eq_true rfl, Nat.le_of_ble_eq_true rfl⟩ (fun u120 H locs hp120 hI => ?_)
                        have hI : jI G zA zs [oC d0 4 [.ref l0, .ref u0, .ref g0, .int (nI ((((b + z + 1) + z) + 4) + (nb L ((b + z + 1) + z) 4)))], oC l0 1 [.ref l1, .int (nI sz)], aI G l1 700 L, oC u0 5 [.int (nI la), .int (nI lm), .int (nI lw)], oC g0 1 [.ref g1, .int (nI (m + (((2 ^ z + nb L (b + z + 1) z) - 1) + la)))], aI G g1 500 (agn (2 ^ (nb L ((b + z + 1) + z) 4) + nb L (((b + z + 1) + z) + 4) (nb L ((b + z + 1) + z) 4)) (((2 ^ z + nb L (b + z + 1) z) - 1) + la) f m)] H locs := hI
                        refine lv_iconst (v := nI 0) zx zb dX4_readMatch_123 (by decide) ?_
                        have hR := rdM_of (la := la) (lm := lm) (lw := lw) (all := all) (m := m) (f := f) hz
                        rw [if_neg (by omega), if_neg (by omega), if_neg (by omega), if_neg (by omega), if_neg (by omega), if_neg (by omega), if_neg (by omega)] at hR
                        exact hQ _ _ _ _ _ ⟨(((b + z + 1) + z) + 4) + (nb L ((b + z + 1) + z) 4), m + (((2 ^ z + nb L (b + z + 1) z) - 1) + la), agn (2 ^ (nb L ((b + z + 1) + z) 4) + nb L (((b + z + 1) + z) + 4) (nb L ((b + z + 1) + z) 4)) (((2 ^ z + nb L (b + z + 1) z) - 1) + la) f m⟩ dX4_readMatch_124 (hI.sub [0, 1, 2, 4, 5, 3] rfl rfl) (by (try dsimp only); exact ⟨(by rw [hR]), (by omega), (fun h => by rw [hR]; exact ⟨rfl, rfl, rfl⟩), (agn_lt _ _ _ (by omega) (by omega) hf)⟩)
                      · refine lv_iconst (v := nI 4) zx zb dX4_readMatch_110 (by decide) ?_
                        have hR : rdM L (8 * sz) la lm lw all b m f = (4, b, m, f) := by rw [rdM_of hz, if_neg (by omega), if_neg (by omega), if_neg (by omega), if_neg (by omega), if_neg (by omega), if_neg (by omega), if_pos (by omega)]
                        exact hQ _ _ _ _ _ ⟨(((b + z + 1) + z) + 4) + (nb L ((b + z + 1) + z) 4), m, f⟩ dX4_readMatch_111 (hI.sub [1, 2, 3, 5, 0, 4] rfl rfl) (by (try dsimp only); exact ⟨(by rw [hR]), (by omega), (fun h => by rw [hR] at h; simp at h), hf⟩)
                  · exact absurd c81 (nI_m1 (by omega))
            · refine lv_iconst (v := nI 3) zx zb dX4_readMatch_65 (by decide) ?_
              have hR : rdM L (8 * sz) la lm lw all b m f = (3, b, m, f) := by rw [rdM_of hz, if_neg (by omega), if_neg (by omega), if_neg (by omega), if_pos (by omega)]
              exact hQ _ _ _ _ _ ⟨(b + z + 1) + z, m, f⟩ dX4_readMatch_66 (hI.sub [1, 2, 3, 5, 0, 4] rfl rfl) (by (try dsimp only); exact ⟨(by rw [hR]), (by omega), (fun h => by rw [hR] at h; simp at h), hf⟩)
        · exact absurd c21 (nI_m1 (by omega))
    · exact (by omega : False).elim
  · refine j_callVi (wr := [oC g0 1 [.ref g1, .int (nI m)], aI G g1 500 f, oC u0 5 [.int (nI la), .int (nI lm), .int (nI lw)]]) hC hI (c_X4_countZeros_end zl G d0 l0 l1 u0 g0 b sz L z (by omega) (by omega) (by omega) (by omega) (by omega)) (cwV 0 hC.2.2.2.2.1 gX4_readMatch_X4_countZeros rfl rfl rfl (by decide +kernel) ⟨Nat.le_of_ble_eq_true rfl, Nat.le_of_ble_eq_true rfl⟩) [0, 1, 2] [3, 4, 5] rfl rfl rfl rfl rfl rfl (q0 := 0) rfl rfl rfl hl.1 (Nat.le_of_ble_eq_true rfl) dX4_readMatch_1 ⟨Nat.le_of_ble_eq_true rfl, Nat.le_of_ble_eq_true rfl⟩ (fun rv1 u1 H locs hp1 hI => ?_)
    have hI : jI G zA zs [oC g0 1 [.ref g1, .int (nI m)], aI G g1 500 f, oC u0 5 [.int (nI la), .int (nI lm), .int (nI lw)], oC d0 4 [.ref l0, .ref u0, .ref g0, .int (nI (8 * sz))], oC l0 1 [.ref l1, .int (nI sz)], aI G l1 700 L] H locs := hI
    subst hp1
    refine lv_istore_n (lv' := [(2, .int ((-1))), (0, .ref d0), (1, .int (nI all))]) zx zb dX4_readMatch_4 rfl hl (by decide) rfl (fun ls hl => ?_)
    refine lv_iload_n zx zb dX4_readMatch_5 rfl (lv_at hl 0 rfl) ?_
    refine lv_bipush (v := nI 9) zx zb dX4_readMatch_6 (by decide) ?_
    refine lv_icmp_ne (tgt := 13) zx zb dX4_readMatch_8 (by decide) (fun c8 => ?_) (fun c8 => ?_)
    · refine lv_aload_n zx zb dX4_readMatch_13 rfl (lv_at hl 1 rfl) ?_
      refine lv_iload_n zx zb dX4_readMatch_14 rfl (lv_at hl 0 rfl) ?_
      refine j_callVi (wr := [oC g0 1 [.ref g1, .int (nI m)], aI G g1 500 f, oC u0 5 [.int (nI la), .int (nI lm), .int (nI lw)], oC l0 1 [.ref l1, .int (nI sz)], aI G l1 700 L]) hC hI (c_X4_numberOfClass_none zl G d0 l0 u0 g0 (8 * sz) ) (cwV 1 hC.2.2.2.2.1 gX4_readMatch_X4_numberOfClass rfl rfl rfl (by decide +kernel) ⟨Nat.le_of_ble_eq_true rfl, Nat.le_of_ble_eq_true rfl⟩) [3] [0, 1, 2, 4, 5] rfl rfl rfl rfl rfl rfl (q0 := 0) rfl rfl rfl hl.1 (Nat.le_of_ble_eq_true rfl) dX4_readMatch_15 ⟨Nat.le_of_ble_eq_true rfl, Nat.le_of_ble_eq_true rfl⟩ (fun rv15 u15 H locs hp15 hI => ?_)
      have hI : jI G zA zs [oC g0 1 [.ref g1, .int (nI m)], aI G g1 500 f, oC u0 5 [.int (nI la), .int (nI lm), .int (nI lw)], oC l0 1 [.ref l1, .int (nI sz)], aI G l1 700 L, oC d0 4 [.ref l0, .ref u0, .ref g0, .int (nI (8 * sz))]] H locs := hI
      subst hp15
      refine lv_istore_n (lv' := [(3, .int ((-1))), (2, .int ((-1))), (0, .ref d0), (1, .int (nI all))]) zx zb dX4_readMatch_18 rfl hl (by decide) rfl (fun ls hl => ?_)
      refine lv_iload_n zx zb dX4_readMatch_19 rfl (lv_at hl 0 rfl) ?_
      refine lv_iconst (v := (-1)) zx zb dX4_readMatch_20 (by decide) ?_
      refine lv_icmp_ne (tgt := 26) zx zb dX4_readMatch_21 (by decide) (fun c21 => ?_) (fun c21 => ?_)
      · exact absurd rfl c21
      · refine lv_iconst (v := nI 1) zx zb dX4_readMatch_24 (by decide) ?_
        have hR : rdM L (8 * sz) la lm lw all b m f = (1, b, m, f) := by rw [rdM_of hz, if_neg (by omega), if_pos (by omega)]
        exact hQ _ _ _ _ _ ⟨8 * sz, m, f⟩ dX4_readMatch_25 (hI.sub [5, 3, 4, 0, 1, 2] rfl rfl) (by (try dsimp only); exact ⟨(by rw [hR]), (by omega), (fun h => by rw [hR] at h; simp at h), hf⟩)
    · exact absurd c8 (by decide)
  · refine j_callVi (wr := [oC g0 1 [.ref g1, .int (nI m)], aI G g1 500 f, oC u0 5 [.int (nI la), .int (nI lm), .int (nI lw)]]) hC hI (c_X4_countZeros_nine zl G d0 l0 l1 u0 g0 b sz L z (by omega) (by omega) (by omega) (by omega) (by omega)) (cwV 0 hC.2.2.2.2.1 gX4_readMatch_X4_countZeros rfl rfl rfl (by decide +kernel) ⟨Nat.le_of_ble_eq_true rfl, Nat.le_of_ble_eq_true rfl⟩) [0, 1, 2] [3, 4, 5] rfl rfl rfl rfl rfl rfl (q0 := 0) rfl rfl rfl hl.1 (Nat.le_of_ble_eq_true rfl) dX4_readMatch_1 ⟨Nat.le_of_ble_eq_true rfl, Nat.le_of_ble_eq_true rfl⟩ (fun rv1 u1 H locs hp1 hI => ?_)
    have hI : jI G zA zs [oC g0 1 [.ref g1, .int (nI m)], aI G g1 500 f, oC u0 5 [.int (nI la), .int (nI lm), .int (nI lw)], oC d0 4 [.ref l0, .ref u0, .ref g0, .int (nI (b + 9))], oC l0 1 [.ref l1, .int (nI sz)], aI G l1 700 L] H locs := hI
    subst hp1
    refine lv_istore_n (lv' := [(2, .int (nI 9)), (0, .ref d0), (1, .int (nI all))]) zx zb dX4_readMatch_4 rfl hl (by decide) rfl (fun ls hl => ?_)
    refine lv_iload_n zx zb dX4_readMatch_5 rfl (lv_at hl 0 rfl) ?_
    refine lv_bipush (v := nI 9) zx zb dX4_readMatch_6 (by decide) ?_
    refine j_icmp_ne (tgt := 13) hC dX4_readMatch_8 (by decide) (by omega) (by omega) (fun c8 => ?_) (fun c8 => ?_)
    · exact (by omega : False).elim
    · refine lv_iconst (v := nI 3) zx zb dX4_readMatch_11 (by decide) ?_
      have hR : rdM L (8 * sz) la lm lw all b m f = (3, b, m, f) := by rw [rdM_of hz, if_pos (by omega)]
      exact hQ _ _ _ _ _ ⟨b + 9, m, f⟩ dX4_readMatch_12 (hI.sub [3, 4, 5, 0, 1, 2] rfl rfl) (by (try dsimp only); exact ⟨(by rw [hR]), (by omega), (fun h => by rw [hR] at h; simp at h), hf⟩)

theorem hin_X4_readByte_X4 : ∀ w ∈ wsX40, w ∈ wsX4_readByte := by decide +kernel
theorem hfl_X4_readByte_19 : Cond.fieldLink RX4 19 "CheapParse$Reader" "made" "LCheapParse$Bytes;" ∈ wsX4_readByte := by decide +kernel
set_option maxHeartbeats 4000000 in
set_option maxRecDepth 100000 in
theorem c_X4_readByte_ok (zl : Launch) (G : jG) (d0 : Nat) (l0 : Nat) (l1 : Nat) (u0 : Nat) (g0 : Nat) (g1 : Nat) (b : Nat) (sz : Nat) (L : Nat → Nat) (m : Nat) (f : Nat → Nat) (hs : sz ≤ 700) (hLb : ∀ j, j < sz → L j < 256) (hbs : b ≤ 8 * sz) (hm : m < 500) (he : b + 8 ≤ 8 * sz) : jMet zl yX4_readByte wsX4_readByte ({ frames := 2, cells := 0, slots := 0, locals := 45 }) G [oC d0 4 [.ref l0, .ref u0, .ref g0, .int (nI b)], oC l0 1 [.ref l1, .int (nI sz)], aI G l1 700 L, oC g0 1 [.ref g1, .int (nI m)], aI G g1 500 f] [.ref d0] (jQi G (fun (r : Int32) (u : Unit) => (r = nI 0)) (fun (u : Unit) => [oC d0 4 [.ref l0, .ref u0, .ref g0, .int (nI (b + 8))], oC l0 1 [.ref l1, .int (nI sz)], aI G l1 700 L, oC g0 1 [.ref g1, .int (nI (m + 1))], aI G g1 500 (up f m (nb L b 8))])) 0 0 := by
  refine j_enter_i (cc := cX4_readByte) (nL := 2) (nm := "readByte") (own := RX4) (lv := [(0, .ref d0)]) (by decide) rfl (Nat.le_of_ble_eq_true rfl) rfl rfl rfl ?_
  intro zA zp ze zs zm zargs zbelow zmeth zc zQ ls hC hQ hI hl
  have zx := hC.1
  have zb := hC.2.1
  have hnb := nb_lt L b 8
  refine lv_aload_n zx zb dX4_readByte_0 rfl (lv_at hl 0 rfl) ?_
  refine lv_bipush (v := nI 8) zx zb dX4_readByte_1 (by decide) ?_
  refine j_callVi (wr := [oC g0 1 [.ref g1, .int (nI m)], aI G g1 500 f]) hC hI (c_X4_number_ok zl G d0 l0 l1 u0 g0 b sz L 8 (by omega) (by omega) (by omega) (by omega) (by omega)) (cwV 1 hC.2.2.2.2.1 gX4_readByte_X4_number rfl rfl rfl (by decide +kernel) ⟨Nat.le_of_ble_eq_true rfl, Nat.le_of_ble_eq_true rfl⟩) [0, 1, 2] [3, 4] rfl rfl rfl rfl rfl rfl (q0 := 0) rfl rfl rfl hl.1 (Nat.le_of_ble_eq_true rfl) dX4_readByte_3 ⟨Nat.le_of_ble_eq_true rfl, Nat.le_of_ble_eq_true rfl⟩ (fun rv3 u3 H locs hp3 hI => ?_)
  have hI : jI G zA zs [oC g0 1 [.ref g1, .int (nI m)], aI G g1 500 f, oC d0 4 [.ref l0, .ref u0, .ref g0, .int (nI (b + 8))], oC l0 1 [.ref l1, .int (nI sz)], aI G l1 700 L] H locs := hI
  subst hp3
  refine lv_istore_n (lv' := [(1, .int (nI (nb L b 8))), (0, .ref d0)]) zx zb dX4_readByte_6 rfl hl (by decide) rfl (fun ls hl => ?_)
  refine lv_iload_n zx zb dX4_readByte_7 rfl (lv_at hl 0 rfl) ?_
  refine lv_iconst (v := (-1)) zx zb dX4_readByte_8 (by decide) ?_
  refine lv_icmp_ne (tgt := 14) zx zb dX4_readByte_9 (by decide) (fun c9 => ?_) (fun c9 => ?_)
  · refine lv_aload_n zx zb dX4_readByte_14 rfl (lv_at hl 1 rfl) ?_
    refine j_get hC hI hin_X4_readByte_X4 2 rfl rfl 2 (by decide) hfl_X4_readByte_19 rfl rfl dX4_readByte_15 ?_
    refine lv_iload_n zx zb dX4_readByte_18 rfl (lv_at hl 0 rfl) ?_
    refine j_callVv (wr := [oC d0 4 [.ref l0, .ref u0, .ref g0, .int (nI (b + 8))], oC l0 1 [.ref l1, .int (nI sz)], aI G l1 700 L]) hC hI (c_X1_add zl G g0 g1 500 m f (nI (nb L b 8)) (by omega) (by omega)) (cwV 1 hC.2.2.2.2.1 gX4_readByte_X1_add rfl rfl rfl (by decide +kernel) ⟨Nat.le_of_ble_eq_true rfl, Nat.le_of_ble_eq_true rfl⟩) [0, 1] [2, 3, 4] rfl rfl rfl rfl rfl rfl (q0 := 0) rfl rfl rfl hl.1 (Nat.le_of_ble_eq_true rfl) dX4_readByte_19 ⟨Nat.le_of_ble_eq_true rfl, Nat.le_of_ble_eq_true rfl⟩ (fun u19 H locs hp19 hI => ?_)
    have hI : jI G zA zs [oC d0 4 [.ref l0, .ref u0, .ref g0, .int (nI (b + 8))], oC l0 1 [.ref l1, .int (nI sz)], aI G l1 700 L, oC g0 1 [.ref g1, .int (nI (m + 1))], aI G g1 500 (up f m (by8 (nI (nb L b 8))))] H locs := hI
    refine lv_iconst (v := nI 0) zx zb dX4_readByte_22 (by decide) ?_
    exact hQ _ _ _ _ _ () dX4_readByte_23 (hI.sub [0, 1, 2, 3, 4] rfl (by rw [by8_nI (by omega), Nat.mod_eq_of_lt (by omega)]; rfl)) (by first | rfl | (congr 1; omega) | omega)
  · exact absurd c9 (nI_m1 (by omega))

set_option maxHeartbeats 4000000 in
set_option maxRecDepth 100000 in
theorem c_X4_readByte_end (zl : Launch) (G : jG) (d0 : Nat) (l0 : Nat) (l1 : Nat) (u0 : Nat) (g0 : Nat) (b : Nat) (sz : Nat) (L : Nat → Nat) (hs : sz ≤ 700) (hLb : ∀ j, j < sz → L j < 256) (hbs : b ≤ 8 * sz) (he : 8 * sz < b + 8) : jMet zl yX4_readByte wsX4_readByte ({ frames := 2, cells := 0, slots := 0, locals := 45 }) G [oC d0 4 [.ref l0, .ref u0, .ref g0, .int (nI b)], oC l0 1 [.ref l1, .int (nI sz)], aI G l1 700 L] [.ref d0] (jQi G (fun (r : Int32) (u : Unit) => (r = nI 1)) (fun (u : Unit) => [oC d0 4 [.ref l0, .ref u0, .ref g0, .int (nI (8 * sz))], oC l0 1 [.ref l1, .int (nI sz)], aI G l1 700 L])) 0 0 := by
  refine j_enter_i (cc := cX4_readByte) (nL := 2) (nm := "readByte") (own := RX4) (lv := [(0, .ref d0)]) (by decide) rfl (Nat.le_of_ble_eq_true rfl) rfl rfl rfl ?_
  intro zA zp ze zs zm zargs zbelow zmeth zc zQ ls hC hQ hI hl
  have zx := hC.1
  have zb := hC.2.1
  refine lv_aload_n zx zb dX4_readByte_0 rfl (lv_at hl 0 rfl) ?_
  refine lv_bipush (v := nI 8) zx zb dX4_readByte_1 (by decide) ?_
  refine j_callVi (wr := []) hC hI (c_X4_number_end zl G d0 l0 l1 u0 g0 b sz L 8 (by omega) (by omega) (by omega) (by omega) (by omega)) (cwV 1 hC.2.2.2.2.1 gX4_readByte_X4_number rfl rfl rfl (by decide +kernel) ⟨Nat.le_of_ble_eq_true rfl, Nat.le_of_ble_eq_true rfl⟩) [0, 1, 2] [] rfl rfl rfl rfl rfl rfl (q0 := 0) rfl rfl rfl hl.1 (Nat.le_of_ble_eq_true rfl) dX4_readByte_3 ⟨Nat.le_of_ble_eq_true rfl, Nat.le_of_ble_eq_true rfl⟩ (fun rv3 u3 H locs hp3 hI => ?_)
  have hI : jI G zA zs [oC d0 4 [.ref l0, .ref u0, .ref g0, .int (nI (8 * sz))], oC l0 1 [.ref l1, .int (nI sz)], aI G l1 700 L] H locs := hI
  subst hp3
  refine lv_istore_n (lv' := [(1, .int ((-1))), (0, .ref d0)]) zx zb dX4_readByte_6 rfl hl (by decide) rfl (fun ls hl => ?_)
  refine lv_iload_n zx zb dX4_readByte_7 rfl (lv_at hl 0 rfl) ?_
  refine lv_iconst (v := (-1)) zx zb dX4_readByte_8 (by decide) ?_
  refine lv_icmp_ne (tgt := 14) zx zb dX4_readByte_9 (by decide) (fun c9 => ?_) (fun c9 => ?_)
  · exact absurd rfl c9
  · refine lv_iconst (v := nI 1) zx zb dX4_readByte_12 (by decide) ?_
    exact hQ _ _ _ _ _ () dX4_readByte_13 (hI.sub [0, 1, 2] rfl rfl) (by first | rfl | (congr 1; omega) | omega)

set_option maxHeartbeats 4000000 in
set_option maxRecDepth 100000 in
theorem c_X4_readStep (zl : Launch) (G : jG) (d0 : Nat) (l0 : Nat) (l1 : Nat) (u0 : Nat) (g0 : Nat) (g1 : Nat) (b : Nat) (sz : Nat) (L : Nat → Nat) (la : Nat) (lm : Nat) (lw : Nat) (all : Nat) (m : Nat) (f : Nat → Nat) (hs : sz ≤ 700) (hLb : ∀ j, j < sz → L j < 256) (hbs : b ≤ 8 * sz) (hl0 : 1 ≤ la ∧ la ≤ lm ∧ lm ≤ 255 ∧ lw ≤ 500) (hall : m ≤ all ∧ all ≤ 500) (hf : ∀ j, j < m → f j < 256) (hma : m < all) : jMet zl yX4_readStep wsX4_readStep ({ frames := 4, cells := 0, slots := 0, locals := 92 }) G [oC d0 4 [.ref l0, .ref u0, .ref g0, .int (nI b)], oC l0 1 [.ref l1, .int (nI sz)], aI G l1 700 L, oC g0 1 [.ref g1, .int (nI m)], aI G g1 500 f, oC u0 5 [.int (nI la), .int (nI lm), .int (nI lw)]] [.ref d0, .int (nI all)] (jQi G (fun (r : Int32) (u : Nat × Nat × (Nat → Nat)) => (r = nI ((rdS L (8 * sz) la lm lw all b m f).1)) ∧ (u.1 ≤ 8 * sz ∧ u.2.1 ≤ all) ∧ ((rdS L (8 * sz) la lm lw all b m f).1 = 0 → u.1 = (rdS L (8 * sz) la lm lw all b m f).2.1 ∧ u.2.1 = (rdS L (8 * sz) la lm lw all b m f).2.2.1 ∧ u.2.2 = (rdS L (8 * sz) la lm lw all b m f).2.2.2) ∧ (∀ j, j < u.2.1 → u.2.2 j < 256) ∧ ((rdS L (8 * sz) la lm lw all b m f).1 = 0 → m < u.2.1)) (fun (u : Nat × Nat × (Nat → Nat)) => [oC d0 4 [.ref l0, .ref u0, .ref g0, .int (nI u.1)], oC l0 1 [.ref l1, .int (nI sz)], aI G l1 700 L, oC g0 1 [.ref g1, .int (nI u.2.1)], aI G g1 500 u.2.2, oC u0 5 [.int (nI la), .int (nI lm), .int (nI lw)]])) 0 0 := by
  refine j_enter_i (cc := cX4_readStep) (nL := 3) (nm := "readStep") (own := RX4) (lv := [(0, .ref d0), (1, .int (nI all))]) (by decide) rfl (Nat.le_of_ble_eq_true rfl) rfl rfl rfl ?_
  intro zA zp ze zs zm zargs zbelow zmeth zc zQ ls hC hQ hI hl
  have zx := hC.1
  have zb := hC.2.1
  refine lv_aload_n zx zb dX4_readStep_0 rfl (lv_at hl 0 rfl) ?_
  refine lv_iconst (v := nI 1) zx zb dX4_readStep_1 (by decide) ?_
  rcases Nat.lt_or_ge (8 * sz) (b + 1) with hc | hc
  · refine j_callVi (wr := [oC g0 1 [.ref g1, .int (nI m)], aI G g1 500 f, oC u0 5 [.int (nI la), .int (nI lm), .int (nI lw)]]) hC hI (c_X4_number_end zl G d0 l0 l1 u0 g0 b sz L 1 (by omega) (by omega) (by omega) (by omega) (by omega)) (cwV 1 hC.2.2.2.2.1 gX4_readStep_X4_number rfl rfl rfl (by decide +kernel) ⟨Nat.le_of_ble_eq_true rfl, Nat.le_of_ble_eq_true rfl⟩) [0, 1, 2] [3, 4, 5] rfl rfl rfl rfl rfl rfl (q0 := 0) rfl rfl rfl hl.1 (Nat.le_of_ble_eq_true rfl) dX4_readStep_2 ⟨Nat.le_of_ble_eq_true rfl, Nat.le_of_ble_eq_true rfl⟩ (fun rv2 u2 H locs hp2 hI => ?_)
    have hI : jI G zA zs [oC g0 1 [.ref g1, .int (nI m)], aI G g1 500 f, oC u0 5 [.int (nI la), .int (nI lm), .int (nI lw)], oC d0 4 [.ref l0, .ref u0, .ref g0, .int (nI (8 * sz))], oC l0 1 [.ref l1, .int (nI sz)], aI G l1 700 L] H locs := hI
    subst hp2
    refine lv_istore_n (lv' := [(2, .int ((-1))), (0, .ref d0), (1, .int (nI all))]) zx zb dX4_readStep_5 rfl hl (by decide) rfl (fun ls hl => ?_)
    refine lv_iload_n zx zb dX4_readStep_6 rfl (lv_at hl 0 rfl) ?_
    refine lv_iconst (v := (-1)) zx zb dX4_readStep_7 (by decide) ?_
    refine lv_icmp_ne (tgt := 13) zx zb dX4_readStep_8 (by decide) (fun c8 => ?_) (fun c8 => ?_)
    · exact absurd rfl c8
    · refine lv_iconst (v := nI 1) zx zb dX4_readStep_11 (by decide) ?_
      have hR : rdS L (8 * sz) la lm lw all b m f = (1, b, m, f) := by rw [rdS, if_pos (by omega)]
      exact hQ _ _ _ _ _ ⟨8 * sz, m, f⟩ dX4_readStep_12 (hI.sub [3, 4, 5, 0, 1, 2] rfl rfl) (by (try dsimp only); exact ⟨(by rw [hR]), (by omega), (fun h => by rw [hR] at h; simp at h), hf, (fun h => by rw [hR] at h; simp at h)⟩)
  · have hbl := bitAt_le L b
    refine j_callVi (wr := [oC g0 1 [.ref g1, .int (nI m)], aI G g1 500 f, oC u0 5 [.int (nI la), .int (nI lm), .int (nI lw)]]) hC hI (c_X4_number_ok zl G d0 l0 l1 u0 g0 b sz L 1 (by omega) (by omega) (by omega) (by omega) (by omega)) (cwV 1 hC.2.2.2.2.1 gX4_readStep_X4_number rfl rfl rfl (by decide +kernel) ⟨Nat.le_of_ble_eq_true rfl, Nat.le_of_ble_eq_true rfl⟩) [0, 1, 2] [3, 4, 5] rfl rfl rfl rfl rfl rfl (q0 := 0) rfl rfl rfl hl.1 (Nat.le_of_ble_eq_true rfl) dX4_readStep_2 ⟨Nat.le_of_ble_eq_true rfl, Nat.le_of_ble_eq_true rfl⟩ (fun rv2 u2 H locs hp2 hI => ?_)
    have hI : jI G zA zs [oC g0 1 [.ref g1, .int (nI m)], aI G g1 500 f, oC u0 5 [.int (nI la), .int (nI lm), .int (nI lw)], oC d0 4 [.ref l0, .ref u0, .ref g0, .int (nI (b + 1))], oC l0 1 [.ref l1, .int (nI sz)], aI G l1 700 L] H locs := hI
    subst hp2
    rw [nb_1]
    refine lv_istore_n (lv' := [(2, .int (nI (bitAt L b))), (0, .ref d0), (1, .int (nI all))]) zx zb dX4_readStep_5 rfl hl (by decide) rfl (fun ls hl => ?_)
    refine lv_iload_n zx zb dX4_readStep_6 rfl (lv_at hl 0 rfl) ?_
    refine lv_iconst (v := (-1)) zx zb dX4_readStep_7 (by decide) ?_
    refine lv_icmp_ne (tgt := 13) zx zb dX4_readStep_8 (by decide) (fun c8 => ?_) (fun c8 => ?_)
    · refine lv_iload_n zx zb dX4_readStep_13 rfl (lv_at hl 0 rfl) ?_
      refine j_if_ne (tgt := 24) hC dX4_readStep_14 (by decide) (by omega) (fun c14 => ?_) (fun c14 => ?_)
      · refine lv_aload_n zx zb dX4_readStep_24 rfl (lv_at hl 1 rfl) ?_
        refine lv_iload_n zx zb dX4_readStep_25 rfl (lv_at hl 2 rfl) ?_
        refine j_callVi (wr := []) hC hI (c_X4_readMatch zl G d0 l0 l1 u0 g0 g1 (b + 1) sz L la lm lw all m f (by omega) (by omega) (by omega) (by omega) (by omega) hf) (cwV 1 hC.2.2.2.2.1 gX4_readStep_X4_readMatch rfl rfl rfl (by decide +kernel) ⟨Nat.le_of_ble_eq_true rfl, Nat.le_of_ble_eq_true rfl⟩) [3, 4, 5, 0, 1, 2] [] rfl rfl rfl rfl rfl rfl (q0 := 0) rfl rfl rfl hl.1 (Nat.le_of_ble_eq_true rfl) dX4_readStep_26 ⟨Nat.le_of_ble_eq_true rfl, Nat.le_of_ble_eq_true rfl⟩ (fun rv26 u26 H locs hp26 hI => ?_)
        obtain ⟨v26_0, v26_1, v26_2⟩ := u26
        have hI : jI G zA zs [oC d0 4 [.ref l0, .ref u0, .ref g0, .int (nI v26_0)], oC l0 1 [.ref l1, .int (nI sz)], aI G l1 700 L, oC g0 1 [.ref g1, .int (nI v26_1)], aI G g1 500 v26_2, oC u0 5 [.int (nI la), .int (nI lm), .int (nI lw)]] H locs := hI
        dsimp only at hp26
        obtain ⟨rfl, f26_0, f26_1, f26_2⟩ := hp26
        have hR : rdS L (8 * sz) la lm lw all b m f = rdM L (8 * sz) la lm lw all (b + 1) m f := by rw [rdS, if_neg (by omega), if_neg c14]
        exact hQ _ _ _ _ _ ⟨v26_0, v26_1, v26_2⟩ dX4_readStep_29 (hI.sub [0, 1, 2, 3, 4, 5] rfl rfl) (by (try dsimp only); exact ⟨(by rw [hR]), (by omega), (fun h => by rw [hR] at h ⊢; exact f26_1 h), f26_2, (fun h => by rw [hR] at h; have := f26_1 h; exact rdM_grow (by omega) h this.2.1)⟩)
      · refine lv_aload_n zx zb dX4_readStep_17 rfl (lv_at hl 1 rfl) ?_
        rcases Nat.lt_or_ge (8 * sz) (b + 1 + 8) with hc2 | hc2
        · refine j_callVi (wr := [oC g0 1 [.ref g1, .int (nI m)], aI G g1 500 f, oC u0 5 [.int (nI la), .int (nI lm), .int (nI lw)]]) hC hI (c_X4_readByte_end zl G d0 l0 l1 u0 g0 (b + 1) sz L (by omega) (by omega) (by omega) (by omega)) (cwV 0 hC.2.2.2.2.1 gX4_readStep_X4_readByte rfl rfl rfl (by decide +kernel) ⟨Nat.le_of_ble_eq_true rfl, Nat.le_of_ble_eq_true rfl⟩) [3, 4, 5] [0, 1, 2] rfl rfl rfl rfl rfl rfl (q0 := 0) rfl rfl rfl hl.1 (Nat.le_of_ble_eq_true rfl) dX4_readStep_18 ⟨Nat.le_of_ble_eq_true rfl, Nat.le_of_ble_eq_true rfl⟩ (fun rv18 u18 H locs hp18 hI => ?_)
          have hI : jI G zA zs [oC g0 1 [.ref g1, .int (nI m)], aI G g1 500 f, oC u0 5 [.int (nI la), .int (nI lm), .int (nI lw)], oC d0 4 [.ref l0, .ref u0, .ref g0, .int (nI (8 * sz))], oC l0 1 [.ref l1, .int (nI sz)], aI G l1 700 L] H locs := hI
          subst hp18
          refine lv_goto (tgt := 29) zx zb dX4_readStep_21 (by decide) ?_
          have hR : rdS L (8 * sz) la lm lw all b m f = (1, b, m, f) := by rw [rdS, if_neg (by omega), if_pos c14, if_pos (by omega)]
          exact hQ _ _ _ _ _ ⟨8 * sz, m, f⟩ dX4_readStep_29 (hI.sub [3, 4, 5, 0, 1, 2] rfl rfl) (by (try dsimp only); exact ⟨(by rw [hR]), (by omega), (fun h => by rw [hR] at h; simp at h), hf, (fun h => by rw [hR] at h; simp at h)⟩)
        · have hnb := nb_lt L (b + 1) 8
          refine j_callVi (wr := [oC u0 5 [.int (nI la), .int (nI lm), .int (nI lw)]]) hC hI (c_X4_readByte_ok zl G d0 l0 l1 u0 g0 g1 (b + 1) sz L m f (by omega) (by omega) (by omega) (by omega) (by omega)) (cwV 0 hC.2.2.2.2.1 gX4_readStep_X4_readByte rfl rfl rfl (by decide +kernel) ⟨Nat.le_of_ble_eq_true rfl, Nat.le_of_ble_eq_true rfl⟩) [3, 4, 5, 0, 1] [2] rfl rfl rfl rfl rfl rfl (q0 := 0) rfl rfl rfl hl.1 (Nat.le_of_ble_eq_true rfl) dX4_readStep_18 ⟨Nat.le_of_ble_eq_true rfl, Nat.le_of_ble_eq_true rfl⟩ (fun rv18 u18 H locs hp18 hI => ?_)
          have hI : jI G zA zs [oC u0 5 [.int (nI la), .int (nI lm), .int (nI lw)], oC d0 4 [.ref l0, .ref u0, .ref g0, .int (nI ((b + 1) + 8))], oC l0 1 [.ref l1, .int (nI sz)], aI G l1 700 L, oC g0 1 [.ref g1, .int (nI (m + 1))], aI G g1 500 (up f m (nb L (b + 1) 8))] H locs := hI
          subst hp18
          refine lv_goto (tgt := 29) zx zb dX4_readStep_21 (by decide) ?_
          have hR : rdS L (8 * sz) la lm lw all b m f = (0, b + 1 + 8, m + 1, up f m (nb L (b + 1) 8)) := by rw [rdS, if_neg (by omega), if_pos c14, if_neg (by omega)]
          exact hQ _ _ _ _ _ ⟨(b + 1) + 8, m + 1, up f m (nb L (b + 1) 8)⟩ dX4_readStep_29 (hI.sub [1, 2, 3, 4, 5, 0] rfl rfl) (by (try dsimp only); exact ⟨(by rw [hR]), (by omega), (fun h => by rw [hR]; exact ⟨rfl, rfl, rfl⟩), (up_lt hf (by omega)), (fun h => by omega)⟩)
    · exact absurd c8 (nI_m1 (by omega))

theorem hin_X4_faultBehind_X4 : ∀ w ∈ wsX40, w ∈ wsX4_faultBehind := by decide +kernel
theorem hfl_X4_faultBehind_22 : Cond.fieldLink RX4 22 "CheapParse$Reader" "bits" "I" ∈ wsX4_faultBehind := by decide +kernel
theorem hfl_X4_faultBehind_9 : Cond.fieldLink RX4 9 "CheapParse$Reader" "source" "LCheapParse$Bytes;" ∈ wsX4_faultBehind := by decide +kernel
set_option maxHeartbeats 4000000 in
set_option maxRecDepth 100000 in
theorem c_X4_faultBehind (zl : Launch) (G : jG) (d0 : Nat) (l0 : Nat) (l1 : Nat) (u0 : Nat) (g0 : Nat) (b : Nat) (sz : Nat) (L : Nat → Nat) (hs : sz ≤ 700) (hLb : ∀ j, j < sz → L j < 256) (hbs : b ≤ 8 * sz) : jMet zl yX4_faultBehind wsX4_faultBehind ({ frames := 2, cells := 0, slots := 0, locals := 45 }) G [oC d0 4 [.ref l0, .ref u0, .ref g0, .int (nI b)], oC l0 1 [.ref l1, .int (nI sz)], aI G l1 700 L] [.ref d0] (jQi G (fun (r : Int32) (u : Unit) => (r = nI (rdB L (8 * sz) b))) (fun (u : Unit) => [oC d0 4 [.ref l0, .ref u0, .ref g0, .int (nI (b + (8 - b % 8) % 8))], oC l0 1 [.ref l1, .int (nI sz)], aI G l1 700 L])) 0 0 := by
  refine j_enter_i (cc := cX4_faultBehind) (nL := 2) (nm := "faultBehind") (own := RX4) (lv := [(0, .ref d0)]) (by decide) rfl (Nat.le_of_ble_eq_true rfl) rfl rfl rfl ?_
  intro zA zp ze zs zm zargs zbelow zmeth zc zQ ls hC hQ hI hl
  have zx := hC.1
  have zb := hC.2.1
  have hnb := nb_lt L b ((8 - b % 8) % 8)
  have hnb2 : 2 ^ ((8 - b % 8) % 8) ≤ 256 := tp_lt (by omega)
  refine lv_bipush (v := nI 8) zx zb dX4_faultBehind_0 (by decide) ?_
  refine lv_aload_n zx zb dX4_faultBehind_2 rfl (lv_at hl 0 rfl) ?_
  refine j_get hC hI hin_X4_faultBehind_X4 0 rfl rfl 3 (by decide) hfl_X4_faultBehind_22 rfl rfl dX4_faultBehind_3 ?_
  refine lv_bipush (v := nI 8) zx zb dX4_faultBehind_6 (by decide) ?_
  refine j_irem hC (by omega) (by omega) (by omega) dX4_faultBehind_8 ?_
  refine j_isub hC (by omega) dX4_faultBehind_9 ?_
  refine lv_bipush (v := nI 8) zx zb dX4_faultBehind_10 (by decide) ?_
  refine j_irem hC (by omega) (by omega) (by omega) dX4_faultBehind_12 ?_
  refine lv_istore_n (lv' := [(1, .int (nI ((8 - (b % 8)) % 8))), (0, .ref d0)]) zx zb dX4_faultBehind_13 rfl hl (by decide) rfl (fun ls hl => ?_)
  refine lv_aload_n zx zb dX4_faultBehind_14 rfl (lv_at hl 1 rfl) ?_
  refine lv_iload_n zx zb dX4_faultBehind_15 rfl (lv_at hl 0 rfl) ?_
  refine j_callVi (wr := []) hC hI (c_X4_number_ok zl G d0 l0 l1 u0 g0 b sz L ((8 - (b % 8)) % 8) (by omega) (by omega) (by omega) (by omega) (by omega)) (cwV 1 hC.2.2.2.2.1 gX4_faultBehind_X4_number rfl rfl rfl (by decide +kernel) ⟨Nat.le_of_ble_eq_true rfl, Nat.le_of_ble_eq_true rfl⟩) [0, 1, 2] [] rfl rfl rfl rfl rfl rfl (q0 := 0) rfl rfl rfl hl.1 (Nat.le_of_ble_eq_true rfl) dX4_faultBehind_16 ⟨Nat.le_of_ble_eq_true rfl, Nat.le_of_ble_eq_true rfl⟩ (fun rv16 u16 H locs hp16 hI => ?_)
  have hI : jI G zA zs [oC d0 4 [.ref l0, .ref u0, .ref g0, .int (nI (b + ((8 - (b % 8)) % 8)))], oC l0 1 [.ref l1, .int (nI sz)], aI G l1 700 L] H locs := hI
  subst hp16
  refine j_if_ne (tgt := 39) hC dX4_faultBehind_19 (by decide) (by omega) (fun c19 => ?_) (fun c19 => ?_)
  · refine lv_iconst (v := nI 5) zx zb dX4_faultBehind_39 (by decide) ?_
    exact hQ _ _ _ _ _ () dX4_faultBehind_40 (hI.sub [0, 1, 2] rfl rfl) (by rw [rdB, if_neg (fun h => c19 (by rw [show (8 - b % 8) % 8 = 8 * sz - b by omega]; exact h.2))])
  · refine lv_aload_n zx zb dX4_faultBehind_22 rfl (lv_at hl 1 rfl) ?_
    refine j_get hC hI hin_X4_faultBehind_X4 0 rfl rfl 3 (by decide) hfl_X4_faultBehind_22 rfl rfl dX4_faultBehind_23 ?_
    refine lv_bipush (v := nI 8) zx zb dX4_faultBehind_26 (by decide) ?_
    refine j_idiv hC (by omega) (by omega) (by omega) dX4_faultBehind_28 ?_
    refine lv_aload_n zx zb dX4_faultBehind_29 rfl (lv_at hl 1 rfl) ?_
    refine j_get hC hI hin_X4_faultBehind_X4 0 rfl rfl 0 (by decide) hfl_X4_faultBehind_9 rfl rfl dX4_faultBehind_30 ?_
    refine j_callVi (wr := [oC d0 4 [.ref l0, .ref u0, .ref g0, .int (nI (b + ((8 - (b % 8)) % 8)))], aI G l1 700 L]) hC hI (c_X1_size zl G l0 l1 sz ) (cwV 0 hC.2.2.2.2.1 gX4_faultBehind_X1_size rfl rfl rfl (by decide +kernel) ⟨Nat.le_of_ble_eq_true rfl, Nat.le_of_ble_eq_true rfl⟩) [1] [0, 2] rfl rfl rfl rfl rfl rfl (q0 := 0) rfl rfl rfl hl.1 (Nat.le_of_ble_eq_true rfl) dX4_faultBehind_33 ⟨Nat.le_of_ble_eq_true rfl, Nat.le_of_ble_eq_true rfl⟩ (fun rv33 u33 H locs hp33 hI => ?_)
    have hI : jI G zA zs [oC d0 4 [.ref l0, .ref u0, .ref g0, .int (nI (b + ((8 - (b % 8)) % 8)))], aI G l1 700 L, oC l0 1 [.ref l1, .int (nI sz)]] H locs := hI
    subst hp33
    refine j_icmp_eq (tgt := 41) hC dX4_faultBehind_36 (by decide) (by omega) (by omega) (fun c36 => ?_) (fun c36 => ?_)
    · refine lv_iconst (v := nI 0) zx zb dX4_faultBehind_41 (by decide) ?_
      exact hQ _ _ _ _ _ () dX4_faultBehind_42 (hI.sub [0, 2, 1] rfl rfl) (by rw [rdB, if_pos ⟨by omega, by rw [show 8 * sz - b = (8 - b % 8) % 8 by omega]; exact c19⟩])
    · refine lv_iconst (v := nI 5) zx zb dX4_faultBehind_39 (by decide) ?_
      exact hQ _ _ _ _ _ () dX4_faultBehind_40 (hI.sub [0, 2, 1] rfl rfl) (by rw [rdB, if_neg (fun h => by omega)])

theorem hin_X4_readText_X4 : ∀ w ∈ wsX40, w ∈ wsX4_readText := by decide +kernel
theorem hfl_X4_readText_22 : Cond.fieldLink RX4 22 "CheapParse$Reader" "bits" "I" ∈ wsX4_readText := by decide +kernel
theorem hfl_X4_readText_19 : Cond.fieldLink RX4 19 "CheapParse$Reader" "made" "LCheapParse$Bytes;" ∈ wsX4_readText := by decide +kernel
set_option maxHeartbeats 4000000 in
set_option maxRecDepth 100000 in
theorem c_X4_readText (zl : Launch) (G : jG) (d0 : Nat) (l0 : Nat) (l1 : Nat) (u0 : Nat) (g0 : Nat) (g1 : Nat) (b : Nat) (sz : Nat) (L : Nat → Nat) (la : Nat) (lm : Nat) (lw : Nat) (m : Nat) (f : Nat → Nat) (hs : sz ≤ 700) (hLb : ∀ j, j < sz → L j < 256) (hl0 : 1 ≤ la ∧ la ≤ lm ∧ lm ≤ 255 ∧ lw ≤ 500) : jMet zl yX4_readText wsX4_readText ({ frames := 5, cells := 0, slots := 0, locals := 114 }) G [oC d0 4 [.ref l0, .ref u0, .ref g0, .int (nI b)], oC l0 1 [.ref l1, .int (nI sz)], aI G l1 700 L, oC g0 1 [.ref g1, .int (nI m)], aI G g1 500 f, oC u0 5 [.int (nI la), .int (nI lm), .int (nI lw)]] [.ref d0] (jQi G (fun (r : Int32) (u : Nat × Nat × (Nat → Nat)) => (r = nI ((rdT L (8 * sz) la lm lw f).1)) ∧ (u.2.1 ≤ 500) ∧ ((rdT L (8 * sz) la lm lw f).1 = 0 → u.2.1 = nb L 0 16 ∧ u.2.2 = (rdT L (8 * sz) la lm lw f).2) ∧ ((rdT L (8 * sz) la lm lw f).1 = 0 → ∀ j, j < u.2.1 → u.2.2 j < 256)) (fun (u : Nat × Nat × (Nat → Nat)) => [oC d0 4 [.ref l0, .ref u0, .ref g0, .int (nI u.1)], oC l0 1 [.ref l1, .int (nI sz)], aI G l1 700 L, oC g0 1 [.ref g1, .int (nI u.2.1)], aI G g1 500 u.2.2, oC u0 5 [.int (nI la), .int (nI lm), .int (nI lw)]])) 0 0 := by
  refine j_enter_i (cc := cX4_readText) (nL := 4) (nm := "readText") (own := RX4) (lv := [(0, .ref d0)]) (by decide) rfl (Nat.le_of_ble_eq_true rfl) rfl rfl rfl ?_
  intro zA zp ze zs zm zargs zbelow zmeth zc zQ ls hC hQ hI hl
  have zx := hC.1
  have zb := hC.2.1
  refine lv_aload_n zx zb dX4_readText_0 rfl (lv_at hl 0 rfl) ?_
  refine lv_iconst (v := nI 0) zx zb dX4_readText_1 (by decide) ?_
  refine j_put (w1 := [oC d0 4 [.ref l0, .ref u0, .ref g0, .int (nI 0)], oC l0 1 [.ref l1, .int (nI sz)], aI G l1 700 L, oC g0 1 [.ref g1, .int (nI m)], aI G g1 500 f, oC u0 5 [.int (nI la), .int (nI lm), .int (nI lw)]]) hC hI hin_X4_readText_X4 tyX4 tyX4_ok nmX4 0 rfl rfl 3 (by decide) hfl_X4_readText_22 rfl rfl rfl rfl (Nat.le_of_ble_eq_true rfl) dX4_readText_2 rfl (fun H locs hI => ?_)
  refine lv_aload_n zx zb dX4_readText_5 rfl (lv_at hl 0 rfl) ?_
  refine j_get hC hI hin_X4_readText_X4 0 rfl rfl 2 (by decide) hfl_X4_readText_19 rfl rfl dX4_readText_6 ?_
  refine j_callVv (wr := [oC d0 4 [.ref l0, .ref u0, .ref g0, .int (nI 0)], oC l0 1 [.ref l1, .int (nI sz)], aI G l1 700 L, aI G g1 500 f, oC u0 5 [.int (nI la), .int (nI lm), .int (nI lw)]]) hC hI (c_X1_empty zl G g0 g1 m ) (cwV 0 hC.2.2.2.2.1 gX4_readText_X1_empty rfl rfl rfl (by decide +kernel) ⟨Nat.le_of_ble_eq_true rfl, Nat.le_of_ble_eq_true rfl⟩) [3] [0, 1, 2, 4, 5] rfl rfl rfl rfl rfl rfl (q0 := 0) rfl rfl rfl hl.1 (Nat.le_of_ble_eq_true rfl) dX4_readText_9 ⟨Nat.le_of_ble_eq_true rfl, Nat.le_of_ble_eq_true rfl⟩ (fun u9 H locs hp9 hI => ?_)
  have hI : jI G zA zs [oC d0 4 [.ref l0, .ref u0, .ref g0, .int (nI 0)], oC l0 1 [.ref l1, .int (nI sz)], aI G l1 700 L, aI G g1 500 f, oC u0 5 [.int (nI la), .int (nI lm), .int (nI lw)], oC g0 1 [.ref g1, .int (nI 0)]] H locs := hI
  refine lv_aload_n zx zb dX4_readText_12 rfl (lv_at hl 0 rfl) ?_
  refine lv_bipush (v := nI 16) zx zb dX4_readText_13 (by decide) ?_
  rcases Nat.lt_or_ge (8 * sz) 16 with hc | hc
  · refine j_callVi (wr := [aI G g1 500 f, oC u0 5 [.int (nI la), .int (nI lm), .int (nI lw)], oC g0 1 [.ref g1, .int (nI 0)]]) hC hI (c_X4_number_end zl G d0 l0 l1 u0 g0 0 sz L 16 (by omega) (by omega) (by omega) (by omega) (by omega)) (cwV 1 hC.2.2.2.2.1 gX4_readText_X4_number rfl rfl rfl (by decide +kernel) ⟨Nat.le_of_ble_eq_true rfl, Nat.le_of_ble_eq_true rfl⟩) [0, 1, 2] [3, 4, 5] rfl rfl rfl rfl rfl rfl (q0 := 0) rfl rfl rfl hl.1 (Nat.le_of_ble_eq_true rfl) dX4_readText_15 ⟨Nat.le_of_ble_eq_true rfl, Nat.le_of_ble_eq_true rfl⟩ (fun rv15 u15 H locs hp15 hI => ?_)
    have hI : jI G zA zs [aI G g1 500 f, oC u0 5 [.int (nI la), .int (nI lm), .int (nI lw)], oC g0 1 [.ref g1, .int (nI 0)], oC d0 4 [.ref l0, .ref u0, .ref g0, .int (nI (8 * sz))], oC l0 1 [.ref l1, .int (nI sz)], aI G l1 700 L] H locs := hI
    subst hp15
    refine lv_istore_n (lv' := [(1, .int ((-1))), (0, .ref d0)]) zx zb dX4_readText_18 rfl hl (by decide) rfl (fun ls hl => ?_)
    refine lv_iload_n zx zb dX4_readText_19 rfl (lv_at hl 0 rfl) ?_
    refine lv_iconst (v := (-1)) zx zb dX4_readText_20 (by decide) ?_
    refine lv_icmp_ne (tgt := 26) zx zb dX4_readText_21 (by decide) (fun c21 => ?_) (fun c21 => ?_)
    · exact absurd rfl c21
    · refine lv_iconst (v := nI 1) zx zb dX4_readText_24 (by decide) ?_
      have hR : rdT L (8 * sz) la lm lw f = (1, f) := by rw [rdT, if_pos (by omega)]
      exact hQ _ _ _ _ _ ⟨8 * sz, 0, f⟩ dX4_readText_25 (hI.sub [3, 4, 5, 2, 0, 1] rfl rfl) (by (try dsimp only); exact ⟨(by rw [hR]), (by omega), (fun h => by rw [hR] at h; simp at h), (fun h => by rw [hR] at h; simp at h)⟩)
  · have hnb := nb_lt L 0 16
    refine j_callVi (wr := [aI G g1 500 f, oC u0 5 [.int (nI la), .int (nI lm), .int (nI lw)], oC g0 1 [.ref g1, .int (nI 0)]]) hC hI (c_X4_number_ok zl G d0 l0 l1 u0 g0 0 sz L 16 (by omega) (by omega) (by omega) (by omega) (by omega)) (cwV 1 hC.2.2.2.2.1 gX4_readText_X4_number rfl rfl rfl (by decide +kernel) ⟨Nat.le_of_ble_eq_true rfl, Nat.le_of_ble_eq_true rfl⟩) [0, 1, 2] [3, 4, 5] rfl rfl rfl rfl rfl rfl (q0 := 0) rfl rfl rfl hl.1 (Nat.le_of_ble_eq_true rfl) dX4_readText_15 ⟨Nat.le_of_ble_eq_true rfl, Nat.le_of_ble_eq_true rfl⟩ (fun rv15 u15 H locs hp15 hI => ?_)
    have hI : jI G zA zs [aI G g1 500 f, oC u0 5 [.int (nI la), .int (nI lm), .int (nI lw)], oC g0 1 [.ref g1, .int (nI 0)], oC d0 4 [.ref l0, .ref u0, .ref g0, .int (nI (0 + 16))], oC l0 1 [.ref l1, .int (nI sz)], aI G l1 700 L] H locs := hI
    subst hp15
    refine lv_istore_n (lv' := [(1, .int (nI (nb L 0 16))), (0, .ref d0)]) zx zb dX4_readText_18 rfl hl (by decide) rfl (fun ls hl => ?_)
    refine lv_iload_n zx zb dX4_readText_19 rfl (lv_at hl 0 rfl) ?_
    refine lv_iconst (v := (-1)) zx zb dX4_readText_20 (by decide) ?_
    refine lv_icmp_ne (tgt := 26) zx zb dX4_readText_21 (by decide) (fun c21 => ?_) (fun c21 => ?_)
    · refine lv_iload_n zx zb dX4_readText_26 rfl (lv_at hl 0 rfl) ?_
      refine lv_sipush (v := nI 500) zx zb dX4_readText_27 (by decide) ?_
      refine j_icmp_le (tgt := 35) hC dX4_readText_30 (by decide) (by omega) (by omega) (fun c30 => ?_) (fun c30 => ?_)
      · refine lv_iconst (v := nI 0) zx zb dX4_readText_35 (by decide) ?_
        refine lv_istore_n (lv' := [(2, .int (nI 0)), (1, .int (nI (nb L 0 16))), (0, .ref d0)]) zx zb dX4_readText_36 rfl hl (by decide) rfl (fun ls hl => ?_)
        have loop37 : ∀ (zn37 : Nat) (i : Nat) (b3 : Nat) (m3 : Nat) (f3 : Nat → Nat), (i ≤ m3 ∧ i ≤ 500) → (b3 ≤ 8 * sz ∧ m3 ≤ nb L 0 16) → (rdL L (8 * sz) la lm lw (nb L 0 16) (500 - i) b3 m3 f3 = rdL L (8 * sz) la lm lw (nb L 0 16) 500 16 0 f) → (∀ j, j < m3 → f3 j < 256) → (500 - i) < zn37 → ∀ (H : Heap) (locs : List Loc) (ls : Array Slot), jI G zA zs [oC d0 4 [.ref l0, .ref u0, .ref g0, .int (nI b3)], oC l0 1 [.ref l1, .int (nI sz)], aI G l1 700 L, oC g0 1 [.ref g1, .int (nI m3)], aI G g1 500 f3, oC u0 5 [.int (nI la), .int (nI lm), .int (nI lw)]] H locs → lv_has ls 4 [(0, .ref d0), (1, .int (nI (nb L 0 16))), (2, .int (nI i))] → W zp zl ze ({ frames := 5, cells := 0, slots := 0, locals := 114 }) zs zm zargs zbelow zmeth zc H locs 0 0 zQ (F0 zm 37 ls []) := by
          intro zn37
          induction zn37 with
          | zero => intros; omega
          | succ zn37 ih37 =>
            intro i b3 m3 f3 hi hb hx hf3 zm37 H locs ls hI hl
            refine lv_iload_n zx zb dX4_readText_37 rfl (lv_at hl 2 rfl) ?_
            refine lv_sipush (v := nI 500) zx zb dX4_readText_38 (by decide) ?_
            refine j_icmp_ge (tgt := 73) hC dX4_readText_41 (by decide) (by omega) (by omega) (fun c41 => ?_) (fun c41 => ?_)
            · refine lv_aload_n zx zb dX4_readText_73 rfl (lv_at hl 0 rfl) ?_
              refine j_callVi (wr := [oC g0 1 [.ref g1, .int (nI m3)], aI G g1 500 f3, oC u0 5 [.int (nI la), .int (nI lm), .int (nI lw)]]) hC hI (c_X4_faultBehind zl G d0 l0 l1 u0 g0 b3 sz L (by omega) (by omega) (by omega)) (cwV 0 hC.2.2.2.2.1 gX4_readText_X4_faultBehind rfl rfl rfl (by decide +kernel) ⟨Nat.le_of_ble_eq_true rfl, Nat.le_of_ble_eq_true rfl⟩) [0, 1, 2] [3, 4, 5] rfl rfl rfl rfl rfl rfl (q0 := 0) rfl rfl rfl hl.1 (Nat.le_of_ble_eq_true rfl) dX4_readText_74 ⟨Nat.le_of_ble_eq_true rfl, Nat.le_of_ble_eq_true rfl⟩ (fun rv74 u74 H locs hp74 hI => ?_)
              have hI : jI G zA zs [oC g0 1 [.ref g1, .int (nI m3)], aI G g1 500 f3, oC u0 5 [.int (nI la), .int (nI lm), .int (nI lw)], oC d0 4 [.ref l0, .ref u0, .ref g0, .int (nI (b3 + (8 - b3 % 8) % 8))], oC l0 1 [.ref l1, .int (nI sz)], aI G l1 700 L] H locs := hI
              subst hp74
              rw [rdL_done (by omega)] at hx
              have hR : rdT L (8 * sz) la lm lw f = (rdB L (8 * sz) b3, f3) := by rw [rdT, if_neg (by omega), if_neg (by omega), ← hx, if_pos rfl]
              exact hQ _ _ _ _ _ ⟨b3 + (8 - b3 % 8) % 8, m3, f3⟩ dX4_readText_77 (hI.sub [3, 4, 5, 0, 1, 2] rfl rfl) (by (try dsimp only); exact ⟨(by rw [hR]), (by omega), (fun h => ⟨by omega, by rw [hR]⟩), (fun h => hf3)⟩)
            · refine lv_aload_n zx zb dX4_readText_44 rfl (lv_at hl 0 rfl) ?_
              refine j_get hC hI hin_X4_readText_X4 0 rfl rfl 2 (by decide) hfl_X4_readText_19 rfl rfl dX4_readText_45 ?_
              refine j_callVi (wr := [oC d0 4 [.ref l0, .ref u0, .ref g0, .int (nI b3)], oC l0 1 [.ref l1, .int (nI sz)], aI G l1 700 L, aI G g1 500 f3, oC u0 5 [.int (nI la), .int (nI lm), .int (nI lw)]]) hC hI (c_X1_size zl G g0 g1 m3 ) (cwV 0 hC.2.2.2.2.1 gX4_readText_X1_size rfl rfl rfl (by decide +kernel) ⟨Nat.le_of_ble_eq_true rfl, Nat.le_of_ble_eq_true rfl⟩) [3] [0, 1, 2, 4, 5] rfl rfl rfl rfl rfl rfl (q0 := 0) rfl rfl rfl hl.1 (Nat.le_of_ble_eq_true rfl) dX4_readText_48 ⟨Nat.le_of_ble_eq_true rfl, Nat.le_of_ble_eq_true rfl⟩ (fun rv48 u48 H locs hp48 hI => ?_)
              have hI : jI G zA zs [oC d0 4 [.ref l0, .ref u0, .ref g0, .int (nI b3)], oC l0 1 [.ref l1, .int (nI sz)], aI G l1 700 L, aI G g1 500 f3, oC u0 5 [.int (nI la), .int (nI lm), .int (nI lw)], oC g0 1 [.ref g1, .int (nI m3)]] H locs := hI
              subst hp48
              refine lv_iload_n zx zb dX4_readText_51 rfl (lv_at hl 1 rfl) ?_
              refine j_icmp_ge (tgt := 73) hC dX4_readText_52 (by decide) (by omega) (by omega) (fun c52 => ?_) (fun c52 => ?_)
              · refine lv_aload_n zx zb dX4_readText_73 rfl (lv_at hl 0 rfl) ?_
                refine j_callVi (wr := [aI G g1 500 f3, oC u0 5 [.int (nI la), .int (nI lm), .int (nI lw)], oC g0 1 [.ref g1, .int (nI m3)]]) hC hI (c_X4_faultBehind zl G d0 l0 l1 u0 g0 b3 sz L (by omega) (by omega) (by omega)) (cwV 0 hC.2.2.2.2.1 gX4_readText_X4_faultBehind rfl rfl rfl (by decide +kernel) ⟨Nat.le_of_ble_eq_true rfl, Nat.le_of_ble_eq_true rfl⟩) [0, 1, 2] [3, 4, 5] rfl rfl rfl rfl rfl rfl (q0 := 0) rfl rfl rfl hl.1 (Nat.le_of_ble_eq_true rfl) dX4_readText_74 ⟨Nat.le_of_ble_eq_true rfl, Nat.le_of_ble_eq_true rfl⟩ (fun rv74 u74 H locs hp74 hI => ?_)
                have hI : jI G zA zs [aI G g1 500 f3, oC u0 5 [.int (nI la), .int (nI lm), .int (nI lw)], oC g0 1 [.ref g1, .int (nI m3)], oC d0 4 [.ref l0, .ref u0, .ref g0, .int (nI (b3 + (8 - b3 % 8) % 8))], oC l0 1 [.ref l1, .int (nI sz)], aI G l1 700 L] H locs := hI
                subst hp74
                rw [rdL_done (by omega)] at hx
                have hR : rdT L (8 * sz) la lm lw f = (rdB L (8 * sz) b3, f3) := by rw [rdT, if_neg (by omega), if_neg (by omega), ← hx, if_pos rfl]
                exact hQ _ _ _ _ _ ⟨b3 + (8 - b3 % 8) % 8, m3, f3⟩ dX4_readText_77 (hI.sub [3, 4, 5, 2, 0, 1] rfl rfl) (by (try dsimp only); exact ⟨(by rw [hR]), (by omega), (fun h => ⟨by omega, by rw [hR]⟩), (fun h => hf3)⟩)
              · refine lv_aload_n zx zb dX4_readText_55 rfl (lv_at hl 0 rfl) ?_
                refine lv_iload_n zx zb dX4_readText_56 rfl (lv_at hl 1 rfl) ?_
                refine j_callVi (wr := []) hC hI (c_X4_readStep zl G d0 l0 l1 u0 g0 g1 b3 sz L la lm lw (nb L 0 16) m3 f3 (by omega) (by omega) (by omega) (by omega) (by omega) hf3 (by omega)) (cwV 1 hC.2.2.2.2.1 gX4_readText_X4_readStep rfl rfl rfl (by decide +kernel) ⟨Nat.le_of_ble_eq_true rfl, Nat.le_of_ble_eq_true rfl⟩) [0, 1, 2, 5, 3, 4] [] rfl rfl rfl rfl rfl rfl (q0 := 0) rfl rfl rfl hl.1 (Nat.le_of_ble_eq_true rfl) dX4_readText_57 ⟨Nat.le_of_ble_eq_true rfl, Nat.le_of_ble_eq_true rfl⟩ (fun rv57 u57 H locs hp57 hI => ?_)
                obtain ⟨v57_0, v57_1, v57_2⟩ := u57
                have hI : jI G zA zs [oC d0 4 [.ref l0, .ref u0, .ref g0, .int (nI v57_0)], oC l0 1 [.ref l1, .int (nI sz)], aI G l1 700 L, oC g0 1 [.ref g1, .int (nI v57_1)], aI G g1 500 v57_2, oC u0 5 [.int (nI la), .int (nI lm), .int (nI lw)]] H locs := hI
                dsimp only at hp57
                obtain ⟨rfl, f57_0, f57_1, f57_2, f57_3⟩ := hp57
                have hfl := fstS_lt (L := L) (e := 8 * sz) (la := la) (lm := lm) (lw := lw) (all := nb L 0 16) (b := b3) (m := m3) (f := f3)
                refine lv_istore_n (lv' := [(3, .int (nI ((rdS L (8 * sz) la lm lw (nb L 0 16) b3 m3 f3).1))), (0, .ref d0), (1, .int (nI (nb L 0 16))), (2, .int (nI i))]) zx zb dX4_readText_60 rfl hl (by decide) rfl (fun ls hl => ?_)
                refine lv_iload_n zx zb dX4_readText_61 rfl (lv_at hl 0 rfl) ?_
                refine j_if_eq (tgt := 67) hC dX4_readText_62 (by decide) (by omega) (fun c62 => ?_) (fun c62 => ?_)
                · refine lv_iinc (v := nI (i + 1)) (lv' := [(2, .int (nI (i + 1))), (3, .int (nI ((rdS L (8 * sz) la lm lw (nb L 0 16) b3 m3 f3).1))), (0, .ref d0), (1, .int (nI (nb L 0 16)))]) zx zb dX4_readText_67 hl (k := 3) rfl (j_inc _ _ _ (by decide)) (by decide) rfl (fun ls hl => ?_)
                  refine lv_goto (tgt := 37) zx zb dX4_readText_70 (by decide) ?_
                  exact ih37 (i + 1) v57_0 v57_1 v57_2 (by have := f57_3 c62; omega) (by omega) (by rw [← hx, rdL_go (by omega) (by omega) c62, (f57_1 c62).1, (f57_1 c62).2.1, (f57_1 c62).2.2, show 500 - i - 1 = 500 - (i + 1) by omega]) f57_2 (by omega) _ _ _ hI (lv_sub hl [2, 3, 0] rfl)
                · refine lv_iload_n zx zb dX4_readText_65 rfl (lv_at hl 0 rfl) ?_
                  rw [rdL_bad (by omega) (by omega) c62] at hx
                  have hR : (rdT L (8 * sz) la lm lw f).1 = (rdS L (8 * sz) la lm lw (nb L 0 16) b3 m3 f3).1 := by rw [rdT, if_neg (by omega), if_neg (by omega), ← hx, if_neg c62]
                  exact hQ _ _ _ _ _ ⟨v57_0, v57_1, v57_2⟩ dX4_readText_66 (hI.sub [0, 1, 2, 3, 4, 5] rfl rfl) (by (try dsimp only); exact ⟨(by rw [hR]), (by omega), (fun h => absurd (hR ▸ h) c62), (fun h => absurd (hR ▸ h) c62)⟩)
        exact loop37 _ 0 (0 + 16) 0 f (by omega) (by omega) rfl (fun j h => by omega) (Nat.lt_succ_self _) _ _ _ (hI.sub [3, 4, 5, 2, 0, 1] rfl rfl) (lv_sub hl [2, 1, 0] rfl)
      · refine lv_iconst (v := nI 2) zx zb dX4_readText_33 (by decide) ?_
        have hR : rdT L (8 * sz) la lm lw f = (2, f) := by rw [rdT, if_neg (by omega), if_pos (by omega)]
        exact hQ _ _ _ _ _ ⟨0 + 16, 0, f⟩ dX4_readText_34 (hI.sub [3, 4, 5, 2, 0, 1] rfl rfl) (by (try dsimp only); exact ⟨(by rw [hR]), (by omega), (fun h => by rw [hR] at h; simp at h), (fun h => by rw [hR] at h; simp at h)⟩)
    · exact absurd c21 (nI_m1 (by omega))

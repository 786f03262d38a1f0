set_option maxHeartbeats 4000000 in
set_option maxRecDepth 100000 in
theorem c_X8_classOf (zl : Launch) (G : jG) (n : Nat) (hn : n < 2147483648) : jMet zl yX8_classOf wsX8_classOf ({ frames := 0, cells := 0, slots := 0, locals := 0 }) G [] [.int (nI n)] (jQi G (fun (r : Int32) (u : Unit) => (r = nI n.log2)) (fun (u : Unit) => [])) 0 0 := by
  refine j_enter_i (cc := cX8_classOf) (nL := 3) (nm := "classOf") (own := RX8) (lv := [(0, .int (nI n))]) (by decide) rfl (Nat.le_of_ble_eq_true rfl) rfl rfl rfl ?_
  intro zA zp ze zs zm zargs zbelow zmeth zc zQ ls hC hQ hI hl
  have zx := hC.1
  have zb := hC.2.1
  refine lv_iconst (v := nI 0) zx zb dX8_classOf_0 (by decide) ?_
  refine lv_istore_n (lv' := [(1, .int (nI 0)), (0, .int (nI n))]) zx zb dX8_classOf_1 rfl hl (by decide) rfl (fun ls hl => ?_)
  refine lv_iconst (v := nI 1) zx zb dX8_classOf_2 (by decide) ?_
  refine lv_istore_n (lv' := [(2, .int (nI 1)), (1, .int (nI 0)), (0, .int (nI n))]) zx zb dX8_classOf_3 rfl hl (by decide) rfl (fun ls hl => ?_)
  have loop4 : ∀ (zn4 : Nat) (i : Nat) (h : Nat), (1 ≤ i ∧ i ≤ 31) → (h + 1 = i) → (i = 1 ∨ 2 ^ (i - 1) ≤ n) → (31 - i) < zn4 → ∀ (H : Heap) (locs : List Loc) (ls : Array Slot), jI G zA zs [] H locs → lv_has ls 3 [(0, .int (nI n)), (1, .int (nI h)), (2, .int (nI i))] → W zp zl ze ({ frames := 0, cells := 0, slots := 0, locals := 0 }) zs zm zargs zbelow zmeth zc H locs 0 0 zQ (F0 zm 4 ls []) := by
    intro zn4
    induction zn4 with
    | zero => intros; omega
    | succ zn4 ih4 =>
      intro i h h1 h2 h3 zm4 H locs ls hI hl
      refine lv_iload_n zx zb dX8_classOf_4 rfl (lv_at hl 2 rfl) ?_
      refine lv_bipush (v := nI 31) zx zb dX8_classOf_5 (by decide) ?_
      refine j_icmp_ge (tgt := 24) hC dX8_classOf_7 (by decide) (by omega) (by omega) (fun c7 => ?_) (fun c7 => ?_)
      · refine lv_iload_n zx zb dX8_classOf_24 rfl (lv_at hl 1 rfl) ?_
        exact hQ _ _ _ _ _ () dX8_classOf_25 (hI.sub [] rfl rfl) (congrArg nI (cl_eq h1.1 h2 h3 (by rw [show i = 31 by omega]; exact hn)))
      · refine lv_iload_n zx zb dX8_classOf_10 rfl (lv_at hl 0 rfl) ?_
        refine lv_iload_n zx zb dX8_classOf_11 rfl (lv_at hl 2 rfl) ?_
        refine j_ishr hC (by omega) (by omega) dX8_classOf_12 ?_
        refine j_if_le (tgt := 24) hC dX8_classOf_13 (by decide) (Nat.lt_of_le_of_lt (Nat.div_le_self _ _) hn) (fun c13 => ?_) (fun c13 => ?_)
        · refine lv_iload_n zx zb dX8_classOf_24 rfl (lv_at hl 1 rfl) ?_
          exact hQ _ _ _ _ _ () dX8_classOf_25 (hI.sub [] rfl rfl) (congrArg nI (cl_eq h1.1 h2 h3 (cl_lt c13)))
        · refine lv_iload_n zx zb dX8_classOf_16 rfl (lv_at hl 2 rfl) ?_
          refine lv_istore_n (lv' := [(1, .int (nI i)), (0, .int (nI n)), (2, .int (nI i))]) zx zb dX8_classOf_17 rfl hl (by decide) rfl (fun ls hl => ?_)
          refine lv_iinc (v := nI (i + 1)) (lv' := [(2, .int (nI (i + 1))), (1, .int (nI i)), (0, .int (nI n))]) zx zb dX8_classOf_18 hl (k := 2) rfl (j_inc _ _ _ (by decide)) (by decide) rfl (fun ls hl => ?_)
          refine lv_goto (tgt := 4) zx zb dX8_classOf_21 (by decide) ?_
          exact ih4 (i + 1) i (by omega) (by omega) (Or.inr (cl_ge c13)) (by omega) _ _ _ hI (lv_sub hl [2, 1, 0] rfl)
  exact loop4 _ 1 0 (by omega) (by omega) (by omega) (Nat.lt_succ_self _) _ _ _ hI (lv_sub hl [2, 1, 0] rfl)

theorem hin_X5_least_X5 : ∀ w ∈ wsX50, w ∈ wsX5_least := by decide +kernel
theorem hfl_X5_least_9 : Cond.fieldLink RX5 9 "CheapParse$Rules" "least" "I" ∈ wsX5_least := by decide +kernel
set_option maxHeartbeats 4000000 in
set_option maxRecDepth 100000 in
theorem c_X5_least (zl : Launch) (G : jG) (h0 : Nat) (la : Nat) (lm : Nat) (lw : Nat)  : jMet zl yX5_least wsX5_least ({ frames := 0, cells := 0, slots := 0, locals := 0 }) G [oC h0 5 [.int (nI la), .int (nI lm), .int (nI lw)]] [.ref h0] (jQi G (fun (r : Int32) (u : Unit) => (r = nI la)) (fun (u : Unit) => [oC h0 5 [.int (nI la), .int (nI lm), .int (nI lw)]])) 0 0 := by
  refine j_enter_i (cc := cX5_least) (nL := 1) (nm := "least") (own := RX5) (lv := [(0, .ref h0)]) (by decide) rfl (Nat.le_of_ble_eq_true rfl) rfl rfl rfl ?_
  intro zA zp ze zs zm zargs zbelow zmeth zc zQ ls hC hQ hI hl
  have zx := hC.1
  have zb := hC.2.1
  refine lv_aload_n zx zb dX5_least_0 rfl (lv_at hl 0 rfl) ?_
  refine j_get hC hI hin_X5_least_X5 0 rfl rfl 0 (by decide) hfl_X5_least_9 rfl rfl dX5_least_1 ?_
  exact hQ _ _ _ _ _ () dX5_least_4 (hI.sub [0] rfl rfl) (by first | rfl | (congr 1; omega) | omega)

theorem hin_X5_most_X5 : ∀ w ∈ wsX50, w ∈ wsX5_most := by decide +kernel
theorem hfl_X5_most_15 : Cond.fieldLink RX5 15 "CheapParse$Rules" "most" "I" ∈ wsX5_most := by decide +kernel
set_option maxHeartbeats 4000000 in
set_option maxRecDepth 100000 in
theorem c_X5_most (zl : Launch) (G : jG) (h0 : Nat) (la : Nat) (lm : Nat) (lw : Nat)  : jMet zl yX5_most wsX5_most ({ frames := 0, cells := 0, slots := 0, locals := 0 }) G [oC h0 5 [.int (nI la), .int (nI lm), .int (nI lw)]] [.ref h0] (jQi G (fun (r : Int32) (u : Unit) => (r = nI lm)) (fun (u : Unit) => [oC h0 5 [.int (nI la), .int (nI lm), .int (nI lw)]])) 0 0 := by
  refine j_enter_i (cc := cX5_most) (nL := 1) (nm := "most") (own := RX5) (lv := [(0, .ref h0)]) (by decide) rfl (Nat.le_of_ble_eq_true rfl) rfl rfl rfl ?_
  intro zA zp ze zs zm zargs zbelow zmeth zc zQ ls hC hQ hI hl
  have zx := hC.1
  have zb := hC.2.1
  refine lv_aload_n zx zb dX5_most_0 rfl (lv_at hl 0 rfl) ?_
  refine j_get hC hI hin_X5_most_X5 0 rfl rfl 1 (by decide) hfl_X5_most_15 rfl rfl dX5_most_1 ?_
  exact hQ _ _ _ _ _ () dX5_most_4 (hI.sub [0] rfl rfl) (by first | rfl | (congr 1; omega) | omega)

theorem hin_X5_window_X5 : ∀ w ∈ wsX50, w ∈ wsX5_window := by decide +kernel
theorem hfl_X5_window_18 : Cond.fieldLink RX5 18 "CheapParse$Rules" "window" "I" ∈ wsX5_window := by decide +kernel
set_option maxHeartbeats 4000000 in
set_option maxRecDepth 100000 in
theorem c_X5_window (zl : Launch) (G : jG) (h0 : Nat) (la : Nat) (lm : Nat) (lw : Nat)  : jMet zl yX5_window wsX5_window ({ frames := 0, cells := 0, slots := 0, locals := 0 }) G [oC h0 5 [.int (nI la), .int (nI lm), .int (nI lw)]] [.ref h0] (jQi G (fun (r : Int32) (u : Unit) => (r = nI lw)) (fun (u : Unit) => [oC h0 5 [.int (nI la), .int (nI lm), .int (nI lw)]])) 0 0 := by
  refine j_enter_i (cc := cX5_window) (nL := 1) (nm := "window") (own := RX5) (lv := [(0, .ref h0)]) (by decide) rfl (Nat.le_of_ble_eq_true rfl) rfl rfl rfl ?_
  intro zA zp ze zs zm zargs zbelow zmeth zc zQ ls hC hQ hI hl
  have zx := hC.1
  have zb := hC.2.1
  refine lv_aload_n zx zb dX5_window_0 rfl (lv_at hl 0 rfl) ?_
  refine j_get hC hI hin_X5_window_X5 0 rfl rfl 2 (by decide) hfl_X5_window_18 rfl rfl dX5_window_1 ?_
  exact hQ _ _ _ _ _ () dX5_window_4 (hI.sub [0] rfl rfl) (by first | rfl | (congr 1; omega) | omega)

theorem hin_X5_change_X5 : ∀ w ∈ wsX50, w ∈ wsX5_change := by decide +kernel
theorem hfl_X5_change_9 : Cond.fieldLink RX5 9 "CheapParse$Rules" "least" "I" ∈ wsX5_change := by decide +kernel
theorem hfl_X5_change_15 : Cond.fieldLink RX5 15 "CheapParse$Rules" "most" "I" ∈ wsX5_change := by decide +kernel
theorem hfl_X5_change_18 : Cond.fieldLink RX5 18 "CheapParse$Rules" "window" "I" ∈ wsX5_change := by decide +kernel
set_option maxHeartbeats 4000000 in
set_option maxRecDepth 100000 in
theorem c_X5_change (zl : Launch) (G : jG) (h0 : Nat) (la : Nat) (lm : Nat) (lw : Nat) (a : Int32) (m : Int32) (w : Int32)  : jMet zl yX5_change wsX5_change ({ frames := 0, cells := 0, slots := 0, locals := 0 }) G [oC h0 5 [.int (nI la), .int (nI lm), .int (nI lw)]] [.ref h0, .int a, .int m, .int w] (jQi G (fun (r : Int32) (u : Nat × Nat × Nat) => (lim_rel la lm lw a m w r u.1 u.2.1 u.2.2)) (fun (u : Nat × Nat × Nat) => [oC h0 5 [.int (nI u.1), .int (nI u.2.1), .int (nI u.2.2)]])) 0 0 := by
  refine j_enter_z (cc := cX5_change) (nL := 5) (nm := "change") (own := RX5) (lv := [(0, .ref h0), (1, .int a), (2, .int m), (3, .int w)]) (by decide) rfl (Nat.le_of_ble_eq_true rfl) rfl rfl rfl ?_
  intro zA zp ze zs zm zargs zbelow zmeth zc zQ ls hC hQ hI hl
  have zx := hC.1
  have zb := hC.2.1
  refine lv_iload_n zx zb dX5_change_0 rfl (lv_at hl 1 rfl) ?_
  refine lv_iconst (v := nI 2) zx zb dX5_change_1 (by decide) ?_
  refine jz_icmp_lt (tgt := 39) hC dX5_change_2 (by decide) (by omega) (fun c2 => ?_) (fun j2 j2a j2b j2e => ?_)
  · refine lv_iconst (v := nI 0) zx zb dX5_change_39 (by decide) ?_
    refine lv_istore (lv' := [(4, .int (nI 0)), (0, .ref h0), (1, .int a), (2, .int m), (3, .int w)]) zx zb dX5_change_40 hl (by decide) rfl (fun ls hl => ?_)
    refine lv_iload zx zb dX5_change_42 (lv_at hl 0 rfl) ?_
    refine j_if_eq (tgt := 62) hC dX5_change_44 (by decide) (by omega) (fun c44 => ?_) (fun c44 => ?_)
    · refine lv_iload zx zb dX5_change_62 (lv_at hl 0 rfl) ?_
      exact hQ _ _ _ _ _ ⟨la, lm, lw⟩ dX5_change_64 rfl (hI.sub [0] rfl rfl) (by (try dsimp only); exact (Or.inr ⟨lm_no1 c2, rfl, rfl, rfl, rfl⟩))
    · exact (by omega : False).elim
  · subst j2e
    refine lv_iload_n zx zb dX5_change_5 rfl (lv_at hl 1 rfl) ?_
    refine lv_bipush (v := nI 16) zx zb dX5_change_6 (by decide) ?_
    refine j_icmp_gt (tgt := 39) hC dX5_change_8 (by decide) (by omega) (by omega) (fun c8 => ?_) (fun c8 => ?_)
    · refine lv_iconst (v := nI 0) zx zb dX5_change_39 (by decide) ?_
      refine lv_istore (lv' := [(4, .int (nI 0)), (0, .ref h0), (1, .int (nI j2)), (2, .int m), (3, .int w)]) zx zb dX5_change_40 hl (by decide) rfl (fun ls hl => ?_)
      refine lv_iload zx zb dX5_change_42 (lv_at hl 0 rfl) ?_
      refine j_if_eq (tgt := 62) hC dX5_change_44 (by decide) (by omega) (fun c44 => ?_) (fun c44 => ?_)
      · refine lv_iload zx zb dX5_change_62 (lv_at hl 0 rfl) ?_
        exact hQ _ _ _ _ _ ⟨la, lm, lw⟩ dX5_change_64 rfl (hI.sub [0] rfl rfl) (by (try dsimp only); exact (Or.inr ⟨lm_no2 (by omega), rfl, rfl, rfl, rfl⟩))
      · exact (by omega : False).elim
    · refine lv_iload_n zx zb dX5_change_11 rfl (lv_at hl 2 rfl) ?_
      refine lv_iload_n zx zb dX5_change_12 rfl (lv_at hl 1 rfl) ?_
      refine jz_icmp_lt (tgt := 39) hC dX5_change_13 (by decide) (by omega) (fun c13 => ?_) (fun j13 j13a j13b j13e => ?_)
      · refine lv_iconst (v := nI 0) zx zb dX5_change_39 (by decide) ?_
        refine lv_istore (lv' := [(4, .int (nI 0)), (0, .ref h0), (1, .int (nI j2)), (2, .int m), (3, .int w)]) zx zb dX5_change_40 hl (by decide) rfl (fun ls hl => ?_)
        refine lv_iload zx zb dX5_change_42 (lv_at hl 0 rfl) ?_
        refine j_if_eq (tgt := 62) hC dX5_change_44 (by decide) (by omega) (fun c44 => ?_) (fun c44 => ?_)
        · refine lv_iload zx zb dX5_change_62 (lv_at hl 0 rfl) ?_
          exact hQ _ _ _ _ _ ⟨la, lm, lw⟩ dX5_change_64 rfl (hI.sub [0] rfl rfl) (by (try dsimp only); exact (Or.inr ⟨lm_no3 c13 (by omega), rfl, rfl, rfl, rfl⟩))
        · exact (by omega : False).elim
      · subst j13e
        refine lv_iload_n zx zb dX5_change_16 rfl (lv_at hl 2 rfl) ?_
        refine lv_sipush (v := nI 255) zx zb dX5_change_17 (by decide) ?_
        refine j_icmp_gt (tgt := 39) hC dX5_change_20 (by decide) (by omega) (by omega) (fun c20 => ?_) (fun c20 => ?_)
        · refine lv_iconst (v := nI 0) zx zb dX5_change_39 (by decide) ?_
          refine lv_istore (lv' := [(4, .int (nI 0)), (0, .ref h0), (1, .int (nI j2)), (2, .int (nI j13)), (3, .int w)]) zx zb dX5_change_40 hl (by decide) rfl (fun ls hl => ?_)
          refine lv_iload zx zb dX5_change_42 (lv_at hl 0 rfl) ?_
          refine j_if_eq (tgt := 62) hC dX5_change_44 (by decide) (by omega) (fun c44 => ?_) (fun c44 => ?_)
          · refine lv_iload zx zb dX5_change_62 (lv_at hl 0 rfl) ?_
            exact hQ _ _ _ _ _ ⟨la, lm, lw⟩ dX5_change_64 rfl (hI.sub [0] rfl rfl) (by (try dsimp only); exact (Or.inr ⟨lm_no4 (by omega), rfl, rfl, rfl, rfl⟩))
          · exact (by omega : False).elim
        · refine lv_iload_n zx zb dX5_change_23 rfl (lv_at hl 3 rfl) ?_
          refine lv_iconst (v := nI 1) zx zb dX5_change_24 (by decide) ?_
          refine jz_icmp_lt (tgt := 39) hC dX5_change_25 (by decide) (by omega) (fun c25 => ?_) (fun j25 j25a j25b j25e => ?_)
          · refine lv_iconst (v := nI 0) zx zb dX5_change_39 (by decide) ?_
            refine lv_istore (lv' := [(4, .int (nI 0)), (0, .ref h0), (1, .int (nI j2)), (2, .int (nI j13)), (3, .int w)]) zx zb dX5_change_40 hl (by decide) rfl (fun ls hl => ?_)
            refine lv_iload zx zb dX5_change_42 (lv_at hl 0 rfl) ?_
            refine j_if_eq (tgt := 62) hC dX5_change_44 (by decide) (by omega) (fun c44 => ?_) (fun c44 => ?_)
            · refine lv_iload zx zb dX5_change_62 (lv_at hl 0 rfl) ?_
              exact hQ _ _ _ _ _ ⟨la, lm, lw⟩ dX5_change_64 rfl (hI.sub [0] rfl rfl) (by (try dsimp only); exact (Or.inr ⟨lm_no5 c25, rfl, rfl, rfl, rfl⟩))
            · exact (by omega : False).elim
          · subst j25e
            refine lv_iload_n zx zb dX5_change_28 rfl (lv_at hl 3 rfl) ?_
            refine lv_sipush (v := nI 500) zx zb dX5_change_29 (by decide) ?_
            refine j_icmp_gt (tgt := 39) hC dX5_change_32 (by decide) (by omega) (by omega) (fun c32 => ?_) (fun c32 => ?_)
            · refine lv_iconst (v := nI 0) zx zb dX5_change_39 (by decide) ?_
              refine lv_istore (lv' := [(4, .int (nI 0)), (0, .ref h0), (1, .int (nI j2)), (2, .int (nI j13)), (3, .int (nI j25))]) zx zb dX5_change_40 hl (by decide) rfl (fun ls hl => ?_)
              refine lv_iload zx zb dX5_change_42 (lv_at hl 0 rfl) ?_
              refine j_if_eq (tgt := 62) hC dX5_change_44 (by decide) (by omega) (fun c44 => ?_) (fun c44 => ?_)
              · refine lv_iload zx zb dX5_change_62 (lv_at hl 0 rfl) ?_
                exact hQ _ _ _ _ _ ⟨la, lm, lw⟩ dX5_change_64 rfl (hI.sub [0] rfl rfl) (by (try dsimp only); exact (Or.inr ⟨lm_no6 (by omega), rfl, rfl, rfl, rfl⟩))
              · exact (by omega : False).elim
            · refine lv_iconst (v := nI 1) zx zb dX5_change_35 (by decide) ?_
              refine lv_goto (tgt := 40) zx zb dX5_change_36 (by decide) ?_
              refine lv_istore (lv' := [(4, .int (nI 1)), (0, .ref h0), (1, .int (nI j2)), (2, .int (nI j13)), (3, .int (nI j25))]) zx zb dX5_change_40 hl (by decide) rfl (fun ls hl => ?_)
              refine lv_iload zx zb dX5_change_42 (lv_at hl 0 rfl) ?_
              refine j_if_eq (tgt := 62) hC dX5_change_44 (by decide) (by omega) (fun c44 => ?_) (fun c44 => ?_)
              · exact (by omega : False).elim
              · refine lv_aload_n zx zb dX5_change_47 rfl (lv_at hl 1 rfl) ?_
                refine lv_iload_n zx zb dX5_change_48 rfl (lv_at hl 2 rfl) ?_
                refine j_put (w1 := [oC h0 5 [.int (nI j2), .int (nI lm), .int (nI lw)]]) hC hI hin_X5_change_X5 tyX5 tyX5_ok nmX5 0 rfl rfl 0 (by decide) hfl_X5_change_9 rfl rfl rfl rfl (Nat.le_of_ble_eq_true rfl) dX5_change_49 rfl (fun H locs hI => ?_)
                refine lv_aload_n zx zb dX5_change_52 rfl (lv_at hl 1 rfl) ?_
                refine lv_iload_n zx zb dX5_change_53 rfl (lv_at hl 3 rfl) ?_
                refine j_put (w1 := [oC h0 5 [.int (nI j2), .int (nI j13), .int (nI lw)]]) hC hI hin_X5_change_X5 tyX5 tyX5_ok nmX5 0 rfl rfl 1 (by decide) hfl_X5_change_15 rfl rfl rfl rfl (Nat.le_of_ble_eq_true rfl) dX5_change_54 rfl (fun H locs hI => ?_)
                refine lv_aload_n zx zb dX5_change_57 rfl (lv_at hl 1 rfl) ?_
                refine lv_iload_n zx zb dX5_change_58 rfl (lv_at hl 4 rfl) ?_
                refine j_put (w1 := [oC h0 5 [.int (nI j2), .int (nI j13), .int (nI j25)]]) hC hI hin_X5_change_X5 tyX5 tyX5_ok nmX5 0 rfl rfl 2 (by decide) hfl_X5_change_18 rfl rfl rfl rfl (Nat.le_of_ble_eq_true rfl) dX5_change_59 rfl (fun H locs hI => ?_)
                refine lv_iload zx zb dX5_change_62 (lv_at hl 0 rfl) ?_
                exact hQ _ _ _ _ _ ⟨j2, j13, j25⟩ dX5_change_64 rfl (hI.sub [0] rfl rfl) (by (try dsimp only); exact (Or.inl ⟨by omega, by omega, by omega, by omega, by omega, by omega, rfl, rfl, rfl, rfl⟩))

theorem hin_X0_begin_X0 : ∀ w ∈ wsX00, w ∈ wsX0_begin := by decide +kernel
theorem hfl_X0_begin_15 : Cond.fieldLink RX0 15 "CheapParse$BitWriter" "bits" "I" ∈ wsX0_begin := by decide +kernel
set_option maxHeartbeats 4000000 in
set_option maxRecDepth 100000 in
theorem c_X0_begin (zl : Launch) (G : jG) (h0 : Nat) (h1 : Nat) (b : Nat)  : jMet zl yX0_begin wsX0_begin ({ frames := 0, cells := 0, slots := 0, locals := 0 }) G [oC h0 0 [.ref h1, .int (nI b)]] [.ref h0] (jQv G (fun (u : Unit) => True) (fun (u : Unit) => [oC h0 0 [.ref h1, .int (nI 0)]])) 0 0 := by
  refine j_enter_v (cc := cX0_begin) (nL := 1) (nm := "begin") (own := RX0) (lv := [(0, .ref h0)]) (by decide) rfl (Nat.le_of_ble_eq_true rfl) rfl rfl rfl ?_
  intro zA zp ze zs zm zargs zbelow zmeth zc zQ ls hC hQ hI hl
  have zx := hC.1
  have zb := hC.2.1
  refine lv_aload_n zx zb dX0_begin_0 rfl (lv_at hl 0 rfl) ?_
  refine lv_iconst (v := nI 0) zx zb dX0_begin_1 (by decide) ?_
  refine j_put (w1 := [oC h0 0 [.ref h1, .int (nI 0)]]) hC hI hin_X0_begin_X0 tyX0 tyX0_ok nmX0 0 rfl rfl 1 (by decide) hfl_X0_begin_15 rfl rfl rfl rfl (Nat.le_of_ble_eq_true rfl) dX0_begin_2 rfl (fun H locs hI => ?_)
  exact hQ _ _ _ _ () dX0_begin_5 (hI.sub [0] rfl rfl) trivial

theorem hin_X0_size_X0 : ∀ w ∈ wsX00, w ∈ wsX0_size := by decide +kernel
theorem hfl_X0_size_15 : Cond.fieldLink RX0 15 "CheapParse$BitWriter" "bits" "I" ∈ wsX0_size := by decide +kernel
set_option maxHeartbeats 4000000 in
set_option maxRecDepth 100000 in
theorem c_X0_size (zl : Launch) (G : jG) (h0 : Nat) (h1 : Nat) (b : Nat) (hb0 : b ≤ 4520) : jMet zl yX0_size wsX0_size ({ frames := 0, cells := 0, slots := 0, locals := 0 }) G [oC h0 0 [.ref h1, .int (nI b)]] [.ref h0] (jQi G (fun (r : Int32) (u : Unit) => (r = nI ((b + 7) / 8))) (fun (u : Unit) => [oC h0 0 [.ref h1, .int (nI b)]])) 0 0 := by
  refine j_enter_i (cc := cX0_size) (nL := 1) (nm := "size") (own := RX0) (lv := [(0, .ref h0)]) (by decide) rfl (Nat.le_of_ble_eq_true rfl) rfl rfl rfl ?_
  intro zA zp ze zs zm zargs zbelow zmeth zc zQ ls hC hQ hI hl
  have zx := hC.1
  have zb := hC.2.1
  refine lv_aload_n zx zb dX0_size_0 rfl (lv_at hl 0 rfl) ?_
  refine j_get hC hI hin_X0_size_X0 0 rfl rfl 1 (by decide) hfl_X0_size_15 rfl rfl dX0_size_1 ?_
  refine lv_bipush (v := nI 7) zx zb dX0_size_4 (by decide) ?_
  refine j_iadd hC dX0_size_6 ?_
  refine lv_bipush (v := nI 8) zx zb dX0_size_7 (by decide) ?_
  refine j_idiv hC (by omega) (by omega) (by omega) dX0_size_9 ?_
  exact hQ _ _ _ _ _ () dX0_size_10 (hI.sub [0] rfl rfl) (by first | rfl | (congr 1; omega) | omega)

theorem hin_X0_get_X0 : ∀ w ∈ wsX00, w ∈ wsX0_get := by decide +kernel
theorem hfl_X0_get_9 : Cond.fieldLink RX0 9 "CheapParse$BitWriter" "row" "[I" ∈ wsX0_get := by decide +kernel
set_option maxHeartbeats 4000000 in
set_option maxRecDepth 100000 in
theorem c_X0_get (zl : Launch) (G : jG) (h0 : Nat) (h1 : Nat) (b : Nat) (f : Nat → Nat) (k : Int32) (hb0 : b ≤ 4520) : jMet zl yX0_get wsX0_get ({ frames := 1, cells := 0, slots := 0, locals := 20 }) G [oC h0 0 [.ref h1, .int (nI b)], aI G h1 565 f] [.ref h0, .int k] (jQi G (fun (r : Int32) (u : Unit) => (r = gt f ((b + 7) / 8) k)) (fun (u : Unit) => [oC h0 0 [.ref h1, .int (nI b)], aI G h1 565 f])) 0 0 := by
  refine j_enter_i (cc := cX0_get) (nL := 2) (nm := "get") (own := RX0) (lv := [(0, .ref h0), (1, .int k)]) (by decide) rfl (Nat.le_of_ble_eq_true rfl) rfl rfl rfl ?_
  intro zA zp ze zs zm zargs zbelow zmeth zc zQ ls hC hQ hI hl
  have zx := hC.1
  have zb := hC.2.1
  refine lv_iload_n zx zb dX0_get_0 rfl (lv_at hl 1 rfl) ?_
  refine jz_if_lt (tgt := 21) hC dX0_get_1 (by decide) (fun c1 => ?_) (fun j1 j1a j1e => ?_)
  · refine lv_iconst (v := (-1)) zx zb dX0_get_21 (by decide) ?_
    exact hQ _ _ _ _ _ () dX0_get_22 (hI.sub [0, 1] rfl rfl) (gt_neg c1).symm
  · subst j1e
    refine lv_iload_n zx zb dX0_get_4 rfl (lv_at hl 1 rfl) ?_
    refine lv_aload_n zx zb dX0_get_5 rfl (lv_at hl 0 rfl) ?_
    refine j_callVi (wr := [aI G h1 565 f]) hC hI (c_X0_size zl G h0 h1 b (by omega)) (cwV 0 hC.2.2.2.2.1 gX0_get_X0_size rfl rfl rfl (by decide +kernel) ⟨Nat.le_of_ble_eq_true rfl, Nat.le_of_ble_eq_true rfl⟩) [0] [1] rfl rfl rfl rfl rfl rfl (q0 := 0) rfl rfl rfl hl.1 (Nat.le_of_ble_eq_true rfl) dX0_get_6 ⟨Nat.le_of_ble_eq_true rfl, Nat.le_of_ble_eq_true rfl⟩ (fun rv6 u6 H locs hp6 hI => ?_)
    have hI : jI G zA zs [aI G h1 565 f, oC h0 0 [.ref h1, .int (nI b)]] H locs := hI
    subst hp6
    refine j_icmp_ge (tgt := 21) hC dX0_get_9 (by decide) (by omega) (by omega) (fun c9 => ?_) (fun c9 => ?_)
    · refine lv_iconst (v := (-1)) zx zb dX0_get_21 (by decide) ?_
      exact hQ _ _ _ _ _ () dX0_get_22 (hI.sub [1, 0] rfl rfl) (gt_ge (by omega) (by omega)).symm
    · refine lv_aload_n zx zb dX0_get_12 rfl (lv_at hl 0 rfl) ?_
      refine j_get hC hI hin_X0_get_X0 1 rfl rfl 0 (by decide) hfl_X0_get_9 rfl rfl dX0_get_13 ?_
      refine lv_iload_n zx zb dX0_get_16 rfl (lv_at hl 1 rfl) ?_
      refine j_iald hC hI 0 rfl (by omega) (by omega) dX0_get_17 ?_
      refine lv_goto (tgt := 22) zx zb dX0_get_18 (by decide) ?_
      exact hQ _ _ _ _ _ () dX0_get_22 (hI.sub [1, 0] rfl rfl) (gt_in (by omega) (by omega)).symm

theorem hin_X0_putBit_X0 : ∀ w ∈ wsX00, w ∈ wsX0_putBit := by decide +kernel
theorem hfl_X0_putBit_15 : Cond.fieldLink RX0 15 "CheapParse$BitWriter" "bits" "I" ∈ wsX0_putBit := by decide +kernel
theorem hfl_X0_putBit_9 : Cond.fieldLink RX0 9 "CheapParse$BitWriter" "row" "[I" ∈ wsX0_putBit := by decide +kernel
set_option maxHeartbeats 4000000 in
set_option maxRecDepth 100000 in
theorem c_X0_putBit (zl : Launch) (G : jG) (h0 : Nat) (h1 : Nat) (b : Nat) (v : Nat) (f : Nat → Nat) (w : Nat → Nat) (hb0 : b < 4520) (hv : v ≤ 1) (hw : bwOK f b w) : jMet zl yX0_putBit wsX0_putBit ({ frames := 0, cells := 0, slots := 0, locals := 0 }) G [oC h0 0 [.ref h1, .int (nI b)], aI G h1 565 f] [.ref h0, .int (nI v)] (jQv G (fun (u : (Nat → Nat)) => (bwOK u (b + 1) (up w b v))) (fun (u : (Nat → Nat)) => [oC h0 0 [.ref h1, .int (nI (b + 1))], aI G h1 565 u])) 0 0 := by
  refine j_enter_v (cc := cX0_putBit) (nL := 3) (nm := "putBit") (own := RX0) (lv := [(0, .ref h0), (1, .int (nI v))]) (by decide) rfl (Nat.le_of_ble_eq_true rfl) rfl rfl rfl ?_
  intro zA zp ze zs zm zargs zbelow zmeth zc zQ ls hC hQ hI hl
  have zx := hC.1
  have zb := hC.2.1
  refine lv_aload_n zx zb dX0_putBit_0 rfl (lv_at hl 0 rfl) ?_
  refine j_get hC hI hin_X0_putBit_X0 0 rfl rfl 1 (by decide) hfl_X0_putBit_15 rfl rfl dX0_putBit_1 ?_
  refine lv_bipush (v := nI 8) zx zb dX0_putBit_4 (by decide) ?_
  refine j_idiv hC (by omega) (by omega) (by omega) dX0_putBit_6 ?_
  refine lv_istore_n (lv' := [(2, .int (nI (b / 8))), (0, .ref h0), (1, .int (nI v))]) zx zb dX0_putBit_7 rfl hl (by decide) rfl (fun ls hl => ?_)
  refine lv_iload_n zx zb dX0_putBit_8 rfl (lv_at hl 0 rfl) ?_
  refine lv_aload_n zx zb dX0_putBit_9 rfl (lv_at hl 1 rfl) ?_
  refine j_get hC hI hin_X0_putBit_X0 0 rfl rfl 0 (by decide) hfl_X0_putBit_9 rfl rfl dX0_putBit_10 ?_
  refine j_alen hC hI 1 rfl dX0_putBit_13 ?_
  refine j_icmp_lt (tgt := 18) hC dX0_putBit_14 (by decide) (by omega) (by omega) (fun c14 => ?_) (fun c14 => ?_)
  · refine lv_aload_n zx zb dX0_putBit_18 rfl (lv_at hl 1 rfl) ?_
    refine j_get hC hI hin_X0_putBit_X0 0 rfl rfl 1 (by decide) hfl_X0_putBit_15 rfl rfl dX0_putBit_19 ?_
    refine lv_bipush (v := nI 8) zx zb dX0_putBit_22 (by decide) ?_
    refine j_irem hC (by omega) (by omega) (by omega) dX0_putBit_24 ?_
    refine j_if_ne (tgt := 35) hC dX0_putBit_25 (by decide) (by omega) (fun c25 => ?_) (fun c25 => ?_)
    · refine lv_aload_n zx zb dX0_putBit_35 rfl (lv_at hl 1 rfl) ?_
      refine j_get hC hI hin_X0_putBit_X0 0 rfl rfl 0 (by decide) hfl_X0_putBit_9 rfl rfl dX0_putBit_36 ?_
      refine lv_iload_n zx zb dX0_putBit_39 rfl (lv_at hl 0 rfl) ?_
      refine lv_dup2_11 zx zb dX0_putBit_40 rfl rfl ?_
      refine j_iald hC hI 1 rfl (by omega) (by omega) dX0_putBit_41 ?_
      refine lv_iload_n zx zb dX0_putBit_42 rfl (lv_at hl 2 rfl) ?_
      refine lv_bipush (v := nI 7) zx zb dX0_putBit_43 (by decide) ?_
      refine lv_aload_n zx zb dX0_putBit_45 rfl (lv_at hl 1 rfl) ?_
      refine j_get hC hI hin_X0_putBit_X0 0 rfl rfl 1 (by decide) hfl_X0_putBit_15 rfl rfl dX0_putBit_46 ?_
      refine lv_bipush (v := nI 8) zx zb dX0_putBit_49 (by decide) ?_
      refine j_irem hC (by omega) (by omega) (by omega) dX0_putBit_51 ?_
      refine j_isub hC (by omega) dX0_putBit_52 ?_
      refine j_ishl hC (by omega) (bw_sh hv) dX0_putBit_53 ?_
      refine j_ior hC dX0_putBit_54 ?_
      refine j_iast (w1 := [oC h0 0 [.ref h1, .int (nI b)], aI G h1 565 (up f (b / 8) ((f (b / 8)) ||| (v * 2 ^ (7 - (b % 8)))))]) hC hI 1 rfl (by omega) (by omega) dX0_putBit_55 rfl (fun H locs hI => ?_)
      refine lv_aload_n zx zb dX0_putBit_56 rfl (lv_at hl 1 rfl) ?_
      refine lv_dup zx zb dX0_putBit_57 rfl ?_
      refine j_get hC hI hin_X0_putBit_X0 0 rfl rfl 1 (by decide) hfl_X0_putBit_15 rfl rfl dX0_putBit_58 ?_
      refine lv_iconst (v := nI 1) zx zb dX0_putBit_61 (by decide) ?_
      refine j_iadd hC dX0_putBit_62 ?_
      refine j_put (w1 := [oC h0 0 [.ref h1, .int (nI (b + 1))], aI G h1 565 (up f (b / 8) ((f (b / 8)) ||| (v * 2 ^ (7 - (b % 8)))))]) hC hI hin_X0_putBit_X0 tyX0 tyX0_ok nmX0 0 rfl rfl 1 (by decide) hfl_X0_putBit_15 rfl rfl rfl rfl (Nat.le_of_ble_eq_true rfl) dX0_putBit_63 rfl (fun H locs hI => ?_)
      exact hQ _ _ _ _ (up f (b / 8) ((f (b / 8)) ||| (v * 2 ^ (7 - (b % 8))))) dX0_putBit_66 (hI.sub [0, 1] rfl rfl) (bw_put1 hb0 hv hw c25)
    · refine lv_aload_n zx zb dX0_putBit_28 rfl (lv_at hl 1 rfl) ?_
      refine j_get hC hI hin_X0_putBit_X0 0 rfl rfl 0 (by decide) hfl_X0_putBit_9 rfl rfl dX0_putBit_29 ?_
      refine lv_iload_n zx zb dX0_putBit_32 rfl (lv_at hl 0 rfl) ?_
      refine lv_iconst (v := nI 0) zx zb dX0_putBit_33 (by decide) ?_
      refine j_iast (w1 := [oC h0 0 [.ref h1, .int (nI b)], aI G h1 565 (up f (b / 8) 0)]) hC hI 1 rfl (by omega) (by omega) dX0_putBit_34 rfl (fun H locs hI => ?_)
      refine lv_aload_n zx zb dX0_putBit_35 rfl (lv_at hl 1 rfl) ?_
      refine j_get hC hI hin_X0_putBit_X0 0 rfl rfl 0 (by decide) hfl_X0_putBit_9 rfl rfl dX0_putBit_36 ?_
      refine lv_iload_n zx zb dX0_putBit_39 rfl (lv_at hl 0 rfl) ?_
      refine lv_dup2_11 zx zb dX0_putBit_40 rfl rfl ?_
      refine j_iald hC hI 1 rfl (by omega) (by omega) dX0_putBit_41 ?_
      refine lv_iload_n zx zb dX0_putBit_42 rfl (lv_at hl 2 rfl) ?_
      refine lv_bipush (v := nI 7) zx zb dX0_putBit_43 (by decide) ?_
      refine lv_aload_n zx zb dX0_putBit_45 rfl (lv_at hl 1 rfl) ?_
      refine j_get hC hI hin_X0_putBit_X0 0 rfl rfl 1 (by decide) hfl_X0_putBit_15 rfl rfl dX0_putBit_46 ?_
      refine lv_bipush (v := nI 8) zx zb dX0_putBit_49 (by decide) ?_
      refine j_irem hC (by omega) (by omega) (by omega) dX0_putBit_51 ?_
      refine j_isub hC (by omega) dX0_putBit_52 ?_
      refine j_ishl hC (by omega) (bw_sh hv) dX0_putBit_53 ?_
      refine j_ior hC dX0_putBit_54 ?_
      refine j_iast (w1 := [oC h0 0 [.ref h1, .int (nI b)], aI G h1 565 (up (up f (b / 8) 0) (b / 8) (((up f (b / 8) 0) (b / 8)) ||| (v * 2 ^ (7 - (b % 8)))))]) hC hI 1 rfl (by omega) (by omega) dX0_putBit_55 rfl (fun H locs hI => ?_)
      refine lv_aload_n zx zb dX0_putBit_56 rfl (lv_at hl 1 rfl) ?_
      refine lv_dup zx zb dX0_putBit_57 rfl ?_
      refine j_get hC hI hin_X0_putBit_X0 0 rfl rfl 1 (by decide) hfl_X0_putBit_15 rfl rfl dX0_putBit_58 ?_
      refine lv_iconst (v := nI 1) zx zb dX0_putBit_61 (by decide) ?_
      refine j_iadd hC dX0_putBit_62 ?_
      refine j_put (w1 := [oC h0 0 [.ref h1, .int (nI (b + 1))], aI G h1 565 (up (up f (b / 8) 0) (b / 8) (((up f (b / 8) 0) (b / 8)) ||| (v * 2 ^ (7 - (b % 8)))))]) hC hI hin_X0_putBit_X0 tyX0 tyX0_ok nmX0 0 rfl rfl 1 (by decide) hfl_X0_putBit_15 rfl rfl rfl rfl (Nat.le_of_ble_eq_true rfl) dX0_putBit_63 rfl (fun H locs hI => ?_)
      exact hQ _ _ _ _ (up (up f (b / 8) 0) (b / 8) (((up f (b / 8) 0) (b / 8)) ||| (v * 2 ^ (7 - (b % 8))))) dX0_putBit_66 (hI.sub [0, 1] rfl rfl) (bw_put2 hb0 hv hw c25)
  · exact (by omega : False).elim

set_option maxHeartbeats 4000000 in
set_option maxRecDepth 100000 in
theorem c_X0_put (zl : Launch) (G : jG) (h0 : Nat) (h1 : Nat) (b : Nat) (v : Nat) (k : Nat) (f : Nat → Nat) (w : Nat → Nat) (hb0 : b + k ≤ 4520) (hk : k ≤ 31) (hv : v < 2147483648) (hw : bwOK f b w) : jMet zl yX0_put wsX0_put ({ frames := 1, cells := 0, slots := 0, locals := 22 }) G [oC h0 0 [.ref h1, .int (nI b)], aI G h1 565 f] [.ref h0, .int (nI v), .int (nI k)] (jQv G (fun (u : (Nat → Nat)) => (bwOK u (b + k) (pt v k w b))) (fun (u : (Nat → Nat)) => [oC h0 0 [.ref h1, .int (nI (b + k))], aI G h1 565 u])) 0 0 := by
  refine j_enter_v (cc := cX0_put) (nL := 4) (nm := "put") (own := RX0) (lv := [(0, .ref h0), (1, .int (nI v)), (2, .int (nI k))]) (by decide) rfl (Nat.le_of_ble_eq_true rfl) rfl rfl rfl ?_
  intro zA zp ze zs zm zargs zbelow zmeth zc zQ ls hC hQ hI hl
  have zx := hC.1
  have zb := hC.2.1
  refine lv_iload_n zx zb dX0_put_0 rfl (lv_at hl 2 rfl) ?_
  refine lv_iconst (v := nI 1) zx zb dX0_put_1 (by decide) ?_
  refine j_isub1 hC dX0_put_2 ?_
  refine lv_istore_n (lv' := [(3, .int (mI k)), (0, .ref h0), (1, .int (nI v)), (2, .int (nI k))]) zx zb dX0_put_3 rfl hl (by decide) rfl (fun ls hl => ?_)
  have loop4 : ∀ (zn4 : Nat) (j : Nat) (b2 : Nat) (g : Nat → Nat) (w2 : Nat → Nat), (b2 + j = b + k ∧ j ≤ 31) → (bwOK g b2 w2) → (pt v j w2 b2 = pt v k w b) → j < zn4 → ∀ (H : Heap) (locs : List Loc) (ls : Array Slot), jI G zA zs [oC h0 0 [.ref h1, .int (nI b2)], aI G h1 565 g] H locs → lv_has ls 4 [(0, .ref h0), (1, .int (nI v)), (3, .int (mI j))] → W zp zl ze ({ frames := 1, cells := 0, slots := 0, locals := 22 }) zs zm zargs zbelow zmeth zc H locs 0 0 zQ (F0 zm 4 ls []) := by
    intro zn4
    induction zn4 with
    | zero => intros; omega
    | succ zn4 ih4 =>
      intro j b2 g w2 ej eg ew zm4 H locs ls hI hl
      refine lv_iload_n zx zb dX0_put_4 rfl (lv_at hl 2 rfl) ?_
      refine j_ifM_lt (tgt := 23) hC dX0_put_5 (by decide) (by omega) (fun c5 => ?_) (fun c5 => ?_)
      · subst c5
        have eb : b2 = b + k := by omega
        subst eb
        exact hQ _ _ _ _ g dX0_put_23 (hI.sub [0, 1] rfl rfl) (by rw [← ew]; exact eg)
      · obtain ⟨j5, rfl⟩ : ∃ z, j = z + 1 := ⟨j - 1, by omega⟩
        rw [mI_s] at hl
        refine lv_aload_n zx zb dX0_put_8 rfl (lv_at hl 0 rfl) ?_
        refine lv_iload_n zx zb dX0_put_9 rfl (lv_at hl 1 rfl) ?_
        refine lv_iload_n zx zb dX0_put_10 rfl (lv_at hl 2 rfl) ?_
        refine j_ishr hC (by omega) (by omega) dX0_put_11 ?_
        refine lv_iconst (v := nI 1) zx zb dX0_put_12 (by decide) ?_
        refine j_and1 hC dX0_put_13 ?_
        refine j_callVv (wr := []) hC hI (c_X0_putBit zl G h0 h1 b2 ((v / 2 ^ j5) % 2) g w2 (by omega) (by omega) eg) (cwV 1 hC.2.2.2.2.1 gX0_put_X0_putBit rfl rfl rfl (by decide +kernel) ⟨Nat.le_of_ble_eq_true rfl, Nat.le_of_ble_eq_true rfl⟩) [0, 1] [] rfl rfl rfl rfl rfl rfl (q0 := 0) rfl rfl rfl hl.1 (Nat.le_of_ble_eq_true rfl) dX0_put_14 ⟨Nat.le_of_ble_eq_true rfl, Nat.le_of_ble_eq_true rfl⟩ (fun u14 H locs hp14 hI => ?_)
        obtain ⟨v14_0, rfl⟩ : ∃ z, z = u14 := ⟨_, rfl⟩
        have hI : jI G zA zs [oC h0 0 [.ref h1, .int (nI (b2 + 1))], aI G h1 565 v14_0] H locs := hI
        have f14_0 := hp14
        refine lv_iinc (v := mI j5) (lv' := [(3, .int (mI j5)), (0, .ref h0), (1, .int (nI v))]) zx zb dX0_put_17 hl (k := 2) rfl (j_dec _) (by decide) rfl (fun ls hl => ?_)
        refine lv_goto (tgt := 4) zx zb dX0_put_20 (by decide) ?_
        exact ih4 j5 (b2 + 1) v14_0 (up w2 b2 (v / 2 ^ j5 % 2)) (by omega) f14_0 (by rw [← ew]; rfl) (by omega) _ _ _ hI (lv_sub hl [1, 2, 0] rfl)
  exact loop4 _ k b f w (by omega) hw rfl (Nat.lt_succ_self _) _ _ _ hI (lv_sub hl [1, 2, 0] rfl)

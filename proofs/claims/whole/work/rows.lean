section
-- ===== PART A: goes FIRST, ahead of the names: the tables' words, and 'selects' of the private methods out of them =====
/-- a private method of a class that the tables say can be made, by its rows of tables_1 -/
def lw_okq (q : MethodName × Nat) : Prop := (q.1.cls ≠ "java/lang/invoke/MethodHandle" ∧ q.1.cls ≠ "java/lang/invoke/VarHandle") ∧ Cond.instantiable q.1.cls q.2 ∈ tables_1 ∧ Cond.privateMethod q.1 ∈ tables_1 ∧ Cond.instanceMethod q.1 ∈ tables_1
theorem lw_p0 : lw_okq (⟨"CheapParse", "forgetMatches", "()V"⟩, 14) := ⟨⟨by decide +kernel, by decide +kernel⟩, List.mem_of_getElem? (i := 14) (by decide +kernel), List.mem_of_getElem? (i := 263) (by decide +kernel), List.mem_of_getElem? (i := 264) (by decide +kernel)⟩
theorem lw_p1 : lw_okq (⟨"CheapParse$Tariff", "rowOf", "(I)[I"⟩, 4) := ⟨⟨by decide +kernel, by decide +kernel⟩, List.mem_of_getElem? (i := 53) (by decide +kernel), List.mem_of_getElem? (i := 303) (by decide +kernel), List.mem_of_getElem? (i := 304) (by decide +kernel)⟩
theorem lw_p2 : lw_okq (⟨"CheapParse", "renewCosts", "()V"⟩, 14) := ⟨⟨by decide +kernel, by decide +kernel⟩, List.mem_of_getElem? (i := 14) (by decide +kernel), List.mem_of_getElem? (i := 311) (by decide +kernel), List.mem_of_getElem? (i := 312) (by decide +kernel)⟩
theorem lw_p3 : lw_okq (⟨"CheapParse", "renewMatches", "()V"⟩, 14) := ⟨⟨by decide +kernel, by decide +kernel⟩, List.mem_of_getElem? (i := 14) (by decide +kernel), List.mem_of_getElem? (i := 315) (by decide +kernel), List.mem_of_getElem? (i := 316) (by decide +kernel)⟩
theorem lw_p4 : lw_okq (⟨"CheapParse$Matches", "noteClass", "(II)V"⟩, 7) := ⟨⟨by decide +kernel, by decide +kernel⟩, List.mem_of_getElem? (i := 75) (by decide +kernel), List.mem_of_getElem? (i := 324) (by decide +kernel), List.mem_of_getElem? (i := 325) (by decide +kernel)⟩
theorem lw_p5 : lw_okq (⟨"CheapParse$Matches", "lastOfClass", "(II)I"⟩, 7) := ⟨⟨by decide +kernel, by decide +kernel⟩, List.mem_of_getElem? (i := 75) (by decide +kernel), List.mem_of_getElem? (i := 332) (by decide +kernel), List.mem_of_getElem? (i := 333) (by decide +kernel)⟩
theorem lw_p6 : lw_okq (⟨"CheapParse$Matches", "noteMatch", "(III)I"⟩, 7) := ⟨⟨by decide +kernel, by decide +kernel⟩, List.mem_of_getElem? (i := 75) (by decide +kernel), List.mem_of_getElem? (i := 343) (by decide +kernel), List.mem_of_getElem? (i := 344) (by decide +kernel)⟩
theorem lw_p7 : lw_okq (⟨"CheapParse$Costs", "chooseStep", "(I)V"⟩, 9) := ⟨⟨by decide +kernel, by decide +kernel⟩, List.mem_of_getElem? (i := 103) (by decide +kernel), List.mem_of_getElem? (i := 369) (by decide +kernel), List.mem_of_getElem? (i := 370) (by decide +kernel)⟩
theorem lw_p8 : lw_okq (⟨"CheapParse$Costs", "sortByReach", "(II)V"⟩, 9) := ⟨⟨by decide +kernel, by decide +kernel⟩, List.mem_of_getElem? (i := 103) (by decide +kernel), List.mem_of_getElem? (i := 377) (by decide +kernel), List.mem_of_getElem? (i := 378) (by decide +kernel)⟩
theorem lw_p9 : lw_okq (⟨"CheapParse", "addStep", "(II)I"⟩, 14) := ⟨⟨by decide +kernel, by decide +kernel⟩, List.mem_of_getElem? (i := 14) (by decide +kernel), List.mem_of_getElem? (i := 412) (by decide +kernel), List.mem_of_getElem? (i := 413) (by decide +kernel)⟩
theorem lw_p10 : lw_okq (⟨"CheapParse", "longestStep", "(II)I"⟩, 14) := ⟨⟨by decide +kernel, by decide +kernel⟩, List.mem_of_getElem? (i := 14) (by decide +kernel), List.mem_of_getElem? (i := 420) (by decide +kernel), List.mem_of_getElem? (i := 421) (by decide +kernel)⟩
theorem lw_p11 : lw_okq (⟨"CheapParse$Steps", "addOne", "(IIII)V"⟩, 10) := ⟨⟨by decide +kernel, by decide +kernel⟩, List.mem_of_getElem? (i := 137) (by decide +kernel), List.mem_of_getElem? (i := 431) (by decide +kernel), List.mem_of_getElem? (i := 432) (by decide +kernel)⟩
theorem lw_p12 : lw_okq (⟨"CheapParse$Steps", "lengthBits", "(I)I"⟩, 10) := ⟨⟨by decide +kernel, by decide +kernel⟩, List.mem_of_getElem? (i := 137) (by decide +kernel), List.mem_of_getElem? (i := 462) (by decide +kernel), List.mem_of_getElem? (i := 463) (by decide +kernel)⟩
theorem lw_p13 : lw_okq (⟨"CheapParse$Steps", "lengthTold", "(I)I"⟩, 10) := ⟨⟨by decide +kernel, by decide +kernel⟩, List.mem_of_getElem? (i := 137) (by decide +kernel), List.mem_of_getElem? (i := 466) (by decide +kernel), List.mem_of_getElem? (i := 467) (by decide +kernel)⟩
theorem lw_p14 : lw_okq (⟨"CheapParse$BitWriter", "putBit", "(I)V"⟩, 2) := ⟨⟨by decide +kernel, by decide +kernel⟩, List.mem_of_getElem? (i := 176) (by decide +kernel), List.mem_of_getElem? (i := 554) (by decide +kernel), List.mem_of_getElem? (i := 555) (by decide +kernel)⟩
theorem lw_p15 : lw_okq (⟨"CheapParse$Steps", "putMatch", "(LCheapParse$BitWriter;II)V"⟩, 10) := ⟨⟨by decide +kernel, by decide +kernel⟩, List.mem_of_getElem? (i := 137) (by decide +kernel), List.mem_of_getElem? (i := 559) (by decide +kernel), List.mem_of_getElem? (i := 560) (by decide +kernel)⟩
def lw_privs_1 : List (MethodName × Nat) := [(⟨"CheapParse", "forgetMatches", "()V"⟩, 14), (⟨"CheapParse$Tariff", "rowOf", "(I)[I"⟩, 4), (⟨"CheapParse", "renewCosts", "()V"⟩, 14), (⟨"CheapParse", "renewMatches", "()V"⟩, 14), (⟨"CheapParse$Matches", "noteClass", "(II)V"⟩, 7), (⟨"CheapParse$Matches", "lastOfClass", "(II)I"⟩, 7), (⟨"CheapParse$Matches", "noteMatch", "(III)I"⟩, 7), (⟨"CheapParse$Costs", "chooseStep", "(I)V"⟩, 9), (⟨"CheapParse$Costs", "sortByReach", "(II)V"⟩, 9), (⟨"CheapParse", "addStep", "(II)I"⟩, 14), (⟨"CheapParse", "longestStep", "(II)I"⟩, 14), (⟨"CheapParse$Steps", "addOne", "(IIII)V"⟩, 10), (⟨"CheapParse$Steps", "lengthBits", "(I)I"⟩, 10), (⟨"CheapParse$Steps", "lengthTold", "(I)I"⟩, 10), (⟨"CheapParse$BitWriter", "putBit", "(I)V"⟩, 2), (⟨"CheapParse$Steps", "putMatch", "(LCheapParse$BitWriter;II)V"⟩, 10)]
theorem lw_r1 : ∀ q ∈ lw_privs_1, lw_okq q := List.forall_mem_cons.mpr ⟨lw_p0, List.forall_mem_cons.mpr ⟨lw_p1, List.forall_mem_cons.mpr ⟨lw_p2, List.forall_mem_cons.mpr ⟨lw_p3, List.forall_mem_cons.mpr ⟨lw_p4, List.forall_mem_cons.mpr ⟨lw_p5, List.forall_mem_cons.mpr ⟨lw_p6, List.forall_mem_cons.mpr ⟨lw_p7, List.forall_mem_cons.mpr ⟨lw_p8, List.forall_mem_cons.mpr ⟨lw_p9, List.forall_mem_cons.mpr ⟨lw_p10, List.forall_mem_cons.mpr ⟨lw_p11, List.forall_mem_cons.mpr ⟨lw_p12, List.forall_mem_cons.mpr ⟨lw_p13, List.forall_mem_cons.mpr ⟨lw_p14, List.forall_mem_cons.mpr ⟨lw_p15, fun _ h => absurd h List.not_mem_nil⟩⟩⟩⟩⟩⟩⟩⟩⟩⟩⟩⟩⟩⟩⟩⟩
theorem lw_p16 : lw_okq (⟨"CheapParse$Reader", "number", "(I)I"⟩, 4) := ⟨⟨by decide +kernel, by decide +kernel⟩, List.mem_of_getElem? (i := 189) (by decide +kernel), List.mem_of_getElem? (i := 589) (by decide +kernel), List.mem_of_getElem? (i := 590) (by decide +kernel)⟩
theorem lw_p17 : lw_okq (⟨"CheapParse$Reader", "readStep", "(I)I"⟩, 4) := ⟨⟨by decide +kernel, by decide +kernel⟩, List.mem_of_getElem? (i := 189) (by decide +kernel), List.mem_of_getElem? (i := 595) (by decide +kernel), List.mem_of_getElem? (i := 596) (by decide +kernel)⟩
theorem lw_p18 : lw_okq (⟨"CheapParse$Reader", "readByte", "()I"⟩, 4) := ⟨⟨by decide +kernel, by decide +kernel⟩, List.mem_of_getElem? (i := 189) (by decide +kernel), List.mem_of_getElem? (i := 599) (by decide +kernel), List.mem_of_getElem? (i := 600) (by decide +kernel)⟩
theorem lw_p19 : lw_okq (⟨"CheapParse$Reader", "readMatch", "(I)I"⟩, 4) := ⟨⟨by decide +kernel, by decide +kernel⟩, List.mem_of_getElem? (i := 189) (by decide +kernel), List.mem_of_getElem? (i := 604) (by decide +kernel), List.mem_of_getElem? (i := 605) (by decide +kernel)⟩
theorem lw_p20 : lw_okq (⟨"CheapParse$Reader", "countZeros", "()I"⟩, 4) := ⟨⟨by decide +kernel, by decide +kernel⟩, List.mem_of_getElem? (i := 189) (by decide +kernel), List.mem_of_getElem? (i := 608) (by decide +kernel), List.mem_of_getElem? (i := 609) (by decide +kernel)⟩
theorem lw_p21 : lw_okq (⟨"CheapParse$Reader", "numberOfClass", "(I)I"⟩, 4) := ⟨⟨by decide +kernel, by decide +kernel⟩, List.mem_of_getElem? (i := 189) (by decide +kernel), List.mem_of_getElem? (i := 612) (by decide +kernel), List.mem_of_getElem? (i := 613) (by decide +kernel)⟩
theorem lw_p22 : lw_okq (⟨"CheapParse$Reader", "faultBehind", "()I"⟩, 4) := ⟨⟨by decide +kernel, by decide +kernel⟩, List.mem_of_getElem? (i := 189) (by decide +kernel), List.mem_of_getElem? (i := 624) (by decide +kernel), List.mem_of_getElem? (i := 625) (by decide +kernel)⟩
theorem lw_p23 : lw_okq (⟨"CheapParseModel", "know", "()V"⟩, 31) := ⟨⟨by decide +kernel, by decide +kernel⟩, List.mem_of_getElem? (i := 648) (by decide +kernel), List.mem_of_getElem? (i := 776) (by decide +kernel), List.mem_of_getElem? (i := 777) (by decide +kernel)⟩
theorem lw_p24 : lw_okq (⟨"CheapParseModel", "priceOf", "(III)I"⟩, 31) := ⟨⟨by decide +kernel, by decide +kernel⟩, List.mem_of_getElem? (i := 648) (by decide +kernel), List.mem_of_getElem? (i := 780) (by decide +kernel), List.mem_of_getElem? (i := 781) (by decide +kernel)⟩
theorem lw_p25 : lw_okq (⟨"CheapParseModel", "findFar", "(I)V"⟩, 31) := ⟨⟨by decide +kernel, by decide +kernel⟩, List.mem_of_getElem? (i := 648) (by decide +kernel), List.mem_of_getElem? (i := 787) (by decide +kernel), List.mem_of_getElem? (i := 788) (by decide +kernel)⟩
theorem lw_p26 : lw_okq (⟨"CheapParseModel", "longest", "(II)I"⟩, 31) := ⟨⟨by decide +kernel, by decide +kernel⟩, List.mem_of_getElem? (i := 648) (by decide +kernel), List.mem_of_getElem? (i := 791) (by decide +kernel), List.mem_of_getElem? (i := 792) (by decide +kernel)⟩
theorem lw_p27 : lw_okq (⟨"CheapParseModel", "stepCheaply", "(I)V"⟩, 31) := ⟨⟨by decide +kernel, by decide +kernel⟩, List.mem_of_getElem? (i := 648) (by decide +kernel), List.mem_of_getElem? (i := 795) (by decide +kernel), List.mem_of_getElem? (i := 796) (by decide +kernel)⟩
theorem lw_p28 : lw_okq (⟨"CheapParseModel", "goOn", "(III)V"⟩, 31) := ⟨⟨by decide +kernel, by decide +kernel⟩, List.mem_of_getElem? (i := 648) (by decide +kernel), List.mem_of_getElem? (i := 799) (by decide +kernel), List.mem_of_getElem? (i := 800) (by decide +kernel)⟩
theorem lw_p29 : lw_okq (⟨"CheapParseModel", "stepGreedily", "(IZ)V"⟩, 31) := ⟨⟨by decide +kernel, by decide +kernel⟩, List.mem_of_getElem? (i := 648) (by decide +kernel), List.mem_of_getElem? (i := 803) (by decide +kernel), List.mem_of_getElem? (i := 804) (by decide +kernel)⟩
theorem lw_p30 : lw_okq (⟨"CheapParseModel", "longestAt", "(I)I"⟩, 31) := ⟨⟨by decide +kernel, by decide +kernel⟩, List.mem_of_getElem? (i := 648) (by decide +kernel), List.mem_of_getElem? (i := 807) (by decide +kernel), List.mem_of_getElem? (i := 808) (by decide +kernel)⟩
theorem lw_p31 : lw_okq (⟨"CheapParseModel", "nearestOf", "(II)I"⟩, 31) := ⟨⟨by decide +kernel, by decide +kernel⟩, List.mem_of_getElem? (i := 648) (by decide +kernel), List.mem_of_getElem? (i := 811) (by decide +kernel), List.mem_of_getElem? (i := 812) (by decide +kernel)⟩
def lw_privs_2 : List (MethodName × Nat) := [(⟨"CheapParse$Reader", "number", "(I)I"⟩, 4), (⟨"CheapParse$Reader", "readStep", "(I)I"⟩, 4), (⟨"CheapParse$Reader", "readByte", "()I"⟩, 4), (⟨"CheapParse$Reader", "readMatch", "(I)I"⟩, 4), (⟨"CheapParse$Reader", "countZeros", "()I"⟩, 4), (⟨"CheapParse$Reader", "numberOfClass", "(I)I"⟩, 4), (⟨"CheapParse$Reader", "faultBehind", "()I"⟩, 4), (⟨"CheapParseModel", "know", "()V"⟩, 31), (⟨"CheapParseModel", "priceOf", "(III)I"⟩, 31), (⟨"CheapParseModel", "findFar", "(I)V"⟩, 31), (⟨"CheapParseModel", "longest", "(II)I"⟩, 31), (⟨"CheapParseModel", "stepCheaply", "(I)V"⟩, 31), (⟨"CheapParseModel", "goOn", "(III)V"⟩, 31), (⟨"CheapParseModel", "stepGreedily", "(IZ)V"⟩, 31), (⟨"CheapParseModel", "longestAt", "(I)I"⟩, 31), (⟨"CheapParseModel", "nearestOf", "(II)I"⟩, 31)]
theorem lw_r2 : ∀ q ∈ lw_privs_2, lw_okq q := List.forall_mem_cons.mpr ⟨lw_p16, List.forall_mem_cons.mpr ⟨lw_p17, List.forall_mem_cons.mpr ⟨lw_p18, List.forall_mem_cons.mpr ⟨lw_p19, List.forall_mem_cons.mpr ⟨lw_p20, List.forall_mem_cons.mpr ⟨lw_p21, List.forall_mem_cons.mpr ⟨lw_p22, List.forall_mem_cons.mpr ⟨lw_p23, List.forall_mem_cons.mpr ⟨lw_p24, List.forall_mem_cons.mpr ⟨lw_p25, List.forall_mem_cons.mpr ⟨lw_p26, List.forall_mem_cons.mpr ⟨lw_p27, List.forall_mem_cons.mpr ⟨lw_p28, List.forall_mem_cons.mpr ⟨lw_p29, List.forall_mem_cons.mpr ⟨lw_p30, List.forall_mem_cons.mpr ⟨lw_p31, fun _ h => absurd h List.not_mem_nil⟩⟩⟩⟩⟩⟩⟩⟩⟩⟩⟩⟩⟩⟩⟩⟩
theorem lw_p32 : lw_okq (⟨"CheapParseModel", "put", "(II)V"⟩, 31) := ⟨⟨by decide +kernel, by decide +kernel⟩, List.mem_of_getElem? (i := 648) (by decide +kernel), List.mem_of_getElem? (i := 831) (by decide +kernel), List.mem_of_getElem? (i := 832) (by decide +kernel)⟩
theorem lw_p33 : lw_okq (⟨"CheapParseModel", "take", "(I)I"⟩, 31) := ⟨⟨by decide +kernel, by decide +kernel⟩, List.mem_of_getElem? (i := 648) (by decide +kernel), List.mem_of_getElem? (i := 847) (by decide +kernel), List.mem_of_getElem? (i := 848) (by decide +kernel)⟩
theorem lw_p34 : lw_okq (⟨"CheapParseModel", "takeBit", "()I"⟩, 31) := ⟨⟨by decide +kernel, by decide +kernel⟩, List.mem_of_getElem? (i := 648) (by decide +kernel), List.mem_of_getElem? (i := 851) (by decide +kernel), List.mem_of_getElem? (i := 852) (by decide +kernel)⟩
theorem lw_p35 : lw_okq (⟨"CheapParseModel", "need", "(ZI)V"⟩, 31) := ⟨⟨by decide +kernel, by decide +kernel⟩, List.mem_of_getElem? (i := 648) (by decide +kernel), List.mem_of_getElem? (i := 855) (by decide +kernel), List.mem_of_getElem? (i := 856) (by decide +kernel)⟩
theorem lw_p36 : lw_okq (⟨"CheapParseModel", "takeMatch", "(II)I"⟩, 31) := ⟨⟨by decide +kernel, by decide +kernel⟩, List.mem_of_getElem? (i := 648) (by decide +kernel), List.mem_of_getElem? (i := 859) (by decide +kernel), List.mem_of_getElem? (i := 860) (by decide +kernel)⟩
def lw_privs_3 : List (MethodName × Nat) := [(⟨"CheapParseModel", "put", "(II)V"⟩, 31), (⟨"CheapParseModel", "take", "(I)I"⟩, 31), (⟨"CheapParseModel", "takeBit", "()I"⟩, 31), (⟨"CheapParseModel", "need", "(ZI)V"⟩, 31), (⟨"CheapParseModel", "takeMatch", "(II)I"⟩, 31)]
theorem lw_r3 : ∀ q ∈ lw_privs_3, lw_okq q := List.forall_mem_cons.mpr ⟨lw_p32, List.forall_mem_cons.mpr ⟨lw_p33, List.forall_mem_cons.mpr ⟨lw_p34, List.forall_mem_cons.mpr ⟨lw_p35, List.forall_mem_cons.mpr ⟨lw_p36, fun _ h => absurd h List.not_mem_nil⟩⟩⟩⟩⟩
def lw_privs : List (MethodName × Nat) := lw_privs_1 ++ (lw_privs_2 ++ (lw_privs_3))
def lw_tbl : List Cond := k2_sels lw_privs ++ tables_1
theorem lw_privs_ok : ∀ q ∈ lw_privs, lw_okq q := by
  show ∀ q ∈ lw_privs_1 ++ (lw_privs_2 ++ (lw_privs_3)), lw_okq q
  exact List.forall_mem_append.mpr ⟨lw_r1, List.forall_mem_append.mpr ⟨lw_r2, lw_r3⟩⟩
end
section
/-! ===== BEGIN words of one list among another's, by their places ===== -/
theorem goodIn_r {big : List Cond} (ws : List Cond) (ps : List Nat) (hp : ws = ps.filterMap (fun i => big[i]?)) (h : ws.all goodWord = true) : GoodIn big ws := by
  intro w hw
  have h1 := List.all_eq_true.mp h w hw
  rw [hp] at hw
  obtain ⟨i, -, hi⟩ := List.mem_filterMap.mp hw
  have hm : w ∈ big := by first | exact List.mem_of_getElem? hi | exact List.getElem?_mem hi
  exact ⟨hm, good_of_word h1⟩
theorem goodIn_app {big a b : List Cond} (ha : GoodIn big a) (hb : GoodIn big b) : GoodIn big (a ++ b) := fun w h => (List.mem_append.mp h).elim (ha w) (hb w)
theorem goodIn_ca {big a b : List Cond} {c : Cond} (ha : GoodIn big (c :: a)) (hb : GoodIn big b) : GoodIn big (c :: (a ++ b)) := fun w h => (List.mem_cons.mp h).elim (fun e => ha w (List.mem_cons.mpr (Or.inl e))) (fun h => (List.mem_append.mp h).elim (fun h => ha w (List.mem_cons.mpr (Or.inr h))) (hb w))
theorem goodIn_sub {big ws : List Cond} (hm : ∀ w ∈ ws, w ∈ big) (h : ws.all goodWord = true) : GoodIn big ws := fun w hw => ⟨hm w hw, good_of_word (List.all_eq_true.mp h w hw)⟩
/-! ===== END ===== -/

/-! ===== BEGIN printed: names, fields, word lists, decode rows ===== -/
def RX0 : String := "CheapParse$BitWriter"
def TX0 : u_T := fun k => match k with
  | 0 => ("CheapParse$BitWriter", "row", "[I", true)
  | _ => ("CheapParse$BitWriter", "bits", "I", false)
def tyX0 : Nat → FieldType := fun k => match k with
  | 0 => .array .int
  | _ => .int
abbrev wsX00 : List Cond := u_ws RX0 TX0 2
theorem nmX0 : ∀ a, a < 2 → ∀ b, b < 2 → a ≠ b → (TX0 a).2.1 ≠ (TX0 b).2.1 := by decide +kernel
theorem tyX0_ok : ∀ k, k < 2 → parseFieldDescriptor (TX0 k).2.2.1 = some (tyX0 k) := by decide +kernel
abbrev cX0_init : ByteArray := prog_2_method_1_code
def yX0_init : MethodName := ⟨RX0, "<init>", "()V"⟩
abbrev cX0_begin : ByteArray := prog_2_method_2_code
def yX0_begin : MethodName := ⟨RX0, "begin", "()V"⟩
abbrev cX0_size : ByteArray := prog_2_method_3_code
def yX0_size : MethodName := ⟨RX0, "size", "()I"⟩
abbrev cX0_get : ByteArray := prog_2_method_4_code
def yX0_get : MethodName := ⟨RX0, "get", "(I)I"⟩
abbrev cX0_put : ByteArray := prog_2_method_5_code
def yX0_put : MethodName := ⟨RX0, "put", "(II)V"⟩
abbrev cX0_putBit : ByteArray := prog_2_method_6_code
def yX0_putBit : MethodName := ⟨RX0, "putBit", "(I)V"⟩
def RX1 : String := "CheapParse$Bytes"
def TX1 : u_T := fun k => match k with
  | 0 => ("CheapParse$Bytes", "row", "[I", true)
  | _ => ("CheapParse$Bytes", "size", "I", false)
def tyX1 : Nat → FieldType := fun k => match k with
  | 0 => .array .int
  | _ => .int
abbrev wsX10 : List Cond := u_ws RX1 TX1 2
theorem nmX1 : ∀ a, a < 2 → ∀ b, b < 2 → a ≠ b → (TX1 a).2.1 ≠ (TX1 b).2.1 := by decide +kernel
theorem tyX1_ok : ∀ k, k < 2 → parseFieldDescriptor (TX1 k).2.2.1 = some (tyX1 k) := by decide +kernel
abbrev cX1_init : ByteArray := prog_3_method_1_code
def yX1_init : MethodName := ⟨RX1, "<init>", "(I)V"⟩
abbrev cX1_size : ByteArray := prog_3_method_2_code
def yX1_size : MethodName := ⟨RX1, "size", "()I"⟩
abbrev cX1_get : ByteArray := prog_3_method_3_code
def yX1_get : MethodName := ⟨RX1, "get", "(I)I"⟩
abbrev cX1_empty : ByteArray := prog_3_method_4_code
def yX1_empty : MethodName := ⟨RX1, "empty", "()V"⟩
abbrev cX1_add : ByteArray := prog_3_method_5_code
def yX1_add : MethodName := ⟨RX1, "add", "(I)V"⟩
abbrev cX1_addLowest : ByteArray := prog_3_method_6_code
def yX1_addLowest : MethodName := ⟨RX1, "addLowest", "(JI)I"⟩
abbrev cX1_addTimes : ByteArray := prog_3_method_7_code
def yX1_addTimes : MethodName := ⟨RX1, "addTimes", "(II)I"⟩
abbrev cX1_addAgain : ByteArray := prog_3_method_8_code
def yX1_addAgain : MethodName := ⟨RX1, "addAgain", "(II)V"⟩
abbrev cX1_copyOf : ByteArray := prog_3_method_9_code
def yX1_copyOf : MethodName := ⟨RX1, "copyOf", "(LCheapParse$Bytes;)V"⟩
abbrev cX1_sameAs : ByteArray := prog_3_method_10_code
def yX1_sameAs : MethodName := ⟨RX1, "sameAs", "(LCheapParse$Bytes;)Z"⟩
abbrev cX1_repeats : ByteArray := prog_3_method_11_code
def yX1_repeats : MethodName := ⟨RX1, "repeats", "(III)Z"⟩
def RX2 : String := "CheapParse$Costs"
def TX2 : u_T := fun k => match k with
  | 0 => ("CheapParse$Costs", "text", "LCheapParse$Bytes;", true)
  | 1 => ("CheapParse$Costs", "rules", "LCheapParse$Rules;", true)
  | 2 => ("CheapParse$Costs", "tariff", "LCheapParse$Tariff;", true)
  | 3 => ("CheapParse$Costs", "matches", "LCheapParse$Matches;", true)
  | 4 => ("CheapParse$Costs", "least", "[I", true)
  | 5 => ("CheapParse$Costs", "stepLength", "[I", true)
  | 6 => ("CheapParse$Costs", "stepDistancePrice", "[I", true)
  | 7 => ("CheapParse$Costs", "lengthPrice", "[I", true)
  | _ => ("CheapParse$Costs", "priceByReach", "[I", true)
def tyX2 : Nat → FieldType := fun k => match k with
  | 0 => .object "CheapParse$Bytes"
  | 1 => .object "CheapParse$Rules"
  | 2 => .object "CheapParse$Tariff"
  | 3 => .object "CheapParse$Matches"
  | 4 => .array .int
  | 5 => .array .int
  | 6 => .array .int
  | 7 => .array .int
  | _ => .array .int
abbrev wsX20 : List Cond := u_ws RX2 TX2 9
theorem nmX2 : ∀ a, a < 9 → ∀ b, b < 9 → a ≠ b → (TX2 a).2.1 ≠ (TX2 b).2.1 := by decide +kernel
theorem tyX2_ok : ∀ k, k < 9 → parseFieldDescriptor (TX2 k).2.2.1 = some (tyX2 k) := by decide +kernel
abbrev cX2_init : ByteArray := prog_4_method_1_code
def yX2_init : MethodName := ⟨RX2, "<init>", "(LCheapParse$Bytes;LCheapParse$Rules;LCheapParse$Tariff;LCheapParse$Matches;)V"⟩
abbrev cX2_build : ByteArray := prog_4_method_2_code
def yX2_build : MethodName := ⟨RX2, "build", "()V"⟩
abbrev cX2_leastFrom : ByteArray := prog_4_method_3_code
def yX2_leastFrom : MethodName := ⟨RX2, "leastFrom", "(I)I"⟩
abbrev cX2_lengthAt : ByteArray := prog_4_method_4_code
def yX2_lengthAt : MethodName := ⟨RX2, "lengthAt", "(I)I"⟩
abbrev cX2_distanceAt : ByteArray := prog_4_method_5_code
def yX2_distanceAt : MethodName := ⟨RX2, "distanceAt", "(I)I"⟩
abbrev cX2_chooseStep : ByteArray := prog_4_method_6_code
def yX2_chooseStep : MethodName := ⟨RX2, "chooseStep", "(I)V"⟩
abbrev cX2_sortByReach : ByteArray := prog_4_method_7_code
def yX2_sortByReach : MethodName := ⟨RX2, "sortByReach", "(II)V"⟩
def RX3 : String := "CheapParse$Matches"
def TX3 : u_T := fun k => match k with
  | 0 => ("CheapParse$Matches", "text", "LCheapParse$Bytes;", true)
  | 1 => ("CheapParse$Matches", "rules", "LCheapParse$Rules;", true)
  | 2 => ("CheapParse$Matches", "longest", "[I", true)
  | 3 => ("CheapParse$Matches", "nearest", "[I", true)
  | 4 => ("CheapParse$Matches", "distances", "[I", true)
  | 5 => ("CheapParse$Matches", "reach", "[I", true)
  | _ => ("CheapParse$Matches", "same", "[I", true)
def tyX3 : Nat → FieldType := fun k => match k with
  | 0 => .object "CheapParse$Bytes"
  | 1 => .object "CheapParse$Rules"
  | 2 => .array .int
  | 3 => .array .int
  | 4 => .array .int
  | 5 => .array .int
  | _ => .array .int
abbrev wsX30 : List Cond := u_ws RX3 TX3 7
theorem nmX3 : ∀ a, a < 7 → ∀ b, b < 7 → a ≠ b → (TX3 a).2.1 ≠ (TX3 b).2.1 := by decide +kernel
theorem tyX3_ok : ∀ k, k < 7 → parseFieldDescriptor (TX3 k).2.2.1 = some (tyX3 k) := by decide +kernel
abbrev cX3_init : ByteArray := prog_5_method_1_code
def yX3_init : MethodName := ⟨RX3, "<init>", "(LCheapParse$Bytes;LCheapParse$Rules;)V"⟩
abbrev cX3_build : ByteArray := prog_5_method_2_code
def yX3_build : MethodName := ⟨RX3, "build", "()V"⟩
abbrev cX3_longestAt : ByteArray := prog_5_method_3_code
def yX3_longestAt : MethodName := ⟨RX3, "longestAt", "(I)I"⟩
abbrev cX3_nearestAt : ByteArray := prog_5_method_4_code
def yX3_nearestAt : MethodName := ⟨RX3, "nearestAt", "(I)I"⟩
abbrev cX3_distancesAt : ByteArray := prog_5_method_5_code
def yX3_distancesAt : MethodName := ⟨RX3, "distancesAt", "(I)I"⟩
abbrev cX3_reachAt : ByteArray := prog_5_method_6_code
def yX3_reachAt : MethodName := ⟨RX3, "reachAt", "(II)I"⟩
abbrev cX3_nearestOfClass : ByteArray := prog_5_method_7_code
def yX3_nearestOfClass : MethodName := ⟨RX3, "nearestOfClass", "(III)I"⟩
abbrev cX3_lastOfClass : ByteArray := prog_5_method_8_code
def yX3_lastOfClass : MethodName := ⟨RX3, "lastOfClass", "(II)I"⟩
abbrev cX3_noteClass : ByteArray := prog_5_method_9_code
def yX3_noteClass : MethodName := ⟨RX3, "noteClass", "(II)V"⟩
abbrev cX3_noteMatch : ByteArray := prog_5_method_10_code
def yX3_noteMatch : MethodName := ⟨RX3, "noteMatch", "(III)I"⟩
def RX4 : String := "CheapParse$Reader"
def TX4 : u_T := fun k => match k with
  | 0 => ("CheapParse$Reader", "source", "LCheapParse$Bytes;", true)
  | 1 => ("CheapParse$Reader", "rules", "LCheapParse$Rules;", true)
  | 2 => ("CheapParse$Reader", "made", "LCheapParse$Bytes;", true)
  | _ => ("CheapParse$Reader", "bits", "I", false)
def tyX4 : Nat → FieldType := fun k => match k with
  | 0 => .object "CheapParse$Bytes"
  | 1 => .object "CheapParse$Rules"
  | 2 => .object "CheapParse$Bytes"
  | _ => .int
abbrev wsX40 : List Cond := u_ws RX4 TX4 4
theorem nmX4 : ∀ a, a < 4 → ∀ b, b < 4 → a ≠ b → (TX4 a).2.1 ≠ (TX4 b).2.1 := by decide +kernel
theorem tyX4_ok : ∀ k, k < 4 → parseFieldDescriptor (TX4 k).2.2.1 = some (tyX4 k) := by decide +kernel
abbrev cX4_init : ByteArray := prog_6_method_1_code
def yX4_init : MethodName := ⟨RX4, "<init>", "(LCheapParse$Bytes;LCheapParse$Rules;LCheapParse$Bytes;)V"⟩
abbrev cX4_readText : ByteArray := prog_6_method_2_code
def yX4_readText : MethodName := ⟨RX4, "readText", "()I"⟩
abbrev cX4_readStep : ByteArray := prog_6_method_3_code
def yX4_readStep : MethodName := ⟨RX4, "readStep", "(I)I"⟩
abbrev cX4_readByte : ByteArray := prog_6_method_4_code
def yX4_readByte : MethodName := ⟨RX4, "readByte", "()I"⟩
abbrev cX4_readMatch : ByteArray := prog_6_method_5_code
def yX4_readMatch : MethodName := ⟨RX4, "readMatch", "(I)I"⟩
abbrev cX4_countZeros : ByteArray := prog_6_method_6_code
def yX4_countZeros : MethodName := ⟨RX4, "countZeros", "()I"⟩
abbrev cX4_numberOfClass : ByteArray := prog_6_method_7_code
def yX4_numberOfClass : MethodName := ⟨RX4, "numberOfClass", "(I)I"⟩
abbrev cX4_number : ByteArray := prog_6_method_8_code
def yX4_number : MethodName := ⟨RX4, "number", "(I)I"⟩
abbrev cX4_faultBehind : ByteArray := prog_6_method_9_code
def yX4_faultBehind : MethodName := ⟨RX4, "faultBehind", "()I"⟩
def RX5 : String := "CheapParse$Rules"
def TX5 : u_T := fun k => match k with
  | 0 => ("CheapParse$Rules", "least", "I", false)
  | 1 => ("CheapParse$Rules", "most", "I", false)
  | _ => ("CheapParse$Rules", "window", "I", false)
def tyX5 : Nat → FieldType := fun k => match k with
  | 0 => .int
  | 1 => .int
  | _ => .int
abbrev wsX50 : List Cond := u_ws RX5 TX5 3
theorem nmX5 : ∀ a, a < 3 → ∀ b, b < 3 → a ≠ b → (TX5 a).2.1 ≠ (TX5 b).2.1 := by decide +kernel
theorem tyX5_ok : ∀ k, k < 3 → parseFieldDescriptor (TX5 k).2.2.1 = some (tyX5 k) := by decide +kernel
abbrev cX5_init : ByteArray := prog_7_method_1_code
def yX5_init : MethodName := ⟨RX5, "<init>", "()V"⟩
abbrev cX5_least : ByteArray := prog_7_method_2_code
def yX5_least : MethodName := ⟨RX5, "least", "()I"⟩
abbrev cX5_most : ByteArray := prog_7_method_3_code
def yX5_most : MethodName := ⟨RX5, "most", "()I"⟩
abbrev cX5_window : ByteArray := prog_7_method_4_code
def yX5_window : MethodName := ⟨RX5, "window", "()I"⟩
abbrev cX5_change : ByteArray := prog_7_method_5_code
def yX5_change : MethodName := ⟨RX5, "change", "(III)Z"⟩
def RX6 : String := "CheapParse$Steps"
def TX6 : u_T := fun k => match k with
  | 0 => ("CheapParse$Steps", "text", "LCheapParse$Bytes;", true)
  | 1 => ("CheapParse$Steps", "places", "[I", true)
  | 2 => ("CheapParse$Steps", "lengths", "[I", true)
  | 3 => ("CheapParse$Steps", "distances", "[I", true)
  | 4 => ("CheapParse$Steps", "least", "I", false)
  | 5 => ("CheapParse$Steps", "count", "I", false)
  | 6 => ("CheapParse$Steps", "matchCount", "I", false)
  | 7 => ("CheapParse$Steps", "wholePrice", "I", false)
  | 8 => ("CheapParse$Steps", "bits", "I", false)
  | _ => ("CheapParse$Steps", "made", "Z", false)
def tyX6 : Nat → FieldType := fun k => match k with
  | 0 => .object "CheapParse$Bytes"
  | 1 => .array .int
  | 2 => .array .int
  | 3 => .array .int
  | 4 => .int
  | 5 => .int
  | 6 => .int
  | 7 => .int
  | 8 => .int
  | _ => .boolean
abbrev wsX60 : List Cond := u_ws RX6 TX6 10
theorem nmX6 : ∀ a, a < 10 → ∀ b, b < 10 → a ≠ b → (TX6 a).2.1 ≠ (TX6 b).2.1 := by decide +kernel
theorem tyX6_ok : ∀ k, k < 10 → parseFieldDescriptor (TX6 k).2.2.1 = some (tyX6 k) := by decide +kernel
abbrev cX6_init : ByteArray := prog_8_method_1_code
def yX6_init : MethodName := ⟨RX6, "<init>", "()V"⟩
abbrev cX6_begin : ByteArray := prog_8_method_2_code
def yX6_begin : MethodName := ⟨RX6, "begin", "(LCheapParse$Bytes;I)V"⟩
abbrev cX6_addByte : ByteArray := prog_8_method_3_code
def yX6_addByte : MethodName := ⟨RX6, "addByte", "(II)V"⟩
abbrev cX6_addMatch : ByteArray := prog_8_method_4_code
def yX6_addMatch : MethodName := ⟨RX6, "addMatch", "(IIII)V"⟩
abbrev cX6_made : ByteArray := prog_8_method_5_code
def yX6_made : MethodName := ⟨RX6, "made", "()Z"⟩
abbrev cX6_count : ByteArray := prog_8_method_6_code
def yX6_count : MethodName := ⟨RX6, "count", "()I"⟩
abbrev cX6_matchCount : ByteArray := prog_8_method_7_code
def yX6_matchCount : MethodName := ⟨RX6, "matchCount", "()I"⟩
abbrev cX6_wholePrice : ByteArray := prog_8_method_8_code
def yX6_wholePrice : MethodName := ⟨RX6, "wholePrice", "()I"⟩
abbrev cX6_bits : ByteArray := prog_8_method_9_code
def yX6_bits : MethodName := ⟨RX6, "bits", "()I"⟩
abbrev cX6_textSize : ByteArray := prog_8_method_10_code
def yX6_textSize : MethodName := ⟨RX6, "textSize", "()I"⟩
abbrev cX6_has : ByteArray := prog_8_method_11_code
def yX6_has : MethodName := ⟨RX6, "has", "(I)Z"⟩
abbrev cX6_placeOf : ByteArray := prog_8_method_12_code
def yX6_placeOf : MethodName := ⟨RX6, "placeOf", "(I)I"⟩
abbrev cX6_lengthOf : ByteArray := prog_8_method_13_code
def yX6_lengthOf : MethodName := ⟨RX6, "lengthOf", "(I)I"⟩
abbrev cX6_distanceOf : ByteArray := prog_8_method_14_code
def yX6_distanceOf : MethodName := ⟨RX6, "distanceOf", "(I)I"⟩
abbrev cX6_byteOf : ByteArray := prog_8_method_15_code
def yX6_byteOf : MethodName := ⟨RX6, "byteOf", "(I)I"⟩
abbrev cX6_putInto : ByteArray := prog_8_method_16_code
def yX6_putInto : MethodName := ⟨RX6, "putInto", "(LCheapParse$BitWriter;)V"⟩
abbrev cX6_makeTheirText : ByteArray := prog_8_method_17_code
def yX6_makeTheirText : MethodName := ⟨RX6, "makeTheirText", "(LCheapParse$Bytes;)Z"⟩
abbrev cX6_addOne : ByteArray := prog_8_method_18_code
def yX6_addOne : MethodName := ⟨RX6, "addOne", "(IIII)V"⟩
abbrev cX6_lengthTold : ByteArray := prog_8_method_19_code
def yX6_lengthTold : MethodName := ⟨RX6, "lengthTold", "(I)I"⟩
abbrev cX6_lengthBits : ByteArray := prog_8_method_20_code
def yX6_lengthBits : MethodName := ⟨RX6, "lengthBits", "(I)I"⟩
abbrev cX6_putMatch : ByteArray := prog_8_method_21_code
def yX6_putMatch : MethodName := ⟨RX6, "putMatch", "(LCheapParse$BitWriter;II)V"⟩
def RX7 : String := "CheapParse$Tariff"
def TX7 : u_T := fun k => match k with
  | 0 => ("CheapParse$Tariff", "bytes", "[I", true)
  | 1 => ("CheapParse$Tariff", "allMatches", "[I", true)
  | 2 => ("CheapParse$Tariff", "lengths", "[I", true)
  | _ => ("CheapParse$Tariff", "distances", "[I", true)
def tyX7 : Nat → FieldType := fun k => match k with
  | 0 => .array .int
  | 1 => .array .int
  | 2 => .array .int
  | _ => .array .int
abbrev wsX70 : List Cond := u_ws RX7 TX7 4
theorem nmX7 : ∀ a, a < 4 → ∀ b, b < 4 → a ≠ b → (TX7 a).2.1 ≠ (TX7 b).2.1 := by decide +kernel
theorem tyX7_ok : ∀ k, k < 4 → parseFieldDescriptor (TX7 k).2.2.1 = some (tyX7 k) := by decide +kernel
abbrev cX7_init : ByteArray := prog_9_method_1_code
def yX7_init : MethodName := ⟨RX7, "<init>", "()V"⟩
abbrev cX7_change : ByteArray := prog_9_method_2_code
def yX7_change : MethodName := ⟨RX7, "change", "(III)Z"⟩
abbrev cX7_ofByte : ByteArray := prog_9_method_3_code
def yX7_ofByte : MethodName := ⟨RX7, "ofByte", "(I)I"⟩
abbrev cX7_ofMatch : ByteArray := prog_9_method_4_code
def yX7_ofMatch : MethodName := ⟨RX7, "ofMatch", "(II)I"⟩
abbrev cX7_ofLength : ByteArray := prog_9_method_5_code
def yX7_ofLength : MethodName := ⟨RX7, "ofLength", "(I)I"⟩
abbrev cX7_ofDistanceClass : ByteArray := prog_9_method_6_code
def yX7_ofDistanceClass : MethodName := ⟨RX7, "ofDistanceClass", "(I)I"⟩
abbrev cX7_rowOf : ByteArray := prog_9_method_7_code
def yX7_rowOf : MethodName := ⟨RX7, "rowOf", "(I)[I"⟩
abbrev cX7_firstPrices : ByteArray := prog_9_method_8_code
def yX7_firstPrices : MethodName := ⟨RX7, "firstPrices", "(I)[I"⟩
def RX8 : String := "CheapParse"
def TX8 : u_T := fun k => match k with
  | 0 => ("CheapParse", "text", "LCheapParse$Bytes;", true)
  | 1 => ("CheapParse", "loaded", "LCheapParse$Bytes;", true)
  | 2 => ("CheapParse", "lastRead", "LCheapParse$Bytes;", true)
  | 3 => ("CheapParse", "scratch", "LCheapParse$Bytes;", true)
  | 4 => ("CheapParse", "rules", "LCheapParse$Rules;", true)
  | 5 => ("CheapParse", "tariff", "LCheapParse$Tariff;", true)
  | 6 => ("CheapParse", "matches", "LCheapParse$Matches;", true)
  | 7 => ("CheapParse", "costs", "LCheapParse$Costs;", true)
  | 8 => ("CheapParse", "latest", "LCheapParse$Steps;", true)
  | 9 => ("CheapParse", "writer", "LCheapParse$BitWriter;", true)
  | 10 => ("CheapParse", "reader", "LCheapParse$Reader;", true)
  | 11 => ("CheapParse", "matchesStale", "Z", false)
  | 12 => ("CheapParse", "costsStale", "Z", false)
  | _ => ("CheapParse", "anyRead", "Z", false)
def tyX8 : Nat → FieldType := fun k => match k with
  | 0 => .object "CheapParse$Bytes"
  | 1 => .object "CheapParse$Bytes"
  | 2 => .object "CheapParse$Bytes"
  | 3 => .object "CheapParse$Bytes"
  | 4 => .object "CheapParse$Rules"
  | 5 => .object "CheapParse$Tariff"
  | 6 => .object "CheapParse$Matches"
  | 7 => .object "CheapParse$Costs"
  | 8 => .object "CheapParse$Steps"
  | 9 => .object "CheapParse$BitWriter"
  | 10 => .object "CheapParse$Reader"
  | 11 => .boolean
  | 12 => .boolean
  | _ => .boolean
abbrev wsX80 : List Cond := u_ws RX8 TX8 14
theorem nmX8 : ∀ a, a < 14 → ∀ b, b < 14 → a ≠ b → (TX8 a).2.1 ≠ (TX8 b).2.1 := by decide +kernel
theorem tyX8_ok : ∀ k, k < 14 → parseFieldDescriptor (TX8 k).2.2.1 = some (tyX8 k) := by decide +kernel
abbrev cX8_init : ByteArray := prog_1_method_1_code
def yX8_init : MethodName := ⟨RX8, "<init>", "()V"⟩
abbrev cX8_type : ByteArray := prog_1_method_2_code
def yX8_type : MethodName := ⟨RX8, "type", "(JI)I"⟩
abbrev cX8_fill : ByteArray := prog_1_method_3_code
def yX8_fill : MethodName := ⟨RX8, "fill", "(II)I"⟩
abbrev cX8_clear : ByteArray := prog_1_method_4_code
def yX8_clear : MethodName := ⟨RX8, "clear", "()I"⟩
abbrev cX8_limits : ByteArray := prog_1_method_5_code
def yX8_limits : MethodName := ⟨RX8, "limits", "(III)I"⟩
abbrev cX8_price : ByteArray := prog_1_method_6_code
def yX8_price : MethodName := ⟨RX8, "price", "(III)I"⟩
abbrev cX8_parse : ByteArray := prog_1_method_7_code
def yX8_parse : MethodName := ⟨RX8, "parse", "(I)I"⟩
abbrev cX8_step : ByteArray := prog_1_method_8_code
def yX8_step : MethodName := ⟨RX8, "step", "(II)I"⟩
abbrev cX8_told : ByteArray := prog_1_method_9_code
def yX8_told : MethodName := ⟨RX8, "told", "(I)I"⟩
abbrev cX8_at : ByteArray := prog_1_method_10_code
def yX8_at : MethodName := ⟨RX8, "at", "(II)I"⟩
abbrev cX8_write : ByteArray := prog_1_method_11_code
def yX8_write : MethodName := ⟨RX8, "write", "()I"⟩
abbrev cX8_written : ByteArray := prog_1_method_12_code
def yX8_written : MethodName := ⟨RX8, "written", "(I)I"⟩
abbrev cX8_load : ByteArray := prog_1_method_13_code
def yX8_load : MethodName := ⟨RX8, "load", "(JI)I"⟩
abbrev cX8_read : ByteArray := prog_1_method_14_code
def yX8_read : MethodName := ⟨RX8, "read", "()I"⟩
abbrev cX8_taken : ByteArray := prog_1_method_15_code
def yX8_taken : MethodName := ⟨RX8, "taken", "(I)I"⟩
abbrev cX8_check : ByteArray := prog_1_method_16_code
def yX8_check : MethodName := ⟨RX8, "check", "()I"⟩
abbrev cX8_forgetMatches : ByteArray := prog_1_method_17_code
def yX8_forgetMatches : MethodName := ⟨RX8, "forgetMatches", "()V"⟩
abbrev cX8_renewMatches : ByteArray := prog_1_method_18_code
def yX8_renewMatches : MethodName := ⟨RX8, "renewMatches", "()V"⟩
abbrev cX8_renewCosts : ByteArray := prog_1_method_19_code
def yX8_renewCosts : MethodName := ⟨RX8, "renewCosts", "()V"⟩
abbrev cX8_addStep : ByteArray := prog_1_method_20_code
def yX8_addStep : MethodName := ⟨RX8, "addStep", "(II)I"⟩
abbrev cX8_longestStep : ByteArray := prog_1_method_21_code
def yX8_longestStep : MethodName := ⟨RX8, "longestStep", "(II)I"⟩
abbrev cX8_classOf : ByteArray := prog_1_method_22_code
def yX8_classOf : MethodName := ⟨RX8, "classOf", "(I)I"⟩
def RX9 : String := "CheapParseModel"
def TX9 : u_T := fun k => match k with
  | 0 => ("CheapParseModel", "thrown", "I", false)
  | 1 => ("CheapParseModel", "text", "[I", true)
  | 2 => ("CheapParseModel", "length", "I", false)
  | 3 => ("CheapParseModel", "least", "I", false)
  | 4 => ("CheapParseModel", "most", "I", false)
  | 5 => ("CheapParseModel", "window", "I", false)
  | 6 => ("CheapParseModel", "prices", "[I", true)
  | 7 => ("CheapParseModel", "common", "[S", true)
  | 8 => ("CheapParseModel", "cheapest", "[I", true)
  | 9 => ("CheapParseModel", "known", "Z", false)
  | 10 => ("CheapParseModel", "places", "[I", true)
  | 11 => ("CheapParseModel", "lengths", "[I", true)
  | 12 => ("CheapParseModel", "distances", "[I", true)
  | 13 => ("CheapParseModel", "steps", "I", false)
  | 14 => ("CheapParseModel", "price", "I", false)
  | 15 => ("CheapParseModel", "bits", "I", false)
  | 16 => ("CheapParseModel", "parsed", "[I", true)
  | 17 => ("CheapParseModel", "parsedSize", "I", false)
  | 18 => ("CheapParseModel", "parsedLeast", "I", false)
  | 19 => ("CheapParseModel", "there", "Z", false)
  | 20 => ("CheapParseModel", "out", "[Z", true)
  | 21 => ("CheapParseModel", "outSize", "I", false)
  | 22 => ("CheapParseModel", "writtenSize", "I", false)
  | 23 => ("CheapParseModel", "in", "[I", true)
  | 24 => ("CheapParseModel", "inSize", "I", false)
  | 25 => ("CheapParseModel", "inAt", "I", false)
  | 26 => ("CheapParseModel", "draft", "[I", true)
  | 27 => ("CheapParseModel", "taken", "[I", true)
  | 28 => ("CheapParseModel", "takenSize", "I", false)
  | 29 => ("CheapParseModel", "far", "[I", true)
  | _ => ("CheapParseModel", "fault", "I", false)
def tyX9 : Nat → FieldType := fun k => match k with
  | 0 => .int
  | 1 => .array .int
  | 2 => .int
  | 3 => .int
  | 4 => .int
  | 5 => .int
  | 6 => .array .int
  | 7 => .array .short
  | 8 => .array .int
  | 9 => .boolean
  | 10 => .array .int
  | 11 => .array .int
  | 12 => .array .int
  | 13 => .int
  | 14 => .int
  | 15 => .int
  | 16 => .array .int
  | 17 => .int
  | 18 => .int
  | 19 => .boolean
  | 20 => .array .boolean
  | 21 => .int
  | 22 => .int
  | 23 => .array .int
  | 24 => .int
  | 25 => .int
  | 26 => .array .int
  | 27 => .array .int
  | 28 => .int
  | 29 => .array .int
  | _ => .int
abbrev wsX90 : List Cond := u_ws RX9 TX9 31
theorem nmX9 : ∀ a, a < 31 → ∀ b, b < 31 → a ≠ b → (TX9 a).2.1 ≠ (TX9 b).2.1 := by decide +kernel
theorem tyX9_ok : ∀ k, k < 31 → parseFieldDescriptor (TX9 k).2.2.1 = some (tyX9 k) := by decide +kernel
abbrev cX9_init : ByteArray := prog_11_method_1_code
def yX9_init : MethodName := ⟨RX9, "<init>", "()V"⟩
abbrev cX9_classOf : ByteArray := prog_11_method_3_code
def yX9_classOf : MethodName := ⟨RX9, "classOf", "(I)I"⟩
abbrev cX9_type : ByteArray := prog_11_method_4_code
def yX9_type : MethodName := ⟨RX9, "type", "(JI)I"⟩
abbrev cX9_fill : ByteArray := prog_11_method_5_code
def yX9_fill : MethodName := ⟨RX9, "fill", "(II)I"⟩
abbrev cX9_clear : ByteArray := prog_11_method_6_code
def yX9_clear : MethodName := ⟨RX9, "clear", "()I"⟩
abbrev cX9_limits : ByteArray := prog_11_method_7_code
def yX9_limits : MethodName := ⟨RX9, "limits", "(III)I"⟩
abbrev cX9_price : ByteArray := prog_11_method_8_code
def yX9_price : MethodName := ⟨RX9, "price", "(III)I"⟩
abbrev cX9_priceOf : ByteArray := prog_11_method_9_code
def yX9_priceOf : MethodName := ⟨RX9, "priceOf", "(III)I"⟩
abbrev cX9_longest : ByteArray := prog_11_method_10_code
def yX9_longest : MethodName := ⟨RX9, "longest", "(II)I"⟩
abbrev cX9_know : ByteArray := prog_11_method_11_code
def yX9_know : MethodName := ⟨RX9, "know", "()V"⟩
abbrev cX9_findFar : ByteArray := prog_11_method_12_code
def yX9_findFar : MethodName := ⟨RX9, "findFar", "(I)V"⟩
abbrev cX9_goOn : ByteArray := prog_11_method_13_code
def yX9_goOn : MethodName := ⟨RX9, "goOn", "(III)V"⟩
abbrev cX9_stepCheaply : ByteArray := prog_11_method_14_code
def yX9_stepCheaply : MethodName := ⟨RX9, "stepCheaply", "(I)V"⟩
abbrev cX9_longestAt : ByteArray := prog_11_method_15_code
def yX9_longestAt : MethodName := ⟨RX9, "longestAt", "(I)I"⟩
abbrev cX9_nearestOf : ByteArray := prog_11_method_16_code
def yX9_nearestOf : MethodName := ⟨RX9, "nearestOf", "(II)I"⟩
abbrev cX9_stepGreedily : ByteArray := prog_11_method_17_code
def yX9_stepGreedily : MethodName := ⟨RX9, "stepGreedily", "(IZ)V"⟩
abbrev cX9_parse : ByteArray := prog_11_method_18_code
def yX9_parse : MethodName := ⟨RX9, "parse", "(I)I"⟩
abbrev cX9_step : ByteArray := prog_11_method_19_code
def yX9_step : MethodName := ⟨RX9, "step", "(II)I"⟩
abbrev cX9_told : ByteArray := prog_11_method_20_code
def yX9_told : MethodName := ⟨RX9, "told", "(I)I"⟩
abbrev cX9_at : ByteArray := prog_11_method_21_code
def yX9_at : MethodName := ⟨RX9, "at", "(II)I"⟩
abbrev cX9_put : ByteArray := prog_11_method_22_code
def yX9_put : MethodName := ⟨RX9, "put", "(II)V"⟩
abbrev cX9_write : ByteArray := prog_11_method_23_code
def yX9_write : MethodName := ⟨RX9, "write", "()I"⟩
abbrev cX9_written : ByteArray := prog_11_method_24_code
def yX9_written : MethodName := ⟨RX9, "written", "(I)I"⟩
abbrev cX9_load : ByteArray := prog_11_method_25_code
def yX9_load : MethodName := ⟨RX9, "load", "(JI)I"⟩
abbrev cX9_takeBit : ByteArray := prog_11_method_26_code
def yX9_takeBit : MethodName := ⟨RX9, "takeBit", "()I"⟩
abbrev cX9_take : ByteArray := prog_11_method_27_code
def yX9_take : MethodName := ⟨RX9, "take", "(I)I"⟩
abbrev cX9_need : ByteArray := prog_11_method_28_code
def yX9_need : MethodName := ⟨RX9, "need", "(ZI)V"⟩
abbrev cX9_takeMatch : ByteArray := prog_11_method_29_code
def yX9_takeMatch : MethodName := ⟨RX9, "takeMatch", "(II)I"⟩
abbrev cX9_read : ByteArray := prog_11_method_30_code
def yX9_read : MethodName := ⟨RX9, "read", "()I"⟩
abbrev cX9_taken : ByteArray := prog_11_method_31_code
def yX9_taken : MethodName := ⟨RX9, "taken", "(I)I"⟩
abbrev cX9_check : ByteArray := prog_11_method_32_code
def yX9_check : MethodName := ⟨RX9, "check", "()I"⟩
def RJ9 : String := "java/lang/Math"
def TJ9 : u_T := fun k => match k with
  | _ => ("", "", "", false)
def tyJ9 : Nat → FieldType := fun k => match k with
  | _ => .int
abbrev wsJ90 : List Cond := u_ws RJ9 TJ9 0
theorem nmJ9 : ∀ a, a < 0 → ∀ b, b < 0 → a ≠ b → (TJ9 a).2.1 ≠ (TJ9 b).2.1 := by decide +kernel
theorem tyJ9_ok : ∀ k, k < 0 → parseFieldDescriptor (TJ9 k).2.2.1 = some (tyJ9 k) := by decide +kernel
abbrev cJ9_max_7cf53 : ByteArray := prog_12_method_65_code
def yJ9_max_7cf53 : MethodName := ⟨RJ9, "max", "(II)I"⟩
abbrev cJ9_min_7cf53 : ByteArray := prog_12_method_69_code
def yJ9_min_7cf53 : MethodName := ⟨RJ9, "min", "(II)I"⟩
def RJ10 : String := "java/lang/System"
def TJ10 : u_T := fun k => match k with
  | _ => ("", "", "", false)
def tyJ10 : Nat → FieldType := fun k => match k with
  | _ => .int
abbrev wsJ100 : List Cond := u_ws RJ10 TJ10 0
theorem nmJ10 : ∀ a, a < 0 → ∀ b, b < 0 → a ≠ b → (TJ10 a).2.1 ≠ (TJ10 b).2.1 := by decide +kernel
theorem tyJ10_ok : ∀ k, k < 0 → parseFieldDescriptor (TJ10 k).2.2.1 = some (tyJ10 k) := by decide +kernel
def RL : String := "CheapParseLaw"
abbrev cL_law : ByteArray := code
def yL_law : MethodName := ⟨RL, "law", "([I)Z"⟩
def wsX0_init : List Cond := .code yX0_init cX0_init 1 none :: ([.methodLink RX0 3 objectInit, .instanceMethod objectInit, .code objectInit ⟨#[0xb1]⟩ 1 none, .arrayClass .int, .fieldLink RX0 9 "CheapParse$BitWriter" "row" "[I", .fieldLink RX0 15 "CheapParse$BitWriter" "bits" "I"] ++ wsX00)
def wsX0_begin : List Cond := .code yX0_begin cX0_begin 1 none :: ([.fieldLink RX0 15 "CheapParse$BitWriter" "bits" "I"] ++ wsX00)
def wsX0_size : List Cond := .code yX0_size cX0_size 1 (some .int) :: ([.fieldLink RX0 15 "CheapParse$BitWriter" "bits" "I"] ++ wsX00)
def wsX0_get : List Cond := .code yX0_get cX0_get 2 (some .int) :: ([.fieldLink RX0 9 "CheapParse$BitWriter" "row" "[I", .methodLink RX0 19 yX0_size, .instanceMethod yX0_size, .selects RX0 yX0_size yX0_size, .initialized RX0, .code yX0_size cX0_size 1 (some .int), .fieldLink RX0 15 "CheapParse$BitWriter" "bits" "I"] ++ wsX00)
def wsX0_putBit : List Cond := .code yX0_putBit cX0_putBit 3 none :: ([.fieldLink RX0 15 "CheapParse$BitWriter" "bits" "I", .fieldLink RX0 9 "CheapParse$BitWriter" "row" "[I"] ++ wsX00)
def wsX0_put : List Cond := .code yX0_put cX0_put 4 none :: ([.methodLink RX0 23 yX0_putBit, .instanceMethod yX0_putBit, .selects RX0 yX0_putBit yX0_putBit, .initialized RX0, .code yX0_putBit cX0_putBit 3 none, .fieldLink RX0 15 "CheapParse$BitWriter" "bits" "I", .fieldLink RX0 9 "CheapParse$BitWriter" "row" "[I"] ++ wsX00)
def wsX1_init : List Cond := .code yX1_init cX1_init 2 none :: ([.methodLink RX1 3 objectInit, .instanceMethod objectInit, .code objectInit ⟨#[0xb1]⟩ 1 none, .arrayClass .int, .fieldLink RX1 9 "CheapParse$Bytes" "row" "[I", .fieldLink RX1 15 "CheapParse$Bytes" "size" "I"] ++ wsX10)
def wsX1_size : List Cond := .code yX1_size cX1_size 1 (some .int) :: ([.fieldLink RX1 15 "CheapParse$Bytes" "size" "I"] ++ wsX10)
def wsX1_get : List Cond := .code yX1_get cX1_get 2 (some .int) :: ([.fieldLink RX1 15 "CheapParse$Bytes" "size" "I", .fieldLink RX1 9 "CheapParse$Bytes" "row" "[I"] ++ wsX10)
def wsX1_empty : List Cond := .code yX1_empty cX1_empty 1 none :: ([.fieldLink RX1 15 "CheapParse$Bytes" "size" "I"] ++ wsX10)
def wsX1_add : List Cond := .code yX1_add cX1_add 2 none :: ([.fieldLink RX1 15 "CheapParse$Bytes" "size" "I", .fieldLink RX1 9 "CheapParse$Bytes" "row" "[I"] ++ wsX10)
def wsX1_addLowest : List Cond := .code yX1_addLowest cX1_addLowest 5 (some .int) :: ([.fieldLink RX1 9 "CheapParse$Bytes" "row" "[I", .fieldLink RX1 15 "CheapParse$Bytes" "size" "I", .methodLink RX1 19 yX1_add, .instanceMethod yX1_add, .selects RX1 yX1_add yX1_add, .initialized RX1, .code yX1_add cX1_add 2 none] ++ wsX10)
def wsX1_addTimes : List Cond := .code yX1_addTimes cX1_addTimes 4 (some .int) :: ([.fieldLink RX1 9 "CheapParse$Bytes" "row" "[I", .fieldLink RX1 15 "CheapParse$Bytes" "size" "I", .methodLink RX1 19 yX1_add, .instanceMethod yX1_add, .selects RX1 yX1_add yX1_add, .initialized RX1, .code yX1_add cX1_add 2 none] ++ wsX10)
def wsX1_addAgain : List Cond := .code yX1_addAgain cX1_addAgain 4 none :: ([.fieldLink RX1 15 "CheapParse$Bytes" "size" "I", .methodLink RX1 23 yX1_get, .instanceMethod yX1_get, .selects RX1 yX1_get yX1_get, .initialized RX1, .code yX1_get cX1_get 2 (some .int), .fieldLink RX1 9 "CheapParse$Bytes" "row" "[I", .methodLink RX1 19 yX1_add, .instanceMethod yX1_add, .selects RX1 yX1_add yX1_add, .code yX1_add cX1_add 2 none] ++ wsX10)
def wsX1_copyOf : List Cond := .code yX1_copyOf cX1_copyOf 2 none :: ([.fieldLink RX1 15 "CheapParse$Bytes" "size" "I", .fieldLink RX1 9 "CheapParse$Bytes" "row" "[I", .methodLink RX1 27 Lib.Math.min.name, .static Lib.Math.min.name, .initialized "java/lang/Math", .code Lib.Math.min.name Lib.Math.min.code 2 (some .int), .methodLink RX1 33 arraycopyName, .native arraycopyName, .static arraycopyName, .initialized "java/lang/System"] ++ wsX10)
def wsX1_sameAs : List Cond := .code yX1_sameAs cX1_sameAs 3 (some .boolean) :: ([.fieldLink RX1 15 "CheapParse$Bytes" "size" "I", .fieldLink RX1 9 "CheapParse$Bytes" "row" "[I"] ++ wsX10)
def wsX1_repeats : List Cond := .code yX1_repeats cX1_repeats 5 (some .boolean) :: ([.fieldLink RX1 15 "CheapParse$Bytes" "size" "I", .fieldLink RX1 9 "CheapParse$Bytes" "row" "[I"] ++ wsX10)
def wsX2_init : List Cond := .code yX2_init cX2_init 5 none :: ([.methodLink RX2 3 objectInit, .instanceMethod objectInit, .code objectInit ⟨#[0xb1]⟩ 1 none, .fieldLink RX2 9 "CheapParse$Costs" "text" "LCheapParse$Bytes;", .fieldLink RX2 15 "CheapParse$Costs" "rules" "LCheapParse$Rules;", .fieldLink RX2 19 "CheapParse$Costs" "tariff" "LCheapParse$Tariff;", .fieldLink RX2 23 "CheapParse$Costs" "matches" "LCheapParse$Matches;", .arrayClass .int, .fieldLink RX2 27 "CheapParse$Costs" "least" "[I", .fieldLink RX2 31 "CheapParse$Costs" "stepLength" "[I", .fieldLink RX2 34 "CheapParse$Costs" "stepDistancePrice" "[I", .fieldLink RX2 37 "CheapParse$Costs" "lengthPrice" "[I", .fieldLink RX2 40 "CheapParse$Costs" "priceByReach" "[I"] ++ wsX20)
def wsX5_least : List Cond := .code yX5_least cX5_least 1 (some .int) :: ([.fieldLink RX5 9 "CheapParse$Rules" "least" "I"] ++ wsX50)
def wsX5_most : List Cond := .code yX5_most cX5_most 1 (some .int) :: ([.fieldLink RX5 15 "CheapParse$Rules" "most" "I"] ++ wsX50)
def wsX8_classOf : List Cond := .code yX8_classOf cX8_classOf 3 (some .int) :: ([])
def wsX7_ofLength : List Cond := .code yX7_ofLength cX7_ofLength 2 (some .int) :: ([.fieldLink RX7 19 "CheapParse$Tariff" "allMatches" "[I", .fieldLink RX7 22 "CheapParse$Tariff" "lengths" "[I", .methodLink RX7 41 Lib.Math.min.name, .static Lib.Math.min.name, .initialized "java/lang/Math", .code Lib.Math.min.name Lib.Math.min.code 2 (some .int), .static yX8_classOf, .initialized RX8, .code yX8_classOf cX8_classOf 3 (some .int)] ++ wsX70)
def wsX3_longestAt : List Cond := .code yX3_longestAt cX3_longestAt 2 (some .int) :: ([.fieldLink RX3 9 "CheapParse$Matches" "text" "LCheapParse$Bytes;", .fieldLink RX3 19 "CheapParse$Matches" "longest" "[I", .methodLink RX3 35 yX1_size, .instanceMethod yX1_size, .selects RX1 yX1_size yX1_size, .initialized RX1, .code yX1_size cX1_size 1 (some .int), .fieldLink RX1 15 "CheapParse$Bytes" "size" "I"] ++ wsX30 ++ wsX10)
def wsX3_reachAt : List Cond := .code yX3_reachAt cX3_reachAt 3 (some .int) :: ([.fieldLink RX3 29 "CheapParse$Matches" "reach" "[I"] ++ wsX30)
def wsX7_ofDistanceClass : List Cond := .code yX7_ofDistanceClass cX7_ofDistanceClass 2 (some .int) :: ([.fieldLink RX7 25 "CheapParse$Tariff" "distances" "[I", .methodLink RX7 41 Lib.Math.min.name, .static Lib.Math.min.name, .initialized "java/lang/Math", .code Lib.Math.min.name Lib.Math.min.code 2 (some .int)] ++ wsX70)
def wsX2_sortByReach : List Cond := .code yX2_sortByReach cX2_sortByReach 5 none :: ([.fieldLink RX2 40 "CheapParse$Costs" "priceByReach" "[I", .constant RX2 89 (1000000000), .fieldLink RX2 23 "CheapParse$Costs" "matches" "LCheapParse$Matches;", .fieldLink RX2 19 "CheapParse$Costs" "tariff" "LCheapParse$Tariff;", .methodLink RX2 90 Lib.Math.min.name, .static Lib.Math.min.name, .initialized "java/lang/Math", .code Lib.Math.min.name Lib.Math.min.code 2 (some .int), .methodLink RX2 72 yX3_reachAt, .instanceMethod yX3_reachAt, .selects RX3 yX3_reachAt yX3_reachAt, .initialized RX3, .code yX3_reachAt cX3_reachAt 3 (some .int), .fieldLink RX3 29 "CheapParse$Matches" "reach" "[I", .methodLink RX2 69 yX7_ofDistanceClass, .instanceMethod yX7_ofDistanceClass, .selects RX7 yX7_ofDistanceClass yX7_ofDistanceClass, .initialized RX7, .code yX7_ofDistanceClass cX7_ofDistanceClass 2 (some .int), .fieldLink RX7 25 "CheapParse$Tariff" "distances" "[I", .methodLink RX7 41 Lib.Math.min.name] ++ wsX20 ++ wsX30 ++ wsX70)
def wsX7_ofByte : List Cond := .code yX7_ofByte cX7_ofByte 2 (some .int) :: ([.fieldLink RX7 15 "CheapParse$Tariff" "bytes" "[I"] ++ wsX70)
def wsX2_chooseStep_r1 : List Cond := [Cond.fieldLink RX2 23 "CheapParse$Costs" "matches" "LCheapParse$Matches;", Cond.constant RX2 89 (1000000000), Cond.fieldLink RX2 15 "CheapParse$Costs" "rules" "LCheapParse$Rules;", Cond.fieldLink RX2 40 "CheapParse$Costs" "priceByReach" "[I", Cond.methodLink RX2 90 Lib.Math.min.name, Cond.static Lib.Math.min.name, Cond.initialized "java/lang/Math", Cond.code Lib.Math.min.name Lib.Math.min.code 2 (some .int), Cond.fieldLink RX2 37 "CheapParse$Costs" "lengthPrice" "[I", Cond.fieldLink RX2 27 "CheapParse$Costs" "least" "[I", Cond.fieldLink RX2 19 "CheapParse$Costs" "tariff" "LCheapParse$Tariff;", Cond.fieldLink RX2 9 "CheapParse$Costs" "text" "LCheapParse$Bytes;", Cond.fieldLink RX2 31 "CheapParse$Costs" "stepLength" "[I", Cond.fieldLink RX2 34 "CheapParse$Costs" "stepDistancePrice" "[I", Cond.methodLink RX2 82 yX3_longestAt, Cond.instanceMethod yX3_longestAt, Cond.selects RX3 yX3_longestAt yX3_longestAt, Cond.initialized RX3, Cond.code yX3_longestAt cX3_longestAt 2 (some .int), Cond.fieldLink RX3 9 "CheapParse$Matches" "text" "LCheapParse$Bytes;", Cond.fieldLink RX3 19 "CheapParse$Matches" "longest" "[I", Cond.methodLink RX3 35 yX1_size, Cond.instanceMethod yX1_size, Cond.selects RX1 yX1_size yX1_size]
def wsX2_chooseStep_r2 : List Cond := [Cond.initialized RX1, Cond.code yX1_size cX1_size 1 (some .int), Cond.fieldLink RX1 15 "CheapParse$Bytes" "size" "I", Cond.methodLink RX2 85 yX2_sortByReach, Cond.instanceMethod yX2_sortByReach, Cond.selects RX2 yX2_sortByReach yX2_sortByReach, Cond.initialized RX2, Cond.code yX2_sortByReach cX2_sortByReach 5 none, Cond.methodLink RX2 72 yX3_reachAt, Cond.instanceMethod yX3_reachAt, Cond.selects RX3 yX3_reachAt yX3_reachAt, Cond.code yX3_reachAt cX3_reachAt 3 (some .int), Cond.fieldLink RX3 29 "CheapParse$Matches" "reach" "[I", Cond.methodLink RX2 69 yX7_ofDistanceClass, Cond.instanceMethod yX7_ofDistanceClass, Cond.selects RX7 yX7_ofDistanceClass yX7_ofDistanceClass, Cond.initialized RX7, Cond.code yX7_ofDistanceClass cX7_ofDistanceClass 2 (some .int), Cond.fieldLink RX7 25 "CheapParse$Tariff" "distances" "[I", Cond.methodLink RX7 41 Lib.Math.min.name, Cond.methodLink RX2 43 yX5_least, Cond.instanceMethod yX5_least, Cond.selects RX5 yX5_least yX5_least, Cond.initialized RX5]
def wsX2_chooseStep_r3 : List Cond := [Cond.code yX5_least cX5_least 1 (some .int), Cond.fieldLink RX5 9 "CheapParse$Rules" "least" "I", Cond.methodLink RX2 95 yX1_get, Cond.instanceMethod yX1_get, Cond.selects RX1 yX1_get yX1_get, Cond.code yX1_get cX1_get 2 (some .int), Cond.fieldLink RX1 9 "CheapParse$Bytes" "row" "[I", Cond.methodLink RX2 98 yX7_ofByte, Cond.instanceMethod yX7_ofByte, Cond.selects RX7 yX7_ofByte yX7_ofByte, Cond.code yX7_ofByte cX7_ofByte 2 (some .int), Cond.fieldLink RX7 15 "CheapParse$Tariff" "bytes" "[I"]
def wsX2_chooseStep : List Cond := .code yX2_chooseStep cX2_chooseStep 9 none :: ((wsX2_chooseStep_r1 ++ (wsX2_chooseStep_r2 ++ wsX2_chooseStep_r3)) ++ wsX20 ++ wsX30 ++ wsX10 ++ wsX70 ++ wsX50)
def wsX2_build_r1 : List Cond := [Cond.fieldLink RX2 15 "CheapParse$Costs" "rules" "LCheapParse$Rules;", Cond.fieldLink RX2 37 "CheapParse$Costs" "lengthPrice" "[I", Cond.fieldLink RX2 19 "CheapParse$Costs" "tariff" "LCheapParse$Tariff;", Cond.fieldLink RX2 27 "CheapParse$Costs" "least" "[I", Cond.fieldLink RX2 9 "CheapParse$Costs" "text" "LCheapParse$Bytes;", Cond.methodLink RX2 43 yX5_least, Cond.instanceMethod yX5_least, Cond.selects RX5 yX5_least yX5_least, Cond.initialized RX5, Cond.code yX5_least cX5_least 1 (some .int), Cond.fieldLink RX5 9 "CheapParse$Rules" "least" "I", Cond.methodLink RX2 48 yX5_most, Cond.instanceMethod yX5_most, Cond.selects RX5 yX5_most yX5_most, Cond.code yX5_most cX5_most 1 (some .int), Cond.fieldLink RX5 15 "CheapParse$Rules" "most" "I", Cond.methodLink RX2 51 yX7_ofLength, Cond.instanceMethod yX7_ofLength, Cond.selects RX7 yX7_ofLength yX7_ofLength, Cond.initialized RX7, Cond.code yX7_ofLength cX7_ofLength 2 (some .int), Cond.fieldLink RX7 19 "CheapParse$Tariff" "allMatches" "[I", Cond.fieldLink RX7 22 "CheapParse$Tariff" "lengths" "[I", Cond.methodLink RX7 41 Lib.Math.min.name]
def wsX2_build_r2 : List Cond := [Cond.static Lib.Math.min.name, Cond.initialized "java/lang/Math", Cond.code Lib.Math.min.name Lib.Math.min.code 2 (some .int), Cond.static yX8_classOf, Cond.initialized RX8, Cond.code yX8_classOf cX8_classOf 3 (some .int), Cond.methodLink RX2 57 yX1_size, Cond.instanceMethod yX1_size, Cond.selects RX1 yX1_size yX1_size, Cond.initialized RX1, Cond.code yX1_size cX1_size 1 (some .int), Cond.fieldLink RX1 15 "CheapParse$Bytes" "size" "I", Cond.methodLink RX2 62 yX2_chooseStep, Cond.instanceMethod yX2_chooseStep, Cond.selects RX2 yX2_chooseStep yX2_chooseStep, Cond.initialized RX2, Cond.code yX2_chooseStep cX2_chooseStep 9 none, Cond.fieldLink RX2 23 "CheapParse$Costs" "matches" "LCheapParse$Matches;", Cond.constant RX2 89 (1000000000), Cond.fieldLink RX2 40 "CheapParse$Costs" "priceByReach" "[I", Cond.methodLink RX2 90 Lib.Math.min.name, Cond.fieldLink RX2 31 "CheapParse$Costs" "stepLength" "[I", Cond.fieldLink RX2 34 "CheapParse$Costs" "stepDistancePrice" "[I", Cond.methodLink RX2 82 yX3_longestAt]
def wsX2_build_r3 : List Cond := [Cond.instanceMethod yX3_longestAt, Cond.selects RX3 yX3_longestAt yX3_longestAt, Cond.initialized RX3, Cond.code yX3_longestAt cX3_longestAt 2 (some .int), Cond.fieldLink RX3 9 "CheapParse$Matches" "text" "LCheapParse$Bytes;", Cond.fieldLink RX3 19 "CheapParse$Matches" "longest" "[I", Cond.methodLink RX3 35 yX1_size, Cond.methodLink RX2 85 yX2_sortByReach, Cond.instanceMethod yX2_sortByReach, Cond.selects RX2 yX2_sortByReach yX2_sortByReach, Cond.code yX2_sortByReach cX2_sortByReach 5 none, Cond.methodLink RX2 72 yX3_reachAt, Cond.instanceMethod yX3_reachAt, Cond.selects RX3 yX3_reachAt yX3_reachAt, Cond.code yX3_reachAt cX3_reachAt 3 (some .int), Cond.fieldLink RX3 29 "CheapParse$Matches" "reach" "[I", Cond.methodLink RX2 69 yX7_ofDistanceClass, Cond.instanceMethod yX7_ofDistanceClass, Cond.selects RX7 yX7_ofDistanceClass yX7_ofDistanceClass, Cond.code yX7_ofDistanceClass cX7_ofDistanceClass 2 (some .int), Cond.fieldLink RX7 25 "CheapParse$Tariff" "distances" "[I", Cond.methodLink RX2 95 yX1_get, Cond.instanceMethod yX1_get, Cond.selects RX1 yX1_get yX1_get]
def wsX2_build_r4 : List Cond := [Cond.code yX1_get cX1_get 2 (some .int), Cond.fieldLink RX1 9 "CheapParse$Bytes" "row" "[I", Cond.methodLink RX2 98 yX7_ofByte, Cond.instanceMethod yX7_ofByte, Cond.selects RX7 yX7_ofByte yX7_ofByte, Cond.code yX7_ofByte cX7_ofByte 2 (some .int), Cond.fieldLink RX7 15 "CheapParse$Tariff" "bytes" "[I"]
def wsX2_build : List Cond := .code yX2_build cX2_build 2 none :: ((wsX2_build_r1 ++ (wsX2_build_r2 ++ (wsX2_build_r3 ++ wsX2_build_r4))) ++ wsX20 ++ wsX50 ++ wsX70 ++ wsX10 ++ wsX30)
def wsX2_leastFrom : List Cond := .code yX2_leastFrom cX2_leastFrom 2 (some .int) :: ([.fieldLink RX2 9 "CheapParse$Costs" "text" "LCheapParse$Bytes;", .fieldLink RX2 27 "CheapParse$Costs" "least" "[I", .methodLink RX2 57 yX1_size, .instanceMethod yX1_size, .selects RX1 yX1_size yX1_size, .initialized RX1, .code yX1_size cX1_size 1 (some .int), .fieldLink RX1 15 "CheapParse$Bytes" "size" "I"] ++ wsX20 ++ wsX10)
def wsX2_lengthAt : List Cond := .code yX2_lengthAt cX2_lengthAt 2 (some .int) :: ([.fieldLink RX2 9 "CheapParse$Costs" "text" "LCheapParse$Bytes;", .fieldLink RX2 31 "CheapParse$Costs" "stepLength" "[I", .methodLink RX2 57 yX1_size, .instanceMethod yX1_size, .selects RX1 yX1_size yX1_size, .initialized RX1, .code yX1_size cX1_size 1 (some .int), .fieldLink RX1 15 "CheapParse$Bytes" "size" "I"] ++ wsX20 ++ wsX10)
def wsX5_window : List Cond := .code yX5_window cX5_window 1 (some .int) :: ([.fieldLink RX5 18 "CheapParse$Rules" "window" "I"] ++ wsX50)
def wsX3_lastOfClass : List Cond := .code yX3_lastOfClass cX3_lastOfClass 4 (some .int) :: ([.fieldLink RX3 15 "CheapParse$Matches" "rules" "LCheapParse$Rules;", .methodLink RX3 58 Lib.Math.min.name, .static Lib.Math.min.name, .initialized "java/lang/Math", .code Lib.Math.min.name Lib.Math.min.code 2 (some .int), .methodLink RX3 53 yX5_window, .instanceMethod yX5_window, .selects RX5 yX5_window yX5_window, .initialized RX5, .code yX5_window cX5_window 1 (some .int), .fieldLink RX5 18 "CheapParse$Rules" "window" "I"] ++ wsX30 ++ wsX50)
def wsX3_nearestOfClass : List Cond := .code yX3_nearestOfClass cX3_nearestOfClass 6 (some .int) :: ([.fieldLink RX3 9 "CheapParse$Matches" "text" "LCheapParse$Bytes;", .methodLink RX3 45 yX3_lastOfClass, .instanceMethod yX3_lastOfClass, .selects RX3 yX3_lastOfClass yX3_lastOfClass, .initialized RX3, .code yX3_lastOfClass cX3_lastOfClass 4 (some .int), .fieldLink RX3 15 "CheapParse$Matches" "rules" "LCheapParse$Rules;", .methodLink RX3 58 Lib.Math.min.name, .static Lib.Math.min.name, .initialized "java/lang/Math", .code Lib.Math.min.name Lib.Math.min.code 2 (some .int), .methodLink RX3 53 yX5_window, .instanceMethod yX5_window, .selects RX5 yX5_window yX5_window, .initialized RX5, .code yX5_window cX5_window 1 (some .int), .fieldLink RX5 18 "CheapParse$Rules" "window" "I", .methodLink RX3 49 yX1_repeats, .instanceMethod yX1_repeats, .selects RX1 yX1_repeats yX1_repeats, .initialized RX1, .code yX1_repeats cX1_repeats 5 (some .boolean), .fieldLink RX1 15 "CheapParse$Bytes" "size" "I", .fieldLink RX1 9 "CheapParse$Bytes" "row" "[I"] ++ wsX30 ++ wsX50 ++ wsX10)
def wsX2_distanceAt_r1 : List Cond := [Cond.fieldLink RX2 19 "CheapParse$Costs" "tariff" "LCheapParse$Tariff;", Cond.fieldLink RX2 34 "CheapParse$Costs" "stepDistancePrice" "[I", Cond.fieldLink RX2 23 "CheapParse$Costs" "matches" "LCheapParse$Matches;", Cond.methodLink RX2 66 yX2_lengthAt, Cond.instanceMethod yX2_lengthAt, Cond.selects RX2 yX2_lengthAt yX2_lengthAt, Cond.initialized RX2, Cond.code yX2_lengthAt cX2_lengthAt 2 (some .int), Cond.fieldLink RX2 9 "CheapParse$Costs" "text" "LCheapParse$Bytes;", Cond.fieldLink RX2 31 "CheapParse$Costs" "stepLength" "[I", Cond.methodLink RX2 57 yX1_size, Cond.instanceMethod yX1_size, Cond.selects RX1 yX1_size yX1_size, Cond.initialized RX1, Cond.code yX1_size cX1_size 1 (some .int), Cond.fieldLink RX1 15 "CheapParse$Bytes" "size" "I", Cond.methodLink RX2 69 yX7_ofDistanceClass, Cond.instanceMethod yX7_ofDistanceClass, Cond.selects RX7 yX7_ofDistanceClass yX7_ofDistanceClass, Cond.initialized RX7, Cond.code yX7_ofDistanceClass cX7_ofDistanceClass 2 (some .int), Cond.fieldLink RX7 25 "CheapParse$Tariff" "distances" "[I", Cond.methodLink RX7 41 Lib.Math.min.name, Cond.static Lib.Math.min.name]
def wsX2_distanceAt_r2 : List Cond := [Cond.initialized "java/lang/Math", Cond.code Lib.Math.min.name Lib.Math.min.code 2 (some .int), Cond.methodLink RX2 72 yX3_reachAt, Cond.instanceMethod yX3_reachAt, Cond.selects RX3 yX3_reachAt yX3_reachAt, Cond.initialized RX3, Cond.code yX3_reachAt cX3_reachAt 3 (some .int), Cond.fieldLink RX3 29 "CheapParse$Matches" "reach" "[I", Cond.methodLink RX2 78 yX3_nearestOfClass, Cond.instanceMethod yX3_nearestOfClass, Cond.selects RX3 yX3_nearestOfClass yX3_nearestOfClass, Cond.code yX3_nearestOfClass cX3_nearestOfClass 6 (some .int), Cond.fieldLink RX3 9 "CheapParse$Matches" "text" "LCheapParse$Bytes;", Cond.methodLink RX3 45 yX3_lastOfClass, Cond.instanceMethod yX3_lastOfClass, Cond.selects RX3 yX3_lastOfClass yX3_lastOfClass, Cond.code yX3_lastOfClass cX3_lastOfClass 4 (some .int), Cond.fieldLink RX3 15 "CheapParse$Matches" "rules" "LCheapParse$Rules;", Cond.methodLink RX3 58 Lib.Math.min.name, Cond.methodLink RX3 53 yX5_window, Cond.instanceMethod yX5_window, Cond.selects RX5 yX5_window yX5_window, Cond.initialized RX5, Cond.code yX5_window cX5_window 1 (some .int)]
def wsX2_distanceAt_r3 : List Cond := [Cond.fieldLink RX5 18 "CheapParse$Rules" "window" "I", Cond.methodLink RX3 49 yX1_repeats, Cond.instanceMethod yX1_repeats, Cond.selects RX1 yX1_repeats yX1_repeats, Cond.code yX1_repeats cX1_repeats 5 (some .boolean), Cond.fieldLink RX1 9 "CheapParse$Bytes" "row" "[I"]
def wsX2_distanceAt : List Cond := .code yX2_distanceAt cX2_distanceAt 4 (some .int) :: ((wsX2_distanceAt_r1 ++ (wsX2_distanceAt_r2 ++ wsX2_distanceAt_r3)) ++ wsX20 ++ wsX10 ++ wsX70 ++ wsX30 ++ wsX50)
def wsX3_init : List Cond := .code yX3_init cX3_init 3 none :: ([.methodLink RX3 3 objectInit, .instanceMethod objectInit, .code objectInit ⟨#[0xb1]⟩ 1 none, .fieldLink RX3 9 "CheapParse$Matches" "text" "LCheapParse$Bytes;", .fieldLink RX3 15 "CheapParse$Matches" "rules" "LCheapParse$Rules;", .arrayClass .int, .fieldLink RX3 19 "CheapParse$Matches" "longest" "[I", .fieldLink RX3 23 "CheapParse$Matches" "nearest" "[I", .fieldLink RX3 26 "CheapParse$Matches" "distances" "[I", .fieldLink RX3 29 "CheapParse$Matches" "reach" "[I", .fieldLink RX3 32 "CheapParse$Matches" "same" "[I"] ++ wsX30)
def wsX3_noteMatch : List Cond := .code yX3_noteMatch cX3_noteMatch 5 (some .int) :: ([.fieldLink RX3 15 "CheapParse$Matches" "rules" "LCheapParse$Rules;", .methodLink RX3 58 Lib.Math.min.name, .static Lib.Math.min.name, .initialized "java/lang/Math", .code Lib.Math.min.name Lib.Math.min.code 2 (some .int), .fieldLink RX3 26 "CheapParse$Matches" "distances" "[I", .fieldLink RX3 19 "CheapParse$Matches" "longest" "[I", .fieldLink RX3 23 "CheapParse$Matches" "nearest" "[I", .methodLink RX3 76 yX5_most, .instanceMethod yX5_most, .selects RX5 yX5_most yX5_most, .initialized RX5, .code yX5_most cX5_most 1 (some .int), .fieldLink RX5 15 "CheapParse$Rules" "most" "I"] ++ wsX30 ++ wsX50)
def wsX3_noteClass_r1 : List Cond := [Cond.fieldLink RX3 9 "CheapParse$Matches" "text" "LCheapParse$Bytes;", Cond.fieldLink RX3 15 "CheapParse$Matches" "rules" "LCheapParse$Rules;", Cond.fieldLink RX3 32 "CheapParse$Matches" "same" "[I", Cond.methodLink RX3 73 Lib.Math.max.name, Cond.static Lib.Math.max.name, Cond.initialized "java/lang/Math", Cond.code Lib.Math.max.name Lib.Math.max.code 2 (some .int), Cond.fieldLink RX3 29 "CheapParse$Matches" "reach" "[I", Cond.methodLink RX3 66 yX5_least, Cond.instanceMethod yX5_least, Cond.selects RX5 yX5_least yX5_least, Cond.initialized RX5, Cond.code yX5_least cX5_least 1 (some .int), Cond.fieldLink RX5 9 "CheapParse$Rules" "least" "I", Cond.methodLink RX3 45 yX3_lastOfClass, Cond.instanceMethod yX3_lastOfClass, Cond.selects RX3 yX3_lastOfClass yX3_lastOfClass, Cond.initialized RX3, Cond.code yX3_lastOfClass cX3_lastOfClass 4 (some .int), Cond.methodLink RX3 58 Lib.Math.min.name, Cond.static Lib.Math.min.name, Cond.code Lib.Math.min.name Lib.Math.min.code 2 (some .int), Cond.methodLink RX3 53 yX5_window, Cond.instanceMethod yX5_window]
def wsX3_noteClass_r2 : List Cond := [Cond.selects RX5 yX5_window yX5_window, Cond.code yX5_window cX5_window 1 (some .int), Cond.fieldLink RX5 18 "CheapParse$Rules" "window" "I", Cond.methodLink RX3 69 yX3_noteMatch, Cond.instanceMethod yX3_noteMatch, Cond.selects RX3 yX3_noteMatch yX3_noteMatch, Cond.code yX3_noteMatch cX3_noteMatch 5 (some .int), Cond.fieldLink RX3 26 "CheapParse$Matches" "distances" "[I", Cond.fieldLink RX3 19 "CheapParse$Matches" "longest" "[I", Cond.fieldLink RX3 23 "CheapParse$Matches" "nearest" "[I", Cond.methodLink RX3 76 yX5_most, Cond.instanceMethod yX5_most, Cond.selects RX5 yX5_most yX5_most, Cond.code yX5_most cX5_most 1 (some .int), Cond.fieldLink RX5 15 "CheapParse$Rules" "most" "I"]
def wsX3_noteClass : List Cond := .code yX3_noteClass cX3_noteClass 10 none :: ((wsX3_noteClass_r1 ++ wsX3_noteClass_r2) ++ wsX30 ++ wsX10 ++ wsX50)
def wsX3_build_r1 : List Cond := [Cond.fieldLink RX3 32 "CheapParse$Matches" "same" "[I", Cond.fieldLink RX3 9 "CheapParse$Matches" "text" "LCheapParse$Bytes;", Cond.fieldLink RX3 19 "CheapParse$Matches" "longest" "[I", Cond.fieldLink RX3 23 "CheapParse$Matches" "nearest" "[I", Cond.fieldLink RX3 26 "CheapParse$Matches" "distances" "[I", Cond.methodLink RX3 35 yX1_size, Cond.instanceMethod yX1_size, Cond.selects RX1 yX1_size yX1_size, Cond.initialized RX1, Cond.code yX1_size cX1_size 1 (some .int), Cond.fieldLink RX1 15 "CheapParse$Bytes" "size" "I", Cond.methodLink RX3 41 yX3_noteClass, Cond.instanceMethod yX3_noteClass, Cond.selects RX3 yX3_noteClass yX3_noteClass, Cond.initialized RX3, Cond.code yX3_noteClass cX3_noteClass 10 none, Cond.fieldLink RX3 15 "CheapParse$Matches" "rules" "LCheapParse$Rules;", Cond.methodLink RX3 73 Lib.Math.max.name, Cond.static Lib.Math.max.name, Cond.initialized "java/lang/Math", Cond.code Lib.Math.max.name Lib.Math.max.code 2 (some .int), Cond.fieldLink RX3 29 "CheapParse$Matches" "reach" "[I", Cond.methodLink RX3 66 yX5_least, Cond.instanceMethod yX5_least]
def wsX3_build_r2 : List Cond := [Cond.selects RX5 yX5_least yX5_least, Cond.initialized RX5, Cond.code yX5_least cX5_least 1 (some .int), Cond.fieldLink RX5 9 "CheapParse$Rules" "least" "I", Cond.methodLink RX3 45 yX3_lastOfClass, Cond.instanceMethod yX3_lastOfClass, Cond.selects RX3 yX3_lastOfClass yX3_lastOfClass, Cond.code yX3_lastOfClass cX3_lastOfClass 4 (some .int), Cond.methodLink RX3 58 Lib.Math.min.name, Cond.static Lib.Math.min.name, Cond.code Lib.Math.min.name Lib.Math.min.code 2 (some .int), Cond.methodLink RX3 53 yX5_window, Cond.instanceMethod yX5_window, Cond.selects RX5 yX5_window yX5_window, Cond.code yX5_window cX5_window 1 (some .int), Cond.fieldLink RX5 18 "CheapParse$Rules" "window" "I", Cond.methodLink RX3 69 yX3_noteMatch, Cond.instanceMethod yX3_noteMatch, Cond.selects RX3 yX3_noteMatch yX3_noteMatch, Cond.code yX3_noteMatch cX3_noteMatch 5 (some .int), Cond.methodLink RX3 76 yX5_most, Cond.instanceMethod yX5_most, Cond.selects RX5 yX5_most yX5_most, Cond.code yX5_most cX5_most 1 (some .int)]
def wsX3_build_r3 : List Cond := [Cond.fieldLink RX5 15 "CheapParse$Rules" "most" "I"]
def wsX3_build : List Cond := .code yX3_build cX3_build 3 none :: ((wsX3_build_r1 ++ (wsX3_build_r2 ++ wsX3_build_r3)) ++ wsX30 ++ wsX10 ++ wsX50)
def wsX3_nearestAt : List Cond := .code yX3_nearestAt cX3_nearestAt 2 (some .int) :: ([.fieldLink RX3 9 "CheapParse$Matches" "text" "LCheapParse$Bytes;", .fieldLink RX3 23 "CheapParse$Matches" "nearest" "[I", .methodLink RX3 35 yX1_size, .instanceMethod yX1_size, .selects RX1 yX1_size yX1_size, .initialized RX1, .code yX1_size cX1_size 1 (some .int), .fieldLink RX1 15 "CheapParse$Bytes" "size" "I"] ++ wsX30 ++ wsX10)
def wsX3_distancesAt : List Cond := .code yX3_distancesAt cX3_distancesAt 2 (some .int) :: ([.fieldLink RX3 9 "CheapParse$Matches" "text" "LCheapParse$Bytes;", .fieldLink RX3 26 "CheapParse$Matches" "distances" "[I", .methodLink RX3 35 yX1_size, .instanceMethod yX1_size, .selects RX1 yX1_size yX1_size, .initialized RX1, .code yX1_size cX1_size 1 (some .int), .fieldLink RX1 15 "CheapParse$Bytes" "size" "I"] ++ wsX30 ++ wsX10)
def wsX4_init : List Cond := .code yX4_init cX4_init 4 none :: ([.methodLink RX4 3 objectInit, .instanceMethod objectInit, .code objectInit ⟨#[0xb1]⟩ 1 none, .fieldLink RX4 9 "CheapParse$Reader" "source" "LCheapParse$Bytes;", .fieldLink RX4 15 "CheapParse$Reader" "rules" "LCheapParse$Rules;", .fieldLink RX4 19 "CheapParse$Reader" "made" "LCheapParse$Bytes;", .fieldLink RX4 22 "CheapParse$Reader" "bits" "I"] ++ wsX40)
def wsX4_number : List Cond := .code yX4_number cX4_number 5 (some .int) :: ([.fieldLink RX4 9 "CheapParse$Reader" "source" "LCheapParse$Bytes;", .fieldLink RX4 22 "CheapParse$Reader" "bits" "I", .methodLink RX4 76 yX1_get, .instanceMethod yX1_get, .selects RX1 yX1_get yX1_get, .initialized RX1, .code yX1_get cX1_get 2 (some .int), .fieldLink RX1 15 "CheapParse$Bytes" "size" "I", .fieldLink RX1 9 "CheapParse$Bytes" "row" "[I"] ++ wsX40 ++ wsX10)
def wsX4_readByte : List Cond := .code yX4_readByte cX4_readByte 2 (some .int) :: ([.fieldLink RX4 19 "CheapParse$Reader" "made" "LCheapParse$Bytes;", .methodLink RX4 31 yX4_number, .instanceMethod yX4_number, .selects RX4 yX4_number yX4_number, .initialized RX4, .code yX4_number cX4_number 5 (some .int), .fieldLink RX4 9 "CheapParse$Reader" "source" "LCheapParse$Bytes;", .fieldLink RX4 22 "CheapParse$Reader" "bits" "I", .methodLink RX4 76 yX1_get, .instanceMethod yX1_get, .selects RX1 yX1_get yX1_get, .initialized RX1, .code yX1_get cX1_get 2 (some .int), .fieldLink RX1 15 "CheapParse$Bytes" "size" "I", .fieldLink RX1 9 "CheapParse$Bytes" "row" "[I", .methodLink RX4 51 yX1_add, .instanceMethod yX1_add, .selects RX1 yX1_add yX1_add, .code yX1_add cX1_add 2 none] ++ wsX40 ++ wsX10)
def wsX4_countZeros : List Cond := .code yX4_countZeros cX4_countZeros 3 (some .int) :: ([.methodLink RX4 31 yX4_number, .instanceMethod yX4_number, .selects RX4 yX4_number yX4_number, .initialized RX4, .code yX4_number cX4_number 5 (some .int), .fieldLink RX4 9 "CheapParse$Reader" "source" "LCheapParse$Bytes;", .fieldLink RX4 22 "CheapParse$Reader" "bits" "I", .methodLink RX4 76 yX1_get, .instanceMethod yX1_get, .selects RX1 yX1_get yX1_get, .initialized RX1, .code yX1_get cX1_get 2 (some .int), .fieldLink RX1 15 "CheapParse$Bytes" "size" "I", .fieldLink RX1 9 "CheapParse$Bytes" "row" "[I"] ++ wsX40 ++ wsX10)
def wsX4_numberOfClass : List Cond := .code yX4_numberOfClass cX4_numberOfClass 3 (some .int) :: ([.methodLink RX4 31 yX4_number, .instanceMethod yX4_number, .selects RX4 yX4_number yX4_number, .initialized RX4, .code yX4_number cX4_number 5 (some .int), .fieldLink RX4 9 "CheapParse$Reader" "source" "LCheapParse$Bytes;", .fieldLink RX4 22 "CheapParse$Reader" "bits" "I", .methodLink RX4 76 yX1_get, .instanceMethod yX1_get, .selects RX1 yX1_get yX1_get, .initialized RX1, .code yX1_get cX1_get 2 (some .int), .fieldLink RX1 15 "CheapParse$Bytes" "size" "I", .fieldLink RX1 9 "CheapParse$Bytes" "row" "[I"] ++ wsX40 ++ wsX10)
def wsX4_readMatch_r1 : List Cond := [Cond.fieldLink RX4 15 "CheapParse$Reader" "rules" "LCheapParse$Rules;", Cond.fieldLink RX4 19 "CheapParse$Reader" "made" "LCheapParse$Bytes;", Cond.methodLink RX4 55 yX4_countZeros, Cond.instanceMethod yX4_countZeros, Cond.selects RX4 yX4_countZeros yX4_countZeros, Cond.initialized RX4, Cond.code yX4_countZeros cX4_countZeros 3 (some .int), Cond.methodLink RX4 31 yX4_number, Cond.instanceMethod yX4_number, Cond.selects RX4 yX4_number yX4_number, Cond.code yX4_number cX4_number 5 (some .int), Cond.fieldLink RX4 9 "CheapParse$Reader" "source" "LCheapParse$Bytes;", Cond.fieldLink RX4 22 "CheapParse$Reader" "bits" "I", Cond.methodLink RX4 76 yX1_get, Cond.instanceMethod yX1_get, Cond.selects RX1 yX1_get yX1_get, Cond.initialized RX1, Cond.code yX1_get cX1_get 2 (some .int), Cond.fieldLink RX1 15 "CheapParse$Bytes" "size" "I", Cond.fieldLink RX1 9 "CheapParse$Bytes" "row" "[I", Cond.methodLink RX4 58 yX4_numberOfClass, Cond.instanceMethod yX4_numberOfClass, Cond.selects RX4 yX4_numberOfClass yX4_numberOfClass, Cond.code yX4_numberOfClass cX4_numberOfClass 3 (some .int)]
def wsX4_readMatch_r2 : List Cond := [Cond.methodLink RX4 61 yX5_least, Cond.instanceMethod yX5_least, Cond.selects RX5 yX5_least yX5_least, Cond.initialized RX5, Cond.code yX5_least cX5_least 1 (some .int), Cond.fieldLink RX5 9 "CheapParse$Rules" "least" "I", Cond.methodLink RX4 66 yX5_most, Cond.instanceMethod yX5_most, Cond.selects RX5 yX5_most yX5_most, Cond.code yX5_most cX5_most 1 (some .int), Cond.fieldLink RX5 15 "CheapParse$Rules" "most" "I", Cond.methodLink RX4 35 yX1_size, Cond.instanceMethod yX1_size, Cond.selects RX1 yX1_size yX1_size, Cond.code yX1_size cX1_size 1 (some .int), Cond.methodLink RX4 69 yX5_window, Cond.instanceMethod yX5_window, Cond.selects RX5 yX5_window yX5_window, Cond.code yX5_window cX5_window 1 (some .int), Cond.fieldLink RX5 18 "CheapParse$Rules" "window" "I", Cond.methodLink RX4 72 yX1_addAgain, Cond.instanceMethod yX1_addAgain, Cond.selects RX1 yX1_addAgain yX1_addAgain, Cond.code yX1_addAgain cX1_addAgain 4 none]
def wsX4_readMatch_r3 : List Cond := [Cond.methodLink RX1 23 yX1_get, Cond.methodLink RX1 19 yX1_add, Cond.instanceMethod yX1_add, Cond.selects RX1 yX1_add yX1_add, Cond.code yX1_add cX1_add 2 none]
def wsX4_readMatch : List Cond := .code yX4_readMatch cX4_readMatch 6 (some .int) :: ((wsX4_readMatch_r1 ++ (wsX4_readMatch_r2 ++ wsX4_readMatch_r3)) ++ wsX40 ++ wsX10 ++ wsX50)
def wsX4_readStep_r1 : List Cond := [Cond.methodLink RX4 31 yX4_number, Cond.instanceMethod yX4_number, Cond.selects RX4 yX4_number yX4_number, Cond.initialized RX4, Cond.code yX4_number cX4_number 5 (some .int), Cond.fieldLink RX4 9 "CheapParse$Reader" "source" "LCheapParse$Bytes;", Cond.fieldLink RX4 22 "CheapParse$Reader" "bits" "I", Cond.methodLink RX4 76 yX1_get, Cond.instanceMethod yX1_get, Cond.selects RX1 yX1_get yX1_get, Cond.initialized RX1, Cond.code yX1_get cX1_get 2 (some .int), Cond.fieldLink RX1 15 "CheapParse$Bytes" "size" "I", Cond.fieldLink RX1 9 "CheapParse$Bytes" "row" "[I", Cond.methodLink RX4 45 yX4_readByte, Cond.instanceMethod yX4_readByte, Cond.selects RX4 yX4_readByte yX4_readByte, Cond.code yX4_readByte cX4_readByte 2 (some .int), Cond.fieldLink RX4 19 "CheapParse$Reader" "made" "LCheapParse$Bytes;", Cond.methodLink RX4 51 yX1_add, Cond.instanceMethod yX1_add, Cond.selects RX1 yX1_add yX1_add, Cond.code yX1_add cX1_add 2 none, Cond.methodLink RX4 48 yX4_readMatch]
def wsX4_readStep_r2 : List Cond := [Cond.instanceMethod yX4_readMatch, Cond.selects RX4 yX4_readMatch yX4_readMatch, Cond.code yX4_readMatch cX4_readMatch 6 (some .int), Cond.fieldLink RX4 15 "CheapParse$Reader" "rules" "LCheapParse$Rules;", Cond.methodLink RX4 55 yX4_countZeros, Cond.instanceMethod yX4_countZeros, Cond.selects RX4 yX4_countZeros yX4_countZeros, Cond.code yX4_countZeros cX4_countZeros 3 (some .int), Cond.methodLink RX4 58 yX4_numberOfClass, Cond.instanceMethod yX4_numberOfClass, Cond.selects RX4 yX4_numberOfClass yX4_numberOfClass, Cond.code yX4_numberOfClass cX4_numberOfClass 3 (some .int), Cond.methodLink RX4 61 yX5_least, Cond.instanceMethod yX5_least, Cond.selects RX5 yX5_least yX5_least, Cond.initialized RX5, Cond.code yX5_least cX5_least 1 (some .int), Cond.fieldLink RX5 9 "CheapParse$Rules" "least" "I", Cond.methodLink RX4 66 yX5_most, Cond.instanceMethod yX5_most, Cond.selects RX5 yX5_most yX5_most, Cond.code yX5_most cX5_most 1 (some .int), Cond.fieldLink RX5 15 "CheapParse$Rules" "most" "I", Cond.methodLink RX4 35 yX1_size]
def wsX4_readStep_r3 : List Cond := [Cond.instanceMethod yX1_size, Cond.selects RX1 yX1_size yX1_size, Cond.code yX1_size cX1_size 1 (some .int), Cond.methodLink RX4 69 yX5_window, Cond.instanceMethod yX5_window, Cond.selects RX5 yX5_window yX5_window, Cond.code yX5_window cX5_window 1 (some .int), Cond.fieldLink RX5 18 "CheapParse$Rules" "window" "I", Cond.methodLink RX4 72 yX1_addAgain, Cond.instanceMethod yX1_addAgain, Cond.selects RX1 yX1_addAgain yX1_addAgain, Cond.code yX1_addAgain cX1_addAgain 4 none, Cond.methodLink RX1 23 yX1_get, Cond.methodLink RX1 19 yX1_add]
def wsX4_readStep : List Cond := .code yX4_readStep cX4_readStep 3 (some .int) :: ((wsX4_readStep_r1 ++ (wsX4_readStep_r2 ++ wsX4_readStep_r3)) ++ wsX40 ++ wsX10 ++ wsX50)
def wsX4_faultBehind : List Cond := .code yX4_faultBehind cX4_faultBehind 2 (some .int) :: ([.fieldLink RX4 22 "CheapParse$Reader" "bits" "I", .fieldLink RX4 9 "CheapParse$Reader" "source" "LCheapParse$Bytes;", .methodLink RX4 31 yX4_number, .instanceMethod yX4_number, .selects RX4 yX4_number yX4_number, .initialized RX4, .code yX4_number cX4_number 5 (some .int), .methodLink RX4 76 yX1_get, .instanceMethod yX1_get, .selects RX1 yX1_get yX1_get, .initialized RX1, .code yX1_get cX1_get 2 (some .int), .fieldLink RX1 15 "CheapParse$Bytes" "size" "I", .fieldLink RX1 9 "CheapParse$Bytes" "row" "[I", .methodLink RX4 35 yX1_size, .instanceMethod yX1_size, .selects RX1 yX1_size yX1_size, .code yX1_size cX1_size 1 (some .int)] ++ wsX40 ++ wsX10)
def wsX4_readText_r1 : List Cond := [Cond.fieldLink RX4 22 "CheapParse$Reader" "bits" "I", Cond.fieldLink RX4 19 "CheapParse$Reader" "made" "LCheapParse$Bytes;", Cond.methodLink RX4 26 yX1_empty, Cond.instanceMethod yX1_empty, Cond.selects RX1 yX1_empty yX1_empty, Cond.initialized RX1, Cond.code yX1_empty cX1_empty 1 none, Cond.fieldLink RX1 15 "CheapParse$Bytes" "size" "I", Cond.methodLink RX4 31 yX4_number, Cond.instanceMethod yX4_number, Cond.selects RX4 yX4_number yX4_number, Cond.initialized RX4, Cond.code yX4_number cX4_number 5 (some .int), Cond.fieldLink RX4 9 "CheapParse$Reader" "source" "LCheapParse$Bytes;", Cond.methodLink RX4 76 yX1_get, Cond.instanceMethod yX1_get, Cond.selects RX1 yX1_get yX1_get, Cond.code yX1_get cX1_get 2 (some .int), Cond.fieldLink RX1 9 "CheapParse$Bytes" "row" "[I", Cond.methodLink RX4 35 yX1_size, Cond.instanceMethod yX1_size, Cond.selects RX1 yX1_size yX1_size, Cond.code yX1_size cX1_size 1 (some .int), Cond.methodLink RX4 39 yX4_readStep]
def wsX4_readText_r2 : List Cond := [Cond.instanceMethod yX4_readStep, Cond.selects RX4 yX4_readStep yX4_readStep, Cond.code yX4_readStep cX4_readStep 3 (some .int), Cond.methodLink RX4 45 yX4_readByte, Cond.instanceMethod yX4_readByte, Cond.selects RX4 yX4_readByte yX4_readByte, Cond.code yX4_readByte cX4_readByte 2 (some .int), Cond.methodLink RX4 51 yX1_add, Cond.instanceMethod yX1_add, Cond.selects RX1 yX1_add yX1_add, Cond.code yX1_add cX1_add 2 none, Cond.methodLink RX4 48 yX4_readMatch, Cond.instanceMethod yX4_readMatch, Cond.selects RX4 yX4_readMatch yX4_readMatch, Cond.code yX4_readMatch cX4_readMatch 6 (some .int), Cond.fieldLink RX4 15 "CheapParse$Reader" "rules" "LCheapParse$Rules;", Cond.methodLink RX4 55 yX4_countZeros, Cond.instanceMethod yX4_countZeros, Cond.selects RX4 yX4_countZeros yX4_countZeros, Cond.code yX4_countZeros cX4_countZeros 3 (some .int), Cond.methodLink RX4 58 yX4_numberOfClass, Cond.instanceMethod yX4_numberOfClass, Cond.selects RX4 yX4_numberOfClass yX4_numberOfClass, Cond.code yX4_numberOfClass cX4_numberOfClass 3 (some .int)]
def wsX4_readText_r3 : List Cond := [Cond.methodLink RX4 61 yX5_least, Cond.instanceMethod yX5_least, Cond.selects RX5 yX5_least yX5_least, Cond.initialized RX5, Cond.code yX5_least cX5_least 1 (some .int), Cond.fieldLink RX5 9 "CheapParse$Rules" "least" "I", Cond.methodLink RX4 66 yX5_most, Cond.instanceMethod yX5_most, Cond.selects RX5 yX5_most yX5_most, Cond.code yX5_most cX5_most 1 (some .int), Cond.fieldLink RX5 15 "CheapParse$Rules" "most" "I", Cond.methodLink RX4 69 yX5_window, Cond.instanceMethod yX5_window, Cond.selects RX5 yX5_window yX5_window, Cond.code yX5_window cX5_window 1 (some .int), Cond.fieldLink RX5 18 "CheapParse$Rules" "window" "I", Cond.methodLink RX4 72 yX1_addAgain, Cond.instanceMethod yX1_addAgain, Cond.selects RX1 yX1_addAgain yX1_addAgain, Cond.code yX1_addAgain cX1_addAgain 4 none, Cond.methodLink RX1 23 yX1_get, Cond.methodLink RX1 19 yX1_add, Cond.methodLink RX4 42 yX4_faultBehind, Cond.instanceMethod yX4_faultBehind]
def wsX4_readText_r4 : List Cond := [Cond.selects RX4 yX4_faultBehind yX4_faultBehind, Cond.code yX4_faultBehind cX4_faultBehind 2 (some .int)]
def wsX4_readText : List Cond := .code yX4_readText cX4_readText 4 (some .int) :: ((wsX4_readText_r1 ++ (wsX4_readText_r2 ++ (wsX4_readText_r3 ++ wsX4_readText_r4))) ++ wsX40 ++ wsX10 ++ wsX50)
def wsX5_init : List Cond := .code yX5_init cX5_init 1 none :: ([.methodLink RX5 3 objectInit, .instanceMethod objectInit, .code objectInit ⟨#[0xb1]⟩ 1 none, .fieldLink RX5 9 "CheapParse$Rules" "least" "I", .fieldLink RX5 15 "CheapParse$Rules" "most" "I", .fieldLink RX5 18 "CheapParse$Rules" "window" "I"] ++ wsX50)
def wsX5_change : List Cond := .code yX5_change cX5_change 5 (some .boolean) :: ([.fieldLink RX5 9 "CheapParse$Rules" "least" "I", .fieldLink RX5 15 "CheapParse$Rules" "most" "I", .fieldLink RX5 18 "CheapParse$Rules" "window" "I"] ++ wsX50)
def wsX6_init : List Cond := .code yX6_init cX6_init 1 none :: ([.methodLink RX6 3 objectInit, .instanceMethod objectInit, .code objectInit ⟨#[0xb1]⟩ 1 none, .classLink RX6 9 RX1, .instantiable RX1 2, .initialized RX1, .fieldLink RX6 14 "CheapParse$Steps" "text" "LCheapParse$Bytes;", .arrayClass .int, .fieldLink RX6 20 "CheapParse$Steps" "places" "[I", .fieldLink RX6 24 "CheapParse$Steps" "lengths" "[I", .fieldLink RX6 27 "CheapParse$Steps" "distances" "[I", .fieldLink RX6 30 "CheapParse$Steps" "least" "I", .fieldLink RX6 34 "CheapParse$Steps" "count" "I", .fieldLink RX6 37 "CheapParse$Steps" "matchCount" "I", .fieldLink RX6 40 "CheapParse$Steps" "wholePrice" "I", .fieldLink RX6 43 "CheapParse$Steps" "bits" "I", .fieldLink RX6 46 "CheapParse$Steps" "made" "Z", .methodLink RX6 11 yX1_init, .instanceMethod yX1_init, .code yX1_init cX1_init 2 none, .methodLink RX1 3 objectInit, .fieldLink RX1 9 "CheapParse$Bytes" "row" "[I", .fieldLink RX1 15 "CheapParse$Bytes" "size" "I"] ++ wsX10 ++ wsX60)
def wsX6_begin : List Cond := .code yX6_begin cX6_begin 3 none :: ([.fieldLink RX6 14 "CheapParse$Steps" "text" "LCheapParse$Bytes;", .fieldLink RX6 30 "CheapParse$Steps" "least" "I", .fieldLink RX6 34 "CheapParse$Steps" "count" "I", .fieldLink RX6 37 "CheapParse$Steps" "matchCount" "I", .fieldLink RX6 40 "CheapParse$Steps" "wholePrice" "I", .fieldLink RX6 43 "CheapParse$Steps" "bits" "I", .fieldLink RX6 46 "CheapParse$Steps" "made" "Z", .methodLink RX6 50 yX1_copyOf, .instanceMethod yX1_copyOf, .selects RX1 yX1_copyOf yX1_copyOf, .initialized RX1, .code yX1_copyOf cX1_copyOf 2 none, .fieldLink RX1 15 "CheapParse$Bytes" "size" "I", .fieldLink RX1 9 "CheapParse$Bytes" "row" "[I", .methodLink RX1 27 Lib.Math.min.name, .static Lib.Math.min.name, .initialized "java/lang/Math", .code Lib.Math.min.name Lib.Math.min.code 2 (some .int), .methodLink RX1 33 arraycopyName, .native arraycopyName, .static arraycopyName, .initialized "java/lang/System"] ++ wsX60 ++ wsX10)
def wsX6_addOne : List Cond := .code yX6_addOne cX6_addOne 5 none :: ([.fieldLink RX6 34 "CheapParse$Steps" "count" "I", .fieldLink RX6 20 "CheapParse$Steps" "places" "[I", .fieldLink RX6 24 "CheapParse$Steps" "lengths" "[I", .fieldLink RX6 27 "CheapParse$Steps" "distances" "[I", .fieldLink RX6 40 "CheapParse$Steps" "wholePrice" "I"] ++ wsX60)
def wsX6_addByte : List Cond := .code yX6_addByte cX6_addByte 3 none :: ([.fieldLink RX6 43 "CheapParse$Steps" "bits" "I", .methodLink RX6 54 yX6_addOne, .instanceMethod yX6_addOne, .selects RX6 yX6_addOne yX6_addOne, .initialized RX6, .code yX6_addOne cX6_addOne 5 none, .fieldLink RX6 34 "CheapParse$Steps" "count" "I", .fieldLink RX6 20 "CheapParse$Steps" "places" "[I", .fieldLink RX6 24 "CheapParse$Steps" "lengths" "[I", .fieldLink RX6 27 "CheapParse$Steps" "distances" "[I", .fieldLink RX6 40 "CheapParse$Steps" "wholePrice" "I"] ++ wsX60)
def wsX6_lengthTold : List Cond := .code yX6_lengthTold cX6_lengthTold 2 (some .int) :: ([.fieldLink RX6 30 "CheapParse$Steps" "least" "I"] ++ wsX60)
def wsX6_lengthBits : List Cond := .code yX6_lengthBits cX6_lengthBits 2 (some .int) :: ([.methodLink RX6 105 yX6_lengthTold, .instanceMethod yX6_lengthTold, .selects RX6 yX6_lengthTold yX6_lengthTold, .initialized RX6, .code yX6_lengthTold cX6_lengthTold 2 (some .int), .fieldLink RX6 30 "CheapParse$Steps" "least" "I", .static yX8_classOf, .initialized RX8, .code yX8_classOf cX8_classOf 3 (some .int)] ++ wsX60)
def wsX6_addMatch : List Cond := .code yX6_addMatch cX6_addMatch 5 none :: ([.fieldLink RX6 37 "CheapParse$Steps" "matchCount" "I", .fieldLink RX6 43 "CheapParse$Steps" "bits" "I", .methodLink RX6 54 yX6_addOne, .instanceMethod yX6_addOne, .selects RX6 yX6_addOne yX6_addOne, .initialized RX6, .code yX6_addOne cX6_addOne 5 none, .fieldLink RX6 34 "CheapParse$Steps" "count" "I", .fieldLink RX6 20 "CheapParse$Steps" "places" "[I", .fieldLink RX6 24 "CheapParse$Steps" "lengths" "[I", .fieldLink RX6 27 "CheapParse$Steps" "distances" "[I", .fieldLink RX6 40 "CheapParse$Steps" "wholePrice" "I", .methodLink RX6 58 yX6_lengthBits, .instanceMethod yX6_lengthBits, .selects RX6 yX6_lengthBits yX6_lengthBits, .code yX6_lengthBits cX6_lengthBits 2 (some .int), .methodLink RX6 105 yX6_lengthTold, .instanceMethod yX6_lengthTold, .selects RX6 yX6_lengthTold yX6_lengthTold, .code yX6_lengthTold cX6_lengthTold 2 (some .int), .fieldLink RX6 30 "CheapParse$Steps" "least" "I", .static yX8_classOf, .initialized RX8, .code yX8_classOf cX8_classOf 3 (some .int)] ++ wsX60)
def wsX6_made : List Cond := .code yX6_made cX6_made 1 (some .boolean) :: ([.fieldLink RX6 46 "CheapParse$Steps" "made" "Z"] ++ wsX60)
def wsX6_count : List Cond := .code yX6_count cX6_count 1 (some .int) :: ([.fieldLink RX6 34 "CheapParse$Steps" "count" "I"] ++ wsX60)
def wsX6_matchCount : List Cond := .code yX6_matchCount cX6_matchCount 1 (some .int) :: ([.fieldLink RX6 37 "CheapParse$Steps" "matchCount" "I"] ++ wsX60)
def wsX6_wholePrice : List Cond := .code yX6_wholePrice cX6_wholePrice 1 (some .int) :: ([.fieldLink RX6 40 "CheapParse$Steps" "wholePrice" "I"] ++ wsX60)
def wsX6_bits : List Cond := .code yX6_bits cX6_bits 1 (some .int) :: ([.fieldLink RX6 43 "CheapParse$Steps" "bits" "I"] ++ wsX60)
def wsX6_textSize : List Cond := .code yX6_textSize cX6_textSize 1 (some .int) :: ([.fieldLink RX6 14 "CheapParse$Steps" "text" "LCheapParse$Bytes;", .methodLink RX6 65 yX1_size, .instanceMethod yX1_size, .selects RX1 yX1_size yX1_size, .initialized RX1, .code yX1_size cX1_size 1 (some .int), .fieldLink RX1 15 "CheapParse$Bytes" "size" "I"] ++ wsX60 ++ wsX10)
def wsX6_has : List Cond := .code yX6_has cX6_has 2 (some .boolean) :: ([.fieldLink RX6 34 "CheapParse$Steps" "count" "I"] ++ wsX60)
def wsX6_placeOf : List Cond := .code yX6_placeOf cX6_placeOf 2 (some .int) :: ([.fieldLink RX6 20 "CheapParse$Steps" "places" "[I", .methodLink RX6 69 yX6_has, .instanceMethod yX6_has, .selects RX6 yX6_has yX6_has, .initialized RX6, .code yX6_has cX6_has 2 (some .boolean), .fieldLink RX6 34 "CheapParse$Steps" "count" "I"] ++ wsX60)
def wsX6_lengthOf : List Cond := .code yX6_lengthOf cX6_lengthOf 2 (some .int) :: ([.fieldLink RX6 24 "CheapParse$Steps" "lengths" "[I", .methodLink RX6 69 yX6_has, .instanceMethod yX6_has, .selects RX6 yX6_has yX6_has, .initialized RX6, .code yX6_has cX6_has 2 (some .boolean), .fieldLink RX6 34 "CheapParse$Steps" "count" "I"] ++ wsX60)
def wsX6_distanceOf : List Cond := .code yX6_distanceOf cX6_distanceOf 2 (some .int) :: ([.fieldLink RX6 27 "CheapParse$Steps" "distances" "[I", .methodLink RX6 69 yX6_has, .instanceMethod yX6_has, .selects RX6 yX6_has yX6_has, .initialized RX6, .code yX6_has cX6_has 2 (some .boolean), .fieldLink RX6 34 "CheapParse$Steps" "count" "I"] ++ wsX60)
def wsX6_byteOf : List Cond := .code yX6_byteOf cX6_byteOf 2 (some .int) :: ([.fieldLink RX6 27 "CheapParse$Steps" "distances" "[I", .fieldLink RX6 14 "CheapParse$Steps" "text" "LCheapParse$Bytes;", .fieldLink RX6 20 "CheapParse$Steps" "places" "[I", .methodLink RX6 69 yX6_has, .instanceMethod yX6_has, .selects RX6 yX6_has yX6_has, .initialized RX6, .code yX6_has cX6_has 2 (some .boolean), .fieldLink RX6 34 "CheapParse$Steps" "count" "I", .methodLink RX6 73 yX1_get, .instanceMethod yX1_get, .selects RX1 yX1_get yX1_get, .initialized RX1, .code yX1_get cX1_get 2 (some .int), .fieldLink RX1 15 "CheapParse$Bytes" "size" "I", .fieldLink RX1 9 "CheapParse$Bytes" "row" "[I"] ++ wsX60 ++ wsX10)
def wsX6_putMatch : List Cond := .code yX6_putMatch cX6_putMatch 5 none :: ([.methodLink RX6 81 yX0_put, .instanceMethod yX0_put, .selects RX0 yX0_put yX0_put, .initialized RX0, .code yX0_put cX0_put 4 none, .methodLink RX0 23 yX0_putBit, .instanceMethod yX0_putBit, .selects RX0 yX0_putBit yX0_putBit, .code yX0_putBit cX0_putBit 3 none, .fieldLink RX0 15 "CheapParse$BitWriter" "bits" "I", .fieldLink RX0 9 "CheapParse$BitWriter" "row" "[I", .methodLink RX6 105 yX6_lengthTold, .instanceMethod yX6_lengthTold, .selects RX6 yX6_lengthTold yX6_lengthTold, .initialized RX6, .code yX6_lengthTold cX6_lengthTold 2 (some .int), .fieldLink RX6 30 "CheapParse$Steps" "least" "I", .methodLink RX6 58 yX6_lengthBits, .instanceMethod yX6_lengthBits, .selects RX6 yX6_lengthBits yX6_lengthBits, .code yX6_lengthBits cX6_lengthBits 2 (some .int), .static yX8_classOf, .initialized RX8, .code yX8_classOf cX8_classOf 3 (some .int)] ++ wsX00 ++ wsX60)
def wsX6_putInto_r1 : List Cond := [Cond.fieldLink RX6 14 "CheapParse$Steps" "text" "LCheapParse$Bytes;", Cond.fieldLink RX6 34 "CheapParse$Steps" "count" "I", Cond.fieldLink RX6 27 "CheapParse$Steps" "distances" "[I", Cond.fieldLink RX6 24 "CheapParse$Steps" "lengths" "[I", Cond.methodLink RX6 76 yX0_begin, Cond.instanceMethod yX0_begin, Cond.selects RX0 yX0_begin yX0_begin, Cond.initialized RX0, Cond.code yX0_begin cX0_begin 1 none, Cond.fieldLink RX0 15 "CheapParse$BitWriter" "bits" "I", Cond.methodLink RX6 65 yX1_size, Cond.instanceMethod yX1_size, Cond.selects RX1 yX1_size yX1_size, Cond.initialized RX1, Cond.code yX1_size cX1_size 1 (some .int), Cond.fieldLink RX1 15 "CheapParse$Bytes" "size" "I", Cond.methodLink RX6 81 yX0_put, Cond.instanceMethod yX0_put, Cond.selects RX0 yX0_put yX0_put, Cond.code yX0_put cX0_put 4 none, Cond.methodLink RX0 23 yX0_putBit, Cond.instanceMethod yX0_putBit, Cond.selects RX0 yX0_putBit yX0_putBit, Cond.code yX0_putBit cX0_putBit 3 none]
def wsX6_putInto_r2 : List Cond := [Cond.fieldLink RX0 9 "CheapParse$BitWriter" "row" "[I", Cond.methodLink RX6 85 yX6_byteOf, Cond.instanceMethod yX6_byteOf, Cond.selects RX6 yX6_byteOf yX6_byteOf, Cond.initialized RX6, Cond.code yX6_byteOf cX6_byteOf 2 (some .int), Cond.fieldLink RX6 20 "CheapParse$Steps" "places" "[I", Cond.methodLink RX6 69 yX6_has, Cond.instanceMethod yX6_has, Cond.selects RX6 yX6_has yX6_has, Cond.code yX6_has cX6_has 2 (some .boolean), Cond.methodLink RX6 73 yX1_get, Cond.instanceMethod yX1_get, Cond.selects RX1 yX1_get yX1_get, Cond.code yX1_get cX1_get 2 (some .int), Cond.fieldLink RX1 9 "CheapParse$Bytes" "row" "[I", Cond.methodLink RX6 88 yX6_putMatch, Cond.instanceMethod yX6_putMatch, Cond.selects RX6 yX6_putMatch yX6_putMatch, Cond.code yX6_putMatch cX6_putMatch 5 none, Cond.methodLink RX6 105 yX6_lengthTold, Cond.instanceMethod yX6_lengthTold, Cond.selects RX6 yX6_lengthTold yX6_lengthTold, Cond.code yX6_lengthTold cX6_lengthTold 2 (some .int)]
def wsX6_putInto_r3 : List Cond := [Cond.fieldLink RX6 30 "CheapParse$Steps" "least" "I", Cond.methodLink RX6 58 yX6_lengthBits, Cond.instanceMethod yX6_lengthBits, Cond.selects RX6 yX6_lengthBits yX6_lengthBits, Cond.code yX6_lengthBits cX6_lengthBits 2 (some .int), Cond.static yX8_classOf, Cond.initialized RX8, Cond.code yX8_classOf cX8_classOf 3 (some .int)]
def wsX6_putInto : List Cond := .code yX6_putInto cX6_putInto 3 none :: ((wsX6_putInto_r1 ++ (wsX6_putInto_r2 ++ wsX6_putInto_r3)) ++ wsX60 ++ wsX00 ++ wsX10)
def wsX6_makeTheirText_r1 : List Cond := [Cond.fieldLink RX6 34 "CheapParse$Steps" "count" "I", Cond.fieldLink RX6 20 "CheapParse$Steps" "places" "[I", Cond.fieldLink RX6 27 "CheapParse$Steps" "distances" "[I", Cond.fieldLink RX6 24 "CheapParse$Steps" "lengths" "[I", Cond.fieldLink RX6 14 "CheapParse$Steps" "text" "LCheapParse$Bytes;", Cond.methodLink RX6 92 yX1_empty, Cond.instanceMethod yX1_empty, Cond.selects RX1 yX1_empty yX1_empty, Cond.initialized RX1, Cond.code yX1_empty cX1_empty 1 none, Cond.fieldLink RX1 15 "CheapParse$Bytes" "size" "I", Cond.methodLink RX6 65 yX1_size, Cond.instanceMethod yX1_size, Cond.selects RX1 yX1_size yX1_size, Cond.code yX1_size cX1_size 1 (some .int), Cond.methodLink RX6 85 yX6_byteOf, Cond.instanceMethod yX6_byteOf, Cond.selects RX6 yX6_byteOf yX6_byteOf, Cond.initialized RX6, Cond.code yX6_byteOf cX6_byteOf 2 (some .int), Cond.methodLink RX6 69 yX6_has, Cond.instanceMethod yX6_has, Cond.selects RX6 yX6_has yX6_has, Cond.code yX6_has cX6_has 2 (some .boolean)]
def wsX6_makeTheirText_r2 : List Cond := [Cond.methodLink RX6 73 yX1_get, Cond.instanceMethod yX1_get, Cond.selects RX1 yX1_get yX1_get, Cond.code yX1_get cX1_get 2 (some .int), Cond.fieldLink RX1 9 "CheapParse$Bytes" "row" "[I", Cond.methodLink RX6 95 yX1_add, Cond.instanceMethod yX1_add, Cond.selects RX1 yX1_add yX1_add, Cond.code yX1_add cX1_add 2 none, Cond.methodLink RX6 98 yX1_addAgain, Cond.instanceMethod yX1_addAgain, Cond.selects RX1 yX1_addAgain yX1_addAgain, Cond.code yX1_addAgain cX1_addAgain 4 none, Cond.methodLink RX1 23 yX1_get, Cond.methodLink RX1 19 yX1_add, Cond.methodLink RX6 101 yX1_sameAs, Cond.instanceMethod yX1_sameAs, Cond.selects RX1 yX1_sameAs yX1_sameAs, Cond.code yX1_sameAs cX1_sameAs 3 (some .boolean)]
def wsX6_makeTheirText : List Cond := .code yX6_makeTheirText cX6_makeTheirText 3 (some .boolean) :: ((wsX6_makeTheirText_r1 ++ wsX6_makeTheirText_r2) ++ wsX60 ++ wsX10)
def wsX7_firstPrices : List Cond := .code yX7_firstPrices cX7_firstPrices 3 (some (.array .int)) :: ([.arrayClass .int])
def wsX7_init : List Cond := .code yX7_init cX7_init 1 none :: ([.methodLink RX7 3 objectInit, .instanceMethod objectInit, .code objectInit ⟨#[0xb1]⟩ 1 none, .fieldLink RX7 15 "CheapParse$Tariff" "bytes" "[I", .fieldLink RX7 19 "CheapParse$Tariff" "allMatches" "[I", .fieldLink RX7 22 "CheapParse$Tariff" "lengths" "[I", .fieldLink RX7 25 "CheapParse$Tariff" "distances" "[I", .methodLink RX7 9 yX7_firstPrices, .static yX7_firstPrices, .initialized RX7, .code yX7_firstPrices cX7_firstPrices 3 (some (.array .int)), .arrayClass .int] ++ wsX70)
def wsX7_rowOf : List Cond := .code yX7_rowOf cX7_rowOf 2 (some (.array .int)) :: ([.fieldLink RX7 15 "CheapParse$Tariff" "bytes" "[I", .fieldLink RX7 19 "CheapParse$Tariff" "allMatches" "[I", .fieldLink RX7 22 "CheapParse$Tariff" "lengths" "[I", .fieldLink RX7 25 "CheapParse$Tariff" "distances" "[I"] ++ wsX70)
def wsX7_change : List Cond := .code yX7_change cX7_change 5 (some .boolean) :: ([.methodLink RX7 28 yX7_rowOf, .instanceMethod yX7_rowOf, .selects RX7 yX7_rowOf yX7_rowOf, .initialized RX7, .code yX7_rowOf cX7_rowOf 2 (some (.array .int)), .fieldLink RX7 15 "CheapParse$Tariff" "bytes" "[I", .fieldLink RX7 19 "CheapParse$Tariff" "allMatches" "[I", .fieldLink RX7 22 "CheapParse$Tariff" "lengths" "[I", .fieldLink RX7 25 "CheapParse$Tariff" "distances" "[I"] ++ wsX70)
def wsX7_ofMatch : List Cond := .code yX7_ofMatch cX7_ofMatch 3 (some .int) :: ([.methodLink RX7 31 yX7_ofLength, .instanceMethod yX7_ofLength, .selects RX7 yX7_ofLength yX7_ofLength, .initialized RX7, .code yX7_ofLength cX7_ofLength 2 (some .int), .fieldLink RX7 19 "CheapParse$Tariff" "allMatches" "[I", .fieldLink RX7 22 "CheapParse$Tariff" "lengths" "[I", .methodLink RX7 41 Lib.Math.min.name, .static Lib.Math.min.name, .initialized "java/lang/Math", .code Lib.Math.min.name Lib.Math.min.code 2 (some .int), .static yX8_classOf, .initialized RX8, .code yX8_classOf cX8_classOf 3 (some .int), .methodLink RX7 38 yX7_ofDistanceClass, .instanceMethod yX7_ofDistanceClass, .selects RX7 yX7_ofDistanceClass yX7_ofDistanceClass, .code yX7_ofDistanceClass cX7_ofDistanceClass 2 (some .int), .fieldLink RX7 25 "CheapParse$Tariff" "distances" "[I"] ++ wsX70)
def wsX8_init_r1 : List Cond := [Cond.methodLink RX8 3 objectInit, Cond.instanceMethod objectInit, Cond.code objectInit ⟨#[0xb1]⟩ 1 none, Cond.classLink RX8 9 RX1, Cond.instantiable RX1 2, Cond.initialized RX1, Cond.fieldLink RX8 14 "CheapParse" "text" "LCheapParse$Bytes;", Cond.fieldLink RX8 18 "CheapParse" "loaded" "LCheapParse$Bytes;", Cond.fieldLink RX8 21 "CheapParse" "lastRead" "LCheapParse$Bytes;", Cond.fieldLink RX8 24 "CheapParse" "scratch" "LCheapParse$Bytes;", Cond.classLink RX8 27 RX5, Cond.instantiable RX5 3, Cond.initialized RX5, Cond.fieldLink RX8 30 "CheapParse" "rules" "LCheapParse$Rules;", Cond.classLink RX8 34 RX7, Cond.instantiable RX7 4, Cond.initialized RX7, Cond.fieldLink RX8 37 "CheapParse" "tariff" "LCheapParse$Tariff;", Cond.classLink RX8 41 RX3, Cond.instantiable RX3 7, Cond.initialized RX3, Cond.fieldLink RX8 46 "CheapParse" "matches" "LCheapParse$Matches;", Cond.classLink RX8 50 RX2, Cond.instantiable RX2 9]
def wsX8_init_r2 : List Cond := [Cond.initialized RX2, Cond.fieldLink RX8 55 "CheapParse" "costs" "LCheapParse$Costs;", Cond.classLink RX8 59 RX6, Cond.instantiable RX6 10, Cond.initialized RX6, Cond.fieldLink RX8 62 "CheapParse" "latest" "LCheapParse$Steps;", Cond.classLink RX8 66 RX0, Cond.instantiable RX0 2, Cond.initialized RX0, Cond.fieldLink RX8 69 "CheapParse" "writer" "LCheapParse$BitWriter;", Cond.classLink RX8 73 RX4, Cond.instantiable RX4 4, Cond.initialized RX4, Cond.fieldLink RX8 78 "CheapParse" "reader" "LCheapParse$Reader;", Cond.fieldLink RX8 82 "CheapParse" "matchesStale" "Z", Cond.fieldLink RX8 86 "CheapParse" "costsStale" "Z", Cond.fieldLink RX8 89 "CheapParse" "anyRead" "Z", Cond.methodLink RX8 11 yX1_init, Cond.instanceMethod yX1_init, Cond.code yX1_init cX1_init 2 none, Cond.methodLink RX1 3 objectInit, Cond.arrayClass .int, Cond.fieldLink RX1 9 "CheapParse$Bytes" "row" "[I", Cond.fieldLink RX1 15 "CheapParse$Bytes" "size" "I"]
def wsX8_init_r3 : List Cond := [Cond.methodLink RX8 29 yX5_init, Cond.instanceMethod yX5_init, Cond.code yX5_init cX5_init 1 none, Cond.methodLink RX5 3 objectInit, Cond.fieldLink RX5 9 "CheapParse$Rules" "least" "I", Cond.fieldLink RX5 15 "CheapParse$Rules" "most" "I", Cond.fieldLink RX5 18 "CheapParse$Rules" "window" "I", Cond.methodLink RX8 36 yX7_init, Cond.instanceMethod yX7_init, Cond.code yX7_init cX7_init 1 none, Cond.methodLink RX7 3 objectInit, Cond.fieldLink RX7 15 "CheapParse$Tariff" "bytes" "[I", Cond.fieldLink RX7 19 "CheapParse$Tariff" "allMatches" "[I", Cond.fieldLink RX7 22 "CheapParse$Tariff" "lengths" "[I", Cond.fieldLink RX7 25 "CheapParse$Tariff" "distances" "[I", Cond.methodLink RX7 9 yX7_firstPrices, Cond.static yX7_firstPrices, Cond.code yX7_firstPrices cX7_firstPrices 3 (some (.array .int)), Cond.methodLink RX8 43 yX3_init, Cond.instanceMethod yX3_init, Cond.code yX3_init cX3_init 3 none, Cond.methodLink RX3 3 objectInit, Cond.fieldLink RX3 9 "CheapParse$Matches" "text" "LCheapParse$Bytes;", Cond.fieldLink RX3 15 "CheapParse$Matches" "rules" "LCheapParse$Rules;"]
def wsX8_init_r4 : List Cond := [Cond.fieldLink RX3 19 "CheapParse$Matches" "longest" "[I", Cond.fieldLink RX3 23 "CheapParse$Matches" "nearest" "[I", Cond.fieldLink RX3 26 "CheapParse$Matches" "distances" "[I", Cond.fieldLink RX3 29 "CheapParse$Matches" "reach" "[I", Cond.fieldLink RX3 32 "CheapParse$Matches" "same" "[I", Cond.methodLink RX8 52 yX2_init, Cond.instanceMethod yX2_init, Cond.code yX2_init cX2_init 5 none, Cond.methodLink RX2 3 objectInit, Cond.fieldLink RX2 9 "CheapParse$Costs" "text" "LCheapParse$Bytes;", Cond.fieldLink RX2 15 "CheapParse$Costs" "rules" "LCheapParse$Rules;", Cond.fieldLink RX2 19 "CheapParse$Costs" "tariff" "LCheapParse$Tariff;", Cond.fieldLink RX2 23 "CheapParse$Costs" "matches" "LCheapParse$Matches;", Cond.fieldLink RX2 27 "CheapParse$Costs" "least" "[I", Cond.fieldLink RX2 31 "CheapParse$Costs" "stepLength" "[I", Cond.fieldLink RX2 34 "CheapParse$Costs" "stepDistancePrice" "[I", Cond.fieldLink RX2 37 "CheapParse$Costs" "lengthPrice" "[I", Cond.fieldLink RX2 40 "CheapParse$Costs" "priceByReach" "[I", Cond.methodLink RX8 61 yX6_init, Cond.instanceMethod yX6_init, Cond.code yX6_init cX6_init 1 none, Cond.methodLink RX6 3 objectInit, Cond.classLink RX6 9 RX1, Cond.fieldLink RX6 14 "CheapParse$Steps" "text" "LCheapParse$Bytes;"]
def wsX8_init_r5 : List Cond := [Cond.fieldLink RX6 20 "CheapParse$Steps" "places" "[I", Cond.fieldLink RX6 24 "CheapParse$Steps" "lengths" "[I", Cond.fieldLink RX6 27 "CheapParse$Steps" "distances" "[I", Cond.fieldLink RX6 30 "CheapParse$Steps" "least" "I", Cond.fieldLink RX6 34 "CheapParse$Steps" "count" "I", Cond.fieldLink RX6 37 "CheapParse$Steps" "matchCount" "I", Cond.fieldLink RX6 40 "CheapParse$Steps" "wholePrice" "I", Cond.fieldLink RX6 43 "CheapParse$Steps" "bits" "I", Cond.fieldLink RX6 46 "CheapParse$Steps" "made" "Z", Cond.methodLink RX6 11 yX1_init, Cond.methodLink RX8 68 yX0_init, Cond.instanceMethod yX0_init, Cond.code yX0_init cX0_init 1 none, Cond.methodLink RX0 3 objectInit, Cond.fieldLink RX0 9 "CheapParse$BitWriter" "row" "[I", Cond.fieldLink RX0 15 "CheapParse$BitWriter" "bits" "I", Cond.methodLink RX8 75 yX4_init, Cond.instanceMethod yX4_init, Cond.code yX4_init cX4_init 4 none, Cond.methodLink RX4 3 objectInit, Cond.fieldLink RX4 9 "CheapParse$Reader" "source" "LCheapParse$Bytes;", Cond.fieldLink RX4 15 "CheapParse$Reader" "rules" "LCheapParse$Rules;", Cond.fieldLink RX4 19 "CheapParse$Reader" "made" "LCheapParse$Bytes;", Cond.fieldLink RX4 22 "CheapParse$Reader" "bits" "I"]
def wsX8_init : List Cond := .code yX8_init cX8_init 1 none :: ((wsX8_init_r1 ++ (wsX8_init_r2 ++ (wsX8_init_r3 ++ (wsX8_init_r4 ++ wsX8_init_r5)))) ++ wsX10 ++ wsX80 ++ wsX50 ++ wsX70 ++ wsX30 ++ wsX20 ++ wsX60 ++ wsX00 ++ wsX40)
def wsX8_forgetMatches : List Cond := .code yX8_forgetMatches cX8_forgetMatches 1 none :: ([.fieldLink RX8 82 "CheapParse" "matchesStale" "Z", .fieldLink RX8 86 "CheapParse" "costsStale" "Z"] ++ wsX80)
def wsX8_type : List Cond := .code yX8_type cX8_type 5 (some .int) :: ([.fieldLink RX8 14 "CheapParse" "text" "LCheapParse$Bytes;", .methodLink RX8 92 yX1_addLowest, .instanceMethod yX1_addLowest, .selects RX1 yX1_addLowest yX1_addLowest, .initialized RX1, .code yX1_addLowest cX1_addLowest 5 (some .int), .fieldLink RX1 9 "CheapParse$Bytes" "row" "[I", .fieldLink RX1 15 "CheapParse$Bytes" "size" "I", .methodLink RX1 19 yX1_add, .instanceMethod yX1_add, .selects RX1 yX1_add yX1_add, .code yX1_add cX1_add 2 none, .methodLink RX8 96 yX8_forgetMatches, .instanceMethod yX8_forgetMatches, .selects RX8 yX8_forgetMatches yX8_forgetMatches, .initialized RX8, .code yX8_forgetMatches cX8_forgetMatches 1 none, .fieldLink RX8 82 "CheapParse" "matchesStale" "Z", .fieldLink RX8 86 "CheapParse" "costsStale" "Z"] ++ wsX80 ++ wsX10)
def wsX8_fill : List Cond := .code yX8_fill cX8_fill 4 (some .int) :: ([.fieldLink RX8 14 "CheapParse" "text" "LCheapParse$Bytes;", .methodLink RX8 99 yX1_addTimes, .instanceMethod yX1_addTimes, .selects RX1 yX1_addTimes yX1_addTimes, .initialized RX1, .code yX1_addTimes cX1_addTimes 4 (some .int), .fieldLink RX1 9 "CheapParse$Bytes" "row" "[I", .fieldLink RX1 15 "CheapParse$Bytes" "size" "I", .methodLink RX1 19 yX1_add, .instanceMethod yX1_add, .selects RX1 yX1_add yX1_add, .code yX1_add cX1_add 2 none, .methodLink RX8 96 yX8_forgetMatches, .instanceMethod yX8_forgetMatches, .selects RX8 yX8_forgetMatches yX8_forgetMatches, .initialized RX8, .code yX8_forgetMatches cX8_forgetMatches 1 none, .fieldLink RX8 82 "CheapParse" "matchesStale" "Z", .fieldLink RX8 86 "CheapParse" "costsStale" "Z"] ++ wsX80 ++ wsX10)
def wsX8_clear : List Cond := .code yX8_clear cX8_clear 2 (some .int) :: ([.fieldLink RX8 14 "CheapParse" "text" "LCheapParse$Bytes;", .methodLink RX8 103 yX1_size, .instanceMethod yX1_size, .selects RX1 yX1_size yX1_size, .initialized RX1, .code yX1_size cX1_size 1 (some .int), .fieldLink RX1 15 "CheapParse$Bytes" "size" "I", .methodLink RX8 107 yX1_empty, .instanceMethod yX1_empty, .selects RX1 yX1_empty yX1_empty, .code yX1_empty cX1_empty 1 none, .methodLink RX8 96 yX8_forgetMatches, .instanceMethod yX8_forgetMatches, .selects RX8 yX8_forgetMatches yX8_forgetMatches, .initialized RX8, .code yX8_forgetMatches cX8_forgetMatches 1 none, .fieldLink RX8 82 "CheapParse" "matchesStale" "Z", .fieldLink RX8 86 "CheapParse" "costsStale" "Z"] ++ wsX80 ++ wsX10)
def wsX8_limits : List Cond := .code yX8_limits cX8_limits 4 (some .int) :: ([.fieldLink RX8 30 "CheapParse" "rules" "LCheapParse$Rules;", .methodLink RX8 110 yX5_change, .instanceMethod yX5_change, .selects RX5 yX5_change yX5_change, .initialized RX5, .code yX5_change cX5_change 5 (some .boolean), .fieldLink RX5 9 "CheapParse$Rules" "least" "I", .fieldLink RX5 15 "CheapParse$Rules" "most" "I", .fieldLink RX5 18 "CheapParse$Rules" "window" "I", .methodLink RX8 96 yX8_forgetMatches, .instanceMethod yX8_forgetMatches, .selects RX8 yX8_forgetMatches yX8_forgetMatches, .initialized RX8, .code yX8_forgetMatches cX8_forgetMatches 1 none, .fieldLink RX8 82 "CheapParse" "matchesStale" "Z", .fieldLink RX8 86 "CheapParse" "costsStale" "Z"] ++ wsX80 ++ wsX50)
def wsX8_price : List Cond := .code yX8_price cX8_price 4 (some .int) :: ([.fieldLink RX8 37 "CheapParse" "tariff" "LCheapParse$Tariff;", .fieldLink RX8 86 "CheapParse" "costsStale" "Z", .methodLink RX8 114 yX7_change, .instanceMethod yX7_change, .selects RX7 yX7_change yX7_change, .initialized RX7, .code yX7_change cX7_change 5 (some .boolean), .methodLink RX7 28 yX7_rowOf, .instanceMethod yX7_rowOf, .selects RX7 yX7_rowOf yX7_rowOf, .code yX7_rowOf cX7_rowOf 2 (some (.array .int)), .fieldLink RX7 15 "CheapParse$Tariff" "bytes" "[I", .fieldLink RX7 19 "CheapParse$Tariff" "allMatches" "[I", .fieldLink RX7 22 "CheapParse$Tariff" "lengths" "[I", .fieldLink RX7 25 "CheapParse$Tariff" "distances" "[I"] ++ wsX80 ++ wsX70)
def wsX8_renewMatches_r1 : List Cond := [Cond.fieldLink RX8 82 "CheapParse" "matchesStale" "Z", Cond.fieldLink RX8 46 "CheapParse" "matches" "LCheapParse$Matches;", Cond.methodLink RX8 199 yX3_build, Cond.instanceMethod yX3_build, Cond.selects RX3 yX3_build yX3_build, Cond.initialized RX3, Cond.code yX3_build cX3_build 3 none, Cond.fieldLink RX3 32 "CheapParse$Matches" "same" "[I", Cond.fieldLink RX3 9 "CheapParse$Matches" "text" "LCheapParse$Bytes;", Cond.fieldLink RX3 19 "CheapParse$Matches" "longest" "[I", Cond.fieldLink RX3 23 "CheapParse$Matches" "nearest" "[I", Cond.fieldLink RX3 26 "CheapParse$Matches" "distances" "[I", Cond.methodLink RX3 35 yX1_size, Cond.instanceMethod yX1_size, Cond.selects RX1 yX1_size yX1_size, Cond.initialized RX1, Cond.code yX1_size cX1_size 1 (some .int), Cond.fieldLink RX1 15 "CheapParse$Bytes" "size" "I", Cond.methodLink RX3 41 yX3_noteClass, Cond.instanceMethod yX3_noteClass, Cond.selects RX3 yX3_noteClass yX3_noteClass, Cond.code yX3_noteClass cX3_noteClass 10 none, Cond.fieldLink RX3 15 "CheapParse$Matches" "rules" "LCheapParse$Rules;", Cond.methodLink RX3 73 Lib.Math.max.name]
def wsX8_renewMatches_r2 : List Cond := [Cond.static Lib.Math.max.name, Cond.initialized "java/lang/Math", Cond.code Lib.Math.max.name Lib.Math.max.code 2 (some .int), Cond.fieldLink RX3 29 "CheapParse$Matches" "reach" "[I", Cond.methodLink RX3 66 yX5_least, Cond.instanceMethod yX5_least, Cond.selects RX5 yX5_least yX5_least, Cond.initialized RX5, Cond.code yX5_least cX5_least 1 (some .int), Cond.fieldLink RX5 9 "CheapParse$Rules" "least" "I", Cond.methodLink RX3 45 yX3_lastOfClass, Cond.instanceMethod yX3_lastOfClass, Cond.selects RX3 yX3_lastOfClass yX3_lastOfClass, Cond.code yX3_lastOfClass cX3_lastOfClass 4 (some .int), Cond.methodLink RX3 58 Lib.Math.min.name, Cond.static Lib.Math.min.name, Cond.code Lib.Math.min.name Lib.Math.min.code 2 (some .int), Cond.methodLink RX3 53 yX5_window, Cond.instanceMethod yX5_window, Cond.selects RX5 yX5_window yX5_window, Cond.code yX5_window cX5_window 1 (some .int), Cond.fieldLink RX5 18 "CheapParse$Rules" "window" "I", Cond.methodLink RX3 69 yX3_noteMatch, Cond.instanceMethod yX3_noteMatch]
def wsX8_renewMatches_r3 : List Cond := [Cond.selects RX3 yX3_noteMatch yX3_noteMatch, Cond.code yX3_noteMatch cX3_noteMatch 5 (some .int), Cond.methodLink RX3 76 yX5_most, Cond.instanceMethod yX5_most, Cond.selects RX5 yX5_most yX5_most, Cond.code yX5_most cX5_most 1 (some .int), Cond.fieldLink RX5 15 "CheapParse$Rules" "most" "I"]
def wsX8_renewMatches : List Cond := .code yX8_renewMatches cX8_renewMatches 1 none :: ((wsX8_renewMatches_r1 ++ (wsX8_renewMatches_r2 ++ wsX8_renewMatches_r3)) ++ wsX80 ++ wsX30 ++ wsX10 ++ wsX50)
def wsX8_renewCosts_r1 : List Cond := [Cond.fieldLink RX8 86 "CheapParse" "costsStale" "Z", Cond.fieldLink RX8 55 "CheapParse" "costs" "LCheapParse$Costs;", Cond.methodLink RX8 118 yX8_renewMatches, Cond.instanceMethod yX8_renewMatches, Cond.selects RX8 yX8_renewMatches yX8_renewMatches, Cond.initialized RX8, Cond.code yX8_renewMatches cX8_renewMatches 1 none, Cond.fieldLink RX8 82 "CheapParse" "matchesStale" "Z", Cond.fieldLink RX8 46 "CheapParse" "matches" "LCheapParse$Matches;", Cond.methodLink RX8 199 yX3_build, Cond.instanceMethod yX3_build, Cond.selects RX3 yX3_build yX3_build, Cond.initialized RX3, Cond.code yX3_build cX3_build 3 none, Cond.fieldLink RX3 32 "CheapParse$Matches" "same" "[I", Cond.fieldLink RX3 9 "CheapParse$Matches" "text" "LCheapParse$Bytes;", Cond.fieldLink RX3 19 "CheapParse$Matches" "longest" "[I", Cond.fieldLink RX3 23 "CheapParse$Matches" "nearest" "[I", Cond.fieldLink RX3 26 "CheapParse$Matches" "distances" "[I", Cond.methodLink RX3 35 yX1_size, Cond.instanceMethod yX1_size, Cond.selects RX1 yX1_size yX1_size, Cond.initialized RX1, Cond.code yX1_size cX1_size 1 (some .int)]
def wsX8_renewCosts_r2 : List Cond := [Cond.fieldLink RX1 15 "CheapParse$Bytes" "size" "I", Cond.methodLink RX3 41 yX3_noteClass, Cond.instanceMethod yX3_noteClass, Cond.selects RX3 yX3_noteClass yX3_noteClass, Cond.code yX3_noteClass cX3_noteClass 10 none, Cond.fieldLink RX3 15 "CheapParse$Matches" "rules" "LCheapParse$Rules;", Cond.methodLink RX3 73 Lib.Math.max.name, Cond.static Lib.Math.max.name, Cond.initialized "java/lang/Math", Cond.code Lib.Math.max.name Lib.Math.max.code 2 (some .int), Cond.fieldLink RX3 29 "CheapParse$Matches" "reach" "[I", Cond.methodLink RX3 66 yX5_least, Cond.instanceMethod yX5_least, Cond.selects RX5 yX5_least yX5_least, Cond.initialized RX5, Cond.code yX5_least cX5_least 1 (some .int), Cond.fieldLink RX5 9 "CheapParse$Rules" "least" "I", Cond.methodLink RX3 45 yX3_lastOfClass, Cond.instanceMethod yX3_lastOfClass, Cond.selects RX3 yX3_lastOfClass yX3_lastOfClass, Cond.code yX3_lastOfClass cX3_lastOfClass 4 (some .int), Cond.methodLink RX3 58 Lib.Math.min.name, Cond.static Lib.Math.min.name, Cond.code Lib.Math.min.name Lib.Math.min.code 2 (some .int)]
def wsX8_renewCosts_r3 : List Cond := [Cond.methodLink RX3 53 yX5_window, Cond.instanceMethod yX5_window, Cond.selects RX5 yX5_window yX5_window, Cond.code yX5_window cX5_window 1 (some .int), Cond.fieldLink RX5 18 "CheapParse$Rules" "window" "I", Cond.methodLink RX3 69 yX3_noteMatch, Cond.instanceMethod yX3_noteMatch, Cond.selects RX3 yX3_noteMatch yX3_noteMatch, Cond.code yX3_noteMatch cX3_noteMatch 5 (some .int), Cond.methodLink RX3 76 yX5_most, Cond.instanceMethod yX5_most, Cond.selects RX5 yX5_most yX5_most, Cond.code yX5_most cX5_most 1 (some .int), Cond.fieldLink RX5 15 "CheapParse$Rules" "most" "I", Cond.methodLink RX8 202 yX2_build, Cond.instanceMethod yX2_build, Cond.selects RX2 yX2_build yX2_build, Cond.initialized RX2, Cond.code yX2_build cX2_build 2 none, Cond.fieldLink RX2 15 "CheapParse$Costs" "rules" "LCheapParse$Rules;", Cond.fieldLink RX2 37 "CheapParse$Costs" "lengthPrice" "[I", Cond.fieldLink RX2 19 "CheapParse$Costs" "tariff" "LCheapParse$Tariff;", Cond.fieldLink RX2 27 "CheapParse$Costs" "least" "[I", Cond.fieldLink RX2 9 "CheapParse$Costs" "text" "LCheapParse$Bytes;"]
def wsX8_renewCosts_r4 : List Cond := [Cond.methodLink RX2 43 yX5_least, Cond.methodLink RX2 48 yX5_most, Cond.methodLink RX2 51 yX7_ofLength, Cond.instanceMethod yX7_ofLength, Cond.selects RX7 yX7_ofLength yX7_ofLength, Cond.initialized RX7, Cond.code yX7_ofLength cX7_ofLength 2 (some .int), Cond.fieldLink RX7 19 "CheapParse$Tariff" "allMatches" "[I", Cond.fieldLink RX7 22 "CheapParse$Tariff" "lengths" "[I", Cond.methodLink RX7 41 Lib.Math.min.name, Cond.static yX8_classOf, Cond.code yX8_classOf cX8_classOf 3 (some .int), Cond.methodLink RX2 57 yX1_size, Cond.methodLink RX2 62 yX2_chooseStep, Cond.instanceMethod yX2_chooseStep, Cond.selects RX2 yX2_chooseStep yX2_chooseStep, Cond.code yX2_chooseStep cX2_chooseStep 9 none, Cond.fieldLink RX2 23 "CheapParse$Costs" "matches" "LCheapParse$Matches;", Cond.constant RX2 89 (1000000000), Cond.fieldLink RX2 40 "CheapParse$Costs" "priceByReach" "[I", Cond.methodLink RX2 90 Lib.Math.min.name, Cond.fieldLink RX2 31 "CheapParse$Costs" "stepLength" "[I", Cond.fieldLink RX2 34 "CheapParse$Costs" "stepDistancePrice" "[I", Cond.methodLink RX2 82 yX3_longestAt]
def wsX8_renewCosts_r5 : List Cond := [Cond.instanceMethod yX3_longestAt, Cond.selects RX3 yX3_longestAt yX3_longestAt, Cond.code yX3_longestAt cX3_longestAt 2 (some .int), Cond.methodLink RX2 85 yX2_sortByReach, Cond.instanceMethod yX2_sortByReach, Cond.selects RX2 yX2_sortByReach yX2_sortByReach, Cond.code yX2_sortByReach cX2_sortByReach 5 none, Cond.methodLink RX2 72 yX3_reachAt, Cond.instanceMethod yX3_reachAt, Cond.selects RX3 yX3_reachAt yX3_reachAt, Cond.code yX3_reachAt cX3_reachAt 3 (some .int), Cond.methodLink RX2 69 yX7_ofDistanceClass, Cond.instanceMethod yX7_ofDistanceClass, Cond.selects RX7 yX7_ofDistanceClass yX7_ofDistanceClass, Cond.code yX7_ofDistanceClass cX7_ofDistanceClass 2 (some .int), Cond.fieldLink RX7 25 "CheapParse$Tariff" "distances" "[I", Cond.methodLink RX2 95 yX1_get, Cond.instanceMethod yX1_get, Cond.selects RX1 yX1_get yX1_get, Cond.code yX1_get cX1_get 2 (some .int), Cond.fieldLink RX1 9 "CheapParse$Bytes" "row" "[I", Cond.methodLink RX2 98 yX7_ofByte, Cond.instanceMethod yX7_ofByte, Cond.selects RX7 yX7_ofByte yX7_ofByte]
def wsX8_renewCosts_r6 : List Cond := [Cond.code yX7_ofByte cX7_ofByte 2 (some .int), Cond.fieldLink RX7 15 "CheapParse$Tariff" "bytes" "[I"]
def wsX8_renewCosts : List Cond := .code yX8_renewCosts cX8_renewCosts 1 none :: ((wsX8_renewCosts_r1 ++ (wsX8_renewCosts_r2 ++ (wsX8_renewCosts_r3 ++ (wsX8_renewCosts_r4 ++ (wsX8_renewCosts_r5 ++ wsX8_renewCosts_r6))))) ++ wsX80 ++ wsX30 ++ wsX10 ++ wsX50 ++ wsX20 ++ wsX70)
def wsX8_longestStep : List Cond := .code yX8_longestStep cX8_longestStep 5 (some .int) :: ([.fieldLink RX8 46 "CheapParse" "matches" "LCheapParse$Matches;", .methodLink RX8 166 yX3_longestAt, .instanceMethod yX3_longestAt, .selects RX3 yX3_longestAt yX3_longestAt, .initialized RX3, .code yX3_longestAt cX3_longestAt 2 (some .int), .fieldLink RX3 9 "CheapParse$Matches" "text" "LCheapParse$Bytes;", .fieldLink RX3 19 "CheapParse$Matches" "longest" "[I", .methodLink RX3 35 yX1_size, .instanceMethod yX1_size, .selects RX1 yX1_size yX1_size, .initialized RX1, .code yX1_size cX1_size 1 (some .int), .fieldLink RX1 15 "CheapParse$Bytes" "size" "I"] ++ wsX80 ++ wsX30 ++ wsX10)
def wsX8_addStep_r1 : List Cond := [Cond.fieldLink RX8 55 "CheapParse" "costs" "LCheapParse$Costs;", Cond.fieldLink RX8 62 "CheapParse" "latest" "LCheapParse$Steps;", Cond.fieldLink RX8 37 "CheapParse" "tariff" "LCheapParse$Tariff;", Cond.fieldLink RX8 14 "CheapParse" "text" "LCheapParse$Bytes;", Cond.fieldLink RX8 46 "CheapParse" "matches" "LCheapParse$Matches;", Cond.methodLink RX8 203 yX2_lengthAt, Cond.instanceMethod yX2_lengthAt, Cond.selects RX2 yX2_lengthAt yX2_lengthAt, Cond.initialized RX2, Cond.code yX2_lengthAt cX2_lengthAt 2 (some .int), Cond.fieldLink RX2 9 "CheapParse$Costs" "text" "LCheapParse$Bytes;", Cond.fieldLink RX2 31 "CheapParse$Costs" "stepLength" "[I", Cond.methodLink RX2 57 yX1_size, Cond.instanceMethod yX1_size, Cond.selects RX1 yX1_size yX1_size, Cond.initialized RX1, Cond.code yX1_size cX1_size 1 (some .int), Cond.fieldLink RX1 15 "CheapParse$Bytes" "size" "I", Cond.methodLink RX8 206 yX8_longestStep, Cond.instanceMethod yX8_longestStep, Cond.selects RX8 yX8_longestStep yX8_longestStep, Cond.initialized RX8, Cond.code yX8_longestStep cX8_longestStep 5 (some .int), Cond.methodLink RX8 166 yX3_longestAt]
def wsX8_addStep_r2 : List Cond := [Cond.instanceMethod yX3_longestAt, Cond.selects RX3 yX3_longestAt yX3_longestAt, Cond.initialized RX3, Cond.code yX3_longestAt cX3_longestAt 2 (some .int), Cond.fieldLink RX3 9 "CheapParse$Matches" "text" "LCheapParse$Bytes;", Cond.fieldLink RX3 19 "CheapParse$Matches" "longest" "[I", Cond.methodLink RX3 35 yX1_size, Cond.methodLink RX8 194 yX1_get, Cond.instanceMethod yX1_get, Cond.selects RX1 yX1_get yX1_get, Cond.code yX1_get cX1_get 2 (some .int), Cond.fieldLink RX1 9 "CheapParse$Bytes" "row" "[I", Cond.methodLink RX8 209 yX7_ofByte, Cond.instanceMethod yX7_ofByte, Cond.selects RX7 yX7_ofByte yX7_ofByte, Cond.initialized RX7, Cond.code yX7_ofByte cX7_ofByte 2 (some .int), Cond.fieldLink RX7 15 "CheapParse$Tariff" "bytes" "[I", Cond.methodLink RX8 212 yX6_addByte, Cond.instanceMethod yX6_addByte, Cond.selects RX6 yX6_addByte yX6_addByte, Cond.initialized RX6, Cond.code yX6_addByte cX6_addByte 3 none, Cond.fieldLink RX6 43 "CheapParse$Steps" "bits" "I"]
def wsX8_addStep_r3 : List Cond := [Cond.methodLink RX6 54 yX6_addOne, Cond.instanceMethod yX6_addOne, Cond.selects RX6 yX6_addOne yX6_addOne, Cond.code yX6_addOne cX6_addOne 5 none, Cond.fieldLink RX6 34 "CheapParse$Steps" "count" "I", Cond.fieldLink RX6 20 "CheapParse$Steps" "places" "[I", Cond.fieldLink RX6 24 "CheapParse$Steps" "lengths" "[I", Cond.fieldLink RX6 27 "CheapParse$Steps" "distances" "[I", Cond.fieldLink RX6 40 "CheapParse$Steps" "wholePrice" "I", Cond.methodLink RX8 216 yX2_distanceAt, Cond.instanceMethod yX2_distanceAt, Cond.selects RX2 yX2_distanceAt yX2_distanceAt, Cond.code yX2_distanceAt cX2_distanceAt 4 (some .int), Cond.fieldLink RX2 19 "CheapParse$Costs" "tariff" "LCheapParse$Tariff;", Cond.fieldLink RX2 34 "CheapParse$Costs" "stepDistancePrice" "[I", Cond.fieldLink RX2 23 "CheapParse$Costs" "matches" "LCheapParse$Matches;", Cond.methodLink RX2 66 yX2_lengthAt, Cond.methodLink RX2 69 yX7_ofDistanceClass, Cond.instanceMethod yX7_ofDistanceClass, Cond.selects RX7 yX7_ofDistanceClass yX7_ofDistanceClass, Cond.code yX7_ofDistanceClass cX7_ofDistanceClass 2 (some .int), Cond.fieldLink RX7 25 "CheapParse$Tariff" "distances" "[I", Cond.methodLink RX7 41 Lib.Math.min.name, Cond.static Lib.Math.min.name]
def wsX8_addStep_r4 : List Cond := [Cond.initialized "java/lang/Math", Cond.code Lib.Math.min.name Lib.Math.min.code 2 (some .int), Cond.methodLink RX2 72 yX3_reachAt, Cond.instanceMethod yX3_reachAt, Cond.selects RX3 yX3_reachAt yX3_reachAt, Cond.code yX3_reachAt cX3_reachAt 3 (some .int), Cond.fieldLink RX3 29 "CheapParse$Matches" "reach" "[I", Cond.methodLink RX2 78 yX3_nearestOfClass, Cond.instanceMethod yX3_nearestOfClass, Cond.selects RX3 yX3_nearestOfClass yX3_nearestOfClass, Cond.code yX3_nearestOfClass cX3_nearestOfClass 6 (some .int), Cond.methodLink RX3 45 yX3_lastOfClass, Cond.instanceMethod yX3_lastOfClass, Cond.selects RX3 yX3_lastOfClass yX3_lastOfClass, Cond.code yX3_lastOfClass cX3_lastOfClass 4 (some .int), Cond.fieldLink RX3 15 "CheapParse$Matches" "rules" "LCheapParse$Rules;", Cond.methodLink RX3 58 Lib.Math.min.name, Cond.methodLink RX3 53 yX5_window, Cond.instanceMethod yX5_window, Cond.selects RX5 yX5_window yX5_window, Cond.initialized RX5, Cond.code yX5_window cX5_window 1 (some .int), Cond.fieldLink RX5 18 "CheapParse$Rules" "window" "I", Cond.methodLink RX3 49 yX1_repeats]
def wsX8_addStep_r5 : List Cond := [Cond.instanceMethod yX1_repeats, Cond.selects RX1 yX1_repeats yX1_repeats, Cond.code yX1_repeats cX1_repeats 5 (some .boolean), Cond.methodLink RX8 169 yX3_nearestAt, Cond.instanceMethod yX3_nearestAt, Cond.selects RX3 yX3_nearestAt yX3_nearestAt, Cond.code yX3_nearestAt cX3_nearestAt 2 (some .int), Cond.fieldLink RX3 23 "CheapParse$Matches" "nearest" "[I", Cond.methodLink RX8 219 yX7_ofMatch, Cond.instanceMethod yX7_ofMatch, Cond.selects RX7 yX7_ofMatch yX7_ofMatch, Cond.code yX7_ofMatch cX7_ofMatch 3 (some .int), Cond.methodLink RX7 31 yX7_ofLength, Cond.instanceMethod yX7_ofLength, Cond.selects RX7 yX7_ofLength yX7_ofLength, Cond.code yX7_ofLength cX7_ofLength 2 (some .int), Cond.fieldLink RX7 19 "CheapParse$Tariff" "allMatches" "[I", Cond.fieldLink RX7 22 "CheapParse$Tariff" "lengths" "[I", Cond.static yX8_classOf, Cond.code yX8_classOf cX8_classOf 3 (some .int), Cond.methodLink RX7 38 yX7_ofDistanceClass, Cond.methodLink RX8 222 yX6_addMatch, Cond.instanceMethod yX6_addMatch, Cond.selects RX6 yX6_addMatch yX6_addMatch]
def wsX8_addStep_r6 : List Cond := [Cond.code yX6_addMatch cX6_addMatch 5 none, Cond.fieldLink RX6 37 "CheapParse$Steps" "matchCount" "I", Cond.methodLink RX6 58 yX6_lengthBits, Cond.instanceMethod yX6_lengthBits, Cond.selects RX6 yX6_lengthBits yX6_lengthBits, Cond.code yX6_lengthBits cX6_lengthBits 2 (some .int), Cond.methodLink RX6 105 yX6_lengthTold, Cond.instanceMethod yX6_lengthTold, Cond.selects RX6 yX6_lengthTold yX6_lengthTold, Cond.code yX6_lengthTold cX6_lengthTold 2 (some .int), Cond.fieldLink RX6 30 "CheapParse$Steps" "least" "I"]
def wsX8_addStep : List Cond := .code yX8_addStep cX8_addStep 5 (some .int) :: ((wsX8_addStep_r1 ++ (wsX8_addStep_r2 ++ (wsX8_addStep_r3 ++ (wsX8_addStep_r4 ++ (wsX8_addStep_r5 ++ wsX8_addStep_r6))))) ++ wsX80 ++ wsX20 ++ wsX10 ++ wsX30 ++ wsX70 ++ wsX60 ++ wsX50)
def wsX8_parse_r1 : List Cond := [Cond.fieldLink RX8 62 "CheapParse" "latest" "LCheapParse$Steps;", Cond.fieldLink RX8 14 "CheapParse" "text" "LCheapParse$Bytes;", Cond.fieldLink RX8 30 "CheapParse" "rules" "LCheapParse$Rules;", Cond.methodLink RX8 115 yX8_renewCosts, Cond.instanceMethod yX8_renewCosts, Cond.selects RX8 yX8_renewCosts yX8_renewCosts, Cond.initialized RX8, Cond.code yX8_renewCosts cX8_renewCosts 1 none, Cond.fieldLink RX8 86 "CheapParse" "costsStale" "Z", Cond.fieldLink RX8 55 "CheapParse" "costs" "LCheapParse$Costs;", Cond.methodLink RX8 118 yX8_renewMatches, Cond.instanceMethod yX8_renewMatches, Cond.selects RX8 yX8_renewMatches yX8_renewMatches, Cond.code yX8_renewMatches cX8_renewMatches 1 none, Cond.fieldLink RX8 82 "CheapParse" "matchesStale" "Z", Cond.fieldLink RX8 46 "CheapParse" "matches" "LCheapParse$Matches;", Cond.methodLink RX8 199 yX3_build, Cond.instanceMethod yX3_build, Cond.selects RX3 yX3_build yX3_build, Cond.initialized RX3, Cond.code yX3_build cX3_build 3 none, Cond.fieldLink RX3 32 "CheapParse$Matches" "same" "[I", Cond.fieldLink RX3 9 "CheapParse$Matches" "text" "LCheapParse$Bytes;", Cond.fieldLink RX3 19 "CheapParse$Matches" "longest" "[I"]
def wsX8_parse_r2 : List Cond := [Cond.fieldLink RX3 23 "CheapParse$Matches" "nearest" "[I", Cond.fieldLink RX3 26 "CheapParse$Matches" "distances" "[I", Cond.methodLink RX3 35 yX1_size, Cond.instanceMethod yX1_size, Cond.selects RX1 yX1_size yX1_size, Cond.initialized RX1, Cond.code yX1_size cX1_size 1 (some .int), Cond.fieldLink RX1 15 "CheapParse$Bytes" "size" "I", Cond.methodLink RX3 41 yX3_noteClass, Cond.instanceMethod yX3_noteClass, Cond.selects RX3 yX3_noteClass yX3_noteClass, Cond.code yX3_noteClass cX3_noteClass 10 none, Cond.fieldLink RX3 15 "CheapParse$Matches" "rules" "LCheapParse$Rules;", Cond.methodLink RX3 73 Lib.Math.max.name, Cond.static Lib.Math.max.name, Cond.initialized "java/lang/Math", Cond.code Lib.Math.max.name Lib.Math.max.code 2 (some .int), Cond.fieldLink RX3 29 "CheapParse$Matches" "reach" "[I", Cond.methodLink RX3 66 yX5_least, Cond.instanceMethod yX5_least, Cond.selects RX5 yX5_least yX5_least, Cond.initialized RX5, Cond.code yX5_least cX5_least 1 (some .int), Cond.fieldLink RX5 9 "CheapParse$Rules" "least" "I"]
def wsX8_parse_r3 : List Cond := [Cond.methodLink RX3 45 yX3_lastOfClass, Cond.instanceMethod yX3_lastOfClass, Cond.selects RX3 yX3_lastOfClass yX3_lastOfClass, Cond.code yX3_lastOfClass cX3_lastOfClass 4 (some .int), Cond.methodLink RX3 58 Lib.Math.min.name, Cond.static Lib.Math.min.name, Cond.code Lib.Math.min.name Lib.Math.min.code 2 (some .int), Cond.methodLink RX3 53 yX5_window, Cond.instanceMethod yX5_window, Cond.selects RX5 yX5_window yX5_window, Cond.code yX5_window cX5_window 1 (some .int), Cond.fieldLink RX5 18 "CheapParse$Rules" "window" "I", Cond.methodLink RX3 69 yX3_noteMatch, Cond.instanceMethod yX3_noteMatch, Cond.selects RX3 yX3_noteMatch yX3_noteMatch, Cond.code yX3_noteMatch cX3_noteMatch 5 (some .int), Cond.methodLink RX3 76 yX5_most, Cond.instanceMethod yX5_most, Cond.selects RX5 yX5_most yX5_most, Cond.code yX5_most cX5_most 1 (some .int), Cond.fieldLink RX5 15 "CheapParse$Rules" "most" "I", Cond.methodLink RX8 202 yX2_build, Cond.instanceMethod yX2_build, Cond.selects RX2 yX2_build yX2_build]
def wsX8_parse_r4 : List Cond := [Cond.initialized RX2, Cond.code yX2_build cX2_build 2 none, Cond.fieldLink RX2 15 "CheapParse$Costs" "rules" "LCheapParse$Rules;", Cond.fieldLink RX2 37 "CheapParse$Costs" "lengthPrice" "[I", Cond.fieldLink RX2 19 "CheapParse$Costs" "tariff" "LCheapParse$Tariff;", Cond.fieldLink RX2 27 "CheapParse$Costs" "least" "[I", Cond.fieldLink RX2 9 "CheapParse$Costs" "text" "LCheapParse$Bytes;", Cond.methodLink RX2 43 yX5_least, Cond.methodLink RX2 48 yX5_most, Cond.methodLink RX2 51 yX7_ofLength, Cond.instanceMethod yX7_ofLength, Cond.selects RX7 yX7_ofLength yX7_ofLength, Cond.initialized RX7, Cond.code yX7_ofLength cX7_ofLength 2 (some .int), Cond.fieldLink RX7 19 "CheapParse$Tariff" "allMatches" "[I", Cond.fieldLink RX7 22 "CheapParse$Tariff" "lengths" "[I", Cond.methodLink RX7 41 Lib.Math.min.name, Cond.static yX8_classOf, Cond.code yX8_classOf cX8_classOf 3 (some .int), Cond.methodLink RX2 57 yX1_size, Cond.methodLink RX2 62 yX2_chooseStep, Cond.instanceMethod yX2_chooseStep, Cond.selects RX2 yX2_chooseStep yX2_chooseStep, Cond.code yX2_chooseStep cX2_chooseStep 9 none]
def wsX8_parse_r5 : List Cond := [Cond.fieldLink RX2 23 "CheapParse$Costs" "matches" "LCheapParse$Matches;", Cond.constant RX2 89 (1000000000), Cond.fieldLink RX2 40 "CheapParse$Costs" "priceByReach" "[I", Cond.methodLink RX2 90 Lib.Math.min.name, Cond.fieldLink RX2 31 "CheapParse$Costs" "stepLength" "[I", Cond.fieldLink RX2 34 "CheapParse$Costs" "stepDistancePrice" "[I", Cond.methodLink RX2 82 yX3_longestAt, Cond.instanceMethod yX3_longestAt, Cond.selects RX3 yX3_longestAt yX3_longestAt, Cond.code yX3_longestAt cX3_longestAt 2 (some .int), Cond.methodLink RX2 85 yX2_sortByReach, Cond.instanceMethod yX2_sortByReach, Cond.selects RX2 yX2_sortByReach yX2_sortByReach, Cond.code yX2_sortByReach cX2_sortByReach 5 none, Cond.methodLink RX2 72 yX3_reachAt, Cond.instanceMethod yX3_reachAt, Cond.selects RX3 yX3_reachAt yX3_reachAt, Cond.code yX3_reachAt cX3_reachAt 3 (some .int), Cond.methodLink RX2 69 yX7_ofDistanceClass, Cond.instanceMethod yX7_ofDistanceClass, Cond.selects RX7 yX7_ofDistanceClass yX7_ofDistanceClass, Cond.code yX7_ofDistanceClass cX7_ofDistanceClass 2 (some .int), Cond.fieldLink RX7 25 "CheapParse$Tariff" "distances" "[I", Cond.methodLink RX2 95 yX1_get]
def wsX8_parse_r6 : List Cond := [Cond.instanceMethod yX1_get, Cond.selects RX1 yX1_get yX1_get, Cond.code yX1_get cX1_get 2 (some .int), Cond.fieldLink RX1 9 "CheapParse$Bytes" "row" "[I", Cond.methodLink RX2 98 yX7_ofByte, Cond.instanceMethod yX7_ofByte, Cond.selects RX7 yX7_ofByte yX7_ofByte, Cond.code yX7_ofByte cX7_ofByte 2 (some .int), Cond.fieldLink RX7 15 "CheapParse$Tariff" "bytes" "[I", Cond.methodLink RX8 121 yX5_least, Cond.methodLink RX8 124 yX6_begin, Cond.instanceMethod yX6_begin, Cond.selects RX6 yX6_begin yX6_begin, Cond.initialized RX6, Cond.code yX6_begin cX6_begin 3 none, Cond.fieldLink RX6 14 "CheapParse$Steps" "text" "LCheapParse$Bytes;", Cond.fieldLink RX6 30 "CheapParse$Steps" "least" "I", Cond.fieldLink RX6 34 "CheapParse$Steps" "count" "I", Cond.fieldLink RX6 37 "CheapParse$Steps" "matchCount" "I", Cond.fieldLink RX6 40 "CheapParse$Steps" "wholePrice" "I", Cond.fieldLink RX6 43 "CheapParse$Steps" "bits" "I", Cond.fieldLink RX6 46 "CheapParse$Steps" "made" "Z", Cond.methodLink RX6 50 yX1_copyOf, Cond.instanceMethod yX1_copyOf]
def wsX8_parse_r7 : List Cond := [Cond.selects RX1 yX1_copyOf yX1_copyOf, Cond.code yX1_copyOf cX1_copyOf 2 none, Cond.methodLink RX1 27 Lib.Math.min.name, Cond.methodLink RX1 33 arraycopyName, Cond.native arraycopyName, Cond.static arraycopyName, Cond.initialized "java/lang/System", Cond.methodLink RX8 103 yX1_size, Cond.methodLink RX8 128 yX8_addStep, Cond.instanceMethod yX8_addStep, Cond.selects RX8 yX8_addStep yX8_addStep, Cond.code yX8_addStep cX8_addStep 5 (some .int), Cond.fieldLink RX8 37 "CheapParse" "tariff" "LCheapParse$Tariff;", Cond.methodLink RX8 203 yX2_lengthAt, Cond.instanceMethod yX2_lengthAt, Cond.selects RX2 yX2_lengthAt yX2_lengthAt, Cond.code yX2_lengthAt cX2_lengthAt 2 (some .int), Cond.methodLink RX8 206 yX8_longestStep, Cond.instanceMethod yX8_longestStep, Cond.selects RX8 yX8_longestStep yX8_longestStep, Cond.code yX8_longestStep cX8_longestStep 5 (some .int), Cond.methodLink RX8 166 yX3_longestAt, Cond.methodLink RX8 194 yX1_get, Cond.methodLink RX8 209 yX7_ofByte]
def wsX8_parse_r8 : List Cond := [Cond.methodLink RX8 212 yX6_addByte, Cond.instanceMethod yX6_addByte, Cond.selects RX6 yX6_addByte yX6_addByte, Cond.code yX6_addByte cX6_addByte 3 none, Cond.methodLink RX6 54 yX6_addOne, Cond.instanceMethod yX6_addOne, Cond.selects RX6 yX6_addOne yX6_addOne, Cond.code yX6_addOne cX6_addOne 5 none, Cond.fieldLink RX6 20 "CheapParse$Steps" "places" "[I", Cond.fieldLink RX6 24 "CheapParse$Steps" "lengths" "[I", Cond.fieldLink RX6 27 "CheapParse$Steps" "distances" "[I", Cond.methodLink RX8 216 yX2_distanceAt, Cond.instanceMethod yX2_distanceAt, Cond.selects RX2 yX2_distanceAt yX2_distanceAt, Cond.code yX2_distanceAt cX2_distanceAt 4 (some .int), Cond.methodLink RX2 66 yX2_lengthAt, Cond.methodLink RX2 78 yX3_nearestOfClass, Cond.instanceMethod yX3_nearestOfClass, Cond.selects RX3 yX3_nearestOfClass yX3_nearestOfClass, Cond.code yX3_nearestOfClass cX3_nearestOfClass 6 (some .int), Cond.methodLink RX3 49 yX1_repeats, Cond.instanceMethod yX1_repeats, Cond.selects RX1 yX1_repeats yX1_repeats, Cond.code yX1_repeats cX1_repeats 5 (some .boolean)]
def wsX8_parse_r9 : List Cond := [Cond.methodLink RX8 169 yX3_nearestAt, Cond.instanceMethod yX3_nearestAt, Cond.selects RX3 yX3_nearestAt yX3_nearestAt, Cond.code yX3_nearestAt cX3_nearestAt 2 (some .int), Cond.methodLink RX8 219 yX7_ofMatch, Cond.instanceMethod yX7_ofMatch, Cond.selects RX7 yX7_ofMatch yX7_ofMatch, Cond.code yX7_ofMatch cX7_ofMatch 3 (some .int), Cond.methodLink RX7 31 yX7_ofLength, Cond.methodLink RX7 38 yX7_ofDistanceClass, Cond.methodLink RX8 222 yX6_addMatch, Cond.instanceMethod yX6_addMatch, Cond.selects RX6 yX6_addMatch yX6_addMatch, Cond.code yX6_addMatch cX6_addMatch 5 none, Cond.methodLink RX6 58 yX6_lengthBits, Cond.instanceMethod yX6_lengthBits, Cond.selects RX6 yX6_lengthBits yX6_lengthBits, Cond.code yX6_lengthBits cX6_lengthBits 2 (some .int), Cond.methodLink RX6 105 yX6_lengthTold, Cond.instanceMethod yX6_lengthTold, Cond.selects RX6 yX6_lengthTold yX6_lengthTold, Cond.code yX6_lengthTold cX6_lengthTold 2 (some .int), Cond.methodLink RX8 131 yX6_count, Cond.instanceMethod yX6_count]
def wsX8_parse_r10 : List Cond := [Cond.selects RX6 yX6_count yX6_count, Cond.code yX6_count cX6_count 1 (some .int)]
def wsX8_parse : List Cond := .code yX8_parse cX8_parse 4 (some .int) :: ((wsX8_parse_r1 ++ (wsX8_parse_r2 ++ (wsX8_parse_r3 ++ (wsX8_parse_r4 ++ (wsX8_parse_r5 ++ (wsX8_parse_r6 ++ (wsX8_parse_r7 ++ (wsX8_parse_r8 ++ (wsX8_parse_r9 ++ wsX8_parse_r10))))))))) ++ wsX80 ++ wsX30 ++ wsX10 ++ wsX50 ++ wsX20 ++ wsX70 ++ wsX60)
def wsX8_step_r1 : List Cond := [Cond.fieldLink RX8 62 "CheapParse" "latest" "LCheapParse$Steps;", Cond.methodLink RX8 134 yX6_has, Cond.instanceMethod yX6_has, Cond.selects RX6 yX6_has yX6_has, Cond.initialized RX6, Cond.code yX6_has cX6_has 2 (some .boolean), Cond.fieldLink RX6 34 "CheapParse$Steps" "count" "I", Cond.methodLink RX8 138 yX6_placeOf, Cond.instanceMethod yX6_placeOf, Cond.selects RX6 yX6_placeOf yX6_placeOf, Cond.code yX6_placeOf cX6_placeOf 2 (some .int), Cond.fieldLink RX6 20 "CheapParse$Steps" "places" "[I", Cond.methodLink RX6 69 yX6_has, Cond.methodLink RX8 142 yX6_lengthOf, Cond.instanceMethod yX6_lengthOf, Cond.selects RX6 yX6_lengthOf yX6_lengthOf, Cond.code yX6_lengthOf cX6_lengthOf 2 (some .int), Cond.fieldLink RX6 24 "CheapParse$Steps" "lengths" "[I", Cond.methodLink RX8 145 yX6_distanceOf, Cond.instanceMethod yX6_distanceOf, Cond.selects RX6 yX6_distanceOf yX6_distanceOf, Cond.code yX6_distanceOf cX6_distanceOf 2 (some .int), Cond.fieldLink RX6 27 "CheapParse$Steps" "distances" "[I", Cond.methodLink RX8 148 yX6_byteOf]
def wsX8_step_r2 : List Cond := [Cond.instanceMethod yX6_byteOf, Cond.selects RX6 yX6_byteOf yX6_byteOf, Cond.code yX6_byteOf cX6_byteOf 2 (some .int), Cond.fieldLink RX6 14 "CheapParse$Steps" "text" "LCheapParse$Bytes;", Cond.methodLink RX6 73 yX1_get, Cond.instanceMethod yX1_get, Cond.selects RX1 yX1_get yX1_get, Cond.initialized RX1, Cond.code yX1_get cX1_get 2 (some .int), Cond.fieldLink RX1 15 "CheapParse$Bytes" "size" "I", Cond.fieldLink RX1 9 "CheapParse$Bytes" "row" "[I"]
def wsX8_step : List Cond := .code yX8_step cX8_step 3 (some .int) :: ((wsX8_step_r1 ++ wsX8_step_r2) ++ wsX80 ++ wsX60 ++ wsX10)
def wsX8_told_r1 : List Cond := [Cond.fieldLink RX8 62 "CheapParse" "latest" "LCheapParse$Steps;", Cond.methodLink RX8 131 yX6_count, Cond.instanceMethod yX6_count, Cond.selects RX6 yX6_count yX6_count, Cond.initialized RX6, Cond.code yX6_count cX6_count 1 (some .int), Cond.fieldLink RX6 34 "CheapParse$Steps" "count" "I", Cond.methodLink RX8 151 yX6_matchCount, Cond.instanceMethod yX6_matchCount, Cond.selects RX6 yX6_matchCount yX6_matchCount, Cond.code yX6_matchCount cX6_matchCount 1 (some .int), Cond.fieldLink RX6 37 "CheapParse$Steps" "matchCount" "I", Cond.methodLink RX8 154 yX6_wholePrice, Cond.instanceMethod yX6_wholePrice, Cond.selects RX6 yX6_wholePrice yX6_wholePrice, Cond.code yX6_wholePrice cX6_wholePrice 1 (some .int), Cond.fieldLink RX6 40 "CheapParse$Steps" "wholePrice" "I", Cond.methodLink RX8 157 yX6_bits, Cond.instanceMethod yX6_bits, Cond.selects RX6 yX6_bits yX6_bits, Cond.code yX6_bits cX6_bits 1 (some .int), Cond.fieldLink RX6 43 "CheapParse$Steps" "bits" "I", Cond.methodLink RX8 160 yX6_textSize, Cond.instanceMethod yX6_textSize]
def wsX8_told_r2 : List Cond := [Cond.selects RX6 yX6_textSize yX6_textSize, Cond.code yX6_textSize cX6_textSize 1 (some .int), Cond.fieldLink RX6 14 "CheapParse$Steps" "text" "LCheapParse$Bytes;", Cond.methodLink RX6 65 yX1_size, Cond.instanceMethod yX1_size, Cond.selects RX1 yX1_size yX1_size, Cond.initialized RX1, Cond.code yX1_size cX1_size 1 (some .int), Cond.fieldLink RX1 15 "CheapParse$Bytes" "size" "I"]
def wsX8_told : List Cond := .code yX8_told cX8_told 2 (some .int) :: ((wsX8_told_r1 ++ wsX8_told_r2) ++ wsX80 ++ wsX60 ++ wsX10)
def wsX8_at_r1 : List Cond := [Cond.fieldLink RX8 14 "CheapParse" "text" "LCheapParse$Bytes;", Cond.fieldLink RX8 55 "CheapParse" "costs" "LCheapParse$Costs;", Cond.fieldLink RX8 46 "CheapParse" "matches" "LCheapParse$Matches;", Cond.methodLink RX8 103 yX1_size, Cond.instanceMethod yX1_size, Cond.selects RX1 yX1_size yX1_size, Cond.initialized RX1, Cond.code yX1_size cX1_size 1 (some .int), Cond.fieldLink RX1 15 "CheapParse$Bytes" "size" "I", Cond.methodLink RX8 115 yX8_renewCosts, Cond.instanceMethod yX8_renewCosts, Cond.selects RX8 yX8_renewCosts yX8_renewCosts, Cond.initialized RX8, Cond.code yX8_renewCosts cX8_renewCosts 1 none, Cond.fieldLink RX8 86 "CheapParse" "costsStale" "Z", Cond.methodLink RX8 118 yX8_renewMatches, Cond.instanceMethod yX8_renewMatches, Cond.selects RX8 yX8_renewMatches yX8_renewMatches, Cond.code yX8_renewMatches cX8_renewMatches 1 none, Cond.fieldLink RX8 82 "CheapParse" "matchesStale" "Z", Cond.methodLink RX8 199 yX3_build, Cond.instanceMethod yX3_build, Cond.selects RX3 yX3_build yX3_build, Cond.initialized RX3]
def wsX8_at_r2 : List Cond := [Cond.code yX3_build cX3_build 3 none, Cond.fieldLink RX3 32 "CheapParse$Matches" "same" "[I", Cond.fieldLink RX3 9 "CheapParse$Matches" "text" "LCheapParse$Bytes;", Cond.fieldLink RX3 19 "CheapParse$Matches" "longest" "[I", Cond.fieldLink RX3 23 "CheapParse$Matches" "nearest" "[I", Cond.fieldLink RX3 26 "CheapParse$Matches" "distances" "[I", Cond.methodLink RX3 35 yX1_size, Cond.methodLink RX3 41 yX3_noteClass, Cond.instanceMethod yX3_noteClass, Cond.selects RX3 yX3_noteClass yX3_noteClass, Cond.code yX3_noteClass cX3_noteClass 10 none, Cond.fieldLink RX3 15 "CheapParse$Matches" "rules" "LCheapParse$Rules;", Cond.methodLink RX3 73 Lib.Math.max.name, Cond.static Lib.Math.max.name, Cond.initialized "java/lang/Math", Cond.code Lib.Math.max.name Lib.Math.max.code 2 (some .int), Cond.fieldLink RX3 29 "CheapParse$Matches" "reach" "[I", Cond.methodLink RX3 66 yX5_least, Cond.instanceMethod yX5_least, Cond.selects RX5 yX5_least yX5_least, Cond.initialized RX5, Cond.code yX5_least cX5_least 1 (some .int), Cond.fieldLink RX5 9 "CheapParse$Rules" "least" "I", Cond.methodLink RX3 45 yX3_lastOfClass]
def wsX8_at_r3 : List Cond := [Cond.instanceMethod yX3_lastOfClass, Cond.selects RX3 yX3_lastOfClass yX3_lastOfClass, Cond.code yX3_lastOfClass cX3_lastOfClass 4 (some .int), Cond.methodLink RX3 58 Lib.Math.min.name, Cond.static Lib.Math.min.name, Cond.code Lib.Math.min.name Lib.Math.min.code 2 (some .int), Cond.methodLink RX3 53 yX5_window, Cond.instanceMethod yX5_window, Cond.selects RX5 yX5_window yX5_window, Cond.code yX5_window cX5_window 1 (some .int), Cond.fieldLink RX5 18 "CheapParse$Rules" "window" "I", Cond.methodLink RX3 69 yX3_noteMatch, Cond.instanceMethod yX3_noteMatch, Cond.selects RX3 yX3_noteMatch yX3_noteMatch, Cond.code yX3_noteMatch cX3_noteMatch 5 (some .int), Cond.methodLink RX3 76 yX5_most, Cond.instanceMethod yX5_most, Cond.selects RX5 yX5_most yX5_most, Cond.code yX5_most cX5_most 1 (some .int), Cond.fieldLink RX5 15 "CheapParse$Rules" "most" "I", Cond.methodLink RX8 202 yX2_build, Cond.instanceMethod yX2_build, Cond.selects RX2 yX2_build yX2_build, Cond.initialized RX2]
def wsX8_at_r4 : List Cond := [Cond.code yX2_build cX2_build 2 none, Cond.fieldLink RX2 15 "CheapParse$Costs" "rules" "LCheapParse$Rules;", Cond.fieldLink RX2 37 "CheapParse$Costs" "lengthPrice" "[I", Cond.fieldLink RX2 19 "CheapParse$Costs" "tariff" "LCheapParse$Tariff;", Cond.fieldLink RX2 27 "CheapParse$Costs" "least" "[I", Cond.fieldLink RX2 9 "CheapParse$Costs" "text" "LCheapParse$Bytes;", Cond.methodLink RX2 43 yX5_least, Cond.methodLink RX2 48 yX5_most, Cond.methodLink RX2 51 yX7_ofLength, Cond.instanceMethod yX7_ofLength, Cond.selects RX7 yX7_ofLength yX7_ofLength, Cond.initialized RX7, Cond.code yX7_ofLength cX7_ofLength 2 (some .int), Cond.fieldLink RX7 19 "CheapParse$Tariff" "allMatches" "[I", Cond.fieldLink RX7 22 "CheapParse$Tariff" "lengths" "[I", Cond.methodLink RX7 41 Lib.Math.min.name, Cond.static yX8_classOf, Cond.code yX8_classOf cX8_classOf 3 (some .int), Cond.methodLink RX2 57 yX1_size, Cond.methodLink RX2 62 yX2_chooseStep, Cond.instanceMethod yX2_chooseStep, Cond.selects RX2 yX2_chooseStep yX2_chooseStep, Cond.code yX2_chooseStep cX2_chooseStep 9 none, Cond.fieldLink RX2 23 "CheapParse$Costs" "matches" "LCheapParse$Matches;"]
def wsX8_at_r5 : List Cond := [Cond.constant RX2 89 (1000000000), Cond.fieldLink RX2 40 "CheapParse$Costs" "priceByReach" "[I", Cond.methodLink RX2 90 Lib.Math.min.name, Cond.fieldLink RX2 31 "CheapParse$Costs" "stepLength" "[I", Cond.fieldLink RX2 34 "CheapParse$Costs" "stepDistancePrice" "[I", Cond.methodLink RX2 82 yX3_longestAt, Cond.instanceMethod yX3_longestAt, Cond.selects RX3 yX3_longestAt yX3_longestAt, Cond.code yX3_longestAt cX3_longestAt 2 (some .int), Cond.methodLink RX2 85 yX2_sortByReach, Cond.instanceMethod yX2_sortByReach, Cond.selects RX2 yX2_sortByReach yX2_sortByReach, Cond.code yX2_sortByReach cX2_sortByReach 5 none, Cond.methodLink RX2 72 yX3_reachAt, Cond.instanceMethod yX3_reachAt, Cond.selects RX3 yX3_reachAt yX3_reachAt, Cond.code yX3_reachAt cX3_reachAt 3 (some .int), Cond.methodLink RX2 69 yX7_ofDistanceClass, Cond.instanceMethod yX7_ofDistanceClass, Cond.selects RX7 yX7_ofDistanceClass yX7_ofDistanceClass, Cond.code yX7_ofDistanceClass cX7_ofDistanceClass 2 (some .int), Cond.fieldLink RX7 25 "CheapParse$Tariff" "distances" "[I", Cond.methodLink RX2 95 yX1_get, Cond.instanceMethod yX1_get]
def wsX8_at_r6 : List Cond := [Cond.selects RX1 yX1_get yX1_get, Cond.code yX1_get cX1_get 2 (some .int), Cond.fieldLink RX1 9 "CheapParse$Bytes" "row" "[I", Cond.methodLink RX2 98 yX7_ofByte, Cond.instanceMethod yX7_ofByte, Cond.selects RX7 yX7_ofByte yX7_ofByte, Cond.code yX7_ofByte cX7_ofByte 2 (some .int), Cond.fieldLink RX7 15 "CheapParse$Tariff" "bytes" "[I", Cond.methodLink RX8 163 yX2_leastFrom, Cond.instanceMethod yX2_leastFrom, Cond.selects RX2 yX2_leastFrom yX2_leastFrom, Cond.code yX2_leastFrom cX2_leastFrom 2 (some .int), Cond.methodLink RX8 166 yX3_longestAt, Cond.methodLink RX8 169 yX3_nearestAt, Cond.instanceMethod yX3_nearestAt, Cond.selects RX3 yX3_nearestAt yX3_nearestAt, Cond.code yX3_nearestAt cX3_nearestAt 2 (some .int), Cond.methodLink RX8 172 yX3_distancesAt, Cond.instanceMethod yX3_distancesAt, Cond.selects RX3 yX3_distancesAt yX3_distancesAt, Cond.code yX3_distancesAt cX3_distancesAt 2 (some .int)]
def wsX8_at : List Cond := .code yX8_at cX8_at 3 (some .int) :: ((wsX8_at_r1 ++ (wsX8_at_r2 ++ (wsX8_at_r3 ++ (wsX8_at_r4 ++ (wsX8_at_r5 ++ wsX8_at_r6))))) ++ wsX80 ++ wsX10 ++ wsX30 ++ wsX50 ++ wsX20 ++ wsX70)
def wsX8_write_r1 : List Cond := [Cond.fieldLink RX8 62 "CheapParse" "latest" "LCheapParse$Steps;", Cond.fieldLink RX8 69 "CheapParse" "writer" "LCheapParse$BitWriter;", Cond.methodLink RX8 175 yX6_made, Cond.instanceMethod yX6_made, Cond.selects RX6 yX6_made yX6_made, Cond.initialized RX6, Cond.code yX6_made cX6_made 1 (some .boolean), Cond.fieldLink RX6 46 "CheapParse$Steps" "made" "Z", Cond.methodLink RX8 179 yX6_putInto, Cond.instanceMethod yX6_putInto, Cond.selects RX6 yX6_putInto yX6_putInto, Cond.code yX6_putInto cX6_putInto 3 none, Cond.fieldLink RX6 14 "CheapParse$Steps" "text" "LCheapParse$Bytes;", Cond.fieldLink RX6 34 "CheapParse$Steps" "count" "I", Cond.fieldLink RX6 27 "CheapParse$Steps" "distances" "[I", Cond.fieldLink RX6 24 "CheapParse$Steps" "lengths" "[I", Cond.methodLink RX6 76 yX0_begin, Cond.instanceMethod yX0_begin, Cond.selects RX0 yX0_begin yX0_begin, Cond.initialized RX0, Cond.code yX0_begin cX0_begin 1 none, Cond.fieldLink RX0 15 "CheapParse$BitWriter" "bits" "I", Cond.methodLink RX6 65 yX1_size, Cond.instanceMethod yX1_size]
def wsX8_write_r2 : List Cond := [Cond.selects RX1 yX1_size yX1_size, Cond.initialized RX1, Cond.code yX1_size cX1_size 1 (some .int), Cond.fieldLink RX1 15 "CheapParse$Bytes" "size" "I", Cond.methodLink RX6 81 yX0_put, Cond.instanceMethod yX0_put, Cond.selects RX0 yX0_put yX0_put, Cond.code yX0_put cX0_put 4 none, Cond.methodLink RX0 23 yX0_putBit, Cond.instanceMethod yX0_putBit, Cond.selects RX0 yX0_putBit yX0_putBit, Cond.code yX0_putBit cX0_putBit 3 none, Cond.fieldLink RX0 9 "CheapParse$BitWriter" "row" "[I", Cond.methodLink RX6 85 yX6_byteOf, Cond.instanceMethod yX6_byteOf, Cond.selects RX6 yX6_byteOf yX6_byteOf, Cond.code yX6_byteOf cX6_byteOf 2 (some .int), Cond.fieldLink RX6 20 "CheapParse$Steps" "places" "[I", Cond.methodLink RX6 69 yX6_has, Cond.instanceMethod yX6_has, Cond.selects RX6 yX6_has yX6_has, Cond.code yX6_has cX6_has 2 (some .boolean), Cond.methodLink RX6 73 yX1_get, Cond.instanceMethod yX1_get]
def wsX8_write_r3 : List Cond := [Cond.selects RX1 yX1_get yX1_get, Cond.code yX1_get cX1_get 2 (some .int), Cond.fieldLink RX1 9 "CheapParse$Bytes" "row" "[I", Cond.methodLink RX6 88 yX6_putMatch, Cond.instanceMethod yX6_putMatch, Cond.selects RX6 yX6_putMatch yX6_putMatch, Cond.code yX6_putMatch cX6_putMatch 5 none, Cond.methodLink RX6 105 yX6_lengthTold, Cond.instanceMethod yX6_lengthTold, Cond.selects RX6 yX6_lengthTold yX6_lengthTold, Cond.code yX6_lengthTold cX6_lengthTold 2 (some .int), Cond.fieldLink RX6 30 "CheapParse$Steps" "least" "I", Cond.methodLink RX6 58 yX6_lengthBits, Cond.instanceMethod yX6_lengthBits, Cond.selects RX6 yX6_lengthBits yX6_lengthBits, Cond.code yX6_lengthBits cX6_lengthBits 2 (some .int), Cond.static yX8_classOf, Cond.initialized RX8, Cond.code yX8_classOf cX8_classOf 3 (some .int), Cond.methodLink RX8 183 yX0_size, Cond.instanceMethod yX0_size, Cond.selects RX0 yX0_size yX0_size, Cond.code yX0_size cX0_size 1 (some .int)]
def wsX8_write : List Cond := .code yX8_write cX8_write 1 (some .int) :: ((wsX8_write_r1 ++ (wsX8_write_r2 ++ wsX8_write_r3)) ++ wsX80 ++ wsX60 ++ wsX00 ++ wsX10)
def wsX8_written : List Cond := .code yX8_written cX8_written 2 (some .int) :: ([.fieldLink RX8 69 "CheapParse" "writer" "LCheapParse$BitWriter;", .methodLink RX8 184 yX0_get, .instanceMethod yX0_get, .selects RX0 yX0_get yX0_get, .initialized RX0, .code yX0_get cX0_get 2 (some .int), .fieldLink RX0 9 "CheapParse$BitWriter" "row" "[I", .methodLink RX0 19 yX0_size, .instanceMethod yX0_size, .selects RX0 yX0_size yX0_size, .code yX0_size cX0_size 1 (some .int), .fieldLink RX0 15 "CheapParse$BitWriter" "bits" "I"] ++ wsX80 ++ wsX00)
def wsX8_load : List Cond := .code yX8_load cX8_load 4 (some .int) :: ([.fieldLink RX8 18 "CheapParse" "loaded" "LCheapParse$Bytes;", .methodLink RX8 92 yX1_addLowest, .instanceMethod yX1_addLowest, .selects RX1 yX1_addLowest yX1_addLowest, .initialized RX1, .code yX1_addLowest cX1_addLowest 5 (some .int), .fieldLink RX1 9 "CheapParse$Bytes" "row" "[I", .fieldLink RX1 15 "CheapParse$Bytes" "size" "I", .methodLink RX1 19 yX1_add, .instanceMethod yX1_add, .selects RX1 yX1_add yX1_add, .code yX1_add cX1_add 2 none] ++ wsX80 ++ wsX10)
def wsX8_read_r1 : List Cond := [Cond.fieldLink RX8 78 "CheapParse" "reader" "LCheapParse$Reader;", Cond.fieldLink RX8 18 "CheapParse" "loaded" "LCheapParse$Bytes;", Cond.fieldLink RX8 21 "CheapParse" "lastRead" "LCheapParse$Bytes;", Cond.fieldLink RX8 24 "CheapParse" "scratch" "LCheapParse$Bytes;", Cond.fieldLink RX8 89 "CheapParse" "anyRead" "Z", Cond.methodLink RX8 187 yX4_readText, Cond.instanceMethod yX4_readText, Cond.selects RX4 yX4_readText yX4_readText, Cond.initialized RX4, Cond.code yX4_readText cX4_readText 4 (some .int), Cond.fieldLink RX4 22 "CheapParse$Reader" "bits" "I", Cond.fieldLink RX4 19 "CheapParse$Reader" "made" "LCheapParse$Bytes;", Cond.methodLink RX4 26 yX1_empty, Cond.instanceMethod yX1_empty, Cond.selects RX1 yX1_empty yX1_empty, Cond.initialized RX1, Cond.code yX1_empty cX1_empty 1 none, Cond.fieldLink RX1 15 "CheapParse$Bytes" "size" "I", Cond.methodLink RX4 31 yX4_number, Cond.instanceMethod yX4_number, Cond.selects RX4 yX4_number yX4_number, Cond.code yX4_number cX4_number 5 (some .int), Cond.fieldLink RX4 9 "CheapParse$Reader" "source" "LCheapParse$Bytes;", Cond.methodLink RX4 76 yX1_get]
def wsX8_read_r2 : List Cond := [Cond.instanceMethod yX1_get, Cond.selects RX1 yX1_get yX1_get, Cond.code yX1_get cX1_get 2 (some .int), Cond.fieldLink RX1 9 "CheapParse$Bytes" "row" "[I", Cond.methodLink RX4 35 yX1_size, Cond.instanceMethod yX1_size, Cond.selects RX1 yX1_size yX1_size, Cond.code yX1_size cX1_size 1 (some .int), Cond.methodLink RX4 39 yX4_readStep, Cond.instanceMethod yX4_readStep, Cond.selects RX4 yX4_readStep yX4_readStep, Cond.code yX4_readStep cX4_readStep 3 (some .int), Cond.methodLink RX4 45 yX4_readByte, Cond.instanceMethod yX4_readByte, Cond.selects RX4 yX4_readByte yX4_readByte, Cond.code yX4_readByte cX4_readByte 2 (some .int), Cond.methodLink RX4 51 yX1_add, Cond.instanceMethod yX1_add, Cond.selects RX1 yX1_add yX1_add, Cond.code yX1_add cX1_add 2 none, Cond.methodLink RX4 48 yX4_readMatch, Cond.instanceMethod yX4_readMatch, Cond.selects RX4 yX4_readMatch yX4_readMatch, Cond.code yX4_readMatch cX4_readMatch 6 (some .int)]
def wsX8_read_r3 : List Cond := [Cond.fieldLink RX4 15 "CheapParse$Reader" "rules" "LCheapParse$Rules;", Cond.methodLink RX4 55 yX4_countZeros, Cond.instanceMethod yX4_countZeros, Cond.selects RX4 yX4_countZeros yX4_countZeros, Cond.code yX4_countZeros cX4_countZeros 3 (some .int), Cond.methodLink RX4 58 yX4_numberOfClass, Cond.instanceMethod yX4_numberOfClass, Cond.selects RX4 yX4_numberOfClass yX4_numberOfClass, Cond.code yX4_numberOfClass cX4_numberOfClass 3 (some .int), Cond.methodLink RX4 61 yX5_least, Cond.instanceMethod yX5_least, Cond.selects RX5 yX5_least yX5_least, Cond.initialized RX5, Cond.code yX5_least cX5_least 1 (some .int), Cond.fieldLink RX5 9 "CheapParse$Rules" "least" "I", Cond.methodLink RX4 66 yX5_most, Cond.instanceMethod yX5_most, Cond.selects RX5 yX5_most yX5_most, Cond.code yX5_most cX5_most 1 (some .int), Cond.fieldLink RX5 15 "CheapParse$Rules" "most" "I", Cond.methodLink RX4 69 yX5_window, Cond.instanceMethod yX5_window, Cond.selects RX5 yX5_window yX5_window, Cond.code yX5_window cX5_window 1 (some .int)]
def wsX8_read_r4 : List Cond := [Cond.fieldLink RX5 18 "CheapParse$Rules" "window" "I", Cond.methodLink RX4 72 yX1_addAgain, Cond.instanceMethod yX1_addAgain, Cond.selects RX1 yX1_addAgain yX1_addAgain, Cond.code yX1_addAgain cX1_addAgain 4 none, Cond.methodLink RX1 23 yX1_get, Cond.methodLink RX1 19 yX1_add, Cond.methodLink RX4 42 yX4_faultBehind, Cond.instanceMethod yX4_faultBehind, Cond.selects RX4 yX4_faultBehind yX4_faultBehind, Cond.code yX4_faultBehind cX4_faultBehind 2 (some .int), Cond.methodLink RX8 107 yX1_empty, Cond.methodLink RX8 190 yX1_copyOf, Cond.instanceMethod yX1_copyOf, Cond.selects RX1 yX1_copyOf yX1_copyOf, Cond.code yX1_copyOf cX1_copyOf 2 none, Cond.methodLink RX1 27 Lib.Math.min.name, Cond.static Lib.Math.min.name, Cond.initialized "java/lang/Math", Cond.code Lib.Math.min.name Lib.Math.min.code 2 (some .int), Cond.methodLink RX1 33 arraycopyName, Cond.native arraycopyName, Cond.static arraycopyName, Cond.initialized "java/lang/System"]
def wsX8_read : List Cond := .code yX8_read cX8_read 2 (some .int) :: ((wsX8_read_r1 ++ (wsX8_read_r2 ++ (wsX8_read_r3 ++ wsX8_read_r4))) ++ wsX80 ++ wsX40 ++ wsX10 ++ wsX50)
def wsX8_taken : List Cond := .code yX8_taken cX8_taken 2 (some .int) :: ([.fieldLink RX8 89 "CheapParse" "anyRead" "Z", .fieldLink RX8 21 "CheapParse" "lastRead" "LCheapParse$Bytes;", .methodLink RX8 103 yX1_size, .instanceMethod yX1_size, .selects RX1 yX1_size yX1_size, .initialized RX1, .code yX1_size cX1_size 1 (some .int), .fieldLink RX1 15 "CheapParse$Bytes" "size" "I", .methodLink RX8 194 yX1_get, .instanceMethod yX1_get, .selects RX1 yX1_get yX1_get, .code yX1_get cX1_get 2 (some .int), .fieldLink RX1 9 "CheapParse$Bytes" "row" "[I"] ++ wsX80 ++ wsX10)
def wsX8_check_r1 : List Cond := [Cond.fieldLink RX8 62 "CheapParse" "latest" "LCheapParse$Steps;", Cond.fieldLink RX8 24 "CheapParse" "scratch" "LCheapParse$Bytes;", Cond.methodLink RX8 195 yX6_makeTheirText, Cond.instanceMethod yX6_makeTheirText, Cond.selects RX6 yX6_makeTheirText yX6_makeTheirText, Cond.initialized RX6, Cond.code yX6_makeTheirText cX6_makeTheirText 3 (some .boolean), Cond.fieldLink RX6 34 "CheapParse$Steps" "count" "I", Cond.fieldLink RX6 20 "CheapParse$Steps" "places" "[I", Cond.fieldLink RX6 27 "CheapParse$Steps" "distances" "[I", Cond.fieldLink RX6 24 "CheapParse$Steps" "lengths" "[I", Cond.fieldLink RX6 14 "CheapParse$Steps" "text" "LCheapParse$Bytes;", Cond.methodLink RX6 92 yX1_empty, Cond.instanceMethod yX1_empty, Cond.selects RX1 yX1_empty yX1_empty, Cond.initialized RX1, Cond.code yX1_empty cX1_empty 1 none, Cond.fieldLink RX1 15 "CheapParse$Bytes" "size" "I", Cond.methodLink RX6 65 yX1_size, Cond.instanceMethod yX1_size, Cond.selects RX1 yX1_size yX1_size, Cond.code yX1_size cX1_size 1 (some .int), Cond.methodLink RX6 85 yX6_byteOf, Cond.instanceMethod yX6_byteOf]
def wsX8_check_r2 : List Cond := [Cond.selects RX6 yX6_byteOf yX6_byteOf, Cond.code yX6_byteOf cX6_byteOf 2 (some .int), Cond.methodLink RX6 69 yX6_has, Cond.instanceMethod yX6_has, Cond.selects RX6 yX6_has yX6_has, Cond.code yX6_has cX6_has 2 (some .boolean), Cond.methodLink RX6 73 yX1_get, Cond.instanceMethod yX1_get, Cond.selects RX1 yX1_get yX1_get, Cond.code yX1_get cX1_get 2 (some .int), Cond.fieldLink RX1 9 "CheapParse$Bytes" "row" "[I", Cond.methodLink RX6 95 yX1_add, Cond.instanceMethod yX1_add, Cond.selects RX1 yX1_add yX1_add, Cond.code yX1_add cX1_add 2 none, Cond.methodLink RX6 98 yX1_addAgain, Cond.instanceMethod yX1_addAgain, Cond.selects RX1 yX1_addAgain yX1_addAgain, Cond.code yX1_addAgain cX1_addAgain 4 none, Cond.methodLink RX1 23 yX1_get, Cond.methodLink RX1 19 yX1_add, Cond.methodLink RX6 101 yX1_sameAs, Cond.instanceMethod yX1_sameAs, Cond.selects RX1 yX1_sameAs yX1_sameAs]
def wsX8_check_r3 : List Cond := [Cond.code yX1_sameAs cX1_sameAs 3 (some .boolean)]
def wsX8_check : List Cond := .code yX8_check cX8_check 1 (some .int) :: ((wsX8_check_r1 ++ (wsX8_check_r2 ++ wsX8_check_r3)) ++ wsX80 ++ wsX60 ++ wsX10)
def wsX9_init : List Cond := .code yX9_init cX9_init 2 none :: ([.methodLink RX9 1 objectInit, .instanceMethod objectInit, .code objectInit ⟨#[0xb1]⟩ 1 none, .arrayClass .int, .fieldLink RX9 7 "CheapParseModel" "text" "[I", .fieldLink RX9 13 "CheapParseModel" "least" "I", .fieldLink RX9 17 "CheapParseModel" "most" "I", .fieldLink RX9 20 "CheapParseModel" "window" "I", .fieldLink RX9 23 "CheapParseModel" "prices" "[I", .constant RX9 26 (251502), .arrayClass .short, .fieldLink RX9 27 "CheapParseModel" "common" "[S", .fieldLink RX9 31 "CheapParseModel" "cheapest" "[I", .fieldLink RX9 34 "CheapParseModel" "places" "[I", .fieldLink RX9 37 "CheapParseModel" "lengths" "[I", .fieldLink RX9 40 "CheapParseModel" "distances" "[I", .fieldLink RX9 43 "CheapParseModel" "parsed" "[I", .arrayClass .boolean, .fieldLink RX9 46 "CheapParseModel" "out" "[Z", .fieldLink RX9 50 "CheapParseModel" "in" "[I", .fieldLink RX9 53 "CheapParseModel" "draft" "[I", .fieldLink RX9 56 "CheapParseModel" "taken" "[I", .fieldLink RX9 59 "CheapParseModel" "takenSize" "I", .fieldLink RX9 62 "CheapParseModel" "far" "[I"] ++ wsX90)
def wsX9_classOf : List Cond := .code yX9_classOf cX9_classOf 3 (some .int) :: ([])
def wsX9_type : List Cond := .code yX9_type cX9_type 5 (some .int) :: ([.fieldLink RX9 65 "CheapParseModel" "thrown" "I", .fieldLink RX9 68 "CheapParseModel" "length" "I", .fieldLink RX9 7 "CheapParseModel" "text" "[I", .constantLong RX9 71 (255), .fieldLink RX9 73 "CheapParseModel" "known" "Z"] ++ wsX90)
def wsX9_fill : List Cond := .code yX9_fill cX9_fill 4 (some .int) :: ([.fieldLink RX9 65 "CheapParseModel" "thrown" "I", .fieldLink RX9 68 "CheapParseModel" "length" "I", .fieldLink RX9 7 "CheapParseModel" "text" "[I", .fieldLink RX9 73 "CheapParseModel" "known" "Z"] ++ wsX90)
def wsX9_clear : List Cond := .code yX9_clear cX9_clear 2 (some .int) :: ([.fieldLink RX9 65 "CheapParseModel" "thrown" "I", .fieldLink RX9 68 "CheapParseModel" "length" "I", .fieldLink RX9 73 "CheapParseModel" "known" "Z"] ++ wsX90)
def wsX9_limits : List Cond := .code yX9_limits cX9_limits 4 (some .int) :: ([.fieldLink RX9 65 "CheapParseModel" "thrown" "I", .fieldLink RX9 13 "CheapParseModel" "least" "I", .fieldLink RX9 17 "CheapParseModel" "most" "I", .fieldLink RX9 20 "CheapParseModel" "window" "I", .fieldLink RX9 73 "CheapParseModel" "known" "Z"] ++ wsX90)
def wsX9_price : List Cond := .code yX9_price cX9_price 5 (some .int) :: ([.fieldLink RX9 65 "CheapParseModel" "thrown" "I", .fieldLink RX9 23 "CheapParseModel" "prices" "[I", .fieldLink RX9 73 "CheapParseModel" "known" "Z"] ++ wsX90)
def wsX9_priceOf : List Cond := .code yX9_priceOf cX9_priceOf 4 (some .int) :: ([.fieldLink RX9 23 "CheapParseModel" "prices" "[I", .fieldLink RX9 7 "CheapParseModel" "text" "[I", .methodLink RX9 77 yX9_classOf, .static yX9_classOf, .initialized RX9, .code yX9_classOf cX9_classOf 3 (some .int)] ++ wsX90)
def wsX9_longest : List Cond := .code yX9_longest cX9_longest 4 (some .int) :: ([.fieldLink RX9 20 "CheapParseModel" "window" "I", .fieldLink RX9 27 "CheapParseModel" "common" "[S", .fieldLink RX9 17 "CheapParseModel" "most" "I", .fieldLink RX9 13 "CheapParseModel" "least" "I"] ++ wsX90)
def wsX9_findFar : List Cond := .code yX9_findFar cX9_findFar 4 none :: ([.fieldLink RX9 62 "CheapParseModel" "far" "[I", .methodLink RX9 89 yX9_longest, .instanceMethod yX9_longest, .selects RX9 yX9_longest yX9_longest, .initialized RX9, .code yX9_longest cX9_longest 4 (some .int), .fieldLink RX9 20 "CheapParseModel" "window" "I", .fieldLink RX9 27 "CheapParseModel" "common" "[S", .fieldLink RX9 17 "CheapParseModel" "most" "I", .fieldLink RX9 13 "CheapParseModel" "least" "I"] ++ wsX90)
def wsX9_know_r1 : List Cond := [Cond.fieldLink RX9 73 "CheapParseModel" "known" "Z", Cond.fieldLink RX9 68 "CheapParseModel" "length" "I", Cond.fieldLink RX9 27 "CheapParseModel" "common" "[S", Cond.fieldLink RX9 7 "CheapParseModel" "text" "[I", Cond.fieldLink RX9 31 "CheapParseModel" "cheapest" "[I", Cond.fieldLink RX9 13 "CheapParseModel" "least" "I", Cond.fieldLink RX9 62 "CheapParseModel" "far" "[I", Cond.methodLink RX9 81 yX9_priceOf, Cond.instanceMethod yX9_priceOf, Cond.selects RX9 yX9_priceOf yX9_priceOf, Cond.initialized RX9, Cond.code yX9_priceOf cX9_priceOf 4 (some .int), Cond.fieldLink RX9 23 "CheapParseModel" "prices" "[I", Cond.methodLink RX9 77 yX9_classOf, Cond.static yX9_classOf, Cond.code yX9_classOf cX9_classOf 3 (some .int), Cond.methodLink RX9 85 yX9_findFar, Cond.instanceMethod yX9_findFar, Cond.selects RX9 yX9_findFar yX9_findFar, Cond.code yX9_findFar cX9_findFar 4 none, Cond.methodLink RX9 89 yX9_longest, Cond.instanceMethod yX9_longest, Cond.selects RX9 yX9_longest yX9_longest, Cond.code yX9_longest cX9_longest 4 (some .int)]
def wsX9_know_r2 : List Cond := [Cond.fieldLink RX9 20 "CheapParseModel" "window" "I", Cond.fieldLink RX9 17 "CheapParseModel" "most" "I"]
def wsX9_know : List Cond := .code yX9_know cX9_know 6 none :: ((wsX9_know_r1 ++ wsX9_know_r2) ++ wsX90)
def wsX9_goOn : List Cond := .code yX9_goOn cX9_goOn 4 none :: ([.fieldLink RX9 34 "CheapParseModel" "places" "[I", .fieldLink RX9 93 "CheapParseModel" "steps" "I", .fieldLink RX9 37 "CheapParseModel" "lengths" "[I", .fieldLink RX9 40 "CheapParseModel" "distances" "[I", .fieldLink RX9 96 "CheapParseModel" "price" "I", .fieldLink RX9 99 "CheapParseModel" "bits" "I", .fieldLink RX9 13 "CheapParseModel" "least" "I", .methodLink RX9 81 yX9_priceOf, .instanceMethod yX9_priceOf, .selects RX9 yX9_priceOf yX9_priceOf, .initialized RX9, .code yX9_priceOf cX9_priceOf 4 (some .int), .fieldLink RX9 23 "CheapParseModel" "prices" "[I", .fieldLink RX9 7 "CheapParseModel" "text" "[I", .methodLink RX9 77 yX9_classOf, .static yX9_classOf, .code yX9_classOf cX9_classOf 3 (some .int)] ++ wsX90)
def wsX9_stepCheaply_r1 : List Cond := [Cond.fieldLink RX9 13 "CheapParseModel" "least" "I", Cond.fieldLink RX9 17 "CheapParseModel" "most" "I", Cond.fieldLink RX9 68 "CheapParseModel" "length" "I", Cond.fieldLink RX9 62 "CheapParseModel" "far" "[I", Cond.fieldLink RX9 31 "CheapParseModel" "cheapest" "[I", Cond.methodLink RX9 85 yX9_findFar, Cond.instanceMethod yX9_findFar, Cond.selects RX9 yX9_findFar yX9_findFar, Cond.initialized RX9, Cond.code yX9_findFar cX9_findFar 4 none, Cond.methodLink RX9 89 yX9_longest, Cond.instanceMethod yX9_longest, Cond.selects RX9 yX9_longest yX9_longest, Cond.code yX9_longest cX9_longest 4 (some .int), Cond.fieldLink RX9 20 "CheapParseModel" "window" "I", Cond.fieldLink RX9 27 "CheapParseModel" "common" "[S", Cond.methodLink RX9 81 yX9_priceOf, Cond.instanceMethod yX9_priceOf, Cond.selects RX9 yX9_priceOf yX9_priceOf, Cond.code yX9_priceOf cX9_priceOf 4 (some .int), Cond.fieldLink RX9 23 "CheapParseModel" "prices" "[I", Cond.fieldLink RX9 7 "CheapParseModel" "text" "[I", Cond.methodLink RX9 77 yX9_classOf, Cond.static yX9_classOf]
def wsX9_stepCheaply_r2 : List Cond := [Cond.code yX9_classOf cX9_classOf 3 (some .int), Cond.methodLink RX9 102 yX9_goOn, Cond.instanceMethod yX9_goOn, Cond.selects RX9 yX9_goOn yX9_goOn, Cond.code yX9_goOn cX9_goOn 4 none, Cond.fieldLink RX9 34 "CheapParseModel" "places" "[I", Cond.fieldLink RX9 93 "CheapParseModel" "steps" "I", Cond.fieldLink RX9 37 "CheapParseModel" "lengths" "[I", Cond.fieldLink RX9 40 "CheapParseModel" "distances" "[I", Cond.fieldLink RX9 96 "CheapParseModel" "price" "I", Cond.fieldLink RX9 99 "CheapParseModel" "bits" "I"]
def wsX9_stepCheaply : List Cond := .code yX9_stepCheaply cX9_stepCheaply 6 none :: ((wsX9_stepCheaply_r1 ++ wsX9_stepCheaply_r2) ++ wsX90)
def wsX9_longestAt : List Cond := .code yX9_longestAt cX9_longestAt 4 (some .int) :: ([.fieldLink RX9 68 "CheapParseModel" "length" "I", .methodLink RX9 89 yX9_longest, .instanceMethod yX9_longest, .selects RX9 yX9_longest yX9_longest, .initialized RX9, .code yX9_longest cX9_longest 4 (some .int), .fieldLink RX9 20 "CheapParseModel" "window" "I", .fieldLink RX9 27 "CheapParseModel" "common" "[S", .fieldLink RX9 17 "CheapParseModel" "most" "I", .fieldLink RX9 13 "CheapParseModel" "least" "I"] ++ wsX90)
def wsX9_nearestOf : List Cond := .code yX9_nearestOf cX9_nearestOf 4 (some .int) :: ([.methodLink RX9 89 yX9_longest, .instanceMethod yX9_longest, .selects RX9 yX9_longest yX9_longest, .initialized RX9, .code yX9_longest cX9_longest 4 (some .int), .fieldLink RX9 20 "CheapParseModel" "window" "I", .fieldLink RX9 27 "CheapParseModel" "common" "[S", .fieldLink RX9 17 "CheapParseModel" "most" "I", .fieldLink RX9 13 "CheapParseModel" "least" "I"] ++ wsX90)
def wsX9_stepGreedily_r1 : List Cond := [Cond.methodLink RX9 106 yX9_longestAt, Cond.instanceMethod yX9_longestAt, Cond.selects RX9 yX9_longestAt yX9_longestAt, Cond.initialized RX9, Cond.code yX9_longestAt cX9_longestAt 4 (some .int), Cond.fieldLink RX9 68 "CheapParseModel" "length" "I", Cond.methodLink RX9 89 yX9_longest, Cond.instanceMethod yX9_longest, Cond.selects RX9 yX9_longest yX9_longest, Cond.code yX9_longest cX9_longest 4 (some .int), Cond.fieldLink RX9 20 "CheapParseModel" "window" "I", Cond.fieldLink RX9 27 "CheapParseModel" "common" "[S", Cond.fieldLink RX9 17 "CheapParseModel" "most" "I", Cond.fieldLink RX9 13 "CheapParseModel" "least" "I", Cond.methodLink RX9 109 yX9_nearestOf, Cond.instanceMethod yX9_nearestOf, Cond.selects RX9 yX9_nearestOf yX9_nearestOf, Cond.code yX9_nearestOf cX9_nearestOf 4 (some .int), Cond.methodLink RX9 102 yX9_goOn, Cond.instanceMethod yX9_goOn, Cond.selects RX9 yX9_goOn yX9_goOn, Cond.code yX9_goOn cX9_goOn 4 none, Cond.fieldLink RX9 34 "CheapParseModel" "places" "[I", Cond.fieldLink RX9 93 "CheapParseModel" "steps" "I"]
def wsX9_stepGreedily_r2 : List Cond := [Cond.fieldLink RX9 37 "CheapParseModel" "lengths" "[I", Cond.fieldLink RX9 40 "CheapParseModel" "distances" "[I", Cond.fieldLink RX9 96 "CheapParseModel" "price" "I", Cond.fieldLink RX9 99 "CheapParseModel" "bits" "I", Cond.methodLink RX9 81 yX9_priceOf, Cond.instanceMethod yX9_priceOf, Cond.selects RX9 yX9_priceOf yX9_priceOf, Cond.code yX9_priceOf cX9_priceOf 4 (some .int), Cond.fieldLink RX9 23 "CheapParseModel" "prices" "[I", Cond.fieldLink RX9 7 "CheapParseModel" "text" "[I", Cond.methodLink RX9 77 yX9_classOf, Cond.static yX9_classOf, Cond.code yX9_classOf cX9_classOf 3 (some .int)]
def wsX9_stepGreedily : List Cond := .code yX9_stepGreedily cX9_stepGreedily 5 none :: ((wsX9_stepGreedily_r1 ++ wsX9_stepGreedily_r2) ++ wsX90)
def wsX9_parse_r1 : List Cond := [Cond.fieldLink RX9 65 "CheapParseModel" "thrown" "I", Cond.fieldLink RX9 93 "CheapParseModel" "steps" "I", Cond.fieldLink RX9 96 "CheapParseModel" "price" "I", Cond.fieldLink RX9 99 "CheapParseModel" "bits" "I", Cond.fieldLink RX9 68 "CheapParseModel" "length" "I", Cond.fieldLink RX9 37 "CheapParseModel" "lengths" "[I", Cond.fieldLink RX9 43 "CheapParseModel" "parsed" "[I", Cond.fieldLink RX9 7 "CheapParseModel" "text" "[I", Cond.fieldLink RX9 122 "CheapParseModel" "parsedSize" "I", Cond.fieldLink RX9 13 "CheapParseModel" "least" "I", Cond.fieldLink RX9 125 "CheapParseModel" "parsedLeast" "I", Cond.fieldLink RX9 128 "CheapParseModel" "there" "Z", Cond.methodLink RX9 112 yX9_know, Cond.instanceMethod yX9_know, Cond.selects RX9 yX9_know yX9_know, Cond.initialized RX9, Cond.code yX9_know cX9_know 6 none, Cond.fieldLink RX9 73 "CheapParseModel" "known" "Z", Cond.fieldLink RX9 27 "CheapParseModel" "common" "[S", Cond.fieldLink RX9 31 "CheapParseModel" "cheapest" "[I", Cond.fieldLink RX9 62 "CheapParseModel" "far" "[I", Cond.methodLink RX9 81 yX9_priceOf, Cond.instanceMethod yX9_priceOf, Cond.selects RX9 yX9_priceOf yX9_priceOf]
def wsX9_parse_r2 : List Cond := [Cond.code yX9_priceOf cX9_priceOf 4 (some .int), Cond.fieldLink RX9 23 "CheapParseModel" "prices" "[I", Cond.methodLink RX9 77 yX9_classOf, Cond.static yX9_classOf, Cond.code yX9_classOf cX9_classOf 3 (some .int), Cond.methodLink RX9 85 yX9_findFar, Cond.instanceMethod yX9_findFar, Cond.selects RX9 yX9_findFar yX9_findFar, Cond.code yX9_findFar cX9_findFar 4 none, Cond.methodLink RX9 89 yX9_longest, Cond.instanceMethod yX9_longest, Cond.selects RX9 yX9_longest yX9_longest, Cond.code yX9_longest cX9_longest 4 (some .int), Cond.fieldLink RX9 20 "CheapParseModel" "window" "I", Cond.fieldLink RX9 17 "CheapParseModel" "most" "I", Cond.methodLink RX9 115 yX9_stepCheaply, Cond.instanceMethod yX9_stepCheaply, Cond.selects RX9 yX9_stepCheaply yX9_stepCheaply, Cond.code yX9_stepCheaply cX9_stepCheaply 6 none, Cond.methodLink RX9 102 yX9_goOn, Cond.instanceMethod yX9_goOn, Cond.selects RX9 yX9_goOn yX9_goOn, Cond.code yX9_goOn cX9_goOn 4 none, Cond.fieldLink RX9 34 "CheapParseModel" "places" "[I"]
def wsX9_parse_r3 : List Cond := [Cond.fieldLink RX9 40 "CheapParseModel" "distances" "[I", Cond.methodLink RX9 118 yX9_stepGreedily, Cond.instanceMethod yX9_stepGreedily, Cond.selects RX9 yX9_stepGreedily yX9_stepGreedily, Cond.code yX9_stepGreedily cX9_stepGreedily 5 none, Cond.methodLink RX9 106 yX9_longestAt, Cond.instanceMethod yX9_longestAt, Cond.selects RX9 yX9_longestAt yX9_longestAt, Cond.code yX9_longestAt cX9_longestAt 4 (some .int), Cond.methodLink RX9 109 yX9_nearestOf, Cond.instanceMethod yX9_nearestOf, Cond.selects RX9 yX9_nearestOf yX9_nearestOf, Cond.code yX9_nearestOf cX9_nearestOf 4 (some .int)]
def wsX9_parse : List Cond := .code yX9_parse cX9_parse 4 (some .int) :: ((wsX9_parse_r1 ++ (wsX9_parse_r2 ++ wsX9_parse_r3)) ++ wsX90)
def wsX9_step : List Cond := .code yX9_step cX9_step 3 (some .int) :: ([.fieldLink RX9 65 "CheapParseModel" "thrown" "I", .fieldLink RX9 93 "CheapParseModel" "steps" "I", .fieldLink RX9 34 "CheapParseModel" "places" "[I", .fieldLink RX9 37 "CheapParseModel" "lengths" "[I", .fieldLink RX9 40 "CheapParseModel" "distances" "[I", .fieldLink RX9 43 "CheapParseModel" "parsed" "[I"] ++ wsX90)
def wsX9_told : List Cond := .code yX9_told cX9_told 4 (some .int) :: ([.fieldLink RX9 65 "CheapParseModel" "thrown" "I", .fieldLink RX9 93 "CheapParseModel" "steps" "I", .fieldLink RX9 40 "CheapParseModel" "distances" "[I", .fieldLink RX9 96 "CheapParseModel" "price" "I", .fieldLink RX9 99 "CheapParseModel" "bits" "I", .fieldLink RX9 122 "CheapParseModel" "parsedSize" "I"] ++ wsX90)
def wsX9_at_r1 : List Cond := [Cond.fieldLink RX9 65 "CheapParseModel" "thrown" "I", Cond.fieldLink RX9 68 "CheapParseModel" "length" "I", Cond.fieldLink RX9 31 "CheapParseModel" "cheapest" "[I", Cond.methodLink RX9 112 yX9_know, Cond.instanceMethod yX9_know, Cond.selects RX9 yX9_know yX9_know, Cond.initialized RX9, Cond.code yX9_know cX9_know 6 none, Cond.fieldLink RX9 73 "CheapParseModel" "known" "Z", Cond.fieldLink RX9 27 "CheapParseModel" "common" "[S", Cond.fieldLink RX9 7 "CheapParseModel" "text" "[I", Cond.fieldLink RX9 13 "CheapParseModel" "least" "I", Cond.fieldLink RX9 62 "CheapParseModel" "far" "[I", Cond.methodLink RX9 81 yX9_priceOf, Cond.instanceMethod yX9_priceOf, Cond.selects RX9 yX9_priceOf yX9_priceOf, Cond.code yX9_priceOf cX9_priceOf 4 (some .int), Cond.fieldLink RX9 23 "CheapParseModel" "prices" "[I", Cond.methodLink RX9 77 yX9_classOf, Cond.static yX9_classOf, Cond.code yX9_classOf cX9_classOf 3 (some .int), Cond.methodLink RX9 85 yX9_findFar, Cond.instanceMethod yX9_findFar, Cond.selects RX9 yX9_findFar yX9_findFar]
def wsX9_at_r2 : List Cond := [Cond.code yX9_findFar cX9_findFar 4 none, Cond.methodLink RX9 89 yX9_longest, Cond.instanceMethod yX9_longest, Cond.selects RX9 yX9_longest yX9_longest, Cond.code yX9_longest cX9_longest 4 (some .int), Cond.fieldLink RX9 20 "CheapParseModel" "window" "I", Cond.fieldLink RX9 17 "CheapParseModel" "most" "I", Cond.methodLink RX9 106 yX9_longestAt, Cond.instanceMethod yX9_longestAt, Cond.selects RX9 yX9_longestAt yX9_longestAt, Cond.code yX9_longestAt cX9_longestAt 4 (some .int), Cond.methodLink RX9 109 yX9_nearestOf, Cond.instanceMethod yX9_nearestOf, Cond.selects RX9 yX9_nearestOf yX9_nearestOf, Cond.code yX9_nearestOf cX9_nearestOf 4 (some .int)]
def wsX9_at : List Cond := .code yX9_at cX9_at 7 (some .int) :: ((wsX9_at_r1 ++ wsX9_at_r2) ++ wsX90)
def wsX9_put : List Cond := .code yX9_put cX9_put 4 none :: ([.fieldLink RX9 46 "CheapParseModel" "out" "[Z", .fieldLink RX9 131 "CheapParseModel" "outSize" "I"] ++ wsX90)
def wsX9_write : List Cond := .code yX9_write cX9_write 4 (some .int) :: ([.fieldLink RX9 65 "CheapParseModel" "thrown" "I", .fieldLink RX9 131 "CheapParseModel" "outSize" "I", .fieldLink RX9 128 "CheapParseModel" "there" "Z", .fieldLink RX9 122 "CheapParseModel" "parsedSize" "I", .fieldLink RX9 93 "CheapParseModel" "steps" "I", .fieldLink RX9 40 "CheapParseModel" "distances" "[I", .fieldLink RX9 43 "CheapParseModel" "parsed" "[I", .fieldLink RX9 34 "CheapParseModel" "places" "[I", .fieldLink RX9 37 "CheapParseModel" "lengths" "[I", .fieldLink RX9 125 "CheapParseModel" "parsedLeast" "I", .fieldLink RX9 138 "CheapParseModel" "writtenSize" "I", .methodLink RX9 134 yX9_put, .instanceMethod yX9_put, .selects RX9 yX9_put yX9_put, .initialized RX9, .code yX9_put cX9_put 4 none, .fieldLink RX9 46 "CheapParseModel" "out" "[Z", .methodLink RX9 77 yX9_classOf, .static yX9_classOf, .code yX9_classOf cX9_classOf 3 (some .int)] ++ wsX90)
def wsX9_written : List Cond := .code yX9_written cX9_written 4 (some .int) :: ([.fieldLink RX9 65 "CheapParseModel" "thrown" "I", .fieldLink RX9 138 "CheapParseModel" "writtenSize" "I", .fieldLink RX9 46 "CheapParseModel" "out" "[Z"] ++ wsX90)
def wsX9_load : List Cond := .code yX9_load cX9_load 5 (some .int) :: ([.fieldLink RX9 65 "CheapParseModel" "thrown" "I", .fieldLink RX9 141 "CheapParseModel" "inSize" "I", .fieldLink RX9 50 "CheapParseModel" "in" "[I", .constantLong RX9 71 (255)] ++ wsX90)
def wsX9_takeBit : List Cond := .code yX9_takeBit cX9_takeBit 2 (some .int) :: ([.fieldLink RX9 144 "CheapParseModel" "inAt" "I", .fieldLink RX9 141 "CheapParseModel" "inSize" "I", .fieldLink RX9 147 "CheapParseModel" "fault" "I", .fieldLink RX9 50 "CheapParseModel" "in" "[I"] ++ wsX90)
def wsX9_take : List Cond := .code yX9_take cX9_take 4 (some .int) :: ([.fieldLink RX9 147 "CheapParseModel" "fault" "I", .methodLink RX9 150 yX9_takeBit, .instanceMethod yX9_takeBit, .selects RX9 yX9_takeBit yX9_takeBit, .initialized RX9, .code yX9_takeBit cX9_takeBit 2 (some .int), .fieldLink RX9 144 "CheapParseModel" "inAt" "I", .fieldLink RX9 141 "CheapParseModel" "inSize" "I", .fieldLink RX9 50 "CheapParseModel" "in" "[I"] ++ wsX90)
def wsX9_need : List Cond := .code yX9_need cX9_need 3 none :: ([.fieldLink RX9 147 "CheapParseModel" "fault" "I"] ++ wsX90)
def wsX9_takeMatch : List Cond := .code yX9_takeMatch cX9_takeMatch 8 (some .int) :: ([.fieldLink RX9 147 "CheapParseModel" "fault" "I", .fieldLink RX9 13 "CheapParseModel" "least" "I", .fieldLink RX9 17 "CheapParseModel" "most" "I", .fieldLink RX9 20 "CheapParseModel" "window" "I", .fieldLink RX9 53 "CheapParseModel" "draft" "[I", .methodLink RX9 150 yX9_takeBit, .instanceMethod yX9_takeBit, .selects RX9 yX9_takeBit yX9_takeBit, .initialized RX9, .code yX9_takeBit cX9_takeBit 2 (some .int), .fieldLink RX9 144 "CheapParseModel" "inAt" "I", .fieldLink RX9 141 "CheapParseModel" "inSize" "I", .fieldLink RX9 50 "CheapParseModel" "in" "[I", .methodLink RX9 154 yX9_need, .instanceMethod yX9_need, .selects RX9 yX9_need yX9_need, .code yX9_need cX9_need 3 none, .methodLink RX9 158 yX9_take, .instanceMethod yX9_take, .selects RX9 yX9_take yX9_take, .code yX9_take cX9_take 4 (some .int)] ++ wsX90)
def wsX9_read_r1 : List Cond := [Cond.fieldLink RX9 65 "CheapParseModel" "thrown" "I", Cond.fieldLink RX9 147 "CheapParseModel" "fault" "I", Cond.fieldLink RX9 144 "CheapParseModel" "inAt" "I", Cond.fieldLink RX9 53 "CheapParseModel" "draft" "[I", Cond.fieldLink RX9 141 "CheapParseModel" "inSize" "I", Cond.fieldLink RX9 59 "CheapParseModel" "takenSize" "I", Cond.fieldLink RX9 56 "CheapParseModel" "taken" "[I", Cond.methodLink RX9 158 yX9_take, Cond.instanceMethod yX9_take, Cond.selects RX9 yX9_take yX9_take, Cond.initialized RX9, Cond.code yX9_take cX9_take 4 (some .int), Cond.methodLink RX9 150 yX9_takeBit, Cond.instanceMethod yX9_takeBit, Cond.selects RX9 yX9_takeBit yX9_takeBit, Cond.code yX9_takeBit cX9_takeBit 2 (some .int), Cond.fieldLink RX9 50 "CheapParseModel" "in" "[I", Cond.methodLink RX9 154 yX9_need, Cond.instanceMethod yX9_need, Cond.selects RX9 yX9_need yX9_need, Cond.code yX9_need cX9_need 3 none, Cond.methodLink RX9 161 yX9_takeMatch, Cond.instanceMethod yX9_takeMatch, Cond.selects RX9 yX9_takeMatch yX9_takeMatch]
def wsX9_read_r2 : List Cond := [Cond.code yX9_takeMatch cX9_takeMatch 8 (some .int), Cond.fieldLink RX9 13 "CheapParseModel" "least" "I", Cond.fieldLink RX9 17 "CheapParseModel" "most" "I", Cond.fieldLink RX9 20 "CheapParseModel" "window" "I"]
def wsX9_read : List Cond := .code yX9_read cX9_read 4 (some .int) :: ((wsX9_read_r1 ++ wsX9_read_r2) ++ wsX90)
def wsX9_taken : List Cond := .code yX9_taken cX9_taken 2 (some .int) :: ([.fieldLink RX9 65 "CheapParseModel" "thrown" "I", .fieldLink RX9 59 "CheapParseModel" "takenSize" "I", .fieldLink RX9 56 "CheapParseModel" "taken" "[I"] ++ wsX90)
def wsX9_check : List Cond := .code yX9_check cX9_check 1 (some .int) :: ([.fieldLink RX9 65 "CheapParseModel" "thrown" "I"] ++ wsX90)
def wsJ9_max_7cf53 : List Cond := .code yJ9_max_7cf53 cJ9_max_7cf53 2 (some .int) :: ([])
def wsJ9_min_7cf53 : List Cond := .code yJ9_min_7cf53 cJ9_min_7cf53 2 (some .int) :: ([])
def wsL_law_r1 : List Cond := [Cond.classLink RL 7 RX8, Cond.instantiable RX8 14, Cond.initialized RX8, Cond.classLink RL 10 RX9, Cond.instantiable RX9 31, Cond.initialized RX9, Cond.constantLong RL 13 (4294967295), Cond.methodLink RL 9 yX8_init, Cond.instanceMethod yX8_init, Cond.code yX8_init cX8_init 1 none, Cond.methodLink RX8 3 objectInit, Cond.instanceMethod objectInit, Cond.code objectInit ⟨#[0xb1]⟩ 1 none, Cond.classLink RX8 9 RX1, Cond.instantiable RX1 2, Cond.initialized RX1, Cond.fieldLink RX8 14 "CheapParse" "text" "LCheapParse$Bytes;", Cond.fieldLink RX8 18 "CheapParse" "loaded" "LCheapParse$Bytes;", Cond.fieldLink RX8 21 "CheapParse" "lastRead" "LCheapParse$Bytes;", Cond.fieldLink RX8 24 "CheapParse" "scratch" "LCheapParse$Bytes;", Cond.classLink RX8 27 RX5, Cond.instantiable RX5 3, Cond.initialized RX5, Cond.fieldLink RX8 30 "CheapParse" "rules" "LCheapParse$Rules;"]
def wsL_law_r2 : List Cond := [Cond.classLink RX8 34 RX7, Cond.instantiable RX7 4, Cond.initialized RX7, Cond.fieldLink RX8 37 "CheapParse" "tariff" "LCheapParse$Tariff;", Cond.classLink RX8 41 RX3, Cond.instantiable RX3 7, Cond.initialized RX3, Cond.fieldLink RX8 46 "CheapParse" "matches" "LCheapParse$Matches;", Cond.classLink RX8 50 RX2, Cond.instantiable RX2 9, Cond.initialized RX2, Cond.fieldLink RX8 55 "CheapParse" "costs" "LCheapParse$Costs;", Cond.classLink RX8 59 RX6, Cond.instantiable RX6 10, Cond.initialized RX6, Cond.fieldLink RX8 62 "CheapParse" "latest" "LCheapParse$Steps;", Cond.classLink RX8 66 RX0, Cond.instantiable RX0 2, Cond.initialized RX0, Cond.fieldLink RX8 69 "CheapParse" "writer" "LCheapParse$BitWriter;", Cond.classLink RX8 73 RX4, Cond.instantiable RX4 4, Cond.initialized RX4, Cond.fieldLink RX8 78 "CheapParse" "reader" "LCheapParse$Reader;"]
def wsL_law_r3 : List Cond := [Cond.fieldLink RX8 82 "CheapParse" "matchesStale" "Z", Cond.fieldLink RX8 86 "CheapParse" "costsStale" "Z", Cond.fieldLink RX8 89 "CheapParse" "anyRead" "Z", Cond.methodLink RX8 11 yX1_init, Cond.instanceMethod yX1_init, Cond.code yX1_init cX1_init 2 none, Cond.methodLink RX1 3 objectInit, Cond.arrayClass .int, Cond.fieldLink RX1 9 "CheapParse$Bytes" "row" "[I", Cond.fieldLink RX1 15 "CheapParse$Bytes" "size" "I", Cond.methodLink RX8 29 yX5_init, Cond.instanceMethod yX5_init, Cond.code yX5_init cX5_init 1 none, Cond.methodLink RX5 3 objectInit, Cond.fieldLink RX5 9 "CheapParse$Rules" "least" "I", Cond.fieldLink RX5 15 "CheapParse$Rules" "most" "I", Cond.fieldLink RX5 18 "CheapParse$Rules" "window" "I", Cond.methodLink RX8 36 yX7_init, Cond.instanceMethod yX7_init, Cond.code yX7_init cX7_init 1 none, Cond.methodLink RX7 3 objectInit, Cond.fieldLink RX7 15 "CheapParse$Tariff" "bytes" "[I", Cond.fieldLink RX7 19 "CheapParse$Tariff" "allMatches" "[I", Cond.fieldLink RX7 22 "CheapParse$Tariff" "lengths" "[I"]
def wsL_law_r4 : List Cond := [Cond.fieldLink RX7 25 "CheapParse$Tariff" "distances" "[I", Cond.methodLink RX7 9 yX7_firstPrices, Cond.static yX7_firstPrices, Cond.code yX7_firstPrices cX7_firstPrices 3 (some (.array .int)), Cond.methodLink RX8 43 yX3_init, Cond.instanceMethod yX3_init, Cond.code yX3_init cX3_init 3 none, Cond.methodLink RX3 3 objectInit, Cond.fieldLink RX3 9 "CheapParse$Matches" "text" "LCheapParse$Bytes;", Cond.fieldLink RX3 15 "CheapParse$Matches" "rules" "LCheapParse$Rules;", Cond.fieldLink RX3 19 "CheapParse$Matches" "longest" "[I", Cond.fieldLink RX3 23 "CheapParse$Matches" "nearest" "[I", Cond.fieldLink RX3 26 "CheapParse$Matches" "distances" "[I", Cond.fieldLink RX3 29 "CheapParse$Matches" "reach" "[I", Cond.fieldLink RX3 32 "CheapParse$Matches" "same" "[I", Cond.methodLink RX8 52 yX2_init, Cond.instanceMethod yX2_init, Cond.code yX2_init cX2_init 5 none, Cond.methodLink RX2 3 objectInit, Cond.fieldLink RX2 9 "CheapParse$Costs" "text" "LCheapParse$Bytes;", Cond.fieldLink RX2 15 "CheapParse$Costs" "rules" "LCheapParse$Rules;", Cond.fieldLink RX2 19 "CheapParse$Costs" "tariff" "LCheapParse$Tariff;", Cond.fieldLink RX2 23 "CheapParse$Costs" "matches" "LCheapParse$Matches;", Cond.fieldLink RX2 27 "CheapParse$Costs" "least" "[I"]
def wsL_law_r5 : List Cond := [Cond.fieldLink RX2 31 "CheapParse$Costs" "stepLength" "[I", Cond.fieldLink RX2 34 "CheapParse$Costs" "stepDistancePrice" "[I", Cond.fieldLink RX2 37 "CheapParse$Costs" "lengthPrice" "[I", Cond.fieldLink RX2 40 "CheapParse$Costs" "priceByReach" "[I", Cond.methodLink RX8 61 yX6_init, Cond.instanceMethod yX6_init, Cond.code yX6_init cX6_init 1 none, Cond.methodLink RX6 3 objectInit, Cond.classLink RX6 9 RX1, Cond.fieldLink RX6 14 "CheapParse$Steps" "text" "LCheapParse$Bytes;", Cond.fieldLink RX6 20 "CheapParse$Steps" "places" "[I", Cond.fieldLink RX6 24 "CheapParse$Steps" "lengths" "[I", Cond.fieldLink RX6 27 "CheapParse$Steps" "distances" "[I", Cond.fieldLink RX6 30 "CheapParse$Steps" "least" "I", Cond.fieldLink RX6 34 "CheapParse$Steps" "count" "I", Cond.fieldLink RX6 37 "CheapParse$Steps" "matchCount" "I", Cond.fieldLink RX6 40 "CheapParse$Steps" "wholePrice" "I", Cond.fieldLink RX6 43 "CheapParse$Steps" "bits" "I", Cond.fieldLink RX6 46 "CheapParse$Steps" "made" "Z", Cond.methodLink RX6 11 yX1_init, Cond.methodLink RX8 68 yX0_init, Cond.instanceMethod yX0_init, Cond.code yX0_init cX0_init 1 none, Cond.methodLink RX0 3 objectInit]
def wsL_law_r6 : List Cond := [Cond.fieldLink RX0 9 "CheapParse$BitWriter" "row" "[I", Cond.fieldLink RX0 15 "CheapParse$BitWriter" "bits" "I", Cond.methodLink RX8 75 yX4_init, Cond.instanceMethod yX4_init, Cond.code yX4_init cX4_init 4 none, Cond.methodLink RX4 3 objectInit, Cond.fieldLink RX4 9 "CheapParse$Reader" "source" "LCheapParse$Bytes;", Cond.fieldLink RX4 15 "CheapParse$Reader" "rules" "LCheapParse$Rules;", Cond.fieldLink RX4 19 "CheapParse$Reader" "made" "LCheapParse$Bytes;", Cond.fieldLink RX4 22 "CheapParse$Reader" "bits" "I", Cond.methodLink RL 12 yX9_init, Cond.instanceMethod yX9_init, Cond.code yX9_init cX9_init 2 none, Cond.methodLink RX9 1 objectInit, Cond.fieldLink RX9 7 "CheapParseModel" "text" "[I", Cond.fieldLink RX9 13 "CheapParseModel" "least" "I", Cond.fieldLink RX9 17 "CheapParseModel" "most" "I", Cond.fieldLink RX9 20 "CheapParseModel" "window" "I", Cond.fieldLink RX9 23 "CheapParseModel" "prices" "[I", Cond.constant RX9 26 (251502), Cond.arrayClass .short, Cond.fieldLink RX9 27 "CheapParseModel" "common" "[S", Cond.fieldLink RX9 31 "CheapParseModel" "cheapest" "[I", Cond.fieldLink RX9 34 "CheapParseModel" "places" "[I"]
def wsL_law_r7 : List Cond := [Cond.fieldLink RX9 37 "CheapParseModel" "lengths" "[I", Cond.fieldLink RX9 40 "CheapParseModel" "distances" "[I", Cond.fieldLink RX9 43 "CheapParseModel" "parsed" "[I", Cond.arrayClass .boolean, Cond.fieldLink RX9 46 "CheapParseModel" "out" "[Z", Cond.fieldLink RX9 50 "CheapParseModel" "in" "[I", Cond.fieldLink RX9 53 "CheapParseModel" "draft" "[I", Cond.fieldLink RX9 56 "CheapParseModel" "taken" "[I", Cond.fieldLink RX9 59 "CheapParseModel" "takenSize" "I", Cond.fieldLink RX9 62 "CheapParseModel" "far" "[I", Cond.methodLink RL 15 yX8_type, Cond.instanceMethod yX8_type, Cond.selects RX8 yX8_type yX8_type, Cond.code yX8_type cX8_type 5 (some .int), Cond.methodLink RX8 92 yX1_addLowest, Cond.instanceMethod yX1_addLowest, Cond.selects RX1 yX1_addLowest yX1_addLowest, Cond.code yX1_addLowest cX1_addLowest 5 (some .int), Cond.methodLink RX1 19 yX1_add, Cond.instanceMethod yX1_add, Cond.selects RX1 yX1_add yX1_add, Cond.code yX1_add cX1_add 2 none, Cond.methodLink RX8 96 yX8_forgetMatches, Cond.instanceMethod yX8_forgetMatches]
def wsL_law_r8 : List Cond := [Cond.selects RX8 yX8_forgetMatches yX8_forgetMatches, Cond.code yX8_forgetMatches cX8_forgetMatches 1 none, Cond.methodLink RL 19 yX9_type, Cond.instanceMethod yX9_type, Cond.selects RX9 yX9_type yX9_type, Cond.code yX9_type cX9_type 5 (some .int), Cond.fieldLink RX9 65 "CheapParseModel" "thrown" "I", Cond.fieldLink RX9 68 "CheapParseModel" "length" "I", Cond.constantLong RX9 71 (255), Cond.fieldLink RX9 73 "CheapParseModel" "known" "Z", Cond.methodLink RL 20 yX8_fill, Cond.instanceMethod yX8_fill, Cond.selects RX8 yX8_fill yX8_fill, Cond.code yX8_fill cX8_fill 4 (some .int), Cond.methodLink RX8 99 yX1_addTimes, Cond.instanceMethod yX1_addTimes, Cond.selects RX1 yX1_addTimes yX1_addTimes, Cond.code yX1_addTimes cX1_addTimes 4 (some .int), Cond.methodLink RL 24 yX9_fill, Cond.instanceMethod yX9_fill, Cond.selects RX9 yX9_fill yX9_fill, Cond.code yX9_fill cX9_fill 4 (some .int), Cond.methodLink RL 25 yX8_clear, Cond.instanceMethod yX8_clear]
def wsL_law_r9 : List Cond := [Cond.selects RX8 yX8_clear yX8_clear, Cond.code yX8_clear cX8_clear 2 (some .int), Cond.methodLink RX8 103 yX1_size, Cond.instanceMethod yX1_size, Cond.selects RX1 yX1_size yX1_size, Cond.code yX1_size cX1_size 1 (some .int), Cond.methodLink RX8 107 yX1_empty, Cond.instanceMethod yX1_empty, Cond.selects RX1 yX1_empty yX1_empty, Cond.code yX1_empty cX1_empty 1 none, Cond.methodLink RL 29 yX9_clear, Cond.instanceMethod yX9_clear, Cond.selects RX9 yX9_clear yX9_clear, Cond.code yX9_clear cX9_clear 2 (some .int), Cond.methodLink RL 30 yX8_limits, Cond.instanceMethod yX8_limits, Cond.selects RX8 yX8_limits yX8_limits, Cond.code yX8_limits cX8_limits 4 (some .int), Cond.methodLink RX8 110 yX5_change, Cond.instanceMethod yX5_change, Cond.selects RX5 yX5_change yX5_change, Cond.code yX5_change cX5_change 5 (some .boolean), Cond.methodLink RL 34 yX9_limits, Cond.instanceMethod yX9_limits]
def wsL_law_r10 : List Cond := [Cond.selects RX9 yX9_limits yX9_limits, Cond.code yX9_limits cX9_limits 4 (some .int), Cond.methodLink RL 35 yX8_price, Cond.instanceMethod yX8_price, Cond.selects RX8 yX8_price yX8_price, Cond.code yX8_price cX8_price 4 (some .int), Cond.methodLink RX8 114 yX7_change, Cond.instanceMethod yX7_change, Cond.selects RX7 yX7_change yX7_change, Cond.code yX7_change cX7_change 5 (some .boolean), Cond.methodLink RX7 28 yX7_rowOf, Cond.instanceMethod yX7_rowOf, Cond.selects RX7 yX7_rowOf yX7_rowOf, Cond.code yX7_rowOf cX7_rowOf 2 (some (.array .int)), Cond.methodLink RL 38 yX9_price, Cond.instanceMethod yX9_price, Cond.selects RX9 yX9_price yX9_price, Cond.code yX9_price cX9_price 5 (some .int), Cond.methodLink RL 39 yX8_parse, Cond.instanceMethod yX8_parse, Cond.selects RX8 yX8_parse yX8_parse, Cond.code yX8_parse cX8_parse 4 (some .int), Cond.methodLink RX8 115 yX8_renewCosts, Cond.instanceMethod yX8_renewCosts]
def wsL_law_r11 : List Cond := [Cond.selects RX8 yX8_renewCosts yX8_renewCosts, Cond.code yX8_renewCosts cX8_renewCosts 1 none, Cond.methodLink RX8 118 yX8_renewMatches, Cond.instanceMethod yX8_renewMatches, Cond.selects RX8 yX8_renewMatches yX8_renewMatches, Cond.code yX8_renewMatches cX8_renewMatches 1 none, Cond.methodLink RX8 199 yX3_build, Cond.instanceMethod yX3_build, Cond.selects RX3 yX3_build yX3_build, Cond.code yX3_build cX3_build 3 none, Cond.methodLink RX3 35 yX1_size, Cond.methodLink RX3 41 yX3_noteClass, Cond.instanceMethod yX3_noteClass, Cond.selects RX3 yX3_noteClass yX3_noteClass, Cond.code yX3_noteClass cX3_noteClass 10 none, Cond.methodLink RX3 73 Lib.Math.max.name, Cond.static Lib.Math.max.name, Cond.initialized "java/lang/Math", Cond.code Lib.Math.max.name Lib.Math.max.code 2 (some .int), Cond.methodLink RX3 66 yX5_least, Cond.instanceMethod yX5_least, Cond.selects RX5 yX5_least yX5_least, Cond.code yX5_least cX5_least 1 (some .int), Cond.methodLink RX3 45 yX3_lastOfClass]
def wsL_law_r12 : List Cond := [Cond.instanceMethod yX3_lastOfClass, Cond.selects RX3 yX3_lastOfClass yX3_lastOfClass, Cond.code yX3_lastOfClass cX3_lastOfClass 4 (some .int), Cond.methodLink RX3 58 Lib.Math.min.name, Cond.static Lib.Math.min.name, Cond.code Lib.Math.min.name Lib.Math.min.code 2 (some .int), Cond.methodLink RX3 53 yX5_window, Cond.instanceMethod yX5_window, Cond.selects RX5 yX5_window yX5_window, Cond.code yX5_window cX5_window 1 (some .int), Cond.methodLink RX3 69 yX3_noteMatch, Cond.instanceMethod yX3_noteMatch, Cond.selects RX3 yX3_noteMatch yX3_noteMatch, Cond.code yX3_noteMatch cX3_noteMatch 5 (some .int), Cond.methodLink RX3 76 yX5_most, Cond.instanceMethod yX5_most, Cond.selects RX5 yX5_most yX5_most, Cond.code yX5_most cX5_most 1 (some .int), Cond.methodLink RX8 202 yX2_build, Cond.instanceMethod yX2_build, Cond.selects RX2 yX2_build yX2_build, Cond.code yX2_build cX2_build 2 none, Cond.methodLink RX2 43 yX5_least, Cond.methodLink RX2 48 yX5_most]
def wsL_law_r13 : List Cond := [Cond.methodLink RX2 51 yX7_ofLength, Cond.instanceMethod yX7_ofLength, Cond.selects RX7 yX7_ofLength yX7_ofLength, Cond.code yX7_ofLength cX7_ofLength 2 (some .int), Cond.methodLink RX7 41 Lib.Math.min.name, Cond.static yX8_classOf, Cond.code yX8_classOf cX8_classOf 3 (some .int), Cond.methodLink RX2 57 yX1_size, Cond.methodLink RX2 62 yX2_chooseStep, Cond.instanceMethod yX2_chooseStep, Cond.selects RX2 yX2_chooseStep yX2_chooseStep, Cond.code yX2_chooseStep cX2_chooseStep 9 none, Cond.constant RX2 89 (1000000000), Cond.methodLink RX2 90 Lib.Math.min.name, Cond.methodLink RX2 82 yX3_longestAt, Cond.instanceMethod yX3_longestAt, Cond.selects RX3 yX3_longestAt yX3_longestAt, Cond.code yX3_longestAt cX3_longestAt 2 (some .int), Cond.methodLink RX2 85 yX2_sortByReach, Cond.instanceMethod yX2_sortByReach, Cond.selects RX2 yX2_sortByReach yX2_sortByReach, Cond.code yX2_sortByReach cX2_sortByReach 5 none, Cond.methodLink RX2 72 yX3_reachAt, Cond.instanceMethod yX3_reachAt]
def wsL_law_r14 : List Cond := [Cond.selects RX3 yX3_reachAt yX3_reachAt, Cond.code yX3_reachAt cX3_reachAt 3 (some .int), Cond.methodLink RX2 69 yX7_ofDistanceClass, Cond.instanceMethod yX7_ofDistanceClass, Cond.selects RX7 yX7_ofDistanceClass yX7_ofDistanceClass, Cond.code yX7_ofDistanceClass cX7_ofDistanceClass 2 (some .int), Cond.methodLink RX2 95 yX1_get, Cond.instanceMethod yX1_get, Cond.selects RX1 yX1_get yX1_get, Cond.code yX1_get cX1_get 2 (some .int), Cond.methodLink RX2 98 yX7_ofByte, Cond.instanceMethod yX7_ofByte, Cond.selects RX7 yX7_ofByte yX7_ofByte, Cond.code yX7_ofByte cX7_ofByte 2 (some .int), Cond.methodLink RX8 121 yX5_least, Cond.methodLink RX8 124 yX6_begin, Cond.instanceMethod yX6_begin, Cond.selects RX6 yX6_begin yX6_begin, Cond.code yX6_begin cX6_begin 3 none, Cond.methodLink RX6 50 yX1_copyOf, Cond.instanceMethod yX1_copyOf, Cond.selects RX1 yX1_copyOf yX1_copyOf, Cond.code yX1_copyOf cX1_copyOf 2 none, Cond.methodLink RX1 27 Lib.Math.min.name]
def wsL_law_r15 : List Cond := [Cond.methodLink RX1 33 arraycopyName, Cond.native arraycopyName, Cond.static arraycopyName, Cond.initialized "java/lang/System", Cond.methodLink RX8 128 yX8_addStep, Cond.instanceMethod yX8_addStep, Cond.selects RX8 yX8_addStep yX8_addStep, Cond.code yX8_addStep cX8_addStep 5 (some .int), Cond.methodLink RX8 203 yX2_lengthAt, Cond.instanceMethod yX2_lengthAt, Cond.selects RX2 yX2_lengthAt yX2_lengthAt, Cond.code yX2_lengthAt cX2_lengthAt 2 (some .int), Cond.methodLink RX8 206 yX8_longestStep, Cond.instanceMethod yX8_longestStep, Cond.selects RX8 yX8_longestStep yX8_longestStep, Cond.code yX8_longestStep cX8_longestStep 5 (some .int), Cond.methodLink RX8 166 yX3_longestAt, Cond.methodLink RX8 194 yX1_get, Cond.methodLink RX8 209 yX7_ofByte, Cond.methodLink RX8 212 yX6_addByte, Cond.instanceMethod yX6_addByte, Cond.selects RX6 yX6_addByte yX6_addByte, Cond.code yX6_addByte cX6_addByte 3 none, Cond.methodLink RX6 54 yX6_addOne]
def wsL_law_r16 : List Cond := [Cond.instanceMethod yX6_addOne, Cond.selects RX6 yX6_addOne yX6_addOne, Cond.code yX6_addOne cX6_addOne 5 none, Cond.methodLink RX8 216 yX2_distanceAt, Cond.instanceMethod yX2_distanceAt, Cond.selects RX2 yX2_distanceAt yX2_distanceAt, Cond.code yX2_distanceAt cX2_distanceAt 4 (some .int), Cond.methodLink RX2 66 yX2_lengthAt, Cond.methodLink RX2 78 yX3_nearestOfClass, Cond.instanceMethod yX3_nearestOfClass, Cond.selects RX3 yX3_nearestOfClass yX3_nearestOfClass, Cond.code yX3_nearestOfClass cX3_nearestOfClass 6 (some .int), Cond.methodLink RX3 49 yX1_repeats, Cond.instanceMethod yX1_repeats, Cond.selects RX1 yX1_repeats yX1_repeats, Cond.code yX1_repeats cX1_repeats 5 (some .boolean), Cond.methodLink RX8 169 yX3_nearestAt, Cond.instanceMethod yX3_nearestAt, Cond.selects RX3 yX3_nearestAt yX3_nearestAt, Cond.code yX3_nearestAt cX3_nearestAt 2 (some .int), Cond.methodLink RX8 219 yX7_ofMatch, Cond.instanceMethod yX7_ofMatch, Cond.selects RX7 yX7_ofMatch yX7_ofMatch, Cond.code yX7_ofMatch cX7_ofMatch 3 (some .int)]
def wsL_law_r17 : List Cond := [Cond.methodLink RX7 31 yX7_ofLength, Cond.methodLink RX7 38 yX7_ofDistanceClass, Cond.methodLink RX8 222 yX6_addMatch, Cond.instanceMethod yX6_addMatch, Cond.selects RX6 yX6_addMatch yX6_addMatch, Cond.code yX6_addMatch cX6_addMatch 5 none, Cond.methodLink RX6 58 yX6_lengthBits, Cond.instanceMethod yX6_lengthBits, Cond.selects RX6 yX6_lengthBits yX6_lengthBits, Cond.code yX6_lengthBits cX6_lengthBits 2 (some .int), Cond.methodLink RX6 105 yX6_lengthTold, Cond.instanceMethod yX6_lengthTold, Cond.selects RX6 yX6_lengthTold yX6_lengthTold, Cond.code yX6_lengthTold cX6_lengthTold 2 (some .int), Cond.methodLink RX8 131 yX6_count, Cond.instanceMethod yX6_count, Cond.selects RX6 yX6_count yX6_count, Cond.code yX6_count cX6_count 1 (some .int), Cond.methodLink RL 43 yX9_parse, Cond.instanceMethod yX9_parse, Cond.selects RX9 yX9_parse yX9_parse, Cond.code yX9_parse cX9_parse 4 (some .int), Cond.fieldLink RX9 93 "CheapParseModel" "steps" "I", Cond.fieldLink RX9 96 "CheapParseModel" "price" "I"]
def wsL_law_r18 : List Cond := [Cond.fieldLink RX9 99 "CheapParseModel" "bits" "I", Cond.fieldLink RX9 122 "CheapParseModel" "parsedSize" "I", Cond.fieldLink RX9 125 "CheapParseModel" "parsedLeast" "I", Cond.fieldLink RX9 128 "CheapParseModel" "there" "Z", Cond.methodLink RX9 112 yX9_know, Cond.instanceMethod yX9_know, Cond.selects RX9 yX9_know yX9_know, Cond.code yX9_know cX9_know 6 none, Cond.methodLink RX9 81 yX9_priceOf, Cond.instanceMethod yX9_priceOf, Cond.selects RX9 yX9_priceOf yX9_priceOf, Cond.code yX9_priceOf cX9_priceOf 4 (some .int), Cond.methodLink RX9 77 yX9_classOf, Cond.static yX9_classOf, Cond.code yX9_classOf cX9_classOf 3 (some .int), Cond.methodLink RX9 85 yX9_findFar, Cond.instanceMethod yX9_findFar, Cond.selects RX9 yX9_findFar yX9_findFar, Cond.code yX9_findFar cX9_findFar 4 none, Cond.methodLink RX9 89 yX9_longest, Cond.instanceMethod yX9_longest, Cond.selects RX9 yX9_longest yX9_longest, Cond.code yX9_longest cX9_longest 4 (some .int), Cond.methodLink RX9 115 yX9_stepCheaply]
def wsL_law_r19 : List Cond := [Cond.instanceMethod yX9_stepCheaply, Cond.selects RX9 yX9_stepCheaply yX9_stepCheaply, Cond.code yX9_stepCheaply cX9_stepCheaply 6 none, Cond.methodLink RX9 102 yX9_goOn, Cond.instanceMethod yX9_goOn, Cond.selects RX9 yX9_goOn yX9_goOn, Cond.code yX9_goOn cX9_goOn 4 none, Cond.methodLink RX9 118 yX9_stepGreedily, Cond.instanceMethod yX9_stepGreedily, Cond.selects RX9 yX9_stepGreedily yX9_stepGreedily, Cond.code yX9_stepGreedily cX9_stepGreedily 5 none, Cond.methodLink RX9 106 yX9_longestAt, Cond.instanceMethod yX9_longestAt, Cond.selects RX9 yX9_longestAt yX9_longestAt, Cond.code yX9_longestAt cX9_longestAt 4 (some .int), Cond.methodLink RX9 109 yX9_nearestOf, Cond.instanceMethod yX9_nearestOf, Cond.selects RX9 yX9_nearestOf yX9_nearestOf, Cond.code yX9_nearestOf cX9_nearestOf 4 (some .int), Cond.methodLink RL 44 yX8_step, Cond.instanceMethod yX8_step, Cond.selects RX8 yX8_step yX8_step, Cond.code yX8_step cX8_step 3 (some .int), Cond.methodLink RX8 134 yX6_has]
def wsL_law_r20 : List Cond := [Cond.instanceMethod yX6_has, Cond.selects RX6 yX6_has yX6_has, Cond.code yX6_has cX6_has 2 (some .boolean), Cond.methodLink RX8 138 yX6_placeOf, Cond.instanceMethod yX6_placeOf, Cond.selects RX6 yX6_placeOf yX6_placeOf, Cond.code yX6_placeOf cX6_placeOf 2 (some .int), Cond.methodLink RX6 69 yX6_has, Cond.methodLink RX8 142 yX6_lengthOf, Cond.instanceMethod yX6_lengthOf, Cond.selects RX6 yX6_lengthOf yX6_lengthOf, Cond.code yX6_lengthOf cX6_lengthOf 2 (some .int), Cond.methodLink RX8 145 yX6_distanceOf, Cond.instanceMethod yX6_distanceOf, Cond.selects RX6 yX6_distanceOf yX6_distanceOf, Cond.code yX6_distanceOf cX6_distanceOf 2 (some .int), Cond.methodLink RX8 148 yX6_byteOf, Cond.instanceMethod yX6_byteOf, Cond.selects RX6 yX6_byteOf yX6_byteOf, Cond.code yX6_byteOf cX6_byteOf 2 (some .int), Cond.methodLink RX6 73 yX1_get, Cond.methodLink RL 47 yX9_step, Cond.instanceMethod yX9_step, Cond.selects RX9 yX9_step yX9_step]
def wsL_law_r21 : List Cond := [Cond.code yX9_step cX9_step 3 (some .int), Cond.methodLink RL 48 yX8_told, Cond.instanceMethod yX8_told, Cond.selects RX8 yX8_told yX8_told, Cond.code yX8_told cX8_told 2 (some .int), Cond.methodLink RX8 151 yX6_matchCount, Cond.instanceMethod yX6_matchCount, Cond.selects RX6 yX6_matchCount yX6_matchCount, Cond.code yX6_matchCount cX6_matchCount 1 (some .int), Cond.methodLink RX8 154 yX6_wholePrice, Cond.instanceMethod yX6_wholePrice, Cond.selects RX6 yX6_wholePrice yX6_wholePrice, Cond.code yX6_wholePrice cX6_wholePrice 1 (some .int), Cond.methodLink RX8 157 yX6_bits, Cond.instanceMethod yX6_bits, Cond.selects RX6 yX6_bits yX6_bits, Cond.code yX6_bits cX6_bits 1 (some .int), Cond.methodLink RX8 160 yX6_textSize, Cond.instanceMethod yX6_textSize, Cond.selects RX6 yX6_textSize yX6_textSize, Cond.code yX6_textSize cX6_textSize 1 (some .int), Cond.methodLink RX6 65 yX1_size, Cond.methodLink RL 51 yX9_told, Cond.instanceMethod yX9_told]
def wsL_law_r22 : List Cond := [Cond.selects RX9 yX9_told yX9_told, Cond.code yX9_told cX9_told 4 (some .int), Cond.methodLink RL 52 yX8_at, Cond.instanceMethod yX8_at, Cond.selects RX8 yX8_at yX8_at, Cond.code yX8_at cX8_at 3 (some .int), Cond.methodLink RX8 163 yX2_leastFrom, Cond.instanceMethod yX2_leastFrom, Cond.selects RX2 yX2_leastFrom yX2_leastFrom, Cond.code yX2_leastFrom cX2_leastFrom 2 (some .int), Cond.methodLink RX8 172 yX3_distancesAt, Cond.instanceMethod yX3_distancesAt, Cond.selects RX3 yX3_distancesAt yX3_distancesAt, Cond.code yX3_distancesAt cX3_distancesAt 2 (some .int), Cond.methodLink RL 55 yX9_at, Cond.instanceMethod yX9_at, Cond.selects RX9 yX9_at yX9_at, Cond.code yX9_at cX9_at 7 (some .int), Cond.methodLink RL 56 yX8_write, Cond.instanceMethod yX8_write, Cond.selects RX8 yX8_write yX8_write, Cond.code yX8_write cX8_write 1 (some .int), Cond.methodLink RX8 175 yX6_made, Cond.instanceMethod yX6_made]
def wsL_law_r23 : List Cond := [Cond.selects RX6 yX6_made yX6_made, Cond.code yX6_made cX6_made 1 (some .boolean), Cond.methodLink RX8 179 yX6_putInto, Cond.instanceMethod yX6_putInto, Cond.selects RX6 yX6_putInto yX6_putInto, Cond.code yX6_putInto cX6_putInto 3 none, Cond.methodLink RX6 76 yX0_begin, Cond.instanceMethod yX0_begin, Cond.selects RX0 yX0_begin yX0_begin, Cond.code yX0_begin cX0_begin 1 none, Cond.methodLink RX6 81 yX0_put, Cond.instanceMethod yX0_put, Cond.selects RX0 yX0_put yX0_put, Cond.code yX0_put cX0_put 4 none, Cond.methodLink RX0 23 yX0_putBit, Cond.instanceMethod yX0_putBit, Cond.selects RX0 yX0_putBit yX0_putBit, Cond.code yX0_putBit cX0_putBit 3 none, Cond.methodLink RX6 85 yX6_byteOf, Cond.methodLink RX6 88 yX6_putMatch, Cond.instanceMethod yX6_putMatch, Cond.selects RX6 yX6_putMatch yX6_putMatch, Cond.code yX6_putMatch cX6_putMatch 5 none, Cond.methodLink RX8 183 yX0_size]
def wsL_law_r24 : List Cond := [Cond.instanceMethod yX0_size, Cond.selects RX0 yX0_size yX0_size, Cond.code yX0_size cX0_size 1 (some .int), Cond.methodLink RL 59 yX9_write, Cond.instanceMethod yX9_write, Cond.selects RX9 yX9_write yX9_write, Cond.code yX9_write cX9_write 4 (some .int), Cond.fieldLink RX9 131 "CheapParseModel" "outSize" "I", Cond.fieldLink RX9 138 "CheapParseModel" "writtenSize" "I", Cond.methodLink RX9 134 yX9_put, Cond.instanceMethod yX9_put, Cond.selects RX9 yX9_put yX9_put, Cond.code yX9_put cX9_put 4 none, Cond.methodLink RL 60 yX8_written, Cond.instanceMethod yX8_written, Cond.selects RX8 yX8_written yX8_written, Cond.code yX8_written cX8_written 2 (some .int), Cond.methodLink RX8 184 yX0_get, Cond.instanceMethod yX0_get, Cond.selects RX0 yX0_get yX0_get, Cond.code yX0_get cX0_get 2 (some .int), Cond.methodLink RX0 19 yX0_size, Cond.methodLink RL 63 yX9_written, Cond.instanceMethod yX9_written]
def wsL_law_r25 : List Cond := [Cond.selects RX9 yX9_written yX9_written, Cond.code yX9_written cX9_written 4 (some .int), Cond.methodLink RL 64 yX8_load, Cond.instanceMethod yX8_load, Cond.selects RX8 yX8_load yX8_load, Cond.code yX8_load cX8_load 4 (some .int), Cond.methodLink RL 67 yX9_load, Cond.instanceMethod yX9_load, Cond.selects RX9 yX9_load yX9_load, Cond.code yX9_load cX9_load 5 (some .int), Cond.fieldLink RX9 141 "CheapParseModel" "inSize" "I", Cond.methodLink RL 68 yX8_read, Cond.instanceMethod yX8_read, Cond.selects RX8 yX8_read yX8_read, Cond.code yX8_read cX8_read 2 (some .int), Cond.methodLink RX8 187 yX4_readText, Cond.instanceMethod yX4_readText, Cond.selects RX4 yX4_readText yX4_readText, Cond.code yX4_readText cX4_readText 4 (some .int), Cond.methodLink RX4 26 yX1_empty, Cond.methodLink RX4 31 yX4_number, Cond.instanceMethod yX4_number, Cond.selects RX4 yX4_number yX4_number, Cond.code yX4_number cX4_number 5 (some .int)]
def wsL_law_r26 : List Cond := [Cond.methodLink RX4 76 yX1_get, Cond.methodLink RX4 35 yX1_size, Cond.methodLink RX4 39 yX4_readStep, Cond.instanceMethod yX4_readStep, Cond.selects RX4 yX4_readStep yX4_readStep, Cond.code yX4_readStep cX4_readStep 3 (some .int), Cond.methodLink RX4 45 yX4_readByte, Cond.instanceMethod yX4_readByte, Cond.selects RX4 yX4_readByte yX4_readByte, Cond.code yX4_readByte cX4_readByte 2 (some .int), Cond.methodLink RX4 51 yX1_add, Cond.methodLink RX4 48 yX4_readMatch, Cond.instanceMethod yX4_readMatch, Cond.selects RX4 yX4_readMatch yX4_readMatch, Cond.code yX4_readMatch cX4_readMatch 6 (some .int), Cond.methodLink RX4 55 yX4_countZeros, Cond.instanceMethod yX4_countZeros, Cond.selects RX4 yX4_countZeros yX4_countZeros, Cond.code yX4_countZeros cX4_countZeros 3 (some .int), Cond.methodLink RX4 58 yX4_numberOfClass, Cond.instanceMethod yX4_numberOfClass, Cond.selects RX4 yX4_numberOfClass yX4_numberOfClass, Cond.code yX4_numberOfClass cX4_numberOfClass 3 (some .int), Cond.methodLink RX4 61 yX5_least]
def wsL_law_r27 : List Cond := [Cond.methodLink RX4 66 yX5_most, Cond.methodLink RX4 69 yX5_window, Cond.methodLink RX4 72 yX1_addAgain, Cond.instanceMethod yX1_addAgain, Cond.selects RX1 yX1_addAgain yX1_addAgain, Cond.code yX1_addAgain cX1_addAgain 4 none, Cond.methodLink RX1 23 yX1_get, Cond.methodLink RX4 42 yX4_faultBehind, Cond.instanceMethod yX4_faultBehind, Cond.selects RX4 yX4_faultBehind yX4_faultBehind, Cond.code yX4_faultBehind cX4_faultBehind 2 (some .int), Cond.methodLink RX8 190 yX1_copyOf, Cond.methodLink RL 71 yX9_read, Cond.instanceMethod yX9_read, Cond.selects RX9 yX9_read yX9_read, Cond.code yX9_read cX9_read 4 (some .int), Cond.fieldLink RX9 147 "CheapParseModel" "fault" "I", Cond.fieldLink RX9 144 "CheapParseModel" "inAt" "I", Cond.methodLink RX9 158 yX9_take, Cond.instanceMethod yX9_take, Cond.selects RX9 yX9_take yX9_take, Cond.code yX9_take cX9_take 4 (some .int), Cond.methodLink RX9 150 yX9_takeBit, Cond.instanceMethod yX9_takeBit]
def wsL_law_r28 : List Cond := [Cond.selects RX9 yX9_takeBit yX9_takeBit, Cond.code yX9_takeBit cX9_takeBit 2 (some .int), Cond.methodLink RX9 154 yX9_need, Cond.instanceMethod yX9_need, Cond.selects RX9 yX9_need yX9_need, Cond.code yX9_need cX9_need 3 none, Cond.methodLink RX9 161 yX9_takeMatch, Cond.instanceMethod yX9_takeMatch, Cond.selects RX9 yX9_takeMatch yX9_takeMatch, Cond.code yX9_takeMatch cX9_takeMatch 8 (some .int), Cond.methodLink RL 72 yX8_taken, Cond.instanceMethod yX8_taken, Cond.selects RX8 yX8_taken yX8_taken, Cond.code yX8_taken cX8_taken 2 (some .int), Cond.methodLink RL 75 yX9_taken, Cond.instanceMethod yX9_taken, Cond.selects RX9 yX9_taken yX9_taken, Cond.code yX9_taken cX9_taken 2 (some .int), Cond.methodLink RL 76 yX8_check, Cond.instanceMethod yX8_check, Cond.selects RX8 yX8_check yX8_check, Cond.code yX8_check cX8_check 1 (some .int), Cond.methodLink RX8 195 yX6_makeTheirText, Cond.instanceMethod yX6_makeTheirText]
def wsL_law_r29 : List Cond := [Cond.selects RX6 yX6_makeTheirText yX6_makeTheirText, Cond.code yX6_makeTheirText cX6_makeTheirText 3 (some .boolean), Cond.methodLink RX6 92 yX1_empty, Cond.methodLink RX6 95 yX1_add, Cond.methodLink RX6 98 yX1_addAgain, Cond.methodLink RX6 101 yX1_sameAs, Cond.instanceMethod yX1_sameAs, Cond.selects RX1 yX1_sameAs yX1_sameAs, Cond.code yX1_sameAs cX1_sameAs 3 (some .boolean), Cond.methodLink RL 79 yX9_check, Cond.instanceMethod yX9_check, Cond.selects RX9 yX9_check yX9_check, Cond.code yX9_check cX9_check 1 (some .int)]
def wsL_law : List Cond := (wsL_law_r1 ++ (wsL_law_r2 ++ (wsL_law_r3 ++ (wsL_law_r4 ++ (wsL_law_r5 ++ (wsL_law_r6 ++ (wsL_law_r7 ++ (wsL_law_r8 ++ (wsL_law_r9 ++ (wsL_law_r10 ++ (wsL_law_r11 ++ (wsL_law_r12 ++ (wsL_law_r13 ++ (wsL_law_r14 ++ (wsL_law_r15 ++ (wsL_law_r16 ++ (wsL_law_r17 ++ (wsL_law_r18 ++ (wsL_law_r19 ++ (wsL_law_r20 ++ (wsL_law_r21 ++ (wsL_law_r22 ++ (wsL_law_r23 ++ (wsL_law_r24 ++ (wsL_law_r25 ++ (wsL_law_r26 ++ (wsL_law_r27 ++ (wsL_law_r28 ++ wsL_law_r29)))))))))))))))))))))))))))) ++ wsX80 ++ wsX90 ++ wsX10 ++ wsX50 ++ wsX70 ++ wsX30 ++ wsX20 ++ wsX60 ++ wsX00 ++ wsX40 ++ ([] : List Cond)
set_option maxRecDepth 20000 in
abbrev vwCl : List vw_C := [(RX0, TX0, 2), (RX1, TX1, 2), (RX2, TX2, 9), (RX3, TX3, 7), (RX4, TX4, 4), (RX5, TX5, 3), (RX6, TX6, 10), (RX7, TX7, 4), (RX8, TX8, 14), (RX9, TX9, 31)]
def jNest : List Cond := [.fieldLinkNest "CheapParse$Matches" 63 "CheapParse$Bytes" "row" "[I" "CheapParse", .methodLinkNest "CheapParse$Tariff" 35 ⟨"CheapParse", "classOf", "(I)I"⟩ "CheapParse", .methodLinkNest "CheapParse$Steps" 62 ⟨"CheapParse", "classOf", "(I)I"⟩ "CheapParse"]
end
section
theorem dX0_init_0 : decode cX0_init 0 = .ok (.aload_n 0, 1) := by decide +kernel
theorem dX0_init_1 : decode cX0_init 1 = .ok (.invokespecial 3, 3) := by decide +kernel
theorem dX0_init_4 : decode cX0_init 4 = .ok (.aload_n 0, 1) := by decide +kernel
theorem dX0_init_5 : decode cX0_init 5 = .ok (.sipush 565, 3) := by decide +kernel
theorem dX0_init_8 : decode cX0_init 8 = .ok (.newarray .int, 2) := by decide +kernel
theorem dX0_init_10 : decode cX0_init 10 = .ok (.putfield 9, 3) := by decide +kernel
theorem dX0_init_13 : decode cX0_init 13 = .ok (.aload_n 0, 1) := by decide +kernel
theorem dX0_init_14 : decode cX0_init 14 = .ok (.iconst 0, 1) := by decide +kernel
theorem dX0_init_15 : decode cX0_init 15 = .ok (.putfield 15, 3) := by decide +kernel
theorem dX0_init_18 : decode cX0_init 18 = .ok (.return_, 1) := by decide +kernel
theorem dX0_begin_0 : decode cX0_begin 0 = .ok (.aload_n 0, 1) := by decide +kernel
theorem dX0_begin_1 : decode cX0_begin 1 = .ok (.iconst 0, 1) := by decide +kernel
theorem dX0_begin_2 : decode cX0_begin 2 = .ok (.putfield 15, 3) := by decide +kernel
theorem dX0_begin_5 : decode cX0_begin 5 = .ok (.return_, 1) := by decide +kernel
theorem dX0_size_0 : decode cX0_size 0 = .ok (.aload_n 0, 1) := by decide +kernel
theorem dX0_size_1 : decode cX0_size 1 = .ok (.getfield 15, 3) := by decide +kernel
theorem dX0_size_4 : decode cX0_size 4 = .ok (.bipush 7, 2) := by decide +kernel
theorem dX0_size_6 : decode cX0_size 6 = .ok (.iadd, 1) := by decide +kernel
theorem dX0_size_7 : decode cX0_size 7 = .ok (.bipush 8, 2) := by decide +kernel
theorem dX0_size_9 : decode cX0_size 9 = .ok (.idiv, 1) := by decide +kernel
theorem dX0_size_10 : decode cX0_size 10 = .ok (.ireturn, 1) := by decide +kernel
set_option maxRecDepth 20000 in
theorem ggX0_get_X0_size : GoodIn wsX0_get wsX0_size := goodIn_r _ [6, 7, 8, 9] (by decide +kernel) (by decide +kernel)
set_option maxRecDepth 20000 in
theorem gX0_get_X0_size : GoodIn wsX0_get (wsV RX0 19 RX0 yX0_size wsX0_size) := goodIn_app (goodIn_of _ (by decide +kernel)) ggX0_get_X0_size
theorem dX0_get_0 : decode cX0_get 0 = .ok (.iload_n 1, 1) := by decide +kernel
theorem dX0_get_1 : decode cX0_get 1 = .ok (.ifCond .lt 20, 3) := by decide +kernel
theorem dX0_get_4 : decode cX0_get 4 = .ok (.iload_n 1, 1) := by decide +kernel
theorem dX0_get_5 : decode cX0_get 5 = .ok (.aload_n 0, 1) := by decide +kernel
theorem dX0_get_6 : decode cX0_get 6 = .ok (.invokevirtual 19, 3) := by decide +kernel
theorem dX0_get_9 : decode cX0_get 9 = .ok (.if_icmp .ge 12, 3) := by decide +kernel
theorem dX0_get_12 : decode cX0_get 12 = .ok (.aload_n 0, 1) := by decide +kernel
theorem dX0_get_13 : decode cX0_get 13 = .ok (.getfield 9, 3) := by decide +kernel
theorem dX0_get_16 : decode cX0_get 16 = .ok (.iload_n 1, 1) := by decide +kernel
theorem dX0_get_17 : decode cX0_get 17 = .ok (.iaload, 1) := by decide +kernel
theorem dX0_get_18 : decode cX0_get 18 = .ok (.goto 4, 3) := by decide +kernel
theorem dX0_get_21 : decode cX0_get 21 = .ok (.iconst (-1), 1) := by decide +kernel
theorem dX0_get_22 : decode cX0_get 22 = .ok (.ireturn, 1) := by decide +kernel
set_option maxRecDepth 20000 in
theorem ggX0_put_X0_putBit : GoodIn wsX0_put wsX0_putBit := goodIn_r _ [5, 6, 7, 8, 9] (by decide +kernel) (by decide +kernel)
set_option maxRecDepth 20000 in
theorem gX0_put_X0_putBit : GoodIn wsX0_put (wsV RX0 23 RX0 yX0_putBit wsX0_putBit) := goodIn_app (goodIn_of _ (by decide +kernel)) ggX0_put_X0_putBit
theorem dX0_put_0 : decode cX0_put 0 = .ok (.iload_n 2, 1) := by decide +kernel
theorem dX0_put_1 : decode cX0_put 1 = .ok (.iconst 1, 1) := by decide +kernel
theorem dX0_put_2 : decode cX0_put 2 = .ok (.isub, 1) := by decide +kernel
theorem dX0_put_3 : decode cX0_put 3 = .ok (.istore_n 3, 1) := by decide +kernel
theorem dX0_put_4 : decode cX0_put 4 = .ok (.iload_n 3, 1) := by decide +kernel
theorem dX0_put_5 : decode cX0_put 5 = .ok (.ifCond .lt 18, 3) := by decide +kernel
theorem dX0_put_8 : decode cX0_put 8 = .ok (.aload_n 0, 1) := by decide +kernel
theorem dX0_put_9 : decode cX0_put 9 = .ok (.iload_n 1, 1) := by decide +kernel
theorem dX0_put_10 : decode cX0_put 10 = .ok (.iload_n 3, 1) := by decide +kernel
theorem dX0_put_11 : decode cX0_put 11 = .ok (.ishr, 1) := by decide +kernel
theorem dX0_put_12 : decode cX0_put 12 = .ok (.iconst 1, 1) := by decide +kernel
theorem dX0_put_13 : decode cX0_put 13 = .ok (.iand, 1) := by decide +kernel
theorem dX0_put_14 : decode cX0_put 14 = .ok (.invokevirtual 23, 3) := by decide +kernel
theorem dX0_put_17 : decode cX0_put 17 = .ok (.iinc 3 (-1), 3) := by decide +kernel
theorem dX0_put_20 : decode cX0_put 20 = .ok (.goto (-16), 3) := by decide +kernel
theorem dX0_put_23 : decode cX0_put 23 = .ok (.return_, 1) := by decide +kernel
theorem dX0_putBit_0 : decode cX0_putBit 0 = .ok (.aload_n 0, 1) := by decide +kernel
theorem dX0_putBit_1 : decode cX0_putBit 1 = .ok (.getfield 15, 3) := by decide +kernel
theorem dX0_putBit_4 : decode cX0_putBit 4 = .ok (.bipush 8, 2) := by decide +kernel
theorem dX0_putBit_6 : decode cX0_putBit 6 = .ok (.idiv, 1) := by decide +kernel
theorem dX0_putBit_7 : decode cX0_putBit 7 = .ok (.istore_n 2, 1) := by decide +kernel
theorem dX0_putBit_8 : decode cX0_putBit 8 = .ok (.iload_n 2, 1) := by decide +kernel
theorem dX0_putBit_9 : decode cX0_putBit 9 = .ok (.aload_n 0, 1) := by decide +kernel
theorem dX0_putBit_10 : decode cX0_putBit 10 = .ok (.getfield 9, 3) := by decide +kernel
theorem dX0_putBit_13 : decode cX0_putBit 13 = .ok (.arraylength, 1) := by decide +kernel
theorem dX0_putBit_14 : decode cX0_putBit 14 = .ok (.if_icmp .lt 4, 3) := by decide +kernel
theorem dX0_putBit_17 : decode cX0_putBit 17 = .ok (.return_, 1) := by decide +kernel
theorem dX0_putBit_18 : decode cX0_putBit 18 = .ok (.aload_n 0, 1) := by decide +kernel
theorem dX0_putBit_19 : decode cX0_putBit 19 = .ok (.getfield 15, 3) := by decide +kernel
theorem dX0_putBit_22 : decode cX0_putBit 22 = .ok (.bipush 8, 2) := by decide +kernel
theorem dX0_putBit_24 : decode cX0_putBit 24 = .ok (.irem, 1) := by decide +kernel
theorem dX0_putBit_25 : decode cX0_putBit 25 = .ok (.ifCond .ne 10, 3) := by decide +kernel
theorem dX0_putBit_28 : decode cX0_putBit 28 = .ok (.aload_n 0, 1) := by decide +kernel
theorem dX0_putBit_29 : decode cX0_putBit 29 = .ok (.getfield 9, 3) := by decide +kernel
theorem dX0_putBit_32 : decode cX0_putBit 32 = .ok (.iload_n 2, 1) := by decide +kernel
theorem dX0_putBit_33 : decode cX0_putBit 33 = .ok (.iconst 0, 1) := by decide +kernel
theorem dX0_putBit_34 : decode cX0_putBit 34 = .ok (.iastore, 1) := by decide +kernel
theorem dX0_putBit_35 : decode cX0_putBit 35 = .ok (.aload_n 0, 1) := by decide +kernel
theorem dX0_putBit_36 : decode cX0_putBit 36 = .ok (.getfield 9, 3) := by decide +kernel
theorem dX0_putBit_39 : decode cX0_putBit 39 = .ok (.iload_n 2, 1) := by decide +kernel
theorem dX0_putBit_40 : decode cX0_putBit 40 = .ok (.dup2, 1) := by decide +kernel
theorem dX0_putBit_41 : decode cX0_putBit 41 = .ok (.iaload, 1) := by decide +kernel
theorem dX0_putBit_42 : decode cX0_putBit 42 = .ok (.iload_n 1, 1) := by decide +kernel
theorem dX0_putBit_43 : decode cX0_putBit 43 = .ok (.bipush 7, 2) := by decide +kernel
theorem dX0_putBit_45 : decode cX0_putBit 45 = .ok (.aload_n 0, 1) := by decide +kernel
theorem dX0_putBit_46 : decode cX0_putBit 46 = .ok (.getfield 15, 3) := by decide +kernel
theorem dX0_putBit_49 : decode cX0_putBit 49 = .ok (.bipush 8, 2) := by decide +kernel
theorem dX0_putBit_51 : decode cX0_putBit 51 = .ok (.irem, 1) := by decide +kernel
theorem dX0_putBit_52 : decode cX0_putBit 52 = .ok (.isub, 1) := by decide +kernel
theorem dX0_putBit_53 : decode cX0_putBit 53 = .ok (.ishl, 1) := by decide +kernel
theorem dX0_putBit_54 : decode cX0_putBit 54 = .ok (.ior, 1) := by decide +kernel
theorem dX0_putBit_55 : decode cX0_putBit 55 = .ok (.iastore, 1) := by decide +kernel
theorem dX0_putBit_56 : decode cX0_putBit 56 = .ok (.aload_n 0, 1) := by decide +kernel
theorem dX0_putBit_57 : decode cX0_putBit 57 = .ok (.dup, 1) := by decide +kernel
theorem dX0_putBit_58 : decode cX0_putBit 58 = .ok (.getfield 15, 3) := by decide +kernel
theorem dX0_putBit_61 : decode cX0_putBit 61 = .ok (.iconst 1, 1) := by decide +kernel
theorem dX0_putBit_62 : decode cX0_putBit 62 = .ok (.iadd, 1) := by decide +kernel
theorem dX0_putBit_63 : decode cX0_putBit 63 = .ok (.putfield 15, 3) := by decide +kernel
theorem dX0_putBit_66 : decode cX0_putBit 66 = .ok (.return_, 1) := by decide +kernel
theorem dX1_init_0 : decode cX1_init 0 = .ok (.aload_n 0, 1) := by decide +kernel
theorem dX1_init_1 : decode cX1_init 1 = .ok (.invokespecial 3, 3) := by decide +kernel
theorem dX1_init_4 : decode cX1_init 4 = .ok (.aload_n 0, 1) := by decide +kernel
theorem dX1_init_5 : decode cX1_init 5 = .ok (.iload_n 1, 1) := by decide +kernel
theorem dX1_init_6 : decode cX1_init 6 = .ok (.newarray .int, 2) := by decide +kernel
theorem dX1_init_8 : decode cX1_init 8 = .ok (.putfield 9, 3) := by decide +kernel
theorem dX1_init_11 : decode cX1_init 11 = .ok (.aload_n 0, 1) := by decide +kernel
theorem dX1_init_12 : decode cX1_init 12 = .ok (.iconst 0, 1) := by decide +kernel
theorem dX1_init_13 : decode cX1_init 13 = .ok (.putfield 15, 3) := by decide +kernel
theorem dX1_init_16 : decode cX1_init 16 = .ok (.return_, 1) := by decide +kernel
theorem dX1_size_0 : decode cX1_size 0 = .ok (.aload_n 0, 1) := by decide +kernel
theorem dX1_size_1 : decode cX1_size 1 = .ok (.getfield 15, 3) := by decide +kernel
theorem dX1_size_4 : decode cX1_size 4 = .ok (.ireturn, 1) := by decide +kernel
theorem dX1_get_0 : decode cX1_get 0 = .ok (.iload_n 1, 1) := by decide +kernel
theorem dX1_get_1 : decode cX1_get 1 = .ok (.ifCond .lt 20, 3) := by decide +kernel
theorem dX1_get_4 : decode cX1_get 4 = .ok (.iload_n 1, 1) := by decide +kernel
theorem dX1_get_5 : decode cX1_get 5 = .ok (.aload_n 0, 1) := by decide +kernel
theorem dX1_get_6 : decode cX1_get 6 = .ok (.getfield 15, 3) := by decide +kernel
theorem dX1_get_9 : decode cX1_get 9 = .ok (.if_icmp .ge 12, 3) := by decide +kernel
theorem dX1_get_12 : decode cX1_get 12 = .ok (.aload_n 0, 1) := by decide +kernel
theorem dX1_get_13 : decode cX1_get 13 = .ok (.getfield 9, 3) := by decide +kernel
theorem dX1_get_16 : decode cX1_get 16 = .ok (.iload_n 1, 1) := by decide +kernel
theorem dX1_get_17 : decode cX1_get 17 = .ok (.iaload, 1) := by decide +kernel
theorem dX1_get_18 : decode cX1_get 18 = .ok (.goto 4, 3) := by decide +kernel
theorem dX1_get_21 : decode cX1_get 21 = .ok (.iconst (-1), 1) := by decide +kernel
theorem dX1_get_22 : decode cX1_get 22 = .ok (.ireturn, 1) := by decide +kernel
theorem dX1_empty_0 : decode cX1_empty 0 = .ok (.aload_n 0, 1) := by decide +kernel
theorem dX1_empty_1 : decode cX1_empty 1 = .ok (.iconst 0, 1) := by decide +kernel
theorem dX1_empty_2 : decode cX1_empty 2 = .ok (.putfield 15, 3) := by decide +kernel
theorem dX1_empty_5 : decode cX1_empty 5 = .ok (.return_, 1) := by decide +kernel
theorem dX1_add_0 : decode cX1_add 0 = .ok (.aload_n 0, 1) := by decide +kernel
theorem dX1_add_1 : decode cX1_add 1 = .ok (.getfield 15, 3) := by decide +kernel
theorem dX1_add_4 : decode cX1_add 4 = .ok (.aload_n 0, 1) := by decide +kernel
theorem dX1_add_5 : decode cX1_add 5 = .ok (.getfield 9, 3) := by decide +kernel
theorem dX1_add_8 : decode cX1_add 8 = .ok (.arraylength, 1) := by decide +kernel
theorem dX1_add_9 : decode cX1_add 9 = .ok (.if_icmp .ge 27, 3) := by decide +kernel
theorem dX1_add_12 : decode cX1_add 12 = .ok (.aload_n 0, 1) := by decide +kernel
theorem dX1_add_13 : decode cX1_add 13 = .ok (.getfield 9, 3) := by decide +kernel
theorem dX1_add_16 : decode cX1_add 16 = .ok (.aload_n 0, 1) := by decide +kernel
theorem dX1_add_17 : decode cX1_add 17 = .ok (.getfield 15, 3) := by decide +kernel
theorem dX1_add_20 : decode cX1_add 20 = .ok (.iload_n 1, 1) := by decide +kernel
theorem dX1_add_21 : decode cX1_add 21 = .ok (.sipush 255, 3) := by decide +kernel
theorem dX1_add_24 : decode cX1_add 24 = .ok (.iand, 1) := by decide +kernel
theorem dX1_add_25 : decode cX1_add 25 = .ok (.iastore, 1) := by decide +kernel
theorem dX1_add_26 : decode cX1_add 26 = .ok (.aload_n 0, 1) := by decide +kernel
theorem dX1_add_27 : decode cX1_add 27 = .ok (.dup, 1) := by decide +kernel
theorem dX1_add_28 : decode cX1_add 28 = .ok (.getfield 15, 3) := by decide +kernel
theorem dX1_add_31 : decode cX1_add 31 = .ok (.iconst 1, 1) := by decide +kernel
theorem dX1_add_32 : decode cX1_add 32 = .ok (.iadd, 1) := by decide +kernel
theorem dX1_add_33 : decode cX1_add 33 = .ok (.putfield 15, 3) := by decide +kernel
theorem dX1_add_36 : decode cX1_add 36 = .ok (.return_, 1) := by decide +kernel
set_option maxRecDepth 20000 in
theorem ggX1_addLowest_X1_add : GoodIn wsX1_addLowest wsX1_add := goodIn_r _ [7, 2, 1, 8, 9] (by decide +kernel) (by decide +kernel)
set_option maxRecDepth 20000 in
theorem gX1_addLowest_X1_add : GoodIn wsX1_addLowest (wsV RX1 19 RX1 yX1_add wsX1_add) := goodIn_app (goodIn_of _ (by decide +kernel)) ggX1_addLowest_X1_add
theorem dX1_addLowest_0 : decode cX1_addLowest 0 = .ok (.iload_n 3, 1) := by decide +kernel
theorem dX1_addLowest_1 : decode cX1_addLowest 1 = .ok (.iconst 1, 1) := by decide +kernel
theorem dX1_addLowest_2 : decode cX1_addLowest 2 = .ok (.if_icmp .lt 23, 3) := by decide +kernel
theorem dX1_addLowest_5 : decode cX1_addLowest 5 = .ok (.iload_n 3, 1) := by decide +kernel
theorem dX1_addLowest_6 : decode cX1_addLowest 6 = .ok (.bipush 8, 2) := by decide +kernel
theorem dX1_addLowest_8 : decode cX1_addLowest 8 = .ok (.if_icmp .gt 17, 3) := by decide +kernel
theorem dX1_addLowest_11 : decode cX1_addLowest 11 = .ok (.iload_n 3, 1) := by decide +kernel
theorem dX1_addLowest_12 : decode cX1_addLowest 12 = .ok (.aload_n 0, 1) := by decide +kernel
theorem dX1_addLowest_13 : decode cX1_addLowest 13 = .ok (.getfield 9, 3) := by decide +kernel
theorem dX1_addLowest_16 : decode cX1_addLowest 16 = .ok (.arraylength, 1) := by decide +kernel
theorem dX1_addLowest_17 : decode cX1_addLowest 17 = .ok (.aload_n 0, 1) := by decide +kernel
theorem dX1_addLowest_18 : decode cX1_addLowest 18 = .ok (.getfield 15, 3) := by decide +kernel
theorem dX1_addLowest_21 : decode cX1_addLowest 21 = .ok (.isub, 1) := by decide +kernel
theorem dX1_addLowest_22 : decode cX1_addLowest 22 = .ok (.if_icmp .le 5, 3) := by decide +kernel
theorem dX1_addLowest_25 : decode cX1_addLowest 25 = .ok (.iconst (-1), 1) := by decide +kernel
theorem dX1_addLowest_26 : decode cX1_addLowest 26 = .ok (.ireturn, 1) := by decide +kernel
theorem dX1_addLowest_27 : decode cX1_addLowest 27 = .ok (.iload_n 3, 1) := by decide +kernel
theorem dX1_addLowest_28 : decode cX1_addLowest 28 = .ok (.iconst 1, 1) := by decide +kernel
theorem dX1_addLowest_29 : decode cX1_addLowest 29 = .ok (.isub, 1) := by decide +kernel
theorem dX1_addLowest_30 : decode cX1_addLowest 30 = .ok (.istore 4, 2) := by decide +kernel
theorem dX1_addLowest_32 : decode cX1_addLowest 32 = .ok (.iload 4, 2) := by decide +kernel
theorem dX1_addLowest_34 : decode cX1_addLowest 34 = .ok (.ifCond .lt 21, 3) := by decide +kernel
theorem dX1_addLowest_37 : decode cX1_addLowest 37 = .ok (.aload_n 0, 1) := by decide +kernel
theorem dX1_addLowest_38 : decode cX1_addLowest 38 = .ok (.lload_n 1, 1) := by decide +kernel
theorem dX1_addLowest_39 : decode cX1_addLowest 39 = .ok (.bipush 8, 2) := by decide +kernel
theorem dX1_addLowest_41 : decode cX1_addLowest 41 = .ok (.iload 4, 2) := by decide +kernel
theorem dX1_addLowest_43 : decode cX1_addLowest 43 = .ok (.imul, 1) := by decide +kernel
theorem dX1_addLowest_44 : decode cX1_addLowest 44 = .ok (.lushr, 1) := by decide +kernel
theorem dX1_addLowest_45 : decode cX1_addLowest 45 = .ok (.l2i, 1) := by decide +kernel
theorem dX1_addLowest_46 : decode cX1_addLowest 46 = .ok (.invokevirtual 19, 3) := by decide +kernel
theorem dX1_addLowest_49 : decode cX1_addLowest 49 = .ok (.iinc 4 (-1), 3) := by decide +kernel
theorem dX1_addLowest_52 : decode cX1_addLowest 52 = .ok (.goto (-20), 3) := by decide +kernel
theorem dX1_addLowest_55 : decode cX1_addLowest 55 = .ok (.aload_n 0, 1) := by decide +kernel
theorem dX1_addLowest_56 : decode cX1_addLowest 56 = .ok (.getfield 15, 3) := by decide +kernel
theorem dX1_addLowest_59 : decode cX1_addLowest 59 = .ok (.ireturn, 1) := by decide +kernel
set_option maxRecDepth 20000 in
theorem ggX1_addTimes_X1_add : GoodIn wsX1_addTimes wsX1_add := goodIn_r _ [7, 2, 1, 8, 9] (by decide +kernel) (by decide +kernel)
set_option maxRecDepth 20000 in
theorem gX1_addTimes_X1_add : GoodIn wsX1_addTimes (wsV RX1 19 RX1 yX1_add wsX1_add) := goodIn_app (goodIn_of _ (by decide +kernel)) ggX1_addTimes_X1_add
theorem dX1_addTimes_0 : decode cX1_addTimes 0 = .ok (.iload_n 2, 1) := by decide +kernel
theorem dX1_addTimes_1 : decode cX1_addTimes 1 = .ok (.iconst 1, 1) := by decide +kernel
theorem dX1_addTimes_2 : decode cX1_addTimes 2 = .ok (.if_icmp .lt 17, 3) := by decide +kernel
theorem dX1_addTimes_5 : decode cX1_addTimes 5 = .ok (.iload_n 2, 1) := by decide +kernel
theorem dX1_addTimes_6 : decode cX1_addTimes 6 = .ok (.aload_n 0, 1) := by decide +kernel
theorem dX1_addTimes_7 : decode cX1_addTimes 7 = .ok (.getfield 9, 3) := by decide +kernel
theorem dX1_addTimes_10 : decode cX1_addTimes 10 = .ok (.arraylength, 1) := by decide +kernel
theorem dX1_addTimes_11 : decode cX1_addTimes 11 = .ok (.aload_n 0, 1) := by decide +kernel
theorem dX1_addTimes_12 : decode cX1_addTimes 12 = .ok (.getfield 15, 3) := by decide +kernel
theorem dX1_addTimes_15 : decode cX1_addTimes 15 = .ok (.isub, 1) := by decide +kernel
theorem dX1_addTimes_16 : decode cX1_addTimes 16 = .ok (.if_icmp .le 5, 3) := by decide +kernel
theorem dX1_addTimes_19 : decode cX1_addTimes 19 = .ok (.iconst (-1), 1) := by decide +kernel
theorem dX1_addTimes_20 : decode cX1_addTimes 20 = .ok (.ireturn, 1) := by decide +kernel
theorem dX1_addTimes_21 : decode cX1_addTimes 21 = .ok (.iconst 0, 1) := by decide +kernel
theorem dX1_addTimes_22 : decode cX1_addTimes 22 = .ok (.istore_n 3, 1) := by decide +kernel
theorem dX1_addTimes_23 : decode cX1_addTimes 23 = .ok (.iload_n 3, 1) := by decide +kernel
theorem dX1_addTimes_24 : decode cX1_addTimes 24 = .ok (.iload_n 2, 1) := by decide +kernel
theorem dX1_addTimes_25 : decode cX1_addTimes 25 = .ok (.if_icmp .ge 14, 3) := by decide +kernel
theorem dX1_addTimes_28 : decode cX1_addTimes 28 = .ok (.aload_n 0, 1) := by decide +kernel
theorem dX1_addTimes_29 : decode cX1_addTimes 29 = .ok (.iload_n 1, 1) := by decide +kernel
theorem dX1_addTimes_30 : decode cX1_addTimes 30 = .ok (.invokevirtual 19, 3) := by decide +kernel
theorem dX1_addTimes_33 : decode cX1_addTimes 33 = .ok (.iinc 3 1, 3) := by decide +kernel
theorem dX1_addTimes_36 : decode cX1_addTimes 36 = .ok (.goto (-13), 3) := by decide +kernel
theorem dX1_addTimes_39 : decode cX1_addTimes 39 = .ok (.aload_n 0, 1) := by decide +kernel
theorem dX1_addTimes_40 : decode cX1_addTimes 40 = .ok (.getfield 15, 3) := by decide +kernel
theorem dX1_addTimes_43 : decode cX1_addTimes 43 = .ok (.ireturn, 1) := by decide +kernel
set_option maxRecDepth 20000 in
theorem ggX1_addAgain_X1_get : GoodIn wsX1_addAgain wsX1_get := goodIn_r _ [6, 1, 7, 12, 13] (by decide +kernel) (by decide +kernel)
set_option maxRecDepth 20000 in
theorem gX1_addAgain_X1_get : GoodIn wsX1_addAgain (wsV RX1 23 RX1 yX1_get wsX1_get) := goodIn_app (goodIn_of _ (by decide +kernel)) ggX1_addAgain_X1_get
set_option maxRecDepth 20000 in
theorem ggX1_addAgain_X1_add : GoodIn wsX1_addAgain wsX1_add := goodIn_r _ [11, 1, 7, 12, 13] (by decide +kernel) (by decide +kernel)
set_option maxRecDepth 20000 in
theorem gX1_addAgain_X1_add : GoodIn wsX1_addAgain (wsV RX1 19 RX1 yX1_add wsX1_add) := goodIn_app (goodIn_of _ (by decide +kernel)) ggX1_addAgain_X1_add
theorem dX1_addAgain_0 : decode cX1_addAgain 0 = .ok (.iconst 0, 1) := by decide +kernel
theorem dX1_addAgain_1 : decode cX1_addAgain 1 = .ok (.istore_n 3, 1) := by decide +kernel
theorem dX1_addAgain_2 : decode cX1_addAgain 2 = .ok (.iload_n 3, 1) := by decide +kernel
theorem dX1_addAgain_3 : decode cX1_addAgain 3 = .ok (.iload_n 2, 1) := by decide +kernel
theorem dX1_addAgain_4 : decode cX1_addAgain 4 = .ok (.if_icmp .ge 23, 3) := by decide +kernel
theorem dX1_addAgain_7 : decode cX1_addAgain 7 = .ok (.aload_n 0, 1) := by decide +kernel
theorem dX1_addAgain_8 : decode cX1_addAgain 8 = .ok (.aload_n 0, 1) := by decide +kernel
theorem dX1_addAgain_9 : decode cX1_addAgain 9 = .ok (.aload_n 0, 1) := by decide +kernel
theorem dX1_addAgain_10 : decode cX1_addAgain 10 = .ok (.getfield 15, 3) := by decide +kernel
theorem dX1_addAgain_13 : decode cX1_addAgain 13 = .ok (.iload_n 1, 1) := by decide +kernel
theorem dX1_addAgain_14 : decode cX1_addAgain 14 = .ok (.isub, 1) := by decide +kernel
theorem dX1_addAgain_15 : decode cX1_addAgain 15 = .ok (.invokevirtual 23, 3) := by decide +kernel
theorem dX1_addAgain_18 : decode cX1_addAgain 18 = .ok (.invokevirtual 19, 3) := by decide +kernel
theorem dX1_addAgain_21 : decode cX1_addAgain 21 = .ok (.iinc 3 1, 3) := by decide +kernel
theorem dX1_addAgain_24 : decode cX1_addAgain 24 = .ok (.goto (-22), 3) := by decide +kernel
theorem dX1_addAgain_27 : decode cX1_addAgain 27 = .ok (.return_, 1) := by decide +kernel
theorem dX1_copyOf_0 : decode cX1_copyOf 0 = .ok (.aload_n 0, 1) := by decide +kernel
theorem dX1_copyOf_1 : decode cX1_copyOf 1 = .ok (.aload_n 1, 1) := by decide +kernel
theorem dX1_copyOf_2 : decode cX1_copyOf 2 = .ok (.getfield 15, 3) := by decide +kernel
theorem dX1_copyOf_5 : decode cX1_copyOf 5 = .ok (.aload_n 0, 1) := by decide +kernel
theorem dX1_copyOf_6 : decode cX1_copyOf 6 = .ok (.getfield 9, 3) := by decide +kernel
theorem dX1_copyOf_9 : decode cX1_copyOf 9 = .ok (.arraylength, 1) := by decide +kernel
theorem dX1_copyOf_10 : decode cX1_copyOf 10 = .ok (.invokestatic 27, 3) := by decide +kernel
theorem dX1_copyOf_13 : decode cX1_copyOf 13 = .ok (.putfield 15, 3) := by decide +kernel
theorem dX1_copyOf_16 : decode cX1_copyOf 16 = .ok (.aload_n 1, 1) := by decide +kernel
theorem dX1_copyOf_17 : decode cX1_copyOf 17 = .ok (.getfield 9, 3) := by decide +kernel
theorem dX1_copyOf_20 : decode cX1_copyOf 20 = .ok (.iconst 0, 1) := by decide +kernel
theorem dX1_copyOf_21 : decode cX1_copyOf 21 = .ok (.aload_n 0, 1) := by decide +kernel
theorem dX1_copyOf_22 : decode cX1_copyOf 22 = .ok (.getfield 9, 3) := by decide +kernel
theorem dX1_copyOf_25 : decode cX1_copyOf 25 = .ok (.iconst 0, 1) := by decide +kernel
theorem dX1_copyOf_26 : decode cX1_copyOf 26 = .ok (.aload_n 0, 1) := by decide +kernel
theorem dX1_copyOf_27 : decode cX1_copyOf 27 = .ok (.getfield 15, 3) := by decide +kernel
theorem dX1_copyOf_30 : decode cX1_copyOf 30 = .ok (.invokestatic 33, 3) := by decide +kernel
theorem dX1_copyOf_33 : decode cX1_copyOf 33 = .ok (.return_, 1) := by decide +kernel
theorem dX1_sameAs_0 : decode cX1_sameAs 0 = .ok (.aload_n 0, 1) := by decide +kernel
theorem dX1_sameAs_1 : decode cX1_sameAs 1 = .ok (.getfield 15, 3) := by decide +kernel
theorem dX1_sameAs_4 : decode cX1_sameAs 4 = .ok (.aload_n 1, 1) := by decide +kernel
theorem dX1_sameAs_5 : decode cX1_sameAs 5 = .ok (.getfield 15, 3) := by decide +kernel
theorem dX1_sameAs_8 : decode cX1_sameAs 8 = .ok (.if_icmp .eq 5, 3) := by decide +kernel
theorem dX1_sameAs_11 : decode cX1_sameAs 11 = .ok (.iconst 0, 1) := by decide +kernel
theorem dX1_sameAs_12 : decode cX1_sameAs 12 = .ok (.ireturn, 1) := by decide +kernel
theorem dX1_sameAs_13 : decode cX1_sameAs 13 = .ok (.iconst 0, 1) := by decide +kernel
theorem dX1_sameAs_14 : decode cX1_sameAs 14 = .ok (.istore_n 2, 1) := by decide +kernel
theorem dX1_sameAs_15 : decode cX1_sameAs 15 = .ok (.iload_n 2, 1) := by decide +kernel
theorem dX1_sameAs_16 : decode cX1_sameAs 16 = .ok (.aload_n 0, 1) := by decide +kernel
theorem dX1_sameAs_17 : decode cX1_sameAs 17 = .ok (.getfield 15, 3) := by decide +kernel
theorem dX1_sameAs_20 : decode cX1_sameAs 20 = .ok (.if_icmp .ge 26, 3) := by decide +kernel
theorem dX1_sameAs_23 : decode cX1_sameAs 23 = .ok (.aload_n 0, 1) := by decide +kernel
theorem dX1_sameAs_24 : decode cX1_sameAs 24 = .ok (.getfield 9, 3) := by decide +kernel
theorem dX1_sameAs_27 : decode cX1_sameAs 27 = .ok (.iload_n 2, 1) := by decide +kernel
theorem dX1_sameAs_28 : decode cX1_sameAs 28 = .ok (.iaload, 1) := by decide +kernel
theorem dX1_sameAs_29 : decode cX1_sameAs 29 = .ok (.aload_n 1, 1) := by decide +kernel
theorem dX1_sameAs_30 : decode cX1_sameAs 30 = .ok (.getfield 9, 3) := by decide +kernel
theorem dX1_sameAs_33 : decode cX1_sameAs 33 = .ok (.iload_n 2, 1) := by decide +kernel
theorem dX1_sameAs_34 : decode cX1_sameAs 34 = .ok (.iaload, 1) := by decide +kernel
theorem dX1_sameAs_35 : decode cX1_sameAs 35 = .ok (.if_icmp .eq 5, 3) := by decide +kernel
theorem dX1_sameAs_38 : decode cX1_sameAs 38 = .ok (.iconst 0, 1) := by decide +kernel
theorem dX1_sameAs_39 : decode cX1_sameAs 39 = .ok (.ireturn, 1) := by decide +kernel
theorem dX1_sameAs_40 : decode cX1_sameAs 40 = .ok (.iinc 2 1, 3) := by decide +kernel
theorem dX1_sameAs_43 : decode cX1_sameAs 43 = .ok (.goto (-28), 3) := by decide +kernel
theorem dX1_sameAs_46 : decode cX1_sameAs 46 = .ok (.iconst 1, 1) := by decide +kernel
theorem dX1_sameAs_47 : decode cX1_sameAs 47 = .ok (.ireturn, 1) := by decide +kernel
theorem dX1_repeats_0 : decode cX1_repeats 0 = .ok (.iload_n 2, 1) := by decide +kernel
theorem dX1_repeats_1 : decode cX1_repeats 1 = .ok (.iconst 1, 1) := by decide +kernel
theorem dX1_repeats_2 : decode cX1_repeats 2 = .ok (.if_icmp .lt 18, 3) := by decide +kernel
theorem dX1_repeats_5 : decode cX1_repeats 5 = .ok (.iload_n 2, 1) := by decide +kernel
theorem dX1_repeats_6 : decode cX1_repeats 6 = .ok (.iload_n 1, 1) := by decide +kernel
theorem dX1_repeats_7 : decode cX1_repeats 7 = .ok (.if_icmp .gt 13, 3) := by decide +kernel
theorem dX1_repeats_10 : decode cX1_repeats 10 = .ok (.iload_n 3, 1) := by decide +kernel
theorem dX1_repeats_11 : decode cX1_repeats 11 = .ok (.aload_n 0, 1) := by decide +kernel
theorem dX1_repeats_12 : decode cX1_repeats 12 = .ok (.getfield 15, 3) := by decide +kernel
theorem dX1_repeats_15 : decode cX1_repeats 15 = .ok (.iload_n 1, 1) := by decide +kernel
theorem dX1_repeats_16 : decode cX1_repeats 16 = .ok (.isub, 1) := by decide +kernel
theorem dX1_repeats_17 : decode cX1_repeats 17 = .ok (.if_icmp .le 5, 3) := by decide +kernel
theorem dX1_repeats_20 : decode cX1_repeats 20 = .ok (.iconst 0, 1) := by decide +kernel
theorem dX1_repeats_21 : decode cX1_repeats 21 = .ok (.ireturn, 1) := by decide +kernel
theorem dX1_repeats_22 : decode cX1_repeats 22 = .ok (.iload_n 1, 1) := by decide +kernel
theorem dX1_repeats_23 : decode cX1_repeats 23 = .ok (.istore 4, 2) := by decide +kernel
theorem dX1_repeats_25 : decode cX1_repeats 25 = .ok (.iload 4, 2) := by decide +kernel
theorem dX1_repeats_27 : decode cX1_repeats 27 = .ok (.iload_n 1, 1) := by decide +kernel
theorem dX1_repeats_28 : decode cX1_repeats 28 = .ok (.iload_n 3, 1) := by decide +kernel
theorem dX1_repeats_29 : decode cX1_repeats 29 = .ok (.iadd, 1) := by decide +kernel
theorem dX1_repeats_30 : decode cX1_repeats 30 = .ok (.if_icmp .ge 30, 3) := by decide +kernel
theorem dX1_repeats_33 : decode cX1_repeats 33 = .ok (.aload_n 0, 1) := by decide +kernel
theorem dX1_repeats_34 : decode cX1_repeats 34 = .ok (.getfield 9, 3) := by decide +kernel
theorem dX1_repeats_37 : decode cX1_repeats 37 = .ok (.iload 4, 2) := by decide +kernel
theorem dX1_repeats_39 : decode cX1_repeats 39 = .ok (.iaload, 1) := by decide +kernel
theorem dX1_repeats_40 : decode cX1_repeats 40 = .ok (.aload_n 0, 1) := by decide +kernel
theorem dX1_repeats_41 : decode cX1_repeats 41 = .ok (.getfield 9, 3) := by decide +kernel
theorem dX1_repeats_44 : decode cX1_repeats 44 = .ok (.iload 4, 2) := by decide +kernel
theorem dX1_repeats_46 : decode cX1_repeats 46 = .ok (.iload_n 2, 1) := by decide +kernel
theorem dX1_repeats_47 : decode cX1_repeats 47 = .ok (.isub, 1) := by decide +kernel
theorem dX1_repeats_48 : decode cX1_repeats 48 = .ok (.iaload, 1) := by decide +kernel
theorem dX1_repeats_49 : decode cX1_repeats 49 = .ok (.if_icmp .eq 5, 3) := by decide +kernel
theorem dX1_repeats_52 : decode cX1_repeats 52 = .ok (.iconst 0, 1) := by decide +kernel
theorem dX1_repeats_53 : decode cX1_repeats 53 = .ok (.ireturn, 1) := by decide +kernel
theorem dX1_repeats_54 : decode cX1_repeats 54 = .ok (.iinc 4 1, 3) := by decide +kernel
theorem dX1_repeats_57 : decode cX1_repeats 57 = .ok (.goto (-32), 3) := by decide +kernel
theorem dX1_repeats_60 : decode cX1_repeats 60 = .ok (.iconst 1, 1) := by decide +kernel
theorem dX1_repeats_61 : decode cX1_repeats 61 = .ok (.ireturn, 1) := by decide +kernel
theorem dX2_init_0 : decode cX2_init 0 = .ok (.aload_n 0, 1) := by decide +kernel
theorem dX2_init_1 : decode cX2_init 1 = .ok (.invokespecial 3, 3) := by decide +kernel
theorem dX2_init_4 : decode cX2_init 4 = .ok (.aload_n 0, 1) := by decide +kernel
theorem dX2_init_5 : decode cX2_init 5 = .ok (.aload_n 1, 1) := by decide +kernel
theorem dX2_init_6 : decode cX2_init 6 = .ok (.putfield 9, 3) := by decide +kernel
theorem dX2_init_9 : decode cX2_init 9 = .ok (.aload_n 0, 1) := by decide +kernel
theorem dX2_init_10 : decode cX2_init 10 = .ok (.aload_n 2, 1) := by decide +kernel
theorem dX2_init_11 : decode cX2_init 11 = .ok (.putfield 15, 3) := by decide +kernel
theorem dX2_init_14 : decode cX2_init 14 = .ok (.aload_n 0, 1) := by decide +kernel
theorem dX2_init_15 : decode cX2_init 15 = .ok (.aload_n 3, 1) := by decide +kernel
theorem dX2_init_16 : decode cX2_init 16 = .ok (.putfield 19, 3) := by decide +kernel
theorem dX2_init_19 : decode cX2_init 19 = .ok (.aload_n 0, 1) := by decide +kernel
theorem dX2_init_20 : decode cX2_init 20 = .ok (.aload 4, 2) := by decide +kernel
theorem dX2_init_22 : decode cX2_init 22 = .ok (.putfield 23, 3) := by decide +kernel
theorem dX2_init_25 : decode cX2_init 25 = .ok (.aload_n 0, 1) := by decide +kernel
theorem dX2_init_26 : decode cX2_init 26 = .ok (.sipush 501, 3) := by decide +kernel
theorem dX2_init_29 : decode cX2_init 29 = .ok (.newarray .int, 2) := by decide +kernel
theorem dX2_init_31 : decode cX2_init 31 = .ok (.putfield 27, 3) := by decide +kernel
theorem dX2_init_34 : decode cX2_init 34 = .ok (.aload_n 0, 1) := by decide +kernel
theorem dX2_init_35 : decode cX2_init 35 = .ok (.sipush 500, 3) := by decide +kernel
theorem dX2_init_38 : decode cX2_init 38 = .ok (.newarray .int, 2) := by decide +kernel
theorem dX2_init_40 : decode cX2_init 40 = .ok (.putfield 31, 3) := by decide +kernel
theorem dX2_init_43 : decode cX2_init 43 = .ok (.aload_n 0, 1) := by decide +kernel
theorem dX2_init_44 : decode cX2_init 44 = .ok (.sipush 500, 3) := by decide +kernel
theorem dX2_init_47 : decode cX2_init 47 = .ok (.newarray .int, 2) := by decide +kernel
theorem dX2_init_49 : decode cX2_init 49 = .ok (.putfield 34, 3) := by decide +kernel
theorem dX2_init_52 : decode cX2_init 52 = .ok (.aload_n 0, 1) := by decide +kernel
theorem dX2_init_53 : decode cX2_init 53 = .ok (.sipush 256, 3) := by decide +kernel
theorem dX2_init_56 : decode cX2_init 56 = .ok (.newarray .int, 2) := by decide +kernel
theorem dX2_init_58 : decode cX2_init 58 = .ok (.putfield 37, 3) := by decide +kernel
theorem dX2_init_61 : decode cX2_init 61 = .ok (.aload_n 0, 1) := by decide +kernel
theorem dX2_init_62 : decode cX2_init 62 = .ok (.sipush 256, 3) := by decide +kernel
theorem dX2_init_65 : decode cX2_init 65 = .ok (.newarray .int, 2) := by decide +kernel
theorem dX2_init_67 : decode cX2_init 67 = .ok (.putfield 40, 3) := by decide +kernel
theorem dX2_init_70 : decode cX2_init 70 = .ok (.return_, 1) := by decide +kernel
set_option maxRecDepth 20000 in
theorem ggX2_build_X5_least : GoodIn wsX2_build wsX5_least := goodIn_r _ [10, 11, 89, 90, 91] (by decide +kernel) (by decide +kernel)
set_option maxRecDepth 20000 in
theorem gX2_build_X5_least : GoodIn wsX2_build (wsV RX2 43 RX5 yX5_least wsX5_least) := goodIn_app (goodIn_of _ (by decide +kernel)) ggX2_build_X5_least
set_option maxRecDepth 20000 in
theorem ggX2_build_X5_most : GoodIn wsX2_build wsX5_most := goodIn_r _ [15, 16, 89, 90, 91] (by decide +kernel) (by decide +kernel)
set_option maxRecDepth 20000 in
theorem gX2_build_X5_most : GoodIn wsX2_build (wsV RX2 48 RX5 yX5_most wsX5_most) := goodIn_app (goodIn_of _ (by decide +kernel)) ggX2_build_X5_most
set_option maxRecDepth 20000 in
theorem ggX2_build_X7_ofLength : GoodIn wsX2_build wsX7_ofLength := goodIn_r _ [21, 22, 23, 24, 25, 26, 27, 28, 29, 30, 92, 93, 94, 95] (by decide +kernel) (by decide +kernel)
set_option maxRecDepth 20000 in
theorem gX2_build_X7_ofLength : GoodIn wsX2_build (wsV RX2 51 RX7 yX7_ofLength wsX7_ofLength) := goodIn_app (goodIn_of _ (by decide +kernel)) ggX2_build_X7_ofLength
set_option maxRecDepth 20000 in
theorem ggX2_build_X1_size : GoodIn wsX2_build wsX1_size := goodIn_r _ [35, 36, 96, 97] (by decide +kernel) (by decide +kernel)
set_option maxRecDepth 20000 in
theorem gX2_build_X1_size : GoodIn wsX2_build (wsV RX2 57 RX1 yX1_size wsX1_size) := goodIn_app (goodIn_of _ (by decide +kernel)) ggX2_build_X1_size
set_option maxRecDepth 20000 in
theorem ggX2_build_X2_chooseStep : GoodIn wsX2_build wsX2_chooseStep := goodIn_r _ [41, 42, 43, 1, 44, 45, 25, 26, 27, 2, 4, 3, 5, 46, 47, 48, 49, 50, 51, 52, 53, 54, 55, 32, 33, 34, 35, 36, 56, 57, 58, 40, 59, 60, 61, 62, 63, 64, 65, 66, 67, 20, 68, 69, 24, 6, 7, 8, 9, 10, 11, 70, 71, 72, 73, 74, 75, 76, 77, 78, 79, 80, 81, 82, 83, 84, 85, 86, 87, 88, 98, 99, 100, 101, 102, 103, 104, 96, 97, 92, 93, 94, 95, 89, 90, 91] (by decide +kernel) (by decide +kernel)
set_option maxRecDepth 20000 in
theorem gX2_build_X2_chooseStep : GoodIn wsX2_build (wsV RX2 62 RX2 yX2_chooseStep wsX2_chooseStep) := goodIn_app (goodIn_of _ (by decide +kernel)) ggX2_build_X2_chooseStep
theorem dX2_build_0 : decode cX2_build 0 = .ok (.aload_n 0, 1) := by decide +kernel
theorem dX2_build_1 : decode cX2_build 1 = .ok (.getfield 15, 3) := by decide +kernel
theorem dX2_build_4 : decode cX2_build 4 = .ok (.invokevirtual 43, 3) := by decide +kernel
theorem dX2_build_7 : decode cX2_build 7 = .ok (.istore_n 1, 1) := by decide +kernel
theorem dX2_build_8 : decode cX2_build 8 = .ok (.iload_n 1, 1) := by decide +kernel
theorem dX2_build_9 : decode cX2_build 9 = .ok (.aload_n 0, 1) := by decide +kernel
theorem dX2_build_10 : decode cX2_build 10 = .ok (.getfield 15, 3) := by decide +kernel
theorem dX2_build_13 : decode cX2_build 13 = .ok (.invokevirtual 48, 3) := by decide +kernel
theorem dX2_build_16 : decode cX2_build 16 = .ok (.if_icmp .gt 23, 3) := by decide +kernel
theorem dX2_build_19 : decode cX2_build 19 = .ok (.aload_n 0, 1) := by decide +kernel
theorem dX2_build_20 : decode cX2_build 20 = .ok (.getfield 37, 3) := by decide +kernel
theorem dX2_build_23 : decode cX2_build 23 = .ok (.iload_n 1, 1) := by decide +kernel
theorem dX2_build_24 : decode cX2_build 24 = .ok (.aload_n 0, 1) := by decide +kernel
theorem dX2_build_25 : decode cX2_build 25 = .ok (.getfield 19, 3) := by decide +kernel
theorem dX2_build_28 : decode cX2_build 28 = .ok (.iload_n 1, 1) := by decide +kernel
theorem dX2_build_29 : decode cX2_build 29 = .ok (.invokevirtual 51, 3) := by decide +kernel
theorem dX2_build_32 : decode cX2_build 32 = .ok (.iastore, 1) := by decide +kernel
theorem dX2_build_33 : decode cX2_build 33 = .ok (.iinc 1 1, 3) := by decide +kernel
theorem dX2_build_36 : decode cX2_build 36 = .ok (.goto (-28), 3) := by decide +kernel
theorem dX2_build_39 : decode cX2_build 39 = .ok (.aload_n 0, 1) := by decide +kernel
theorem dX2_build_40 : decode cX2_build 40 = .ok (.getfield 27, 3) := by decide +kernel
theorem dX2_build_43 : decode cX2_build 43 = .ok (.aload_n 0, 1) := by decide +kernel
theorem dX2_build_44 : decode cX2_build 44 = .ok (.getfield 9, 3) := by decide +kernel
theorem dX2_build_47 : decode cX2_build 47 = .ok (.invokevirtual 57, 3) := by decide +kernel
theorem dX2_build_50 : decode cX2_build 50 = .ok (.iconst 0, 1) := by decide +kernel
theorem dX2_build_51 : decode cX2_build 51 = .ok (.iastore, 1) := by decide +kernel
theorem dX2_build_52 : decode cX2_build 52 = .ok (.aload_n 0, 1) := by decide +kernel
theorem dX2_build_53 : decode cX2_build 53 = .ok (.getfield 9, 3) := by decide +kernel
theorem dX2_build_56 : decode cX2_build 56 = .ok (.invokevirtual 57, 3) := by decide +kernel
theorem dX2_build_59 : decode cX2_build 59 = .ok (.iconst 1, 1) := by decide +kernel
theorem dX2_build_60 : decode cX2_build 60 = .ok (.isub, 1) := by decide +kernel
theorem dX2_build_61 : decode cX2_build 61 = .ok (.istore_n 1, 1) := by decide +kernel
theorem dX2_build_62 : decode cX2_build 62 = .ok (.iload_n 1, 1) := by decide +kernel
theorem dX2_build_63 : decode cX2_build 63 = .ok (.ifCond .lt 14, 3) := by decide +kernel
theorem dX2_build_66 : decode cX2_build 66 = .ok (.aload_n 0, 1) := by decide +kernel
theorem dX2_build_67 : decode cX2_build 67 = .ok (.iload_n 1, 1) := by decide +kernel
theorem dX2_build_68 : decode cX2_build 68 = .ok (.invokevirtual 62, 3) := by decide +kernel
theorem dX2_build_71 : decode cX2_build 71 = .ok (.iinc 1 (-1), 3) := by decide +kernel
theorem dX2_build_74 : decode cX2_build 74 = .ok (.goto (-12), 3) := by decide +kernel
theorem dX2_build_77 : decode cX2_build 77 = .ok (.return_, 1) := by decide +kernel
set_option maxRecDepth 20000 in
theorem ggX2_leastFrom_X1_size : GoodIn wsX2_leastFrom wsX1_size := goodIn_r _ [7, 8, 18, 19] (by decide +kernel) (by decide +kernel)
set_option maxRecDepth 20000 in
theorem gX2_leastFrom_X1_size : GoodIn wsX2_leastFrom (wsV RX2 57 RX1 yX1_size wsX1_size) := goodIn_app (goodIn_of _ (by decide +kernel)) ggX2_leastFrom_X1_size
theorem dX2_leastFrom_0 : decode cX2_leastFrom 0 = .ok (.iload_n 1, 1) := by decide +kernel
theorem dX2_leastFrom_1 : decode cX2_leastFrom 1 = .ok (.ifCond .lt 23, 3) := by decide +kernel
theorem dX2_leastFrom_4 : decode cX2_leastFrom 4 = .ok (.iload_n 1, 1) := by decide +kernel
theorem dX2_leastFrom_5 : decode cX2_leastFrom 5 = .ok (.aload_n 0, 1) := by decide +kernel
theorem dX2_leastFrom_6 : decode cX2_leastFrom 6 = .ok (.getfield 9, 3) := by decide +kernel
theorem dX2_leastFrom_9 : decode cX2_leastFrom 9 = .ok (.invokevirtual 57, 3) := by decide +kernel
theorem dX2_leastFrom_12 : decode cX2_leastFrom 12 = .ok (.if_icmp .gt 12, 3) := by decide +kernel
theorem dX2_leastFrom_15 : decode cX2_leastFrom 15 = .ok (.aload_n 0, 1) := by decide +kernel
theorem dX2_leastFrom_16 : decode cX2_leastFrom 16 = .ok (.getfield 27, 3) := by decide +kernel
theorem dX2_leastFrom_19 : decode cX2_leastFrom 19 = .ok (.iload_n 1, 1) := by decide +kernel
theorem dX2_leastFrom_20 : decode cX2_leastFrom 20 = .ok (.iaload, 1) := by decide +kernel
theorem dX2_leastFrom_21 : decode cX2_leastFrom 21 = .ok (.goto 4, 3) := by decide +kernel
theorem dX2_leastFrom_24 : decode cX2_leastFrom 24 = .ok (.iconst (-1), 1) := by decide +kernel
theorem dX2_leastFrom_25 : decode cX2_leastFrom 25 = .ok (.ireturn, 1) := by decide +kernel
set_option maxRecDepth 20000 in
theorem ggX2_lengthAt_X1_size : GoodIn wsX2_lengthAt wsX1_size := goodIn_r _ [7, 8, 18, 19] (by decide +kernel) (by decide +kernel)
set_option maxRecDepth 20000 in
theorem gX2_lengthAt_X1_size : GoodIn wsX2_lengthAt (wsV RX2 57 RX1 yX1_size wsX1_size) := goodIn_app (goodIn_of _ (by decide +kernel)) ggX2_lengthAt_X1_size
theorem dX2_lengthAt_0 : decode cX2_lengthAt 0 = .ok (.iload_n 1, 1) := by decide +kernel
theorem dX2_lengthAt_1 : decode cX2_lengthAt 1 = .ok (.ifCond .lt 23, 3) := by decide +kernel
theorem dX2_lengthAt_4 : decode cX2_lengthAt 4 = .ok (.iload_n 1, 1) := by decide +kernel
theorem dX2_lengthAt_5 : decode cX2_lengthAt 5 = .ok (.aload_n 0, 1) := by decide +kernel
theorem dX2_lengthAt_6 : decode cX2_lengthAt 6 = .ok (.getfield 9, 3) := by decide +kernel
theorem dX2_lengthAt_9 : decode cX2_lengthAt 9 = .ok (.invokevirtual 57, 3) := by decide +kernel
theorem dX2_lengthAt_12 : decode cX2_lengthAt 12 = .ok (.if_icmp .ge 12, 3) := by decide +kernel
theorem dX2_lengthAt_15 : decode cX2_lengthAt 15 = .ok (.aload_n 0, 1) := by decide +kernel
theorem dX2_lengthAt_16 : decode cX2_lengthAt 16 = .ok (.getfield 31, 3) := by decide +kernel
theorem dX2_lengthAt_19 : decode cX2_lengthAt 19 = .ok (.iload_n 1, 1) := by decide +kernel
theorem dX2_lengthAt_20 : decode cX2_lengthAt 20 = .ok (.iaload, 1) := by decide +kernel
theorem dX2_lengthAt_21 : decode cX2_lengthAt 21 = .ok (.goto 4, 3) := by decide +kernel
theorem dX2_lengthAt_24 : decode cX2_lengthAt 24 = .ok (.iconst 0, 1) := by decide +kernel
theorem dX2_lengthAt_25 : decode cX2_lengthAt 25 = .ok (.ireturn, 1) := by decide +kernel
set_option maxRecDepth 20000 in
theorem ggX2_distanceAt_X2_lengthAt : GoodIn wsX2_distanceAt wsX2_lengthAt := goodIn_r _ [8, 9, 10, 11, 12, 13, 14, 15, 16, 55, 56, 57, 58, 59, 60, 61, 62, 63, 64, 65] (by decide +kernel) (by decide +kernel)
set_option maxRecDepth 20000 in
theorem gX2_distanceAt_X2_lengthAt : GoodIn wsX2_distanceAt (wsV RX2 66 RX2 yX2_lengthAt wsX2_lengthAt) := goodIn_app (goodIn_of _ (by decide +kernel)) ggX2_distanceAt_X2_lengthAt
set_option maxRecDepth 20000 in
theorem ggX2_distanceAt_X7_ofDistanceClass : GoodIn wsX2_distanceAt wsX7_ofDistanceClass := goodIn_r _ [21, 22, 23, 24, 25, 26, 66, 67, 68, 69] (by decide +kernel) (by decide +kernel)
set_option maxRecDepth 20000 in
theorem gX2_distanceAt_X7_ofDistanceClass : GoodIn wsX2_distanceAt (wsV RX2 69 RX7 yX7_ofDistanceClass wsX7_ofDistanceClass) := goodIn_app (goodIn_of _ (by decide +kernel)) ggX2_distanceAt_X7_ofDistanceClass
set_option maxRecDepth 20000 in
theorem ggX2_distanceAt_X3_reachAt : GoodIn wsX2_distanceAt wsX3_reachAt := goodIn_r _ [31, 32, 70, 71, 72, 73, 74, 75, 76] (by decide +kernel) (by decide +kernel)
set_option maxRecDepth 20000 in
theorem gX2_distanceAt_X3_reachAt : GoodIn wsX2_distanceAt (wsV RX2 72 RX3 yX3_reachAt wsX3_reachAt) := goodIn_app (goodIn_of _ (by decide +kernel)) ggX2_distanceAt_X3_reachAt
set_option maxRecDepth 20000 in
theorem ggX2_distanceAt_X3_nearestOfClass : GoodIn wsX2_distanceAt wsX3_nearestOfClass := goodIn_r _ [36, 37, 38, 39, 40, 30, 41, 42, 43, 24, 25, 26, 44, 45, 46, 47, 48, 49, 50, 51, 52, 14, 53, 16, 54, 70, 71, 72, 73, 74, 75, 76, 77, 78, 79, 64, 65] (by decide +kernel) (by decide +kernel)
set_option maxRecDepth 20000 in
theorem gX2_distanceAt_X3_nearestOfClass : GoodIn wsX2_distanceAt (wsV RX2 78 RX3 yX3_nearestOfClass wsX3_nearestOfClass) := goodIn_app (goodIn_of _ (by decide +kernel)) ggX2_distanceAt_X3_nearestOfClass
theorem dX2_distanceAt_0 : decode cX2_distanceAt 0 = .ok (.aload_n 0, 1) := by decide +kernel
theorem dX2_distanceAt_1 : decode cX2_distanceAt 1 = .ok (.iload_n 1, 1) := by decide +kernel
theorem dX2_distanceAt_2 : decode cX2_distanceAt 2 = .ok (.invokevirtual 66, 3) := by decide +kernel
theorem dX2_distanceAt_5 : decode cX2_distanceAt 5 = .ok (.istore_n 2, 1) := by decide +kernel
theorem dX2_distanceAt_6 : decode cX2_distanceAt 6 = .ok (.iload_n 2, 1) := by decide +kernel
theorem dX2_distanceAt_7 : decode cX2_distanceAt 7 = .ok (.iconst 1, 1) := by decide +kernel
theorem dX2_distanceAt_8 : decode cX2_distanceAt 8 = .ok (.if_icmp .gt 5, 3) := by decide +kernel
theorem dX2_distanceAt_11 : decode cX2_distanceAt 11 = .ok (.iconst 0, 1) := by decide +kernel
theorem dX2_distanceAt_12 : decode cX2_distanceAt 12 = .ok (.ireturn, 1) := by decide +kernel
theorem dX2_distanceAt_13 : decode cX2_distanceAt 13 = .ok (.iconst 0, 1) := by decide +kernel
theorem dX2_distanceAt_14 : decode cX2_distanceAt 14 = .ok (.istore_n 3, 1) := by decide +kernel
theorem dX2_distanceAt_15 : decode cX2_distanceAt 15 = .ok (.iload_n 3, 1) := by decide +kernel
theorem dX2_distanceAt_16 : decode cX2_distanceAt 16 = .ok (.bipush 9, 2) := by decide +kernel
theorem dX2_distanceAt_18 : decode cX2_distanceAt 18 = .ok (.if_icmp .ge 50, 3) := by decide +kernel
theorem dX2_distanceAt_21 : decode cX2_distanceAt 21 = .ok (.aload_n 0, 1) := by decide +kernel
theorem dX2_distanceAt_22 : decode cX2_distanceAt 22 = .ok (.getfield 19, 3) := by decide +kernel
theorem dX2_distanceAt_25 : decode cX2_distanceAt 25 = .ok (.iload_n 3, 1) := by decide +kernel
theorem dX2_distanceAt_26 : decode cX2_distanceAt 26 = .ok (.invokevirtual 69, 3) := by decide +kernel
theorem dX2_distanceAt_29 : decode cX2_distanceAt 29 = .ok (.aload_n 0, 1) := by decide +kernel
theorem dX2_distanceAt_30 : decode cX2_distanceAt 30 = .ok (.getfield 34, 3) := by decide +kernel
theorem dX2_distanceAt_33 : decode cX2_distanceAt 33 = .ok (.iload_n 1, 1) := by decide +kernel
theorem dX2_distanceAt_34 : decode cX2_distanceAt 34 = .ok (.iaload, 1) := by decide +kernel
theorem dX2_distanceAt_35 : decode cX2_distanceAt 35 = .ok (.if_icmp .ne 27, 3) := by decide +kernel
theorem dX2_distanceAt_38 : decode cX2_distanceAt 38 = .ok (.aload_n 0, 1) := by decide +kernel
theorem dX2_distanceAt_39 : decode cX2_distanceAt 39 = .ok (.getfield 23, 3) := by decide +kernel
theorem dX2_distanceAt_42 : decode cX2_distanceAt 42 = .ok (.iload_n 1, 1) := by decide +kernel
theorem dX2_distanceAt_43 : decode cX2_distanceAt 43 = .ok (.iload_n 3, 1) := by decide +kernel
theorem dX2_distanceAt_44 : decode cX2_distanceAt 44 = .ok (.invokevirtual 72, 3) := by decide +kernel
theorem dX2_distanceAt_47 : decode cX2_distanceAt 47 = .ok (.iload_n 2, 1) := by decide +kernel
theorem dX2_distanceAt_48 : decode cX2_distanceAt 48 = .ok (.if_icmp .lt 14, 3) := by decide +kernel
theorem dX2_distanceAt_51 : decode cX2_distanceAt 51 = .ok (.aload_n 0, 1) := by decide +kernel
theorem dX2_distanceAt_52 : decode cX2_distanceAt 52 = .ok (.getfield 23, 3) := by decide +kernel
theorem dX2_distanceAt_55 : decode cX2_distanceAt 55 = .ok (.iload_n 1, 1) := by decide +kernel
theorem dX2_distanceAt_56 : decode cX2_distanceAt 56 = .ok (.iload_n 2, 1) := by decide +kernel
theorem dX2_distanceAt_57 : decode cX2_distanceAt 57 = .ok (.iload_n 3, 1) := by decide +kernel
theorem dX2_distanceAt_58 : decode cX2_distanceAt 58 = .ok (.invokevirtual 78, 3) := by decide +kernel
theorem dX2_distanceAt_61 : decode cX2_distanceAt 61 = .ok (.ireturn, 1) := by decide +kernel
theorem dX2_distanceAt_62 : decode cX2_distanceAt 62 = .ok (.iinc 3 1, 3) := by decide +kernel
theorem dX2_distanceAt_65 : decode cX2_distanceAt 65 = .ok (.goto (-50), 3) := by decide +kernel
theorem dX2_distanceAt_68 : decode cX2_distanceAt 68 = .ok (.iconst 0, 1) := by decide +kernel
theorem dX2_distanceAt_69 : decode cX2_distanceAt 69 = .ok (.ireturn, 1) := by decide +kernel
set_option maxRecDepth 20000 in
theorem ggX2_chooseStep_X3_longestAt : GoodIn wsX2_chooseStep wsX3_longestAt := goodIn_r _ [19, 20, 21, 22, 23, 24, 25, 26, 27, 70, 71, 72, 73, 74, 75, 76, 77, 78] (by decide +kernel) (by decide +kernel)
set_option maxRecDepth 20000 in
theorem gX2_chooseStep_X3_longestAt : GoodIn wsX2_chooseStep (wsV RX2 82 RX3 yX3_longestAt wsX3_longestAt) := goodIn_app (goodIn_of _ (by decide +kernel)) ggX2_chooseStep_X3_longestAt
set_option maxRecDepth 20000 in
theorem ggX2_chooseStep_X2_sortByReach : GoodIn wsX2_chooseStep wsX2_sortByReach := goodIn_r _ [32, 4, 2, 1, 11, 5, 6, 7, 8, 33, 34, 35, 18, 36, 37, 38, 39, 40, 41, 42, 43, 44, 61, 62, 63, 64, 65, 66, 67, 68, 69, 70, 71, 72, 73, 74, 75, 76, 79, 80, 81, 82] (by decide +kernel) (by decide +kernel)
set_option maxRecDepth 20000 in
theorem gX2_chooseStep_X2_sortByReach : GoodIn wsX2_chooseStep (wsV RX2 85 RX2 yX2_sortByReach wsX2_sortByReach) := goodIn_app (goodIn_of _ (by decide +kernel)) ggX2_chooseStep_X2_sortByReach
set_option maxRecDepth 20000 in
theorem ggX2_chooseStep_X5_least : GoodIn wsX2_chooseStep wsX5_least := goodIn_r _ [49, 50, 83, 84, 85] (by decide +kernel) (by decide +kernel)
set_option maxRecDepth 20000 in
theorem gX2_chooseStep_X5_least : GoodIn wsX2_chooseStep (wsV RX2 43 RX5 yX5_least wsX5_least) := goodIn_app (goodIn_of _ (by decide +kernel)) ggX2_chooseStep_X5_least
set_option maxRecDepth 20000 in
theorem ggX2_chooseStep_X1_get : GoodIn wsX2_chooseStep wsX1_get := goodIn_r _ [54, 27, 55, 77, 78] (by decide +kernel) (by decide +kernel)
set_option maxRecDepth 20000 in
theorem gX2_chooseStep_X1_get : GoodIn wsX2_chooseStep (wsV RX2 95 RX1 yX1_get wsX1_get) := goodIn_app (goodIn_of _ (by decide +kernel)) ggX2_chooseStep_X1_get
set_option maxRecDepth 20000 in
theorem ggX2_chooseStep_X7_ofByte : GoodIn wsX2_chooseStep wsX7_ofByte := goodIn_r _ [59, 60, 79, 80, 81, 82] (by decide +kernel) (by decide +kernel)
set_option maxRecDepth 20000 in
theorem gX2_chooseStep_X7_ofByte : GoodIn wsX2_chooseStep (wsV RX2 98 RX7 yX7_ofByte wsX7_ofByte) := goodIn_app (goodIn_of _ (by decide +kernel)) ggX2_chooseStep_X7_ofByte
theorem dX2_chooseStep_0 : decode cX2_chooseStep 0 = .ok (.aload_n 0, 1) := by decide +kernel
theorem dX2_chooseStep_1 : decode cX2_chooseStep 1 = .ok (.getfield 23, 3) := by decide +kernel
theorem dX2_chooseStep_4 : decode cX2_chooseStep 4 = .ok (.iload_n 1, 1) := by decide +kernel
theorem dX2_chooseStep_5 : decode cX2_chooseStep 5 = .ok (.invokevirtual 82, 3) := by decide +kernel
theorem dX2_chooseStep_8 : decode cX2_chooseStep 8 = .ok (.istore_n 2, 1) := by decide +kernel
theorem dX2_chooseStep_9 : decode cX2_chooseStep 9 = .ok (.aload_n 0, 1) := by decide +kernel
theorem dX2_chooseStep_10 : decode cX2_chooseStep 10 = .ok (.iload_n 1, 1) := by decide +kernel
theorem dX2_chooseStep_11 : decode cX2_chooseStep 11 = .ok (.iload_n 2, 1) := by decide +kernel
theorem dX2_chooseStep_12 : decode cX2_chooseStep 12 = .ok (.invokevirtual 85, 3) := by decide +kernel
theorem dX2_chooseStep_15 : decode cX2_chooseStep 15 = .ok (.ldc 89, 2) := by decide +kernel
theorem dX2_chooseStep_17 : decode cX2_chooseStep 17 = .ok (.istore_n 3, 1) := by decide +kernel
theorem dX2_chooseStep_18 : decode cX2_chooseStep 18 = .ok (.iconst 1, 1) := by decide +kernel
theorem dX2_chooseStep_19 : decode cX2_chooseStep 19 = .ok (.istore 4, 2) := by decide +kernel
theorem dX2_chooseStep_21 : decode cX2_chooseStep 21 = .ok (.iconst 0, 1) := by decide +kernel
theorem dX2_chooseStep_22 : decode cX2_chooseStep 22 = .ok (.istore 5, 2) := by decide +kernel
theorem dX2_chooseStep_24 : decode cX2_chooseStep 24 = .ok (.ldc 89, 2) := by decide +kernel
theorem dX2_chooseStep_26 : decode cX2_chooseStep 26 = .ok (.istore 6, 2) := by decide +kernel
theorem dX2_chooseStep_28 : decode cX2_chooseStep 28 = .ok (.iload_n 2, 1) := by decide +kernel
theorem dX2_chooseStep_29 : decode cX2_chooseStep 29 = .ok (.istore 7, 2) := by decide +kernel
theorem dX2_chooseStep_31 : decode cX2_chooseStep 31 = .ok (.iload 7, 2) := by decide +kernel
theorem dX2_chooseStep_33 : decode cX2_chooseStep 33 = .ok (.aload_n 0, 1) := by decide +kernel
theorem dX2_chooseStep_34 : decode cX2_chooseStep 34 = .ok (.getfield 15, 3) := by decide +kernel
theorem dX2_chooseStep_37 : decode cX2_chooseStep 37 = .ok (.invokevirtual 43, 3) := by decide +kernel
theorem dX2_chooseStep_40 : decode cX2_chooseStep 40 = .ok (.if_icmp .lt 62, 3) := by decide +kernel
theorem dX2_chooseStep_43 : decode cX2_chooseStep 43 = .ok (.iload 6, 2) := by decide +kernel
theorem dX2_chooseStep_45 : decode cX2_chooseStep 45 = .ok (.aload_n 0, 1) := by decide +kernel
theorem dX2_chooseStep_46 : decode cX2_chooseStep 46 = .ok (.getfield 40, 3) := by decide +kernel
theorem dX2_chooseStep_49 : decode cX2_chooseStep 49 = .ok (.iload 7, 2) := by decide +kernel
theorem dX2_chooseStep_51 : decode cX2_chooseStep 51 = .ok (.iaload, 1) := by decide +kernel
theorem dX2_chooseStep_52 : decode cX2_chooseStep 52 = .ok (.invokestatic 90, 3) := by decide +kernel
theorem dX2_chooseStep_55 : decode cX2_chooseStep 55 = .ok (.istore 6, 2) := by decide +kernel
theorem dX2_chooseStep_57 : decode cX2_chooseStep 57 = .ok (.aload_n 0, 1) := by decide +kernel
theorem dX2_chooseStep_58 : decode cX2_chooseStep 58 = .ok (.getfield 37, 3) := by decide +kernel
theorem dX2_chooseStep_61 : decode cX2_chooseStep 61 = .ok (.iload 7, 2) := by decide +kernel
theorem dX2_chooseStep_63 : decode cX2_chooseStep 63 = .ok (.iaload, 1) := by decide +kernel
theorem dX2_chooseStep_64 : decode cX2_chooseStep 64 = .ok (.iload 6, 2) := by decide +kernel
theorem dX2_chooseStep_66 : decode cX2_chooseStep 66 = .ok (.iadd, 1) := by decide +kernel
theorem dX2_chooseStep_67 : decode cX2_chooseStep 67 = .ok (.aload_n 0, 1) := by decide +kernel
theorem dX2_chooseStep_68 : decode cX2_chooseStep 68 = .ok (.getfield 27, 3) := by decide +kernel
theorem dX2_chooseStep_71 : decode cX2_chooseStep 71 = .ok (.iload_n 1, 1) := by decide +kernel
theorem dX2_chooseStep_72 : decode cX2_chooseStep 72 = .ok (.iload 7, 2) := by decide +kernel
theorem dX2_chooseStep_74 : decode cX2_chooseStep 74 = .ok (.iadd, 1) := by decide +kernel
theorem dX2_chooseStep_75 : decode cX2_chooseStep 75 = .ok (.iaload, 1) := by decide +kernel
theorem dX2_chooseStep_76 : decode cX2_chooseStep 76 = .ok (.iadd, 1) := by decide +kernel
theorem dX2_chooseStep_77 : decode cX2_chooseStep 77 = .ok (.istore 8, 2) := by decide +kernel
theorem dX2_chooseStep_79 : decode cX2_chooseStep 79 = .ok (.iload 8, 2) := by decide +kernel
theorem dX2_chooseStep_81 : decode cX2_chooseStep 81 = .ok (.iload_n 3, 1) := by decide +kernel
theorem dX2_chooseStep_82 : decode cX2_chooseStep 82 = .ok (.if_icmp .ge 14, 3) := by decide +kernel
theorem dX2_chooseStep_85 : decode cX2_chooseStep 85 = .ok (.iload 8, 2) := by decide +kernel
theorem dX2_chooseStep_87 : decode cX2_chooseStep 87 = .ok (.istore_n 3, 1) := by decide +kernel
theorem dX2_chooseStep_88 : decode cX2_chooseStep 88 = .ok (.iload 7, 2) := by decide +kernel
theorem dX2_chooseStep_90 : decode cX2_chooseStep 90 = .ok (.istore 4, 2) := by decide +kernel
theorem dX2_chooseStep_92 : decode cX2_chooseStep 92 = .ok (.iload 6, 2) := by decide +kernel
theorem dX2_chooseStep_94 : decode cX2_chooseStep 94 = .ok (.istore 5, 2) := by decide +kernel
theorem dX2_chooseStep_96 : decode cX2_chooseStep 96 = .ok (.iinc 7 (-1), 3) := by decide +kernel
theorem dX2_chooseStep_99 : decode cX2_chooseStep 99 = .ok (.goto (-68), 3) := by decide +kernel
theorem dX2_chooseStep_102 : decode cX2_chooseStep 102 = .ok (.aload_n 0, 1) := by decide +kernel
theorem dX2_chooseStep_103 : decode cX2_chooseStep 103 = .ok (.getfield 19, 3) := by decide +kernel
theorem dX2_chooseStep_106 : decode cX2_chooseStep 106 = .ok (.aload_n 0, 1) := by decide +kernel
theorem dX2_chooseStep_107 : decode cX2_chooseStep 107 = .ok (.getfield 9, 3) := by decide +kernel
theorem dX2_chooseStep_110 : decode cX2_chooseStep 110 = .ok (.iload_n 1, 1) := by decide +kernel
theorem dX2_chooseStep_111 : decode cX2_chooseStep 111 = .ok (.invokevirtual 95, 3) := by decide +kernel
theorem dX2_chooseStep_114 : decode cX2_chooseStep 114 = .ok (.invokevirtual 98, 3) := by decide +kernel
theorem dX2_chooseStep_117 : decode cX2_chooseStep 117 = .ok (.aload_n 0, 1) := by decide +kernel
theorem dX2_chooseStep_118 : decode cX2_chooseStep 118 = .ok (.getfield 27, 3) := by decide +kernel
theorem dX2_chooseStep_121 : decode cX2_chooseStep 121 = .ok (.iload_n 1, 1) := by decide +kernel
theorem dX2_chooseStep_122 : decode cX2_chooseStep 122 = .ok (.iconst 1, 1) := by decide +kernel
theorem dX2_chooseStep_123 : decode cX2_chooseStep 123 = .ok (.iadd, 1) := by decide +kernel
theorem dX2_chooseStep_124 : decode cX2_chooseStep 124 = .ok (.iaload, 1) := by decide +kernel
theorem dX2_chooseStep_125 : decode cX2_chooseStep 125 = .ok (.iadd, 1) := by decide +kernel
theorem dX2_chooseStep_126 : decode cX2_chooseStep 126 = .ok (.istore 7, 2) := by decide +kernel
theorem dX2_chooseStep_128 : decode cX2_chooseStep 128 = .ok (.iload 7, 2) := by decide +kernel
theorem dX2_chooseStep_130 : decode cX2_chooseStep 130 = .ok (.iload_n 3, 1) := by decide +kernel
theorem dX2_chooseStep_131 : decode cX2_chooseStep 131 = .ok (.if_icmp .ge 12, 3) := by decide +kernel
theorem dX2_chooseStep_134 : decode cX2_chooseStep 134 = .ok (.iload 7, 2) := by decide +kernel
theorem dX2_chooseStep_136 : decode cX2_chooseStep 136 = .ok (.istore_n 3, 1) := by decide +kernel
theorem dX2_chooseStep_137 : decode cX2_chooseStep 137 = .ok (.iconst 1, 1) := by decide +kernel
theorem dX2_chooseStep_138 : decode cX2_chooseStep 138 = .ok (.istore 4, 2) := by decide +kernel
theorem dX2_chooseStep_140 : decode cX2_chooseStep 140 = .ok (.iconst 0, 1) := by decide +kernel
theorem dX2_chooseStep_141 : decode cX2_chooseStep 141 = .ok (.istore 5, 2) := by decide +kernel
theorem dX2_chooseStep_143 : decode cX2_chooseStep 143 = .ok (.aload_n 0, 1) := by decide +kernel
theorem dX2_chooseStep_144 : decode cX2_chooseStep 144 = .ok (.getfield 27, 3) := by decide +kernel
theorem dX2_chooseStep_147 : decode cX2_chooseStep 147 = .ok (.iload_n 1, 1) := by decide +kernel
theorem dX2_chooseStep_148 : decode cX2_chooseStep 148 = .ok (.iload_n 3, 1) := by decide +kernel
theorem dX2_chooseStep_149 : decode cX2_chooseStep 149 = .ok (.iastore, 1) := by decide +kernel
theorem dX2_chooseStep_150 : decode cX2_chooseStep 150 = .ok (.aload_n 0, 1) := by decide +kernel
theorem dX2_chooseStep_151 : decode cX2_chooseStep 151 = .ok (.getfield 31, 3) := by decide +kernel
theorem dX2_chooseStep_154 : decode cX2_chooseStep 154 = .ok (.iload_n 1, 1) := by decide +kernel
theorem dX2_chooseStep_155 : decode cX2_chooseStep 155 = .ok (.iload 4, 2) := by decide +kernel
theorem dX2_chooseStep_157 : decode cX2_chooseStep 157 = .ok (.iastore, 1) := by decide +kernel
theorem dX2_chooseStep_158 : decode cX2_chooseStep 158 = .ok (.aload_n 0, 1) := by decide +kernel
theorem dX2_chooseStep_159 : decode cX2_chooseStep 159 = .ok (.getfield 34, 3) := by decide +kernel
theorem dX2_chooseStep_162 : decode cX2_chooseStep 162 = .ok (.iload_n 1, 1) := by decide +kernel
theorem dX2_chooseStep_163 : decode cX2_chooseStep 163 = .ok (.iload 5, 2) := by decide +kernel
theorem dX2_chooseStep_165 : decode cX2_chooseStep 165 = .ok (.iastore, 1) := by decide +kernel
theorem dX2_chooseStep_166 : decode cX2_chooseStep 166 = .ok (.return_, 1) := by decide +kernel
set_option maxRecDepth 20000 in
theorem ggX2_sortByReach_X3_reachAt : GoodIn wsX2_sortByReach wsX3_reachAt := goodIn_r _ [13, 14, 31, 32, 33, 34, 35, 36, 37] (by decide +kernel) (by decide +kernel)
set_option maxRecDepth 20000 in
theorem gX2_sortByReach_X3_reachAt : GoodIn wsX2_sortByReach (wsV RX2 72 RX3 yX3_reachAt wsX3_reachAt) := goodIn_app (goodIn_of _ (by decide +kernel)) ggX2_sortByReach_X3_reachAt
set_option maxRecDepth 20000 in
theorem ggX2_sortByReach_X7_ofDistanceClass : GoodIn wsX2_sortByReach wsX7_ofDistanceClass := goodIn_r _ [19, 20, 21, 6, 7, 8, 38, 39, 40, 41] (by decide +kernel) (by decide +kernel)
set_option maxRecDepth 20000 in
theorem gX2_sortByReach_X7_ofDistanceClass : GoodIn wsX2_sortByReach (wsV RX2 69 RX7 yX7_ofDistanceClass wsX7_ofDistanceClass) := goodIn_app (goodIn_of _ (by decide +kernel)) ggX2_sortByReach_X7_ofDistanceClass
theorem dX2_sortByReach_0 : decode cX2_sortByReach 0 = .ok (.iconst 0, 1) := by decide +kernel
theorem dX2_sortByReach_1 : decode cX2_sortByReach 1 = .ok (.istore_n 3, 1) := by decide +kernel
theorem dX2_sortByReach_2 : decode cX2_sortByReach 2 = .ok (.iload_n 3, 1) := by decide +kernel
theorem dX2_sortByReach_3 : decode cX2_sortByReach 3 = .ok (.iload_n 2, 1) := by decide +kernel
theorem dX2_sortByReach_4 : decode cX2_sortByReach 4 = .ok (.if_icmp .gt 17, 3) := by decide +kernel
theorem dX2_sortByReach_7 : decode cX2_sortByReach 7 = .ok (.aload_n 0, 1) := by decide +kernel
theorem dX2_sortByReach_8 : decode cX2_sortByReach 8 = .ok (.getfield 40, 3) := by decide +kernel
theorem dX2_sortByReach_11 : decode cX2_sortByReach 11 = .ok (.iload_n 3, 1) := by decide +kernel
theorem dX2_sortByReach_12 : decode cX2_sortByReach 12 = .ok (.ldc 89, 2) := by decide +kernel
theorem dX2_sortByReach_14 : decode cX2_sortByReach 14 = .ok (.iastore, 1) := by decide +kernel
theorem dX2_sortByReach_15 : decode cX2_sortByReach 15 = .ok (.iinc 3 1, 3) := by decide +kernel
theorem dX2_sortByReach_18 : decode cX2_sortByReach 18 = .ok (.goto (-16), 3) := by decide +kernel
theorem dX2_sortByReach_21 : decode cX2_sortByReach 21 = .ok (.iconst 0, 1) := by decide +kernel
theorem dX2_sortByReach_22 : decode cX2_sortByReach 22 = .ok (.istore_n 3, 1) := by decide +kernel
theorem dX2_sortByReach_23 : decode cX2_sortByReach 23 = .ok (.iload_n 3, 1) := by decide +kernel
theorem dX2_sortByReach_24 : decode cX2_sortByReach 24 = .ok (.bipush 9, 2) := by decide +kernel
theorem dX2_sortByReach_26 : decode cX2_sortByReach 26 = .ok (.if_icmp .ge 45, 3) := by decide +kernel
theorem dX2_sortByReach_29 : decode cX2_sortByReach 29 = .ok (.aload_n 0, 1) := by decide +kernel
theorem dX2_sortByReach_30 : decode cX2_sortByReach 30 = .ok (.getfield 23, 3) := by decide +kernel
theorem dX2_sortByReach_33 : decode cX2_sortByReach 33 = .ok (.iload_n 1, 1) := by decide +kernel
theorem dX2_sortByReach_34 : decode cX2_sortByReach 34 = .ok (.iload_n 3, 1) := by decide +kernel
theorem dX2_sortByReach_35 : decode cX2_sortByReach 35 = .ok (.invokevirtual 72, 3) := by decide +kernel
theorem dX2_sortByReach_38 : decode cX2_sortByReach 38 = .ok (.istore 4, 2) := by decide +kernel
theorem dX2_sortByReach_40 : decode cX2_sortByReach 40 = .ok (.aload_n 0, 1) := by decide +kernel
theorem dX2_sortByReach_41 : decode cX2_sortByReach 41 = .ok (.getfield 40, 3) := by decide +kernel
theorem dX2_sortByReach_44 : decode cX2_sortByReach 44 = .ok (.iload 4, 2) := by decide +kernel
theorem dX2_sortByReach_46 : decode cX2_sortByReach 46 = .ok (.aload_n 0, 1) := by decide +kernel
theorem dX2_sortByReach_47 : decode cX2_sortByReach 47 = .ok (.getfield 40, 3) := by decide +kernel
theorem dX2_sortByReach_50 : decode cX2_sortByReach 50 = .ok (.iload 4, 2) := by decide +kernel
theorem dX2_sortByReach_52 : decode cX2_sortByReach 52 = .ok (.iaload, 1) := by decide +kernel
theorem dX2_sortByReach_53 : decode cX2_sortByReach 53 = .ok (.aload_n 0, 1) := by decide +kernel
theorem dX2_sortByReach_54 : decode cX2_sortByReach 54 = .ok (.getfield 19, 3) := by decide +kernel
theorem dX2_sortByReach_57 : decode cX2_sortByReach 57 = .ok (.iload_n 3, 1) := by decide +kernel
theorem dX2_sortByReach_58 : decode cX2_sortByReach 58 = .ok (.invokevirtual 69, 3) := by decide +kernel
theorem dX2_sortByReach_61 : decode cX2_sortByReach 61 = .ok (.invokestatic 90, 3) := by decide +kernel
theorem dX2_sortByReach_64 : decode cX2_sortByReach 64 = .ok (.iastore, 1) := by decide +kernel
theorem dX2_sortByReach_65 : decode cX2_sortByReach 65 = .ok (.iinc 3 1, 3) := by decide +kernel
theorem dX2_sortByReach_68 : decode cX2_sortByReach 68 = .ok (.goto (-45), 3) := by decide +kernel
theorem dX2_sortByReach_71 : decode cX2_sortByReach 71 = .ok (.return_, 1) := by decide +kernel
theorem dX3_init_0 : decode cX3_init 0 = .ok (.aload_n 0, 1) := by decide +kernel
theorem dX3_init_1 : decode cX3_init 1 = .ok (.invokespecial 3, 3) := by decide +kernel
theorem dX3_init_4 : decode cX3_init 4 = .ok (.aload_n 0, 1) := by decide +kernel
theorem dX3_init_5 : decode cX3_init 5 = .ok (.aload_n 1, 1) := by decide +kernel
theorem dX3_init_6 : decode cX3_init 6 = .ok (.putfield 9, 3) := by decide +kernel
theorem dX3_init_9 : decode cX3_init 9 = .ok (.aload_n 0, 1) := by decide +kernel
theorem dX3_init_10 : decode cX3_init 10 = .ok (.aload_n 2, 1) := by decide +kernel
theorem dX3_init_11 : decode cX3_init 11 = .ok (.putfield 15, 3) := by decide +kernel
theorem dX3_init_14 : decode cX3_init 14 = .ok (.aload_n 0, 1) := by decide +kernel
theorem dX3_init_15 : decode cX3_init 15 = .ok (.sipush 500, 3) := by decide +kernel
theorem dX3_init_18 : decode cX3_init 18 = .ok (.newarray .int, 2) := by decide +kernel
theorem dX3_init_20 : decode cX3_init 20 = .ok (.putfield 19, 3) := by decide +kernel
theorem dX3_init_23 : decode cX3_init 23 = .ok (.aload_n 0, 1) := by decide +kernel
theorem dX3_init_24 : decode cX3_init 24 = .ok (.sipush 500, 3) := by decide +kernel
theorem dX3_init_27 : decode cX3_init 27 = .ok (.newarray .int, 2) := by decide +kernel
theorem dX3_init_29 : decode cX3_init 29 = .ok (.putfield 23, 3) := by decide +kernel
theorem dX3_init_32 : decode cX3_init 32 = .ok (.aload_n 0, 1) := by decide +kernel
theorem dX3_init_33 : decode cX3_init 33 = .ok (.sipush 500, 3) := by decide +kernel
theorem dX3_init_36 : decode cX3_init 36 = .ok (.newarray .int, 2) := by decide +kernel
theorem dX3_init_38 : decode cX3_init 38 = .ok (.putfield 26, 3) := by decide +kernel
theorem dX3_init_41 : decode cX3_init 41 = .ok (.aload_n 0, 1) := by decide +kernel
theorem dX3_init_42 : decode cX3_init 42 = .ok (.sipush 4500, 3) := by decide +kernel
theorem dX3_init_45 : decode cX3_init 45 = .ok (.newarray .int, 2) := by decide +kernel
theorem dX3_init_47 : decode cX3_init 47 = .ok (.putfield 29, 3) := by decide +kernel
theorem dX3_init_50 : decode cX3_init 50 = .ok (.aload_n 0, 1) := by decide +kernel
theorem dX3_init_51 : decode cX3_init 51 = .ok (.sipush 501, 3) := by decide +kernel
theorem dX3_init_54 : decode cX3_init 54 = .ok (.newarray .int, 2) := by decide +kernel
theorem dX3_init_56 : decode cX3_init 56 = .ok (.putfield 32, 3) := by decide +kernel
theorem dX3_init_59 : decode cX3_init 59 = .ok (.return_, 1) := by decide +kernel
set_option maxRecDepth 20000 in
theorem ggX3_build_X1_size : GoodIn wsX3_build wsX1_size := goodIn_r _ [10, 11, 57, 58] (by decide +kernel) (by decide +kernel)
set_option maxRecDepth 20000 in
theorem gX3_build_X1_size : GoodIn wsX3_build (wsV RX3 35 RX1 yX1_size wsX1_size) := goodIn_app (goodIn_of _ (by decide +kernel)) ggX3_build_X1_size
set_option maxRecDepth 20000 in
theorem ggX3_build_X3_noteClass : GoodIn wsX3_build wsX3_noteClass := goodIn_r _ [16, 2, 17, 1, 18, 19, 20, 21, 22, 23, 24, 25, 26, 27, 28, 29, 30, 31, 15, 32, 33, 34, 35, 36, 37, 38, 39, 40, 41, 42, 43, 44, 5, 3, 4, 45, 46, 47, 48, 49, 50, 51, 52, 53, 54, 55, 56, 57, 58, 59, 60, 61] (by decide +kernel) (by decide +kernel)
set_option maxRecDepth 20000 in
theorem gX3_build_X3_noteClass : GoodIn wsX3_build (wsV RX3 41 RX3 yX3_noteClass wsX3_noteClass) := goodIn_app (goodIn_of _ (by decide +kernel)) ggX3_build_X3_noteClass
theorem dX3_build_0 : decode cX3_build 0 = .ok (.iconst 0, 1) := by decide +kernel
theorem dX3_build_1 : decode cX3_build 1 = .ok (.istore_n 1, 1) := by decide +kernel
theorem dX3_build_2 : decode cX3_build 2 = .ok (.iload_n 1, 1) := by decide +kernel
theorem dX3_build_3 : decode cX3_build 3 = .ok (.sipush 500, 3) := by decide +kernel
theorem dX3_build_6 : decode cX3_build 6 = .ok (.if_icmp .gt 16, 3) := by decide +kernel
theorem dX3_build_9 : decode cX3_build 9 = .ok (.aload_n 0, 1) := by decide +kernel
theorem dX3_build_10 : decode cX3_build 10 = .ok (.getfield 32, 3) := by decide +kernel
theorem dX3_build_13 : decode cX3_build 13 = .ok (.iload_n 1, 1) := by decide +kernel
theorem dX3_build_14 : decode cX3_build 14 = .ok (.iconst 0, 1) := by decide +kernel
theorem dX3_build_15 : decode cX3_build 15 = .ok (.iastore, 1) := by decide +kernel
theorem dX3_build_16 : decode cX3_build 16 = .ok (.iinc 1 1, 3) := by decide +kernel
theorem dX3_build_19 : decode cX3_build 19 = .ok (.goto (-17), 3) := by decide +kernel
theorem dX3_build_22 : decode cX3_build 22 = .ok (.aload_n 0, 1) := by decide +kernel
theorem dX3_build_23 : decode cX3_build 23 = .ok (.getfield 9, 3) := by decide +kernel
theorem dX3_build_26 : decode cX3_build 26 = .ok (.invokevirtual 35, 3) := by decide +kernel
theorem dX3_build_29 : decode cX3_build 29 = .ok (.iconst 1, 1) := by decide +kernel
theorem dX3_build_30 : decode cX3_build 30 = .ok (.isub, 1) := by decide +kernel
theorem dX3_build_31 : decode cX3_build 31 = .ok (.istore_n 1, 1) := by decide +kernel
theorem dX3_build_32 : decode cX3_build 32 = .ok (.iload_n 1, 1) := by decide +kernel
theorem dX3_build_33 : decode cX3_build 33 = .ok (.ifCond .lt 50, 3) := by decide +kernel
theorem dX3_build_36 : decode cX3_build 36 = .ok (.aload_n 0, 1) := by decide +kernel
theorem dX3_build_37 : decode cX3_build 37 = .ok (.getfield 19, 3) := by decide +kernel
theorem dX3_build_40 : decode cX3_build 40 = .ok (.iload_n 1, 1) := by decide +kernel
theorem dX3_build_41 : decode cX3_build 41 = .ok (.iconst 0, 1) := by decide +kernel
theorem dX3_build_42 : decode cX3_build 42 = .ok (.iastore, 1) := by decide +kernel
theorem dX3_build_43 : decode cX3_build 43 = .ok (.aload_n 0, 1) := by decide +kernel
theorem dX3_build_44 : decode cX3_build 44 = .ok (.getfield 23, 3) := by decide +kernel
theorem dX3_build_47 : decode cX3_build 47 = .ok (.iload_n 1, 1) := by decide +kernel
theorem dX3_build_48 : decode cX3_build 48 = .ok (.iconst 0, 1) := by decide +kernel
theorem dX3_build_49 : decode cX3_build 49 = .ok (.iastore, 1) := by decide +kernel
theorem dX3_build_50 : decode cX3_build 50 = .ok (.aload_n 0, 1) := by decide +kernel
theorem dX3_build_51 : decode cX3_build 51 = .ok (.getfield 26, 3) := by decide +kernel
theorem dX3_build_54 : decode cX3_build 54 = .ok (.iload_n 1, 1) := by decide +kernel
theorem dX3_build_55 : decode cX3_build 55 = .ok (.iconst 0, 1) := by decide +kernel
theorem dX3_build_56 : decode cX3_build 56 = .ok (.iastore, 1) := by decide +kernel
theorem dX3_build_57 : decode cX3_build 57 = .ok (.iconst 0, 1) := by decide +kernel
theorem dX3_build_58 : decode cX3_build 58 = .ok (.istore_n 2, 1) := by decide +kernel
theorem dX3_build_59 : decode cX3_build 59 = .ok (.iload_n 2, 1) := by decide +kernel
theorem dX3_build_60 : decode cX3_build 60 = .ok (.bipush 9, 2) := by decide +kernel
theorem dX3_build_62 : decode cX3_build 62 = .ok (.if_icmp .ge 15, 3) := by decide +kernel
theorem dX3_build_65 : decode cX3_build 65 = .ok (.aload_n 0, 1) := by decide +kernel
theorem dX3_build_66 : decode cX3_build 66 = .ok (.iload_n 1, 1) := by decide +kernel
theorem dX3_build_67 : decode cX3_build 67 = .ok (.iload_n 2, 1) := by decide +kernel
theorem dX3_build_68 : decode cX3_build 68 = .ok (.invokevirtual 41, 3) := by decide +kernel
theorem dX3_build_71 : decode cX3_build 71 = .ok (.iinc 2 1, 3) := by decide +kernel
theorem dX3_build_74 : decode cX3_build 74 = .ok (.goto (-15), 3) := by decide +kernel
theorem dX3_build_77 : decode cX3_build 77 = .ok (.iinc 1 (-1), 3) := by decide +kernel
theorem dX3_build_80 : decode cX3_build 80 = .ok (.goto (-48), 3) := by decide +kernel
theorem dX3_build_83 : decode cX3_build 83 = .ok (.return_, 1) := by decide +kernel
set_option maxRecDepth 20000 in
theorem ggX3_longestAt_X1_size : GoodIn wsX3_longestAt wsX1_size := goodIn_r _ [7, 8, 16, 17] (by decide +kernel) (by decide +kernel)
set_option maxRecDepth 20000 in
theorem gX3_longestAt_X1_size : GoodIn wsX3_longestAt (wsV RX3 35 RX1 yX1_size wsX1_size) := goodIn_app (goodIn_of _ (by decide +kernel)) ggX3_longestAt_X1_size
theorem dX3_longestAt_0 : decode cX3_longestAt 0 = .ok (.iload_n 1, 1) := by decide +kernel
theorem dX3_longestAt_1 : decode cX3_longestAt 1 = .ok (.ifCond .lt 23, 3) := by decide +kernel
theorem dX3_longestAt_4 : decode cX3_longestAt 4 = .ok (.iload_n 1, 1) := by decide +kernel
theorem dX3_longestAt_5 : decode cX3_longestAt 5 = .ok (.aload_n 0, 1) := by decide +kernel
theorem dX3_longestAt_6 : decode cX3_longestAt 6 = .ok (.getfield 9, 3) := by decide +kernel
theorem dX3_longestAt_9 : decode cX3_longestAt 9 = .ok (.invokevirtual 35, 3) := by decide +kernel
theorem dX3_longestAt_12 : decode cX3_longestAt 12 = .ok (.if_icmp .ge 12, 3) := by decide +kernel
theorem dX3_longestAt_15 : decode cX3_longestAt 15 = .ok (.aload_n 0, 1) := by decide +kernel
theorem dX3_longestAt_16 : decode cX3_longestAt 16 = .ok (.getfield 19, 3) := by decide +kernel
theorem dX3_longestAt_19 : decode cX3_longestAt 19 = .ok (.iload_n 1, 1) := by decide +kernel
theorem dX3_longestAt_20 : decode cX3_longestAt 20 = .ok (.iaload, 1) := by decide +kernel
theorem dX3_longestAt_21 : decode cX3_longestAt 21 = .ok (.goto 4, 3) := by decide +kernel
theorem dX3_longestAt_24 : decode cX3_longestAt 24 = .ok (.iconst 0, 1) := by decide +kernel
theorem dX3_longestAt_25 : decode cX3_longestAt 25 = .ok (.ireturn, 1) := by decide +kernel
set_option maxRecDepth 20000 in
theorem ggX3_nearestAt_X1_size : GoodIn wsX3_nearestAt wsX1_size := goodIn_r _ [7, 8, 16, 17] (by decide +kernel) (by decide +kernel)
set_option maxRecDepth 20000 in
theorem gX3_nearestAt_X1_size : GoodIn wsX3_nearestAt (wsV RX3 35 RX1 yX1_size wsX1_size) := goodIn_app (goodIn_of _ (by decide +kernel)) ggX3_nearestAt_X1_size
theorem dX3_nearestAt_0 : decode cX3_nearestAt 0 = .ok (.iload_n 1, 1) := by decide +kernel
theorem dX3_nearestAt_1 : decode cX3_nearestAt 1 = .ok (.ifCond .lt 23, 3) := by decide +kernel
theorem dX3_nearestAt_4 : decode cX3_nearestAt 4 = .ok (.iload_n 1, 1) := by decide +kernel
theorem dX3_nearestAt_5 : decode cX3_nearestAt 5 = .ok (.aload_n 0, 1) := by decide +kernel
theorem dX3_nearestAt_6 : decode cX3_nearestAt 6 = .ok (.getfield 9, 3) := by decide +kernel
theorem dX3_nearestAt_9 : decode cX3_nearestAt 9 = .ok (.invokevirtual 35, 3) := by decide +kernel
theorem dX3_nearestAt_12 : decode cX3_nearestAt 12 = .ok (.if_icmp .ge 12, 3) := by decide +kernel
theorem dX3_nearestAt_15 : decode cX3_nearestAt 15 = .ok (.aload_n 0, 1) := by decide +kernel
theorem dX3_nearestAt_16 : decode cX3_nearestAt 16 = .ok (.getfield 23, 3) := by decide +kernel
theorem dX3_nearestAt_19 : decode cX3_nearestAt 19 = .ok (.iload_n 1, 1) := by decide +kernel
theorem dX3_nearestAt_20 : decode cX3_nearestAt 20 = .ok (.iaload, 1) := by decide +kernel
theorem dX3_nearestAt_21 : decode cX3_nearestAt 21 = .ok (.goto 4, 3) := by decide +kernel
theorem dX3_nearestAt_24 : decode cX3_nearestAt 24 = .ok (.iconst 0, 1) := by decide +kernel
theorem dX3_nearestAt_25 : decode cX3_nearestAt 25 = .ok (.ireturn, 1) := by decide +kernel
set_option maxRecDepth 20000 in
theorem ggX3_distancesAt_X1_size : GoodIn wsX3_distancesAt wsX1_size := goodIn_r _ [7, 8, 16, 17] (by decide +kernel) (by decide +kernel)
set_option maxRecDepth 20000 in
theorem gX3_distancesAt_X1_size : GoodIn wsX3_distancesAt (wsV RX3 35 RX1 yX1_size wsX1_size) := goodIn_app (goodIn_of _ (by decide +kernel)) ggX3_distancesAt_X1_size
theorem dX3_distancesAt_0 : decode cX3_distancesAt 0 = .ok (.iload_n 1, 1) := by decide +kernel
theorem dX3_distancesAt_1 : decode cX3_distancesAt 1 = .ok (.ifCond .lt 23, 3) := by decide +kernel
theorem dX3_distancesAt_4 : decode cX3_distancesAt 4 = .ok (.iload_n 1, 1) := by decide +kernel
theorem dX3_distancesAt_5 : decode cX3_distancesAt 5 = .ok (.aload_n 0, 1) := by decide +kernel
theorem dX3_distancesAt_6 : decode cX3_distancesAt 6 = .ok (.getfield 9, 3) := by decide +kernel
theorem dX3_distancesAt_9 : decode cX3_distancesAt 9 = .ok (.invokevirtual 35, 3) := by decide +kernel
theorem dX3_distancesAt_12 : decode cX3_distancesAt 12 = .ok (.if_icmp .ge 12, 3) := by decide +kernel
theorem dX3_distancesAt_15 : decode cX3_distancesAt 15 = .ok (.aload_n 0, 1) := by decide +kernel
theorem dX3_distancesAt_16 : decode cX3_distancesAt 16 = .ok (.getfield 26, 3) := by decide +kernel
theorem dX3_distancesAt_19 : decode cX3_distancesAt 19 = .ok (.iload_n 1, 1) := by decide +kernel
theorem dX3_distancesAt_20 : decode cX3_distancesAt 20 = .ok (.iaload, 1) := by decide +kernel
theorem dX3_distancesAt_21 : decode cX3_distancesAt 21 = .ok (.goto 4, 3) := by decide +kernel
theorem dX3_distancesAt_24 : decode cX3_distancesAt 24 = .ok (.iconst 0, 1) := by decide +kernel
theorem dX3_distancesAt_25 : decode cX3_distancesAt 25 = .ok (.ireturn, 1) := by decide +kernel
theorem dX3_reachAt_0 : decode cX3_reachAt 0 = .ok (.aload_n 0, 1) := by decide +kernel
theorem dX3_reachAt_1 : decode cX3_reachAt 1 = .ok (.getfield 29, 3) := by decide +kernel
theorem dX3_reachAt_4 : decode cX3_reachAt 4 = .ok (.iload_n 1, 1) := by decide +kernel
theorem dX3_reachAt_5 : decode cX3_reachAt 5 = .ok (.bipush 9, 2) := by decide +kernel
theorem dX3_reachAt_7 : decode cX3_reachAt 7 = .ok (.imul, 1) := by decide +kernel
theorem dX3_reachAt_8 : decode cX3_reachAt 8 = .ok (.iload_n 2, 1) := by decide +kernel
theorem dX3_reachAt_9 : decode cX3_reachAt 9 = .ok (.iadd, 1) := by decide +kernel
theorem dX3_reachAt_10 : decode cX3_reachAt 10 = .ok (.iaload, 1) := by decide +kernel
theorem dX3_reachAt_11 : decode cX3_reachAt 11 = .ok (.ireturn, 1) := by decide +kernel
set_option maxRecDepth 20000 in
theorem ggX3_nearestOfClass_X3_lastOfClass : GoodIn wsX3_nearestOfClass wsX3_lastOfClass := goodIn_r _ [6, 7, 8, 9, 10, 11, 12, 13, 14, 15, 16, 17, 25, 26, 27, 28, 29, 30, 31, 32, 33, 34] (by decide +kernel) (by decide +kernel)
set_option maxRecDepth 20000 in
theorem gX3_nearestOfClass_X3_lastOfClass : GoodIn wsX3_nearestOfClass (wsV RX3 45 RX3 yX3_lastOfClass wsX3_lastOfClass) := goodIn_app (goodIn_of _ (by decide +kernel)) ggX3_nearestOfClass_X3_lastOfClass
set_option maxRecDepth 20000 in
theorem ggX3_nearestOfClass_X1_repeats : GoodIn wsX3_nearestOfClass wsX1_repeats := goodIn_r _ [22, 23, 24, 35, 36] (by decide +kernel) (by decide +kernel)
set_option maxRecDepth 20000 in
theorem gX3_nearestOfClass_X1_repeats : GoodIn wsX3_nearestOfClass (wsV RX3 49 RX1 yX1_repeats wsX1_repeats) := goodIn_app (goodIn_of _ (by decide +kernel)) ggX3_nearestOfClass_X1_repeats
theorem dX3_nearestOfClass_0 : decode cX3_nearestOfClass 0 = .ok (.aload_n 0, 1) := by decide +kernel
theorem dX3_nearestOfClass_1 : decode cX3_nearestOfClass 1 = .ok (.iload_n 1, 1) := by decide +kernel
theorem dX3_nearestOfClass_2 : decode cX3_nearestOfClass 2 = .ok (.iload_n 3, 1) := by decide +kernel
theorem dX3_nearestOfClass_3 : decode cX3_nearestOfClass 3 = .ok (.invokevirtual 45, 3) := by decide +kernel
theorem dX3_nearestOfClass_6 : decode cX3_nearestOfClass 6 = .ok (.istore 4, 2) := by decide +kernel
theorem dX3_nearestOfClass_8 : decode cX3_nearestOfClass 8 = .ok (.iconst 1, 1) := by decide +kernel
theorem dX3_nearestOfClass_9 : decode cX3_nearestOfClass 9 = .ok (.iload_n 3, 1) := by decide +kernel
theorem dX3_nearestOfClass_10 : decode cX3_nearestOfClass 10 = .ok (.ishl, 1) := by decide +kernel
theorem dX3_nearestOfClass_11 : decode cX3_nearestOfClass 11 = .ok (.istore 5, 2) := by decide +kernel
theorem dX3_nearestOfClass_13 : decode cX3_nearestOfClass 13 = .ok (.iload 5, 2) := by decide +kernel
theorem dX3_nearestOfClass_15 : decode cX3_nearestOfClass 15 = .ok (.iload 4, 2) := by decide +kernel
theorem dX3_nearestOfClass_17 : decode cX3_nearestOfClass 17 = .ok (.if_icmp .gt 26, 3) := by decide +kernel
theorem dX3_nearestOfClass_20 : decode cX3_nearestOfClass 20 = .ok (.aload_n 0, 1) := by decide +kernel
theorem dX3_nearestOfClass_21 : decode cX3_nearestOfClass 21 = .ok (.getfield 9, 3) := by decide +kernel
theorem dX3_nearestOfClass_24 : decode cX3_nearestOfClass 24 = .ok (.iload_n 1, 1) := by decide +kernel
theorem dX3_nearestOfClass_25 : decode cX3_nearestOfClass 25 = .ok (.iload 5, 2) := by decide +kernel
theorem dX3_nearestOfClass_27 : decode cX3_nearestOfClass 27 = .ok (.iload_n 2, 1) := by decide +kernel
theorem dX3_nearestOfClass_28 : decode cX3_nearestOfClass 28 = .ok (.invokevirtual 49, 3) := by decide +kernel
theorem dX3_nearestOfClass_31 : decode cX3_nearestOfClass 31 = .ok (.ifCond .eq 6, 3) := by decide +kernel
theorem dX3_nearestOfClass_34 : decode cX3_nearestOfClass 34 = .ok (.iload 5, 2) := by decide +kernel
theorem dX3_nearestOfClass_36 : decode cX3_nearestOfClass 36 = .ok (.ireturn, 1) := by decide +kernel
theorem dX3_nearestOfClass_37 : decode cX3_nearestOfClass 37 = .ok (.iinc 5 1, 3) := by decide +kernel
theorem dX3_nearestOfClass_40 : decode cX3_nearestOfClass 40 = .ok (.goto (-27), 3) := by decide +kernel
theorem dX3_nearestOfClass_43 : decode cX3_nearestOfClass 43 = .ok (.iconst 0, 1) := by decide +kernel
theorem dX3_nearestOfClass_44 : decode cX3_nearestOfClass 44 = .ok (.ireturn, 1) := by decide +kernel
set_option maxRecDepth 20000 in
theorem ggX3_lastOfClass_X5_window : GoodIn wsX3_lastOfClass wsX5_window := goodIn_r _ [10, 11, 19, 20, 21] (by decide +kernel) (by decide +kernel)
set_option maxRecDepth 20000 in
theorem gX3_lastOfClass_X5_window : GoodIn wsX3_lastOfClass (wsV RX3 53 RX5 yX5_window wsX5_window) := goodIn_app (goodIn_of _ (by decide +kernel)) ggX3_lastOfClass_X5_window
theorem dX3_lastOfClass_0 : decode cX3_lastOfClass 0 = .ok (.iload_n 1, 1) := by decide +kernel
theorem dX3_lastOfClass_1 : decode cX3_lastOfClass 1 = .ok (.aload_n 0, 1) := by decide +kernel
theorem dX3_lastOfClass_2 : decode cX3_lastOfClass 2 = .ok (.getfield 15, 3) := by decide +kernel
theorem dX3_lastOfClass_5 : decode cX3_lastOfClass 5 = .ok (.invokevirtual 53, 3) := by decide +kernel
theorem dX3_lastOfClass_8 : decode cX3_lastOfClass 8 = .ok (.invokestatic 58, 3) := by decide +kernel
theorem dX3_lastOfClass_11 : decode cX3_lastOfClass 11 = .ok (.istore_n 3, 1) := by decide +kernel
theorem dX3_lastOfClass_12 : decode cX3_lastOfClass 12 = .ok (.iconst 2, 1) := by decide +kernel
theorem dX3_lastOfClass_13 : decode cX3_lastOfClass 13 = .ok (.iload_n 2, 1) := by decide +kernel
theorem dX3_lastOfClass_14 : decode cX3_lastOfClass 14 = .ok (.ishl, 1) := by decide +kernel
theorem dX3_lastOfClass_15 : decode cX3_lastOfClass 15 = .ok (.iconst 1, 1) := by decide +kernel
theorem dX3_lastOfClass_16 : decode cX3_lastOfClass 16 = .ok (.isub, 1) := by decide +kernel
theorem dX3_lastOfClass_17 : decode cX3_lastOfClass 17 = .ok (.iload_n 3, 1) := by decide +kernel
theorem dX3_lastOfClass_18 : decode cX3_lastOfClass 18 = .ok (.invokestatic 58, 3) := by decide +kernel
theorem dX3_lastOfClass_21 : decode cX3_lastOfClass 21 = .ok (.ireturn, 1) := by decide +kernel
set_option maxRecDepth 20000 in
theorem ggX3_noteClass_X5_least : GoodIn wsX3_noteClass wsX5_least := goodIn_r _ [13, 14, 49, 50, 51] (by decide +kernel) (by decide +kernel)
set_option maxRecDepth 20000 in
theorem gX3_noteClass_X5_least : GoodIn wsX3_noteClass (wsV RX3 66 RX5 yX5_least wsX5_least) := goodIn_app (goodIn_of _ (by decide +kernel)) ggX3_noteClass_X5_least
set_option maxRecDepth 20000 in
theorem ggX3_noteClass_X3_lastOfClass : GoodIn wsX3_noteClass wsX3_lastOfClass := goodIn_r _ [19, 2, 20, 21, 6, 22, 23, 24, 25, 12, 26, 27, 40, 41, 42, 43, 44, 45, 46, 49, 50, 51] (by decide +kernel) (by decide +kernel)
set_option maxRecDepth 20000 in
theorem gX3_noteClass_X3_lastOfClass : GoodIn wsX3_noteClass (wsV RX3 45 RX3 yX3_lastOfClass wsX3_lastOfClass) := goodIn_app (goodIn_of _ (by decide +kernel)) ggX3_noteClass_X3_lastOfClass
set_option maxRecDepth 20000 in
theorem ggX3_noteClass_X3_noteMatch : GoodIn wsX3_noteClass wsX3_noteMatch := goodIn_r _ [31, 2, 20, 21, 6, 22, 32, 33, 34, 35, 36, 37, 12, 38, 39, 40, 41, 42, 43, 44, 45, 46, 49, 50, 51] (by decide +kernel) (by decide +kernel)
set_option maxRecDepth 20000 in
theorem gX3_noteClass_X3_noteMatch : GoodIn wsX3_noteClass (wsV RX3 69 RX3 yX3_noteMatch wsX3_noteMatch) := goodIn_app (goodIn_of _ (by decide +kernel)) ggX3_noteClass_X3_noteMatch
theorem dX3_noteClass_0 : decode cX3_noteClass 0 = .ok (.aload_n 0, 1) := by decide +kernel
theorem dX3_noteClass_1 : decode cX3_noteClass 1 = .ok (.getfield 9, 3) := by decide +kernel
theorem dX3_noteClass_4 : decode cX3_noteClass 4 = .ok (.getfield 63, 3) := by decide +kernel
theorem dX3_noteClass_7 : decode cX3_noteClass 7 = .ok (.astore_n 3, 1) := by decide +kernel
theorem dX3_noteClass_8 : decode cX3_noteClass 8 = .ok (.aload_n 3, 1) := by decide +kernel
theorem dX3_noteClass_9 : decode cX3_noteClass 9 = .ok (.iload_n 1, 1) := by decide +kernel
theorem dX3_noteClass_10 : decode cX3_noteClass 10 = .ok (.iaload, 1) := by decide +kernel
theorem dX3_noteClass_11 : decode cX3_noteClass 11 = .ok (.istore 4, 2) := by decide +kernel
theorem dX3_noteClass_13 : decode cX3_noteClass 13 = .ok (.aload_n 0, 1) := by decide +kernel
theorem dX3_noteClass_14 : decode cX3_noteClass 14 = .ok (.getfield 15, 3) := by decide +kernel
theorem dX3_noteClass_17 : decode cX3_noteClass 17 = .ok (.invokevirtual 66, 3) := by decide +kernel
theorem dX3_noteClass_20 : decode cX3_noteClass 20 = .ok (.istore 5, 2) := by decide +kernel
theorem dX3_noteClass_22 : decode cX3_noteClass 22 = .ok (.aload_n 0, 1) := by decide +kernel
theorem dX3_noteClass_23 : decode cX3_noteClass 23 = .ok (.iload_n 1, 1) := by decide +kernel
theorem dX3_noteClass_24 : decode cX3_noteClass 24 = .ok (.iload_n 2, 1) := by decide +kernel
theorem dX3_noteClass_25 : decode cX3_noteClass 25 = .ok (.invokevirtual 45, 3) := by decide +kernel
theorem dX3_noteClass_28 : decode cX3_noteClass 28 = .ok (.istore 6, 2) := by decide +kernel
theorem dX3_noteClass_30 : decode cX3_noteClass 30 = .ok (.iconst 0, 1) := by decide +kernel
theorem dX3_noteClass_31 : decode cX3_noteClass 31 = .ok (.istore 7, 2) := by decide +kernel
theorem dX3_noteClass_33 : decode cX3_noteClass 33 = .ok (.iconst 1, 1) := by decide +kernel
theorem dX3_noteClass_34 : decode cX3_noteClass 34 = .ok (.iload_n 2, 1) := by decide +kernel
theorem dX3_noteClass_35 : decode cX3_noteClass 35 = .ok (.ishl, 1) := by decide +kernel
theorem dX3_noteClass_36 : decode cX3_noteClass 36 = .ok (.istore 8, 2) := by decide +kernel
theorem dX3_noteClass_38 : decode cX3_noteClass 38 = .ok (.iload 8, 2) := by decide +kernel
theorem dX3_noteClass_40 : decode cX3_noteClass 40 = .ok (.iload 6, 2) := by decide +kernel
theorem dX3_noteClass_42 : decode cX3_noteClass 42 = .ok (.if_icmp .gt 67, 3) := by decide +kernel
theorem dX3_noteClass_45 : decode cX3_noteClass 45 = .ok (.aload_n 3, 1) := by decide +kernel
theorem dX3_noteClass_46 : decode cX3_noteClass 46 = .ok (.iload_n 1, 1) := by decide +kernel
theorem dX3_noteClass_47 : decode cX3_noteClass 47 = .ok (.iload 8, 2) := by decide +kernel
theorem dX3_noteClass_49 : decode cX3_noteClass 49 = .ok (.isub, 1) := by decide +kernel
theorem dX3_noteClass_50 : decode cX3_noteClass 50 = .ok (.iaload, 1) := by decide +kernel
theorem dX3_noteClass_51 : decode cX3_noteClass 51 = .ok (.iload 4, 2) := by decide +kernel
theorem dX3_noteClass_53 : decode cX3_noteClass 53 = .ok (.if_icmp .ne 15, 3) := by decide +kernel
theorem dX3_noteClass_56 : decode cX3_noteClass 56 = .ok (.aload_n 0, 1) := by decide +kernel
theorem dX3_noteClass_57 : decode cX3_noteClass 57 = .ok (.getfield 32, 3) := by decide +kernel
theorem dX3_noteClass_60 : decode cX3_noteClass 60 = .ok (.iload 8, 2) := by decide +kernel
theorem dX3_noteClass_62 : decode cX3_noteClass 62 = .ok (.iaload, 1) := by decide +kernel
theorem dX3_noteClass_63 : decode cX3_noteClass 63 = .ok (.iconst 1, 1) := by decide +kernel
theorem dX3_noteClass_64 : decode cX3_noteClass 64 = .ok (.iadd, 1) := by decide +kernel
theorem dX3_noteClass_65 : decode cX3_noteClass 65 = .ok (.goto 4, 3) := by decide +kernel
theorem dX3_noteClass_68 : decode cX3_noteClass 68 = .ok (.iconst 0, 1) := by decide +kernel
theorem dX3_noteClass_69 : decode cX3_noteClass 69 = .ok (.istore 9, 2) := by decide +kernel
theorem dX3_noteClass_71 : decode cX3_noteClass 71 = .ok (.aload_n 0, 1) := by decide +kernel
theorem dX3_noteClass_72 : decode cX3_noteClass 72 = .ok (.getfield 32, 3) := by decide +kernel
theorem dX3_noteClass_75 : decode cX3_noteClass 75 = .ok (.iload 8, 2) := by decide +kernel
theorem dX3_noteClass_77 : decode cX3_noteClass 77 = .ok (.iload 9, 2) := by decide +kernel
theorem dX3_noteClass_79 : decode cX3_noteClass 79 = .ok (.iastore, 1) := by decide +kernel
theorem dX3_noteClass_80 : decode cX3_noteClass 80 = .ok (.iload 9, 2) := by decide +kernel
theorem dX3_noteClass_82 : decode cX3_noteClass 82 = .ok (.iload 5, 2) := by decide +kernel
theorem dX3_noteClass_84 : decode cX3_noteClass 84 = .ok (.if_icmp .lt 19, 3) := by decide +kernel
theorem dX3_noteClass_87 : decode cX3_noteClass 87 = .ok (.iload 7, 2) := by decide +kernel
theorem dX3_noteClass_89 : decode cX3_noteClass 89 = .ok (.aload_n 0, 1) := by decide +kernel
theorem dX3_noteClass_90 : decode cX3_noteClass 90 = .ok (.iload_n 1, 1) := by decide +kernel
theorem dX3_noteClass_91 : decode cX3_noteClass 91 = .ok (.iload 8, 2) := by decide +kernel
theorem dX3_noteClass_93 : decode cX3_noteClass 93 = .ok (.iload 9, 2) := by decide +kernel
theorem dX3_noteClass_95 : decode cX3_noteClass 95 = .ok (.invokevirtual 69, 3) := by decide +kernel
theorem dX3_noteClass_98 : decode cX3_noteClass 98 = .ok (.invokestatic 73, 3) := by decide +kernel
theorem dX3_noteClass_101 : decode cX3_noteClass 101 = .ok (.istore 7, 2) := by decide +kernel
theorem dX3_noteClass_103 : decode cX3_noteClass 103 = .ok (.iinc 8 1, 3) := by decide +kernel
theorem dX3_noteClass_106 : decode cX3_noteClass 106 = .ok (.goto (-68), 3) := by decide +kernel
theorem dX3_noteClass_109 : decode cX3_noteClass 109 = .ok (.aload_n 0, 1) := by decide +kernel
theorem dX3_noteClass_110 : decode cX3_noteClass 110 = .ok (.getfield 29, 3) := by decide +kernel
theorem dX3_noteClass_113 : decode cX3_noteClass 113 = .ok (.iload_n 1, 1) := by decide +kernel
theorem dX3_noteClass_114 : decode cX3_noteClass 114 = .ok (.bipush 9, 2) := by decide +kernel
theorem dX3_noteClass_116 : decode cX3_noteClass 116 = .ok (.imul, 1) := by decide +kernel
theorem dX3_noteClass_117 : decode cX3_noteClass 117 = .ok (.iload_n 2, 1) := by decide +kernel
theorem dX3_noteClass_118 : decode cX3_noteClass 118 = .ok (.iadd, 1) := by decide +kernel
theorem dX3_noteClass_119 : decode cX3_noteClass 119 = .ok (.iload 7, 2) := by decide +kernel
theorem dX3_noteClass_121 : decode cX3_noteClass 121 = .ok (.iastore, 1) := by decide +kernel
theorem dX3_noteClass_122 : decode cX3_noteClass 122 = .ok (.return_, 1) := by decide +kernel
set_option maxRecDepth 20000 in
theorem ggX3_noteMatch_X5_most : GoodIn wsX3_noteMatch wsX5_most := goodIn_r _ [13, 14, 22, 23, 24] (by decide +kernel) (by decide +kernel)
set_option maxRecDepth 20000 in
theorem gX3_noteMatch_X5_most : GoodIn wsX3_noteMatch (wsV RX3 76 RX5 yX5_most wsX5_most) := goodIn_app (goodIn_of _ (by decide +kernel)) ggX3_noteMatch_X5_most
theorem dX3_noteMatch_0 : decode cX3_noteMatch 0 = .ok (.iload_n 3, 1) := by decide +kernel
theorem dX3_noteMatch_1 : decode cX3_noteMatch 1 = .ok (.aload_n 0, 1) := by decide +kernel
theorem dX3_noteMatch_2 : decode cX3_noteMatch 2 = .ok (.getfield 15, 3) := by decide +kernel
theorem dX3_noteMatch_5 : decode cX3_noteMatch 5 = .ok (.invokevirtual 76, 3) := by decide +kernel
theorem dX3_noteMatch_8 : decode cX3_noteMatch 8 = .ok (.invokestatic 58, 3) := by decide +kernel
theorem dX3_noteMatch_11 : decode cX3_noteMatch 11 = .ok (.istore 4, 2) := by decide +kernel
theorem dX3_noteMatch_13 : decode cX3_noteMatch 13 = .ok (.aload_n 0, 1) := by decide +kernel
theorem dX3_noteMatch_14 : decode cX3_noteMatch 14 = .ok (.getfield 26, 3) := by decide +kernel
theorem dX3_noteMatch_17 : decode cX3_noteMatch 17 = .ok (.iload_n 1, 1) := by decide +kernel
theorem dX3_noteMatch_18 : decode cX3_noteMatch 18 = .ok (.dup2, 1) := by decide +kernel
theorem dX3_noteMatch_19 : decode cX3_noteMatch 19 = .ok (.iaload, 1) := by decide +kernel
theorem dX3_noteMatch_20 : decode cX3_noteMatch 20 = .ok (.iconst 1, 1) := by decide +kernel
theorem dX3_noteMatch_21 : decode cX3_noteMatch 21 = .ok (.iadd, 1) := by decide +kernel
theorem dX3_noteMatch_22 : decode cX3_noteMatch 22 = .ok (.iastore, 1) := by decide +kernel
theorem dX3_noteMatch_23 : decode cX3_noteMatch 23 = .ok (.iload 4, 2) := by decide +kernel
theorem dX3_noteMatch_25 : decode cX3_noteMatch 25 = .ok (.aload_n 0, 1) := by decide +kernel
theorem dX3_noteMatch_26 : decode cX3_noteMatch 26 = .ok (.getfield 19, 3) := by decide +kernel
theorem dX3_noteMatch_29 : decode cX3_noteMatch 29 = .ok (.iload_n 1, 1) := by decide +kernel
theorem dX3_noteMatch_30 : decode cX3_noteMatch 30 = .ok (.iaload, 1) := by decide +kernel
theorem dX3_noteMatch_31 : decode cX3_noteMatch 31 = .ok (.if_icmp .le 18, 3) := by decide +kernel
theorem dX3_noteMatch_34 : decode cX3_noteMatch 34 = .ok (.aload_n 0, 1) := by decide +kernel
theorem dX3_noteMatch_35 : decode cX3_noteMatch 35 = .ok (.getfield 19, 3) := by decide +kernel
theorem dX3_noteMatch_38 : decode cX3_noteMatch 38 = .ok (.iload_n 1, 1) := by decide +kernel
theorem dX3_noteMatch_39 : decode cX3_noteMatch 39 = .ok (.iload 4, 2) := by decide +kernel
theorem dX3_noteMatch_41 : decode cX3_noteMatch 41 = .ok (.iastore, 1) := by decide +kernel
theorem dX3_noteMatch_42 : decode cX3_noteMatch 42 = .ok (.aload_n 0, 1) := by decide +kernel
theorem dX3_noteMatch_43 : decode cX3_noteMatch 43 = .ok (.getfield 23, 3) := by decide +kernel
theorem dX3_noteMatch_46 : decode cX3_noteMatch 46 = .ok (.iload_n 1, 1) := by decide +kernel
theorem dX3_noteMatch_47 : decode cX3_noteMatch 47 = .ok (.iload_n 2, 1) := by decide +kernel
theorem dX3_noteMatch_48 : decode cX3_noteMatch 48 = .ok (.iastore, 1) := by decide +kernel
theorem dX3_noteMatch_49 : decode cX3_noteMatch 49 = .ok (.iload 4, 2) := by decide +kernel
theorem dX3_noteMatch_51 : decode cX3_noteMatch 51 = .ok (.ireturn, 1) := by decide +kernel
theorem dX4_init_0 : decode cX4_init 0 = .ok (.aload_n 0, 1) := by decide +kernel
theorem dX4_init_1 : decode cX4_init 1 = .ok (.invokespecial 3, 3) := by decide +kernel
theorem dX4_init_4 : decode cX4_init 4 = .ok (.aload_n 0, 1) := by decide +kernel
theorem dX4_init_5 : decode cX4_init 5 = .ok (.aload_n 1, 1) := by decide +kernel
theorem dX4_init_6 : decode cX4_init 6 = .ok (.putfield 9, 3) := by decide +kernel
theorem dX4_init_9 : decode cX4_init 9 = .ok (.aload_n 0, 1) := by decide +kernel
theorem dX4_init_10 : decode cX4_init 10 = .ok (.aload_n 2, 1) := by decide +kernel
theorem dX4_init_11 : decode cX4_init 11 = .ok (.putfield 15, 3) := by decide +kernel
theorem dX4_init_14 : decode cX4_init 14 = .ok (.aload_n 0, 1) := by decide +kernel
theorem dX4_init_15 : decode cX4_init 15 = .ok (.aload_n 3, 1) := by decide +kernel
theorem dX4_init_16 : decode cX4_init 16 = .ok (.putfield 19, 3) := by decide +kernel
theorem dX4_init_19 : decode cX4_init 19 = .ok (.aload_n 0, 1) := by decide +kernel
theorem dX4_init_20 : decode cX4_init 20 = .ok (.iconst 0, 1) := by decide +kernel
theorem dX4_init_21 : decode cX4_init 21 = .ok (.putfield 22, 3) := by decide +kernel
theorem dX4_init_24 : decode cX4_init 24 = .ok (.return_, 1) := by decide +kernel
set_option maxRecDepth 20000 in
theorem ggX4_readText_X1_empty : GoodIn wsX4_readText wsX1_empty := goodIn_r _ [7, 8, 79, 80] (by decide +kernel) (by decide +kernel)
set_option maxRecDepth 20000 in
theorem gX4_readText_X1_empty : GoodIn wsX4_readText (wsV RX4 26 RX1 yX1_empty wsX1_empty) := goodIn_app (goodIn_of _ (by decide +kernel)) ggX4_readText_X1_empty
set_option maxRecDepth 20000 in
theorem ggX4_readText_X4_number : GoodIn wsX4_readText wsX4_number := goodIn_r _ [13, 14, 1, 15, 16, 17, 6, 18, 8, 19, 75, 76, 77, 78, 79, 80] (by decide +kernel) (by decide +kernel)
set_option maxRecDepth 20000 in
theorem gX4_readText_X4_number : GoodIn wsX4_readText (wsV RX4 31 RX4 yX4_number wsX4_number) := goodIn_app (goodIn_of _ (by decide +kernel)) ggX4_readText_X4_number
set_option maxRecDepth 20000 in
theorem ggX4_readText_X1_size : GoodIn wsX4_readText wsX1_size := goodIn_r _ [23, 8, 79, 80] (by decide +kernel) (by decide +kernel)
set_option maxRecDepth 20000 in
theorem gX4_readText_X1_size : GoodIn wsX4_readText (wsV RX4 35 RX1 yX1_size wsX1_size) := goodIn_app (goodIn_of _ (by decide +kernel)) ggX4_readText_X1_size
set_option maxRecDepth 20000 in
theorem ggX4_readText_X4_readStep : GoodIn wsX4_readText wsX4_readStep := goodIn_r _ [27, 9, 10, 11, 12, 13, 14, 1, 15, 16, 17, 6, 18, 8, 19, 28, 29, 30, 31, 2, 32, 33, 34, 35, 36, 37, 38, 39, 40, 41, 42, 43, 44, 45, 46, 47, 48, 49, 50, 51, 52, 53, 54, 55, 56, 57, 58, 59, 20, 21, 22, 23, 60, 61, 62, 63, 64, 65, 66, 67, 68, 69, 70, 75, 76, 77, 78, 79, 80, 81, 82, 83] (by decide +kernel) (by decide +kernel)
set_option maxRecDepth 20000 in
theorem gX4_readText_X4_readStep : GoodIn wsX4_readText (wsV RX4 39 RX4 yX4_readStep wsX4_readStep) := goodIn_app (goodIn_of _ (by decide +kernel)) ggX4_readText_X4_readStep
set_option maxRecDepth 20000 in
theorem ggX4_readText_X4_faultBehind : GoodIn wsX4_readText wsX4_faultBehind := goodIn_r _ [74, 1, 14, 9, 10, 11, 12, 13, 15, 16, 17, 6, 18, 8, 19, 20, 21, 22, 23, 75, 76, 77, 78, 79, 80] (by decide +kernel) (by decide +kernel)
set_option maxRecDepth 20000 in
theorem gX4_readText_X4_faultBehind : GoodIn wsX4_readText (wsV RX4 42 RX4 yX4_faultBehind wsX4_faultBehind) := goodIn_app (goodIn_of _ (by decide +kernel)) ggX4_readText_X4_faultBehind
theorem dX4_readText_0 : decode cX4_readText 0 = .ok (.aload_n 0, 1) := by decide +kernel
theorem dX4_readText_1 : decode cX4_readText 1 = .ok (.iconst 0, 1) := by decide +kernel
theorem dX4_readText_2 : decode cX4_readText 2 = .ok (.putfield 22, 3) := by decide +kernel
theorem dX4_readText_5 : decode cX4_readText 5 = .ok (.aload_n 0, 1) := by decide +kernel
theorem dX4_readText_6 : decode cX4_readText 6 = .ok (.getfield 19, 3) := by decide +kernel
theorem dX4_readText_9 : decode cX4_readText 9 = .ok (.invokevirtual 26, 3) := by decide +kernel
theorem dX4_readText_12 : decode cX4_readText 12 = .ok (.aload_n 0, 1) := by decide +kernel
theorem dX4_readText_13 : decode cX4_readText 13 = .ok (.bipush 16, 2) := by decide +kernel
theorem dX4_readText_15 : decode cX4_readText 15 = .ok (.invokevirtual 31, 3) := by decide +kernel
theorem dX4_readText_18 : decode cX4_readText 18 = .ok (.istore_n 1, 1) := by decide +kernel
theorem dX4_readText_19 : decode cX4_readText 19 = .ok (.iload_n 1, 1) := by decide +kernel
theorem dX4_readText_20 : decode cX4_readText 20 = .ok (.iconst (-1), 1) := by decide +kernel
theorem dX4_readText_21 : decode cX4_readText 21 = .ok (.if_icmp .ne 5, 3) := by decide +kernel
theorem dX4_readText_24 : decode cX4_readText 24 = .ok (.iconst 1, 1) := by decide +kernel
theorem dX4_readText_25 : decode cX4_readText 25 = .ok (.ireturn, 1) := by decide +kernel
theorem dX4_readText_26 : decode cX4_readText 26 = .ok (.iload_n 1, 1) := by decide +kernel
theorem dX4_readText_27 : decode cX4_readText 27 = .ok (.sipush 500, 3) := by decide +kernel
theorem dX4_readText_30 : decode cX4_readText 30 = .ok (.if_icmp .le 5, 3) := by decide +kernel
theorem dX4_readText_33 : decode cX4_readText 33 = .ok (.iconst 2, 1) := by decide +kernel
theorem dX4_readText_34 : decode cX4_readText 34 = .ok (.ireturn, 1) := by decide +kernel
theorem dX4_readText_35 : decode cX4_readText 35 = .ok (.iconst 0, 1) := by decide +kernel
theorem dX4_readText_36 : decode cX4_readText 36 = .ok (.istore_n 2, 1) := by decide +kernel
theorem dX4_readText_37 : decode cX4_readText 37 = .ok (.iload_n 2, 1) := by decide +kernel
theorem dX4_readText_38 : decode cX4_readText 38 = .ok (.sipush 500, 3) := by decide +kernel
theorem dX4_readText_41 : decode cX4_readText 41 = .ok (.if_icmp .ge 32, 3) := by decide +kernel
theorem dX4_readText_44 : decode cX4_readText 44 = .ok (.aload_n 0, 1) := by decide +kernel
theorem dX4_readText_45 : decode cX4_readText 45 = .ok (.getfield 19, 3) := by decide +kernel
theorem dX4_readText_48 : decode cX4_readText 48 = .ok (.invokevirtual 35, 3) := by decide +kernel
theorem dX4_readText_51 : decode cX4_readText 51 = .ok (.iload_n 1, 1) := by decide +kernel
theorem dX4_readText_52 : decode cX4_readText 52 = .ok (.if_icmp .ge 21, 3) := by decide +kernel
theorem dX4_readText_55 : decode cX4_readText 55 = .ok (.aload_n 0, 1) := by decide +kernel
theorem dX4_readText_56 : decode cX4_readText 56 = .ok (.iload_n 1, 1) := by decide +kernel
theorem dX4_readText_57 : decode cX4_readText 57 = .ok (.invokevirtual 39, 3) := by decide +kernel
theorem dX4_readText_60 : decode cX4_readText 60 = .ok (.istore_n 3, 1) := by decide +kernel
theorem dX4_readText_61 : decode cX4_readText 61 = .ok (.iload_n 3, 1) := by decide +kernel
theorem dX4_readText_62 : decode cX4_readText 62 = .ok (.ifCond .eq 5, 3) := by decide +kernel
theorem dX4_readText_65 : decode cX4_readText 65 = .ok (.iload_n 3, 1) := by decide +kernel
theorem dX4_readText_66 : decode cX4_readText 66 = .ok (.ireturn, 1) := by decide +kernel
theorem dX4_readText_67 : decode cX4_readText 67 = .ok (.iinc 2 1, 3) := by decide +kernel
theorem dX4_readText_70 : decode cX4_readText 70 = .ok (.goto (-33), 3) := by decide +kernel
theorem dX4_readText_73 : decode cX4_readText 73 = .ok (.aload_n 0, 1) := by decide +kernel
theorem dX4_readText_74 : decode cX4_readText 74 = .ok (.invokevirtual 42, 3) := by decide +kernel
theorem dX4_readText_77 : decode cX4_readText 77 = .ok (.ireturn, 1) := by decide +kernel
set_option maxRecDepth 20000 in
theorem ggX4_readStep_X4_number : GoodIn wsX4_readStep wsX4_number := goodIn_r _ [5, 6, 7, 8, 9, 10, 11, 12, 13, 14, 63, 64, 65, 66, 67, 68] (by decide +kernel) (by decide +kernel)
set_option maxRecDepth 20000 in
theorem gX4_readStep_X4_number : GoodIn wsX4_readStep (wsV RX4 31 RX4 yX4_number wsX4_number) := goodIn_app (goodIn_of _ (by decide +kernel)) ggX4_readStep_X4_number
set_option maxRecDepth 20000 in
theorem ggX4_readStep_X4_readByte : GoodIn wsX4_readStep wsX4_readByte := goodIn_r _ [18, 19, 1, 2, 3, 4, 5, 6, 7, 8, 9, 10, 11, 12, 13, 14, 20, 21, 22, 23, 63, 64, 65, 66, 67, 68] (by decide +kernel) (by decide +kernel)
set_option maxRecDepth 20000 in
theorem gX4_readStep_X4_readByte : GoodIn wsX4_readStep (wsV RX4 45 RX4 yX4_readByte wsX4_readByte) := goodIn_app (goodIn_of _ (by decide +kernel)) ggX4_readStep_X4_readByte
set_option maxRecDepth 20000 in
theorem ggX4_readStep_X4_readMatch : GoodIn wsX4_readStep wsX4_readMatch := goodIn_r _ [27, 28, 19, 29, 30, 31, 4, 32, 1, 2, 3, 5, 6, 7, 8, 9, 10, 11, 12, 13, 14, 33, 34, 35, 36, 37, 38, 39, 40, 41, 42, 43, 44, 45, 46, 47, 48, 49, 50, 51, 52, 53, 54, 55, 56, 57, 58, 59, 60, 61, 62, 21, 22, 23, 63, 64, 65, 66, 67, 68, 69, 70, 71] (by decide +kernel) (by decide +kernel)
set_option maxRecDepth 20000 in
theorem gX4_readStep_X4_readMatch : GoodIn wsX4_readStep (wsV RX4 48 RX4 yX4_readMatch wsX4_readMatch) := goodIn_app (goodIn_of _ (by decide +kernel)) ggX4_readStep_X4_readMatch
theorem dX4_readStep_0 : decode cX4_readStep 0 = .ok (.aload_n 0, 1) := by decide +kernel
theorem dX4_readStep_1 : decode cX4_readStep 1 = .ok (.iconst 1, 1) := by decide +kernel
theorem dX4_readStep_2 : decode cX4_readStep 2 = .ok (.invokevirtual 31, 3) := by decide +kernel
theorem dX4_readStep_5 : decode cX4_readStep 5 = .ok (.istore_n 2, 1) := by decide +kernel
theorem dX4_readStep_6 : decode cX4_readStep 6 = .ok (.iload_n 2, 1) := by decide +kernel
theorem dX4_readStep_7 : decode cX4_readStep 7 = .ok (.iconst (-1), 1) := by decide +kernel
theorem dX4_readStep_8 : decode cX4_readStep 8 = .ok (.if_icmp .ne 5, 3) := by decide +kernel
theorem dX4_readStep_11 : decode cX4_readStep 11 = .ok (.iconst 1, 1) := by decide +kernel
theorem dX4_readStep_12 : decode cX4_readStep 12 = .ok (.ireturn, 1) := by decide +kernel
theorem dX4_readStep_13 : decode cX4_readStep 13 = .ok (.iload_n 2, 1) := by decide +kernel
theorem dX4_readStep_14 : decode cX4_readStep 14 = .ok (.ifCond .ne 10, 3) := by decide +kernel
theorem dX4_readStep_17 : decode cX4_readStep 17 = .ok (.aload_n 0, 1) := by decide +kernel
theorem dX4_readStep_18 : decode cX4_readStep 18 = .ok (.invokevirtual 45, 3) := by decide +kernel
theorem dX4_readStep_21 : decode cX4_readStep 21 = .ok (.goto 8, 3) := by decide +kernel
theorem dX4_readStep_24 : decode cX4_readStep 24 = .ok (.aload_n 0, 1) := by decide +kernel
theorem dX4_readStep_25 : decode cX4_readStep 25 = .ok (.iload_n 1, 1) := by decide +kernel
theorem dX4_readStep_26 : decode cX4_readStep 26 = .ok (.invokevirtual 48, 3) := by decide +kernel
theorem dX4_readStep_29 : decode cX4_readStep 29 = .ok (.ireturn, 1) := by decide +kernel
set_option maxRecDepth 20000 in
theorem ggX4_readByte_X4_number : GoodIn wsX4_readByte wsX4_number := goodIn_r _ [6, 7, 8, 9, 10, 11, 12, 13, 14, 15, 20, 21, 22, 23, 24, 25] (by decide +kernel) (by decide +kernel)
set_option maxRecDepth 20000 in
theorem gX4_readByte_X4_number : GoodIn wsX4_readByte (wsV RX4 31 RX4 yX4_number wsX4_number) := goodIn_app (goodIn_of _ (by decide +kernel)) ggX4_readByte_X4_number
set_option maxRecDepth 20000 in
theorem ggX4_readByte_X1_add : GoodIn wsX4_readByte wsX1_add := goodIn_r _ [19, 14, 15, 24, 25] (by decide +kernel) (by decide +kernel)
set_option maxRecDepth 20000 in
theorem gX4_readByte_X1_add : GoodIn wsX4_readByte (wsV RX4 51 RX1 yX1_add wsX1_add) := goodIn_app (goodIn_of _ (by decide +kernel)) ggX4_readByte_X1_add
theorem dX4_readByte_0 : decode cX4_readByte 0 = .ok (.aload_n 0, 1) := by decide +kernel
theorem dX4_readByte_1 : decode cX4_readByte 1 = .ok (.bipush 8, 2) := by decide +kernel
theorem dX4_readByte_3 : decode cX4_readByte 3 = .ok (.invokevirtual 31, 3) := by decide +kernel
theorem dX4_readByte_6 : decode cX4_readByte 6 = .ok (.istore_n 1, 1) := by decide +kernel
theorem dX4_readByte_7 : decode cX4_readByte 7 = .ok (.iload_n 1, 1) := by decide +kernel
theorem dX4_readByte_8 : decode cX4_readByte 8 = .ok (.iconst (-1), 1) := by decide +kernel
theorem dX4_readByte_9 : decode cX4_readByte 9 = .ok (.if_icmp .ne 5, 3) := by decide +kernel
theorem dX4_readByte_12 : decode cX4_readByte 12 = .ok (.iconst 1, 1) := by decide +kernel
theorem dX4_readByte_13 : decode cX4_readByte 13 = .ok (.ireturn, 1) := by decide +kernel
theorem dX4_readByte_14 : decode cX4_readByte 14 = .ok (.aload_n 0, 1) := by decide +kernel
theorem dX4_readByte_15 : decode cX4_readByte 15 = .ok (.getfield 19, 3) := by decide +kernel
theorem dX4_readByte_18 : decode cX4_readByte 18 = .ok (.iload_n 1, 1) := by decide +kernel
theorem dX4_readByte_19 : decode cX4_readByte 19 = .ok (.invokevirtual 51, 3) := by decide +kernel
theorem dX4_readByte_22 : decode cX4_readByte 22 = .ok (.iconst 0, 1) := by decide +kernel
theorem dX4_readByte_23 : decode cX4_readByte 23 = .ok (.ireturn, 1) := by decide +kernel
set_option maxRecDepth 20000 in
theorem ggX4_readMatch_X4_countZeros : GoodIn wsX4_readMatch wsX4_countZeros := goodIn_r _ [7, 8, 9, 10, 6, 11, 12, 13, 14, 15, 16, 17, 18, 19, 20, 54, 55, 56, 57, 58, 59] (by decide +kernel) (by decide +kernel)
set_option maxRecDepth 20000 in
theorem gX4_readMatch_X4_countZeros : GoodIn wsX4_readMatch (wsV RX4 55 RX4 yX4_countZeros wsX4_countZeros) := goodIn_app (goodIn_of _ (by decide +kernel)) ggX4_readMatch_X4_countZeros
set_option maxRecDepth 20000 in
theorem ggX4_readMatch_X4_numberOfClass : GoodIn wsX4_readMatch wsX4_numberOfClass := goodIn_r _ [24, 8, 9, 10, 6, 11, 12, 13, 14, 15, 16, 17, 18, 19, 20, 54, 55, 56, 57, 58, 59] (by decide +kernel) (by decide +kernel)
set_option maxRecDepth 20000 in
theorem gX4_readMatch_X4_numberOfClass : GoodIn wsX4_readMatch (wsV RX4 58 RX4 yX4_numberOfClass wsX4_numberOfClass) := goodIn_app (goodIn_of _ (by decide +kernel)) ggX4_readMatch_X4_numberOfClass
set_option maxRecDepth 20000 in
theorem ggX4_readMatch_X5_least : GoodIn wsX4_readMatch wsX5_least := goodIn_r _ [29, 30, 60, 61, 62] (by decide +kernel) (by decide +kernel)
set_option maxRecDepth 20000 in
theorem gX4_readMatch_X5_least : GoodIn wsX4_readMatch (wsV RX4 61 RX5 yX5_least wsX5_least) := goodIn_app (goodIn_of _ (by decide +kernel)) ggX4_readMatch_X5_least
set_option maxRecDepth 20000 in
theorem ggX4_readMatch_X5_most : GoodIn wsX4_readMatch wsX5_most := goodIn_r _ [34, 35, 60, 61, 62] (by decide +kernel) (by decide +kernel)
set_option maxRecDepth 20000 in
theorem gX4_readMatch_X5_most : GoodIn wsX4_readMatch (wsV RX4 66 RX5 yX5_most wsX5_most) := goodIn_app (goodIn_of _ (by decide +kernel)) ggX4_readMatch_X5_most
set_option maxRecDepth 20000 in
theorem ggX4_readMatch_X1_size : GoodIn wsX4_readMatch wsX1_size := goodIn_r _ [39, 19, 58, 59] (by decide +kernel) (by decide +kernel)
set_option maxRecDepth 20000 in
theorem gX4_readMatch_X1_size : GoodIn wsX4_readMatch (wsV RX4 35 RX1 yX1_size wsX1_size) := goodIn_app (goodIn_of _ (by decide +kernel)) ggX4_readMatch_X1_size
set_option maxRecDepth 20000 in
theorem ggX4_readMatch_X4_number : GoodIn wsX4_readMatch wsX4_number := goodIn_r _ [11, 12, 13, 14, 15, 16, 17, 18, 19, 20, 54, 55, 56, 57, 58, 59] (by decide +kernel) (by decide +kernel)
set_option maxRecDepth 20000 in
theorem gX4_readMatch_X4_number : GoodIn wsX4_readMatch (wsV RX4 31 RX4 yX4_number wsX4_number) := goodIn_app (goodIn_of _ (by decide +kernel)) ggX4_readMatch_X4_number
set_option maxRecDepth 20000 in
theorem ggX4_readMatch_X5_window : GoodIn wsX4_readMatch wsX5_window := goodIn_r _ [43, 44, 60, 61, 62] (by decide +kernel) (by decide +kernel)
set_option maxRecDepth 20000 in
theorem gX4_readMatch_X5_window : GoodIn wsX4_readMatch (wsV RX4 69 RX5 yX5_window wsX5_window) := goodIn_app (goodIn_of _ (by decide +kernel)) ggX4_readMatch_X5_window
set_option maxRecDepth 20000 in
theorem ggX4_readMatch_X1_addAgain : GoodIn wsX4_readMatch wsX1_addAgain := goodIn_r _ [48, 19, 49, 15, 16, 17, 18, 20, 50, 51, 52, 53, 58, 59] (by decide +kernel) (by decide +kernel)
set_option maxRecDepth 20000 in
theorem gX4_readMatch_X1_addAgain : GoodIn wsX4_readMatch (wsV RX4 72 RX1 yX1_addAgain wsX1_addAgain) := goodIn_app (goodIn_of _ (by decide +kernel)) ggX4_readMatch_X1_addAgain
theorem dX4_readMatch_0 : decode cX4_readMatch 0 = .ok (.aload_n 0, 1) := by decide +kernel
theorem dX4_readMatch_1 : decode cX4_readMatch 1 = .ok (.invokevirtual 55, 3) := by decide +kernel
theorem dX4_readMatch_4 : decode cX4_readMatch 4 = .ok (.istore_n 2, 1) := by decide +kernel
theorem dX4_readMatch_5 : decode cX4_readMatch 5 = .ok (.iload_n 2, 1) := by decide +kernel
theorem dX4_readMatch_6 : decode cX4_readMatch 6 = .ok (.bipush 9, 2) := by decide +kernel
theorem dX4_readMatch_8 : decode cX4_readMatch 8 = .ok (.if_icmp .ne 5, 3) := by decide +kernel
theorem dX4_readMatch_11 : decode cX4_readMatch 11 = .ok (.iconst 3, 1) := by decide +kernel
theorem dX4_readMatch_12 : decode cX4_readMatch 12 = .ok (.ireturn, 1) := by decide +kernel
theorem dX4_readMatch_13 : decode cX4_readMatch 13 = .ok (.aload_n 0, 1) := by decide +kernel
theorem dX4_readMatch_14 : decode cX4_readMatch 14 = .ok (.iload_n 2, 1) := by decide +kernel
theorem dX4_readMatch_15 : decode cX4_readMatch 15 = .ok (.invokevirtual 58, 3) := by decide +kernel
theorem dX4_readMatch_18 : decode cX4_readMatch 18 = .ok (.istore_n 3, 1) := by decide +kernel
theorem dX4_readMatch_19 : decode cX4_readMatch 19 = .ok (.iload_n 3, 1) := by decide +kernel
theorem dX4_readMatch_20 : decode cX4_readMatch 20 = .ok (.iconst (-1), 1) := by decide +kernel
theorem dX4_readMatch_21 : decode cX4_readMatch 21 = .ok (.if_icmp .ne 5, 3) := by decide +kernel
theorem dX4_readMatch_24 : decode cX4_readMatch 24 = .ok (.iconst 1, 1) := by decide +kernel
theorem dX4_readMatch_25 : decode cX4_readMatch 25 = .ok (.ireturn, 1) := by decide +kernel
theorem dX4_readMatch_26 : decode cX4_readMatch 26 = .ok (.iload_n 3, 1) := by decide +kernel
theorem dX4_readMatch_27 : decode cX4_readMatch 27 = .ok (.iconst 1, 1) := by decide +kernel
theorem dX4_readMatch_28 : decode cX4_readMatch 28 = .ok (.isub, 1) := by decide +kernel
theorem dX4_readMatch_29 : decode cX4_readMatch 29 = .ok (.aload_n 0, 1) := by decide +kernel
theorem dX4_readMatch_30 : decode cX4_readMatch 30 = .ok (.getfield 15, 3) := by decide +kernel
theorem dX4_readMatch_33 : decode cX4_readMatch 33 = .ok (.invokevirtual 61, 3) := by decide +kernel
theorem dX4_readMatch_36 : decode cX4_readMatch 36 = .ok (.iadd, 1) := by decide +kernel
theorem dX4_readMatch_37 : decode cX4_readMatch 37 = .ok (.istore 4, 2) := by decide +kernel
theorem dX4_readMatch_39 : decode cX4_readMatch 39 = .ok (.iload 4, 2) := by decide +kernel
theorem dX4_readMatch_41 : decode cX4_readMatch 41 = .ok (.aload_n 0, 1) := by decide +kernel
theorem dX4_readMatch_42 : decode cX4_readMatch 42 = .ok (.getfield 15, 3) := by decide +kernel
theorem dX4_readMatch_45 : decode cX4_readMatch 45 = .ok (.invokevirtual 66, 3) := by decide +kernel
theorem dX4_readMatch_48 : decode cX4_readMatch 48 = .ok (.if_icmp .gt 17, 3) := by decide +kernel
theorem dX4_readMatch_51 : decode cX4_readMatch 51 = .ok (.iload 4, 2) := by decide +kernel
theorem dX4_readMatch_53 : decode cX4_readMatch 53 = .ok (.iload_n 1, 1) := by decide +kernel
theorem dX4_readMatch_54 : decode cX4_readMatch 54 = .ok (.aload_n 0, 1) := by decide +kernel
theorem dX4_readMatch_55 : decode cX4_readMatch 55 = .ok (.getfield 19, 3) := by decide +kernel
theorem dX4_readMatch_58 : decode cX4_readMatch 58 = .ok (.invokevirtual 35, 3) := by decide +kernel
theorem dX4_readMatch_61 : decode cX4_readMatch 61 = .ok (.isub, 1) := by decide +kernel
theorem dX4_readMatch_62 : decode cX4_readMatch 62 = .ok (.if_icmp .le 5, 3) := by decide +kernel
theorem dX4_readMatch_65 : decode cX4_readMatch 65 = .ok (.iconst 3, 1) := by decide +kernel
theorem dX4_readMatch_66 : decode cX4_readMatch 66 = .ok (.ireturn, 1) := by decide +kernel
theorem dX4_readMatch_67 : decode cX4_readMatch 67 = .ok (.aload_n 0, 1) := by decide +kernel
theorem dX4_readMatch_68 : decode cX4_readMatch 68 = .ok (.aload_n 0, 1) := by decide +kernel
theorem dX4_readMatch_69 : decode cX4_readMatch 69 = .ok (.iconst 4, 1) := by decide +kernel
theorem dX4_readMatch_70 : decode cX4_readMatch 70 = .ok (.invokevirtual 31, 3) := by decide +kernel
theorem dX4_readMatch_73 : decode cX4_readMatch 73 = .ok (.invokevirtual 58, 3) := by decide +kernel
theorem dX4_readMatch_76 : decode cX4_readMatch 76 = .ok (.istore 5, 2) := by decide +kernel
theorem dX4_readMatch_78 : decode cX4_readMatch 78 = .ok (.iload 5, 2) := by decide +kernel
theorem dX4_readMatch_80 : decode cX4_readMatch 80 = .ok (.iconst (-1), 1) := by decide +kernel
theorem dX4_readMatch_81 : decode cX4_readMatch 81 = .ok (.if_icmp .ne 5, 3) := by decide +kernel
theorem dX4_readMatch_84 : decode cX4_readMatch 84 = .ok (.iconst 1, 1) := by decide +kernel
theorem dX4_readMatch_85 : decode cX4_readMatch 85 = .ok (.ireturn, 1) := by decide +kernel
theorem dX4_readMatch_86 : decode cX4_readMatch 86 = .ok (.iload 5, 2) := by decide +kernel
theorem dX4_readMatch_88 : decode cX4_readMatch 88 = .ok (.aload_n 0, 1) := by decide +kernel
theorem dX4_readMatch_89 : decode cX4_readMatch 89 = .ok (.getfield 15, 3) := by decide +kernel
theorem dX4_readMatch_92 : decode cX4_readMatch 92 = .ok (.invokevirtual 69, 3) := by decide +kernel
theorem dX4_readMatch_95 : decode cX4_readMatch 95 = .ok (.if_icmp .gt 15, 3) := by decide +kernel
theorem dX4_readMatch_98 : decode cX4_readMatch 98 = .ok (.iload 5, 2) := by decide +kernel
theorem dX4_readMatch_100 : decode cX4_readMatch 100 = .ok (.aload_n 0, 1) := by decide +kernel
theorem dX4_readMatch_101 : decode cX4_readMatch 101 = .ok (.getfield 19, 3) := by decide +kernel
theorem dX4_readMatch_104 : decode cX4_readMatch 104 = .ok (.invokevirtual 35, 3) := by decide +kernel
theorem dX4_readMatch_107 : decode cX4_readMatch 107 = .ok (.if_icmp .le 5, 3) := by decide +kernel
theorem dX4_readMatch_110 : decode cX4_readMatch 110 = .ok (.iconst 4, 1) := by decide +kernel
theorem dX4_readMatch_111 : decode cX4_readMatch 111 = .ok (.ireturn, 1) := by decide +kernel
theorem dX4_readMatch_112 : decode cX4_readMatch 112 = .ok (.aload_n 0, 1) := by decide +kernel
theorem dX4_readMatch_113 : decode cX4_readMatch 113 = .ok (.getfield 19, 3) := by decide +kernel
theorem dX4_readMatch_116 : decode cX4_readMatch 116 = .ok (.iload 5, 2) := by decide +kernel
theorem dX4_readMatch_118 : decode cX4_readMatch 118 = .ok (.iload 4, 2) := by decide +kernel
theorem dX4_readMatch_120 : decode cX4_readMatch 120 = .ok (.invokevirtual 72, 3) := by decide +kernel
theorem dX4_readMatch_123 : decode cX4_readMatch 123 = .ok (.iconst 0, 1) := by decide +kernel
theorem dX4_readMatch_124 : decode cX4_readMatch 124 = .ok (.ireturn, 1) := by decide +kernel
set_option maxRecDepth 20000 in
theorem ggX4_countZeros_X4_number : GoodIn wsX4_countZeros wsX4_number := goodIn_r _ [5, 6, 7, 8, 9, 10, 11, 12, 13, 14, 15, 16, 17, 18, 19, 20] (by decide +kernel) (by decide +kernel)
set_option maxRecDepth 20000 in
theorem gX4_countZeros_X4_number : GoodIn wsX4_countZeros (wsV RX4 31 RX4 yX4_number wsX4_number) := goodIn_app (goodIn_of _ (by decide +kernel)) ggX4_countZeros_X4_number
theorem dX4_countZeros_0 : decode cX4_countZeros 0 = .ok (.iconst 0, 1) := by decide +kernel
theorem dX4_countZeros_1 : decode cX4_countZeros 1 = .ok (.istore_n 1, 1) := by decide +kernel
theorem dX4_countZeros_2 : decode cX4_countZeros 2 = .ok (.iload_n 1, 1) := by decide +kernel
theorem dX4_countZeros_3 : decode cX4_countZeros 3 = .ok (.bipush 9, 2) := by decide +kernel
theorem dX4_countZeros_5 : decode cX4_countZeros 5 = .ok (.if_icmp .ge 30, 3) := by decide +kernel
theorem dX4_countZeros_8 : decode cX4_countZeros 8 = .ok (.aload_n 0, 1) := by decide +kernel
theorem dX4_countZeros_9 : decode cX4_countZeros 9 = .ok (.iconst 1, 1) := by decide +kernel
theorem dX4_countZeros_10 : decode cX4_countZeros 10 = .ok (.invokevirtual 31, 3) := by decide +kernel
theorem dX4_countZeros_13 : decode cX4_countZeros 13 = .ok (.istore_n 2, 1) := by decide +kernel
theorem dX4_countZeros_14 : decode cX4_countZeros 14 = .ok (.iload_n 2, 1) := by decide +kernel
theorem dX4_countZeros_15 : decode cX4_countZeros 15 = .ok (.ifCond .eq 14, 3) := by decide +kernel
theorem dX4_countZeros_18 : decode cX4_countZeros 18 = .ok (.iload_n 2, 1) := by decide +kernel
theorem dX4_countZeros_19 : decode cX4_countZeros 19 = .ok (.iconst (-1), 1) := by decide +kernel
theorem dX4_countZeros_20 : decode cX4_countZeros 20 = .ok (.if_icmp .ne 7, 3) := by decide +kernel
theorem dX4_countZeros_23 : decode cX4_countZeros 23 = .ok (.iconst (-1), 1) := by decide +kernel
theorem dX4_countZeros_24 : decode cX4_countZeros 24 = .ok (.goto 4, 3) := by decide +kernel
theorem dX4_countZeros_27 : decode cX4_countZeros 27 = .ok (.iload_n 1, 1) := by decide +kernel
theorem dX4_countZeros_28 : decode cX4_countZeros 28 = .ok (.ireturn, 1) := by decide +kernel
theorem dX4_countZeros_29 : decode cX4_countZeros 29 = .ok (.iinc 1 1, 3) := by decide +kernel
theorem dX4_countZeros_32 : decode cX4_countZeros 32 = .ok (.goto (-30), 3) := by decide +kernel
theorem dX4_countZeros_35 : decode cX4_countZeros 35 = .ok (.bipush 9, 2) := by decide +kernel
theorem dX4_countZeros_37 : decode cX4_countZeros 37 = .ok (.ireturn, 1) := by decide +kernel
set_option maxRecDepth 20000 in
theorem ggX4_numberOfClass_X4_number : GoodIn wsX4_numberOfClass wsX4_number := goodIn_r _ [5, 6, 7, 8, 9, 10, 11, 12, 13, 14, 15, 16, 17, 18, 19, 20] (by decide +kernel) (by decide +kernel)
set_option maxRecDepth 20000 in
theorem gX4_numberOfClass_X4_number : GoodIn wsX4_numberOfClass (wsV RX4 31 RX4 yX4_number wsX4_number) := goodIn_app (goodIn_of _ (by decide +kernel)) ggX4_numberOfClass_X4_number
theorem dX4_numberOfClass_0 : decode cX4_numberOfClass 0 = .ok (.iload_n 1, 1) := by decide +kernel
theorem dX4_numberOfClass_1 : decode cX4_numberOfClass 1 = .ok (.iconst (-1), 1) := by decide +kernel
theorem dX4_numberOfClass_2 : decode cX4_numberOfClass 2 = .ok (.if_icmp .ne 5, 3) := by decide +kernel
theorem dX4_numberOfClass_5 : decode cX4_numberOfClass 5 = .ok (.iconst (-1), 1) := by decide +kernel
theorem dX4_numberOfClass_6 : decode cX4_numberOfClass 6 = .ok (.ireturn, 1) := by decide +kernel
theorem dX4_numberOfClass_7 : decode cX4_numberOfClass 7 = .ok (.aload_n 0, 1) := by decide +kernel
theorem dX4_numberOfClass_8 : decode cX4_numberOfClass 8 = .ok (.iload_n 1, 1) := by decide +kernel
theorem dX4_numberOfClass_9 : decode cX4_numberOfClass 9 = .ok (.invokevirtual 31, 3) := by decide +kernel
theorem dX4_numberOfClass_12 : decode cX4_numberOfClass 12 = .ok (.istore_n 2, 1) := by decide +kernel
theorem dX4_numberOfClass_13 : decode cX4_numberOfClass 13 = .ok (.iload_n 2, 1) := by decide +kernel
theorem dX4_numberOfClass_14 : decode cX4_numberOfClass 14 = .ok (.iconst (-1), 1) := by decide +kernel
theorem dX4_numberOfClass_15 : decode cX4_numberOfClass 15 = .ok (.if_icmp .ne 7, 3) := by decide +kernel
theorem dX4_numberOfClass_18 : decode cX4_numberOfClass 18 = .ok (.iconst (-1), 1) := by decide +kernel
theorem dX4_numberOfClass_19 : decode cX4_numberOfClass 19 = .ok (.goto 8, 3) := by decide +kernel
theorem dX4_numberOfClass_22 : decode cX4_numberOfClass 22 = .ok (.iconst 1, 1) := by decide +kernel
theorem dX4_numberOfClass_23 : decode cX4_numberOfClass 23 = .ok (.iload_n 1, 1) := by decide +kernel
theorem dX4_numberOfClass_24 : decode cX4_numberOfClass 24 = .ok (.ishl, 1) := by decide +kernel
theorem dX4_numberOfClass_25 : decode cX4_numberOfClass 25 = .ok (.iload_n 2, 1) := by decide +kernel
theorem dX4_numberOfClass_26 : decode cX4_numberOfClass 26 = .ok (.iadd, 1) := by decide +kernel
theorem dX4_numberOfClass_27 : decode cX4_numberOfClass 27 = .ok (.ireturn, 1) := by decide +kernel
set_option maxRecDepth 20000 in
theorem ggX4_number_X1_get : GoodIn wsX4_number wsX1_get := goodIn_r _ [7, 8, 9, 14, 15] (by decide +kernel) (by decide +kernel)
set_option maxRecDepth 20000 in
theorem gX4_number_X1_get : GoodIn wsX4_number (wsV RX4 76 RX1 yX1_get wsX1_get) := goodIn_app (goodIn_of _ (by decide +kernel)) ggX4_number_X1_get
theorem dX4_number_0 : decode cX4_number 0 = .ok (.iconst 0, 1) := by decide +kernel
theorem dX4_number_1 : decode cX4_number 1 = .ok (.istore_n 2, 1) := by decide +kernel
theorem dX4_number_2 : decode cX4_number 2 = .ok (.iconst 0, 1) := by decide +kernel
theorem dX4_number_3 : decode cX4_number 3 = .ok (.istore_n 3, 1) := by decide +kernel
theorem dX4_number_4 : decode cX4_number 4 = .ok (.iload_n 3, 1) := by decide +kernel
theorem dX4_number_5 : decode cX4_number 5 = .ok (.iload_n 1, 1) := by decide +kernel
theorem dX4_number_6 : decode cX4_number 6 = .ok (.if_icmp .ge 63, 3) := by decide +kernel
theorem dX4_number_9 : decode cX4_number 9 = .ok (.aload_n 0, 1) := by decide +kernel
theorem dX4_number_10 : decode cX4_number 10 = .ok (.getfield 9, 3) := by decide +kernel
theorem dX4_number_13 : decode cX4_number 13 = .ok (.aload_n 0, 1) := by decide +kernel
theorem dX4_number_14 : decode cX4_number 14 = .ok (.getfield 22, 3) := by decide +kernel
theorem dX4_number_17 : decode cX4_number 17 = .ok (.bipush 8, 2) := by decide +kernel
theorem dX4_number_19 : decode cX4_number 19 = .ok (.idiv, 1) := by decide +kernel
theorem dX4_number_20 : decode cX4_number 20 = .ok (.invokevirtual 76, 3) := by decide +kernel
theorem dX4_number_23 : decode cX4_number 23 = .ok (.istore 4, 2) := by decide +kernel
theorem dX4_number_25 : decode cX4_number 25 = .ok (.iload 4, 2) := by decide +kernel
theorem dX4_number_27 : decode cX4_number 27 = .ok (.iconst (-1), 1) := by decide +kernel
theorem dX4_number_28 : decode cX4_number 28 = .ok (.if_icmp .ne 5, 3) := by decide +kernel
theorem dX4_number_31 : decode cX4_number 31 = .ok (.iconst (-1), 1) := by decide +kernel
theorem dX4_number_32 : decode cX4_number 32 = .ok (.ireturn, 1) := by decide +kernel
theorem dX4_number_33 : decode cX4_number 33 = .ok (.iconst 2, 1) := by decide +kernel
theorem dX4_number_34 : decode cX4_number 34 = .ok (.iload_n 2, 1) := by decide +kernel
theorem dX4_number_35 : decode cX4_number 35 = .ok (.imul, 1) := by decide +kernel
theorem dX4_number_36 : decode cX4_number 36 = .ok (.iload 4, 2) := by decide +kernel
theorem dX4_number_38 : decode cX4_number 38 = .ok (.bipush 7, 2) := by decide +kernel
theorem dX4_number_40 : decode cX4_number 40 = .ok (.aload_n 0, 1) := by decide +kernel
theorem dX4_number_41 : decode cX4_number 41 = .ok (.getfield 22, 3) := by decide +kernel
theorem dX4_number_44 : decode cX4_number 44 = .ok (.bipush 8, 2) := by decide +kernel
theorem dX4_number_46 : decode cX4_number 46 = .ok (.irem, 1) := by decide +kernel
theorem dX4_number_47 : decode cX4_number 47 = .ok (.isub, 1) := by decide +kernel
theorem dX4_number_48 : decode cX4_number 48 = .ok (.ishr, 1) := by decide +kernel
theorem dX4_number_49 : decode cX4_number 49 = .ok (.iconst 1, 1) := by decide +kernel
theorem dX4_number_50 : decode cX4_number 50 = .ok (.iand, 1) := by decide +kernel
theorem dX4_number_51 : decode cX4_number 51 = .ok (.iadd, 1) := by decide +kernel
theorem dX4_number_52 : decode cX4_number 52 = .ok (.istore_n 2, 1) := by decide +kernel
theorem dX4_number_53 : decode cX4_number 53 = .ok (.aload_n 0, 1) := by decide +kernel
theorem dX4_number_54 : decode cX4_number 54 = .ok (.dup, 1) := by decide +kernel
theorem dX4_number_55 : decode cX4_number 55 = .ok (.getfield 22, 3) := by decide +kernel
theorem dX4_number_58 : decode cX4_number 58 = .ok (.iconst 1, 1) := by decide +kernel
theorem dX4_number_59 : decode cX4_number 59 = .ok (.iadd, 1) := by decide +kernel
theorem dX4_number_60 : decode cX4_number 60 = .ok (.putfield 22, 3) := by decide +kernel
theorem dX4_number_63 : decode cX4_number 63 = .ok (.iinc 3 1, 3) := by decide +kernel
theorem dX4_number_66 : decode cX4_number 66 = .ok (.goto (-62), 3) := by decide +kernel
theorem dX4_number_69 : decode cX4_number 69 = .ok (.iload_n 2, 1) := by decide +kernel
theorem dX4_number_70 : decode cX4_number 70 = .ok (.ireturn, 1) := by decide +kernel
set_option maxRecDepth 20000 in
theorem ggX4_faultBehind_X4_number : GoodIn wsX4_faultBehind wsX4_number := goodIn_r _ [7, 2, 1, 8, 9, 10, 11, 12, 13, 14, 19, 20, 21, 22, 23, 24] (by decide +kernel) (by decide +kernel)
set_option maxRecDepth 20000 in
theorem gX4_faultBehind_X4_number : GoodIn wsX4_faultBehind (wsV RX4 31 RX4 yX4_number wsX4_number) := goodIn_app (goodIn_of _ (by decide +kernel)) ggX4_faultBehind_X4_number
set_option maxRecDepth 20000 in
theorem ggX4_faultBehind_X1_size : GoodIn wsX4_faultBehind wsX1_size := goodIn_r _ [18, 13, 23, 24] (by decide +kernel) (by decide +kernel)
set_option maxRecDepth 20000 in
theorem gX4_faultBehind_X1_size : GoodIn wsX4_faultBehind (wsV RX4 35 RX1 yX1_size wsX1_size) := goodIn_app (goodIn_of _ (by decide +kernel)) ggX4_faultBehind_X1_size
theorem dX4_faultBehind_0 : decode cX4_faultBehind 0 = .ok (.bipush 8, 2) := by decide +kernel
theorem dX4_faultBehind_2 : decode cX4_faultBehind 2 = .ok (.aload_n 0, 1) := by decide +kernel
theorem dX4_faultBehind_3 : decode cX4_faultBehind 3 = .ok (.getfield 22, 3) := by decide +kernel
theorem dX4_faultBehind_6 : decode cX4_faultBehind 6 = .ok (.bipush 8, 2) := by decide +kernel
theorem dX4_faultBehind_8 : decode cX4_faultBehind 8 = .ok (.irem, 1) := by decide +kernel
theorem dX4_faultBehind_9 : decode cX4_faultBehind 9 = .ok (.isub, 1) := by decide +kernel
theorem dX4_faultBehind_10 : decode cX4_faultBehind 10 = .ok (.bipush 8, 2) := by decide +kernel
theorem dX4_faultBehind_12 : decode cX4_faultBehind 12 = .ok (.irem, 1) := by decide +kernel
theorem dX4_faultBehind_13 : decode cX4_faultBehind 13 = .ok (.istore_n 1, 1) := by decide +kernel
theorem dX4_faultBehind_14 : decode cX4_faultBehind 14 = .ok (.aload_n 0, 1) := by decide +kernel
theorem dX4_faultBehind_15 : decode cX4_faultBehind 15 = .ok (.iload_n 1, 1) := by decide +kernel
theorem dX4_faultBehind_16 : decode cX4_faultBehind 16 = .ok (.invokevirtual 31, 3) := by decide +kernel
theorem dX4_faultBehind_19 : decode cX4_faultBehind 19 = .ok (.ifCond .ne 20, 3) := by decide +kernel
theorem dX4_faultBehind_22 : decode cX4_faultBehind 22 = .ok (.aload_n 0, 1) := by decide +kernel
theorem dX4_faultBehind_23 : decode cX4_faultBehind 23 = .ok (.getfield 22, 3) := by decide +kernel
theorem dX4_faultBehind_26 : decode cX4_faultBehind 26 = .ok (.bipush 8, 2) := by decide +kernel
theorem dX4_faultBehind_28 : decode cX4_faultBehind 28 = .ok (.idiv, 1) := by decide +kernel
theorem dX4_faultBehind_29 : decode cX4_faultBehind 29 = .ok (.aload_n 0, 1) := by decide +kernel
theorem dX4_faultBehind_30 : decode cX4_faultBehind 30 = .ok (.getfield 9, 3) := by decide +kernel
theorem dX4_faultBehind_33 : decode cX4_faultBehind 33 = .ok (.invokevirtual 35, 3) := by decide +kernel
theorem dX4_faultBehind_36 : decode cX4_faultBehind 36 = .ok (.if_icmp .eq 5, 3) := by decide +kernel
theorem dX4_faultBehind_39 : decode cX4_faultBehind 39 = .ok (.iconst 5, 1) := by decide +kernel
theorem dX4_faultBehind_40 : decode cX4_faultBehind 40 = .ok (.ireturn, 1) := by decide +kernel
theorem dX4_faultBehind_41 : decode cX4_faultBehind 41 = .ok (.iconst 0, 1) := by decide +kernel
theorem dX4_faultBehind_42 : decode cX4_faultBehind 42 = .ok (.ireturn, 1) := by decide +kernel
theorem dX5_init_0 : decode cX5_init 0 = .ok (.aload_n 0, 1) := by decide +kernel
theorem dX5_init_1 : decode cX5_init 1 = .ok (.invokespecial 3, 3) := by decide +kernel
theorem dX5_init_4 : decode cX5_init 4 = .ok (.aload_n 0, 1) := by decide +kernel
theorem dX5_init_5 : decode cX5_init 5 = .ok (.iconst 3, 1) := by decide +kernel
theorem dX5_init_6 : decode cX5_init 6 = .ok (.putfield 9, 3) := by decide +kernel
theorem dX5_init_9 : decode cX5_init 9 = .ok (.aload_n 0, 1) := by decide +kernel
theorem dX5_init_10 : decode cX5_init 10 = .ok (.bipush 64, 2) := by decide +kernel
theorem dX5_init_12 : decode cX5_init 12 = .ok (.putfield 15, 3) := by decide +kernel
theorem dX5_init_15 : decode cX5_init 15 = .ok (.aload_n 0, 1) := by decide +kernel
theorem dX5_init_16 : decode cX5_init 16 = .ok (.sipush 500, 3) := by decide +kernel
theorem dX5_init_19 : decode cX5_init 19 = .ok (.putfield 18, 3) := by decide +kernel
theorem dX5_init_22 : decode cX5_init 22 = .ok (.return_, 1) := by decide +kernel
theorem dX5_least_0 : decode cX5_least 0 = .ok (.aload_n 0, 1) := by decide +kernel
theorem dX5_least_1 : decode cX5_least 1 = .ok (.getfield 9, 3) := by decide +kernel
theorem dX5_least_4 : decode cX5_least 4 = .ok (.ireturn, 1) := by decide +kernel
theorem dX5_most_0 : decode cX5_most 0 = .ok (.aload_n 0, 1) := by decide +kernel
theorem dX5_most_1 : decode cX5_most 1 = .ok (.getfield 15, 3) := by decide +kernel
theorem dX5_most_4 : decode cX5_most 4 = .ok (.ireturn, 1) := by decide +kernel
theorem dX5_window_0 : decode cX5_window 0 = .ok (.aload_n 0, 1) := by decide +kernel
theorem dX5_window_1 : decode cX5_window 1 = .ok (.getfield 18, 3) := by decide +kernel
theorem dX5_window_4 : decode cX5_window 4 = .ok (.ireturn, 1) := by decide +kernel
theorem dX5_change_0 : decode cX5_change 0 = .ok (.iload_n 1, 1) := by decide +kernel
theorem dX5_change_1 : decode cX5_change 1 = .ok (.iconst 2, 1) := by decide +kernel
theorem dX5_change_2 : decode cX5_change 2 = .ok (.if_icmp .lt 37, 3) := by decide +kernel
theorem dX5_change_5 : decode cX5_change 5 = .ok (.iload_n 1, 1) := by decide +kernel
theorem dX5_change_6 : decode cX5_change 6 = .ok (.bipush 16, 2) := by decide +kernel
theorem dX5_change_8 : decode cX5_change 8 = .ok (.if_icmp .gt 31, 3) := by decide +kernel
theorem dX5_change_11 : decode cX5_change 11 = .ok (.iload_n 2, 1) := by decide +kernel
theorem dX5_change_12 : decode cX5_change 12 = .ok (.iload_n 1, 1) := by decide +kernel
theorem dX5_change_13 : decode cX5_change 13 = .ok (.if_icmp .lt 26, 3) := by decide +kernel
theorem dX5_change_16 : decode cX5_change 16 = .ok (.iload_n 2, 1) := by decide +kernel
theorem dX5_change_17 : decode cX5_change 17 = .ok (.sipush 255, 3) := by decide +kernel
theorem dX5_change_20 : decode cX5_change 20 = .ok (.if_icmp .gt 19, 3) := by decide +kernel
theorem dX5_change_23 : decode cX5_change 23 = .ok (.iload_n 3, 1) := by decide +kernel
theorem dX5_change_24 : decode cX5_change 24 = .ok (.iconst 1, 1) := by decide +kernel
theorem dX5_change_25 : decode cX5_change 25 = .ok (.if_icmp .lt 14, 3) := by decide +kernel
theorem dX5_change_28 : decode cX5_change 28 = .ok (.iload_n 3, 1) := by decide +kernel
theorem dX5_change_29 : decode cX5_change 29 = .ok (.sipush 500, 3) := by decide +kernel
theorem dX5_change_32 : decode cX5_change 32 = .ok (.if_icmp .gt 7, 3) := by decide +kernel
theorem dX5_change_35 : decode cX5_change 35 = .ok (.iconst 1, 1) := by decide +kernel
theorem dX5_change_36 : decode cX5_change 36 = .ok (.goto 4, 3) := by decide +kernel
theorem dX5_change_39 : decode cX5_change 39 = .ok (.iconst 0, 1) := by decide +kernel
theorem dX5_change_40 : decode cX5_change 40 = .ok (.istore 4, 2) := by decide +kernel
theorem dX5_change_42 : decode cX5_change 42 = .ok (.iload 4, 2) := by decide +kernel
theorem dX5_change_44 : decode cX5_change 44 = .ok (.ifCond .eq 18, 3) := by decide +kernel
theorem dX5_change_47 : decode cX5_change 47 = .ok (.aload_n 0, 1) := by decide +kernel
theorem dX5_change_48 : decode cX5_change 48 = .ok (.iload_n 1, 1) := by decide +kernel
theorem dX5_change_49 : decode cX5_change 49 = .ok (.putfield 9, 3) := by decide +kernel
theorem dX5_change_52 : decode cX5_change 52 = .ok (.aload_n 0, 1) := by decide +kernel
theorem dX5_change_53 : decode cX5_change 53 = .ok (.iload_n 2, 1) := by decide +kernel
theorem dX5_change_54 : decode cX5_change 54 = .ok (.putfield 15, 3) := by decide +kernel
theorem dX5_change_57 : decode cX5_change 57 = .ok (.aload_n 0, 1) := by decide +kernel
theorem dX5_change_58 : decode cX5_change 58 = .ok (.iload_n 3, 1) := by decide +kernel
theorem dX5_change_59 : decode cX5_change 59 = .ok (.putfield 18, 3) := by decide +kernel
theorem dX5_change_62 : decode cX5_change 62 = .ok (.iload 4, 2) := by decide +kernel
theorem dX5_change_64 : decode cX5_change 64 = .ok (.ireturn, 1) := by decide +kernel
set_option maxRecDepth 20000 in
theorem ggX6_init_X1_init : GoodIn wsX6_init wsX1_init := goodIn_r _ [20, 21, 2, 3, 8, 22, 23, 24, 25] (by decide +kernel) (by decide +kernel)
set_option maxRecDepth 20000 in
theorem gX6_init_X1_init : GoodIn wsX6_init (wsX1_init) := ggX6_init_X1_init
theorem dX6_init_0 : decode cX6_init 0 = .ok (.aload_n 0, 1) := by decide +kernel
theorem dX6_init_1 : decode cX6_init 1 = .ok (.invokespecial 3, 3) := by decide +kernel
theorem dX6_init_4 : decode cX6_init 4 = .ok (.aload_n 0, 1) := by decide +kernel
theorem dX6_init_5 : decode cX6_init 5 = .ok (.new 9, 3) := by decide +kernel
theorem dX6_init_8 : decode cX6_init 8 = .ok (.dup, 1) := by decide +kernel
theorem dX6_init_9 : decode cX6_init 9 = .ok (.sipush 500, 3) := by decide +kernel
theorem dX6_init_12 : decode cX6_init 12 = .ok (.invokespecial 11, 3) := by decide +kernel
theorem dX6_init_15 : decode cX6_init 15 = .ok (.putfield 14, 3) := by decide +kernel
theorem dX6_init_18 : decode cX6_init 18 = .ok (.aload_n 0, 1) := by decide +kernel
theorem dX6_init_19 : decode cX6_init 19 = .ok (.sipush 500, 3) := by decide +kernel
theorem dX6_init_22 : decode cX6_init 22 = .ok (.newarray .int, 2) := by decide +kernel
theorem dX6_init_24 : decode cX6_init 24 = .ok (.putfield 20, 3) := by decide +kernel
theorem dX6_init_27 : decode cX6_init 27 = .ok (.aload_n 0, 1) := by decide +kernel
theorem dX6_init_28 : decode cX6_init 28 = .ok (.sipush 500, 3) := by decide +kernel
theorem dX6_init_31 : decode cX6_init 31 = .ok (.newarray .int, 2) := by decide +kernel
theorem dX6_init_33 : decode cX6_init 33 = .ok (.putfield 24, 3) := by decide +kernel
theorem dX6_init_36 : decode cX6_init 36 = .ok (.aload_n 0, 1) := by decide +kernel
theorem dX6_init_37 : decode cX6_init 37 = .ok (.sipush 500, 3) := by decide +kernel
theorem dX6_init_40 : decode cX6_init 40 = .ok (.newarray .int, 2) := by decide +kernel
theorem dX6_init_42 : decode cX6_init 42 = .ok (.putfield 27, 3) := by decide +kernel
theorem dX6_init_45 : decode cX6_init 45 = .ok (.aload_n 0, 1) := by decide +kernel
theorem dX6_init_46 : decode cX6_init 46 = .ok (.iconst 0, 1) := by decide +kernel
theorem dX6_init_47 : decode cX6_init 47 = .ok (.putfield 30, 3) := by decide +kernel
theorem dX6_init_50 : decode cX6_init 50 = .ok (.aload_n 0, 1) := by decide +kernel
theorem dX6_init_51 : decode cX6_init 51 = .ok (.iconst 0, 1) := by decide +kernel
theorem dX6_init_52 : decode cX6_init 52 = .ok (.putfield 34, 3) := by decide +kernel
theorem dX6_init_55 : decode cX6_init 55 = .ok (.aload_n 0, 1) := by decide +kernel
theorem dX6_init_56 : decode cX6_init 56 = .ok (.iconst 0, 1) := by decide +kernel
theorem dX6_init_57 : decode cX6_init 57 = .ok (.putfield 37, 3) := by decide +kernel
theorem dX6_init_60 : decode cX6_init 60 = .ok (.aload_n 0, 1) := by decide +kernel
theorem dX6_init_61 : decode cX6_init 61 = .ok (.iconst 0, 1) := by decide +kernel
theorem dX6_init_62 : decode cX6_init 62 = .ok (.putfield 40, 3) := by decide +kernel
theorem dX6_init_65 : decode cX6_init 65 = .ok (.aload_n 0, 1) := by decide +kernel
theorem dX6_init_66 : decode cX6_init 66 = .ok (.iconst 0, 1) := by decide +kernel
theorem dX6_init_67 : decode cX6_init 67 = .ok (.putfield 43, 3) := by decide +kernel
theorem dX6_init_70 : decode cX6_init 70 = .ok (.aload_n 0, 1) := by decide +kernel
theorem dX6_init_71 : decode cX6_init 71 = .ok (.iconst 0, 1) := by decide +kernel
theorem dX6_init_72 : decode cX6_init 72 = .ok (.putfield 46, 3) := by decide +kernel
theorem dX6_init_75 : decode cX6_init 75 = .ok (.return_, 1) := by decide +kernel
set_option maxRecDepth 20000 in
theorem ggX6_begin_X1_copyOf : GoodIn wsX6_begin wsX1_copyOf := goodIn_r _ [12, 13, 14, 15, 16, 17, 18, 19, 20, 21, 22, 33, 34] (by decide +kernel) (by decide +kernel)
set_option maxRecDepth 20000 in
theorem gX6_begin_X1_copyOf : GoodIn wsX6_begin (wsV RX6 50 RX1 yX1_copyOf wsX1_copyOf) := goodIn_app (goodIn_of _ (by decide +kernel)) ggX6_begin_X1_copyOf
theorem dX6_begin_0 : decode cX6_begin 0 = .ok (.aload_n 0, 1) := by decide +kernel
theorem dX6_begin_1 : decode cX6_begin 1 = .ok (.getfield 14, 3) := by decide +kernel
theorem dX6_begin_4 : decode cX6_begin 4 = .ok (.aload_n 1, 1) := by decide +kernel
theorem dX6_begin_5 : decode cX6_begin 5 = .ok (.invokevirtual 50, 3) := by decide +kernel
theorem dX6_begin_8 : decode cX6_begin 8 = .ok (.aload_n 0, 1) := by decide +kernel
theorem dX6_begin_9 : decode cX6_begin 9 = .ok (.iload_n 2, 1) := by decide +kernel
theorem dX6_begin_10 : decode cX6_begin 10 = .ok (.putfield 30, 3) := by decide +kernel
theorem dX6_begin_13 : decode cX6_begin 13 = .ok (.aload_n 0, 1) := by decide +kernel
theorem dX6_begin_14 : decode cX6_begin 14 = .ok (.iconst 0, 1) := by decide +kernel
theorem dX6_begin_15 : decode cX6_begin 15 = .ok (.putfield 34, 3) := by decide +kernel
theorem dX6_begin_18 : decode cX6_begin 18 = .ok (.aload_n 0, 1) := by decide +kernel
theorem dX6_begin_19 : decode cX6_begin 19 = .ok (.iconst 0, 1) := by decide +kernel
theorem dX6_begin_20 : decode cX6_begin 20 = .ok (.putfield 37, 3) := by decide +kernel
theorem dX6_begin_23 : decode cX6_begin 23 = .ok (.aload_n 0, 1) := by decide +kernel
theorem dX6_begin_24 : decode cX6_begin 24 = .ok (.iconst 0, 1) := by decide +kernel
theorem dX6_begin_25 : decode cX6_begin 25 = .ok (.putfield 40, 3) := by decide +kernel
theorem dX6_begin_28 : decode cX6_begin 28 = .ok (.aload_n 0, 1) := by decide +kernel
theorem dX6_begin_29 : decode cX6_begin 29 = .ok (.bipush 16, 2) := by decide +kernel
theorem dX6_begin_31 : decode cX6_begin 31 = .ok (.putfield 43, 3) := by decide +kernel
theorem dX6_begin_34 : decode cX6_begin 34 = .ok (.aload_n 0, 1) := by decide +kernel
theorem dX6_begin_35 : decode cX6_begin 35 = .ok (.iconst 1, 1) := by decide +kernel
theorem dX6_begin_36 : decode cX6_begin 36 = .ok (.putfield 46, 3) := by decide +kernel
theorem dX6_begin_39 : decode cX6_begin 39 = .ok (.return_, 1) := by decide +kernel
set_option maxRecDepth 20000 in
theorem ggX6_addByte_X6_addOne : GoodIn wsX6_addByte wsX6_addOne := goodIn_r _ [6, 7, 8, 9, 10, 11, 12, 13, 14, 15, 16, 17, 18, 19, 20, 21] (by decide +kernel) (by decide +kernel)
set_option maxRecDepth 20000 in
theorem gX6_addByte_X6_addOne : GoodIn wsX6_addByte (wsV RX6 54 RX6 yX6_addOne wsX6_addOne) := goodIn_app (goodIn_of _ (by decide +kernel)) ggX6_addByte_X6_addOne
theorem dX6_addByte_0 : decode cX6_addByte 0 = .ok (.aload_n 0, 1) := by decide +kernel
theorem dX6_addByte_1 : decode cX6_addByte 1 = .ok (.iload_n 1, 1) := by decide +kernel
theorem dX6_addByte_2 : decode cX6_addByte 2 = .ok (.iconst 1, 1) := by decide +kernel
theorem dX6_addByte_3 : decode cX6_addByte 3 = .ok (.iconst 0, 1) := by decide +kernel
theorem dX6_addByte_4 : decode cX6_addByte 4 = .ok (.iload_n 2, 1) := by decide +kernel
theorem dX6_addByte_5 : decode cX6_addByte 5 = .ok (.invokevirtual 54, 3) := by decide +kernel
theorem dX6_addByte_8 : decode cX6_addByte 8 = .ok (.aload_n 0, 1) := by decide +kernel
theorem dX6_addByte_9 : decode cX6_addByte 9 = .ok (.dup, 1) := by decide +kernel
theorem dX6_addByte_10 : decode cX6_addByte 10 = .ok (.getfield 43, 3) := by decide +kernel
theorem dX6_addByte_13 : decode cX6_addByte 13 = .ok (.bipush 9, 2) := by decide +kernel
theorem dX6_addByte_15 : decode cX6_addByte 15 = .ok (.iadd, 1) := by decide +kernel
theorem dX6_addByte_16 : decode cX6_addByte 16 = .ok (.putfield 43, 3) := by decide +kernel
theorem dX6_addByte_19 : decode cX6_addByte 19 = .ok (.return_, 1) := by decide +kernel
set_option maxRecDepth 20000 in
theorem ggX6_addMatch_X6_addOne : GoodIn wsX6_addMatch wsX6_addOne := goodIn_r _ [7, 8, 9, 10, 11, 12, 25, 26, 27, 28, 29, 30, 31, 32, 33, 34] (by decide +kernel) (by decide +kernel)
set_option maxRecDepth 20000 in
theorem gX6_addMatch_X6_addOne : GoodIn wsX6_addMatch (wsV RX6 54 RX6 yX6_addOne wsX6_addOne) := goodIn_app (goodIn_of _ (by decide +kernel)) ggX6_addMatch_X6_addOne
set_option maxRecDepth 20000 in
theorem ggX6_addMatch_X6_lengthBits : GoodIn wsX6_addMatch wsX6_lengthBits := goodIn_r _ [16, 17, 18, 19, 6, 20, 21, 22, 23, 24, 25, 26, 27, 28, 29, 30, 31, 32, 33, 34] (by decide +kernel) (by decide +kernel)
set_option maxRecDepth 20000 in
theorem gX6_addMatch_X6_lengthBits : GoodIn wsX6_addMatch (wsV RX6 58 RX6 yX6_lengthBits wsX6_lengthBits) := goodIn_app (goodIn_of _ (by decide +kernel)) ggX6_addMatch_X6_lengthBits
set_option maxRecDepth 20000 in
theorem ggX6_addMatch_X8_classOf : GoodIn wsX6_addMatch wsX8_classOf := goodIn_r _ [24] (by decide +kernel) (by decide +kernel)
set_option maxRecDepth 20000 in
theorem gX6_addMatch_X8_classOf_n62 : GoodIn wsX6_addMatch (wsX8_classOf) := ggX6_addMatch_X8_classOf
theorem dX6_addMatch_0 : decode cX6_addMatch 0 = .ok (.aload_n 0, 1) := by decide +kernel
theorem dX6_addMatch_1 : decode cX6_addMatch 1 = .ok (.iload_n 1, 1) := by decide +kernel
theorem dX6_addMatch_2 : decode cX6_addMatch 2 = .ok (.iload_n 2, 1) := by decide +kernel
theorem dX6_addMatch_3 : decode cX6_addMatch 3 = .ok (.iload_n 3, 1) := by decide +kernel
theorem dX6_addMatch_4 : decode cX6_addMatch 4 = .ok (.iload 4, 2) := by decide +kernel
theorem dX6_addMatch_6 : decode cX6_addMatch 6 = .ok (.invokevirtual 54, 3) := by decide +kernel
theorem dX6_addMatch_9 : decode cX6_addMatch 9 = .ok (.aload_n 0, 1) := by decide +kernel
theorem dX6_addMatch_10 : decode cX6_addMatch 10 = .ok (.dup, 1) := by decide +kernel
theorem dX6_addMatch_11 : decode cX6_addMatch 11 = .ok (.getfield 37, 3) := by decide +kernel
theorem dX6_addMatch_14 : decode cX6_addMatch 14 = .ok (.iconst 1, 1) := by decide +kernel
theorem dX6_addMatch_15 : decode cX6_addMatch 15 = .ok (.iadd, 1) := by decide +kernel
theorem dX6_addMatch_16 : decode cX6_addMatch 16 = .ok (.putfield 37, 3) := by decide +kernel
theorem dX6_addMatch_19 : decode cX6_addMatch 19 = .ok (.aload_n 0, 1) := by decide +kernel
theorem dX6_addMatch_20 : decode cX6_addMatch 20 = .ok (.dup, 1) := by decide +kernel
theorem dX6_addMatch_21 : decode cX6_addMatch 21 = .ok (.getfield 43, 3) := by decide +kernel
theorem dX6_addMatch_24 : decode cX6_addMatch 24 = .ok (.iconst 1, 1) := by decide +kernel
theorem dX6_addMatch_25 : decode cX6_addMatch 25 = .ok (.aload_n 0, 1) := by decide +kernel
theorem dX6_addMatch_26 : decode cX6_addMatch 26 = .ok (.iload_n 2, 1) := by decide +kernel
theorem dX6_addMatch_27 : decode cX6_addMatch 27 = .ok (.invokevirtual 58, 3) := by decide +kernel
theorem dX6_addMatch_30 : decode cX6_addMatch 30 = .ok (.iadd, 1) := by decide +kernel
theorem dX6_addMatch_31 : decode cX6_addMatch 31 = .ok (.iconst 4, 1) := by decide +kernel
theorem dX6_addMatch_32 : decode cX6_addMatch 32 = .ok (.iadd, 1) := by decide +kernel
theorem dX6_addMatch_33 : decode cX6_addMatch 33 = .ok (.iload_n 3, 1) := by decide +kernel
theorem dX6_addMatch_34 : decode cX6_addMatch 34 = .ok (.invokestatic 62, 3) := by decide +kernel
theorem dX6_addMatch_37 : decode cX6_addMatch 37 = .ok (.iadd, 1) := by decide +kernel
theorem dX6_addMatch_38 : decode cX6_addMatch 38 = .ok (.iadd, 1) := by decide +kernel
theorem dX6_addMatch_39 : decode cX6_addMatch 39 = .ok (.putfield 43, 3) := by decide +kernel
theorem dX6_addMatch_42 : decode cX6_addMatch 42 = .ok (.return_, 1) := by decide +kernel
theorem dX6_made_0 : decode cX6_made 0 = .ok (.aload_n 0, 1) := by decide +kernel
theorem dX6_made_1 : decode cX6_made 1 = .ok (.getfield 46, 3) := by decide +kernel
theorem dX6_made_4 : decode cX6_made 4 = .ok (.ireturn, 1) := by decide +kernel
theorem dX6_count_0 : decode cX6_count 0 = .ok (.aload_n 0, 1) := by decide +kernel
theorem dX6_count_1 : decode cX6_count 1 = .ok (.getfield 34, 3) := by decide +kernel
theorem dX6_count_4 : decode cX6_count 4 = .ok (.ireturn, 1) := by decide +kernel
theorem dX6_matchCount_0 : decode cX6_matchCount 0 = .ok (.aload_n 0, 1) := by decide +kernel
theorem dX6_matchCount_1 : decode cX6_matchCount 1 = .ok (.getfield 37, 3) := by decide +kernel
theorem dX6_matchCount_4 : decode cX6_matchCount 4 = .ok (.ireturn, 1) := by decide +kernel
theorem dX6_wholePrice_0 : decode cX6_wholePrice 0 = .ok (.aload_n 0, 1) := by decide +kernel
theorem dX6_wholePrice_1 : decode cX6_wholePrice 1 = .ok (.getfield 40, 3) := by decide +kernel
theorem dX6_wholePrice_4 : decode cX6_wholePrice 4 = .ok (.ireturn, 1) := by decide +kernel
theorem dX6_bits_0 : decode cX6_bits 0 = .ok (.aload_n 0, 1) := by decide +kernel
theorem dX6_bits_1 : decode cX6_bits 1 = .ok (.getfield 43, 3) := by decide +kernel
theorem dX6_bits_4 : decode cX6_bits 4 = .ok (.ireturn, 1) := by decide +kernel
set_option maxRecDepth 20000 in
theorem ggX6_textSize_X1_size : GoodIn wsX6_textSize wsX1_size := goodIn_r _ [6, 7, 18, 19] (by decide +kernel) (by decide +kernel)
set_option maxRecDepth 20000 in
theorem gX6_textSize_X1_size : GoodIn wsX6_textSize (wsV RX6 65 RX1 yX1_size wsX1_size) := goodIn_app (goodIn_of _ (by decide +kernel)) ggX6_textSize_X1_size
theorem dX6_textSize_0 : decode cX6_textSize 0 = .ok (.aload_n 0, 1) := by decide +kernel
theorem dX6_textSize_1 : decode cX6_textSize 1 = .ok (.getfield 14, 3) := by decide +kernel
theorem dX6_textSize_4 : decode cX6_textSize 4 = .ok (.invokevirtual 65, 3) := by decide +kernel
theorem dX6_textSize_7 : decode cX6_textSize 7 = .ok (.ireturn, 1) := by decide +kernel
theorem dX6_has_0 : decode cX6_has 0 = .ok (.iload_n 1, 1) := by decide +kernel
theorem dX6_has_1 : decode cX6_has 1 = .ok (.ifCond .lt 15, 3) := by decide +kernel
theorem dX6_has_4 : decode cX6_has 4 = .ok (.iload_n 1, 1) := by decide +kernel
theorem dX6_has_5 : decode cX6_has 5 = .ok (.aload_n 0, 1) := by decide +kernel
theorem dX6_has_6 : decode cX6_has 6 = .ok (.getfield 34, 3) := by decide +kernel
theorem dX6_has_9 : decode cX6_has 9 = .ok (.if_icmp .ge 7, 3) := by decide +kernel
theorem dX6_has_12 : decode cX6_has 12 = .ok (.iconst 1, 1) := by decide +kernel
theorem dX6_has_13 : decode cX6_has 13 = .ok (.goto 4, 3) := by decide +kernel
theorem dX6_has_16 : decode cX6_has 16 = .ok (.iconst 0, 1) := by decide +kernel
theorem dX6_has_17 : decode cX6_has 17 = .ok (.ireturn, 1) := by decide +kernel
set_option maxRecDepth 20000 in
theorem ggX6_placeOf_X6_has : GoodIn wsX6_placeOf wsX6_has := goodIn_r _ [6, 7, 8, 9, 10, 11, 12, 13, 14, 15, 16, 17] (by decide +kernel) (by decide +kernel)
set_option maxRecDepth 20000 in
theorem gX6_placeOf_X6_has : GoodIn wsX6_placeOf (wsV RX6 69 RX6 yX6_has wsX6_has) := goodIn_app (goodIn_of _ (by decide +kernel)) ggX6_placeOf_X6_has
theorem dX6_placeOf_0 : decode cX6_placeOf 0 = .ok (.aload_n 0, 1) := by decide +kernel
theorem dX6_placeOf_1 : decode cX6_placeOf 1 = .ok (.iload_n 1, 1) := by decide +kernel
theorem dX6_placeOf_2 : decode cX6_placeOf 2 = .ok (.invokevirtual 69, 3) := by decide +kernel
theorem dX6_placeOf_5 : decode cX6_placeOf 5 = .ok (.ifCond .eq 12, 3) := by decide +kernel
theorem dX6_placeOf_8 : decode cX6_placeOf 8 = .ok (.aload_n 0, 1) := by decide +kernel
theorem dX6_placeOf_9 : decode cX6_placeOf 9 = .ok (.getfield 20, 3) := by decide +kernel
theorem dX6_placeOf_12 : decode cX6_placeOf 12 = .ok (.iload_n 1, 1) := by decide +kernel
theorem dX6_placeOf_13 : decode cX6_placeOf 13 = .ok (.iaload, 1) := by decide +kernel
theorem dX6_placeOf_14 : decode cX6_placeOf 14 = .ok (.goto 4, 3) := by decide +kernel
theorem dX6_placeOf_17 : decode cX6_placeOf 17 = .ok (.iconst (-1), 1) := by decide +kernel
theorem dX6_placeOf_18 : decode cX6_placeOf 18 = .ok (.ireturn, 1) := by decide +kernel
set_option maxRecDepth 20000 in
theorem ggX6_lengthOf_X6_has : GoodIn wsX6_lengthOf wsX6_has := goodIn_r _ [6, 7, 8, 9, 10, 11, 12, 13, 14, 15, 16, 17] (by decide +kernel) (by decide +kernel)
set_option maxRecDepth 20000 in
theorem gX6_lengthOf_X6_has : GoodIn wsX6_lengthOf (wsV RX6 69 RX6 yX6_has wsX6_has) := goodIn_app (goodIn_of _ (by decide +kernel)) ggX6_lengthOf_X6_has
theorem dX6_lengthOf_0 : decode cX6_lengthOf 0 = .ok (.aload_n 0, 1) := by decide +kernel
theorem dX6_lengthOf_1 : decode cX6_lengthOf 1 = .ok (.iload_n 1, 1) := by decide +kernel
theorem dX6_lengthOf_2 : decode cX6_lengthOf 2 = .ok (.invokevirtual 69, 3) := by decide +kernel
theorem dX6_lengthOf_5 : decode cX6_lengthOf 5 = .ok (.ifCond .eq 12, 3) := by decide +kernel
theorem dX6_lengthOf_8 : decode cX6_lengthOf 8 = .ok (.aload_n 0, 1) := by decide +kernel
theorem dX6_lengthOf_9 : decode cX6_lengthOf 9 = .ok (.getfield 24, 3) := by decide +kernel
theorem dX6_lengthOf_12 : decode cX6_lengthOf 12 = .ok (.iload_n 1, 1) := by decide +kernel
theorem dX6_lengthOf_13 : decode cX6_lengthOf 13 = .ok (.iaload, 1) := by decide +kernel
theorem dX6_lengthOf_14 : decode cX6_lengthOf 14 = .ok (.goto 4, 3) := by decide +kernel
theorem dX6_lengthOf_17 : decode cX6_lengthOf 17 = .ok (.iconst (-1), 1) := by decide +kernel
theorem dX6_lengthOf_18 : decode cX6_lengthOf 18 = .ok (.ireturn, 1) := by decide +kernel
set_option maxRecDepth 20000 in
theorem ggX6_distanceOf_X6_has : GoodIn wsX6_distanceOf wsX6_has := goodIn_r _ [6, 7, 8, 9, 10, 11, 12, 13, 14, 15, 16, 17] (by decide +kernel) (by decide +kernel)
set_option maxRecDepth 20000 in
theorem gX6_distanceOf_X6_has : GoodIn wsX6_distanceOf (wsV RX6 69 RX6 yX6_has wsX6_has) := goodIn_app (goodIn_of _ (by decide +kernel)) ggX6_distanceOf_X6_has
theorem dX6_distanceOf_0 : decode cX6_distanceOf 0 = .ok (.aload_n 0, 1) := by decide +kernel
theorem dX6_distanceOf_1 : decode cX6_distanceOf 1 = .ok (.iload_n 1, 1) := by decide +kernel
theorem dX6_distanceOf_2 : decode cX6_distanceOf 2 = .ok (.invokevirtual 69, 3) := by decide +kernel
theorem dX6_distanceOf_5 : decode cX6_distanceOf 5 = .ok (.ifCond .eq 12, 3) := by decide +kernel
theorem dX6_distanceOf_8 : decode cX6_distanceOf 8 = .ok (.aload_n 0, 1) := by decide +kernel
theorem dX6_distanceOf_9 : decode cX6_distanceOf 9 = .ok (.getfield 27, 3) := by decide +kernel
theorem dX6_distanceOf_12 : decode cX6_distanceOf 12 = .ok (.iload_n 1, 1) := by decide +kernel
theorem dX6_distanceOf_13 : decode cX6_distanceOf 13 = .ok (.iaload, 1) := by decide +kernel
theorem dX6_distanceOf_14 : decode cX6_distanceOf 14 = .ok (.goto 4, 3) := by decide +kernel
theorem dX6_distanceOf_17 : decode cX6_distanceOf 17 = .ok (.iconst (-1), 1) := by decide +kernel
theorem dX6_distanceOf_18 : decode cX6_distanceOf 18 = .ok (.ireturn, 1) := by decide +kernel
set_option maxRecDepth 20000 in
theorem ggX6_byteOf_X6_has : GoodIn wsX6_byteOf wsX6_has := goodIn_r _ [8, 9, 17, 18, 19, 20, 21, 22, 23, 24, 25, 26] (by decide +kernel) (by decide +kernel)
set_option maxRecDepth 20000 in
theorem gX6_byteOf_X6_has : GoodIn wsX6_byteOf (wsV RX6 69 RX6 yX6_has wsX6_has) := goodIn_app (goodIn_of _ (by decide +kernel)) ggX6_byteOf_X6_has
set_option maxRecDepth 20000 in
theorem ggX6_byteOf_X1_get : GoodIn wsX6_byteOf wsX1_get := goodIn_r _ [14, 15, 16, 27, 28] (by decide +kernel) (by decide +kernel)
set_option maxRecDepth 20000 in
theorem gX6_byteOf_X1_get : GoodIn wsX6_byteOf (wsV RX6 73 RX1 yX1_get wsX1_get) := goodIn_app (goodIn_of _ (by decide +kernel)) ggX6_byteOf_X1_get
theorem dX6_byteOf_0 : decode cX6_byteOf 0 = .ok (.aload_n 0, 1) := by decide +kernel
theorem dX6_byteOf_1 : decode cX6_byteOf 1 = .ok (.iload_n 1, 1) := by decide +kernel
theorem dX6_byteOf_2 : decode cX6_byteOf 2 = .ok (.invokevirtual 69, 3) := by decide +kernel
theorem dX6_byteOf_5 : decode cX6_byteOf 5 = .ok (.ifCond .eq 28, 3) := by decide +kernel
theorem dX6_byteOf_8 : decode cX6_byteOf 8 = .ok (.aload_n 0, 1) := by decide +kernel
theorem dX6_byteOf_9 : decode cX6_byteOf 9 = .ok (.getfield 27, 3) := by decide +kernel
theorem dX6_byteOf_12 : decode cX6_byteOf 12 = .ok (.iload_n 1, 1) := by decide +kernel
theorem dX6_byteOf_13 : decode cX6_byteOf 13 = .ok (.iaload, 1) := by decide +kernel
theorem dX6_byteOf_14 : decode cX6_byteOf 14 = .ok (.ifCond .ne 19, 3) := by decide +kernel
theorem dX6_byteOf_17 : decode cX6_byteOf 17 = .ok (.aload_n 0, 1) := by decide +kernel
theorem dX6_byteOf_18 : decode cX6_byteOf 18 = .ok (.getfield 14, 3) := by decide +kernel
theorem dX6_byteOf_21 : decode cX6_byteOf 21 = .ok (.aload_n 0, 1) := by decide +kernel
theorem dX6_byteOf_22 : decode cX6_byteOf 22 = .ok (.getfield 20, 3) := by decide +kernel
theorem dX6_byteOf_25 : decode cX6_byteOf 25 = .ok (.iload_n 1, 1) := by decide +kernel
theorem dX6_byteOf_26 : decode cX6_byteOf 26 = .ok (.iaload, 1) := by decide +kernel
theorem dX6_byteOf_27 : decode cX6_byteOf 27 = .ok (.invokevirtual 73, 3) := by decide +kernel
theorem dX6_byteOf_30 : decode cX6_byteOf 30 = .ok (.goto 4, 3) := by decide +kernel
theorem dX6_byteOf_33 : decode cX6_byteOf 33 = .ok (.iconst (-1), 1) := by decide +kernel
theorem dX6_byteOf_34 : decode cX6_byteOf 34 = .ok (.ireturn, 1) := by decide +kernel
set_option maxRecDepth 20000 in
theorem ggX6_putInto_X0_begin : GoodIn wsX6_putInto wsX0_begin := goodIn_r _ [9, 10, 67, 68] (by decide +kernel) (by decide +kernel)
set_option maxRecDepth 20000 in
theorem gX6_putInto_X0_begin : GoodIn wsX6_putInto (wsV RX6 76 RX0 yX0_begin wsX0_begin) := goodIn_app (goodIn_of _ (by decide +kernel)) ggX6_putInto_X0_begin
set_option maxRecDepth 20000 in
theorem ggX6_putInto_X1_size : GoodIn wsX6_putInto wsX1_size := goodIn_r _ [15, 16, 69, 70] (by decide +kernel) (by decide +kernel)
set_option maxRecDepth 20000 in
theorem gX6_putInto_X1_size : GoodIn wsX6_putInto (wsV RX6 65 RX1 yX1_size wsX1_size) := goodIn_app (goodIn_of _ (by decide +kernel)) ggX6_putInto_X1_size
set_option maxRecDepth 20000 in
theorem ggX6_putInto_X0_put : GoodIn wsX6_putInto wsX0_put := goodIn_r _ [20, 21, 22, 23, 8, 24, 10, 25, 67, 68] (by decide +kernel) (by decide +kernel)
set_option maxRecDepth 20000 in
theorem gX6_putInto_X0_put : GoodIn wsX6_putInto (wsV RX6 81 RX0 yX0_put wsX0_put) := goodIn_app (goodIn_of _ (by decide +kernel)) ggX6_putInto_X0_put
set_option maxRecDepth 20000 in
theorem ggX6_putInto_X6_byteOf : GoodIn wsX6_putInto wsX6_byteOf := goodIn_r _ [30, 3, 1, 31, 32, 33, 34, 29, 35, 2, 36, 37, 38, 14, 39, 16, 40, 57, 58, 59, 60, 61, 62, 63, 64, 65, 66, 69, 70] (by decide +kernel) (by decide +kernel)
set_option maxRecDepth 20000 in
theorem gX6_putInto_X6_byteOf : GoodIn wsX6_putInto (wsV RX6 85 RX6 yX6_byteOf wsX6_byteOf) := goodIn_app (goodIn_of _ (by decide +kernel)) ggX6_putInto_X6_byteOf
set_option maxRecDepth 20000 in
theorem ggX6_putInto_X6_putMatch : GoodIn wsX6_putInto wsX6_putMatch := goodIn_r _ [44, 17, 18, 19, 8, 20, 21, 22, 23, 24, 10, 25, 45, 46, 47, 29, 48, 49, 50, 51, 52, 53, 54, 55, 56, 67, 68, 57, 58, 59, 60, 61, 62, 63, 64, 65, 66] (by decide +kernel) (by decide +kernel)
set_option maxRecDepth 20000 in
theorem gX6_putInto_X6_putMatch : GoodIn wsX6_putInto (wsV RX6 88 RX6 yX6_putMatch wsX6_putMatch) := goodIn_app (goodIn_of _ (by decide +kernel)) ggX6_putInto_X6_putMatch
theorem dX6_putInto_0 : decode cX6_putInto 0 = .ok (.aload_n 1, 1) := by decide +kernel
theorem dX6_putInto_1 : decode cX6_putInto 1 = .ok (.invokevirtual 76, 3) := by decide +kernel
theorem dX6_putInto_4 : decode cX6_putInto 4 = .ok (.aload_n 1, 1) := by decide +kernel
theorem dX6_putInto_5 : decode cX6_putInto 5 = .ok (.aload_n 0, 1) := by decide +kernel
theorem dX6_putInto_6 : decode cX6_putInto 6 = .ok (.getfield 14, 3) := by decide +kernel
theorem dX6_putInto_9 : decode cX6_putInto 9 = .ok (.invokevirtual 65, 3) := by decide +kernel
theorem dX6_putInto_12 : decode cX6_putInto 12 = .ok (.bipush 16, 2) := by decide +kernel
theorem dX6_putInto_14 : decode cX6_putInto 14 = .ok (.invokevirtual 81, 3) := by decide +kernel
theorem dX6_putInto_17 : decode cX6_putInto 17 = .ok (.iconst 0, 1) := by decide +kernel
theorem dX6_putInto_18 : decode cX6_putInto 18 = .ok (.istore_n 2, 1) := by decide +kernel
theorem dX6_putInto_19 : decode cX6_putInto 19 = .ok (.iload_n 2, 1) := by decide +kernel
theorem dX6_putInto_20 : decode cX6_putInto 20 = .ok (.aload_n 0, 1) := by decide +kernel
theorem dX6_putInto_21 : decode cX6_putInto 21 = .ok (.getfield 34, 3) := by decide +kernel
theorem dX6_putInto_24 : decode cX6_putInto 24 = .ok (.if_icmp .ge 55, 3) := by decide +kernel
theorem dX6_putInto_27 : decode cX6_putInto 27 = .ok (.aload_n 0, 1) := by decide +kernel
theorem dX6_putInto_28 : decode cX6_putInto 28 = .ok (.getfield 27, 3) := by decide +kernel
theorem dX6_putInto_31 : decode cX6_putInto 31 = .ok (.iload_n 2, 1) := by decide +kernel
theorem dX6_putInto_32 : decode cX6_putInto 32 = .ok (.iaload, 1) := by decide +kernel
theorem dX6_putInto_33 : decode cX6_putInto 33 = .ok (.ifCond .ne 23, 3) := by decide +kernel
theorem dX6_putInto_36 : decode cX6_putInto 36 = .ok (.aload_n 1, 1) := by decide +kernel
theorem dX6_putInto_37 : decode cX6_putInto 37 = .ok (.iconst 0, 1) := by decide +kernel
theorem dX6_putInto_38 : decode cX6_putInto 38 = .ok (.iconst 1, 1) := by decide +kernel
theorem dX6_putInto_39 : decode cX6_putInto 39 = .ok (.invokevirtual 81, 3) := by decide +kernel
theorem dX6_putInto_42 : decode cX6_putInto 42 = .ok (.aload_n 1, 1) := by decide +kernel
theorem dX6_putInto_43 : decode cX6_putInto 43 = .ok (.aload_n 0, 1) := by decide +kernel
theorem dX6_putInto_44 : decode cX6_putInto 44 = .ok (.iload_n 2, 1) := by decide +kernel
theorem dX6_putInto_45 : decode cX6_putInto 45 = .ok (.invokevirtual 85, 3) := by decide +kernel
theorem dX6_putInto_48 : decode cX6_putInto 48 = .ok (.bipush 8, 2) := by decide +kernel
theorem dX6_putInto_50 : decode cX6_putInto 50 = .ok (.invokevirtual 81, 3) := by decide +kernel
theorem dX6_putInto_53 : decode cX6_putInto 53 = .ok (.goto 20, 3) := by decide +kernel
theorem dX6_putInto_56 : decode cX6_putInto 56 = .ok (.aload_n 0, 1) := by decide +kernel
theorem dX6_putInto_57 : decode cX6_putInto 57 = .ok (.aload_n 1, 1) := by decide +kernel
theorem dX6_putInto_58 : decode cX6_putInto 58 = .ok (.aload_n 0, 1) := by decide +kernel
theorem dX6_putInto_59 : decode cX6_putInto 59 = .ok (.getfield 24, 3) := by decide +kernel
theorem dX6_putInto_62 : decode cX6_putInto 62 = .ok (.iload_n 2, 1) := by decide +kernel
theorem dX6_putInto_63 : decode cX6_putInto 63 = .ok (.iaload, 1) := by decide +kernel
theorem dX6_putInto_64 : decode cX6_putInto 64 = .ok (.aload_n 0, 1) := by decide +kernel
theorem dX6_putInto_65 : decode cX6_putInto 65 = .ok (.getfield 27, 3) := by decide +kernel
theorem dX6_putInto_68 : decode cX6_putInto 68 = .ok (.iload_n 2, 1) := by decide +kernel
theorem dX6_putInto_69 : decode cX6_putInto 69 = .ok (.iaload, 1) := by decide +kernel
theorem dX6_putInto_70 : decode cX6_putInto 70 = .ok (.invokevirtual 88, 3) := by decide +kernel
theorem dX6_putInto_73 : decode cX6_putInto 73 = .ok (.iinc 2 1, 3) := by decide +kernel
theorem dX6_putInto_76 : decode cX6_putInto 76 = .ok (.goto (-57), 3) := by decide +kernel
theorem dX6_putInto_79 : decode cX6_putInto 79 = .ok (.return_, 1) := by decide +kernel
set_option maxRecDepth 20000 in
theorem ggX6_makeTheirText_X1_empty : GoodIn wsX6_makeTheirText wsX1_empty := goodIn_r _ [10, 11, 54, 55] (by decide +kernel) (by decide +kernel)
set_option maxRecDepth 20000 in
theorem gX6_makeTheirText_X1_empty : GoodIn wsX6_makeTheirText (wsV RX6 92 RX1 yX1_empty wsX1_empty) := goodIn_app (goodIn_of _ (by decide +kernel)) ggX6_makeTheirText_X1_empty
set_option maxRecDepth 20000 in
theorem ggX6_makeTheirText_X1_size : GoodIn wsX6_makeTheirText wsX1_size := goodIn_r _ [15, 11, 54, 55] (by decide +kernel) (by decide +kernel)
set_option maxRecDepth 20000 in
theorem gX6_makeTheirText_X1_size : GoodIn wsX6_makeTheirText (wsV RX6 65 RX1 yX1_size wsX1_size) := goodIn_app (goodIn_of _ (by decide +kernel)) ggX6_makeTheirText_X1_size
set_option maxRecDepth 20000 in
theorem ggX6_makeTheirText_X6_byteOf : GoodIn wsX6_makeTheirText wsX6_byteOf := goodIn_r _ [20, 3, 5, 2, 21, 22, 23, 19, 24, 1, 25, 26, 27, 9, 28, 11, 29, 44, 45, 46, 47, 48, 49, 50, 51, 52, 53, 54, 55] (by decide +kernel) (by decide +kernel)
set_option maxRecDepth 20000 in
theorem gX6_makeTheirText_X6_byteOf : GoodIn wsX6_makeTheirText (wsV RX6 85 RX6 yX6_byteOf wsX6_byteOf) := goodIn_app (goodIn_of _ (by decide +kernel)) ggX6_makeTheirText_X6_byteOf
set_option maxRecDepth 20000 in
theorem ggX6_makeTheirText_X1_add : GoodIn wsX6_makeTheirText wsX1_add := goodIn_r _ [33, 11, 29, 54, 55] (by decide +kernel) (by decide +kernel)
set_option maxRecDepth 20000 in
theorem gX6_makeTheirText_X1_add : GoodIn wsX6_makeTheirText (wsV RX6 95 RX1 yX1_add wsX1_add) := goodIn_app (goodIn_of _ (by decide +kernel)) ggX6_makeTheirText_X1_add
set_option maxRecDepth 20000 in
theorem ggX6_makeTheirText_X1_addAgain : GoodIn wsX6_makeTheirText wsX1_addAgain := goodIn_r _ [37, 11, 38, 26, 27, 9, 28, 29, 39, 31, 32, 33, 54, 55] (by decide +kernel) (by decide +kernel)
set_option maxRecDepth 20000 in
theorem gX6_makeTheirText_X1_addAgain : GoodIn wsX6_makeTheirText (wsV RX6 98 RX1 yX1_addAgain wsX1_addAgain) := goodIn_app (goodIn_of _ (by decide +kernel)) ggX6_makeTheirText_X1_addAgain
set_option maxRecDepth 20000 in
theorem ggX6_makeTheirText_X1_sameAs : GoodIn wsX6_makeTheirText wsX1_sameAs := goodIn_r _ [43, 11, 29, 54, 55] (by decide +kernel) (by decide +kernel)
set_option maxRecDepth 20000 in
theorem gX6_makeTheirText_X1_sameAs : GoodIn wsX6_makeTheirText (wsV RX6 101 RX1 yX1_sameAs wsX1_sameAs) := goodIn_app (goodIn_of _ (by decide +kernel)) ggX6_makeTheirText_X1_sameAs
theorem dX6_makeTheirText_0 : decode cX6_makeTheirText 0 = .ok (.aload_n 1, 1) := by decide +kernel
theorem dX6_makeTheirText_1 : decode cX6_makeTheirText 1 = .ok (.invokevirtual 92, 3) := by decide +kernel
theorem dX6_makeTheirText_4 : decode cX6_makeTheirText 4 = .ok (.iconst 0, 1) := by decide +kernel
theorem dX6_makeTheirText_5 : decode cX6_makeTheirText 5 = .ok (.istore_n 2, 1) := by decide +kernel
theorem dX6_makeTheirText_6 : decode cX6_makeTheirText 6 = .ok (.iload_n 2, 1) := by decide +kernel
theorem dX6_makeTheirText_7 : decode cX6_makeTheirText 7 = .ok (.aload_n 0, 1) := by decide +kernel
theorem dX6_makeTheirText_8 : decode cX6_makeTheirText 8 = .ok (.getfield 34, 3) := by decide +kernel
theorem dX6_makeTheirText_11 : decode cX6_makeTheirText 11 = .ok (.if_icmp .ge 61, 3) := by decide +kernel
theorem dX6_makeTheirText_14 : decode cX6_makeTheirText 14 = .ok (.aload_n 0, 1) := by decide +kernel
theorem dX6_makeTheirText_15 : decode cX6_makeTheirText 15 = .ok (.getfield 20, 3) := by decide +kernel
theorem dX6_makeTheirText_18 : decode cX6_makeTheirText 18 = .ok (.iload_n 2, 1) := by decide +kernel
theorem dX6_makeTheirText_19 : decode cX6_makeTheirText 19 = .ok (.iaload, 1) := by decide +kernel
theorem dX6_makeTheirText_20 : decode cX6_makeTheirText 20 = .ok (.aload_n 1, 1) := by decide +kernel
theorem dX6_makeTheirText_21 : decode cX6_makeTheirText 21 = .ok (.invokevirtual 65, 3) := by decide +kernel
theorem dX6_makeTheirText_24 : decode cX6_makeTheirText 24 = .ok (.if_icmp .eq 5, 3) := by decide +kernel
theorem dX6_makeTheirText_27 : decode cX6_makeTheirText 27 = .ok (.iconst 0, 1) := by decide +kernel
theorem dX6_makeTheirText_28 : decode cX6_makeTheirText 28 = .ok (.ireturn, 1) := by decide +kernel
theorem dX6_makeTheirText_29 : decode cX6_makeTheirText 29 = .ok (.aload_n 0, 1) := by decide +kernel
theorem dX6_makeTheirText_30 : decode cX6_makeTheirText 30 = .ok (.getfield 27, 3) := by decide +kernel
theorem dX6_makeTheirText_33 : decode cX6_makeTheirText 33 = .ok (.iload_n 2, 1) := by decide +kernel
theorem dX6_makeTheirText_34 : decode cX6_makeTheirText 34 = .ok (.iaload, 1) := by decide +kernel
theorem dX6_makeTheirText_35 : decode cX6_makeTheirText 35 = .ok (.ifCond .ne 15, 3) := by decide +kernel
theorem dX6_makeTheirText_38 : decode cX6_makeTheirText 38 = .ok (.aload_n 1, 1) := by decide +kernel
theorem dX6_makeTheirText_39 : decode cX6_makeTheirText 39 = .ok (.aload_n 0, 1) := by decide +kernel
theorem dX6_makeTheirText_40 : decode cX6_makeTheirText 40 = .ok (.iload_n 2, 1) := by decide +kernel
theorem dX6_makeTheirText_41 : decode cX6_makeTheirText 41 = .ok (.invokevirtual 85, 3) := by decide +kernel
theorem dX6_makeTheirText_44 : decode cX6_makeTheirText 44 = .ok (.invokevirtual 95, 3) := by decide +kernel
theorem dX6_makeTheirText_47 : decode cX6_makeTheirText 47 = .ok (.goto 19, 3) := by decide +kernel
theorem dX6_makeTheirText_50 : decode cX6_makeTheirText 50 = .ok (.aload_n 1, 1) := by decide +kernel
theorem dX6_makeTheirText_51 : decode cX6_makeTheirText 51 = .ok (.aload_n 0, 1) := by decide +kernel
theorem dX6_makeTheirText_52 : decode cX6_makeTheirText 52 = .ok (.getfield 27, 3) := by decide +kernel
theorem dX6_makeTheirText_55 : decode cX6_makeTheirText 55 = .ok (.iload_n 2, 1) := by decide +kernel
theorem dX6_makeTheirText_56 : decode cX6_makeTheirText 56 = .ok (.iaload, 1) := by decide +kernel
theorem dX6_makeTheirText_57 : decode cX6_makeTheirText 57 = .ok (.aload_n 0, 1) := by decide +kernel
theorem dX6_makeTheirText_58 : decode cX6_makeTheirText 58 = .ok (.getfield 24, 3) := by decide +kernel
theorem dX6_makeTheirText_61 : decode cX6_makeTheirText 61 = .ok (.iload_n 2, 1) := by decide +kernel
theorem dX6_makeTheirText_62 : decode cX6_makeTheirText 62 = .ok (.iaload, 1) := by decide +kernel
theorem dX6_makeTheirText_63 : decode cX6_makeTheirText 63 = .ok (.invokevirtual 98, 3) := by decide +kernel
theorem dX6_makeTheirText_66 : decode cX6_makeTheirText 66 = .ok (.iinc 2 1, 3) := by decide +kernel
theorem dX6_makeTheirText_69 : decode cX6_makeTheirText 69 = .ok (.goto (-63), 3) := by decide +kernel
theorem dX6_makeTheirText_72 : decode cX6_makeTheirText 72 = .ok (.aload_n 1, 1) := by decide +kernel
theorem dX6_makeTheirText_73 : decode cX6_makeTheirText 73 = .ok (.aload_n 0, 1) := by decide +kernel
theorem dX6_makeTheirText_74 : decode cX6_makeTheirText 74 = .ok (.getfield 14, 3) := by decide +kernel
theorem dX6_makeTheirText_77 : decode cX6_makeTheirText 77 = .ok (.invokevirtual 101, 3) := by decide +kernel
theorem dX6_makeTheirText_80 : decode cX6_makeTheirText 80 = .ok (.ireturn, 1) := by decide +kernel
theorem dX6_addOne_0 : decode cX6_addOne 0 = .ok (.aload_n 0, 1) := by decide +kernel
theorem dX6_addOne_1 : decode cX6_addOne 1 = .ok (.getfield 34, 3) := by decide +kernel
theorem dX6_addOne_4 : decode cX6_addOne 4 = .ok (.sipush 500, 3) := by decide +kernel
theorem dX6_addOne_7 : decode cX6_addOne 7 = .ok (.if_icmp .ge 54, 3) := by decide +kernel
theorem dX6_addOne_10 : decode cX6_addOne 10 = .ok (.aload_n 0, 1) := by decide +kernel
theorem dX6_addOne_11 : decode cX6_addOne 11 = .ok (.getfield 20, 3) := by decide +kernel
theorem dX6_addOne_14 : decode cX6_addOne 14 = .ok (.aload_n 0, 1) := by decide +kernel
theorem dX6_addOne_15 : decode cX6_addOne 15 = .ok (.getfield 34, 3) := by decide +kernel
theorem dX6_addOne_18 : decode cX6_addOne 18 = .ok (.iload_n 1, 1) := by decide +kernel
theorem dX6_addOne_19 : decode cX6_addOne 19 = .ok (.iastore, 1) := by decide +kernel
theorem dX6_addOne_20 : decode cX6_addOne 20 = .ok (.aload_n 0, 1) := by decide +kernel
theorem dX6_addOne_21 : decode cX6_addOne 21 = .ok (.getfield 24, 3) := by decide +kernel
theorem dX6_addOne_24 : decode cX6_addOne 24 = .ok (.aload_n 0, 1) := by decide +kernel
theorem dX6_addOne_25 : decode cX6_addOne 25 = .ok (.getfield 34, 3) := by decide +kernel
theorem dX6_addOne_28 : decode cX6_addOne 28 = .ok (.iload_n 2, 1) := by decide +kernel
theorem dX6_addOne_29 : decode cX6_addOne 29 = .ok (.iastore, 1) := by decide +kernel
theorem dX6_addOne_30 : decode cX6_addOne 30 = .ok (.aload_n 0, 1) := by decide +kernel
theorem dX6_addOne_31 : decode cX6_addOne 31 = .ok (.getfield 27, 3) := by decide +kernel
theorem dX6_addOne_34 : decode cX6_addOne 34 = .ok (.aload_n 0, 1) := by decide +kernel
theorem dX6_addOne_35 : decode cX6_addOne 35 = .ok (.getfield 34, 3) := by decide +kernel
theorem dX6_addOne_38 : decode cX6_addOne 38 = .ok (.iload_n 3, 1) := by decide +kernel
theorem dX6_addOne_39 : decode cX6_addOne 39 = .ok (.iastore, 1) := by decide +kernel
theorem dX6_addOne_40 : decode cX6_addOne 40 = .ok (.aload_n 0, 1) := by decide +kernel
theorem dX6_addOne_41 : decode cX6_addOne 41 = .ok (.dup, 1) := by decide +kernel
theorem dX6_addOne_42 : decode cX6_addOne 42 = .ok (.getfield 34, 3) := by decide +kernel
theorem dX6_addOne_45 : decode cX6_addOne 45 = .ok (.iconst 1, 1) := by decide +kernel
theorem dX6_addOne_46 : decode cX6_addOne 46 = .ok (.iadd, 1) := by decide +kernel
theorem dX6_addOne_47 : decode cX6_addOne 47 = .ok (.putfield 34, 3) := by decide +kernel
theorem dX6_addOne_50 : decode cX6_addOne 50 = .ok (.aload_n 0, 1) := by decide +kernel
theorem dX6_addOne_51 : decode cX6_addOne 51 = .ok (.dup, 1) := by decide +kernel
theorem dX6_addOne_52 : decode cX6_addOne 52 = .ok (.getfield 40, 3) := by decide +kernel
theorem dX6_addOne_55 : decode cX6_addOne 55 = .ok (.iload 4, 2) := by decide +kernel
theorem dX6_addOne_57 : decode cX6_addOne 57 = .ok (.iadd, 1) := by decide +kernel
theorem dX6_addOne_58 : decode cX6_addOne 58 = .ok (.putfield 40, 3) := by decide +kernel
theorem dX6_addOne_61 : decode cX6_addOne 61 = .ok (.return_, 1) := by decide +kernel
theorem dX6_lengthTold_0 : decode cX6_lengthTold 0 = .ok (.iload_n 1, 1) := by decide +kernel
theorem dX6_lengthTold_1 : decode cX6_lengthTold 1 = .ok (.aload_n 0, 1) := by decide +kernel
theorem dX6_lengthTold_2 : decode cX6_lengthTold 2 = .ok (.getfield 30, 3) := by decide +kernel
theorem dX6_lengthTold_5 : decode cX6_lengthTold 5 = .ok (.isub, 1) := by decide +kernel
theorem dX6_lengthTold_6 : decode cX6_lengthTold 6 = .ok (.iconst 1, 1) := by decide +kernel
theorem dX6_lengthTold_7 : decode cX6_lengthTold 7 = .ok (.iadd, 1) := by decide +kernel
theorem dX6_lengthTold_8 : decode cX6_lengthTold 8 = .ok (.ireturn, 1) := by decide +kernel
set_option maxRecDepth 20000 in
theorem ggX6_lengthBits_X6_lengthTold : GoodIn wsX6_lengthBits wsX6_lengthTold := goodIn_r _ [5, 6, 10, 11, 12, 13, 14, 15, 16, 17, 18, 19] (by decide +kernel) (by decide +kernel)
set_option maxRecDepth 20000 in
theorem gX6_lengthBits_X6_lengthTold : GoodIn wsX6_lengthBits (wsV RX6 105 RX6 yX6_lengthTold wsX6_lengthTold) := goodIn_app (goodIn_of _ (by decide +kernel)) ggX6_lengthBits_X6_lengthTold
set_option maxRecDepth 20000 in
theorem ggX6_lengthBits_X8_classOf : GoodIn wsX6_lengthBits wsX8_classOf := goodIn_r _ [9] (by decide +kernel) (by decide +kernel)
set_option maxRecDepth 20000 in
theorem gX6_lengthBits_X8_classOf_n62 : GoodIn wsX6_lengthBits (wsX8_classOf) := ggX6_lengthBits_X8_classOf
theorem dX6_lengthBits_0 : decode cX6_lengthBits 0 = .ok (.iconst 2, 1) := by decide +kernel
theorem dX6_lengthBits_1 : decode cX6_lengthBits 1 = .ok (.aload_n 0, 1) := by decide +kernel
theorem dX6_lengthBits_2 : decode cX6_lengthBits 2 = .ok (.iload_n 1, 1) := by decide +kernel
theorem dX6_lengthBits_3 : decode cX6_lengthBits 3 = .ok (.invokevirtual 105, 3) := by decide +kernel
theorem dX6_lengthBits_6 : decode cX6_lengthBits 6 = .ok (.invokestatic 62, 3) := by decide +kernel
theorem dX6_lengthBits_9 : decode cX6_lengthBits 9 = .ok (.imul, 1) := by decide +kernel
theorem dX6_lengthBits_10 : decode cX6_lengthBits 10 = .ok (.iconst 1, 1) := by decide +kernel
theorem dX6_lengthBits_11 : decode cX6_lengthBits 11 = .ok (.iadd, 1) := by decide +kernel
theorem dX6_lengthBits_12 : decode cX6_lengthBits 12 = .ok (.ireturn, 1) := by decide +kernel
set_option maxRecDepth 20000 in
theorem ggX6_putMatch_X0_put : GoodIn wsX6_putMatch wsX0_put := goodIn_r _ [5, 6, 7, 8, 4, 9, 10, 11, 25, 26] (by decide +kernel) (by decide +kernel)
set_option maxRecDepth 20000 in
theorem gX6_putMatch_X0_put : GoodIn wsX6_putMatch (wsV RX6 81 RX0 yX0_put wsX0_put) := goodIn_app (goodIn_of _ (by decide +kernel)) ggX6_putMatch_X0_put
set_option maxRecDepth 20000 in
theorem ggX6_putMatch_X6_lengthTold : GoodIn wsX6_putMatch wsX6_lengthTold := goodIn_r _ [16, 17, 27, 28, 29, 30, 31, 32, 33, 34, 35, 36] (by decide +kernel) (by decide +kernel)
set_option maxRecDepth 20000 in
theorem gX6_putMatch_X6_lengthTold : GoodIn wsX6_putMatch (wsV RX6 105 RX6 yX6_lengthTold wsX6_lengthTold) := goodIn_app (goodIn_of _ (by decide +kernel)) ggX6_putMatch_X6_lengthTold
set_option maxRecDepth 20000 in
theorem ggX6_putMatch_X6_lengthBits : GoodIn wsX6_putMatch wsX6_lengthBits := goodIn_r _ [21, 12, 13, 14, 15, 16, 17, 22, 23, 24, 27, 28, 29, 30, 31, 32, 33, 34, 35, 36] (by decide +kernel) (by decide +kernel)
set_option maxRecDepth 20000 in
theorem gX6_putMatch_X6_lengthBits : GoodIn wsX6_putMatch (wsV RX6 58 RX6 yX6_lengthBits wsX6_lengthBits) := goodIn_app (goodIn_of _ (by decide +kernel)) ggX6_putMatch_X6_lengthBits
set_option maxRecDepth 20000 in
theorem ggX6_putMatch_X8_classOf : GoodIn wsX6_putMatch wsX8_classOf := goodIn_r _ [24] (by decide +kernel) (by decide +kernel)
set_option maxRecDepth 20000 in
theorem gX6_putMatch_X8_classOf_n62 : GoodIn wsX6_putMatch (wsX8_classOf) := ggX6_putMatch_X8_classOf
theorem dX6_putMatch_0 : decode cX6_putMatch 0 = .ok (.aload_n 1, 1) := by decide +kernel
theorem dX6_putMatch_1 : decode cX6_putMatch 1 = .ok (.iconst 1, 1) := by decide +kernel
theorem dX6_putMatch_2 : decode cX6_putMatch 2 = .ok (.iconst 1, 1) := by decide +kernel
theorem dX6_putMatch_3 : decode cX6_putMatch 3 = .ok (.invokevirtual 81, 3) := by decide +kernel
theorem dX6_putMatch_6 : decode cX6_putMatch 6 = .ok (.aload_n 1, 1) := by decide +kernel
theorem dX6_putMatch_7 : decode cX6_putMatch 7 = .ok (.aload_n 0, 1) := by decide +kernel
theorem dX6_putMatch_8 : decode cX6_putMatch 8 = .ok (.iload_n 2, 1) := by decide +kernel
theorem dX6_putMatch_9 : decode cX6_putMatch 9 = .ok (.invokevirtual 105, 3) := by decide +kernel
theorem dX6_putMatch_12 : decode cX6_putMatch 12 = .ok (.aload_n 0, 1) := by decide +kernel
theorem dX6_putMatch_13 : decode cX6_putMatch 13 = .ok (.iload_n 2, 1) := by decide +kernel
theorem dX6_putMatch_14 : decode cX6_putMatch 14 = .ok (.invokevirtual 58, 3) := by decide +kernel
theorem dX6_putMatch_17 : decode cX6_putMatch 17 = .ok (.invokevirtual 81, 3) := by decide +kernel
theorem dX6_putMatch_20 : decode cX6_putMatch 20 = .ok (.iload_n 3, 1) := by decide +kernel
theorem dX6_putMatch_21 : decode cX6_putMatch 21 = .ok (.invokestatic 62, 3) := by decide +kernel
theorem dX6_putMatch_24 : decode cX6_putMatch 24 = .ok (.istore 4, 2) := by decide +kernel
theorem dX6_putMatch_26 : decode cX6_putMatch 26 = .ok (.aload_n 1, 1) := by decide +kernel
theorem dX6_putMatch_27 : decode cX6_putMatch 27 = .ok (.iload 4, 2) := by decide +kernel
theorem dX6_putMatch_29 : decode cX6_putMatch 29 = .ok (.iconst 4, 1) := by decide +kernel
theorem dX6_putMatch_30 : decode cX6_putMatch 30 = .ok (.invokevirtual 81, 3) := by decide +kernel
theorem dX6_putMatch_33 : decode cX6_putMatch 33 = .ok (.aload_n 1, 1) := by decide +kernel
theorem dX6_putMatch_34 : decode cX6_putMatch 34 = .ok (.iload_n 3, 1) := by decide +kernel
theorem dX6_putMatch_35 : decode cX6_putMatch 35 = .ok (.iload 4, 2) := by decide +kernel
theorem dX6_putMatch_37 : decode cX6_putMatch 37 = .ok (.invokevirtual 81, 3) := by decide +kernel
theorem dX6_putMatch_40 : decode cX6_putMatch 40 = .ok (.return_, 1) := by decide +kernel
set_option maxRecDepth 20000 in
theorem ggX7_init_X7_firstPrices : GoodIn wsX7_init wsX7_firstPrices := goodIn_r _ [11, 12] (by decide +kernel) (by decide +kernel)
set_option maxRecDepth 20000 in
theorem gX7_init_X7_firstPrices : GoodIn wsX7_init (va_wsS RX7 9 yX7_firstPrices wsX7_firstPrices) := goodIn_app (goodIn_of _ (by decide +kernel)) ggX7_init_X7_firstPrices
theorem dX7_init_0 : decode cX7_init 0 = .ok (.aload_n 0, 1) := by decide +kernel
theorem dX7_init_1 : decode cX7_init 1 = .ok (.invokespecial 3, 3) := by decide +kernel
theorem dX7_init_4 : decode cX7_init 4 = .ok (.aload_n 0, 1) := by decide +kernel
theorem dX7_init_5 : decode cX7_init 5 = .ok (.bipush 8, 2) := by decide +kernel
theorem dX7_init_7 : decode cX7_init 7 = .ok (.invokestatic 9, 3) := by decide +kernel
theorem dX7_init_10 : decode cX7_init 10 = .ok (.putfield 15, 3) := by decide +kernel
theorem dX7_init_13 : decode cX7_init 13 = .ok (.aload_n 0, 1) := by decide +kernel
theorem dX7_init_14 : decode cX7_init 14 = .ok (.iconst 1, 1) := by decide +kernel
theorem dX7_init_15 : decode cX7_init 15 = .ok (.invokestatic 9, 3) := by decide +kernel
theorem dX7_init_18 : decode cX7_init 18 = .ok (.putfield 19, 3) := by decide +kernel
theorem dX7_init_21 : decode cX7_init 21 = .ok (.aload_n 0, 1) := by decide +kernel
theorem dX7_init_22 : decode cX7_init 22 = .ok (.bipush 8, 2) := by decide +kernel
theorem dX7_init_24 : decode cX7_init 24 = .ok (.invokestatic 9, 3) := by decide +kernel
theorem dX7_init_27 : decode cX7_init 27 = .ok (.putfield 22, 3) := by decide +kernel
theorem dX7_init_30 : decode cX7_init 30 = .ok (.aload_n 0, 1) := by decide +kernel
theorem dX7_init_31 : decode cX7_init 31 = .ok (.bipush 9, 2) := by decide +kernel
theorem dX7_init_33 : decode cX7_init 33 = .ok (.invokestatic 9, 3) := by decide +kernel
theorem dX7_init_36 : decode cX7_init 36 = .ok (.putfield 25, 3) := by decide +kernel
theorem dX7_init_39 : decode cX7_init 39 = .ok (.return_, 1) := by decide +kernel
set_option maxRecDepth 20000 in
theorem ggX7_change_X7_rowOf : GoodIn wsX7_change wsX7_rowOf := goodIn_r _ [5, 6, 7, 8, 9, 10, 11, 12, 13] (by decide +kernel) (by decide +kernel)
set_option maxRecDepth 20000 in
theorem gX7_change_X7_rowOf : GoodIn wsX7_change (wsV RX7 28 RX7 yX7_rowOf wsX7_rowOf) := goodIn_app (goodIn_of _ (by decide +kernel)) ggX7_change_X7_rowOf
theorem dX7_change_0 : decode cX7_change 0 = .ok (.aload_n 0, 1) := by decide +kernel
theorem dX7_change_1 : decode cX7_change 1 = .ok (.iload_n 1, 1) := by decide +kernel
theorem dX7_change_2 : decode cX7_change 2 = .ok (.invokevirtual 28, 3) := by decide +kernel
theorem dX7_change_5 : decode cX7_change 5 = .ok (.astore 4, 2) := by decide +kernel
theorem dX7_change_7 : decode cX7_change 7 = .ok (.aload 4, 2) := by decide +kernel
theorem dX7_change_9 : decode cX7_change 9 = .ok (.ifnull 26, 3) := by decide +kernel
theorem dX7_change_12 : decode cX7_change 12 = .ok (.iload_n 2, 1) := by decide +kernel
theorem dX7_change_13 : decode cX7_change 13 = .ok (.ifCond .lt 22, 3) := by decide +kernel
theorem dX7_change_16 : decode cX7_change 16 = .ok (.iload_n 2, 1) := by decide +kernel
theorem dX7_change_17 : decode cX7_change 17 = .ok (.aload 4, 2) := by decide +kernel
theorem dX7_change_19 : decode cX7_change 19 = .ok (.arraylength, 1) := by decide +kernel
theorem dX7_change_20 : decode cX7_change 20 = .ok (.if_icmp .ge 15, 3) := by decide +kernel
theorem dX7_change_23 : decode cX7_change 23 = .ok (.iload_n 3, 1) := by decide +kernel
theorem dX7_change_24 : decode cX7_change 24 = .ok (.iconst 1, 1) := by decide +kernel
theorem dX7_change_25 : decode cX7_change 25 = .ok (.if_icmp .lt 10, 3) := by decide +kernel
theorem dX7_change_28 : decode cX7_change 28 = .ok (.iload_n 3, 1) := by decide +kernel
theorem dX7_change_29 : decode cX7_change 29 = .ok (.sipush 1000, 3) := by decide +kernel
theorem dX7_change_32 : decode cX7_change 32 = .ok (.if_icmp .le 5, 3) := by decide +kernel
theorem dX7_change_35 : decode cX7_change 35 = .ok (.iconst 0, 1) := by decide +kernel
theorem dX7_change_36 : decode cX7_change 36 = .ok (.ireturn, 1) := by decide +kernel
theorem dX7_change_37 : decode cX7_change 37 = .ok (.aload 4, 2) := by decide +kernel
theorem dX7_change_39 : decode cX7_change 39 = .ok (.iload_n 2, 1) := by decide +kernel
theorem dX7_change_40 : decode cX7_change 40 = .ok (.iload_n 3, 1) := by decide +kernel
theorem dX7_change_41 : decode cX7_change 41 = .ok (.iastore, 1) := by decide +kernel
theorem dX7_change_42 : decode cX7_change 42 = .ok (.iconst 1, 1) := by decide +kernel
theorem dX7_change_43 : decode cX7_change 43 = .ok (.ireturn, 1) := by decide +kernel
theorem dX7_ofByte_0 : decode cX7_ofByte 0 = .ok (.aload_n 0, 1) := by decide +kernel
theorem dX7_ofByte_1 : decode cX7_ofByte 1 = .ok (.getfield 15, 3) := by decide +kernel
theorem dX7_ofByte_4 : decode cX7_ofByte 4 = .ok (.iload_n 1, 1) := by decide +kernel
theorem dX7_ofByte_5 : decode cX7_ofByte 5 = .ok (.sipush 255, 3) := by decide +kernel
theorem dX7_ofByte_8 : decode cX7_ofByte 8 = .ok (.iand, 1) := by decide +kernel
theorem dX7_ofByte_9 : decode cX7_ofByte 9 = .ok (.bipush 32, 2) := by decide +kernel
theorem dX7_ofByte_11 : decode cX7_ofByte 11 = .ok (.idiv, 1) := by decide +kernel
theorem dX7_ofByte_12 : decode cX7_ofByte 12 = .ok (.iaload, 1) := by decide +kernel
theorem dX7_ofByte_13 : decode cX7_ofByte 13 = .ok (.ireturn, 1) := by decide +kernel
set_option maxRecDepth 20000 in
theorem ggX7_ofMatch_X7_ofLength : GoodIn wsX7_ofMatch wsX7_ofLength := goodIn_r _ [5, 6, 7, 8, 9, 10, 11, 12, 13, 14, 20, 21, 22, 23] (by decide +kernel) (by decide +kernel)
set_option maxRecDepth 20000 in
theorem gX7_ofMatch_X7_ofLength : GoodIn wsX7_ofMatch (wsV RX7 31 RX7 yX7_ofLength wsX7_ofLength) := goodIn_app (goodIn_of _ (by decide +kernel)) ggX7_ofMatch_X7_ofLength
set_option maxRecDepth 20000 in
theorem ggX7_ofMatch_X8_classOf : GoodIn wsX7_ofMatch wsX8_classOf := goodIn_r _ [14] (by decide +kernel) (by decide +kernel)
set_option maxRecDepth 20000 in
theorem gX7_ofMatch_X8_classOf_n35 : GoodIn wsX7_ofMatch (wsX8_classOf) := ggX7_ofMatch_X8_classOf
set_option maxRecDepth 20000 in
theorem ggX7_ofMatch_X7_ofDistanceClass : GoodIn wsX7_ofMatch wsX7_ofDistanceClass := goodIn_r _ [18, 19, 8, 9, 10, 11, 20, 21, 22, 23] (by decide +kernel) (by decide +kernel)
set_option maxRecDepth 20000 in
theorem gX7_ofMatch_X7_ofDistanceClass : GoodIn wsX7_ofMatch (wsV RX7 38 RX7 yX7_ofDistanceClass wsX7_ofDistanceClass) := goodIn_app (goodIn_of _ (by decide +kernel)) ggX7_ofMatch_X7_ofDistanceClass
theorem dX7_ofMatch_0 : decode cX7_ofMatch 0 = .ok (.aload_n 0, 1) := by decide +kernel
theorem dX7_ofMatch_1 : decode cX7_ofMatch 1 = .ok (.iload_n 1, 1) := by decide +kernel
theorem dX7_ofMatch_2 : decode cX7_ofMatch 2 = .ok (.invokevirtual 31, 3) := by decide +kernel
theorem dX7_ofMatch_5 : decode cX7_ofMatch 5 = .ok (.aload_n 0, 1) := by decide +kernel
theorem dX7_ofMatch_6 : decode cX7_ofMatch 6 = .ok (.iload_n 2, 1) := by decide +kernel
theorem dX7_ofMatch_7 : decode cX7_ofMatch 7 = .ok (.invokestatic 35, 3) := by decide +kernel
theorem dX7_ofMatch_10 : decode cX7_ofMatch 10 = .ok (.invokevirtual 38, 3) := by decide +kernel
theorem dX7_ofMatch_13 : decode cX7_ofMatch 13 = .ok (.iadd, 1) := by decide +kernel
theorem dX7_ofMatch_14 : decode cX7_ofMatch 14 = .ok (.ireturn, 1) := by decide +kernel
set_option maxRecDepth 20000 in
theorem ggX7_ofLength_X8_classOf : GoodIn wsX7_ofLength wsX8_classOf := goodIn_r _ [9] (by decide +kernel) (by decide +kernel)
set_option maxRecDepth 20000 in
theorem gX7_ofLength_X8_classOf_n35 : GoodIn wsX7_ofLength (wsX8_classOf) := ggX7_ofLength_X8_classOf
theorem dX7_ofLength_0 : decode cX7_ofLength 0 = .ok (.aload_n 0, 1) := by decide +kernel
theorem dX7_ofLength_1 : decode cX7_ofLength 1 = .ok (.getfield 19, 3) := by decide +kernel
theorem dX7_ofLength_4 : decode cX7_ofLength 4 = .ok (.iconst 0, 1) := by decide +kernel
theorem dX7_ofLength_5 : decode cX7_ofLength 5 = .ok (.iaload, 1) := by decide +kernel
theorem dX7_ofLength_6 : decode cX7_ofLength 6 = .ok (.aload_n 0, 1) := by decide +kernel
theorem dX7_ofLength_7 : decode cX7_ofLength 7 = .ok (.getfield 22, 3) := by decide +kernel
theorem dX7_ofLength_10 : decode cX7_ofLength 10 = .ok (.iload_n 1, 1) := by decide +kernel
theorem dX7_ofLength_11 : decode cX7_ofLength 11 = .ok (.invokestatic 35, 3) := by decide +kernel
theorem dX7_ofLength_14 : decode cX7_ofLength 14 = .ok (.bipush 7, 2) := by decide +kernel
theorem dX7_ofLength_16 : decode cX7_ofLength 16 = .ok (.invokestatic 41, 3) := by decide +kernel
theorem dX7_ofLength_19 : decode cX7_ofLength 19 = .ok (.iaload, 1) := by decide +kernel
theorem dX7_ofLength_20 : decode cX7_ofLength 20 = .ok (.iadd, 1) := by decide +kernel
theorem dX7_ofLength_21 : decode cX7_ofLength 21 = .ok (.ireturn, 1) := by decide +kernel
theorem dX7_ofDistanceClass_0 : decode cX7_ofDistanceClass 0 = .ok (.aload_n 0, 1) := by decide +kernel
theorem dX7_ofDistanceClass_1 : decode cX7_ofDistanceClass 1 = .ok (.getfield 25, 3) := by decide +kernel
theorem dX7_ofDistanceClass_4 : decode cX7_ofDistanceClass 4 = .ok (.iload_n 1, 1) := by decide +kernel
theorem dX7_ofDistanceClass_5 : decode cX7_ofDistanceClass 5 = .ok (.bipush 8, 2) := by decide +kernel
theorem dX7_ofDistanceClass_7 : decode cX7_ofDistanceClass 7 = .ok (.invokestatic 41, 3) := by decide +kernel
theorem dX7_ofDistanceClass_10 : decode cX7_ofDistanceClass 10 = .ok (.iaload, 1) := by decide +kernel
theorem dX7_ofDistanceClass_11 : decode cX7_ofDistanceClass 11 = .ok (.ireturn, 1) := by decide +kernel
theorem dX7_rowOf_0 : decode cX7_rowOf 0 = .ok (.iload_n 1, 1) := by decide +kernel
theorem dX7_rowOf_1 : decode cX7_rowOf 1 = .ok (.tableswitch 51 0 3 #[31, 36, 41, 46], 31) := by decide +kernel
theorem dX7_rowOf_32 : decode cX7_rowOf 32 = .ok (.aload_n 0, 1) := by decide +kernel
theorem dX7_rowOf_33 : decode cX7_rowOf 33 = .ok (.getfield 15, 3) := by decide +kernel
theorem dX7_rowOf_36 : decode cX7_rowOf 36 = .ok (.areturn, 1) := by decide +kernel
theorem dX7_rowOf_37 : decode cX7_rowOf 37 = .ok (.aload_n 0, 1) := by decide +kernel
theorem dX7_rowOf_38 : decode cX7_rowOf 38 = .ok (.getfield 19, 3) := by decide +kernel
theorem dX7_rowOf_41 : decode cX7_rowOf 41 = .ok (.areturn, 1) := by decide +kernel
theorem dX7_rowOf_42 : decode cX7_rowOf 42 = .ok (.aload_n 0, 1) := by decide +kernel
theorem dX7_rowOf_43 : decode cX7_rowOf 43 = .ok (.getfield 22, 3) := by decide +kernel
theorem dX7_rowOf_46 : decode cX7_rowOf 46 = .ok (.areturn, 1) := by decide +kernel
theorem dX7_rowOf_47 : decode cX7_rowOf 47 = .ok (.aload_n 0, 1) := by decide +kernel
theorem dX7_rowOf_48 : decode cX7_rowOf 48 = .ok (.getfield 25, 3) := by decide +kernel
theorem dX7_rowOf_51 : decode cX7_rowOf 51 = .ok (.areturn, 1) := by decide +kernel
theorem dX7_rowOf_52 : decode cX7_rowOf 52 = .ok (.aconst_null, 1) := by decide +kernel
theorem dX7_rowOf_53 : decode cX7_rowOf 53 = .ok (.areturn, 1) := by decide +kernel
theorem dX7_firstPrices_0 : decode cX7_firstPrices 0 = .ok (.iload_n 0, 1) := by decide +kernel
theorem dX7_firstPrices_1 : decode cX7_firstPrices 1 = .ok (.newarray .int, 2) := by decide +kernel
theorem dX7_firstPrices_3 : decode cX7_firstPrices 3 = .ok (.astore_n 1, 1) := by decide +kernel
theorem dX7_firstPrices_4 : decode cX7_firstPrices 4 = .ok (.iconst 0, 1) := by decide +kernel
theorem dX7_firstPrices_5 : decode cX7_firstPrices 5 = .ok (.istore_n 2, 1) := by decide +kernel
theorem dX7_firstPrices_6 : decode cX7_firstPrices 6 = .ok (.iload_n 2, 1) := by decide +kernel
theorem dX7_firstPrices_7 : decode cX7_firstPrices 7 = .ok (.iload_n 0, 1) := by decide +kernel
theorem dX7_firstPrices_8 : decode cX7_firstPrices 8 = .ok (.if_icmp .ge 14, 3) := by decide +kernel
theorem dX7_firstPrices_11 : decode cX7_firstPrices 11 = .ok (.aload_n 1, 1) := by decide +kernel
theorem dX7_firstPrices_12 : decode cX7_firstPrices 12 = .ok (.iload_n 2, 1) := by decide +kernel
theorem dX7_firstPrices_13 : decode cX7_firstPrices 13 = .ok (.bipush 8, 2) := by decide +kernel
theorem dX7_firstPrices_15 : decode cX7_firstPrices 15 = .ok (.iastore, 1) := by decide +kernel
theorem dX7_firstPrices_16 : decode cX7_firstPrices 16 = .ok (.iinc 2 1, 3) := by decide +kernel
theorem dX7_firstPrices_19 : decode cX7_firstPrices 19 = .ok (.goto (-13), 3) := by decide +kernel
theorem dX7_firstPrices_22 : decode cX7_firstPrices 22 = .ok (.aload_n 1, 1) := by decide +kernel
theorem dX7_firstPrices_23 : decode cX7_firstPrices 23 = .ok (.areturn, 1) := by decide +kernel
set_option maxRecDepth 20000 in
theorem ggX8_init_X1_init : GoodIn wsX8_init wsX1_init := goodIn_r _ [44, 45, 2, 3, 46, 47, 48, 121, 122] (by decide +kernel) (by decide +kernel)
set_option maxRecDepth 20000 in
theorem gX8_init_X1_init : GoodIn wsX8_init (wsX1_init) := ggX8_init_X1_init
set_option maxRecDepth 20000 in
theorem ggX8_init_X5_init : GoodIn wsX8_init wsX5_init := goodIn_r _ [51, 52, 2, 3, 53, 54, 55, 137, 138, 139] (by decide +kernel) (by decide +kernel)
set_option maxRecDepth 20000 in
theorem gX8_init_X5_init : GoodIn wsX8_init (wsX5_init) := ggX8_init_X5_init
set_option maxRecDepth 20000 in
theorem ggX8_init_X7_init : GoodIn wsX8_init wsX7_init := goodIn_r _ [58, 59, 2, 3, 60, 61, 62, 63, 64, 65, 17, 66, 46, 140, 141, 142, 143] (by decide +kernel) (by decide +kernel)
set_option maxRecDepth 20000 in
theorem gX8_init_X7_init : GoodIn wsX8_init (wsX7_init) := ggX8_init_X7_init
set_option maxRecDepth 20000 in
theorem ggX8_init_X3_init : GoodIn wsX8_init wsX3_init := goodIn_r _ [69, 70, 2, 3, 71, 72, 46, 73, 74, 75, 76, 77, 144, 145, 146, 147, 148, 149, 150] (by decide +kernel) (by decide +kernel)
set_option maxRecDepth 20000 in
theorem gX8_init_X3_init : GoodIn wsX8_init (wsX3_init) := ggX8_init_X3_init
set_option maxRecDepth 20000 in
theorem ggX8_init_X2_init : GoodIn wsX8_init wsX2_init := goodIn_r _ [80, 81, 2, 3, 82, 83, 84, 85, 46, 86, 87, 88, 89, 90, 151, 152, 153, 154, 155, 156, 157, 158, 159] (by decide +kernel) (by decide +kernel)
set_option maxRecDepth 20000 in
theorem gX8_init_X2_init : GoodIn wsX8_init (wsX2_init) := ggX8_init_X2_init
set_option maxRecDepth 20000 in
theorem ggX8_init_X6_init : GoodIn wsX8_init wsX6_init := goodIn_r _ [93, 94, 2, 3, 95, 5, 6, 96, 46, 97, 98, 99, 100, 101, 102, 103, 104, 105, 106, 43, 44, 45, 47, 48, 121, 122, 160, 161, 162, 163, 164, 165, 166, 167, 168, 169] (by decide +kernel) (by decide +kernel)
set_option maxRecDepth 20000 in
theorem gX8_init_X6_init : GoodIn wsX8_init (wsX6_init) := ggX8_init_X6_init
set_option maxRecDepth 20000 in
theorem ggX8_init_X0_init : GoodIn wsX8_init wsX0_init := goodIn_r _ [109, 110, 2, 3, 46, 111, 112, 170, 171] (by decide +kernel) (by decide +kernel)
set_option maxRecDepth 20000 in
theorem gX8_init_X0_init : GoodIn wsX8_init (wsX0_init) := ggX8_init_X0_init
set_option maxRecDepth 20000 in
theorem ggX8_init_X4_init : GoodIn wsX8_init wsX4_init := goodIn_r _ [115, 116, 2, 3, 117, 118, 119, 120, 172, 173, 174, 175] (by decide +kernel) (by decide +kernel)
set_option maxRecDepth 20000 in
theorem gX8_init_X4_init : GoodIn wsX8_init (wsX4_init) := ggX8_init_X4_init
theorem dX8_init_0 : decode cX8_init 0 = .ok (.aload_n 0, 1) := by decide +kernel
theorem dX8_init_1 : decode cX8_init 1 = .ok (.invokespecial 3, 3) := by decide +kernel
theorem dX8_init_4 : decode cX8_init 4 = .ok (.aload_n 0, 1) := by decide +kernel
theorem dX8_init_5 : decode cX8_init 5 = .ok (.new 9, 3) := by decide +kernel
theorem dX8_init_8 : decode cX8_init 8 = .ok (.dup, 1) := by decide +kernel
theorem dX8_init_9 : decode cX8_init 9 = .ok (.sipush 500, 3) := by decide +kernel
theorem dX8_init_12 : decode cX8_init 12 = .ok (.invokespecial 11, 3) := by decide +kernel
theorem dX8_init_15 : decode cX8_init 15 = .ok (.putfield 14, 3) := by decide +kernel
theorem dX8_init_18 : decode cX8_init 18 = .ok (.aload_n 0, 1) := by decide +kernel
theorem dX8_init_19 : decode cX8_init 19 = .ok (.new 9, 3) := by decide +kernel
theorem dX8_init_22 : decode cX8_init 22 = .ok (.dup, 1) := by decide +kernel
theorem dX8_init_23 : decode cX8_init 23 = .ok (.sipush 700, 3) := by decide +kernel
theorem dX8_init_26 : decode cX8_init 26 = .ok (.invokespecial 11, 3) := by decide +kernel
theorem dX8_init_29 : decode cX8_init 29 = .ok (.putfield 18, 3) := by decide +kernel
theorem dX8_init_32 : decode cX8_init 32 = .ok (.aload_n 0, 1) := by decide +kernel
theorem dX8_init_33 : decode cX8_init 33 = .ok (.new 9, 3) := by decide +kernel
theorem dX8_init_36 : decode cX8_init 36 = .ok (.dup, 1) := by decide +kernel
theorem dX8_init_37 : decode cX8_init 37 = .ok (.sipush 500, 3) := by decide +kernel
theorem dX8_init_40 : decode cX8_init 40 = .ok (.invokespecial 11, 3) := by decide +kernel
theorem dX8_init_43 : decode cX8_init 43 = .ok (.putfield 21, 3) := by decide +kernel
theorem dX8_init_46 : decode cX8_init 46 = .ok (.aload_n 0, 1) := by decide +kernel
theorem dX8_init_47 : decode cX8_init 47 = .ok (.new 9, 3) := by decide +kernel
theorem dX8_init_50 : decode cX8_init 50 = .ok (.dup, 1) := by decide +kernel
theorem dX8_init_51 : decode cX8_init 51 = .ok (.sipush 500, 3) := by decide +kernel
theorem dX8_init_54 : decode cX8_init 54 = .ok (.invokespecial 11, 3) := by decide +kernel
theorem dX8_init_57 : decode cX8_init 57 = .ok (.putfield 24, 3) := by decide +kernel
theorem dX8_init_60 : decode cX8_init 60 = .ok (.aload_n 0, 1) := by decide +kernel
theorem dX8_init_61 : decode cX8_init 61 = .ok (.new 27, 3) := by decide +kernel
theorem dX8_init_64 : decode cX8_init 64 = .ok (.dup, 1) := by decide +kernel
theorem dX8_init_65 : decode cX8_init 65 = .ok (.invokespecial 29, 3) := by decide +kernel
theorem dX8_init_68 : decode cX8_init 68 = .ok (.putfield 30, 3) := by decide +kernel
theorem dX8_init_71 : decode cX8_init 71 = .ok (.aload_n 0, 1) := by decide +kernel
theorem dX8_init_72 : decode cX8_init 72 = .ok (.new 34, 3) := by decide +kernel
theorem dX8_init_75 : decode cX8_init 75 = .ok (.dup, 1) := by decide +kernel
theorem dX8_init_76 : decode cX8_init 76 = .ok (.invokespecial 36, 3) := by decide +kernel
theorem dX8_init_79 : decode cX8_init 79 = .ok (.putfield 37, 3) := by decide +kernel
theorem dX8_init_82 : decode cX8_init 82 = .ok (.aload_n 0, 1) := by decide +kernel
theorem dX8_init_83 : decode cX8_init 83 = .ok (.new 41, 3) := by decide +kernel
theorem dX8_init_86 : decode cX8_init 86 = .ok (.dup, 1) := by decide +kernel
theorem dX8_init_87 : decode cX8_init 87 = .ok (.aload_n 0, 1) := by decide +kernel
theorem dX8_init_88 : decode cX8_init 88 = .ok (.getfield 14, 3) := by decide +kernel
theorem dX8_init_91 : decode cX8_init 91 = .ok (.aload_n 0, 1) := by decide +kernel
theorem dX8_init_92 : decode cX8_init 92 = .ok (.getfield 30, 3) := by decide +kernel
theorem dX8_init_95 : decode cX8_init 95 = .ok (.invokespecial 43, 3) := by decide +kernel
theorem dX8_init_98 : decode cX8_init 98 = .ok (.putfield 46, 3) := by decide +kernel
theorem dX8_init_101 : decode cX8_init 101 = .ok (.aload_n 0, 1) := by decide +kernel
theorem dX8_init_102 : decode cX8_init 102 = .ok (.new 50, 3) := by decide +kernel
theorem dX8_init_105 : decode cX8_init 105 = .ok (.dup, 1) := by decide +kernel
theorem dX8_init_106 : decode cX8_init 106 = .ok (.aload_n 0, 1) := by decide +kernel
theorem dX8_init_107 : decode cX8_init 107 = .ok (.getfield 14, 3) := by decide +kernel
theorem dX8_init_110 : decode cX8_init 110 = .ok (.aload_n 0, 1) := by decide +kernel
theorem dX8_init_111 : decode cX8_init 111 = .ok (.getfield 30, 3) := by decide +kernel
theorem dX8_init_114 : decode cX8_init 114 = .ok (.aload_n 0, 1) := by decide +kernel
theorem dX8_init_115 : decode cX8_init 115 = .ok (.getfield 37, 3) := by decide +kernel
theorem dX8_init_118 : decode cX8_init 118 = .ok (.aload_n 0, 1) := by decide +kernel
theorem dX8_init_119 : decode cX8_init 119 = .ok (.getfield 46, 3) := by decide +kernel
theorem dX8_init_122 : decode cX8_init 122 = .ok (.invokespecial 52, 3) := by decide +kernel
theorem dX8_init_125 : decode cX8_init 125 = .ok (.putfield 55, 3) := by decide +kernel
theorem dX8_init_128 : decode cX8_init 128 = .ok (.aload_n 0, 1) := by decide +kernel
theorem dX8_init_129 : decode cX8_init 129 = .ok (.new 59, 3) := by decide +kernel
theorem dX8_init_132 : decode cX8_init 132 = .ok (.dup, 1) := by decide +kernel
theorem dX8_init_133 : decode cX8_init 133 = .ok (.invokespecial 61, 3) := by decide +kernel
theorem dX8_init_136 : decode cX8_init 136 = .ok (.putfield 62, 3) := by decide +kernel
theorem dX8_init_139 : decode cX8_init 139 = .ok (.aload_n 0, 1) := by decide +kernel
theorem dX8_init_140 : decode cX8_init 140 = .ok (.new 66, 3) := by decide +kernel
theorem dX8_init_143 : decode cX8_init 143 = .ok (.dup, 1) := by decide +kernel
theorem dX8_init_144 : decode cX8_init 144 = .ok (.invokespecial 68, 3) := by decide +kernel
theorem dX8_init_147 : decode cX8_init 147 = .ok (.putfield 69, 3) := by decide +kernel
theorem dX8_init_150 : decode cX8_init 150 = .ok (.aload_n 0, 1) := by decide +kernel
theorem dX8_init_151 : decode cX8_init 151 = .ok (.new 73, 3) := by decide +kernel
theorem dX8_init_154 : decode cX8_init 154 = .ok (.dup, 1) := by decide +kernel
theorem dX8_init_155 : decode cX8_init 155 = .ok (.aload_n 0, 1) := by decide +kernel
theorem dX8_init_156 : decode cX8_init 156 = .ok (.getfield 18, 3) := by decide +kernel
theorem dX8_init_159 : decode cX8_init 159 = .ok (.aload_n 0, 1) := by decide +kernel
theorem dX8_init_160 : decode cX8_init 160 = .ok (.getfield 30, 3) := by decide +kernel
theorem dX8_init_163 : decode cX8_init 163 = .ok (.aload_n 0, 1) := by decide +kernel
theorem dX8_init_164 : decode cX8_init 164 = .ok (.getfield 24, 3) := by decide +kernel
theorem dX8_init_167 : decode cX8_init 167 = .ok (.invokespecial 75, 3) := by decide +kernel
theorem dX8_init_170 : decode cX8_init 170 = .ok (.putfield 78, 3) := by decide +kernel
theorem dX8_init_173 : decode cX8_init 173 = .ok (.aload_n 0, 1) := by decide +kernel
theorem dX8_init_174 : decode cX8_init 174 = .ok (.iconst 1, 1) := by decide +kernel
theorem dX8_init_175 : decode cX8_init 175 = .ok (.putfield 82, 3) := by decide +kernel
theorem dX8_init_178 : decode cX8_init 178 = .ok (.aload_n 0, 1) := by decide +kernel
theorem dX8_init_179 : decode cX8_init 179 = .ok (.iconst 1, 1) := by decide +kernel
theorem dX8_init_180 : decode cX8_init 180 = .ok (.putfield 86, 3) := by decide +kernel
theorem dX8_init_183 : decode cX8_init 183 = .ok (.aload_n 0, 1) := by decide +kernel
theorem dX8_init_184 : decode cX8_init 184 = .ok (.iconst 0, 1) := by decide +kernel
theorem dX8_init_185 : decode cX8_init 185 = .ok (.putfield 89, 3) := by decide +kernel
theorem dX8_init_188 : decode cX8_init 188 = .ok (.return_, 1) := by decide +kernel
set_option maxRecDepth 20000 in
theorem ggX8_type_X1_addLowest : GoodIn wsX8_type wsX1_addLowest := goodIn_r _ [6, 7, 8, 9, 10, 11, 5, 12, 34, 35] (by decide +kernel) (by decide +kernel)
set_option maxRecDepth 20000 in
theorem gX8_type_X1_addLowest : GoodIn wsX8_type (wsV RX8 92 RX1 yX1_addLowest wsX1_addLowest) := goodIn_app (goodIn_of _ (by decide +kernel)) ggX8_type_X1_addLowest
set_option maxRecDepth 20000 in
theorem ggX8_type_X8_forgetMatches : GoodIn wsX8_type wsX8_forgetMatches := goodIn_r _ [17, 18, 19, 20, 21, 22, 23, 24, 25, 26, 27, 28, 29, 30, 31, 32, 33] (by decide +kernel) (by decide +kernel)
set_option maxRecDepth 20000 in
theorem gX8_type_X8_forgetMatches : GoodIn wsX8_type (wsV RX8 96 RX8 yX8_forgetMatches wsX8_forgetMatches) := goodIn_app (goodIn_of _ (by decide +kernel)) ggX8_type_X8_forgetMatches
theorem dX8_type_0 : decode cX8_type 0 = .ok (.aload_n 0, 1) := by decide +kernel
theorem dX8_type_1 : decode cX8_type 1 = .ok (.getfield 14, 3) := by decide +kernel
theorem dX8_type_4 : decode cX8_type 4 = .ok (.lload_n 1, 1) := by decide +kernel
theorem dX8_type_5 : decode cX8_type 5 = .ok (.iload_n 3, 1) := by decide +kernel
theorem dX8_type_6 : decode cX8_type 6 = .ok (.invokevirtual 92, 3) := by decide +kernel
theorem dX8_type_9 : decode cX8_type 9 = .ok (.istore 4, 2) := by decide +kernel
theorem dX8_type_11 : decode cX8_type 11 = .ok (.iload 4, 2) := by decide +kernel
theorem dX8_type_13 : decode cX8_type 13 = .ok (.iconst (-1), 1) := by decide +kernel
theorem dX8_type_14 : decode cX8_type 14 = .ok (.if_icmp .eq 7, 3) := by decide +kernel
theorem dX8_type_17 : decode cX8_type 17 = .ok (.aload_n 0, 1) := by decide +kernel
theorem dX8_type_18 : decode cX8_type 18 = .ok (.invokevirtual 96, 3) := by decide +kernel
theorem dX8_type_21 : decode cX8_type 21 = .ok (.iload 4, 2) := by decide +kernel
theorem dX8_type_23 : decode cX8_type 23 = .ok (.ireturn, 1) := by decide +kernel
set_option maxRecDepth 20000 in
theorem ggX8_fill_X1_addTimes : GoodIn wsX8_fill wsX1_addTimes := goodIn_r _ [6, 7, 8, 9, 10, 11, 5, 12, 34, 35] (by decide +kernel) (by decide +kernel)
set_option maxRecDepth 20000 in
theorem gX8_fill_X1_addTimes : GoodIn wsX8_fill (wsV RX8 99 RX1 yX1_addTimes wsX1_addTimes) := goodIn_app (goodIn_of _ (by decide +kernel)) ggX8_fill_X1_addTimes
set_option maxRecDepth 20000 in
theorem ggX8_fill_X8_forgetMatches : GoodIn wsX8_fill wsX8_forgetMatches := goodIn_r _ [17, 18, 19, 20, 21, 22, 23, 24, 25, 26, 27, 28, 29, 30, 31, 32, 33] (by decide +kernel) (by decide +kernel)
set_option maxRecDepth 20000 in
theorem gX8_fill_X8_forgetMatches : GoodIn wsX8_fill (wsV RX8 96 RX8 yX8_forgetMatches wsX8_forgetMatches) := goodIn_app (goodIn_of _ (by decide +kernel)) ggX8_fill_X8_forgetMatches
theorem dX8_fill_0 : decode cX8_fill 0 = .ok (.aload_n 0, 1) := by decide +kernel
theorem dX8_fill_1 : decode cX8_fill 1 = .ok (.getfield 14, 3) := by decide +kernel
theorem dX8_fill_4 : decode cX8_fill 4 = .ok (.iload_n 1, 1) := by decide +kernel
theorem dX8_fill_5 : decode cX8_fill 5 = .ok (.iload_n 2, 1) := by decide +kernel
theorem dX8_fill_6 : decode cX8_fill 6 = .ok (.invokevirtual 99, 3) := by decide +kernel
theorem dX8_fill_9 : decode cX8_fill 9 = .ok (.istore_n 3, 1) := by decide +kernel
theorem dX8_fill_10 : decode cX8_fill 10 = .ok (.iload_n 3, 1) := by decide +kernel
theorem dX8_fill_11 : decode cX8_fill 11 = .ok (.iconst (-1), 1) := by decide +kernel
theorem dX8_fill_12 : decode cX8_fill 12 = .ok (.if_icmp .eq 7, 3) := by decide +kernel
theorem dX8_fill_15 : decode cX8_fill 15 = .ok (.aload_n 0, 1) := by decide +kernel
theorem dX8_fill_16 : decode cX8_fill 16 = .ok (.invokevirtual 96, 3) := by decide +kernel
theorem dX8_fill_19 : decode cX8_fill 19 = .ok (.iload_n 3, 1) := by decide +kernel
theorem dX8_fill_20 : decode cX8_fill 20 = .ok (.ireturn, 1) := by decide +kernel
set_option maxRecDepth 20000 in
theorem ggX8_clear_X1_size : GoodIn wsX8_clear wsX1_size := goodIn_r _ [6, 7, 33, 34] (by decide +kernel) (by decide +kernel)
set_option maxRecDepth 20000 in
theorem gX8_clear_X1_size : GoodIn wsX8_clear (wsV RX8 103 RX1 yX1_size wsX1_size) := goodIn_app (goodIn_of _ (by decide +kernel)) ggX8_clear_X1_size
set_option maxRecDepth 20000 in
theorem ggX8_clear_X1_empty : GoodIn wsX8_clear wsX1_empty := goodIn_r _ [11, 7, 33, 34] (by decide +kernel) (by decide +kernel)
set_option maxRecDepth 20000 in
theorem gX8_clear_X1_empty : GoodIn wsX8_clear (wsV RX8 107 RX1 yX1_empty wsX1_empty) := goodIn_app (goodIn_of _ (by decide +kernel)) ggX8_clear_X1_empty
set_option maxRecDepth 20000 in
theorem ggX8_clear_X8_forgetMatches : GoodIn wsX8_clear wsX8_forgetMatches := goodIn_r _ [16, 17, 18, 19, 20, 21, 22, 23, 24, 25, 26, 27, 28, 29, 30, 31, 32] (by decide +kernel) (by decide +kernel)
set_option maxRecDepth 20000 in
theorem gX8_clear_X8_forgetMatches : GoodIn wsX8_clear (wsV RX8 96 RX8 yX8_forgetMatches wsX8_forgetMatches) := goodIn_app (goodIn_of _ (by decide +kernel)) ggX8_clear_X8_forgetMatches
theorem dX8_clear_0 : decode cX8_clear 0 = .ok (.aload_n 0, 1) := by decide +kernel
theorem dX8_clear_1 : decode cX8_clear 1 = .ok (.getfield 14, 3) := by decide +kernel
theorem dX8_clear_4 : decode cX8_clear 4 = .ok (.invokevirtual 103, 3) := by decide +kernel
theorem dX8_clear_7 : decode cX8_clear 7 = .ok (.istore_n 1, 1) := by decide +kernel
theorem dX8_clear_8 : decode cX8_clear 8 = .ok (.aload_n 0, 1) := by decide +kernel
theorem dX8_clear_9 : decode cX8_clear 9 = .ok (.getfield 14, 3) := by decide +kernel
theorem dX8_clear_12 : decode cX8_clear 12 = .ok (.invokevirtual 107, 3) := by decide +kernel
theorem dX8_clear_15 : decode cX8_clear 15 = .ok (.aload_n 0, 1) := by decide +kernel
theorem dX8_clear_16 : decode cX8_clear 16 = .ok (.invokevirtual 96, 3) := by decide +kernel
theorem dX8_clear_19 : decode cX8_clear 19 = .ok (.iload_n 1, 1) := by decide +kernel
theorem dX8_clear_20 : decode cX8_clear 20 = .ok (.ireturn, 1) := by decide +kernel
set_option maxRecDepth 20000 in
theorem ggX8_limits_X5_change : GoodIn wsX8_limits wsX5_change := goodIn_r _ [6, 7, 8, 9, 31, 32, 33] (by decide +kernel) (by decide +kernel)
set_option maxRecDepth 20000 in
theorem gX8_limits_X5_change : GoodIn wsX8_limits (wsV RX8 110 RX5 yX5_change wsX5_change) := goodIn_app (goodIn_of _ (by decide +kernel)) ggX8_limits_X5_change
set_option maxRecDepth 20000 in
theorem ggX8_limits_X8_forgetMatches : GoodIn wsX8_limits wsX8_forgetMatches := goodIn_r _ [14, 15, 16, 17, 18, 19, 20, 21, 22, 23, 24, 25, 26, 27, 28, 29, 30] (by decide +kernel) (by decide +kernel)
set_option maxRecDepth 20000 in
theorem gX8_limits_X8_forgetMatches : GoodIn wsX8_limits (wsV RX8 96 RX8 yX8_forgetMatches wsX8_forgetMatches) := goodIn_app (goodIn_of _ (by decide +kernel)) ggX8_limits_X8_forgetMatches
theorem dX8_limits_0 : decode cX8_limits 0 = .ok (.aload_n 0, 1) := by decide +kernel
theorem dX8_limits_1 : decode cX8_limits 1 = .ok (.getfield 30, 3) := by decide +kernel
theorem dX8_limits_4 : decode cX8_limits 4 = .ok (.iload_n 1, 1) := by decide +kernel
theorem dX8_limits_5 : decode cX8_limits 5 = .ok (.iload_n 2, 1) := by decide +kernel
theorem dX8_limits_6 : decode cX8_limits 6 = .ok (.iload_n 3, 1) := by decide +kernel
theorem dX8_limits_7 : decode cX8_limits 7 = .ok (.invokevirtual 110, 3) := by decide +kernel
theorem dX8_limits_10 : decode cX8_limits 10 = .ok (.ifCond .ne 5, 3) := by decide +kernel
theorem dX8_limits_13 : decode cX8_limits 13 = .ok (.iconst 0, 1) := by decide +kernel
theorem dX8_limits_14 : decode cX8_limits 14 = .ok (.ireturn, 1) := by decide +kernel
theorem dX8_limits_15 : decode cX8_limits 15 = .ok (.aload_n 0, 1) := by decide +kernel
theorem dX8_limits_16 : decode cX8_limits 16 = .ok (.invokevirtual 96, 3) := by decide +kernel
theorem dX8_limits_19 : decode cX8_limits 19 = .ok (.iconst 1, 1) := by decide +kernel
theorem dX8_limits_20 : decode cX8_limits 20 = .ok (.ireturn, 1) := by decide +kernel
set_option maxRecDepth 20000 in
theorem ggX8_price_X7_change : GoodIn wsX8_price wsX7_change := goodIn_r _ [7, 8, 9, 10, 6, 11, 12, 13, 14, 15, 30, 31, 32, 33] (by decide +kernel) (by decide +kernel)
set_option maxRecDepth 20000 in
theorem gX8_price_X7_change : GoodIn wsX8_price (wsV RX8 114 RX7 yX7_change wsX7_change) := goodIn_app (goodIn_of _ (by decide +kernel)) ggX8_price_X7_change
theorem dX8_price_0 : decode cX8_price 0 = .ok (.aload_n 0, 1) := by decide +kernel
theorem dX8_price_1 : decode cX8_price 1 = .ok (.getfield 37, 3) := by decide +kernel
theorem dX8_price_4 : decode cX8_price 4 = .ok (.iload_n 1, 1) := by decide +kernel
theorem dX8_price_5 : decode cX8_price 5 = .ok (.iload_n 2, 1) := by decide +kernel
theorem dX8_price_6 : decode cX8_price 6 = .ok (.iload_n 3, 1) := by decide +kernel
theorem dX8_price_7 : decode cX8_price 7 = .ok (.invokevirtual 114, 3) := by decide +kernel
theorem dX8_price_10 : decode cX8_price 10 = .ok (.ifCond .ne 5, 3) := by decide +kernel
theorem dX8_price_13 : decode cX8_price 13 = .ok (.iconst 0, 1) := by decide +kernel
theorem dX8_price_14 : decode cX8_price 14 = .ok (.ireturn, 1) := by decide +kernel
theorem dX8_price_15 : decode cX8_price 15 = .ok (.aload_n 0, 1) := by decide +kernel
theorem dX8_price_16 : decode cX8_price 16 = .ok (.iconst 1, 1) := by decide +kernel
theorem dX8_price_17 : decode cX8_price 17 = .ok (.putfield 86, 3) := by decide +kernel
theorem dX8_price_20 : decode cX8_price 20 = .ok (.iconst 1, 1) := by decide +kernel
theorem dX8_price_21 : decode cX8_price 21 = .ok (.ireturn, 1) := by decide +kernel
set_option maxRecDepth 20000 in
theorem ggX8_parse_X8_renewCosts : GoodIn wsX8_parse wsX8_renewCosts := goodIn_r _ [8, 9, 10, 11, 12, 13, 7, 14, 15, 16, 17, 18, 19, 20, 21, 22, 23, 24, 25, 26, 27, 28, 29, 30, 31, 32, 33, 34, 35, 36, 37, 38, 39, 40, 41, 42, 43, 44, 45, 46, 47, 48, 49, 50, 51, 52, 53, 54, 55, 56, 57, 58, 59, 60, 61, 62, 63, 64, 65, 66, 67, 68, 69, 70, 71, 72, 73, 74, 75, 76, 77, 78, 79, 80, 81, 82, 83, 84, 85, 86, 87, 88, 89, 90, 91, 92, 93, 94, 95, 96, 97, 98, 99, 100, 101, 102, 103, 104, 105, 106, 107, 108, 109, 110, 111, 112, 113, 114, 115, 116, 117, 118, 119, 120, 121, 122, 123, 124, 125, 126, 127, 128, 129, 219, 220, 221, 222, 223, 224, 225, 226, 227, 228, 229, 230, 231, 232, 233, 234, 235, 236, 237, 238, 239, 240, 241, 242, 243, 244, 245, 246, 247, 248, 249, 250, 251, 252, 253, 254, 255, 256, 257] (by decide +kernel) (by decide +kernel)
set_option maxRecDepth 20000 in
theorem gX8_parse_X8_renewCosts : GoodIn wsX8_parse (wsV RX8 115 RX8 yX8_renewCosts wsX8_renewCosts) := goodIn_app (goodIn_of _ (by decide +kernel)) ggX8_parse_X8_renewCosts
set_option maxRecDepth 20000 in
theorem ggX8_parse_X8_renewMatches : GoodIn wsX8_parse wsX8_renewMatches := goodIn_r _ [14, 15, 16, 17, 18, 19, 20, 21, 22, 23, 24, 25, 26, 27, 28, 29, 30, 31, 32, 33, 34, 35, 36, 37, 38, 39, 40, 41, 42, 43, 44, 45, 46, 47, 48, 49, 50, 51, 52, 53, 54, 55, 56, 57, 58, 59, 60, 61, 62, 63, 64, 65, 66, 67, 68, 69, 219, 220, 221, 222, 223, 224, 225, 226, 227, 228, 229, 230, 231, 232, 233, 234, 235, 236, 237, 238, 239, 240, 241, 242, 243, 244] (by decide +kernel) (by decide +kernel)
set_option maxRecDepth 20000 in
theorem gX8_parse_X8_renewMatches : GoodIn wsX8_parse (wsV RX8 118 RX8 yX8_renewMatches wsX8_renewMatches) := goodIn_app (goodIn_of _ (by decide +kernel)) ggX8_parse_X8_renewMatches
set_option maxRecDepth 20000 in
theorem ggX8_parse_X5_least : GoodIn wsX8_parse wsX5_least := goodIn_r _ [47, 48, 242, 243, 244] (by decide +kernel) (by decide +kernel)
set_option maxRecDepth 20000 in
theorem gX8_parse_X5_least : GoodIn wsX8_parse (wsV RX8 121 RX5 yX5_least wsX5_least) := goodIn_app (goodIn_of _ (by decide +kernel)) ggX8_parse_X5_least
set_option maxRecDepth 20000 in
theorem ggX8_parse_X6_begin : GoodIn wsX8_parse wsX6_begin := goodIn_r _ [135, 136, 137, 138, 139, 140, 141, 142, 143, 144, 145, 30, 146, 32, 124, 147, 54, 40, 55, 148, 149, 150, 151, 258, 259, 260, 261, 262, 263, 264, 265, 266, 267, 240, 241] (by decide +kernel) (by decide +kernel)
set_option maxRecDepth 20000 in
theorem gX8_parse_X6_begin : GoodIn wsX8_parse (wsV RX8 124 RX6 yX6_begin wsX6_begin) := goodIn_app (goodIn_of _ (by decide +kernel)) ggX8_parse_X6_begin
set_option maxRecDepth 20000 in
theorem ggX8_parse_X1_size : GoodIn wsX8_parse wsX1_size := goodIn_r _ [31, 32, 240, 241] (by decide +kernel) (by decide +kernel)
set_option maxRecDepth 20000 in
theorem gX8_parse_X1_size : GoodIn wsX8_parse (wsV RX8 103 RX1 yX1_size wsX1_size) := goodIn_app (goodIn_of _ (by decide +kernel)) ggX8_parse_X1_size
set_option maxRecDepth 20000 in
theorem ggX8_parse_X8_addStep : GoodIn wsX8_parse wsX8_addStep := goodIn_r _ [156, 10, 1, 157, 2, 16, 158, 159, 160, 73, 161, 79, 101, 92, 28, 29, 30, 31, 32, 162, 163, 164, 7, 165, 166, 104, 105, 20, 106, 23, 24, 27, 167, 121, 122, 123, 124, 168, 126, 127, 85, 128, 129, 169, 170, 171, 134, 172, 141, 173, 174, 175, 176, 138, 177, 178, 179, 140, 180, 181, 182, 183, 77, 102, 97, 184, 115, 116, 117, 118, 119, 89, 54, 40, 55, 111, 112, 113, 114, 42, 185, 186, 187, 188, 49, 50, 51, 52, 37, 53, 56, 57, 58, 46, 59, 60, 189, 190, 191, 192, 193, 194, 195, 196, 25, 197, 198, 199, 200, 201, 83, 84, 86, 87, 88, 90, 91, 202, 203, 204, 205, 206, 139, 207, 208, 209, 210, 211, 212, 213, 214, 137, 219, 220, 221, 222, 223, 224, 225, 226, 227, 228, 229, 230, 231, 232, 245, 246, 247, 248, 249, 250, 251, 252, 253, 240, 241, 233, 234, 235, 236, 237, 238, 239, 254, 255, 256, 257, 258, 259, 260, 261, 262, 263, 264, 265, 266, 267, 242, 243, 244] (by decide +kernel) (by decide +kernel)
set_option maxRecDepth 20000 in
theorem gX8_parse_X8_addStep : GoodIn wsX8_parse (wsV RX8 128 RX8 yX8_addStep wsX8_addStep) := goodIn_app (goodIn_of _ (by decide +kernel)) ggX8_parse_X8_addStep
set_option maxRecDepth 20000 in
theorem ggX8_parse_X6_count : GoodIn wsX8_parse wsX6_count := goodIn_r _ [218, 138, 258, 259, 260, 261, 262, 263, 264, 265, 266, 267] (by decide +kernel) (by decide +kernel)
set_option maxRecDepth 20000 in
theorem gX8_parse_X6_count : GoodIn wsX8_parse (wsV RX8 131 RX6 yX6_count wsX6_count) := goodIn_app (goodIn_of _ (by decide +kernel)) ggX8_parse_X6_count
theorem dX8_parse_0 : decode cX8_parse 0 = .ok (.iload_n 1, 1) := by decide +kernel
theorem dX8_parse_1 : decode cX8_parse 1 = .ok (.ifCond .eq 15, 3) := by decide +kernel
theorem dX8_parse_4 : decode cX8_parse 4 = .ok (.iload_n 1, 1) := by decide +kernel
theorem dX8_parse_5 : decode cX8_parse 5 = .ok (.iconst 1, 1) := by decide +kernel
theorem dX8_parse_6 : decode cX8_parse 6 = .ok (.if_icmp .eq 10, 3) := by decide +kernel
theorem dX8_parse_9 : decode cX8_parse 9 = .ok (.iload_n 1, 1) := by decide +kernel
theorem dX8_parse_10 : decode cX8_parse 10 = .ok (.iconst 2, 1) := by decide +kernel
theorem dX8_parse_11 : decode cX8_parse 11 = .ok (.if_icmp .eq 5, 3) := by decide +kernel
theorem dX8_parse_14 : decode cX8_parse 14 = .ok (.iconst (-1), 1) := by decide +kernel
theorem dX8_parse_15 : decode cX8_parse 15 = .ok (.ireturn, 1) := by decide +kernel
theorem dX8_parse_16 : decode cX8_parse 16 = .ok (.iload_n 1, 1) := by decide +kernel
theorem dX8_parse_17 : decode cX8_parse 17 = .ok (.ifCond .ne 10, 3) := by decide +kernel
theorem dX8_parse_20 : decode cX8_parse 20 = .ok (.aload_n 0, 1) := by decide +kernel
theorem dX8_parse_21 : decode cX8_parse 21 = .ok (.invokevirtual 115, 3) := by decide +kernel
theorem dX8_parse_24 : decode cX8_parse 24 = .ok (.goto 7, 3) := by decide +kernel
theorem dX8_parse_27 : decode cX8_parse 27 = .ok (.aload_n 0, 1) := by decide +kernel
theorem dX8_parse_28 : decode cX8_parse 28 = .ok (.invokevirtual 118, 3) := by decide +kernel
theorem dX8_parse_31 : decode cX8_parse 31 = .ok (.aload_n 0, 1) := by decide +kernel
theorem dX8_parse_32 : decode cX8_parse 32 = .ok (.getfield 62, 3) := by decide +kernel
theorem dX8_parse_35 : decode cX8_parse 35 = .ok (.aload_n 0, 1) := by decide +kernel
theorem dX8_parse_36 : decode cX8_parse 36 = .ok (.getfield 14, 3) := by decide +kernel
theorem dX8_parse_39 : decode cX8_parse 39 = .ok (.aload_n 0, 1) := by decide +kernel
theorem dX8_parse_40 : decode cX8_parse 40 = .ok (.getfield 30, 3) := by decide +kernel
theorem dX8_parse_43 : decode cX8_parse 43 = .ok (.invokevirtual 121, 3) := by decide +kernel
theorem dX8_parse_46 : decode cX8_parse 46 = .ok (.invokevirtual 124, 3) := by decide +kernel
theorem dX8_parse_49 : decode cX8_parse 49 = .ok (.iconst 0, 1) := by decide +kernel
theorem dX8_parse_50 : decode cX8_parse 50 = .ok (.istore_n 2, 1) := by decide +kernel
theorem dX8_parse_51 : decode cX8_parse 51 = .ok (.iconst 0, 1) := by decide +kernel
theorem dX8_parse_52 : decode cX8_parse 52 = .ok (.istore_n 3, 1) := by decide +kernel
theorem dX8_parse_53 : decode cX8_parse 53 = .ok (.iload_n 3, 1) := by decide +kernel
theorem dX8_parse_54 : decode cX8_parse 54 = .ok (.sipush 500, 3) := by decide +kernel
theorem dX8_parse_57 : decode cX8_parse 57 = .ok (.if_icmp .ge 29, 3) := by decide +kernel
theorem dX8_parse_60 : decode cX8_parse 60 = .ok (.iload_n 2, 1) := by decide +kernel
theorem dX8_parse_61 : decode cX8_parse 61 = .ok (.aload_n 0, 1) := by decide +kernel
theorem dX8_parse_62 : decode cX8_parse 62 = .ok (.getfield 14, 3) := by decide +kernel
theorem dX8_parse_65 : decode cX8_parse 65 = .ok (.invokevirtual 103, 3) := by decide +kernel
theorem dX8_parse_68 : decode cX8_parse 68 = .ok (.if_icmp .ge 18, 3) := by decide +kernel
theorem dX8_parse_71 : decode cX8_parse 71 = .ok (.iload_n 2, 1) := by decide +kernel
theorem dX8_parse_72 : decode cX8_parse 72 = .ok (.aload_n 0, 1) := by decide +kernel
theorem dX8_parse_73 : decode cX8_parse 73 = .ok (.iload_n 1, 1) := by decide +kernel
theorem dX8_parse_74 : decode cX8_parse 74 = .ok (.iload_n 2, 1) := by decide +kernel
theorem dX8_parse_75 : decode cX8_parse 75 = .ok (.invokevirtual 128, 3) := by decide +kernel
theorem dX8_parse_78 : decode cX8_parse 78 = .ok (.iadd, 1) := by decide +kernel
theorem dX8_parse_79 : decode cX8_parse 79 = .ok (.istore_n 2, 1) := by decide +kernel
theorem dX8_parse_80 : decode cX8_parse 80 = .ok (.iinc 3 1, 3) := by decide +kernel
theorem dX8_parse_83 : decode cX8_parse 83 = .ok (.goto (-30), 3) := by decide +kernel
theorem dX8_parse_86 : decode cX8_parse 86 = .ok (.aload_n 0, 1) := by decide +kernel
theorem dX8_parse_87 : decode cX8_parse 87 = .ok (.getfield 62, 3) := by decide +kernel
theorem dX8_parse_90 : decode cX8_parse 90 = .ok (.invokevirtual 131, 3) := by decide +kernel
theorem dX8_parse_93 : decode cX8_parse 93 = .ok (.ireturn, 1) := by decide +kernel
set_option maxRecDepth 20000 in
theorem ggX8_step_X6_has : GoodIn wsX8_step wsX6_has := goodIn_r _ [6, 7, 50, 51, 52, 53, 54, 55, 56, 57, 58, 59] (by decide +kernel) (by decide +kernel)
set_option maxRecDepth 20000 in
theorem gX8_step_X6_has : GoodIn wsX8_step (wsV RX8 134 RX6 yX6_has wsX6_has) := goodIn_app (goodIn_of _ (by decide +kernel)) ggX8_step_X6_has
set_option maxRecDepth 20000 in
theorem ggX8_step_X6_placeOf : GoodIn wsX8_step wsX6_placeOf := goodIn_r _ [11, 12, 13, 3, 4, 5, 6, 7, 50, 51, 52, 53, 54, 55, 56, 57, 58, 59] (by decide +kernel) (by decide +kernel)
set_option maxRecDepth 20000 in
theorem gX8_step_X6_placeOf : GoodIn wsX8_step (wsV RX8 138 RX6 yX6_placeOf wsX6_placeOf) := goodIn_app (goodIn_of _ (by decide +kernel)) ggX8_step_X6_placeOf
set_option maxRecDepth 20000 in
theorem ggX8_step_X6_lengthOf : GoodIn wsX8_step wsX6_lengthOf := goodIn_r _ [17, 18, 13, 3, 4, 5, 6, 7, 50, 51, 52, 53, 54, 55, 56, 57, 58, 59] (by decide +kernel) (by decide +kernel)
set_option maxRecDepth 20000 in
theorem gX8_step_X6_lengthOf : GoodIn wsX8_step (wsV RX8 142 RX6 yX6_lengthOf wsX6_lengthOf) := goodIn_app (goodIn_of _ (by decide +kernel)) ggX8_step_X6_lengthOf
set_option maxRecDepth 20000 in
theorem ggX8_step_X6_distanceOf : GoodIn wsX8_step wsX6_distanceOf := goodIn_r _ [22, 23, 13, 3, 4, 5, 6, 7, 50, 51, 52, 53, 54, 55, 56, 57, 58, 59] (by decide +kernel) (by decide +kernel)
set_option maxRecDepth 20000 in
theorem gX8_step_X6_distanceOf : GoodIn wsX8_step (wsV RX8 145 RX6 yX6_distanceOf wsX6_distanceOf) := goodIn_app (goodIn_of _ (by decide +kernel)) ggX8_step_X6_distanceOf
set_option maxRecDepth 20000 in
theorem ggX8_step_X6_byteOf : GoodIn wsX8_step wsX6_byteOf := goodIn_r _ [27, 23, 28, 12, 13, 3, 4, 5, 6, 7, 29, 30, 31, 32, 33, 34, 35, 50, 51, 52, 53, 54, 55, 56, 57, 58, 59, 60, 61] (by decide +kernel) (by decide +kernel)
set_option maxRecDepth 20000 in
theorem gX8_step_X6_byteOf : GoodIn wsX8_step (wsV RX8 148 RX6 yX6_byteOf wsX6_byteOf) := goodIn_app (goodIn_of _ (by decide +kernel)) ggX8_step_X6_byteOf
theorem dX8_step_0 : decode cX8_step 0 = .ok (.aload_n 0, 1) := by decide +kernel
theorem dX8_step_1 : decode cX8_step 1 = .ok (.getfield 62, 3) := by decide +kernel
theorem dX8_step_4 : decode cX8_step 4 = .ok (.iload_n 1, 1) := by decide +kernel
theorem dX8_step_5 : decode cX8_step 5 = .ok (.invokevirtual 134, 3) := by decide +kernel
theorem dX8_step_8 : decode cX8_step 8 = .ok (.ifCond .ne 5, 3) := by decide +kernel
theorem dX8_step_11 : decode cX8_step 11 = .ok (.iconst (-1), 1) := by decide +kernel
theorem dX8_step_12 : decode cX8_step 12 = .ok (.ireturn, 1) := by decide +kernel
theorem dX8_step_13 : decode cX8_step 13 = .ok (.iload_n 2, 1) := by decide +kernel
theorem dX8_step_14 : decode cX8_step 14 = .ok (.tableswitch 66 0 3 #[30, 39, 48, 57], 30) := by decide +kernel
theorem dX8_step_44 : decode cX8_step 44 = .ok (.aload_n 0, 1) := by decide +kernel
theorem dX8_step_45 : decode cX8_step 45 = .ok (.getfield 62, 3) := by decide +kernel
theorem dX8_step_48 : decode cX8_step 48 = .ok (.iload_n 1, 1) := by decide +kernel
theorem dX8_step_49 : decode cX8_step 49 = .ok (.invokevirtual 138, 3) := by decide +kernel
theorem dX8_step_52 : decode cX8_step 52 = .ok (.ireturn, 1) := by decide +kernel
theorem dX8_step_53 : decode cX8_step 53 = .ok (.aload_n 0, 1) := by decide +kernel
theorem dX8_step_54 : decode cX8_step 54 = .ok (.getfield 62, 3) := by decide +kernel
theorem dX8_step_57 : decode cX8_step 57 = .ok (.iload_n 1, 1) := by decide +kernel
theorem dX8_step_58 : decode cX8_step 58 = .ok (.invokevirtual 142, 3) := by decide +kernel
theorem dX8_step_61 : decode cX8_step 61 = .ok (.ireturn, 1) := by decide +kernel
theorem dX8_step_62 : decode cX8_step 62 = .ok (.aload_n 0, 1) := by decide +kernel
theorem dX8_step_63 : decode cX8_step 63 = .ok (.getfield 62, 3) := by decide +kernel
theorem dX8_step_66 : decode cX8_step 66 = .ok (.iload_n 1, 1) := by decide +kernel
theorem dX8_step_67 : decode cX8_step 67 = .ok (.invokevirtual 145, 3) := by decide +kernel
theorem dX8_step_70 : decode cX8_step 70 = .ok (.ireturn, 1) := by decide +kernel
theorem dX8_step_71 : decode cX8_step 71 = .ok (.aload_n 0, 1) := by decide +kernel
theorem dX8_step_72 : decode cX8_step 72 = .ok (.getfield 62, 3) := by decide +kernel
theorem dX8_step_75 : decode cX8_step 75 = .ok (.iload_n 1, 1) := by decide +kernel
theorem dX8_step_76 : decode cX8_step 76 = .ok (.invokevirtual 148, 3) := by decide +kernel
theorem dX8_step_79 : decode cX8_step 79 = .ok (.ireturn, 1) := by decide +kernel
theorem dX8_step_80 : decode cX8_step 80 = .ok (.iconst (-1), 1) := by decide +kernel
theorem dX8_step_81 : decode cX8_step 81 = .ok (.ireturn, 1) := by decide +kernel
set_option maxRecDepth 20000 in
theorem ggX8_told_X6_count : GoodIn wsX8_told wsX6_count := goodIn_r _ [6, 7, 48, 49, 50, 51, 52, 53, 54, 55, 56, 57] (by decide +kernel) (by decide +kernel)
set_option maxRecDepth 20000 in
theorem gX8_told_X6_count : GoodIn wsX8_told (wsV RX8 131 RX6 yX6_count wsX6_count) := goodIn_app (goodIn_of _ (by decide +kernel)) ggX8_told_X6_count
set_option maxRecDepth 20000 in
theorem ggX8_told_X6_matchCount : GoodIn wsX8_told wsX6_matchCount := goodIn_r _ [11, 12, 48, 49, 50, 51, 52, 53, 54, 55, 56, 57] (by decide +kernel) (by decide +kernel)
set_option maxRecDepth 20000 in
theorem gX8_told_X6_matchCount : GoodIn wsX8_told (wsV RX8 151 RX6 yX6_matchCount wsX6_matchCount) := goodIn_app (goodIn_of _ (by decide +kernel)) ggX8_told_X6_matchCount
set_option maxRecDepth 20000 in
theorem ggX8_told_X6_wholePrice : GoodIn wsX8_told wsX6_wholePrice := goodIn_r _ [16, 17, 48, 49, 50, 51, 52, 53, 54, 55, 56, 57] (by decide +kernel) (by decide +kernel)
set_option maxRecDepth 20000 in
theorem gX8_told_X6_wholePrice : GoodIn wsX8_told (wsV RX8 154 RX6 yX6_wholePrice wsX6_wholePrice) := goodIn_app (goodIn_of _ (by decide +kernel)) ggX8_told_X6_wholePrice
set_option maxRecDepth 20000 in
theorem ggX8_told_X6_bits : GoodIn wsX8_told wsX6_bits := goodIn_r _ [21, 22, 48, 49, 50, 51, 52, 53, 54, 55, 56, 57] (by decide +kernel) (by decide +kernel)
set_option maxRecDepth 20000 in
theorem gX8_told_X6_bits : GoodIn wsX8_told (wsV RX8 157 RX6 yX6_bits wsX6_bits) := goodIn_app (goodIn_of _ (by decide +kernel)) ggX8_told_X6_bits
set_option maxRecDepth 20000 in
theorem ggX8_told_X6_textSize : GoodIn wsX8_told wsX6_textSize := goodIn_r _ [26, 27, 28, 29, 30, 31, 32, 33, 48, 49, 50, 51, 52, 53, 54, 55, 56, 57, 58, 59] (by decide +kernel) (by decide +kernel)
set_option maxRecDepth 20000 in
theorem gX8_told_X6_textSize : GoodIn wsX8_told (wsV RX8 160 RX6 yX6_textSize wsX6_textSize) := goodIn_app (goodIn_of _ (by decide +kernel)) ggX8_told_X6_textSize
theorem dX8_told_0 : decode cX8_told 0 = .ok (.iload_n 1, 1) := by decide +kernel
theorem dX8_told_1 : decode cX8_told 1 = .ok (.tableswitch 75 0 4 #[35, 43, 51, 59, 67], 35) := by decide +kernel
theorem dX8_told_36 : decode cX8_told 36 = .ok (.aload_n 0, 1) := by decide +kernel
theorem dX8_told_37 : decode cX8_told 37 = .ok (.getfield 62, 3) := by decide +kernel
theorem dX8_told_40 : decode cX8_told 40 = .ok (.invokevirtual 131, 3) := by decide +kernel
theorem dX8_told_43 : decode cX8_told 43 = .ok (.ireturn, 1) := by decide +kernel
theorem dX8_told_44 : decode cX8_told 44 = .ok (.aload_n 0, 1) := by decide +kernel
theorem dX8_told_45 : decode cX8_told 45 = .ok (.getfield 62, 3) := by decide +kernel
theorem dX8_told_48 : decode cX8_told 48 = .ok (.invokevirtual 151, 3) := by decide +kernel
theorem dX8_told_51 : decode cX8_told 51 = .ok (.ireturn, 1) := by decide +kernel
theorem dX8_told_52 : decode cX8_told 52 = .ok (.aload_n 0, 1) := by decide +kernel
theorem dX8_told_53 : decode cX8_told 53 = .ok (.getfield 62, 3) := by decide +kernel
theorem dX8_told_56 : decode cX8_told 56 = .ok (.invokevirtual 154, 3) := by decide +kernel
theorem dX8_told_59 : decode cX8_told 59 = .ok (.ireturn, 1) := by decide +kernel
theorem dX8_told_60 : decode cX8_told 60 = .ok (.aload_n 0, 1) := by decide +kernel
theorem dX8_told_61 : decode cX8_told 61 = .ok (.getfield 62, 3) := by decide +kernel
theorem dX8_told_64 : decode cX8_told 64 = .ok (.invokevirtual 157, 3) := by decide +kernel
theorem dX8_told_67 : decode cX8_told 67 = .ok (.ireturn, 1) := by decide +kernel
theorem dX8_told_68 : decode cX8_told 68 = .ok (.aload_n 0, 1) := by decide +kernel
theorem dX8_told_69 : decode cX8_told 69 = .ok (.getfield 62, 3) := by decide +kernel
theorem dX8_told_72 : decode cX8_told 72 = .ok (.invokevirtual 160, 3) := by decide +kernel
theorem dX8_told_75 : decode cX8_told 75 = .ok (.ireturn, 1) := by decide +kernel
theorem dX8_told_76 : decode cX8_told 76 = .ok (.iconst (-1), 1) := by decide +kernel
theorem dX8_told_77 : decode cX8_told 77 = .ok (.ireturn, 1) := by decide +kernel
set_option maxRecDepth 20000 in
theorem ggX8_at_X1_size : GoodIn wsX8_at wsX1_size := goodIn_r _ [8, 9, 156, 157] (by decide +kernel) (by decide +kernel)
set_option maxRecDepth 20000 in
theorem gX8_at_X1_size : GoodIn wsX8_at (wsV RX8 103 RX1 yX1_size wsX1_size) := goodIn_app (goodIn_of _ (by decide +kernel)) ggX8_at_X1_size
set_option maxRecDepth 20000 in
theorem ggX8_at_X8_renewCosts : GoodIn wsX8_at wsX8_renewCosts := goodIn_r _ [14, 15, 2, 16, 17, 18, 13, 19, 20, 3, 21, 22, 23, 24, 25, 26, 27, 28, 29, 30, 31, 5, 6, 7, 8, 9, 32, 33, 34, 35, 36, 37, 38, 39, 40, 41, 42, 43, 44, 45, 46, 47, 48, 49, 50, 51, 52, 53, 54, 55, 56, 57, 58, 59, 60, 61, 62, 63, 64, 65, 66, 67, 68, 69, 70, 71, 72, 73, 74, 75, 76, 77, 78, 79, 80, 81, 82, 83, 84, 85, 86, 87, 88, 89, 90, 91, 92, 93, 94, 95, 96, 97, 98, 99, 100, 101, 102, 103, 104, 105, 106, 107, 108, 109, 110, 111, 112, 113, 114, 115, 116, 117, 118, 119, 120, 121, 122, 123, 124, 125, 126, 127, 128, 142, 143, 144, 145, 146, 147, 148, 149, 150, 151, 152, 153, 154, 155, 158, 159, 160, 161, 162, 163, 164, 156, 157, 165, 166, 167, 168, 169, 170, 171, 172, 173, 174, 175, 176, 177, 178, 179, 180] (by decide +kernel) (by decide +kernel)
set_option maxRecDepth 20000 in
theorem gX8_at_X8_renewCosts : GoodIn wsX8_at (wsV RX8 115 RX8 yX8_renewCosts wsX8_renewCosts) := goodIn_app (goodIn_of _ (by decide +kernel)) ggX8_at_X8_renewCosts
set_option maxRecDepth 20000 in
theorem ggX8_at_X2_leastFrom : GoodIn wsX8_at wsX2_leastFrom := goodIn_r _ [132, 78, 77, 91, 5, 6, 7, 8, 9, 168, 169, 170, 171, 172, 173, 174, 175, 176, 156, 157] (by decide +kernel) (by decide +kernel)
set_option maxRecDepth 20000 in
theorem gX8_at_X2_leastFrom : GoodIn wsX8_at (wsV RX8 163 RX2 yX2_leastFrom wsX2_leastFrom) := goodIn_app (goodIn_of _ (by decide +kernel)) ggX8_at_X2_leastFrom
set_option maxRecDepth 20000 in
theorem ggX8_at_X8_renewMatches : GoodIn wsX8_at wsX8_renewMatches := goodIn_r _ [19, 20, 3, 21, 22, 23, 24, 25, 26, 27, 28, 29, 30, 31, 5, 6, 7, 8, 9, 32, 33, 34, 35, 36, 37, 38, 39, 40, 41, 42, 43, 44, 45, 46, 47, 48, 49, 50, 51, 52, 53, 54, 55, 56, 57, 58, 59, 60, 61, 62, 63, 64, 65, 66, 67, 68, 142, 143, 144, 145, 146, 147, 148, 149, 150, 151, 152, 153, 154, 155, 158, 159, 160, 161, 162, 163, 164, 156, 157, 165, 166, 167] (by decide +kernel) (by decide +kernel)
set_option maxRecDepth 20000 in
theorem gX8_at_X8_renewMatches : GoodIn wsX8_at (wsV RX8 118 RX8 yX8_renewMatches wsX8_renewMatches) := goodIn_app (goodIn_of _ (by decide +kernel)) ggX8_at_X8_renewMatches
set_option maxRecDepth 20000 in
theorem ggX8_at_X3_longestAt : GoodIn wsX8_at wsX3_longestAt := goodIn_r _ [105, 27, 28, 31, 5, 6, 7, 8, 9, 158, 159, 160, 161, 162, 163, 164, 156, 157] (by decide +kernel) (by decide +kernel)
set_option maxRecDepth 20000 in
theorem gX8_at_X3_longestAt : GoodIn wsX8_at (wsV RX8 166 RX3 yX3_longestAt wsX3_longestAt) := goodIn_app (goodIn_of _ (by decide +kernel)) ggX8_at_X3_longestAt
set_option maxRecDepth 20000 in
theorem ggX8_at_X3_nearestAt : GoodIn wsX8_at wsX3_nearestAt := goodIn_r _ [137, 27, 29, 31, 5, 6, 7, 8, 9, 158, 159, 160, 161, 162, 163, 164, 156, 157] (by decide +kernel) (by decide +kernel)
set_option maxRecDepth 20000 in
theorem gX8_at_X3_nearestAt : GoodIn wsX8_at (wsV RX8 169 RX3 yX3_nearestAt wsX3_nearestAt) := goodIn_app (goodIn_of _ (by decide +kernel)) ggX8_at_X3_nearestAt
set_option maxRecDepth 20000 in
theorem ggX8_at_X3_distancesAt : GoodIn wsX8_at wsX3_distancesAt := goodIn_r _ [141, 27, 30, 31, 5, 6, 7, 8, 9, 158, 159, 160, 161, 162, 163, 164, 156, 157] (by decide +kernel) (by decide +kernel)
set_option maxRecDepth 20000 in
theorem gX8_at_X3_distancesAt : GoodIn wsX8_at (wsV RX8 172 RX3 yX3_distancesAt wsX3_distancesAt) := goodIn_app (goodIn_of _ (by decide +kernel)) ggX8_at_X3_distancesAt
theorem dX8_at_0 : decode cX8_at 0 = .ok (.iload_n 1, 1) := by decide +kernel
theorem dX8_at_1 : decode cX8_at 1 = .ok (.ifCond .lt 14, 3) := by decide +kernel
theorem dX8_at_4 : decode cX8_at 4 = .ok (.iload_n 1, 1) := by decide +kernel
theorem dX8_at_5 : decode cX8_at 5 = .ok (.aload_n 0, 1) := by decide +kernel
theorem dX8_at_6 : decode cX8_at 6 = .ok (.getfield 14, 3) := by decide +kernel
theorem dX8_at_9 : decode cX8_at 9 = .ok (.invokevirtual 103, 3) := by decide +kernel
theorem dX8_at_12 : decode cX8_at 12 = .ok (.if_icmp .le 5, 3) := by decide +kernel
theorem dX8_at_15 : decode cX8_at 15 = .ok (.iconst (-1), 1) := by decide +kernel
theorem dX8_at_16 : decode cX8_at 16 = .ok (.ireturn, 1) := by decide +kernel
theorem dX8_at_17 : decode cX8_at 17 = .ok (.iload_n 2, 1) := by decide +kernel
theorem dX8_at_18 : decode cX8_at 18 = .ok (.iconst 3, 1) := by decide +kernel
theorem dX8_at_19 : decode cX8_at 19 = .ok (.if_icmp .ne 16, 3) := by decide +kernel
theorem dX8_at_22 : decode cX8_at 22 = .ok (.aload_n 0, 1) := by decide +kernel
theorem dX8_at_23 : decode cX8_at 23 = .ok (.invokevirtual 115, 3) := by decide +kernel
theorem dX8_at_26 : decode cX8_at 26 = .ok (.aload_n 0, 1) := by decide +kernel
theorem dX8_at_27 : decode cX8_at 27 = .ok (.getfield 55, 3) := by decide +kernel
theorem dX8_at_30 : decode cX8_at 30 = .ok (.iload_n 1, 1) := by decide +kernel
theorem dX8_at_31 : decode cX8_at 31 = .ok (.invokevirtual 163, 3) := by decide +kernel
theorem dX8_at_34 : decode cX8_at 34 = .ok (.ireturn, 1) := by decide +kernel
theorem dX8_at_35 : decode cX8_at 35 = .ok (.iload_n 1, 1) := by decide +kernel
theorem dX8_at_36 : decode cX8_at 36 = .ok (.aload_n 0, 1) := by decide +kernel
theorem dX8_at_37 : decode cX8_at 37 = .ok (.getfield 14, 3) := by decide +kernel
theorem dX8_at_40 : decode cX8_at 40 = .ok (.invokevirtual 103, 3) := by decide +kernel
theorem dX8_at_43 : decode cX8_at 43 = .ok (.if_icmp .ne 5, 3) := by decide +kernel
theorem dX8_at_46 : decode cX8_at 46 = .ok (.iconst (-1), 1) := by decide +kernel
theorem dX8_at_47 : decode cX8_at 47 = .ok (.ireturn, 1) := by decide +kernel
theorem dX8_at_48 : decode cX8_at 48 = .ok (.aload_n 0, 1) := by decide +kernel
theorem dX8_at_49 : decode cX8_at 49 = .ok (.invokevirtual 118, 3) := by decide +kernel
theorem dX8_at_52 : decode cX8_at 52 = .ok (.iload_n 2, 1) := by decide +kernel
theorem dX8_at_53 : decode cX8_at 53 = .ok (.tableswitch 54 0 2 #[27, 36, 45], 27) := by decide +kernel
theorem dX8_at_80 : decode cX8_at 80 = .ok (.aload_n 0, 1) := by decide +kernel
theorem dX8_at_81 : decode cX8_at 81 = .ok (.getfield 46, 3) := by decide +kernel
theorem dX8_at_84 : decode cX8_at 84 = .ok (.iload_n 1, 1) := by decide +kernel
theorem dX8_at_85 : decode cX8_at 85 = .ok (.invokevirtual 166, 3) := by decide +kernel
theorem dX8_at_88 : decode cX8_at 88 = .ok (.ireturn, 1) := by decide +kernel
theorem dX8_at_89 : decode cX8_at 89 = .ok (.aload_n 0, 1) := by decide +kernel
theorem dX8_at_90 : decode cX8_at 90 = .ok (.getfield 46, 3) := by decide +kernel
theorem dX8_at_93 : decode cX8_at 93 = .ok (.iload_n 1, 1) := by decide +kernel
theorem dX8_at_94 : decode cX8_at 94 = .ok (.invokevirtual 169, 3) := by decide +kernel
theorem dX8_at_97 : decode cX8_at 97 = .ok (.ireturn, 1) := by decide +kernel
theorem dX8_at_98 : decode cX8_at 98 = .ok (.aload_n 0, 1) := by decide +kernel
theorem dX8_at_99 : decode cX8_at 99 = .ok (.getfield 46, 3) := by decide +kernel
theorem dX8_at_102 : decode cX8_at 102 = .ok (.iload_n 1, 1) := by decide +kernel
theorem dX8_at_103 : decode cX8_at 103 = .ok (.invokevirtual 172, 3) := by decide +kernel
theorem dX8_at_106 : decode cX8_at 106 = .ok (.ireturn, 1) := by decide +kernel
theorem dX8_at_107 : decode cX8_at 107 = .ok (.iconst (-1), 1) := by decide +kernel
theorem dX8_at_108 : decode cX8_at 108 = .ok (.ireturn, 1) := by decide +kernel
set_option maxRecDepth 20000 in
theorem ggX8_write_X6_made : GoodIn wsX8_write wsX6_made := goodIn_r _ [7, 8, 86, 87, 88, 89, 90, 91, 92, 93, 94, 95] (by decide +kernel) (by decide +kernel)
set_option maxRecDepth 20000 in
theorem gX8_write_X6_made : GoodIn wsX8_write (wsV RX8 175 RX6 yX6_made wsX6_made) := goodIn_app (goodIn_of _ (by decide +kernel)) ggX8_write_X6_made
set_option maxRecDepth 20000 in
theorem ggX8_write_X6_putInto : GoodIn wsX8_write wsX6_putInto := goodIn_r _ [12, 13, 14, 15, 16, 17, 18, 19, 20, 21, 22, 23, 24, 25, 26, 27, 28, 29, 30, 31, 32, 33, 34, 35, 36, 37, 38, 39, 40, 6, 41, 42, 43, 44, 45, 46, 47, 48, 49, 50, 51, 52, 53, 54, 55, 56, 57, 58, 59, 60, 61, 62, 63, 64, 65, 66, 67, 86, 87, 88, 89, 90, 91, 92, 93, 94, 95, 96, 97, 98, 99] (by decide +kernel) (by decide +kernel)
set_option maxRecDepth 20000 in
theorem gX8_write_X6_putInto : GoodIn wsX8_write (wsV RX8 179 RX6 yX6_putInto wsX6_putInto) := goodIn_app (goodIn_of _ (by decide +kernel)) ggX8_write_X6_putInto
set_option maxRecDepth 20000 in
theorem ggX8_write_X0_size : GoodIn wsX8_write wsX0_size := goodIn_r _ [71, 22, 96, 97] (by decide +kernel) (by decide +kernel)
set_option maxRecDepth 20000 in
theorem gX8_write_X0_size : GoodIn wsX8_write (wsV RX8 183 RX0 yX0_size wsX0_size) := goodIn_app (goodIn_of _ (by decide +kernel)) ggX8_write_X0_size
theorem dX8_write_0 : decode cX8_write 0 = .ok (.aload_n 0, 1) := by decide +kernel
theorem dX8_write_1 : decode cX8_write 1 = .ok (.getfield 62, 3) := by decide +kernel
theorem dX8_write_4 : decode cX8_write 4 = .ok (.invokevirtual 175, 3) := by decide +kernel
theorem dX8_write_7 : decode cX8_write 7 = .ok (.ifCond .ne 5, 3) := by decide +kernel
theorem dX8_write_10 : decode cX8_write 10 = .ok (.iconst 0, 1) := by decide +kernel
theorem dX8_write_11 : decode cX8_write 11 = .ok (.ireturn, 1) := by decide +kernel
theorem dX8_write_12 : decode cX8_write 12 = .ok (.aload_n 0, 1) := by decide +kernel
theorem dX8_write_13 : decode cX8_write 13 = .ok (.getfield 62, 3) := by decide +kernel
theorem dX8_write_16 : decode cX8_write 16 = .ok (.aload_n 0, 1) := by decide +kernel
theorem dX8_write_17 : decode cX8_write 17 = .ok (.getfield 69, 3) := by decide +kernel
theorem dX8_write_20 : decode cX8_write 20 = .ok (.invokevirtual 179, 3) := by decide +kernel
theorem dX8_write_23 : decode cX8_write 23 = .ok (.aload_n 0, 1) := by decide +kernel
theorem dX8_write_24 : decode cX8_write 24 = .ok (.getfield 69, 3) := by decide +kernel
theorem dX8_write_27 : decode cX8_write 27 = .ok (.invokevirtual 183, 3) := by decide +kernel
theorem dX8_write_30 : decode cX8_write 30 = .ok (.ireturn, 1) := by decide +kernel
set_option maxRecDepth 20000 in
theorem ggX8_written_X0_get : GoodIn wsX8_written wsX0_get := goodIn_r _ [6, 7, 8, 9, 10, 5, 11, 12, 27, 28] (by decide +kernel) (by decide +kernel)
set_option maxRecDepth 20000 in
theorem gX8_written_X0_get : GoodIn wsX8_written (wsV RX8 184 RX0 yX0_get wsX0_get) := goodIn_app (goodIn_of _ (by decide +kernel)) ggX8_written_X0_get
theorem dX8_written_0 : decode cX8_written 0 = .ok (.aload_n 0, 1) := by decide +kernel
theorem dX8_written_1 : decode cX8_written 1 = .ok (.getfield 69, 3) := by decide +kernel
theorem dX8_written_4 : decode cX8_written 4 = .ok (.iload_n 1, 1) := by decide +kernel
theorem dX8_written_5 : decode cX8_written 5 = .ok (.invokevirtual 184, 3) := by decide +kernel
theorem dX8_written_8 : decode cX8_written 8 = .ok (.ireturn, 1) := by decide +kernel
set_option maxRecDepth 20000 in
theorem ggX8_load_X1_addLowest : GoodIn wsX8_load wsX1_addLowest := goodIn_r _ [6, 7, 8, 9, 10, 11, 5, 12, 27, 28] (by decide +kernel) (by decide +kernel)
set_option maxRecDepth 20000 in
theorem gX8_load_X1_addLowest : GoodIn wsX8_load (wsV RX8 92 RX1 yX1_addLowest wsX1_addLowest) := goodIn_app (goodIn_of _ (by decide +kernel)) ggX8_load_X1_addLowest
theorem dX8_load_0 : decode cX8_load 0 = .ok (.aload_n 0, 1) := by decide +kernel
theorem dX8_load_1 : decode cX8_load 1 = .ok (.getfield 18, 3) := by decide +kernel
theorem dX8_load_4 : decode cX8_load 4 = .ok (.lload_n 1, 1) := by decide +kernel
theorem dX8_load_5 : decode cX8_load 5 = .ok (.iload_n 3, 1) := by decide +kernel
theorem dX8_load_6 : decode cX8_load 6 = .ok (.invokevirtual 92, 3) := by decide +kernel
theorem dX8_load_9 : decode cX8_load 9 = .ok (.ireturn, 1) := by decide +kernel
set_option maxRecDepth 20000 in
theorem ggX8_read_X4_readText : GoodIn wsX8_read wsX4_readText := goodIn_r _ [10, 11, 12, 13, 14, 15, 16, 17, 18, 19, 20, 21, 9, 22, 23, 24, 25, 26, 27, 28, 29, 30, 31, 32, 33, 34, 35, 36, 37, 38, 39, 40, 41, 42, 43, 44, 45, 46, 47, 48, 49, 50, 51, 52, 53, 54, 55, 56, 57, 58, 59, 60, 61, 62, 63, 64, 65, 66, 67, 68, 69, 70, 71, 72, 73, 74, 75, 76, 77, 78, 79, 80, 81, 82, 83, 111, 112, 113, 114, 115, 116, 117, 118, 119] (by decide +kernel) (by decide +kernel)
set_option maxRecDepth 20000 in
theorem gX8_read_X4_readText : GoodIn wsX8_read (wsV RX8 187 RX4 yX4_readText wsX4_readText) := goodIn_app (goodIn_of _ (by decide +kernel)) ggX8_read_X4_readText
set_option maxRecDepth 20000 in
theorem ggX8_read_X1_empty : GoodIn wsX8_read wsX1_empty := goodIn_r _ [17, 18, 115, 116] (by decide +kernel) (by decide +kernel)
set_option maxRecDepth 20000 in
theorem gX8_read_X1_empty : GoodIn wsX8_read (wsV RX8 107 RX1 yX1_empty wsX1_empty) := goodIn_app (goodIn_of _ (by decide +kernel)) ggX8_read_X1_empty
set_option maxRecDepth 20000 in
theorem ggX8_read_X1_copyOf : GoodIn wsX8_read wsX1_copyOf := goodIn_r _ [88, 18, 28, 89, 90, 91, 92, 93, 94, 95, 96, 115, 116] (by decide +kernel) (by decide +kernel)
set_option maxRecDepth 20000 in
theorem gX8_read_X1_copyOf : GoodIn wsX8_read (wsV RX8 190 RX1 yX1_copyOf wsX1_copyOf) := goodIn_app (goodIn_of _ (by decide +kernel)) ggX8_read_X1_copyOf
theorem dX8_read_0 : decode cX8_read 0 = .ok (.aload_n 0, 1) := by decide +kernel
theorem dX8_read_1 : decode cX8_read 1 = .ok (.getfield 78, 3) := by decide +kernel
theorem dX8_read_4 : decode cX8_read 4 = .ok (.invokevirtual 187, 3) := by decide +kernel
theorem dX8_read_7 : decode cX8_read 7 = .ok (.istore_n 1, 1) := by decide +kernel
theorem dX8_read_8 : decode cX8_read 8 = .ok (.aload_n 0, 1) := by decide +kernel
theorem dX8_read_9 : decode cX8_read 9 = .ok (.getfield 18, 3) := by decide +kernel
theorem dX8_read_12 : decode cX8_read 12 = .ok (.invokevirtual 107, 3) := by decide +kernel
theorem dX8_read_15 : decode cX8_read 15 = .ok (.iload_n 1, 1) := by decide +kernel
theorem dX8_read_16 : decode cX8_read 16 = .ok (.ifCond .ne 19, 3) := by decide +kernel
theorem dX8_read_19 : decode cX8_read 19 = .ok (.aload_n 0, 1) := by decide +kernel
theorem dX8_read_20 : decode cX8_read 20 = .ok (.getfield 21, 3) := by decide +kernel
theorem dX8_read_23 : decode cX8_read 23 = .ok (.aload_n 0, 1) := by decide +kernel
theorem dX8_read_24 : decode cX8_read 24 = .ok (.getfield 24, 3) := by decide +kernel
theorem dX8_read_27 : decode cX8_read 27 = .ok (.invokevirtual 190, 3) := by decide +kernel
theorem dX8_read_30 : decode cX8_read 30 = .ok (.aload_n 0, 1) := by decide +kernel
theorem dX8_read_31 : decode cX8_read 31 = .ok (.iconst 1, 1) := by decide +kernel
theorem dX8_read_32 : decode cX8_read 32 = .ok (.putfield 89, 3) := by decide +kernel
theorem dX8_read_35 : decode cX8_read 35 = .ok (.iload_n 1, 1) := by decide +kernel
theorem dX8_read_36 : decode cX8_read 36 = .ok (.ireturn, 1) := by decide +kernel
set_option maxRecDepth 20000 in
theorem ggX8_taken_X1_size : GoodIn wsX8_taken wsX1_size := goodIn_r _ [7, 8, 28, 29] (by decide +kernel) (by decide +kernel)
set_option maxRecDepth 20000 in
theorem gX8_taken_X1_size : GoodIn wsX8_taken (wsV RX8 103 RX1 yX1_size wsX1_size) := goodIn_app (goodIn_of _ (by decide +kernel)) ggX8_taken_X1_size
set_option maxRecDepth 20000 in
theorem ggX8_taken_X1_get : GoodIn wsX8_taken wsX1_get := goodIn_r _ [12, 8, 13, 28, 29] (by decide +kernel) (by decide +kernel)
set_option maxRecDepth 20000 in
theorem gX8_taken_X1_get : GoodIn wsX8_taken (wsV RX8 194 RX1 yX1_get wsX1_get) := goodIn_app (goodIn_of _ (by decide +kernel)) ggX8_taken_X1_get
theorem dX8_taken_0 : decode cX8_taken 0 = .ok (.aload_n 0, 1) := by decide +kernel
theorem dX8_taken_1 : decode cX8_taken 1 = .ok (.getfield 89, 3) := by decide +kernel
theorem dX8_taken_4 : decode cX8_taken 4 = .ok (.ifCond .ne 5, 3) := by decide +kernel
theorem dX8_taken_7 : decode cX8_taken 7 = .ok (.iconst (-1), 1) := by decide +kernel
theorem dX8_taken_8 : decode cX8_taken 8 = .ok (.ireturn, 1) := by decide +kernel
theorem dX8_taken_9 : decode cX8_taken 9 = .ok (.iload_n 1, 1) := by decide +kernel
theorem dX8_taken_10 : decode cX8_taken 10 = .ok (.iconst (-1), 1) := by decide +kernel
theorem dX8_taken_11 : decode cX8_taken 11 = .ok (.if_icmp .ne 13, 3) := by decide +kernel
theorem dX8_taken_14 : decode cX8_taken 14 = .ok (.aload_n 0, 1) := by decide +kernel
theorem dX8_taken_15 : decode cX8_taken 15 = .ok (.getfield 21, 3) := by decide +kernel
theorem dX8_taken_18 : decode cX8_taken 18 = .ok (.invokevirtual 103, 3) := by decide +kernel
theorem dX8_taken_21 : decode cX8_taken 21 = .ok (.goto 11, 3) := by decide +kernel
theorem dX8_taken_24 : decode cX8_taken 24 = .ok (.aload_n 0, 1) := by decide +kernel
theorem dX8_taken_25 : decode cX8_taken 25 = .ok (.getfield 21, 3) := by decide +kernel
theorem dX8_taken_28 : decode cX8_taken 28 = .ok (.iload_n 1, 1) := by decide +kernel
theorem dX8_taken_29 : decode cX8_taken 29 = .ok (.invokevirtual 194, 3) := by decide +kernel
theorem dX8_taken_32 : decode cX8_taken 32 = .ok (.ireturn, 1) := by decide +kernel
set_option maxRecDepth 20000 in
theorem ggX8_check_X6_makeTheirText : GoodIn wsX8_check wsX6_makeTheirText := goodIn_r _ [7, 8, 9, 10, 11, 12, 13, 14, 15, 16, 17, 18, 19, 20, 21, 22, 23, 24, 25, 6, 26, 27, 28, 29, 30, 31, 32, 33, 34, 35, 36, 37, 38, 39, 40, 41, 42, 43, 44, 45, 46, 47, 48, 49, 64, 65, 66, 67, 68, 69, 70, 71, 72, 73, 74, 75] (by decide +kernel) (by decide +kernel)
set_option maxRecDepth 20000 in
theorem gX8_check_X6_makeTheirText : GoodIn wsX8_check (wsV RX8 195 RX6 yX6_makeTheirText wsX6_makeTheirText) := goodIn_app (goodIn_of _ (by decide +kernel)) ggX8_check_X6_makeTheirText
theorem dX8_check_0 : decode cX8_check 0 = .ok (.aload_n 0, 1) := by decide +kernel
theorem dX8_check_1 : decode cX8_check 1 = .ok (.getfield 62, 3) := by decide +kernel
theorem dX8_check_4 : decode cX8_check 4 = .ok (.aload_n 0, 1) := by decide +kernel
theorem dX8_check_5 : decode cX8_check 5 = .ok (.getfield 24, 3) := by decide +kernel
theorem dX8_check_8 : decode cX8_check 8 = .ok (.invokevirtual 195, 3) := by decide +kernel
theorem dX8_check_11 : decode cX8_check 11 = .ok (.ifCond .eq 7, 3) := by decide +kernel
theorem dX8_check_14 : decode cX8_check 14 = .ok (.iconst 1, 1) := by decide +kernel
theorem dX8_check_15 : decode cX8_check 15 = .ok (.goto 4, 3) := by decide +kernel
theorem dX8_check_18 : decode cX8_check 18 = .ok (.iconst 0, 1) := by decide +kernel
theorem dX8_check_19 : decode cX8_check 19 = .ok (.ireturn, 1) := by decide +kernel
theorem dX8_forgetMatches_0 : decode cX8_forgetMatches 0 = .ok (.aload_n 0, 1) := by decide +kernel
theorem dX8_forgetMatches_1 : decode cX8_forgetMatches 1 = .ok (.iconst 1, 1) := by decide +kernel
theorem dX8_forgetMatches_2 : decode cX8_forgetMatches 2 = .ok (.putfield 82, 3) := by decide +kernel
theorem dX8_forgetMatches_5 : decode cX8_forgetMatches 5 = .ok (.aload_n 0, 1) := by decide +kernel
theorem dX8_forgetMatches_6 : decode cX8_forgetMatches 6 = .ok (.iconst 1, 1) := by decide +kernel
theorem dX8_forgetMatches_7 : decode cX8_forgetMatches 7 = .ok (.putfield 86, 3) := by decide +kernel
theorem dX8_forgetMatches_10 : decode cX8_forgetMatches 10 = .ok (.return_, 1) := by decide +kernel
set_option maxRecDepth 20000 in
theorem ggX8_renewMatches_X3_build : GoodIn wsX8_renewMatches wsX3_build := goodIn_r _ [7, 8, 9, 10, 11, 12, 13, 14, 15, 16, 17, 18, 19, 20, 21, 6, 22, 23, 24, 25, 26, 27, 28, 29, 30, 31, 32, 33, 34, 35, 36, 37, 38, 39, 40, 41, 42, 43, 44, 45, 46, 47, 48, 49, 50, 51, 52, 53, 54, 55, 70, 71, 72, 73, 74, 75, 76, 77, 78, 79, 80, 81] (by decide +kernel) (by decide +kernel)
set_option maxRecDepth 20000 in
theorem gX8_renewMatches_X3_build : GoodIn wsX8_renewMatches (wsV RX8 199 RX3 yX3_build wsX3_build) := goodIn_app (goodIn_of _ (by decide +kernel)) ggX8_renewMatches_X3_build
theorem dX8_renewMatches_0 : decode cX8_renewMatches 0 = .ok (.aload_n 0, 1) := by decide +kernel
theorem dX8_renewMatches_1 : decode cX8_renewMatches 1 = .ok (.getfield 82, 3) := by decide +kernel
theorem dX8_renewMatches_4 : decode cX8_renewMatches 4 = .ok (.ifCond .eq 15, 3) := by decide +kernel
theorem dX8_renewMatches_7 : decode cX8_renewMatches 7 = .ok (.aload_n 0, 1) := by decide +kernel
theorem dX8_renewMatches_8 : decode cX8_renewMatches 8 = .ok (.getfield 46, 3) := by decide +kernel
theorem dX8_renewMatches_11 : decode cX8_renewMatches 11 = .ok (.invokevirtual 199, 3) := by decide +kernel
theorem dX8_renewMatches_14 : decode cX8_renewMatches 14 = .ok (.aload_n 0, 1) := by decide +kernel
theorem dX8_renewMatches_15 : decode cX8_renewMatches 15 = .ok (.iconst 0, 1) := by decide +kernel
theorem dX8_renewMatches_16 : decode cX8_renewMatches 16 = .ok (.putfield 82, 3) := by decide +kernel
theorem dX8_renewMatches_19 : decode cX8_renewMatches 19 = .ok (.return_, 1) := by decide +kernel
set_option maxRecDepth 20000 in
theorem ggX8_renewCosts_X8_renewMatches : GoodIn wsX8_renewCosts wsX8_renewMatches := goodIn_r _ [7, 8, 9, 10, 11, 12, 13, 14, 15, 16, 17, 18, 19, 20, 21, 22, 23, 24, 25, 26, 27, 28, 29, 30, 31, 32, 33, 34, 35, 36, 37, 38, 39, 40, 41, 42, 43, 44, 45, 46, 47, 48, 49, 50, 51, 52, 53, 54, 55, 56, 57, 58, 59, 60, 61, 62, 123, 124, 125, 126, 127, 128, 129, 130, 131, 132, 133, 134, 135, 136, 137, 138, 139, 140, 141, 142, 143, 144, 145, 146, 147, 148] (by decide +kernel) (by decide +kernel)
set_option maxRecDepth 20000 in
theorem gX8_renewCosts_X8_renewMatches : GoodIn wsX8_renewCosts (wsV RX8 118 RX8 yX8_renewMatches wsX8_renewMatches) := goodIn_app (goodIn_of _ (by decide +kernel)) ggX8_renewCosts_X8_renewMatches
set_option maxRecDepth 20000 in
theorem ggX8_renewCosts_X2_build : GoodIn wsX8_renewCosts wsX2_build := goodIn_r _ [67, 68, 69, 70, 71, 72, 73, 37, 38, 39, 40, 41, 74, 59, 60, 61, 62, 75, 76, 77, 78, 79, 80, 81, 82, 47, 33, 48, 83, 6, 84, 85, 21, 22, 23, 24, 25, 86, 87, 88, 66, 89, 90, 91, 92, 93, 94, 95, 96, 97, 98, 13, 99, 16, 17, 20, 100, 101, 102, 103, 104, 105, 106, 107, 35, 108, 109, 110, 111, 112, 113, 114, 115, 116, 117, 118, 119, 120, 121, 122, 149, 150, 151, 152, 153, 154, 155, 156, 157, 146, 147, 148, 158, 159, 160, 161, 144, 145, 137, 138, 139, 140, 141, 142, 143] (by decide +kernel) (by decide +kernel)
set_option maxRecDepth 20000 in
theorem gX8_renewCosts_X2_build : GoodIn wsX8_renewCosts (wsV RX8 202 RX2 yX2_build wsX2_build) := goodIn_app (goodIn_of _ (by decide +kernel)) ggX8_renewCosts_X2_build
theorem dX8_renewCosts_0 : decode cX8_renewCosts 0 = .ok (.aload_n 0, 1) := by decide +kernel
theorem dX8_renewCosts_1 : decode cX8_renewCosts 1 = .ok (.invokevirtual 118, 3) := by decide +kernel
theorem dX8_renewCosts_4 : decode cX8_renewCosts 4 = .ok (.aload_n 0, 1) := by decide +kernel
theorem dX8_renewCosts_5 : decode cX8_renewCosts 5 = .ok (.getfield 86, 3) := by decide +kernel
theorem dX8_renewCosts_8 : decode cX8_renewCosts 8 = .ok (.ifCond .eq 15, 3) := by decide +kernel
theorem dX8_renewCosts_11 : decode cX8_renewCosts 11 = .ok (.aload_n 0, 1) := by decide +kernel
theorem dX8_renewCosts_12 : decode cX8_renewCosts 12 = .ok (.getfield 55, 3) := by decide +kernel
theorem dX8_renewCosts_15 : decode cX8_renewCosts 15 = .ok (.invokevirtual 202, 3) := by decide +kernel
theorem dX8_renewCosts_18 : decode cX8_renewCosts 18 = .ok (.aload_n 0, 1) := by decide +kernel
theorem dX8_renewCosts_19 : decode cX8_renewCosts 19 = .ok (.iconst 0, 1) := by decide +kernel
theorem dX8_renewCosts_20 : decode cX8_renewCosts 20 = .ok (.putfield 86, 3) := by decide +kernel
theorem dX8_renewCosts_23 : decode cX8_renewCosts 23 = .ok (.return_, 1) := by decide +kernel
set_option maxRecDepth 20000 in
theorem ggX8_addStep_X2_lengthAt : GoodIn wsX8_addStep wsX2_lengthAt := goodIn_r _ [10, 11, 12, 13, 14, 15, 16, 17, 18, 146, 147, 148, 149, 150, 151, 152, 153, 154, 155, 156] (by decide +kernel) (by decide +kernel)
set_option maxRecDepth 20000 in
theorem gX8_addStep_X2_lengthAt : GoodIn wsX8_addStep (wsV RX8 203 RX2 yX2_lengthAt wsX2_lengthAt) := goodIn_app (goodIn_of _ (by decide +kernel)) ggX8_addStep_X2_lengthAt
set_option maxRecDepth 20000 in
theorem ggX8_addStep_X8_longestStep : GoodIn wsX8_addStep wsX8_longestStep := goodIn_r _ [23, 5, 24, 25, 26, 27, 28, 29, 30, 31, 14, 15, 16, 17, 18, 132, 133, 134, 135, 136, 137, 138, 139, 140, 141, 142, 143, 144, 145, 157, 158, 159, 160, 161, 162, 163, 155, 156] (by decide +kernel) (by decide +kernel)
set_option maxRecDepth 20000 in
theorem gX8_addStep_X8_longestStep : GoodIn wsX8_addStep (wsV RX8 206 RX8 yX8_longestStep wsX8_longestStep) := goodIn_app (goodIn_of _ (by decide +kernel)) ggX8_addStep_X8_longestStep
set_option maxRecDepth 20000 in
theorem ggX8_addStep_X1_get : GoodIn wsX8_addStep wsX1_get := goodIn_r _ [35, 18, 36, 155, 156] (by decide +kernel) (by decide +kernel)
set_option maxRecDepth 20000 in
theorem gX8_addStep_X1_get : GoodIn wsX8_addStep (wsV RX8 194 RX1 yX1_get wsX1_get) := goodIn_app (goodIn_of _ (by decide +kernel)) ggX8_addStep_X1_get
set_option maxRecDepth 20000 in
theorem ggX8_addStep_X7_ofByte : GoodIn wsX8_addStep wsX7_ofByte := goodIn_r _ [41, 42, 164, 165, 166, 167] (by decide +kernel) (by decide +kernel)
set_option maxRecDepth 20000 in
theorem gX8_addStep_X7_ofByte : GoodIn wsX8_addStep (wsV RX8 209 RX7 yX7_ofByte wsX7_ofByte) := goodIn_app (goodIn_of _ (by decide +kernel)) ggX8_addStep_X7_ofByte
set_option maxRecDepth 20000 in
theorem ggX8_addStep_X6_addByte : GoodIn wsX8_addStep wsX6_addByte := goodIn_r _ [47, 48, 49, 50, 51, 46, 52, 53, 54, 55, 56, 57, 168, 169, 170, 171, 172, 173, 174, 175, 176, 177] (by decide +kernel) (by decide +kernel)
set_option maxRecDepth 20000 in
theorem gX8_addStep_X6_addByte : GoodIn wsX8_addStep (wsV RX8 212 RX6 yX6_addByte wsX6_addByte) := goodIn_app (goodIn_of _ (by decide +kernel)) ggX8_addStep_X6_addByte
set_option maxRecDepth 20000 in
theorem ggX8_addStep_X2_distanceAt : GoodIn wsX8_addStep wsX2_distanceAt := goodIn_r _ [61, 62, 63, 64, 65, 7, 8, 9, 10, 11, 12, 13, 14, 15, 16, 17, 18, 66, 67, 68, 40, 69, 70, 71, 72, 73, 74, 75, 76, 77, 27, 78, 79, 80, 81, 82, 83, 29, 84, 85, 86, 87, 88, 89, 90, 91, 92, 93, 94, 95, 96, 97, 98, 99, 36, 146, 147, 148, 149, 150, 151, 152, 153, 154, 155, 156, 164, 165, 166, 167, 157, 158, 159, 160, 161, 162, 163, 178, 179, 180] (by decide +kernel) (by decide +kernel)
set_option maxRecDepth 20000 in
theorem gX8_addStep_X2_distanceAt : GoodIn wsX8_addStep (wsV RX8 216 RX2 yX2_distanceAt wsX2_distanceAt) := goodIn_app (goodIn_of _ (by decide +kernel)) ggX8_addStep_X2_distanceAt
set_option maxRecDepth 20000 in
theorem ggX8_addStep_X3_nearestAt : GoodIn wsX8_addStep wsX3_nearestAt := goodIn_r _ [103, 29, 104, 31, 14, 15, 16, 17, 18, 157, 158, 159, 160, 161, 162, 163, 155, 156] (by decide +kernel) (by decide +kernel)
set_option maxRecDepth 20000 in
theorem gX8_addStep_X3_nearestAt : GoodIn wsX8_addStep (wsV RX8 169 RX3 yX3_nearestAt wsX3_nearestAt) := goodIn_app (goodIn_of _ (by decide +kernel)) ggX8_addStep_X3_nearestAt
set_option maxRecDepth 20000 in
theorem ggX8_addStep_X7_ofMatch : GoodIn wsX8_addStep wsX7_ofMatch := goodIn_r _ [108, 109, 110, 111, 40, 112, 113, 114, 71, 72, 73, 74, 115, 22, 116, 117, 67, 68, 69, 70, 164, 165, 166, 167] (by decide +kernel) (by decide +kernel)
set_option maxRecDepth 20000 in
theorem gX8_addStep_X7_ofMatch : GoodIn wsX8_addStep (wsV RX8 219 RX7 yX7_ofMatch wsX7_ofMatch) := goodIn_app (goodIn_of _ (by decide +kernel)) ggX8_addStep_X7_ofMatch
set_option maxRecDepth 20000 in
theorem ggX8_addStep_X6_addMatch : GoodIn wsX8_addStep wsX6_addMatch := goodIn_r _ [121, 122, 48, 49, 50, 51, 46, 52, 53, 54, 55, 56, 57, 123, 124, 125, 126, 127, 128, 129, 130, 131, 115, 22, 116, 168, 169, 170, 171, 172, 173, 174, 175, 176, 177] (by decide +kernel) (by decide +kernel)
set_option maxRecDepth 20000 in
theorem gX8_addStep_X6_addMatch : GoodIn wsX8_addStep (wsV RX8 222 RX6 yX6_addMatch wsX6_addMatch) := goodIn_app (goodIn_of _ (by decide +kernel)) ggX8_addStep_X6_addMatch
theorem dX8_addStep_0 : decode cX8_addStep 0 = .ok (.iload_n 1, 1) := by decide +kernel
theorem dX8_addStep_1 : decode cX8_addStep 1 = .ok (.ifCond .ne 14, 3) := by decide +kernel
theorem dX8_addStep_4 : decode cX8_addStep 4 = .ok (.aload_n 0, 1) := by decide +kernel
theorem dX8_addStep_5 : decode cX8_addStep 5 = .ok (.getfield 55, 3) := by decide +kernel
theorem dX8_addStep_8 : decode cX8_addStep 8 = .ok (.iload_n 2, 1) := by decide +kernel
theorem dX8_addStep_9 : decode cX8_addStep 9 = .ok (.invokevirtual 203, 3) := by decide +kernel
theorem dX8_addStep_12 : decode cX8_addStep 12 = .ok (.goto 9, 3) := by decide +kernel
theorem dX8_addStep_15 : decode cX8_addStep 15 = .ok (.aload_n 0, 1) := by decide +kernel
theorem dX8_addStep_16 : decode cX8_addStep 16 = .ok (.iload_n 1, 1) := by decide +kernel
theorem dX8_addStep_17 : decode cX8_addStep 17 = .ok (.iload_n 2, 1) := by decide +kernel
theorem dX8_addStep_18 : decode cX8_addStep 18 = .ok (.invokevirtual 206, 3) := by decide +kernel
theorem dX8_addStep_21 : decode cX8_addStep 21 = .ok (.istore_n 3, 1) := by decide +kernel
theorem dX8_addStep_22 : decode cX8_addStep 22 = .ok (.iload_n 3, 1) := by decide +kernel
theorem dX8_addStep_23 : decode cX8_addStep 23 = .ok (.iconst 1, 1) := by decide +kernel
theorem dX8_addStep_24 : decode cX8_addStep 24 = .ok (.if_icmp .gt 28, 3) := by decide +kernel
theorem dX8_addStep_27 : decode cX8_addStep 27 = .ok (.aload_n 0, 1) := by decide +kernel
theorem dX8_addStep_28 : decode cX8_addStep 28 = .ok (.getfield 62, 3) := by decide +kernel
theorem dX8_addStep_31 : decode cX8_addStep 31 = .ok (.iload_n 2, 1) := by decide +kernel
theorem dX8_addStep_32 : decode cX8_addStep 32 = .ok (.aload_n 0, 1) := by decide +kernel
theorem dX8_addStep_33 : decode cX8_addStep 33 = .ok (.getfield 37, 3) := by decide +kernel
theorem dX8_addStep_36 : decode cX8_addStep 36 = .ok (.aload_n 0, 1) := by decide +kernel
theorem dX8_addStep_37 : decode cX8_addStep 37 = .ok (.getfield 14, 3) := by decide +kernel
theorem dX8_addStep_40 : decode cX8_addStep 40 = .ok (.iload_n 2, 1) := by decide +kernel
theorem dX8_addStep_41 : decode cX8_addStep 41 = .ok (.invokevirtual 194, 3) := by decide +kernel
theorem dX8_addStep_44 : decode cX8_addStep 44 = .ok (.invokevirtual 209, 3) := by decide +kernel
theorem dX8_addStep_47 : decode cX8_addStep 47 = .ok (.invokevirtual 212, 3) := by decide +kernel
theorem dX8_addStep_50 : decode cX8_addStep 50 = .ok (.iconst 1, 1) := by decide +kernel
theorem dX8_addStep_51 : decode cX8_addStep 51 = .ok (.ireturn, 1) := by decide +kernel
theorem dX8_addStep_52 : decode cX8_addStep 52 = .ok (.iload_n 1, 1) := by decide +kernel
theorem dX8_addStep_53 : decode cX8_addStep 53 = .ok (.ifCond .ne 14, 3) := by decide +kernel
theorem dX8_addStep_56 : decode cX8_addStep 56 = .ok (.aload_n 0, 1) := by decide +kernel
theorem dX8_addStep_57 : decode cX8_addStep 57 = .ok (.getfield 55, 3) := by decide +kernel
theorem dX8_addStep_60 : decode cX8_addStep 60 = .ok (.iload_n 2, 1) := by decide +kernel
theorem dX8_addStep_61 : decode cX8_addStep 61 = .ok (.invokevirtual 216, 3) := by decide +kernel
theorem dX8_addStep_64 : decode cX8_addStep 64 = .ok (.goto 11, 3) := by decide +kernel
theorem dX8_addStep_67 : decode cX8_addStep 67 = .ok (.aload_n 0, 1) := by decide +kernel
theorem dX8_addStep_68 : decode cX8_addStep 68 = .ok (.getfield 46, 3) := by decide +kernel
theorem dX8_addStep_71 : decode cX8_addStep 71 = .ok (.iload_n 2, 1) := by decide +kernel
theorem dX8_addStep_72 : decode cX8_addStep 72 = .ok (.invokevirtual 169, 3) := by decide +kernel
theorem dX8_addStep_75 : decode cX8_addStep 75 = .ok (.istore 4, 2) := by decide +kernel
theorem dX8_addStep_77 : decode cX8_addStep 77 = .ok (.aload_n 0, 1) := by decide +kernel
theorem dX8_addStep_78 : decode cX8_addStep 78 = .ok (.getfield 62, 3) := by decide +kernel
theorem dX8_addStep_81 : decode cX8_addStep 81 = .ok (.iload_n 2, 1) := by decide +kernel
theorem dX8_addStep_82 : decode cX8_addStep 82 = .ok (.iload_n 3, 1) := by decide +kernel
theorem dX8_addStep_83 : decode cX8_addStep 83 = .ok (.iload 4, 2) := by decide +kernel
theorem dX8_addStep_85 : decode cX8_addStep 85 = .ok (.aload_n 0, 1) := by decide +kernel
theorem dX8_addStep_86 : decode cX8_addStep 86 = .ok (.getfield 37, 3) := by decide +kernel
theorem dX8_addStep_89 : decode cX8_addStep 89 = .ok (.iload_n 3, 1) := by decide +kernel
theorem dX8_addStep_90 : decode cX8_addStep 90 = .ok (.iload 4, 2) := by decide +kernel
theorem dX8_addStep_92 : decode cX8_addStep 92 = .ok (.invokevirtual 219, 3) := by decide +kernel
theorem dX8_addStep_95 : decode cX8_addStep 95 = .ok (.invokevirtual 222, 3) := by decide +kernel
theorem dX8_addStep_98 : decode cX8_addStep 98 = .ok (.iload_n 3, 1) := by decide +kernel
theorem dX8_addStep_99 : decode cX8_addStep 99 = .ok (.ireturn, 1) := by decide +kernel
set_option maxRecDepth 20000 in
theorem ggX8_longestStep_X3_longestAt : GoodIn wsX8_longestStep wsX3_longestAt := goodIn_r _ [6, 7, 8, 9, 10, 11, 12, 13, 14, 29, 30, 31, 32, 33, 34, 35, 36, 37] (by decide +kernel) (by decide +kernel)
set_option maxRecDepth 20000 in
theorem gX8_longestStep_X3_longestAt : GoodIn wsX8_longestStep (wsV RX8 166 RX3 yX3_longestAt wsX3_longestAt) := goodIn_app (goodIn_of _ (by decide +kernel)) ggX8_longestStep_X3_longestAt
theorem dX8_longestStep_0 : decode cX8_longestStep 0 = .ok (.aload_n 0, 1) := by decide +kernel
theorem dX8_longestStep_1 : decode cX8_longestStep 1 = .ok (.getfield 46, 3) := by decide +kernel
theorem dX8_longestStep_4 : decode cX8_longestStep 4 = .ok (.iload_n 2, 1) := by decide +kernel
theorem dX8_longestStep_5 : decode cX8_longestStep 5 = .ok (.invokevirtual 166, 3) := by decide +kernel
theorem dX8_longestStep_8 : decode cX8_longestStep 8 = .ok (.istore_n 3, 1) := by decide +kernel
theorem dX8_longestStep_9 : decode cX8_longestStep 9 = .ok (.iload_n 1, 1) := by decide +kernel
theorem dX8_longestStep_10 : decode cX8_longestStep 10 = .ok (.iconst 2, 1) := by decide +kernel
theorem dX8_longestStep_11 : decode cX8_longestStep 11 = .ok (.if_icmp .ne 21, 3) := by decide +kernel
theorem dX8_longestStep_14 : decode cX8_longestStep 14 = .ok (.iload_n 3, 1) := by decide +kernel
theorem dX8_longestStep_15 : decode cX8_longestStep 15 = .ok (.aload_n 0, 1) := by decide +kernel
theorem dX8_longestStep_16 : decode cX8_longestStep 16 = .ok (.getfield 46, 3) := by decide +kernel
theorem dX8_longestStep_19 : decode cX8_longestStep 19 = .ok (.iload_n 2, 1) := by decide +kernel
theorem dX8_longestStep_20 : decode cX8_longestStep 20 = .ok (.iconst 1, 1) := by decide +kernel
theorem dX8_longestStep_21 : decode cX8_longestStep 21 = .ok (.iadd, 1) := by decide +kernel
theorem dX8_longestStep_22 : decode cX8_longestStep 22 = .ok (.invokevirtual 166, 3) := by decide +kernel
theorem dX8_longestStep_25 : decode cX8_longestStep 25 = .ok (.if_icmp .ge 7, 3) := by decide +kernel
theorem dX8_longestStep_28 : decode cX8_longestStep 28 = .ok (.iconst 1, 1) := by decide +kernel
theorem dX8_longestStep_29 : decode cX8_longestStep 29 = .ok (.goto 4, 3) := by decide +kernel
theorem dX8_longestStep_32 : decode cX8_longestStep 32 = .ok (.iconst 0, 1) := by decide +kernel
theorem dX8_longestStep_33 : decode cX8_longestStep 33 = .ok (.istore 4, 2) := by decide +kernel
theorem dX8_longestStep_35 : decode cX8_longestStep 35 = .ok (.iload 4, 2) := by decide +kernel
theorem dX8_longestStep_37 : decode cX8_longestStep 37 = .ok (.ifCond .eq 7, 3) := by decide +kernel
theorem dX8_longestStep_40 : decode cX8_longestStep 40 = .ok (.iconst 1, 1) := by decide +kernel
theorem dX8_longestStep_41 : decode cX8_longestStep 41 = .ok (.goto 4, 3) := by decide +kernel
theorem dX8_longestStep_44 : decode cX8_longestStep 44 = .ok (.iload_n 3, 1) := by decide +kernel
theorem dX8_longestStep_45 : decode cX8_longestStep 45 = .ok (.ireturn, 1) := by decide +kernel
theorem dX8_classOf_0 : decode cX8_classOf 0 = .ok (.iconst 0, 1) := by decide +kernel
theorem dX8_classOf_1 : decode cX8_classOf 1 = .ok (.istore_n 1, 1) := by decide +kernel
theorem dX8_classOf_2 : decode cX8_classOf 2 = .ok (.iconst 1, 1) := by decide +kernel
theorem dX8_classOf_3 : decode cX8_classOf 3 = .ok (.istore_n 2, 1) := by decide +kernel
theorem dX8_classOf_4 : decode cX8_classOf 4 = .ok (.iload_n 2, 1) := by decide +kernel
theorem dX8_classOf_5 : decode cX8_classOf 5 = .ok (.bipush 31, 2) := by decide +kernel
theorem dX8_classOf_7 : decode cX8_classOf 7 = .ok (.if_icmp .ge 17, 3) := by decide +kernel
theorem dX8_classOf_10 : decode cX8_classOf 10 = .ok (.iload_n 0, 1) := by decide +kernel
theorem dX8_classOf_11 : decode cX8_classOf 11 = .ok (.iload_n 2, 1) := by decide +kernel
theorem dX8_classOf_12 : decode cX8_classOf 12 = .ok (.ishr, 1) := by decide +kernel
theorem dX8_classOf_13 : decode cX8_classOf 13 = .ok (.ifCond .le 11, 3) := by decide +kernel
theorem dX8_classOf_16 : decode cX8_classOf 16 = .ok (.iload_n 2, 1) := by decide +kernel
theorem dX8_classOf_17 : decode cX8_classOf 17 = .ok (.istore_n 1, 1) := by decide +kernel
theorem dX8_classOf_18 : decode cX8_classOf 18 = .ok (.iinc 2 1, 3) := by decide +kernel
theorem dX8_classOf_21 : decode cX8_classOf 21 = .ok (.goto (-17), 3) := by decide +kernel
theorem dX8_classOf_24 : decode cX8_classOf 24 = .ok (.iload_n 1, 1) := by decide +kernel
theorem dX8_classOf_25 : decode cX8_classOf 25 = .ok (.ireturn, 1) := by decide +kernel
end
section
theorem dX9_init_0 : decode cX9_init 0 = .ok (.aload_n 0, 1) := by decide +kernel
theorem dX9_init_1 : decode cX9_init 1 = .ok (.invokespecial 1, 3) := by decide +kernel
theorem dX9_init_4 : decode cX9_init 4 = .ok (.aload_n 0, 1) := by decide +kernel
theorem dX9_init_5 : decode cX9_init 5 = .ok (.sipush 500, 3) := by decide +kernel
theorem dX9_init_8 : decode cX9_init 8 = .ok (.newarray .int, 2) := by decide +kernel
theorem dX9_init_10 : decode cX9_init 10 = .ok (.putfield 7, 3) := by decide +kernel
theorem dX9_init_13 : decode cX9_init 13 = .ok (.aload_n 0, 1) := by decide +kernel
theorem dX9_init_14 : decode cX9_init 14 = .ok (.iconst 3, 1) := by decide +kernel
theorem dX9_init_15 : decode cX9_init 15 = .ok (.putfield 13, 3) := by decide +kernel
theorem dX9_init_18 : decode cX9_init 18 = .ok (.aload_n 0, 1) := by decide +kernel
theorem dX9_init_19 : decode cX9_init 19 = .ok (.bipush 64, 2) := by decide +kernel
theorem dX9_init_21 : decode cX9_init 21 = .ok (.putfield 17, 3) := by decide +kernel
theorem dX9_init_24 : decode cX9_init 24 = .ok (.aload_n 0, 1) := by decide +kernel
theorem dX9_init_25 : decode cX9_init 25 = .ok (.sipush 500, 3) := by decide +kernel
theorem dX9_init_28 : decode cX9_init 28 = .ok (.putfield 20, 3) := by decide +kernel
theorem dX9_init_31 : decode cX9_init 31 = .ok (.aload_n 0, 1) := by decide +kernel
theorem dX9_init_32 : decode cX9_init 32 = .ok (.bipush 26, 2) := by decide +kernel
theorem dX9_init_34 : decode cX9_init 34 = .ok (.newarray .int, 2) := by decide +kernel
theorem dX9_init_36 : decode cX9_init 36 = .ok (.putfield 23, 3) := by decide +kernel
theorem dX9_init_39 : decode cX9_init 39 = .ok (.aload_n 0, 1) := by decide +kernel
theorem dX9_init_40 : decode cX9_init 40 = .ok (.ldc 26, 2) := by decide +kernel
theorem dX9_init_42 : decode cX9_init 42 = .ok (.newarray .short, 2) := by decide +kernel
theorem dX9_init_44 : decode cX9_init 44 = .ok (.putfield 27, 3) := by decide +kernel
theorem dX9_init_47 : decode cX9_init 47 = .ok (.aload_n 0, 1) := by decide +kernel
theorem dX9_init_48 : decode cX9_init 48 = .ok (.sipush 501, 3) := by decide +kernel
theorem dX9_init_51 : decode cX9_init 51 = .ok (.newarray .int, 2) := by decide +kernel
theorem dX9_init_53 : decode cX9_init 53 = .ok (.putfield 31, 3) := by decide +kernel
theorem dX9_init_56 : decode cX9_init 56 = .ok (.aload_n 0, 1) := by decide +kernel
theorem dX9_init_57 : decode cX9_init 57 = .ok (.sipush 500, 3) := by decide +kernel
theorem dX9_init_60 : decode cX9_init 60 = .ok (.newarray .int, 2) := by decide +kernel
theorem dX9_init_62 : decode cX9_init 62 = .ok (.putfield 34, 3) := by decide +kernel
theorem dX9_init_65 : decode cX9_init 65 = .ok (.aload_n 0, 1) := by decide +kernel
theorem dX9_init_66 : decode cX9_init 66 = .ok (.sipush 500, 3) := by decide +kernel
theorem dX9_init_69 : decode cX9_init 69 = .ok (.newarray .int, 2) := by decide +kernel
theorem dX9_init_71 : decode cX9_init 71 = .ok (.putfield 37, 3) := by decide +kernel
theorem dX9_init_74 : decode cX9_init 74 = .ok (.aload_n 0, 1) := by decide +kernel
theorem dX9_init_75 : decode cX9_init 75 = .ok (.sipush 500, 3) := by decide +kernel
theorem dX9_init_78 : decode cX9_init 78 = .ok (.newarray .int, 2) := by decide +kernel
theorem dX9_init_80 : decode cX9_init 80 = .ok (.putfield 40, 3) := by decide +kernel
theorem dX9_init_83 : decode cX9_init 83 = .ok (.aload_n 0, 1) := by decide +kernel
theorem dX9_init_84 : decode cX9_init 84 = .ok (.sipush 500, 3) := by decide +kernel
theorem dX9_init_87 : decode cX9_init 87 = .ok (.newarray .int, 2) := by decide +kernel
theorem dX9_init_89 : decode cX9_init 89 = .ok (.putfield 43, 3) := by decide +kernel
theorem dX9_init_92 : decode cX9_init 92 = .ok (.aload_n 0, 1) := by decide +kernel
theorem dX9_init_93 : decode cX9_init 93 = .ok (.sipush 5600, 3) := by decide +kernel
theorem dX9_init_96 : decode cX9_init 96 = .ok (.newarray .boolean, 2) := by decide +kernel
theorem dX9_init_98 : decode cX9_init 98 = .ok (.putfield 46, 3) := by decide +kernel
theorem dX9_init_101 : decode cX9_init 101 = .ok (.aload_n 0, 1) := by decide +kernel
theorem dX9_init_102 : decode cX9_init 102 = .ok (.sipush 700, 3) := by decide +kernel
theorem dX9_init_105 : decode cX9_init 105 = .ok (.newarray .int, 2) := by decide +kernel
theorem dX9_init_107 : decode cX9_init 107 = .ok (.putfield 50, 3) := by decide +kernel
theorem dX9_init_110 : decode cX9_init 110 = .ok (.aload_n 0, 1) := by decide +kernel
theorem dX9_init_111 : decode cX9_init 111 = .ok (.sipush 500, 3) := by decide +kernel
theorem dX9_init_114 : decode cX9_init 114 = .ok (.newarray .int, 2) := by decide +kernel
theorem dX9_init_116 : decode cX9_init 116 = .ok (.putfield 53, 3) := by decide +kernel
theorem dX9_init_119 : decode cX9_init 119 = .ok (.aload_n 0, 1) := by decide +kernel
theorem dX9_init_120 : decode cX9_init 120 = .ok (.sipush 500, 3) := by decide +kernel
theorem dX9_init_123 : decode cX9_init 123 = .ok (.newarray .int, 2) := by decide +kernel
theorem dX9_init_125 : decode cX9_init 125 = .ok (.putfield 56, 3) := by decide +kernel
theorem dX9_init_128 : decode cX9_init 128 = .ok (.aload_n 0, 1) := by decide +kernel
theorem dX9_init_129 : decode cX9_init 129 = .ok (.iconst (-1), 1) := by decide +kernel
theorem dX9_init_130 : decode cX9_init 130 = .ok (.putfield 59, 3) := by decide +kernel
theorem dX9_init_133 : decode cX9_init 133 = .ok (.aload_n 0, 1) := by decide +kernel
theorem dX9_init_134 : decode cX9_init 134 = .ok (.bipush 9, 2) := by decide +kernel
theorem dX9_init_136 : decode cX9_init 136 = .ok (.newarray .int, 2) := by decide +kernel
theorem dX9_init_138 : decode cX9_init 138 = .ok (.putfield 62, 3) := by decide +kernel
theorem dX9_init_141 : decode cX9_init 141 = .ok (.iconst 0, 1) := by decide +kernel
theorem dX9_init_142 : decode cX9_init 142 = .ok (.istore_n 1, 1) := by decide +kernel
theorem dX9_init_143 : decode cX9_init 143 = .ok (.iload_n 1, 1) := by decide +kernel
theorem dX9_init_144 : decode cX9_init 144 = .ok (.bipush 26, 2) := by decide +kernel
theorem dX9_init_146 : decode cX9_init 146 = .ok (.if_icmp .ge 17, 3) := by decide +kernel
theorem dX9_init_149 : decode cX9_init 149 = .ok (.aload_n 0, 1) := by decide +kernel
theorem dX9_init_150 : decode cX9_init 150 = .ok (.getfield 23, 3) := by decide +kernel
theorem dX9_init_153 : decode cX9_init 153 = .ok (.iload_n 1, 1) := by decide +kernel
theorem dX9_init_154 : decode cX9_init 154 = .ok (.bipush 8, 2) := by decide +kernel
theorem dX9_init_156 : decode cX9_init 156 = .ok (.iastore, 1) := by decide +kernel
theorem dX9_init_157 : decode cX9_init 157 = .ok (.iinc 1 1, 3) := by decide +kernel
theorem dX9_init_160 : decode cX9_init 160 = .ok (.goto (-17), 3) := by decide +kernel
theorem dX9_init_163 : decode cX9_init 163 = .ok (.return_, 1) := by decide +kernel
theorem dX9_classOf_0 : decode cX9_classOf 0 = .ok (.iconst 0, 1) := by decide +kernel
theorem dX9_classOf_1 : decode cX9_classOf 1 = .ok (.istore_n 1, 1) := by decide +kernel
theorem dX9_classOf_2 : decode cX9_classOf 2 = .ok (.iload_n 0, 1) := by decide +kernel
theorem dX9_classOf_3 : decode cX9_classOf 3 = .ok (.istore_n 2, 1) := by decide +kernel
theorem dX9_classOf_4 : decode cX9_classOf 4 = .ok (.iload_n 2, 1) := by decide +kernel
theorem dX9_classOf_5 : decode cX9_classOf 5 = .ok (.iconst 1, 1) := by decide +kernel
theorem dX9_classOf_6 : decode cX9_classOf 6 = .ok (.if_icmp .le 13, 3) := by decide +kernel
theorem dX9_classOf_9 : decode cX9_classOf 9 = .ok (.iinc 1 1, 3) := by decide +kernel
theorem dX9_classOf_12 : decode cX9_classOf 12 = .ok (.iload_n 2, 1) := by decide +kernel
theorem dX9_classOf_13 : decode cX9_classOf 13 = .ok (.iconst 2, 1) := by decide +kernel
theorem dX9_classOf_14 : decode cX9_classOf 14 = .ok (.idiv, 1) := by decide +kernel
theorem dX9_classOf_15 : decode cX9_classOf 15 = .ok (.istore_n 2, 1) := by decide +kernel
theorem dX9_classOf_16 : decode cX9_classOf 16 = .ok (.goto (-12), 3) := by decide +kernel
theorem dX9_classOf_19 : decode cX9_classOf 19 = .ok (.iload_n 1, 1) := by decide +kernel
theorem dX9_classOf_20 : decode cX9_classOf 20 = .ok (.ireturn, 1) := by decide +kernel
theorem dX9_type_0 : decode cX9_type 0 = .ok (.aload_n 0, 1) := by decide +kernel
theorem dX9_type_1 : decode cX9_type 1 = .ok (.iconst 0, 1) := by decide +kernel
theorem dX9_type_2 : decode cX9_type 2 = .ok (.putfield 65, 3) := by decide +kernel
theorem dX9_type_5 : decode cX9_type 5 = .ok (.iload_n 3, 1) := by decide +kernel
theorem dX9_type_6 : decode cX9_type 6 = .ok (.iconst 1, 1) := by decide +kernel
theorem dX9_type_7 : decode cX9_type 7 = .ok (.if_icmp .lt 21, 3) := by decide +kernel
theorem dX9_type_10 : decode cX9_type 10 = .ok (.iload_n 3, 1) := by decide +kernel
theorem dX9_type_11 : decode cX9_type 11 = .ok (.bipush 8, 2) := by decide +kernel
theorem dX9_type_13 : decode cX9_type 13 = .ok (.if_icmp .gt 15, 3) := by decide +kernel
theorem dX9_type_16 : decode cX9_type 16 = .ok (.aload_n 0, 1) := by decide +kernel
theorem dX9_type_17 : decode cX9_type 17 = .ok (.getfield 68, 3) := by decide +kernel
theorem dX9_type_20 : decode cX9_type 20 = .ok (.iload_n 3, 1) := by decide +kernel
theorem dX9_type_21 : decode cX9_type 21 = .ok (.iadd, 1) := by decide +kernel
theorem dX9_type_22 : decode cX9_type 22 = .ok (.sipush 500, 3) := by decide +kernel
theorem dX9_type_25 : decode cX9_type 25 = .ok (.if_icmp .le 5, 3) := by decide +kernel
theorem dX9_type_28 : decode cX9_type 28 = .ok (.iconst (-1), 1) := by decide +kernel
theorem dX9_type_29 : decode cX9_type 29 = .ok (.ireturn, 1) := by decide +kernel
theorem dX9_type_30 : decode cX9_type 30 = .ok (.iload_n 3, 1) := by decide +kernel
theorem dX9_type_31 : decode cX9_type 31 = .ok (.iconst 1, 1) := by decide +kernel
theorem dX9_type_32 : decode cX9_type 32 = .ok (.isub, 1) := by decide +kernel
theorem dX9_type_33 : decode cX9_type 33 = .ok (.istore 4, 2) := by decide +kernel
theorem dX9_type_35 : decode cX9_type 35 = .ok (.iload 4, 2) := by decide +kernel
theorem dX9_type_37 : decode cX9_type 37 = .ok (.ifCond .lt 40, 3) := by decide +kernel
theorem dX9_type_40 : decode cX9_type 40 = .ok (.aload_n 0, 1) := by decide +kernel
theorem dX9_type_41 : decode cX9_type 41 = .ok (.getfield 7, 3) := by decide +kernel
theorem dX9_type_44 : decode cX9_type 44 = .ok (.aload_n 0, 1) := by decide +kernel
theorem dX9_type_45 : decode cX9_type 45 = .ok (.getfield 68, 3) := by decide +kernel
theorem dX9_type_48 : decode cX9_type 48 = .ok (.lload_n 1, 1) := by decide +kernel
theorem dX9_type_49 : decode cX9_type 49 = .ok (.bipush 8, 2) := by decide +kernel
theorem dX9_type_51 : decode cX9_type 51 = .ok (.iload 4, 2) := by decide +kernel
theorem dX9_type_53 : decode cX9_type 53 = .ok (.imul, 1) := by decide +kernel
theorem dX9_type_54 : decode cX9_type 54 = .ok (.lshr, 1) := by decide +kernel
theorem dX9_type_55 : decode cX9_type 55 = .ok (.ldc2_w 71, 3) := by decide +kernel
theorem dX9_type_58 : decode cX9_type 58 = .ok (.land, 1) := by decide +kernel
theorem dX9_type_59 : decode cX9_type 59 = .ok (.l2i, 1) := by decide +kernel
theorem dX9_type_60 : decode cX9_type 60 = .ok (.iastore, 1) := by decide +kernel
theorem dX9_type_61 : decode cX9_type 61 = .ok (.aload_n 0, 1) := by decide +kernel
theorem dX9_type_62 : decode cX9_type 62 = .ok (.dup, 1) := by decide +kernel
theorem dX9_type_63 : decode cX9_type 63 = .ok (.getfield 68, 3) := by decide +kernel
theorem dX9_type_66 : decode cX9_type 66 = .ok (.iconst 1, 1) := by decide +kernel
theorem dX9_type_67 : decode cX9_type 67 = .ok (.iadd, 1) := by decide +kernel
theorem dX9_type_68 : decode cX9_type 68 = .ok (.putfield 68, 3) := by decide +kernel
theorem dX9_type_71 : decode cX9_type 71 = .ok (.iinc 4 (-1), 3) := by decide +kernel
theorem dX9_type_74 : decode cX9_type 74 = .ok (.goto (-39), 3) := by decide +kernel
theorem dX9_type_77 : decode cX9_type 77 = .ok (.aload_n 0, 1) := by decide +kernel
theorem dX9_type_78 : decode cX9_type 78 = .ok (.iconst 0, 1) := by decide +kernel
theorem dX9_type_79 : decode cX9_type 79 = .ok (.putfield 73, 3) := by decide +kernel
theorem dX9_type_82 : decode cX9_type 82 = .ok (.aload_n 0, 1) := by decide +kernel
theorem dX9_type_83 : decode cX9_type 83 = .ok (.getfield 68, 3) := by decide +kernel
theorem dX9_type_86 : decode cX9_type 86 = .ok (.ireturn, 1) := by decide +kernel
theorem dX9_fill_0 : decode cX9_fill 0 = .ok (.aload_n 0, 1) := by decide +kernel
theorem dX9_fill_1 : decode cX9_fill 1 = .ok (.iconst 0, 1) := by decide +kernel
theorem dX9_fill_2 : decode cX9_fill 2 = .ok (.putfield 65, 3) := by decide +kernel
theorem dX9_fill_5 : decode cX9_fill 5 = .ok (.iload_n 2, 1) := by decide +kernel
theorem dX9_fill_6 : decode cX9_fill 6 = .ok (.iconst 1, 1) := by decide +kernel
theorem dX9_fill_7 : decode cX9_fill 7 = .ok (.if_icmp .lt 22, 3) := by decide +kernel
theorem dX9_fill_10 : decode cX9_fill 10 = .ok (.iload_n 2, 1) := by decide +kernel
theorem dX9_fill_11 : decode cX9_fill 11 = .ok (.sipush 500, 3) := by decide +kernel
theorem dX9_fill_14 : decode cX9_fill 14 = .ok (.if_icmp .gt 15, 3) := by decide +kernel
theorem dX9_fill_17 : decode cX9_fill 17 = .ok (.aload_n 0, 1) := by decide +kernel
theorem dX9_fill_18 : decode cX9_fill 18 = .ok (.getfield 68, 3) := by decide +kernel
theorem dX9_fill_21 : decode cX9_fill 21 = .ok (.iload_n 2, 1) := by decide +kernel
theorem dX9_fill_22 : decode cX9_fill 22 = .ok (.iadd, 1) := by decide +kernel
theorem dX9_fill_23 : decode cX9_fill 23 = .ok (.sipush 500, 3) := by decide +kernel
theorem dX9_fill_26 : decode cX9_fill 26 = .ok (.if_icmp .le 5, 3) := by decide +kernel
theorem dX9_fill_29 : decode cX9_fill 29 = .ok (.iconst (-1), 1) := by decide +kernel
theorem dX9_fill_30 : decode cX9_fill 30 = .ok (.ireturn, 1) := by decide +kernel
theorem dX9_fill_31 : decode cX9_fill 31 = .ok (.iconst 0, 1) := by decide +kernel
theorem dX9_fill_32 : decode cX9_fill 32 = .ok (.istore_n 3, 1) := by decide +kernel
theorem dX9_fill_33 : decode cX9_fill 33 = .ok (.iload_n 3, 1) := by decide +kernel
theorem dX9_fill_34 : decode cX9_fill 34 = .ok (.iload_n 2, 1) := by decide +kernel
theorem dX9_fill_35 : decode cX9_fill 35 = .ok (.if_icmp .ge 33, 3) := by decide +kernel
theorem dX9_fill_38 : decode cX9_fill 38 = .ok (.aload_n 0, 1) := by decide +kernel
theorem dX9_fill_39 : decode cX9_fill 39 = .ok (.getfield 7, 3) := by decide +kernel
theorem dX9_fill_42 : decode cX9_fill 42 = .ok (.aload_n 0, 1) := by decide +kernel
theorem dX9_fill_43 : decode cX9_fill 43 = .ok (.getfield 68, 3) := by decide +kernel
theorem dX9_fill_46 : decode cX9_fill 46 = .ok (.iload_n 1, 1) := by decide +kernel
theorem dX9_fill_47 : decode cX9_fill 47 = .ok (.sipush 255, 3) := by decide +kernel
theorem dX9_fill_50 : decode cX9_fill 50 = .ok (.iand, 1) := by decide +kernel
theorem dX9_fill_51 : decode cX9_fill 51 = .ok (.iastore, 1) := by decide +kernel
theorem dX9_fill_52 : decode cX9_fill 52 = .ok (.aload_n 0, 1) := by decide +kernel
theorem dX9_fill_53 : decode cX9_fill 53 = .ok (.dup, 1) := by decide +kernel
theorem dX9_fill_54 : decode cX9_fill 54 = .ok (.getfield 68, 3) := by decide +kernel
theorem dX9_fill_57 : decode cX9_fill 57 = .ok (.iconst 1, 1) := by decide +kernel
theorem dX9_fill_58 : decode cX9_fill 58 = .ok (.iadd, 1) := by decide +kernel
theorem dX9_fill_59 : decode cX9_fill 59 = .ok (.putfield 68, 3) := by decide +kernel
theorem dX9_fill_62 : decode cX9_fill 62 = .ok (.iinc 3 1, 3) := by decide +kernel
theorem dX9_fill_65 : decode cX9_fill 65 = .ok (.goto (-32), 3) := by decide +kernel
theorem dX9_fill_68 : decode cX9_fill 68 = .ok (.aload_n 0, 1) := by decide +kernel
theorem dX9_fill_69 : decode cX9_fill 69 = .ok (.iconst 0, 1) := by decide +kernel
theorem dX9_fill_70 : decode cX9_fill 70 = .ok (.putfield 73, 3) := by decide +kernel
theorem dX9_fill_73 : decode cX9_fill 73 = .ok (.aload_n 0, 1) := by decide +kernel
theorem dX9_fill_74 : decode cX9_fill 74 = .ok (.getfield 68, 3) := by decide +kernel
theorem dX9_fill_77 : decode cX9_fill 77 = .ok (.ireturn, 1) := by decide +kernel
theorem dX9_clear_0 : decode cX9_clear 0 = .ok (.aload_n 0, 1) := by decide +kernel
theorem dX9_clear_1 : decode cX9_clear 1 = .ok (.iconst 0, 1) := by decide +kernel
theorem dX9_clear_2 : decode cX9_clear 2 = .ok (.putfield 65, 3) := by decide +kernel
theorem dX9_clear_5 : decode cX9_clear 5 = .ok (.aload_n 0, 1) := by decide +kernel
theorem dX9_clear_6 : decode cX9_clear 6 = .ok (.getfield 68, 3) := by decide +kernel
theorem dX9_clear_9 : decode cX9_clear 9 = .ok (.istore_n 1, 1) := by decide +kernel
theorem dX9_clear_10 : decode cX9_clear 10 = .ok (.aload_n 0, 1) := by decide +kernel
theorem dX9_clear_11 : decode cX9_clear 11 = .ok (.iconst 0, 1) := by decide +kernel
theorem dX9_clear_12 : decode cX9_clear 12 = .ok (.putfield 68, 3) := by decide +kernel
theorem dX9_clear_15 : decode cX9_clear 15 = .ok (.aload_n 0, 1) := by decide +kernel
theorem dX9_clear_16 : decode cX9_clear 16 = .ok (.iconst 0, 1) := by decide +kernel
theorem dX9_clear_17 : decode cX9_clear 17 = .ok (.putfield 73, 3) := by decide +kernel
theorem dX9_clear_20 : decode cX9_clear 20 = .ok (.iload_n 1, 1) := by decide +kernel
theorem dX9_clear_21 : decode cX9_clear 21 = .ok (.ireturn, 1) := by decide +kernel
theorem dX9_limits_0 : decode cX9_limits 0 = .ok (.aload_n 0, 1) := by decide +kernel
theorem dX9_limits_1 : decode cX9_limits 1 = .ok (.iconst 0, 1) := by decide +kernel
theorem dX9_limits_2 : decode cX9_limits 2 = .ok (.putfield 65, 3) := by decide +kernel
theorem dX9_limits_5 : decode cX9_limits 5 = .ok (.iload_n 1, 1) := by decide +kernel
theorem dX9_limits_6 : decode cX9_limits 6 = .ok (.iconst 2, 1) := by decide +kernel
theorem dX9_limits_7 : decode cX9_limits 7 = .ok (.if_icmp .lt 33, 3) := by decide +kernel
theorem dX9_limits_10 : decode cX9_limits 10 = .ok (.iload_n 1, 1) := by decide +kernel
theorem dX9_limits_11 : decode cX9_limits 11 = .ok (.bipush 16, 2) := by decide +kernel
theorem dX9_limits_13 : decode cX9_limits 13 = .ok (.if_icmp .gt 27, 3) := by decide +kernel
theorem dX9_limits_16 : decode cX9_limits 16 = .ok (.iload_n 2, 1) := by decide +kernel
theorem dX9_limits_17 : decode cX9_limits 17 = .ok (.iload_n 1, 1) := by decide +kernel
theorem dX9_limits_18 : decode cX9_limits 18 = .ok (.if_icmp .lt 22, 3) := by decide +kernel
theorem dX9_limits_21 : decode cX9_limits 21 = .ok (.iload_n 2, 1) := by decide +kernel
theorem dX9_limits_22 : decode cX9_limits 22 = .ok (.sipush 255, 3) := by decide +kernel
theorem dX9_limits_25 : decode cX9_limits 25 = .ok (.if_icmp .gt 15, 3) := by decide +kernel
theorem dX9_limits_28 : decode cX9_limits 28 = .ok (.iload_n 3, 1) := by decide +kernel
theorem dX9_limits_29 : decode cX9_limits 29 = .ok (.iconst 1, 1) := by decide +kernel
theorem dX9_limits_30 : decode cX9_limits 30 = .ok (.if_icmp .lt 10, 3) := by decide +kernel
theorem dX9_limits_33 : decode cX9_limits 33 = .ok (.iload_n 3, 1) := by decide +kernel
theorem dX9_limits_34 : decode cX9_limits 34 = .ok (.sipush 500, 3) := by decide +kernel
theorem dX9_limits_37 : decode cX9_limits 37 = .ok (.if_icmp .le 5, 3) := by decide +kernel
theorem dX9_limits_40 : decode cX9_limits 40 = .ok (.iconst 0, 1) := by decide +kernel
theorem dX9_limits_41 : decode cX9_limits 41 = .ok (.ireturn, 1) := by decide +kernel
theorem dX9_limits_42 : decode cX9_limits 42 = .ok (.aload_n 0, 1) := by decide +kernel
theorem dX9_limits_43 : decode cX9_limits 43 = .ok (.iload_n 1, 1) := by decide +kernel
theorem dX9_limits_44 : decode cX9_limits 44 = .ok (.putfield 13, 3) := by decide +kernel
theorem dX9_limits_47 : decode cX9_limits 47 = .ok (.aload_n 0, 1) := by decide +kernel
theorem dX9_limits_48 : decode cX9_limits 48 = .ok (.iload_n 2, 1) := by decide +kernel
theorem dX9_limits_49 : decode cX9_limits 49 = .ok (.putfield 17, 3) := by decide +kernel
theorem dX9_limits_52 : decode cX9_limits 52 = .ok (.aload_n 0, 1) := by decide +kernel
theorem dX9_limits_53 : decode cX9_limits 53 = .ok (.iload_n 3, 1) := by decide +kernel
theorem dX9_limits_54 : decode cX9_limits 54 = .ok (.putfield 20, 3) := by decide +kernel
theorem dX9_limits_57 : decode cX9_limits 57 = .ok (.aload_n 0, 1) := by decide +kernel
theorem dX9_limits_58 : decode cX9_limits 58 = .ok (.iconst 0, 1) := by decide +kernel
theorem dX9_limits_59 : decode cX9_limits 59 = .ok (.putfield 73, 3) := by decide +kernel
theorem dX9_limits_62 : decode cX9_limits 62 = .ok (.iconst 1, 1) := by decide +kernel
theorem dX9_limits_63 : decode cX9_limits 63 = .ok (.ireturn, 1) := by decide +kernel
theorem dX9_price_0 : decode cX9_price 0 = .ok (.aload_n 0, 1) := by decide +kernel
theorem dX9_price_1 : decode cX9_price 1 = .ok (.iconst 0, 1) := by decide +kernel
theorem dX9_price_2 : decode cX9_price 2 = .ok (.putfield 65, 3) := by decide +kernel
theorem dX9_price_5 : decode cX9_price 5 = .ok (.iload_n 1, 1) := by decide +kernel
theorem dX9_price_6 : decode cX9_price 6 = .ok (.ifCond .eq 8, 3) := by decide +kernel
theorem dX9_price_9 : decode cX9_price 9 = .ok (.iload_n 1, 1) := by decide +kernel
theorem dX9_price_10 : decode cX9_price 10 = .ok (.iconst 2, 1) := by decide +kernel
theorem dX9_price_11 : decode cX9_price 11 = .ok (.if_icmp .ne 8, 3) := by decide +kernel
theorem dX9_price_14 : decode cX9_price 14 = .ok (.bipush 8, 2) := by decide +kernel
theorem dX9_price_16 : decode cX9_price 16 = .ok (.goto 23, 3) := by decide +kernel
theorem dX9_price_19 : decode cX9_price 19 = .ok (.iload_n 1, 1) := by decide +kernel
theorem dX9_price_20 : decode cX9_price 20 = .ok (.iconst 1, 1) := by decide +kernel
theorem dX9_price_21 : decode cX9_price 21 = .ok (.if_icmp .ne 7, 3) := by decide +kernel
theorem dX9_price_24 : decode cX9_price 24 = .ok (.iconst 1, 1) := by decide +kernel
theorem dX9_price_25 : decode cX9_price 25 = .ok (.goto 14, 3) := by decide +kernel
theorem dX9_price_28 : decode cX9_price 28 = .ok (.iload_n 1, 1) := by decide +kernel
theorem dX9_price_29 : decode cX9_price 29 = .ok (.iconst 3, 1) := by decide +kernel
theorem dX9_price_30 : decode cX9_price 30 = .ok (.if_icmp .ne 8, 3) := by decide +kernel
theorem dX9_price_33 : decode cX9_price 33 = .ok (.bipush 9, 2) := by decide +kernel
theorem dX9_price_35 : decode cX9_price 35 = .ok (.goto 4, 3) := by decide +kernel
theorem dX9_price_38 : decode cX9_price 38 = .ok (.iconst 0, 1) := by decide +kernel
theorem dX9_price_39 : decode cX9_price 39 = .ok (.istore 4, 2) := by decide +kernel
theorem dX9_price_41 : decode cX9_price 41 = .ok (.iload_n 2, 1) := by decide +kernel
theorem dX9_price_42 : decode cX9_price 42 = .ok (.ifCond .lt 21, 3) := by decide +kernel
theorem dX9_price_45 : decode cX9_price 45 = .ok (.iload_n 2, 1) := by decide +kernel
theorem dX9_price_46 : decode cX9_price 46 = .ok (.iload 4, 2) := by decide +kernel
theorem dX9_price_48 : decode cX9_price 48 = .ok (.if_icmp .ge 15, 3) := by decide +kernel
theorem dX9_price_51 : decode cX9_price 51 = .ok (.iload_n 3, 1) := by decide +kernel
theorem dX9_price_52 : decode cX9_price 52 = .ok (.iconst 1, 1) := by decide +kernel
theorem dX9_price_53 : decode cX9_price 53 = .ok (.if_icmp .lt 10, 3) := by decide +kernel
theorem dX9_price_56 : decode cX9_price 56 = .ok (.iload_n 3, 1) := by decide +kernel
theorem dX9_price_57 : decode cX9_price 57 = .ok (.sipush 1000, 3) := by decide +kernel
theorem dX9_price_60 : decode cX9_price 60 = .ok (.if_icmp .le 5, 3) := by decide +kernel
theorem dX9_price_63 : decode cX9_price 63 = .ok (.iconst 0, 1) := by decide +kernel
theorem dX9_price_64 : decode cX9_price 64 = .ok (.ireturn, 1) := by decide +kernel
theorem dX9_price_65 : decode cX9_price 65 = .ok (.aload_n 0, 1) := by decide +kernel
theorem dX9_price_66 : decode cX9_price 66 = .ok (.getfield 23, 3) := by decide +kernel
theorem dX9_price_69 : decode cX9_price 69 = .ok (.iload_n 1, 1) := by decide +kernel
theorem dX9_price_70 : decode cX9_price 70 = .ok (.ifCond .ne 7, 3) := by decide +kernel
theorem dX9_price_73 : decode cX9_price 73 = .ok (.iconst 0, 1) := by decide +kernel
theorem dX9_price_74 : decode cX9_price 74 = .ok (.goto 25, 3) := by decide +kernel
theorem dX9_price_77 : decode cX9_price 77 = .ok (.iload_n 1, 1) := by decide +kernel
theorem dX9_price_78 : decode cX9_price 78 = .ok (.iconst 1, 1) := by decide +kernel
theorem dX9_price_79 : decode cX9_price 79 = .ok (.if_icmp .ne 8, 3) := by decide +kernel
theorem dX9_price_82 : decode cX9_price 82 = .ok (.bipush 8, 2) := by decide +kernel
theorem dX9_price_84 : decode cX9_price 84 = .ok (.goto 15, 3) := by decide +kernel
theorem dX9_price_87 : decode cX9_price 87 = .ok (.iload_n 1, 1) := by decide +kernel
theorem dX9_price_88 : decode cX9_price 88 = .ok (.iconst 2, 1) := by decide +kernel
theorem dX9_price_89 : decode cX9_price 89 = .ok (.if_icmp .ne 8, 3) := by decide +kernel
theorem dX9_price_92 : decode cX9_price 92 = .ok (.bipush 9, 2) := by decide +kernel
theorem dX9_price_94 : decode cX9_price 94 = .ok (.goto 5, 3) := by decide +kernel
theorem dX9_price_97 : decode cX9_price 97 = .ok (.bipush 17, 2) := by decide +kernel
theorem dX9_price_99 : decode cX9_price 99 = .ok (.iload_n 2, 1) := by decide +kernel
theorem dX9_price_100 : decode cX9_price 100 = .ok (.iadd, 1) := by decide +kernel
theorem dX9_price_101 : decode cX9_price 101 = .ok (.iload_n 3, 1) := by decide +kernel
theorem dX9_price_102 : decode cX9_price 102 = .ok (.iastore, 1) := by decide +kernel
theorem dX9_price_103 : decode cX9_price 103 = .ok (.aload_n 0, 1) := by decide +kernel
theorem dX9_price_104 : decode cX9_price 104 = .ok (.iconst 0, 1) := by decide +kernel
theorem dX9_price_105 : decode cX9_price 105 = .ok (.putfield 73, 3) := by decide +kernel
theorem dX9_price_108 : decode cX9_price 108 = .ok (.iconst 1, 1) := by decide +kernel
theorem dX9_price_109 : decode cX9_price 109 = .ok (.ireturn, 1) := by decide +kernel
set_option maxRecDepth 20000 in
theorem ggX9_priceOf_X9_classOf : GoodIn wsX9_priceOf wsX9_classOf := goodIn_r _ [6] (by decide +kernel) (by decide +kernel)
set_option maxRecDepth 20000 in
theorem gX9_priceOf_X9_classOf : GoodIn wsX9_priceOf (va_wsS RX9 77 yX9_classOf wsX9_classOf) := goodIn_app (goodIn_of _ (by decide +kernel)) ggX9_priceOf_X9_classOf
theorem dX9_priceOf_0 : decode cX9_priceOf 0 = .ok (.iload_n 3, 1) := by decide +kernel
theorem dX9_priceOf_1 : decode cX9_priceOf 1 = .ok (.ifCond .ne 20, 3) := by decide +kernel
theorem dX9_priceOf_4 : decode cX9_priceOf 4 = .ok (.aload_n 0, 1) := by decide +kernel
theorem dX9_priceOf_5 : decode cX9_priceOf 5 = .ok (.getfield 23, 3) := by decide +kernel
theorem dX9_priceOf_8 : decode cX9_priceOf 8 = .ok (.aload_n 0, 1) := by decide +kernel
theorem dX9_priceOf_9 : decode cX9_priceOf 9 = .ok (.getfield 7, 3) := by decide +kernel
theorem dX9_priceOf_12 : decode cX9_priceOf 12 = .ok (.iload_n 1, 1) := by decide +kernel
theorem dX9_priceOf_13 : decode cX9_priceOf 13 = .ok (.iaload, 1) := by decide +kernel
theorem dX9_priceOf_14 : decode cX9_priceOf 14 = .ok (.bipush 32, 2) := by decide +kernel
theorem dX9_priceOf_16 : decode cX9_priceOf 16 = .ok (.idiv, 1) := by decide +kernel
theorem dX9_priceOf_17 : decode cX9_priceOf 17 = .ok (.iaload, 1) := by decide +kernel
theorem dX9_priceOf_18 : decode cX9_priceOf 18 = .ok (.goto 36, 3) := by decide +kernel
theorem dX9_priceOf_21 : decode cX9_priceOf 21 = .ok (.aload_n 0, 1) := by decide +kernel
theorem dX9_priceOf_22 : decode cX9_priceOf 22 = .ok (.getfield 23, 3) := by decide +kernel
theorem dX9_priceOf_25 : decode cX9_priceOf 25 = .ok (.bipush 8, 2) := by decide +kernel
theorem dX9_priceOf_27 : decode cX9_priceOf 27 = .ok (.iaload, 1) := by decide +kernel
theorem dX9_priceOf_28 : decode cX9_priceOf 28 = .ok (.aload_n 0, 1) := by decide +kernel
theorem dX9_priceOf_29 : decode cX9_priceOf 29 = .ok (.getfield 23, 3) := by decide +kernel
theorem dX9_priceOf_32 : decode cX9_priceOf 32 = .ok (.bipush 9, 2) := by decide +kernel
theorem dX9_priceOf_34 : decode cX9_priceOf 34 = .ok (.iload_n 2, 1) := by decide +kernel
theorem dX9_priceOf_35 : decode cX9_priceOf 35 = .ok (.invokestatic 77, 3) := by decide +kernel
theorem dX9_priceOf_38 : decode cX9_priceOf 38 = .ok (.iadd, 1) := by decide +kernel
theorem dX9_priceOf_39 : decode cX9_priceOf 39 = .ok (.iaload, 1) := by decide +kernel
theorem dX9_priceOf_40 : decode cX9_priceOf 40 = .ok (.iadd, 1) := by decide +kernel
theorem dX9_priceOf_41 : decode cX9_priceOf 41 = .ok (.aload_n 0, 1) := by decide +kernel
theorem dX9_priceOf_42 : decode cX9_priceOf 42 = .ok (.getfield 23, 3) := by decide +kernel
theorem dX9_priceOf_45 : decode cX9_priceOf 45 = .ok (.bipush 17, 2) := by decide +kernel
theorem dX9_priceOf_47 : decode cX9_priceOf 47 = .ok (.iload_n 3, 1) := by decide +kernel
theorem dX9_priceOf_48 : decode cX9_priceOf 48 = .ok (.invokestatic 77, 3) := by decide +kernel
theorem dX9_priceOf_51 : decode cX9_priceOf 51 = .ok (.iadd, 1) := by decide +kernel
theorem dX9_priceOf_52 : decode cX9_priceOf 52 = .ok (.iaload, 1) := by decide +kernel
theorem dX9_priceOf_53 : decode cX9_priceOf 53 = .ok (.iadd, 1) := by decide +kernel
theorem dX9_priceOf_54 : decode cX9_priceOf 54 = .ok (.ireturn, 1) := by decide +kernel
theorem dX9_longest_0 : decode cX9_longest 0 = .ok (.iload_n 2, 1) := by decide +kernel
theorem dX9_longest_1 : decode cX9_longest 1 = .ok (.iconst 1, 1) := by decide +kernel
theorem dX9_longest_2 : decode cX9_longest 2 = .ok (.if_icmp .lt 16, 3) := by decide +kernel
theorem dX9_longest_5 : decode cX9_longest 5 = .ok (.iload_n 2, 1) := by decide +kernel
theorem dX9_longest_6 : decode cX9_longest 6 = .ok (.aload_n 0, 1) := by decide +kernel
theorem dX9_longest_7 : decode cX9_longest 7 = .ok (.getfield 20, 3) := by decide +kernel
theorem dX9_longest_10 : decode cX9_longest 10 = .ok (.if_icmp .gt 8, 3) := by decide +kernel
theorem dX9_longest_13 : decode cX9_longest 13 = .ok (.iload_n 2, 1) := by decide +kernel
theorem dX9_longest_14 : decode cX9_longest 14 = .ok (.iload_n 1, 1) := by decide +kernel
theorem dX9_longest_15 : decode cX9_longest 15 = .ok (.if_icmp .le 5, 3) := by decide +kernel
theorem dX9_longest_18 : decode cX9_longest 18 = .ok (.iconst 0, 1) := by decide +kernel
theorem dX9_longest_19 : decode cX9_longest 19 = .ok (.ireturn, 1) := by decide +kernel
theorem dX9_longest_20 : decode cX9_longest 20 = .ok (.aload_n 0, 1) := by decide +kernel
theorem dX9_longest_21 : decode cX9_longest 21 = .ok (.getfield 27, 3) := by decide +kernel
theorem dX9_longest_24 : decode cX9_longest 24 = .ok (.sipush 501, 3) := by decide +kernel
theorem dX9_longest_27 : decode cX9_longest 27 = .ok (.iload_n 1, 1) := by decide +kernel
theorem dX9_longest_28 : decode cX9_longest 28 = .ok (.imul, 1) := by decide +kernel
theorem dX9_longest_29 : decode cX9_longest 29 = .ok (.iload_n 1, 1) := by decide +kernel
theorem dX9_longest_30 : decode cX9_longest 30 = .ok (.iadd, 1) := by decide +kernel
theorem dX9_longest_31 : decode cX9_longest 31 = .ok (.iload_n 2, 1) := by decide +kernel
theorem dX9_longest_32 : decode cX9_longest 32 = .ok (.isub, 1) := by decide +kernel
theorem dX9_longest_33 : decode cX9_longest 33 = .ok (.saload, 1) := by decide +kernel
theorem dX9_longest_34 : decode cX9_longest 34 = .ok (.istore_n 3, 1) := by decide +kernel
theorem dX9_longest_35 : decode cX9_longest 35 = .ok (.iload_n 3, 1) := by decide +kernel
theorem dX9_longest_36 : decode cX9_longest 36 = .ok (.aload_n 0, 1) := by decide +kernel
theorem dX9_longest_37 : decode cX9_longest 37 = .ok (.getfield 17, 3) := by decide +kernel
theorem dX9_longest_40 : decode cX9_longest 40 = .ok (.if_icmp .le 10, 3) := by decide +kernel
theorem dX9_longest_43 : decode cX9_longest 43 = .ok (.aload_n 0, 1) := by decide +kernel
theorem dX9_longest_44 : decode cX9_longest 44 = .ok (.getfield 17, 3) := by decide +kernel
theorem dX9_longest_47 : decode cX9_longest 47 = .ok (.goto 4, 3) := by decide +kernel
theorem dX9_longest_50 : decode cX9_longest 50 = .ok (.iload_n 3, 1) := by decide +kernel
theorem dX9_longest_51 : decode cX9_longest 51 = .ok (.istore_n 3, 1) := by decide +kernel
theorem dX9_longest_52 : decode cX9_longest 52 = .ok (.iload_n 3, 1) := by decide +kernel
theorem dX9_longest_53 : decode cX9_longest 53 = .ok (.aload_n 0, 1) := by decide +kernel
theorem dX9_longest_54 : decode cX9_longest 54 = .ok (.getfield 13, 3) := by decide +kernel
theorem dX9_longest_57 : decode cX9_longest 57 = .ok (.if_icmp .ge 7, 3) := by decide +kernel
theorem dX9_longest_60 : decode cX9_longest 60 = .ok (.iconst 0, 1) := by decide +kernel
theorem dX9_longest_61 : decode cX9_longest 61 = .ok (.goto 4, 3) := by decide +kernel
theorem dX9_longest_64 : decode cX9_longest 64 = .ok (.iload_n 3, 1) := by decide +kernel
theorem dX9_longest_65 : decode cX9_longest 65 = .ok (.ireturn, 1) := by decide +kernel
set_option maxRecDepth 20000 in
theorem ggX9_know_X9_priceOf : GoodIn wsX9_know wsX9_priceOf := goodIn_r _ [12, 13, 4, 14, 15, 11, 16, 27, 28, 29, 30, 31, 32, 33, 34, 35, 36, 37, 38, 39, 40, 41, 42, 43, 44, 45, 46, 47, 48, 49, 50, 51, 52, 53, 54, 55, 56, 57] (by decide +kernel) (by decide +kernel)
set_option maxRecDepth 20000 in
theorem gX9_know_X9_priceOf : GoodIn wsX9_know (wsV RX9 81 RX9 yX9_priceOf wsX9_priceOf) := goodIn_app (goodIn_of _ (by decide +kernel)) ggX9_know_X9_priceOf
set_option maxRecDepth 20000 in
theorem ggX9_know_X9_findFar : GoodIn wsX9_know wsX9_findFar := goodIn_r _ [20, 7, 21, 22, 23, 11, 24, 25, 3, 26, 6, 27, 28, 29, 30, 31, 32, 33, 34, 35, 36, 37, 38, 39, 40, 41, 42, 43, 44, 45, 46, 47, 48, 49, 50, 51, 52, 53, 54, 55, 56, 57] (by decide +kernel) (by decide +kernel)
set_option maxRecDepth 20000 in
theorem gX9_know_X9_findFar : GoodIn wsX9_know (wsV RX9 85 RX9 yX9_findFar wsX9_findFar) := goodIn_app (goodIn_of _ (by decide +kernel)) ggX9_know_X9_findFar
theorem dX9_know_0 : decode cX9_know 0 = .ok (.aload_n 0, 1) := by decide +kernel
theorem dX9_know_1 : decode cX9_know 1 = .ok (.getfield 73, 3) := by decide +kernel
theorem dX9_know_4 : decode cX9_know 4 = .ok (.ifCond .eq 4, 3) := by decide +kernel
theorem dX9_know_7 : decode cX9_know 7 = .ok (.return_, 1) := by decide +kernel
theorem dX9_know_8 : decode cX9_know 8 = .ok (.aload_n 0, 1) := by decide +kernel
theorem dX9_know_9 : decode cX9_know 9 = .ok (.iconst 1, 1) := by decide +kernel
theorem dX9_know_10 : decode cX9_know 10 = .ok (.putfield 73, 3) := by decide +kernel
theorem dX9_know_13 : decode cX9_know 13 = .ok (.aload_n 0, 1) := by decide +kernel
theorem dX9_know_14 : decode cX9_know 14 = .ok (.getfield 68, 3) := by decide +kernel
theorem dX9_know_17 : decode cX9_know 17 = .ok (.iconst 1, 1) := by decide +kernel
theorem dX9_know_18 : decode cX9_know 18 = .ok (.isub, 1) := by decide +kernel
theorem dX9_know_19 : decode cX9_know 19 = .ok (.istore_n 1, 1) := by decide +kernel
theorem dX9_know_20 : decode cX9_know 20 = .ok (.iload_n 1, 1) := by decide +kernel
theorem dX9_know_21 : decode cX9_know 21 = .ok (.ifCond .lt 88, 3) := by decide +kernel
theorem dX9_know_24 : decode cX9_know 24 = .ok (.iconst 0, 1) := by decide +kernel
theorem dX9_know_25 : decode cX9_know 25 = .ok (.istore_n 2, 1) := by decide +kernel
theorem dX9_know_26 : decode cX9_know 26 = .ok (.iload_n 2, 1) := by decide +kernel
theorem dX9_know_27 : decode cX9_know 27 = .ok (.iload_n 1, 1) := by decide +kernel
theorem dX9_know_28 : decode cX9_know 28 = .ok (.if_icmp .ge 75, 3) := by decide +kernel
theorem dX9_know_31 : decode cX9_know 31 = .ok (.iload_n 1, 1) := by decide +kernel
theorem dX9_know_32 : decode cX9_know 32 = .ok (.iconst 1, 1) := by decide +kernel
theorem dX9_know_33 : decode cX9_know 33 = .ok (.iadd, 1) := by decide +kernel
theorem dX9_know_34 : decode cX9_know 34 = .ok (.aload_n 0, 1) := by decide +kernel
theorem dX9_know_35 : decode cX9_know 35 = .ok (.getfield 68, 3) := by decide +kernel
theorem dX9_know_38 : decode cX9_know 38 = .ok (.if_icmp .ge 22, 3) := by decide +kernel
theorem dX9_know_41 : decode cX9_know 41 = .ok (.aload_n 0, 1) := by decide +kernel
theorem dX9_know_42 : decode cX9_know 42 = .ok (.getfield 27, 3) := by decide +kernel
theorem dX9_know_45 : decode cX9_know 45 = .ok (.sipush 501, 3) := by decide +kernel
theorem dX9_know_48 : decode cX9_know 48 = .ok (.iload_n 1, 1) := by decide +kernel
theorem dX9_know_49 : decode cX9_know 49 = .ok (.iconst 1, 1) := by decide +kernel
theorem dX9_know_50 : decode cX9_know 50 = .ok (.iadd, 1) := by decide +kernel
theorem dX9_know_51 : decode cX9_know 51 = .ok (.imul, 1) := by decide +kernel
theorem dX9_know_52 : decode cX9_know 52 = .ok (.iload_n 2, 1) := by decide +kernel
theorem dX9_know_53 : decode cX9_know 53 = .ok (.iadd, 1) := by decide +kernel
theorem dX9_know_54 : decode cX9_know 54 = .ok (.iconst 1, 1) := by decide +kernel
theorem dX9_know_55 : decode cX9_know 55 = .ok (.iadd, 1) := by decide +kernel
theorem dX9_know_56 : decode cX9_know 56 = .ok (.saload, 1) := by decide +kernel
theorem dX9_know_57 : decode cX9_know 57 = .ok (.goto 4, 3) := by decide +kernel
theorem dX9_know_60 : decode cX9_know 60 = .ok (.iconst 0, 1) := by decide +kernel
theorem dX9_know_61 : decode cX9_know 61 = .ok (.istore_n 3, 1) := by decide +kernel
theorem dX9_know_62 : decode cX9_know 62 = .ok (.aload_n 0, 1) := by decide +kernel
theorem dX9_know_63 : decode cX9_know 63 = .ok (.getfield 27, 3) := by decide +kernel
theorem dX9_know_66 : decode cX9_know 66 = .ok (.sipush 501, 3) := by decide +kernel
theorem dX9_know_69 : decode cX9_know 69 = .ok (.iload_n 1, 1) := by decide +kernel
theorem dX9_know_70 : decode cX9_know 70 = .ok (.imul, 1) := by decide +kernel
theorem dX9_know_71 : decode cX9_know 71 = .ok (.iload_n 2, 1) := by decide +kernel
theorem dX9_know_72 : decode cX9_know 72 = .ok (.iadd, 1) := by decide +kernel
theorem dX9_know_73 : decode cX9_know 73 = .ok (.aload_n 0, 1) := by decide +kernel
theorem dX9_know_74 : decode cX9_know 74 = .ok (.getfield 7, 3) := by decide +kernel
theorem dX9_know_77 : decode cX9_know 77 = .ok (.iload_n 1, 1) := by decide +kernel
theorem dX9_know_78 : decode cX9_know 78 = .ok (.iaload, 1) := by decide +kernel
theorem dX9_know_79 : decode cX9_know 79 = .ok (.aload_n 0, 1) := by decide +kernel
theorem dX9_know_80 : decode cX9_know 80 = .ok (.getfield 7, 3) := by decide +kernel
theorem dX9_know_83 : decode cX9_know 83 = .ok (.iload_n 2, 1) := by decide +kernel
theorem dX9_know_84 : decode cX9_know 84 = .ok (.iaload, 1) := by decide +kernel
theorem dX9_know_85 : decode cX9_know 85 = .ok (.if_icmp .ne 9, 3) := by decide +kernel
theorem dX9_know_88 : decode cX9_know 88 = .ok (.iload_n 3, 1) := by decide +kernel
theorem dX9_know_89 : decode cX9_know 89 = .ok (.iconst 1, 1) := by decide +kernel
theorem dX9_know_90 : decode cX9_know 90 = .ok (.iadd, 1) := by decide +kernel
theorem dX9_know_91 : decode cX9_know 91 = .ok (.goto 4, 3) := by decide +kernel
theorem dX9_know_94 : decode cX9_know 94 = .ok (.iconst 0, 1) := by decide +kernel
theorem dX9_know_95 : decode cX9_know 95 = .ok (.i2s, 1) := by decide +kernel
theorem dX9_know_96 : decode cX9_know 96 = .ok (.sastore, 1) := by decide +kernel
theorem dX9_know_97 : decode cX9_know 97 = .ok (.iinc 2 1, 3) := by decide +kernel
theorem dX9_know_100 : decode cX9_know 100 = .ok (.goto (-74), 3) := by decide +kernel
theorem dX9_know_103 : decode cX9_know 103 = .ok (.iinc 1 (-1), 3) := by decide +kernel
theorem dX9_know_106 : decode cX9_know 106 = .ok (.goto (-86), 3) := by decide +kernel
theorem dX9_know_109 : decode cX9_know 109 = .ok (.aload_n 0, 1) := by decide +kernel
theorem dX9_know_110 : decode cX9_know 110 = .ok (.getfield 31, 3) := by decide +kernel
theorem dX9_know_113 : decode cX9_know 113 = .ok (.aload_n 0, 1) := by decide +kernel
theorem dX9_know_114 : decode cX9_know 114 = .ok (.getfield 68, 3) := by decide +kernel
theorem dX9_know_117 : decode cX9_know 117 = .ok (.iconst 0, 1) := by decide +kernel
theorem dX9_know_118 : decode cX9_know 118 = .ok (.iastore, 1) := by decide +kernel
theorem dX9_know_119 : decode cX9_know 119 = .ok (.aload_n 0, 1) := by decide +kernel
theorem dX9_know_120 : decode cX9_know 120 = .ok (.getfield 68, 3) := by decide +kernel
theorem dX9_know_123 : decode cX9_know 123 = .ok (.iconst 1, 1) := by decide +kernel
theorem dX9_know_124 : decode cX9_know 124 = .ok (.isub, 1) := by decide +kernel
theorem dX9_know_125 : decode cX9_know 125 = .ok (.istore_n 1, 1) := by decide +kernel
theorem dX9_know_126 : decode cX9_know 126 = .ok (.iload_n 1, 1) := by decide +kernel
theorem dX9_know_127 : decode cX9_know 127 = .ok (.ifCond .lt 110, 3) := by decide +kernel
theorem dX9_know_130 : decode cX9_know 130 = .ok (.aload_n 0, 1) := by decide +kernel
theorem dX9_know_131 : decode cX9_know 131 = .ok (.iload_n 1, 1) := by decide +kernel
theorem dX9_know_132 : decode cX9_know 132 = .ok (.iconst 1, 1) := by decide +kernel
theorem dX9_know_133 : decode cX9_know 133 = .ok (.iconst 0, 1) := by decide +kernel
theorem dX9_know_134 : decode cX9_know 134 = .ok (.invokevirtual 81, 3) := by decide +kernel
theorem dX9_know_137 : decode cX9_know 137 = .ok (.aload_n 0, 1) := by decide +kernel
theorem dX9_know_138 : decode cX9_know 138 = .ok (.getfield 31, 3) := by decide +kernel
theorem dX9_know_141 : decode cX9_know 141 = .ok (.iload_n 1, 1) := by decide +kernel
theorem dX9_know_142 : decode cX9_know 142 = .ok (.iconst 1, 1) := by decide +kernel
theorem dX9_know_143 : decode cX9_know 143 = .ok (.iadd, 1) := by decide +kernel
theorem dX9_know_144 : decode cX9_know 144 = .ok (.iaload, 1) := by decide +kernel
theorem dX9_know_145 : decode cX9_know 145 = .ok (.iadd, 1) := by decide +kernel
theorem dX9_know_146 : decode cX9_know 146 = .ok (.istore_n 2, 1) := by decide +kernel
theorem dX9_know_147 : decode cX9_know 147 = .ok (.aload_n 0, 1) := by decide +kernel
theorem dX9_know_148 : decode cX9_know 148 = .ok (.iload_n 1, 1) := by decide +kernel
theorem dX9_know_149 : decode cX9_know 149 = .ok (.invokevirtual 85, 3) := by decide +kernel
theorem dX9_know_152 : decode cX9_know 152 = .ok (.iconst 0, 1) := by decide +kernel
theorem dX9_know_153 : decode cX9_know 153 = .ok (.istore_n 3, 1) := by decide +kernel
theorem dX9_know_154 : decode cX9_know 154 = .ok (.iload_n 3, 1) := by decide +kernel
theorem dX9_know_155 : decode cX9_know 155 = .ok (.bipush 9, 2) := by decide +kernel
theorem dX9_know_157 : decode cX9_know 157 = .ok (.if_icmp .ge 67, 3) := by decide +kernel
theorem dX9_know_160 : decode cX9_know 160 = .ok (.aload_n 0, 1) := by decide +kernel
theorem dX9_know_161 : decode cX9_know 161 = .ok (.getfield 13, 3) := by decide +kernel
theorem dX9_know_164 : decode cX9_know 164 = .ok (.istore 4, 2) := by decide +kernel
theorem dX9_know_166 : decode cX9_know 166 = .ok (.iload 4, 2) := by decide +kernel
theorem dX9_know_168 : decode cX9_know 168 = .ok (.aload_n 0, 1) := by decide +kernel
theorem dX9_know_169 : decode cX9_know 169 = .ok (.getfield 62, 3) := by decide +kernel
theorem dX9_know_172 : decode cX9_know 172 = .ok (.iload_n 3, 1) := by decide +kernel
theorem dX9_know_173 : decode cX9_know 173 = .ok (.iaload, 1) := by decide +kernel
theorem dX9_know_174 : decode cX9_know 174 = .ok (.if_icmp .gt 44, 3) := by decide +kernel
theorem dX9_know_177 : decode cX9_know 177 = .ok (.aload_n 0, 1) := by decide +kernel
theorem dX9_know_178 : decode cX9_know 178 = .ok (.iload_n 1, 1) := by decide +kernel
theorem dX9_know_179 : decode cX9_know 179 = .ok (.iload 4, 2) := by decide +kernel
theorem dX9_know_181 : decode cX9_know 181 = .ok (.iconst 1, 1) := by decide +kernel
theorem dX9_know_182 : decode cX9_know 182 = .ok (.iload_n 3, 1) := by decide +kernel
theorem dX9_know_183 : decode cX9_know 183 = .ok (.ishl, 1) := by decide +kernel
theorem dX9_know_184 : decode cX9_know 184 = .ok (.invokevirtual 81, 3) := by decide +kernel
theorem dX9_know_187 : decode cX9_know 187 = .ok (.aload_n 0, 1) := by decide +kernel
theorem dX9_know_188 : decode cX9_know 188 = .ok (.getfield 31, 3) := by decide +kernel
theorem dX9_know_191 : decode cX9_know 191 = .ok (.iload_n 1, 1) := by decide +kernel
theorem dX9_know_192 : decode cX9_know 192 = .ok (.iload 4, 2) := by decide +kernel
theorem dX9_know_194 : decode cX9_know 194 = .ok (.iadd, 1) := by decide +kernel
theorem dX9_know_195 : decode cX9_know 195 = .ok (.iaload, 1) := by decide +kernel
theorem dX9_know_196 : decode cX9_know 196 = .ok (.iadd, 1) := by decide +kernel
theorem dX9_know_197 : decode cX9_know 197 = .ok (.istore 5, 2) := by decide +kernel
theorem dX9_know_199 : decode cX9_know 199 = .ok (.iload 5, 2) := by decide +kernel
theorem dX9_know_201 : decode cX9_know 201 = .ok (.iload_n 2, 1) := by decide +kernel
theorem dX9_know_202 : decode cX9_know 202 = .ok (.if_icmp .ge 8, 3) := by decide +kernel
theorem dX9_know_205 : decode cX9_know 205 = .ok (.iload 5, 2) := by decide +kernel
theorem dX9_know_207 : decode cX9_know 207 = .ok (.goto 4, 3) := by decide +kernel
theorem dX9_know_210 : decode cX9_know 210 = .ok (.iload_n 2, 1) := by decide +kernel
theorem dX9_know_211 : decode cX9_know 211 = .ok (.istore_n 2, 1) := by decide +kernel
theorem dX9_know_212 : decode cX9_know 212 = .ok (.iinc 4 1, 3) := by decide +kernel
theorem dX9_know_215 : decode cX9_know 215 = .ok (.goto (-49), 3) := by decide +kernel
theorem dX9_know_218 : decode cX9_know 218 = .ok (.iinc 3 1, 3) := by decide +kernel
theorem dX9_know_221 : decode cX9_know 221 = .ok (.goto (-67), 3) := by decide +kernel
theorem dX9_know_224 : decode cX9_know 224 = .ok (.aload_n 0, 1) := by decide +kernel
theorem dX9_know_225 : decode cX9_know 225 = .ok (.getfield 31, 3) := by decide +kernel
theorem dX9_know_228 : decode cX9_know 228 = .ok (.iload_n 1, 1) := by decide +kernel
theorem dX9_know_229 : decode cX9_know 229 = .ok (.iload_n 2, 1) := by decide +kernel
theorem dX9_know_230 : decode cX9_know 230 = .ok (.iastore, 1) := by decide +kernel
theorem dX9_know_231 : decode cX9_know 231 = .ok (.iinc 1 (-1), 3) := by decide +kernel
theorem dX9_know_234 : decode cX9_know 234 = .ok (.goto (-108), 3) := by decide +kernel
theorem dX9_know_237 : decode cX9_know 237 = .ok (.return_, 1) := by decide +kernel
set_option maxRecDepth 20000 in
theorem ggX9_findFar_X9_longest : GoodIn wsX9_findFar wsX9_longest := goodIn_r _ [6, 7, 8, 9, 10, 11, 12, 13, 14, 15, 16, 17, 18, 19, 20, 21, 22, 23, 24, 25, 26, 27, 28, 29, 30, 31, 32, 33, 34, 35, 36, 37, 38, 39, 40, 41] (by decide +kernel) (by decide +kernel)
set_option maxRecDepth 20000 in
theorem gX9_findFar_X9_longest : GoodIn wsX9_findFar (wsV RX9 89 RX9 yX9_longest wsX9_longest) := goodIn_app (goodIn_of _ (by decide +kernel)) ggX9_findFar_X9_longest
theorem dX9_findFar_0 : decode cX9_findFar 0 = .ok (.iconst 0, 1) := by decide +kernel
theorem dX9_findFar_1 : decode cX9_findFar 1 = .ok (.istore_n 2, 1) := by decide +kernel
theorem dX9_findFar_2 : decode cX9_findFar 2 = .ok (.iload_n 2, 1) := by decide +kernel
theorem dX9_findFar_3 : decode cX9_findFar 3 = .ok (.bipush 9, 2) := by decide +kernel
theorem dX9_findFar_5 : decode cX9_findFar 5 = .ok (.if_icmp .ge 74, 3) := by decide +kernel
theorem dX9_findFar_8 : decode cX9_findFar 8 = .ok (.aload_n 0, 1) := by decide +kernel
theorem dX9_findFar_9 : decode cX9_findFar 9 = .ok (.getfield 62, 3) := by decide +kernel
theorem dX9_findFar_12 : decode cX9_findFar 12 = .ok (.iload_n 2, 1) := by decide +kernel
theorem dX9_findFar_13 : decode cX9_findFar 13 = .ok (.iconst 0, 1) := by decide +kernel
theorem dX9_findFar_14 : decode cX9_findFar 14 = .ok (.iastore, 1) := by decide +kernel
theorem dX9_findFar_15 : decode cX9_findFar 15 = .ok (.iconst 1, 1) := by decide +kernel
theorem dX9_findFar_16 : decode cX9_findFar 16 = .ok (.iload_n 2, 1) := by decide +kernel
theorem dX9_findFar_17 : decode cX9_findFar 17 = .ok (.ishl, 1) := by decide +kernel
theorem dX9_findFar_18 : decode cX9_findFar 18 = .ok (.istore_n 3, 1) := by decide +kernel
theorem dX9_findFar_19 : decode cX9_findFar 19 = .ok (.iload_n 3, 1) := by decide +kernel
theorem dX9_findFar_20 : decode cX9_findFar 20 = .ok (.iconst 2, 1) := by decide +kernel
theorem dX9_findFar_21 : decode cX9_findFar 21 = .ok (.iload_n 2, 1) := by decide +kernel
theorem dX9_findFar_22 : decode cX9_findFar 22 = .ok (.ishl, 1) := by decide +kernel
theorem dX9_findFar_23 : decode cX9_findFar 23 = .ok (.if_icmp .ge 50, 3) := by decide +kernel
theorem dX9_findFar_26 : decode cX9_findFar 26 = .ok (.iload_n 3, 1) := by decide +kernel
theorem dX9_findFar_27 : decode cX9_findFar 27 = .ok (.iload_n 1, 1) := by decide +kernel
theorem dX9_findFar_28 : decode cX9_findFar 28 = .ok (.if_icmp .gt 45, 3) := by decide +kernel
theorem dX9_findFar_31 : decode cX9_findFar 31 = .ok (.aload_n 0, 1) := by decide +kernel
theorem dX9_findFar_32 : decode cX9_findFar 32 = .ok (.getfield 62, 3) := by decide +kernel
theorem dX9_findFar_35 : decode cX9_findFar 35 = .ok (.iload_n 2, 1) := by decide +kernel
theorem dX9_findFar_36 : decode cX9_findFar 36 = .ok (.aload_n 0, 1) := by decide +kernel
theorem dX9_findFar_37 : decode cX9_findFar 37 = .ok (.iload_n 1, 1) := by decide +kernel
theorem dX9_findFar_38 : decode cX9_findFar 38 = .ok (.iload_n 3, 1) := by decide +kernel
theorem dX9_findFar_39 : decode cX9_findFar 39 = .ok (.invokevirtual 89, 3) := by decide +kernel
theorem dX9_findFar_42 : decode cX9_findFar 42 = .ok (.aload_n 0, 1) := by decide +kernel
theorem dX9_findFar_43 : decode cX9_findFar 43 = .ok (.getfield 62, 3) := by decide +kernel
theorem dX9_findFar_46 : decode cX9_findFar 46 = .ok (.iload_n 2, 1) := by decide +kernel
theorem dX9_findFar_47 : decode cX9_findFar 47 = .ok (.iaload, 1) := by decide +kernel
theorem dX9_findFar_48 : decode cX9_findFar 48 = .ok (.if_icmp .le 12, 3) := by decide +kernel
theorem dX9_findFar_51 : decode cX9_findFar 51 = .ok (.aload_n 0, 1) := by decide +kernel
theorem dX9_findFar_52 : decode cX9_findFar 52 = .ok (.iload_n 1, 1) := by decide +kernel
theorem dX9_findFar_53 : decode cX9_findFar 53 = .ok (.iload_n 3, 1) := by decide +kernel
theorem dX9_findFar_54 : decode cX9_findFar 54 = .ok (.invokevirtual 89, 3) := by decide +kernel
theorem dX9_findFar_57 : decode cX9_findFar 57 = .ok (.goto 9, 3) := by decide +kernel
theorem dX9_findFar_60 : decode cX9_findFar 60 = .ok (.aload_n 0, 1) := by decide +kernel
theorem dX9_findFar_61 : decode cX9_findFar 61 = .ok (.getfield 62, 3) := by decide +kernel
theorem dX9_findFar_64 : decode cX9_findFar 64 = .ok (.iload_n 2, 1) := by decide +kernel
theorem dX9_findFar_65 : decode cX9_findFar 65 = .ok (.iaload, 1) := by decide +kernel
theorem dX9_findFar_66 : decode cX9_findFar 66 = .ok (.iastore, 1) := by decide +kernel
theorem dX9_findFar_67 : decode cX9_findFar 67 = .ok (.iinc 3 1, 3) := by decide +kernel
theorem dX9_findFar_70 : decode cX9_findFar 70 = .ok (.goto (-51), 3) := by decide +kernel
theorem dX9_findFar_73 : decode cX9_findFar 73 = .ok (.iinc 2 1, 3) := by decide +kernel
theorem dX9_findFar_76 : decode cX9_findFar 76 = .ok (.goto (-74), 3) := by decide +kernel
theorem dX9_findFar_79 : decode cX9_findFar 79 = .ok (.return_, 1) := by decide +kernel
set_option maxRecDepth 20000 in
theorem ggX9_goOn_X9_priceOf : GoodIn wsX9_goOn wsX9_priceOf := goodIn_r _ [12, 13, 14, 15, 16, 11, 17, 18, 19, 20, 21, 22, 23, 24, 25, 26, 27, 28, 29, 30, 31, 32, 33, 34, 35, 36, 37, 38, 39, 40, 41, 42, 43, 44, 45, 46, 47, 48] (by decide +kernel) (by decide +kernel)
set_option maxRecDepth 20000 in
theorem gX9_goOn_X9_priceOf : GoodIn wsX9_goOn (wsV RX9 81 RX9 yX9_priceOf wsX9_priceOf) := goodIn_app (goodIn_of _ (by decide +kernel)) ggX9_goOn_X9_priceOf
set_option maxRecDepth 20000 in
theorem ggX9_goOn_X9_classOf : GoodIn wsX9_goOn wsX9_classOf := goodIn_r _ [17] (by decide +kernel) (by decide +kernel)
set_option maxRecDepth 20000 in
theorem gX9_goOn_X9_classOf : GoodIn wsX9_goOn (va_wsS RX9 77 yX9_classOf wsX9_classOf) := goodIn_app (goodIn_of _ (by decide +kernel)) ggX9_goOn_X9_classOf
theorem dX9_goOn_0 : decode cX9_goOn 0 = .ok (.aload_n 0, 1) := by decide +kernel
theorem dX9_goOn_1 : decode cX9_goOn 1 = .ok (.getfield 34, 3) := by decide +kernel
theorem dX9_goOn_4 : decode cX9_goOn 4 = .ok (.aload_n 0, 1) := by decide +kernel
theorem dX9_goOn_5 : decode cX9_goOn 5 = .ok (.getfield 93, 3) := by decide +kernel
theorem dX9_goOn_8 : decode cX9_goOn 8 = .ok (.iload_n 1, 1) := by decide +kernel
theorem dX9_goOn_9 : decode cX9_goOn 9 = .ok (.iastore, 1) := by decide +kernel
theorem dX9_goOn_10 : decode cX9_goOn 10 = .ok (.aload_n 0, 1) := by decide +kernel
theorem dX9_goOn_11 : decode cX9_goOn 11 = .ok (.getfield 37, 3) := by decide +kernel
theorem dX9_goOn_14 : decode cX9_goOn 14 = .ok (.aload_n 0, 1) := by decide +kernel
theorem dX9_goOn_15 : decode cX9_goOn 15 = .ok (.getfield 93, 3) := by decide +kernel
theorem dX9_goOn_18 : decode cX9_goOn 18 = .ok (.iload_n 2, 1) := by decide +kernel
theorem dX9_goOn_19 : decode cX9_goOn 19 = .ok (.iastore, 1) := by decide +kernel
theorem dX9_goOn_20 : decode cX9_goOn 20 = .ok (.aload_n 0, 1) := by decide +kernel
theorem dX9_goOn_21 : decode cX9_goOn 21 = .ok (.getfield 40, 3) := by decide +kernel
theorem dX9_goOn_24 : decode cX9_goOn 24 = .ok (.aload_n 0, 1) := by decide +kernel
theorem dX9_goOn_25 : decode cX9_goOn 25 = .ok (.getfield 93, 3) := by decide +kernel
theorem dX9_goOn_28 : decode cX9_goOn 28 = .ok (.iload_n 3, 1) := by decide +kernel
theorem dX9_goOn_29 : decode cX9_goOn 29 = .ok (.iastore, 1) := by decide +kernel
theorem dX9_goOn_30 : decode cX9_goOn 30 = .ok (.aload_n 0, 1) := by decide +kernel
theorem dX9_goOn_31 : decode cX9_goOn 31 = .ok (.dup, 1) := by decide +kernel
theorem dX9_goOn_32 : decode cX9_goOn 32 = .ok (.getfield 93, 3) := by decide +kernel
theorem dX9_goOn_35 : decode cX9_goOn 35 = .ok (.iconst 1, 1) := by decide +kernel
theorem dX9_goOn_36 : decode cX9_goOn 36 = .ok (.iadd, 1) := by decide +kernel
theorem dX9_goOn_37 : decode cX9_goOn 37 = .ok (.putfield 93, 3) := by decide +kernel
theorem dX9_goOn_40 : decode cX9_goOn 40 = .ok (.aload_n 0, 1) := by decide +kernel
theorem dX9_goOn_41 : decode cX9_goOn 41 = .ok (.aload_n 0, 1) := by decide +kernel
theorem dX9_goOn_42 : decode cX9_goOn 42 = .ok (.getfield 96, 3) := by decide +kernel
theorem dX9_goOn_45 : decode cX9_goOn 45 = .ok (.aload_n 0, 1) := by decide +kernel
theorem dX9_goOn_46 : decode cX9_goOn 46 = .ok (.iload_n 1, 1) := by decide +kernel
theorem dX9_goOn_47 : decode cX9_goOn 47 = .ok (.iload_n 2, 1) := by decide +kernel
theorem dX9_goOn_48 : decode cX9_goOn 48 = .ok (.iload_n 3, 1) := by decide +kernel
theorem dX9_goOn_49 : decode cX9_goOn 49 = .ok (.invokevirtual 81, 3) := by decide +kernel
theorem dX9_goOn_52 : decode cX9_goOn 52 = .ok (.iadd, 1) := by decide +kernel
theorem dX9_goOn_53 : decode cX9_goOn 53 = .ok (.putfield 96, 3) := by decide +kernel
theorem dX9_goOn_56 : decode cX9_goOn 56 = .ok (.aload_n 0, 1) := by decide +kernel
theorem dX9_goOn_57 : decode cX9_goOn 57 = .ok (.aload_n 0, 1) := by decide +kernel
theorem dX9_goOn_58 : decode cX9_goOn 58 = .ok (.getfield 99, 3) := by decide +kernel
theorem dX9_goOn_61 : decode cX9_goOn 61 = .ok (.iload_n 3, 1) := by decide +kernel
theorem dX9_goOn_62 : decode cX9_goOn 62 = .ok (.ifCond .ne 8, 3) := by decide +kernel
theorem dX9_goOn_65 : decode cX9_goOn 65 = .ok (.bipush 9, 2) := by decide +kernel
theorem dX9_goOn_67 : decode cX9_goOn 67 = .ok (.goto 27, 3) := by decide +kernel
theorem dX9_goOn_70 : decode cX9_goOn 70 = .ok (.iconst 1, 1) := by decide +kernel
theorem dX9_goOn_71 : decode cX9_goOn 71 = .ok (.iconst 2, 1) := by decide +kernel
theorem dX9_goOn_72 : decode cX9_goOn 72 = .ok (.iload_n 2, 1) := by decide +kernel
theorem dX9_goOn_73 : decode cX9_goOn 73 = .ok (.aload_n 0, 1) := by decide +kernel
theorem dX9_goOn_74 : decode cX9_goOn 74 = .ok (.getfield 13, 3) := by decide +kernel
theorem dX9_goOn_77 : decode cX9_goOn 77 = .ok (.isub, 1) := by decide +kernel
theorem dX9_goOn_78 : decode cX9_goOn 78 = .ok (.iconst 1, 1) := by decide +kernel
theorem dX9_goOn_79 : decode cX9_goOn 79 = .ok (.iadd, 1) := by decide +kernel
theorem dX9_goOn_80 : decode cX9_goOn 80 = .ok (.invokestatic 77, 3) := by decide +kernel
theorem dX9_goOn_83 : decode cX9_goOn 83 = .ok (.imul, 1) := by decide +kernel
theorem dX9_goOn_84 : decode cX9_goOn 84 = .ok (.iadd, 1) := by decide +kernel
theorem dX9_goOn_85 : decode cX9_goOn 85 = .ok (.iconst 1, 1) := by decide +kernel
theorem dX9_goOn_86 : decode cX9_goOn 86 = .ok (.iadd, 1) := by decide +kernel
theorem dX9_goOn_87 : decode cX9_goOn 87 = .ok (.iconst 4, 1) := by decide +kernel
theorem dX9_goOn_88 : decode cX9_goOn 88 = .ok (.iadd, 1) := by decide +kernel
theorem dX9_goOn_89 : decode cX9_goOn 89 = .ok (.iload_n 3, 1) := by decide +kernel
theorem dX9_goOn_90 : decode cX9_goOn 90 = .ok (.invokestatic 77, 3) := by decide +kernel
theorem dX9_goOn_93 : decode cX9_goOn 93 = .ok (.iadd, 1) := by decide +kernel
theorem dX9_goOn_94 : decode cX9_goOn 94 = .ok (.iadd, 1) := by decide +kernel
theorem dX9_goOn_95 : decode cX9_goOn 95 = .ok (.putfield 99, 3) := by decide +kernel
theorem dX9_goOn_98 : decode cX9_goOn 98 = .ok (.return_, 1) := by decide +kernel
set_option maxRecDepth 20000 in
theorem ggX9_stepCheaply_X9_findFar : GoodIn wsX9_stepCheaply wsX9_findFar := goodIn_r _ [10, 4, 11, 12, 13, 9, 14, 15, 16, 2, 1, 36, 37, 38, 39, 40, 41, 42, 43, 44, 45, 46, 47, 48, 49, 50, 51, 52, 53, 54, 55, 56, 57, 58, 59, 60, 61, 62, 63, 64, 65, 66] (by decide +kernel) (by decide +kernel)
set_option maxRecDepth 20000 in
theorem gX9_stepCheaply_X9_findFar : GoodIn wsX9_stepCheaply (wsV RX9 85 RX9 yX9_findFar wsX9_findFar) := goodIn_app (goodIn_of _ (by decide +kernel)) ggX9_stepCheaply_X9_findFar
set_option maxRecDepth 20000 in
theorem ggX9_stepCheaply_X9_priceOf : GoodIn wsX9_stepCheaply wsX9_priceOf := goodIn_r _ [20, 21, 22, 23, 24, 9, 25, 36, 37, 38, 39, 40, 41, 42, 43, 44, 45, 46, 47, 48, 49, 50, 51, 52, 53, 54, 55, 56, 57, 58, 59, 60, 61, 62, 63, 64, 65, 66] (by decide +kernel) (by decide +kernel)
set_option maxRecDepth 20000 in
theorem gX9_stepCheaply_X9_priceOf : GoodIn wsX9_stepCheaply (wsV RX9 81 RX9 yX9_priceOf wsX9_priceOf) := goodIn_app (goodIn_of _ (by decide +kernel)) ggX9_stepCheaply_X9_priceOf
set_option maxRecDepth 20000 in
theorem ggX9_stepCheaply_X9_longest : GoodIn wsX9_stepCheaply wsX9_longest := goodIn_r _ [14, 15, 16, 2, 1, 36, 37, 38, 39, 40, 41, 42, 43, 44, 45, 46, 47, 48, 49, 50, 51, 52, 53, 54, 55, 56, 57, 58, 59, 60, 61, 62, 63, 64, 65, 66] (by decide +kernel) (by decide +kernel)
set_option maxRecDepth 20000 in
theorem gX9_stepCheaply_X9_longest : GoodIn wsX9_stepCheaply (wsV RX9 89 RX9 yX9_longest wsX9_longest) := goodIn_app (goodIn_of _ (by decide +kernel)) ggX9_stepCheaply_X9_longest
set_option maxRecDepth 20000 in
theorem ggX9_stepCheaply_X9_goOn : GoodIn wsX9_stepCheaply wsX9_goOn := goodIn_r _ [29, 30, 31, 32, 33, 34, 35, 1, 17, 18, 19, 9, 20, 21, 22, 23, 24, 25, 36, 37, 38, 39, 40, 41, 42, 43, 44, 45, 46, 47, 48, 49, 50, 51, 52, 53, 54, 55, 56, 57, 58, 59, 60, 61, 62, 63, 64, 65, 66] (by decide +kernel) (by decide +kernel)
set_option maxRecDepth 20000 in
theorem gX9_stepCheaply_X9_goOn : GoodIn wsX9_stepCheaply (wsV RX9 102 RX9 yX9_goOn wsX9_goOn) := goodIn_app (goodIn_of _ (by decide +kernel)) ggX9_stepCheaply_X9_goOn
theorem dX9_stepCheaply_0 : decode cX9_stepCheaply 0 = .ok (.iconst 1, 1) := by decide +kernel
theorem dX9_stepCheaply_1 : decode cX9_stepCheaply 1 = .ok (.istore_n 2, 1) := by decide +kernel
theorem dX9_stepCheaply_2 : decode cX9_stepCheaply 2 = .ok (.aload_n 0, 1) := by decide +kernel
theorem dX9_stepCheaply_3 : decode cX9_stepCheaply 3 = .ok (.iload_n 1, 1) := by decide +kernel
theorem dX9_stepCheaply_4 : decode cX9_stepCheaply 4 = .ok (.invokevirtual 85, 3) := by decide +kernel
theorem dX9_stepCheaply_7 : decode cX9_stepCheaply 7 = .ok (.aload_n 0, 1) := by decide +kernel
theorem dX9_stepCheaply_8 : decode cX9_stepCheaply 8 = .ok (.getfield 13, 3) := by decide +kernel
theorem dX9_stepCheaply_11 : decode cX9_stepCheaply 11 = .ok (.istore_n 3, 1) := by decide +kernel
theorem dX9_stepCheaply_12 : decode cX9_stepCheaply 12 = .ok (.iload_n 3, 1) := by decide +kernel
theorem dX9_stepCheaply_13 : decode cX9_stepCheaply 13 = .ok (.aload_n 0, 1) := by decide +kernel
theorem dX9_stepCheaply_14 : decode cX9_stepCheaply 14 = .ok (.getfield 17, 3) := by decide +kernel
theorem dX9_stepCheaply_17 : decode cX9_stepCheaply 17 = .ok (.if_icmp .gt 92, 3) := by decide +kernel
theorem dX9_stepCheaply_20 : decode cX9_stepCheaply 20 = .ok (.iload_n 1, 1) := by decide +kernel
theorem dX9_stepCheaply_21 : decode cX9_stepCheaply 21 = .ok (.iload_n 3, 1) := by decide +kernel
theorem dX9_stepCheaply_22 : decode cX9_stepCheaply 22 = .ok (.iadd, 1) := by decide +kernel
theorem dX9_stepCheaply_23 : decode cX9_stepCheaply 23 = .ok (.aload_n 0, 1) := by decide +kernel
theorem dX9_stepCheaply_24 : decode cX9_stepCheaply 24 = .ok (.getfield 68, 3) := by decide +kernel
theorem dX9_stepCheaply_27 : decode cX9_stepCheaply 27 = .ok (.if_icmp .gt 82, 3) := by decide +kernel
theorem dX9_stepCheaply_30 : decode cX9_stepCheaply 30 = .ok (.iconst 0, 1) := by decide +kernel
theorem dX9_stepCheaply_31 : decode cX9_stepCheaply 31 = .ok (.istore 4, 2) := by decide +kernel
theorem dX9_stepCheaply_33 : decode cX9_stepCheaply 33 = .ok (.iload 4, 2) := by decide +kernel
theorem dX9_stepCheaply_35 : decode cX9_stepCheaply 35 = .ok (.bipush 9, 2) := by decide +kernel
theorem dX9_stepCheaply_37 : decode cX9_stepCheaply 37 = .ok (.if_icmp .ge 66, 3) := by decide +kernel
theorem dX9_stepCheaply_40 : decode cX9_stepCheaply 40 = .ok (.aload_n 0, 1) := by decide +kernel
theorem dX9_stepCheaply_41 : decode cX9_stepCheaply 41 = .ok (.getfield 62, 3) := by decide +kernel
theorem dX9_stepCheaply_44 : decode cX9_stepCheaply 44 = .ok (.iload 4, 2) := by decide +kernel
theorem dX9_stepCheaply_46 : decode cX9_stepCheaply 46 = .ok (.iaload, 1) := by decide +kernel
theorem dX9_stepCheaply_47 : decode cX9_stepCheaply 47 = .ok (.iload_n 3, 1) := by decide +kernel
theorem dX9_stepCheaply_48 : decode cX9_stepCheaply 48 = .ok (.if_icmp .lt 35, 3) := by decide +kernel
theorem dX9_stepCheaply_51 : decode cX9_stepCheaply 51 = .ok (.aload_n 0, 1) := by decide +kernel
theorem dX9_stepCheaply_52 : decode cX9_stepCheaply 52 = .ok (.iload_n 1, 1) := by decide +kernel
theorem dX9_stepCheaply_53 : decode cX9_stepCheaply 53 = .ok (.iload_n 3, 1) := by decide +kernel
theorem dX9_stepCheaply_54 : decode cX9_stepCheaply 54 = .ok (.iconst 1, 1) := by decide +kernel
theorem dX9_stepCheaply_55 : decode cX9_stepCheaply 55 = .ok (.iload 4, 2) := by decide +kernel
theorem dX9_stepCheaply_57 : decode cX9_stepCheaply 57 = .ok (.ishl, 1) := by decide +kernel
theorem dX9_stepCheaply_58 : decode cX9_stepCheaply 58 = .ok (.invokevirtual 81, 3) := by decide +kernel
theorem dX9_stepCheaply_61 : decode cX9_stepCheaply 61 = .ok (.aload_n 0, 1) := by decide +kernel
theorem dX9_stepCheaply_62 : decode cX9_stepCheaply 62 = .ok (.getfield 31, 3) := by decide +kernel
theorem dX9_stepCheaply_65 : decode cX9_stepCheaply 65 = .ok (.iload_n 1, 1) := by decide +kernel
theorem dX9_stepCheaply_66 : decode cX9_stepCheaply 66 = .ok (.iload_n 3, 1) := by decide +kernel
theorem dX9_stepCheaply_67 : decode cX9_stepCheaply 67 = .ok (.iadd, 1) := by decide +kernel
theorem dX9_stepCheaply_68 : decode cX9_stepCheaply 68 = .ok (.iaload, 1) := by decide +kernel
theorem dX9_stepCheaply_69 : decode cX9_stepCheaply 69 = .ok (.iadd, 1) := by decide +kernel
theorem dX9_stepCheaply_70 : decode cX9_stepCheaply 70 = .ok (.aload_n 0, 1) := by decide +kernel
theorem dX9_stepCheaply_71 : decode cX9_stepCheaply 71 = .ok (.getfield 31, 3) := by decide +kernel
theorem dX9_stepCheaply_74 : decode cX9_stepCheaply 74 = .ok (.iload_n 1, 1) := by decide +kernel
theorem dX9_stepCheaply_75 : decode cX9_stepCheaply 75 = .ok (.iaload, 1) := by decide +kernel
theorem dX9_stepCheaply_76 : decode cX9_stepCheaply 76 = .ok (.if_icmp .ne 7, 3) := by decide +kernel
theorem dX9_stepCheaply_79 : decode cX9_stepCheaply 79 = .ok (.iconst 1, 1) := by decide +kernel
theorem dX9_stepCheaply_80 : decode cX9_stepCheaply 80 = .ok (.goto 4, 3) := by decide +kernel
theorem dX9_stepCheaply_83 : decode cX9_stepCheaply 83 = .ok (.iconst 0, 1) := by decide +kernel
theorem dX9_stepCheaply_84 : decode cX9_stepCheaply 84 = .ok (.istore 5, 2) := by decide +kernel
theorem dX9_stepCheaply_86 : decode cX9_stepCheaply 86 = .ok (.iload 5, 2) := by decide +kernel
theorem dX9_stepCheaply_88 : decode cX9_stepCheaply 88 = .ok (.ifCond .eq 7, 3) := by decide +kernel
theorem dX9_stepCheaply_91 : decode cX9_stepCheaply 91 = .ok (.iload_n 3, 1) := by decide +kernel
theorem dX9_stepCheaply_92 : decode cX9_stepCheaply 92 = .ok (.goto 4, 3) := by decide +kernel
theorem dX9_stepCheaply_95 : decode cX9_stepCheaply 95 = .ok (.iload_n 2, 1) := by decide +kernel
theorem dX9_stepCheaply_96 : decode cX9_stepCheaply 96 = .ok (.istore_n 2, 1) := by decide +kernel
theorem dX9_stepCheaply_97 : decode cX9_stepCheaply 97 = .ok (.iinc 4 1, 3) := by decide +kernel
theorem dX9_stepCheaply_100 : decode cX9_stepCheaply 100 = .ok (.goto (-67), 3) := by decide +kernel
theorem dX9_stepCheaply_103 : decode cX9_stepCheaply 103 = .ok (.iinc 3 1, 3) := by decide +kernel
theorem dX9_stepCheaply_106 : decode cX9_stepCheaply 106 = .ok (.goto (-94), 3) := by decide +kernel
theorem dX9_stepCheaply_109 : decode cX9_stepCheaply 109 = .ok (.iload_n 2, 1) := by decide +kernel
theorem dX9_stepCheaply_110 : decode cX9_stepCheaply 110 = .ok (.iconst 1, 1) := by decide +kernel
theorem dX9_stepCheaply_111 : decode cX9_stepCheaply 111 = .ok (.if_icmp .ne 7, 3) := by decide +kernel
theorem dX9_stepCheaply_114 : decode cX9_stepCheaply 114 = .ok (.iconst 0, 1) := by decide +kernel
theorem dX9_stepCheaply_115 : decode cX9_stepCheaply 115 = .ok (.goto 4, 3) := by decide +kernel
theorem dX9_stepCheaply_118 : decode cX9_stepCheaply 118 = .ok (.iconst 1, 1) := by decide +kernel
theorem dX9_stepCheaply_119 : decode cX9_stepCheaply 119 = .ok (.istore_n 3, 1) := by decide +kernel
theorem dX9_stepCheaply_120 : decode cX9_stepCheaply 120 = .ok (.iload_n 2, 1) := by decide +kernel
theorem dX9_stepCheaply_121 : decode cX9_stepCheaply 121 = .ok (.iconst 1, 1) := by decide +kernel
theorem dX9_stepCheaply_122 : decode cX9_stepCheaply 122 = .ok (.if_icmp .le 44, 3) := by decide +kernel
theorem dX9_stepCheaply_125 : decode cX9_stepCheaply 125 = .ok (.aload_n 0, 1) := by decide +kernel
theorem dX9_stepCheaply_126 : decode cX9_stepCheaply 126 = .ok (.iload_n 1, 1) := by decide +kernel
theorem dX9_stepCheaply_127 : decode cX9_stepCheaply 127 = .ok (.iload_n 3, 1) := by decide +kernel
theorem dX9_stepCheaply_128 : decode cX9_stepCheaply 128 = .ok (.invokevirtual 89, 3) := by decide +kernel
theorem dX9_stepCheaply_131 : decode cX9_stepCheaply 131 = .ok (.iload_n 2, 1) := by decide +kernel
theorem dX9_stepCheaply_132 : decode cX9_stepCheaply 132 = .ok (.if_icmp .lt 28, 3) := by decide +kernel
theorem dX9_stepCheaply_135 : decode cX9_stepCheaply 135 = .ok (.aload_n 0, 1) := by decide +kernel
theorem dX9_stepCheaply_136 : decode cX9_stepCheaply 136 = .ok (.iload_n 1, 1) := by decide +kernel
theorem dX9_stepCheaply_137 : decode cX9_stepCheaply 137 = .ok (.iload_n 2, 1) := by decide +kernel
theorem dX9_stepCheaply_138 : decode cX9_stepCheaply 138 = .ok (.iload_n 3, 1) := by decide +kernel
theorem dX9_stepCheaply_139 : decode cX9_stepCheaply 139 = .ok (.invokevirtual 81, 3) := by decide +kernel
theorem dX9_stepCheaply_142 : decode cX9_stepCheaply 142 = .ok (.aload_n 0, 1) := by decide +kernel
theorem dX9_stepCheaply_143 : decode cX9_stepCheaply 143 = .ok (.getfield 31, 3) := by decide +kernel
theorem dX9_stepCheaply_146 : decode cX9_stepCheaply 146 = .ok (.iload_n 1, 1) := by decide +kernel
theorem dX9_stepCheaply_147 : decode cX9_stepCheaply 147 = .ok (.iload_n 2, 1) := by decide +kernel
theorem dX9_stepCheaply_148 : decode cX9_stepCheaply 148 = .ok (.iadd, 1) := by decide +kernel
theorem dX9_stepCheaply_149 : decode cX9_stepCheaply 149 = .ok (.iaload, 1) := by decide +kernel
theorem dX9_stepCheaply_150 : decode cX9_stepCheaply 150 = .ok (.iadd, 1) := by decide +kernel
theorem dX9_stepCheaply_151 : decode cX9_stepCheaply 151 = .ok (.aload_n 0, 1) := by decide +kernel
theorem dX9_stepCheaply_152 : decode cX9_stepCheaply 152 = .ok (.getfield 31, 3) := by decide +kernel
theorem dX9_stepCheaply_155 : decode cX9_stepCheaply 155 = .ok (.iload_n 1, 1) := by decide +kernel
theorem dX9_stepCheaply_156 : decode cX9_stepCheaply 156 = .ok (.iaload, 1) := by decide +kernel
theorem dX9_stepCheaply_157 : decode cX9_stepCheaply 157 = .ok (.if_icmp .eq 9, 3) := by decide +kernel
theorem dX9_stepCheaply_160 : decode cX9_stepCheaply 160 = .ok (.iinc 3 1, 3) := by decide +kernel
theorem dX9_stepCheaply_163 : decode cX9_stepCheaply 163 = .ok (.goto (-43), 3) := by decide +kernel
theorem dX9_stepCheaply_166 : decode cX9_stepCheaply 166 = .ok (.aload_n 0, 1) := by decide +kernel
theorem dX9_stepCheaply_167 : decode cX9_stepCheaply 167 = .ok (.iload_n 1, 1) := by decide +kernel
theorem dX9_stepCheaply_168 : decode cX9_stepCheaply 168 = .ok (.iload_n 2, 1) := by decide +kernel
theorem dX9_stepCheaply_169 : decode cX9_stepCheaply 169 = .ok (.iload_n 3, 1) := by decide +kernel
theorem dX9_stepCheaply_170 : decode cX9_stepCheaply 170 = .ok (.invokevirtual 102, 3) := by decide +kernel
theorem dX9_stepCheaply_173 : decode cX9_stepCheaply 173 = .ok (.return_, 1) := by decide +kernel
set_option maxRecDepth 20000 in
theorem ggX9_longestAt_X9_longest : GoodIn wsX9_longestAt wsX9_longest := goodIn_r _ [6, 7, 8, 9, 10, 11, 12, 13, 14, 15, 16, 17, 18, 19, 20, 21, 22, 23, 24, 25, 26, 27, 28, 29, 30, 31, 32, 33, 34, 35, 36, 37, 38, 39, 40, 41] (by decide +kernel) (by decide +kernel)
set_option maxRecDepth 20000 in
theorem gX9_longestAt_X9_longest : GoodIn wsX9_longestAt (wsV RX9 89 RX9 yX9_longest wsX9_longest) := goodIn_app (goodIn_of _ (by decide +kernel)) ggX9_longestAt_X9_longest
theorem dX9_longestAt_0 : decode cX9_longestAt 0 = .ok (.iconst 0, 1) := by decide +kernel
theorem dX9_longestAt_1 : decode cX9_longestAt 1 = .ok (.istore_n 2, 1) := by decide +kernel
theorem dX9_longestAt_2 : decode cX9_longestAt 2 = .ok (.iconst 1, 1) := by decide +kernel
theorem dX9_longestAt_3 : decode cX9_longestAt 3 = .ok (.istore_n 3, 1) := by decide +kernel
theorem dX9_longestAt_4 : decode cX9_longestAt 4 = .ok (.iload_n 3, 1) := by decide +kernel
theorem dX9_longestAt_5 : decode cX9_longestAt 5 = .ok (.iload_n 1, 1) := by decide +kernel
theorem dX9_longestAt_6 : decode cX9_longestAt 6 = .ok (.if_icmp .gt 38, 3) := by decide +kernel
theorem dX9_longestAt_9 : decode cX9_longestAt 9 = .ok (.iload_n 1, 1) := by decide +kernel
theorem dX9_longestAt_10 : decode cX9_longestAt 10 = .ok (.aload_n 0, 1) := by decide +kernel
theorem dX9_longestAt_11 : decode cX9_longestAt 11 = .ok (.getfield 68, 3) := by decide +kernel
theorem dX9_longestAt_14 : decode cX9_longestAt 14 = .ok (.if_icmp .ge 30, 3) := by decide +kernel
theorem dX9_longestAt_17 : decode cX9_longestAt 17 = .ok (.aload_n 0, 1) := by decide +kernel
theorem dX9_longestAt_18 : decode cX9_longestAt 18 = .ok (.iload_n 1, 1) := by decide +kernel
theorem dX9_longestAt_19 : decode cX9_longestAt 19 = .ok (.iload_n 3, 1) := by decide +kernel
theorem dX9_longestAt_20 : decode cX9_longestAt 20 = .ok (.invokevirtual 89, 3) := by decide +kernel
theorem dX9_longestAt_23 : decode cX9_longestAt 23 = .ok (.iload_n 2, 1) := by decide +kernel
theorem dX9_longestAt_24 : decode cX9_longestAt 24 = .ok (.if_icmp .le 12, 3) := by decide +kernel
theorem dX9_longestAt_27 : decode cX9_longestAt 27 = .ok (.aload_n 0, 1) := by decide +kernel
theorem dX9_longestAt_28 : decode cX9_longestAt 28 = .ok (.iload_n 1, 1) := by decide +kernel
theorem dX9_longestAt_29 : decode cX9_longestAt 29 = .ok (.iload_n 3, 1) := by decide +kernel
theorem dX9_longestAt_30 : decode cX9_longestAt 30 = .ok (.invokevirtual 89, 3) := by decide +kernel
theorem dX9_longestAt_33 : decode cX9_longestAt 33 = .ok (.goto 4, 3) := by decide +kernel
theorem dX9_longestAt_36 : decode cX9_longestAt 36 = .ok (.iload_n 2, 1) := by decide +kernel
theorem dX9_longestAt_37 : decode cX9_longestAt 37 = .ok (.istore_n 2, 1) := by decide +kernel
theorem dX9_longestAt_38 : decode cX9_longestAt 38 = .ok (.iinc 3 1, 3) := by decide +kernel
theorem dX9_longestAt_41 : decode cX9_longestAt 41 = .ok (.goto (-37), 3) := by decide +kernel
theorem dX9_longestAt_44 : decode cX9_longestAt 44 = .ok (.iload_n 2, 1) := by decide +kernel
theorem dX9_longestAt_45 : decode cX9_longestAt 45 = .ok (.ireturn, 1) := by decide +kernel
set_option maxRecDepth 20000 in
theorem ggX9_nearestOf_X9_longest : GoodIn wsX9_nearestOf wsX9_longest := goodIn_r _ [5, 6, 7, 8, 9, 10, 11, 12, 13, 14, 15, 16, 17, 18, 19, 20, 21, 22, 23, 24, 25, 26, 27, 28, 29, 30, 31, 32, 33, 34, 35, 36, 37, 38, 39, 40] (by decide +kernel) (by decide +kernel)
set_option maxRecDepth 20000 in
theorem gX9_nearestOf_X9_longest : GoodIn wsX9_nearestOf (wsV RX9 89 RX9 yX9_longest wsX9_longest) := goodIn_app (goodIn_of _ (by decide +kernel)) ggX9_nearestOf_X9_longest
theorem dX9_nearestOf_0 : decode cX9_nearestOf 0 = .ok (.iconst 1, 1) := by decide +kernel
theorem dX9_nearestOf_1 : decode cX9_nearestOf 1 = .ok (.istore_n 3, 1) := by decide +kernel
theorem dX9_nearestOf_2 : decode cX9_nearestOf 2 = .ok (.aload_n 0, 1) := by decide +kernel
theorem dX9_nearestOf_3 : decode cX9_nearestOf 3 = .ok (.iload_n 1, 1) := by decide +kernel
theorem dX9_nearestOf_4 : decode cX9_nearestOf 4 = .ok (.iload_n 3, 1) := by decide +kernel
theorem dX9_nearestOf_5 : decode cX9_nearestOf 5 = .ok (.invokevirtual 89, 3) := by decide +kernel
theorem dX9_nearestOf_8 : decode cX9_nearestOf 8 = .ok (.iload_n 2, 1) := by decide +kernel
theorem dX9_nearestOf_9 : decode cX9_nearestOf 9 = .ok (.if_icmp .eq 9, 3) := by decide +kernel
theorem dX9_nearestOf_12 : decode cX9_nearestOf 12 = .ok (.iinc 3 1, 3) := by decide +kernel
theorem dX9_nearestOf_15 : decode cX9_nearestOf 15 = .ok (.goto (-13), 3) := by decide +kernel
theorem dX9_nearestOf_18 : decode cX9_nearestOf 18 = .ok (.iload_n 3, 1) := by decide +kernel
theorem dX9_nearestOf_19 : decode cX9_nearestOf 19 = .ok (.ireturn, 1) := by decide +kernel
set_option maxRecDepth 20000 in
theorem ggX9_stepGreedily_X9_longestAt : GoodIn wsX9_stepGreedily wsX9_longestAt := goodIn_r _ [5, 6, 7, 8, 9, 4, 10, 11, 12, 13, 14, 38, 39, 40, 41, 42, 43, 44, 45, 46, 47, 48, 49, 50, 51, 52, 53, 54, 55, 56, 57, 58, 59, 60, 61, 62, 63, 64, 65, 66, 67, 68] (by decide +kernel) (by decide +kernel)
set_option maxRecDepth 20000 in
theorem gX9_stepGreedily_X9_longestAt : GoodIn wsX9_stepGreedily (wsV RX9 106 RX9 yX9_longestAt wsX9_longestAt) := goodIn_app (goodIn_of _ (by decide +kernel)) ggX9_stepGreedily_X9_longestAt
set_option maxRecDepth 20000 in
theorem ggX9_stepGreedily_X9_nearestOf : GoodIn wsX9_stepGreedily wsX9_nearestOf := goodIn_r _ [18, 7, 8, 9, 4, 10, 11, 12, 13, 14, 38, 39, 40, 41, 42, 43, 44, 45, 46, 47, 48, 49, 50, 51, 52, 53, 54, 55, 56, 57, 58, 59, 60, 61, 62, 63, 64, 65, 66, 67, 68] (by decide +kernel) (by decide +kernel)
set_option maxRecDepth 20000 in
theorem gX9_stepGreedily_X9_nearestOf : GoodIn wsX9_stepGreedily (wsV RX9 109 RX9 yX9_nearestOf wsX9_nearestOf) := goodIn_app (goodIn_of _ (by decide +kernel)) ggX9_stepGreedily_X9_nearestOf
set_option maxRecDepth 20000 in
theorem ggX9_stepGreedily_X9_goOn : GoodIn wsX9_stepGreedily wsX9_goOn := goodIn_r _ [22, 23, 24, 25, 26, 27, 28, 14, 29, 30, 31, 4, 32, 33, 34, 35, 36, 37, 38, 39, 40, 41, 42, 43, 44, 45, 46, 47, 48, 49, 50, 51, 52, 53, 54, 55, 56, 57, 58, 59, 60, 61, 62, 63, 64, 65, 66, 67, 68] (by decide +kernel) (by decide +kernel)
set_option maxRecDepth 20000 in
theorem gX9_stepGreedily_X9_goOn : GoodIn wsX9_stepGreedily (wsV RX9 102 RX9 yX9_goOn wsX9_goOn) := goodIn_app (goodIn_of _ (by decide +kernel)) ggX9_stepGreedily_X9_goOn
theorem dX9_stepGreedily_0 : decode cX9_stepGreedily 0 = .ok (.aload_n 0, 1) := by decide +kernel
theorem dX9_stepGreedily_1 : decode cX9_stepGreedily 1 = .ok (.iload_n 1, 1) := by decide +kernel
theorem dX9_stepGreedily_2 : decode cX9_stepGreedily 2 = .ok (.invokevirtual 106, 3) := by decide +kernel
theorem dX9_stepGreedily_5 : decode cX9_stepGreedily 5 = .ok (.istore_n 3, 1) := by decide +kernel
theorem dX9_stepGreedily_6 : decode cX9_stepGreedily 6 = .ok (.iload_n 3, 1) := by decide +kernel
theorem dX9_stepGreedily_7 : decode cX9_stepGreedily 7 = .ok (.ifCond .eq 18, 3) := by decide +kernel
theorem dX9_stepGreedily_10 : decode cX9_stepGreedily 10 = .ok (.iload_n 2, 1) := by decide +kernel
theorem dX9_stepGreedily_11 : decode cX9_stepGreedily 11 = .ok (.ifCond .eq 18, 3) := by decide +kernel
theorem dX9_stepGreedily_14 : decode cX9_stepGreedily 14 = .ok (.aload_n 0, 1) := by decide +kernel
theorem dX9_stepGreedily_15 : decode cX9_stepGreedily 15 = .ok (.iload_n 1, 1) := by decide +kernel
theorem dX9_stepGreedily_16 : decode cX9_stepGreedily 16 = .ok (.iconst 1, 1) := by decide +kernel
theorem dX9_stepGreedily_17 : decode cX9_stepGreedily 17 = .ok (.iadd, 1) := by decide +kernel
theorem dX9_stepGreedily_18 : decode cX9_stepGreedily 18 = .ok (.invokevirtual 106, 3) := by decide +kernel
theorem dX9_stepGreedily_21 : decode cX9_stepGreedily 21 = .ok (.iload_n 3, 1) := by decide +kernel
theorem dX9_stepGreedily_22 : decode cX9_stepGreedily 22 = .ok (.if_icmp .le 7, 3) := by decide +kernel
theorem dX9_stepGreedily_25 : decode cX9_stepGreedily 25 = .ok (.iconst 1, 1) := by decide +kernel
theorem dX9_stepGreedily_26 : decode cX9_stepGreedily 26 = .ok (.goto 4, 3) := by decide +kernel
theorem dX9_stepGreedily_29 : decode cX9_stepGreedily 29 = .ok (.iconst 0, 1) := by decide +kernel
theorem dX9_stepGreedily_30 : decode cX9_stepGreedily 30 = .ok (.istore 4, 2) := by decide +kernel
theorem dX9_stepGreedily_32 : decode cX9_stepGreedily 32 = .ok (.aload_n 0, 1) := by decide +kernel
theorem dX9_stepGreedily_33 : decode cX9_stepGreedily 33 = .ok (.iload_n 1, 1) := by decide +kernel
theorem dX9_stepGreedily_34 : decode cX9_stepGreedily 34 = .ok (.iload 4, 2) := by decide +kernel
theorem dX9_stepGreedily_36 : decode cX9_stepGreedily 36 = .ok (.ifCond .eq 7, 3) := by decide +kernel
theorem dX9_stepGreedily_39 : decode cX9_stepGreedily 39 = .ok (.iconst 1, 1) := by decide +kernel
theorem dX9_stepGreedily_40 : decode cX9_stepGreedily 40 = .ok (.goto 4, 3) := by decide +kernel
theorem dX9_stepGreedily_43 : decode cX9_stepGreedily 43 = .ok (.iload_n 3, 1) := by decide +kernel
theorem dX9_stepGreedily_44 : decode cX9_stepGreedily 44 = .ok (.iload 4, 2) := by decide +kernel
theorem dX9_stepGreedily_46 : decode cX9_stepGreedily 46 = .ok (.ifCond .eq 7, 3) := by decide +kernel
theorem dX9_stepGreedily_49 : decode cX9_stepGreedily 49 = .ok (.iconst 0, 1) := by decide +kernel
theorem dX9_stepGreedily_50 : decode cX9_stepGreedily 50 = .ok (.goto 9, 3) := by decide +kernel
theorem dX9_stepGreedily_53 : decode cX9_stepGreedily 53 = .ok (.aload_n 0, 1) := by decide +kernel
theorem dX9_stepGreedily_54 : decode cX9_stepGreedily 54 = .ok (.iload_n 1, 1) := by decide +kernel
theorem dX9_stepGreedily_55 : decode cX9_stepGreedily 55 = .ok (.iload_n 3, 1) := by decide +kernel
theorem dX9_stepGreedily_56 : decode cX9_stepGreedily 56 = .ok (.invokevirtual 109, 3) := by decide +kernel
theorem dX9_stepGreedily_59 : decode cX9_stepGreedily 59 = .ok (.invokevirtual 102, 3) := by decide +kernel
theorem dX9_stepGreedily_62 : decode cX9_stepGreedily 62 = .ok (.return_, 1) := by decide +kernel
set_option maxRecDepth 20000 in
theorem ggX9_parse_X9_know : GoodIn wsX9_parse wsX9_know := goodIn_r _ [17, 18, 5, 19, 8, 20, 10, 21, 22, 23, 24, 16, 25, 26, 27, 28, 29, 30, 31, 32, 33, 34, 35, 36, 37, 38, 39, 62, 63, 64, 65, 66, 67, 68, 69, 70, 71, 72, 73, 74, 75, 76, 77, 78, 79, 80, 81, 82, 83, 84, 85, 86, 87, 88, 89, 90, 91, 92] (by decide +kernel) (by decide +kernel)
set_option maxRecDepth 20000 in
theorem gX9_parse_X9_know : GoodIn wsX9_parse (wsV RX9 112 RX9 yX9_know wsX9_know) := goodIn_app (goodIn_of _ (by decide +kernel)) ggX9_parse_X9_know
set_option maxRecDepth 20000 in
theorem ggX9_parse_X9_stepCheaply : GoodIn wsX9_parse wsX9_stepCheaply := goodIn_r _ [43, 10, 39, 5, 21, 20, 30, 31, 32, 16, 33, 34, 35, 36, 37, 38, 19, 22, 23, 24, 25, 26, 8, 27, 28, 29, 44, 45, 46, 47, 48, 2, 6, 49, 3, 4, 62, 63, 64, 65, 66, 67, 68, 69, 70, 71, 72, 73, 74, 75, 76, 77, 78, 79, 80, 81, 82, 83, 84, 85, 86, 87, 88, 89, 90, 91, 92] (by decide +kernel) (by decide +kernel)
set_option maxRecDepth 20000 in
theorem gX9_parse_X9_stepCheaply : GoodIn wsX9_parse (wsV RX9 115 RX9 yX9_stepCheaply wsX9_stepCheaply) := goodIn_app (goodIn_of _ (by decide +kernel)) ggX9_parse_X9_stepCheaply
set_option maxRecDepth 20000 in
theorem ggX9_parse_X9_stepGreedily : GoodIn wsX9_parse wsX9_stepGreedily := goodIn_r _ [53, 54, 55, 56, 16, 57, 5, 34, 35, 36, 37, 38, 19, 39, 10, 58, 59, 60, 61, 44, 45, 46, 47, 48, 2, 6, 49, 3, 4, 22, 23, 24, 25, 26, 8, 27, 28, 29, 62, 63, 64, 65, 66, 67, 68, 69, 70, 71, 72, 73, 74, 75, 76, 77, 78, 79, 80, 81, 82, 83, 84, 85, 86, 87, 88, 89, 90, 91, 92] (by decide +kernel) (by decide +kernel)
set_option maxRecDepth 20000 in
theorem gX9_parse_X9_stepGreedily : GoodIn wsX9_parse (wsV RX9 118 RX9 yX9_stepGreedily wsX9_stepGreedily) := goodIn_app (goodIn_of _ (by decide +kernel)) ggX9_parse_X9_stepGreedily
theorem dX9_parse_0 : decode cX9_parse 0 = .ok (.aload_n 0, 1) := by decide +kernel
theorem dX9_parse_1 : decode cX9_parse 1 = .ok (.iconst 0, 1) := by decide +kernel
theorem dX9_parse_2 : decode cX9_parse 2 = .ok (.putfield 65, 3) := by decide +kernel
theorem dX9_parse_5 : decode cX9_parse 5 = .ok (.iload_n 1, 1) := by decide +kernel
theorem dX9_parse_6 : decode cX9_parse 6 = .ok (.ifCond .lt 8, 3) := by decide +kernel
theorem dX9_parse_9 : decode cX9_parse 9 = .ok (.iload_n 1, 1) := by decide +kernel
theorem dX9_parse_10 : decode cX9_parse 10 = .ok (.iconst 2, 1) := by decide +kernel
theorem dX9_parse_11 : decode cX9_parse 11 = .ok (.if_icmp .le 5, 3) := by decide +kernel
theorem dX9_parse_14 : decode cX9_parse 14 = .ok (.iconst (-1), 1) := by decide +kernel
theorem dX9_parse_15 : decode cX9_parse 15 = .ok (.ireturn, 1) := by decide +kernel
theorem dX9_parse_16 : decode cX9_parse 16 = .ok (.aload_n 0, 1) := by decide +kernel
theorem dX9_parse_17 : decode cX9_parse 17 = .ok (.invokevirtual 112, 3) := by decide +kernel
theorem dX9_parse_20 : decode cX9_parse 20 = .ok (.aload_n 0, 1) := by decide +kernel
theorem dX9_parse_21 : decode cX9_parse 21 = .ok (.iconst 0, 1) := by decide +kernel
theorem dX9_parse_22 : decode cX9_parse 22 = .ok (.putfield 93, 3) := by decide +kernel
theorem dX9_parse_25 : decode cX9_parse 25 = .ok (.aload_n 0, 1) := by decide +kernel
theorem dX9_parse_26 : decode cX9_parse 26 = .ok (.iconst 0, 1) := by decide +kernel
theorem dX9_parse_27 : decode cX9_parse 27 = .ok (.putfield 96, 3) := by decide +kernel
theorem dX9_parse_30 : decode cX9_parse 30 = .ok (.aload_n 0, 1) := by decide +kernel
theorem dX9_parse_31 : decode cX9_parse 31 = .ok (.bipush 16, 2) := by decide +kernel
theorem dX9_parse_33 : decode cX9_parse 33 = .ok (.putfield 99, 3) := by decide +kernel
theorem dX9_parse_36 : decode cX9_parse 36 = .ok (.iconst 0, 1) := by decide +kernel
theorem dX9_parse_37 : decode cX9_parse 37 = .ok (.istore_n 2, 1) := by decide +kernel
theorem dX9_parse_38 : decode cX9_parse 38 = .ok (.iload_n 2, 1) := by decide +kernel
theorem dX9_parse_39 : decode cX9_parse 39 = .ok (.aload_n 0, 1) := by decide +kernel
theorem dX9_parse_40 : decode cX9_parse 40 = .ok (.getfield 68, 3) := by decide +kernel
theorem dX9_parse_43 : decode cX9_parse 43 = .ok (.if_icmp .ge 47, 3) := by decide +kernel
theorem dX9_parse_46 : decode cX9_parse 46 = .ok (.iload_n 1, 1) := by decide +kernel
theorem dX9_parse_47 : decode cX9_parse 47 = .ok (.ifCond .ne 11, 3) := by decide +kernel
theorem dX9_parse_50 : decode cX9_parse 50 = .ok (.aload_n 0, 1) := by decide +kernel
theorem dX9_parse_51 : decode cX9_parse 51 = .ok (.iload_n 2, 1) := by decide +kernel
theorem dX9_parse_52 : decode cX9_parse 52 = .ok (.invokevirtual 115, 3) := by decide +kernel
theorem dX9_parse_55 : decode cX9_parse 55 = .ok (.goto 18, 3) := by decide +kernel
theorem dX9_parse_58 : decode cX9_parse 58 = .ok (.aload_n 0, 1) := by decide +kernel
theorem dX9_parse_59 : decode cX9_parse 59 = .ok (.iload_n 2, 1) := by decide +kernel
theorem dX9_parse_60 : decode cX9_parse 60 = .ok (.iload_n 1, 1) := by decide +kernel
theorem dX9_parse_61 : decode cX9_parse 61 = .ok (.iconst 2, 1) := by decide +kernel
theorem dX9_parse_62 : decode cX9_parse 62 = .ok (.if_icmp .ne 7, 3) := by decide +kernel
theorem dX9_parse_65 : decode cX9_parse 65 = .ok (.iconst 1, 1) := by decide +kernel
theorem dX9_parse_66 : decode cX9_parse 66 = .ok (.goto 4, 3) := by decide +kernel
theorem dX9_parse_69 : decode cX9_parse 69 = .ok (.iconst 0, 1) := by decide +kernel
theorem dX9_parse_70 : decode cX9_parse 70 = .ok (.invokevirtual 118, 3) := by decide +kernel
theorem dX9_parse_73 : decode cX9_parse 73 = .ok (.iload_n 2, 1) := by decide +kernel
theorem dX9_parse_74 : decode cX9_parse 74 = .ok (.aload_n 0, 1) := by decide +kernel
theorem dX9_parse_75 : decode cX9_parse 75 = .ok (.getfield 37, 3) := by decide +kernel
theorem dX9_parse_78 : decode cX9_parse 78 = .ok (.aload_n 0, 1) := by decide +kernel
theorem dX9_parse_79 : decode cX9_parse 79 = .ok (.getfield 93, 3) := by decide +kernel
theorem dX9_parse_82 : decode cX9_parse 82 = .ok (.iconst 1, 1) := by decide +kernel
theorem dX9_parse_83 : decode cX9_parse 83 = .ok (.isub, 1) := by decide +kernel
theorem dX9_parse_84 : decode cX9_parse 84 = .ok (.iaload, 1) := by decide +kernel
theorem dX9_parse_85 : decode cX9_parse 85 = .ok (.iadd, 1) := by decide +kernel
theorem dX9_parse_86 : decode cX9_parse 86 = .ok (.istore_n 2, 1) := by decide +kernel
theorem dX9_parse_87 : decode cX9_parse 87 = .ok (.goto (-49), 3) := by decide +kernel
theorem dX9_parse_90 : decode cX9_parse 90 = .ok (.iconst 0, 1) := by decide +kernel
theorem dX9_parse_91 : decode cX9_parse 91 = .ok (.istore_n 3, 1) := by decide +kernel
theorem dX9_parse_92 : decode cX9_parse 92 = .ok (.iload_n 3, 1) := by decide +kernel
theorem dX9_parse_93 : decode cX9_parse 93 = .ok (.aload_n 0, 1) := by decide +kernel
theorem dX9_parse_94 : decode cX9_parse 94 = .ok (.getfield 68, 3) := by decide +kernel
theorem dX9_parse_97 : decode cX9_parse 97 = .ok (.if_icmp .ge 21, 3) := by decide +kernel
theorem dX9_parse_100 : decode cX9_parse 100 = .ok (.aload_n 0, 1) := by decide +kernel
theorem dX9_parse_101 : decode cX9_parse 101 = .ok (.getfield 43, 3) := by decide +kernel
theorem dX9_parse_104 : decode cX9_parse 104 = .ok (.iload_n 3, 1) := by decide +kernel
theorem dX9_parse_105 : decode cX9_parse 105 = .ok (.aload_n 0, 1) := by decide +kernel
theorem dX9_parse_106 : decode cX9_parse 106 = .ok (.getfield 7, 3) := by decide +kernel
theorem dX9_parse_109 : decode cX9_parse 109 = .ok (.iload_n 3, 1) := by decide +kernel
theorem dX9_parse_110 : decode cX9_parse 110 = .ok (.iaload, 1) := by decide +kernel
theorem dX9_parse_111 : decode cX9_parse 111 = .ok (.iastore, 1) := by decide +kernel
theorem dX9_parse_112 : decode cX9_parse 112 = .ok (.iinc 3 1, 3) := by decide +kernel
theorem dX9_parse_115 : decode cX9_parse 115 = .ok (.goto (-23), 3) := by decide +kernel
theorem dX9_parse_118 : decode cX9_parse 118 = .ok (.aload_n 0, 1) := by decide +kernel
theorem dX9_parse_119 : decode cX9_parse 119 = .ok (.aload_n 0, 1) := by decide +kernel
theorem dX9_parse_120 : decode cX9_parse 120 = .ok (.getfield 68, 3) := by decide +kernel
theorem dX9_parse_123 : decode cX9_parse 123 = .ok (.putfield 122, 3) := by decide +kernel
theorem dX9_parse_126 : decode cX9_parse 126 = .ok (.aload_n 0, 1) := by decide +kernel
theorem dX9_parse_127 : decode cX9_parse 127 = .ok (.aload_n 0, 1) := by decide +kernel
theorem dX9_parse_128 : decode cX9_parse 128 = .ok (.getfield 13, 3) := by decide +kernel
theorem dX9_parse_131 : decode cX9_parse 131 = .ok (.putfield 125, 3) := by decide +kernel
theorem dX9_parse_134 : decode cX9_parse 134 = .ok (.aload_n 0, 1) := by decide +kernel
theorem dX9_parse_135 : decode cX9_parse 135 = .ok (.iconst 1, 1) := by decide +kernel
theorem dX9_parse_136 : decode cX9_parse 136 = .ok (.putfield 128, 3) := by decide +kernel
theorem dX9_parse_139 : decode cX9_parse 139 = .ok (.aload_n 0, 1) := by decide +kernel
theorem dX9_parse_140 : decode cX9_parse 140 = .ok (.getfield 93, 3) := by decide +kernel
theorem dX9_parse_143 : decode cX9_parse 143 = .ok (.ireturn, 1) := by decide +kernel
theorem dX9_step_0 : decode cX9_step 0 = .ok (.aload_n 0, 1) := by decide +kernel
theorem dX9_step_1 : decode cX9_step 1 = .ok (.iconst 0, 1) := by decide +kernel
theorem dX9_step_2 : decode cX9_step 2 = .ok (.putfield 65, 3) := by decide +kernel
theorem dX9_step_5 : decode cX9_step 5 = .ok (.iload_n 1, 1) := by decide +kernel
theorem dX9_step_6 : decode cX9_step 6 = .ok (.ifCond .lt 11, 3) := by decide +kernel
theorem dX9_step_9 : decode cX9_step 9 = .ok (.iload_n 1, 1) := by decide +kernel
theorem dX9_step_10 : decode cX9_step 10 = .ok (.aload_n 0, 1) := by decide +kernel
theorem dX9_step_11 : decode cX9_step 11 = .ok (.getfield 93, 3) := by decide +kernel
theorem dX9_step_14 : decode cX9_step 14 = .ok (.if_icmp .lt 5, 3) := by decide +kernel
theorem dX9_step_17 : decode cX9_step 17 = .ok (.iconst (-1), 1) := by decide +kernel
theorem dX9_step_18 : decode cX9_step 18 = .ok (.ireturn, 1) := by decide +kernel
theorem dX9_step_19 : decode cX9_step 19 = .ok (.iload_n 2, 1) := by decide +kernel
theorem dX9_step_20 : decode cX9_step 20 = .ok (.ifCond .ne 12, 3) := by decide +kernel
theorem dX9_step_23 : decode cX9_step 23 = .ok (.aload_n 0, 1) := by decide +kernel
theorem dX9_step_24 : decode cX9_step 24 = .ok (.getfield 34, 3) := by decide +kernel
theorem dX9_step_27 : decode cX9_step 27 = .ok (.iload_n 1, 1) := by decide +kernel
theorem dX9_step_28 : decode cX9_step 28 = .ok (.iaload, 1) := by decide +kernel
theorem dX9_step_29 : decode cX9_step 29 = .ok (.goto 60, 3) := by decide +kernel
theorem dX9_step_32 : decode cX9_step 32 = .ok (.iload_n 2, 1) := by decide +kernel
theorem dX9_step_33 : decode cX9_step 33 = .ok (.iconst 1, 1) := by decide +kernel
theorem dX9_step_34 : decode cX9_step 34 = .ok (.if_icmp .ne 12, 3) := by decide +kernel
theorem dX9_step_37 : decode cX9_step 37 = .ok (.aload_n 0, 1) := by decide +kernel
theorem dX9_step_38 : decode cX9_step 38 = .ok (.getfield 37, 3) := by decide +kernel
theorem dX9_step_41 : decode cX9_step 41 = .ok (.iload_n 1, 1) := by decide +kernel
theorem dX9_step_42 : decode cX9_step 42 = .ok (.iaload, 1) := by decide +kernel
theorem dX9_step_43 : decode cX9_step 43 = .ok (.goto 46, 3) := by decide +kernel
theorem dX9_step_46 : decode cX9_step 46 = .ok (.iload_n 2, 1) := by decide +kernel
theorem dX9_step_47 : decode cX9_step 47 = .ok (.iconst 2, 1) := by decide +kernel
theorem dX9_step_48 : decode cX9_step 48 = .ok (.if_icmp .ne 12, 3) := by decide +kernel
theorem dX9_step_51 : decode cX9_step 51 = .ok (.aload_n 0, 1) := by decide +kernel
theorem dX9_step_52 : decode cX9_step 52 = .ok (.getfield 40, 3) := by decide +kernel
theorem dX9_step_55 : decode cX9_step 55 = .ok (.iload_n 1, 1) := by decide +kernel
theorem dX9_step_56 : decode cX9_step 56 = .ok (.iaload, 1) := by decide +kernel
theorem dX9_step_57 : decode cX9_step 57 = .ok (.goto 32, 3) := by decide +kernel
theorem dX9_step_60 : decode cX9_step 60 = .ok (.iload_n 2, 1) := by decide +kernel
theorem dX9_step_61 : decode cX9_step 61 = .ok (.iconst 3, 1) := by decide +kernel
theorem dX9_step_62 : decode cX9_step 62 = .ok (.if_icmp .ne 26, 3) := by decide +kernel
theorem dX9_step_65 : decode cX9_step 65 = .ok (.aload_n 0, 1) := by decide +kernel
theorem dX9_step_66 : decode cX9_step 66 = .ok (.getfield 40, 3) := by decide +kernel
theorem dX9_step_69 : decode cX9_step 69 = .ok (.iload_n 1, 1) := by decide +kernel
theorem dX9_step_70 : decode cX9_step 70 = .ok (.iaload, 1) := by decide +kernel
theorem dX9_step_71 : decode cX9_step 71 = .ok (.ifCond .ne 17, 3) := by decide +kernel
theorem dX9_step_74 : decode cX9_step 74 = .ok (.aload_n 0, 1) := by decide +kernel
theorem dX9_step_75 : decode cX9_step 75 = .ok (.getfield 43, 3) := by decide +kernel
theorem dX9_step_78 : decode cX9_step 78 = .ok (.aload_n 0, 1) := by decide +kernel
theorem dX9_step_79 : decode cX9_step 79 = .ok (.getfield 34, 3) := by decide +kernel
theorem dX9_step_82 : decode cX9_step 82 = .ok (.iload_n 1, 1) := by decide +kernel
theorem dX9_step_83 : decode cX9_step 83 = .ok (.iaload, 1) := by decide +kernel
theorem dX9_step_84 : decode cX9_step 84 = .ok (.iaload, 1) := by decide +kernel
theorem dX9_step_85 : decode cX9_step 85 = .ok (.goto 4, 3) := by decide +kernel
theorem dX9_step_88 : decode cX9_step 88 = .ok (.iconst (-1), 1) := by decide +kernel
theorem dX9_step_89 : decode cX9_step 89 = .ok (.ireturn, 1) := by decide +kernel
theorem dX9_told_0 : decode cX9_told 0 = .ok (.aload_n 0, 1) := by decide +kernel
theorem dX9_told_1 : decode cX9_told 1 = .ok (.iconst 0, 1) := by decide +kernel
theorem dX9_told_2 : decode cX9_told 2 = .ok (.putfield 65, 3) := by decide +kernel
theorem dX9_told_5 : decode cX9_told 5 = .ok (.iconst 0, 1) := by decide +kernel
theorem dX9_told_6 : decode cX9_told 6 = .ok (.istore_n 2, 1) := by decide +kernel
theorem dX9_told_7 : decode cX9_told 7 = .ok (.iconst 0, 1) := by decide +kernel
theorem dX9_told_8 : decode cX9_told 8 = .ok (.istore_n 3, 1) := by decide +kernel
theorem dX9_told_9 : decode cX9_told 9 = .ok (.iload_n 3, 1) := by decide +kernel
theorem dX9_told_10 : decode cX9_told 10 = .ok (.aload_n 0, 1) := by decide +kernel
theorem dX9_told_11 : decode cX9_told 11 = .ok (.getfield 93, 3) := by decide +kernel
theorem dX9_told_14 : decode cX9_told 14 = .ok (.if_icmp .ge 26, 3) := by decide +kernel
theorem dX9_told_17 : decode cX9_told 17 = .ok (.aload_n 0, 1) := by decide +kernel
theorem dX9_told_18 : decode cX9_told 18 = .ok (.getfield 40, 3) := by decide +kernel
theorem dX9_told_21 : decode cX9_told 21 = .ok (.iload_n 3, 1) := by decide +kernel
theorem dX9_told_22 : decode cX9_told 22 = .ok (.iaload, 1) := by decide +kernel
theorem dX9_told_23 : decode cX9_told 23 = .ok (.ifCond .le 9, 3) := by decide +kernel
theorem dX9_told_26 : decode cX9_told 26 = .ok (.iload_n 2, 1) := by decide +kernel
theorem dX9_told_27 : decode cX9_told 27 = .ok (.iconst 1, 1) := by decide +kernel
theorem dX9_told_28 : decode cX9_told 28 = .ok (.iadd, 1) := by decide +kernel
theorem dX9_told_29 : decode cX9_told 29 = .ok (.goto 4, 3) := by decide +kernel
theorem dX9_told_32 : decode cX9_told 32 = .ok (.iload_n 2, 1) := by decide +kernel
theorem dX9_told_33 : decode cX9_told 33 = .ok (.istore_n 2, 1) := by decide +kernel
theorem dX9_told_34 : decode cX9_told 34 = .ok (.iinc 3 1, 3) := by decide +kernel
theorem dX9_told_37 : decode cX9_told 37 = .ok (.goto (-28), 3) := by decide +kernel
theorem dX9_told_40 : decode cX9_told 40 = .ok (.iload_n 1, 1) := by decide +kernel
theorem dX9_told_41 : decode cX9_told 41 = .ok (.ifCond .ne 10, 3) := by decide +kernel
theorem dX9_told_44 : decode cX9_told 44 = .ok (.aload_n 0, 1) := by decide +kernel
theorem dX9_told_45 : decode cX9_told 45 = .ok (.getfield 93, 3) := by decide +kernel
theorem dX9_told_48 : decode cX9_told 48 = .ok (.goto 49, 3) := by decide +kernel
theorem dX9_told_51 : decode cX9_told 51 = .ok (.iload_n 1, 1) := by decide +kernel
theorem dX9_told_52 : decode cX9_told 52 = .ok (.iconst 1, 1) := by decide +kernel
theorem dX9_told_53 : decode cX9_told 53 = .ok (.if_icmp .ne 7, 3) := by decide +kernel
theorem dX9_told_56 : decode cX9_told 56 = .ok (.iload_n 2, 1) := by decide +kernel
theorem dX9_told_57 : decode cX9_told 57 = .ok (.goto 40, 3) := by decide +kernel
theorem dX9_told_60 : decode cX9_told 60 = .ok (.iload_n 1, 1) := by decide +kernel
theorem dX9_told_61 : decode cX9_told 61 = .ok (.iconst 2, 1) := by decide +kernel
theorem dX9_told_62 : decode cX9_told 62 = .ok (.if_icmp .ne 10, 3) := by decide +kernel
theorem dX9_told_65 : decode cX9_told 65 = .ok (.aload_n 0, 1) := by decide +kernel
theorem dX9_told_66 : decode cX9_told 66 = .ok (.getfield 96, 3) := by decide +kernel
theorem dX9_told_69 : decode cX9_told 69 = .ok (.goto 28, 3) := by decide +kernel
theorem dX9_told_72 : decode cX9_told 72 = .ok (.iload_n 1, 1) := by decide +kernel
theorem dX9_told_73 : decode cX9_told 73 = .ok (.iconst 3, 1) := by decide +kernel
theorem dX9_told_74 : decode cX9_told 74 = .ok (.if_icmp .ne 10, 3) := by decide +kernel
theorem dX9_told_77 : decode cX9_told 77 = .ok (.aload_n 0, 1) := by decide +kernel
theorem dX9_told_78 : decode cX9_told 78 = .ok (.getfield 99, 3) := by decide +kernel
theorem dX9_told_81 : decode cX9_told 81 = .ok (.goto 16, 3) := by decide +kernel
theorem dX9_told_84 : decode cX9_told 84 = .ok (.iload_n 1, 1) := by decide +kernel
theorem dX9_told_85 : decode cX9_told 85 = .ok (.iconst 4, 1) := by decide +kernel
theorem dX9_told_86 : decode cX9_told 86 = .ok (.if_icmp .ne 10, 3) := by decide +kernel
theorem dX9_told_89 : decode cX9_told 89 = .ok (.aload_n 0, 1) := by decide +kernel
theorem dX9_told_90 : decode cX9_told 90 = .ok (.getfield 122, 3) := by decide +kernel
theorem dX9_told_93 : decode cX9_told 93 = .ok (.goto 4, 3) := by decide +kernel
theorem dX9_told_96 : decode cX9_told 96 = .ok (.iconst (-1), 1) := by decide +kernel
theorem dX9_told_97 : decode cX9_told 97 = .ok (.ireturn, 1) := by decide +kernel
set_option maxRecDepth 20000 in
theorem ggX9_at_X9_know : GoodIn wsX9_at wsX9_know := goodIn_r _ [8, 9, 2, 10, 11, 3, 12, 13, 14, 15, 16, 7, 17, 18, 19, 20, 21, 22, 23, 24, 25, 26, 27, 28, 29, 30, 31, 40, 41, 42, 43, 44, 45, 46, 47, 48, 49, 50, 51, 52, 53, 54, 55, 56, 57, 58, 59, 60, 61, 62, 63, 64, 65, 66, 67, 68, 69, 70] (by decide +kernel) (by decide +kernel)
set_option maxRecDepth 20000 in
theorem gX9_at_X9_know : GoodIn wsX9_at (wsV RX9 112 RX9 yX9_know wsX9_know) := goodIn_app (goodIn_of _ (by decide +kernel)) ggX9_at_X9_know
set_option maxRecDepth 20000 in
theorem ggX9_at_X9_longestAt : GoodIn wsX9_at wsX9_longestAt := goodIn_r _ [35, 2, 26, 27, 28, 7, 29, 30, 10, 31, 12, 40, 41, 42, 43, 44, 45, 46, 47, 48, 49, 50, 51, 52, 53, 54, 55, 56, 57, 58, 59, 60, 61, 62, 63, 64, 65, 66, 67, 68, 69, 70] (by decide +kernel) (by decide +kernel)
set_option maxRecDepth 20000 in
theorem gX9_at_X9_longestAt : GoodIn wsX9_at (wsV RX9 106 RX9 yX9_longestAt wsX9_longestAt) := goodIn_app (goodIn_of _ (by decide +kernel)) ggX9_at_X9_longestAt
set_option maxRecDepth 20000 in
theorem ggX9_at_X9_longest : GoodIn wsX9_at wsX9_longest := goodIn_r _ [29, 30, 10, 31, 12, 40, 41, 42, 43, 44, 45, 46, 47, 48, 49, 50, 51, 52, 53, 54, 55, 56, 57, 58, 59, 60, 61, 62, 63, 64, 65, 66, 67, 68, 69, 70] (by decide +kernel) (by decide +kernel)
set_option maxRecDepth 20000 in
theorem gX9_at_X9_longest : GoodIn wsX9_at (wsV RX9 89 RX9 yX9_longest wsX9_longest) := goodIn_app (goodIn_of _ (by decide +kernel)) ggX9_at_X9_longest
set_option maxRecDepth 20000 in
theorem ggX9_at_X9_nearestOf : GoodIn wsX9_at wsX9_nearestOf := goodIn_r _ [39, 26, 27, 28, 7, 29, 30, 10, 31, 12, 40, 41, 42, 43, 44, 45, 46, 47, 48, 49, 50, 51, 52, 53, 54, 55, 56, 57, 58, 59, 60, 61, 62, 63, 64, 65, 66, 67, 68, 69, 70] (by decide +kernel) (by decide +kernel)
set_option maxRecDepth 20000 in
theorem gX9_at_X9_nearestOf : GoodIn wsX9_at (wsV RX9 109 RX9 yX9_nearestOf wsX9_nearestOf) := goodIn_app (goodIn_of _ (by decide +kernel)) ggX9_at_X9_nearestOf
theorem dX9_at_0 : decode cX9_at 0 = .ok (.aload_n 0, 1) := by decide +kernel
theorem dX9_at_1 : decode cX9_at 1 = .ok (.iconst 0, 1) := by decide +kernel
theorem dX9_at_2 : decode cX9_at 2 = .ok (.putfield 65, 3) := by decide +kernel
theorem dX9_at_5 : decode cX9_at 5 = .ok (.iload_n 2, 1) := by decide +kernel
theorem dX9_at_6 : decode cX9_at 6 = .ok (.ifCond .lt 37, 3) := by decide +kernel
theorem dX9_at_9 : decode cX9_at 9 = .ok (.iload_n 2, 1) := by decide +kernel
theorem dX9_at_10 : decode cX9_at 10 = .ok (.iconst 3, 1) := by decide +kernel
theorem dX9_at_11 : decode cX9_at 11 = .ok (.if_icmp .gt 32, 3) := by decide +kernel
theorem dX9_at_14 : decode cX9_at 14 = .ok (.iload_n 1, 1) := by decide +kernel
theorem dX9_at_15 : decode cX9_at 15 = .ok (.ifCond .lt 28, 3) := by decide +kernel
theorem dX9_at_18 : decode cX9_at 18 = .ok (.iload_n 1, 1) := by decide +kernel
theorem dX9_at_19 : decode cX9_at 19 = .ok (.aload_n 0, 1) := by decide +kernel
theorem dX9_at_20 : decode cX9_at 20 = .ok (.getfield 68, 3) := by decide +kernel
theorem dX9_at_23 : decode cX9_at 23 = .ok (.if_icmp .lt 16, 3) := by decide +kernel
theorem dX9_at_26 : decode cX9_at 26 = .ok (.iload_n 2, 1) := by decide +kernel
theorem dX9_at_27 : decode cX9_at 27 = .ok (.iconst 3, 1) := by decide +kernel
theorem dX9_at_28 : decode cX9_at 28 = .ok (.if_icmp .ne 15, 3) := by decide +kernel
theorem dX9_at_31 : decode cX9_at 31 = .ok (.iload_n 1, 1) := by decide +kernel
theorem dX9_at_32 : decode cX9_at 32 = .ok (.aload_n 0, 1) := by decide +kernel
theorem dX9_at_33 : decode cX9_at 33 = .ok (.getfield 68, 3) := by decide +kernel
theorem dX9_at_36 : decode cX9_at 36 = .ok (.if_icmp .ne 7, 3) := by decide +kernel
theorem dX9_at_39 : decode cX9_at 39 = .ok (.iconst 1, 1) := by decide +kernel
theorem dX9_at_40 : decode cX9_at 40 = .ok (.goto 4, 3) := by decide +kernel
theorem dX9_at_43 : decode cX9_at 43 = .ok (.iconst 0, 1) := by decide +kernel
theorem dX9_at_44 : decode cX9_at 44 = .ok (.istore_n 3, 1) := by decide +kernel
theorem dX9_at_45 : decode cX9_at 45 = .ok (.iload_n 3, 1) := by decide +kernel
theorem dX9_at_46 : decode cX9_at 46 = .ok (.ifCond .ne 5, 3) := by decide +kernel
theorem dX9_at_49 : decode cX9_at 49 = .ok (.iconst (-1), 1) := by decide +kernel
theorem dX9_at_50 : decode cX9_at 50 = .ok (.ireturn, 1) := by decide +kernel
theorem dX9_at_51 : decode cX9_at 51 = .ok (.aload_n 0, 1) := by decide +kernel
theorem dX9_at_52 : decode cX9_at 52 = .ok (.invokevirtual 112, 3) := by decide +kernel
theorem dX9_at_55 : decode cX9_at 55 = .ok (.iload_n 2, 1) := by decide +kernel
theorem dX9_at_56 : decode cX9_at 56 = .ok (.iconst 3, 1) := by decide +kernel
theorem dX9_at_57 : decode cX9_at 57 = .ok (.if_icmp .ne 10, 3) := by decide +kernel
theorem dX9_at_60 : decode cX9_at 60 = .ok (.aload_n 0, 1) := by decide +kernel
theorem dX9_at_61 : decode cX9_at 61 = .ok (.getfield 31, 3) := by decide +kernel
theorem dX9_at_64 : decode cX9_at 64 = .ok (.iload_n 1, 1) := by decide +kernel
theorem dX9_at_65 : decode cX9_at 65 = .ok (.iaload, 1) := by decide +kernel
theorem dX9_at_66 : decode cX9_at 66 = .ok (.ireturn, 1) := by decide +kernel
theorem dX9_at_67 : decode cX9_at 67 = .ok (.aload_n 0, 1) := by decide +kernel
theorem dX9_at_68 : decode cX9_at 68 = .ok (.iload_n 1, 1) := by decide +kernel
theorem dX9_at_69 : decode cX9_at 69 = .ok (.invokevirtual 106, 3) := by decide +kernel
theorem dX9_at_72 : decode cX9_at 72 = .ok (.istore 4, 2) := by decide +kernel
theorem dX9_at_74 : decode cX9_at 74 = .ok (.iconst 0, 1) := by decide +kernel
theorem dX9_at_75 : decode cX9_at 75 = .ok (.istore 5, 2) := by decide +kernel
theorem dX9_at_77 : decode cX9_at 77 = .ok (.iconst 1, 1) := by decide +kernel
theorem dX9_at_78 : decode cX9_at 78 = .ok (.istore 6, 2) := by decide +kernel
theorem dX9_at_80 : decode cX9_at 80 = .ok (.iload 6, 2) := by decide +kernel
theorem dX9_at_82 : decode cX9_at 82 = .ok (.iload_n 1, 1) := by decide +kernel
theorem dX9_at_83 : decode cX9_at 83 = .ok (.if_icmp .gt 30, 3) := by decide +kernel
theorem dX9_at_86 : decode cX9_at 86 = .ok (.aload_n 0, 1) := by decide +kernel
theorem dX9_at_87 : decode cX9_at 87 = .ok (.iload_n 1, 1) := by decide +kernel
theorem dX9_at_88 : decode cX9_at 88 = .ok (.iload 6, 2) := by decide +kernel
theorem dX9_at_90 : decode cX9_at 90 = .ok (.invokevirtual 89, 3) := by decide +kernel
theorem dX9_at_93 : decode cX9_at 93 = .ok (.ifCond .le 10, 3) := by decide +kernel
theorem dX9_at_96 : decode cX9_at 96 = .ok (.iload 5, 2) := by decide +kernel
theorem dX9_at_98 : decode cX9_at 98 = .ok (.iconst 1, 1) := by decide +kernel
theorem dX9_at_99 : decode cX9_at 99 = .ok (.iadd, 1) := by decide +kernel
theorem dX9_at_100 : decode cX9_at 100 = .ok (.goto 5, 3) := by decide +kernel
theorem dX9_at_103 : decode cX9_at 103 = .ok (.iload 5, 2) := by decide +kernel
theorem dX9_at_105 : decode cX9_at 105 = .ok (.istore 5, 2) := by decide +kernel
theorem dX9_at_107 : decode cX9_at 107 = .ok (.iinc 6 1, 3) := by decide +kernel
theorem dX9_at_110 : decode cX9_at 110 = .ok (.goto (-30), 3) := by decide +kernel
theorem dX9_at_113 : decode cX9_at 113 = .ok (.iload_n 2, 1) := by decide +kernel
theorem dX9_at_114 : decode cX9_at 114 = .ok (.ifCond .ne 8, 3) := by decide +kernel
theorem dX9_at_117 : decode cX9_at 117 = .ok (.iload 4, 2) := by decide +kernel
theorem dX9_at_119 : decode cX9_at 119 = .ok (.goto 29, 3) := by decide +kernel
theorem dX9_at_122 : decode cX9_at 122 = .ok (.iload_n 2, 1) := by decide +kernel
theorem dX9_at_123 : decode cX9_at 123 = .ok (.iconst 2, 1) := by decide +kernel
theorem dX9_at_124 : decode cX9_at 124 = .ok (.if_icmp .ne 8, 3) := by decide +kernel
theorem dX9_at_127 : decode cX9_at 127 = .ok (.iload 5, 2) := by decide +kernel
theorem dX9_at_129 : decode cX9_at 129 = .ok (.goto 19, 3) := by decide +kernel
theorem dX9_at_132 : decode cX9_at 132 = .ok (.iload 4, 2) := by decide +kernel
theorem dX9_at_134 : decode cX9_at 134 = .ok (.ifCond .ne 7, 3) := by decide +kernel
theorem dX9_at_137 : decode cX9_at 137 = .ok (.iconst 0, 1) := by decide +kernel
theorem dX9_at_138 : decode cX9_at 138 = .ok (.goto 10, 3) := by decide +kernel
theorem dX9_at_141 : decode cX9_at 141 = .ok (.aload_n 0, 1) := by decide +kernel
theorem dX9_at_142 : decode cX9_at 142 = .ok (.iload_n 1, 1) := by decide +kernel
theorem dX9_at_143 : decode cX9_at 143 = .ok (.iload 4, 2) := by decide +kernel
theorem dX9_at_145 : decode cX9_at 145 = .ok (.invokevirtual 109, 3) := by decide +kernel
theorem dX9_at_148 : decode cX9_at 148 = .ok (.ireturn, 1) := by decide +kernel
theorem dX9_put_0 : decode cX9_put 0 = .ok (.iload_n 2, 1) := by decide +kernel
theorem dX9_put_1 : decode cX9_put 1 = .ok (.iconst 1, 1) := by decide +kernel
theorem dX9_put_2 : decode cX9_put 2 = .ok (.isub, 1) := by decide +kernel
theorem dX9_put_3 : decode cX9_put 3 = .ok (.istore_n 3, 1) := by decide +kernel
theorem dX9_put_4 : decode cX9_put 4 = .ok (.iload_n 3, 1) := by decide +kernel
theorem dX9_put_5 : decode cX9_put 5 = .ok (.ifCond .lt 42, 3) := by decide +kernel
theorem dX9_put_8 : decode cX9_put 8 = .ok (.aload_n 0, 1) := by decide +kernel
theorem dX9_put_9 : decode cX9_put 9 = .ok (.getfield 46, 3) := by decide +kernel
theorem dX9_put_12 : decode cX9_put 12 = .ok (.aload_n 0, 1) := by decide +kernel
theorem dX9_put_13 : decode cX9_put 13 = .ok (.getfield 131, 3) := by decide +kernel
theorem dX9_put_16 : decode cX9_put 16 = .ok (.iload_n 1, 1) := by decide +kernel
theorem dX9_put_17 : decode cX9_put 17 = .ok (.iload_n 3, 1) := by decide +kernel
theorem dX9_put_18 : decode cX9_put 18 = .ok (.ishr, 1) := by decide +kernel
theorem dX9_put_19 : decode cX9_put 19 = .ok (.iconst 1, 1) := by decide +kernel
theorem dX9_put_20 : decode cX9_put 20 = .ok (.iand, 1) := by decide +kernel
theorem dX9_put_21 : decode cX9_put 21 = .ok (.iconst 1, 1) := by decide +kernel
theorem dX9_put_22 : decode cX9_put 22 = .ok (.if_icmp .ne 7, 3) := by decide +kernel
theorem dX9_put_25 : decode cX9_put 25 = .ok (.iconst 1, 1) := by decide +kernel
theorem dX9_put_26 : decode cX9_put 26 = .ok (.goto 4, 3) := by decide +kernel
theorem dX9_put_29 : decode cX9_put 29 = .ok (.iconst 0, 1) := by decide +kernel
theorem dX9_put_30 : decode cX9_put 30 = .ok (.bastore, 1) := by decide +kernel
theorem dX9_put_31 : decode cX9_put 31 = .ok (.aload_n 0, 1) := by decide +kernel
theorem dX9_put_32 : decode cX9_put 32 = .ok (.dup, 1) := by decide +kernel
theorem dX9_put_33 : decode cX9_put 33 = .ok (.getfield 131, 3) := by decide +kernel
theorem dX9_put_36 : decode cX9_put 36 = .ok (.iconst 1, 1) := by decide +kernel
theorem dX9_put_37 : decode cX9_put 37 = .ok (.iadd, 1) := by decide +kernel
theorem dX9_put_38 : decode cX9_put 38 = .ok (.putfield 131, 3) := by decide +kernel
theorem dX9_put_41 : decode cX9_put 41 = .ok (.iinc 3 (-1), 3) := by decide +kernel
theorem dX9_put_44 : decode cX9_put 44 = .ok (.goto (-40), 3) := by decide +kernel
theorem dX9_put_47 : decode cX9_put 47 = .ok (.return_, 1) := by decide +kernel
set_option maxRecDepth 20000 in
theorem ggX9_write_X9_put : GoodIn wsX9_write wsX9_put := goodIn_r _ [16, 17, 2, 21, 22, 23, 24, 25, 26, 27, 28, 29, 30, 31, 32, 33, 34, 35, 36, 37, 38, 39, 40, 41, 42, 43, 44, 45, 46, 47, 48, 49, 50, 51] (by decide +kernel) (by decide +kernel)
set_option maxRecDepth 20000 in
theorem gX9_write_X9_put : GoodIn wsX9_write (wsV RX9 134 RX9 yX9_put wsX9_put) := goodIn_app (goodIn_of _ (by decide +kernel)) ggX9_write_X9_put
set_option maxRecDepth 20000 in
theorem ggX9_write_X9_classOf : GoodIn wsX9_write wsX9_classOf := goodIn_r _ [20] (by decide +kernel) (by decide +kernel)
set_option maxRecDepth 20000 in
theorem gX9_write_X9_classOf : GoodIn wsX9_write (va_wsS RX9 77 yX9_classOf wsX9_classOf) := goodIn_app (goodIn_of _ (by decide +kernel)) ggX9_write_X9_classOf
theorem dX9_write_0 : decode cX9_write 0 = .ok (.aload_n 0, 1) := by decide +kernel
theorem dX9_write_1 : decode cX9_write 1 = .ok (.iconst 0, 1) := by decide +kernel
theorem dX9_write_2 : decode cX9_write 2 = .ok (.putfield 65, 3) := by decide +kernel
theorem dX9_write_5 : decode cX9_write 5 = .ok (.aload_n 0, 1) := by decide +kernel
theorem dX9_write_6 : decode cX9_write 6 = .ok (.iconst 0, 1) := by decide +kernel
theorem dX9_write_7 : decode cX9_write 7 = .ok (.putfield 131, 3) := by decide +kernel
theorem dX9_write_10 : decode cX9_write 10 = .ok (.aload_n 0, 1) := by decide +kernel
theorem dX9_write_11 : decode cX9_write 11 = .ok (.getfield 128, 3) := by decide +kernel
theorem dX9_write_14 : decode cX9_write 14 = .ok (.ifCond .eq 13, 3) := by decide +kernel
theorem dX9_write_17 : decode cX9_write 17 = .ok (.aload_n 0, 1) := by decide +kernel
theorem dX9_write_18 : decode cX9_write 18 = .ok (.aload_n 0, 1) := by decide +kernel
theorem dX9_write_19 : decode cX9_write 19 = .ok (.getfield 122, 3) := by decide +kernel
theorem dX9_write_22 : decode cX9_write 22 = .ok (.bipush 16, 2) := by decide +kernel
theorem dX9_write_24 : decode cX9_write 24 = .ok (.invokevirtual 134, 3) := by decide +kernel
theorem dX9_write_27 : decode cX9_write 27 = .ok (.iconst 0, 1) := by decide +kernel
theorem dX9_write_28 : decode cX9_write 28 = .ok (.istore_n 1, 1) := by decide +kernel
theorem dX9_write_29 : decode cX9_write 29 = .ok (.iload_n 1, 1) := by decide +kernel
theorem dX9_write_30 : decode cX9_write 30 = .ok (.aload_n 0, 1) := by decide +kernel
theorem dX9_write_31 : decode cX9_write 31 = .ok (.getfield 93, 3) := by decide +kernel
theorem dX9_write_34 : decode cX9_write 34 = .ok (.if_icmp .ge 116, 3) := by decide +kernel
theorem dX9_write_37 : decode cX9_write 37 = .ok (.aload_n 0, 1) := by decide +kernel
theorem dX9_write_38 : decode cX9_write 38 = .ok (.getfield 40, 3) := by decide +kernel
theorem dX9_write_41 : decode cX9_write 41 = .ok (.iload_n 1, 1) := by decide +kernel
theorem dX9_write_42 : decode cX9_write 42 = .ok (.iaload, 1) := by decide +kernel
theorem dX9_write_43 : decode cX9_write 43 = .ok (.ifCond .ne 29, 3) := by decide +kernel
theorem dX9_write_46 : decode cX9_write 46 = .ok (.aload_n 0, 1) := by decide +kernel
theorem dX9_write_47 : decode cX9_write 47 = .ok (.iconst 0, 1) := by decide +kernel
theorem dX9_write_48 : decode cX9_write 48 = .ok (.iconst 1, 1) := by decide +kernel
theorem dX9_write_49 : decode cX9_write 49 = .ok (.invokevirtual 134, 3) := by decide +kernel
theorem dX9_write_52 : decode cX9_write 52 = .ok (.aload_n 0, 1) := by decide +kernel
theorem dX9_write_53 : decode cX9_write 53 = .ok (.aload_n 0, 1) := by decide +kernel
theorem dX9_write_54 : decode cX9_write 54 = .ok (.getfield 43, 3) := by decide +kernel
theorem dX9_write_57 : decode cX9_write 57 = .ok (.aload_n 0, 1) := by decide +kernel
theorem dX9_write_58 : decode cX9_write 58 = .ok (.getfield 34, 3) := by decide +kernel
theorem dX9_write_61 : decode cX9_write 61 = .ok (.iload_n 1, 1) := by decide +kernel
theorem dX9_write_62 : decode cX9_write 62 = .ok (.iaload, 1) := by decide +kernel
theorem dX9_write_63 : decode cX9_write 63 = .ok (.iaload, 1) := by decide +kernel
theorem dX9_write_64 : decode cX9_write 64 = .ok (.bipush 8, 2) := by decide +kernel
theorem dX9_write_66 : decode cX9_write 66 = .ok (.invokevirtual 134, 3) := by decide +kernel
theorem dX9_write_69 : decode cX9_write 69 = .ok (.goto 75, 3) := by decide +kernel
theorem dX9_write_72 : decode cX9_write 72 = .ok (.aload_n 0, 1) := by decide +kernel
theorem dX9_write_73 : decode cX9_write 73 = .ok (.getfield 37, 3) := by decide +kernel
theorem dX9_write_76 : decode cX9_write 76 = .ok (.iload_n 1, 1) := by decide +kernel
theorem dX9_write_77 : decode cX9_write 77 = .ok (.iaload, 1) := by decide +kernel
theorem dX9_write_78 : decode cX9_write 78 = .ok (.aload_n 0, 1) := by decide +kernel
theorem dX9_write_79 : decode cX9_write 79 = .ok (.getfield 125, 3) := by decide +kernel
theorem dX9_write_82 : decode cX9_write 82 = .ok (.isub, 1) := by decide +kernel
theorem dX9_write_83 : decode cX9_write 83 = .ok (.iconst 1, 1) := by decide +kernel
theorem dX9_write_84 : decode cX9_write 84 = .ok (.iadd, 1) := by decide +kernel
theorem dX9_write_85 : decode cX9_write 85 = .ok (.istore_n 2, 1) := by decide +kernel
theorem dX9_write_86 : decode cX9_write 86 = .ok (.iload_n 2, 1) := by decide +kernel
theorem dX9_write_87 : decode cX9_write 87 = .ok (.invokestatic 77, 3) := by decide +kernel
theorem dX9_write_90 : decode cX9_write 90 = .ok (.istore_n 3, 1) := by decide +kernel
theorem dX9_write_91 : decode cX9_write 91 = .ok (.aload_n 0, 1) := by decide +kernel
theorem dX9_write_92 : decode cX9_write 92 = .ok (.iconst 1, 1) := by decide +kernel
theorem dX9_write_93 : decode cX9_write 93 = .ok (.iconst 1, 1) := by decide +kernel
theorem dX9_write_94 : decode cX9_write 94 = .ok (.invokevirtual 134, 3) := by decide +kernel
theorem dX9_write_97 : decode cX9_write 97 = .ok (.aload_n 0, 1) := by decide +kernel
theorem dX9_write_98 : decode cX9_write 98 = .ok (.iconst 0, 1) := by decide +kernel
theorem dX9_write_99 : decode cX9_write 99 = .ok (.iload_n 3, 1) := by decide +kernel
theorem dX9_write_100 : decode cX9_write 100 = .ok (.invokevirtual 134, 3) := by decide +kernel
theorem dX9_write_103 : decode cX9_write 103 = .ok (.aload_n 0, 1) := by decide +kernel
theorem dX9_write_104 : decode cX9_write 104 = .ok (.iload_n 2, 1) := by decide +kernel
theorem dX9_write_105 : decode cX9_write 105 = .ok (.iload_n 3, 1) := by decide +kernel
theorem dX9_write_106 : decode cX9_write 106 = .ok (.iconst 1, 1) := by decide +kernel
theorem dX9_write_107 : decode cX9_write 107 = .ok (.iadd, 1) := by decide +kernel
theorem dX9_write_108 : decode cX9_write 108 = .ok (.invokevirtual 134, 3) := by decide +kernel
theorem dX9_write_111 : decode cX9_write 111 = .ok (.aload_n 0, 1) := by decide +kernel
theorem dX9_write_112 : decode cX9_write 112 = .ok (.aload_n 0, 1) := by decide +kernel
theorem dX9_write_113 : decode cX9_write 113 = .ok (.getfield 40, 3) := by decide +kernel
theorem dX9_write_116 : decode cX9_write 116 = .ok (.iload_n 1, 1) := by decide +kernel
theorem dX9_write_117 : decode cX9_write 117 = .ok (.iaload, 1) := by decide +kernel
theorem dX9_write_118 : decode cX9_write 118 = .ok (.invokestatic 77, 3) := by decide +kernel
theorem dX9_write_121 : decode cX9_write 121 = .ok (.iconst 4, 1) := by decide +kernel
theorem dX9_write_122 : decode cX9_write 122 = .ok (.invokevirtual 134, 3) := by decide +kernel
theorem dX9_write_125 : decode cX9_write 125 = .ok (.aload_n 0, 1) := by decide +kernel
theorem dX9_write_126 : decode cX9_write 126 = .ok (.aload_n 0, 1) := by decide +kernel
theorem dX9_write_127 : decode cX9_write 127 = .ok (.getfield 40, 3) := by decide +kernel
theorem dX9_write_130 : decode cX9_write 130 = .ok (.iload_n 1, 1) := by decide +kernel
theorem dX9_write_131 : decode cX9_write 131 = .ok (.iaload, 1) := by decide +kernel
theorem dX9_write_132 : decode cX9_write 132 = .ok (.aload_n 0, 1) := by decide +kernel
theorem dX9_write_133 : decode cX9_write 133 = .ok (.getfield 40, 3) := by decide +kernel
theorem dX9_write_136 : decode cX9_write 136 = .ok (.iload_n 1, 1) := by decide +kernel
theorem dX9_write_137 : decode cX9_write 137 = .ok (.iaload, 1) := by decide +kernel
theorem dX9_write_138 : decode cX9_write 138 = .ok (.invokestatic 77, 3) := by decide +kernel
theorem dX9_write_141 : decode cX9_write 141 = .ok (.invokevirtual 134, 3) := by decide +kernel
theorem dX9_write_144 : decode cX9_write 144 = .ok (.iinc 1 1, 3) := by decide +kernel
theorem dX9_write_147 : decode cX9_write 147 = .ok (.goto (-118), 3) := by decide +kernel
theorem dX9_write_150 : decode cX9_write 150 = .ok (.aload_n 0, 1) := by decide +kernel
theorem dX9_write_151 : decode cX9_write 151 = .ok (.getfield 131, 3) := by decide +kernel
theorem dX9_write_154 : decode cX9_write 154 = .ok (.bipush 8, 2) := by decide +kernel
theorem dX9_write_156 : decode cX9_write 156 = .ok (.irem, 1) := by decide +kernel
theorem dX9_write_157 : decode cX9_write 157 = .ok (.ifCond .le 12, 3) := by decide +kernel
theorem dX9_write_160 : decode cX9_write 160 = .ok (.aload_n 0, 1) := by decide +kernel
theorem dX9_write_161 : decode cX9_write 161 = .ok (.iconst 0, 1) := by decide +kernel
theorem dX9_write_162 : decode cX9_write 162 = .ok (.iconst 1, 1) := by decide +kernel
theorem dX9_write_163 : decode cX9_write 163 = .ok (.invokevirtual 134, 3) := by decide +kernel
theorem dX9_write_166 : decode cX9_write 166 = .ok (.goto (-16), 3) := by decide +kernel
theorem dX9_write_169 : decode cX9_write 169 = .ok (.aload_n 0, 1) := by decide +kernel
theorem dX9_write_170 : decode cX9_write 170 = .ok (.aload_n 0, 1) := by decide +kernel
theorem dX9_write_171 : decode cX9_write 171 = .ok (.getfield 131, 3) := by decide +kernel
theorem dX9_write_174 : decode cX9_write 174 = .ok (.bipush 8, 2) := by decide +kernel
theorem dX9_write_176 : decode cX9_write 176 = .ok (.idiv, 1) := by decide +kernel
theorem dX9_write_177 : decode cX9_write 177 = .ok (.putfield 138, 3) := by decide +kernel
theorem dX9_write_180 : decode cX9_write 180 = .ok (.aload_n 0, 1) := by decide +kernel
theorem dX9_write_181 : decode cX9_write 181 = .ok (.getfield 138, 3) := by decide +kernel
theorem dX9_write_184 : decode cX9_write 184 = .ok (.ireturn, 1) := by decide +kernel
theorem dX9_written_0 : decode cX9_written 0 = .ok (.aload_n 0, 1) := by decide +kernel
theorem dX9_written_1 : decode cX9_written 1 = .ok (.iconst 0, 1) := by decide +kernel
theorem dX9_written_2 : decode cX9_written 2 = .ok (.putfield 65, 3) := by decide +kernel
theorem dX9_written_5 : decode cX9_written 5 = .ok (.iload_n 1, 1) := by decide +kernel
theorem dX9_written_6 : decode cX9_written 6 = .ok (.ifCond .lt 11, 3) := by decide +kernel
theorem dX9_written_9 : decode cX9_written 9 = .ok (.iload_n 1, 1) := by decide +kernel
theorem dX9_written_10 : decode cX9_written 10 = .ok (.aload_n 0, 1) := by decide +kernel
theorem dX9_written_11 : decode cX9_written 11 = .ok (.getfield 138, 3) := by decide +kernel
theorem dX9_written_14 : decode cX9_written 14 = .ok (.if_icmp .lt 5, 3) := by decide +kernel
theorem dX9_written_17 : decode cX9_written 17 = .ok (.iconst (-1), 1) := by decide +kernel
theorem dX9_written_18 : decode cX9_written 18 = .ok (.ireturn, 1) := by decide +kernel
theorem dX9_written_19 : decode cX9_written 19 = .ok (.iconst 0, 1) := by decide +kernel
theorem dX9_written_20 : decode cX9_written 20 = .ok (.istore_n 2, 1) := by decide +kernel
theorem dX9_written_21 : decode cX9_written 21 = .ok (.iconst 0, 1) := by decide +kernel
theorem dX9_written_22 : decode cX9_written 22 = .ok (.istore_n 3, 1) := by decide +kernel
theorem dX9_written_23 : decode cX9_written 23 = .ok (.iload_n 3, 1) := by decide +kernel
theorem dX9_written_24 : decode cX9_written 24 = .ok (.bipush 8, 2) := by decide +kernel
theorem dX9_written_26 : decode cX9_written 26 = .ok (.if_icmp .ge 33, 3) := by decide +kernel
theorem dX9_written_29 : decode cX9_written 29 = .ok (.iconst 2, 1) := by decide +kernel
theorem dX9_written_30 : decode cX9_written 30 = .ok (.iload_n 2, 1) := by decide +kernel
theorem dX9_written_31 : decode cX9_written 31 = .ok (.imul, 1) := by decide +kernel
theorem dX9_written_32 : decode cX9_written 32 = .ok (.aload_n 0, 1) := by decide +kernel
theorem dX9_written_33 : decode cX9_written 33 = .ok (.getfield 46, 3) := by decide +kernel
theorem dX9_written_36 : decode cX9_written 36 = .ok (.bipush 8, 2) := by decide +kernel
theorem dX9_written_38 : decode cX9_written 38 = .ok (.iload_n 1, 1) := by decide +kernel
theorem dX9_written_39 : decode cX9_written 39 = .ok (.imul, 1) := by decide +kernel
theorem dX9_written_40 : decode cX9_written 40 = .ok (.iload_n 3, 1) := by decide +kernel
theorem dX9_written_41 : decode cX9_written 41 = .ok (.iadd, 1) := by decide +kernel
theorem dX9_written_42 : decode cX9_written 42 = .ok (.baload, 1) := by decide +kernel
theorem dX9_written_43 : decode cX9_written 43 = .ok (.ifCond .eq 7, 3) := by decide +kernel
theorem dX9_written_46 : decode cX9_written 46 = .ok (.iconst 1, 1) := by decide +kernel
theorem dX9_written_47 : decode cX9_written 47 = .ok (.goto 4, 3) := by decide +kernel
theorem dX9_written_50 : decode cX9_written 50 = .ok (.iconst 0, 1) := by decide +kernel
theorem dX9_written_51 : decode cX9_written 51 = .ok (.iadd, 1) := by decide +kernel
theorem dX9_written_52 : decode cX9_written 52 = .ok (.istore_n 2, 1) := by decide +kernel
theorem dX9_written_53 : decode cX9_written 53 = .ok (.iinc 3 1, 3) := by decide +kernel
theorem dX9_written_56 : decode cX9_written 56 = .ok (.goto (-33), 3) := by decide +kernel
theorem dX9_written_59 : decode cX9_written 59 = .ok (.iload_n 2, 1) := by decide +kernel
theorem dX9_written_60 : decode cX9_written 60 = .ok (.ireturn, 1) := by decide +kernel
theorem dX9_load_0 : decode cX9_load 0 = .ok (.aload_n 0, 1) := by decide +kernel
theorem dX9_load_1 : decode cX9_load 1 = .ok (.iconst 0, 1) := by decide +kernel
theorem dX9_load_2 : decode cX9_load 2 = .ok (.putfield 65, 3) := by decide +kernel
theorem dX9_load_5 : decode cX9_load 5 = .ok (.iload_n 3, 1) := by decide +kernel
theorem dX9_load_6 : decode cX9_load 6 = .ok (.iconst 1, 1) := by decide +kernel
theorem dX9_load_7 : decode cX9_load 7 = .ok (.if_icmp .lt 21, 3) := by decide +kernel
theorem dX9_load_10 : decode cX9_load 10 = .ok (.iload_n 3, 1) := by decide +kernel
theorem dX9_load_11 : decode cX9_load 11 = .ok (.bipush 8, 2) := by decide +kernel
theorem dX9_load_13 : decode cX9_load 13 = .ok (.if_icmp .gt 15, 3) := by decide +kernel
theorem dX9_load_16 : decode cX9_load 16 = .ok (.aload_n 0, 1) := by decide +kernel
theorem dX9_load_17 : decode cX9_load 17 = .ok (.getfield 141, 3) := by decide +kernel
theorem dX9_load_20 : decode cX9_load 20 = .ok (.iload_n 3, 1) := by decide +kernel
theorem dX9_load_21 : decode cX9_load 21 = .ok (.iadd, 1) := by decide +kernel
theorem dX9_load_22 : decode cX9_load 22 = .ok (.sipush 700, 3) := by decide +kernel
theorem dX9_load_25 : decode cX9_load 25 = .ok (.if_icmp .le 5, 3) := by decide +kernel
theorem dX9_load_28 : decode cX9_load 28 = .ok (.iconst (-1), 1) := by decide +kernel
theorem dX9_load_29 : decode cX9_load 29 = .ok (.ireturn, 1) := by decide +kernel
theorem dX9_load_30 : decode cX9_load 30 = .ok (.iload_n 3, 1) := by decide +kernel
theorem dX9_load_31 : decode cX9_load 31 = .ok (.iconst 1, 1) := by decide +kernel
theorem dX9_load_32 : decode cX9_load 32 = .ok (.isub, 1) := by decide +kernel
theorem dX9_load_33 : decode cX9_load 33 = .ok (.istore 4, 2) := by decide +kernel
theorem dX9_load_35 : decode cX9_load 35 = .ok (.iload 4, 2) := by decide +kernel
theorem dX9_load_37 : decode cX9_load 37 = .ok (.ifCond .lt 40, 3) := by decide +kernel
theorem dX9_load_40 : decode cX9_load 40 = .ok (.aload_n 0, 1) := by decide +kernel
theorem dX9_load_41 : decode cX9_load 41 = .ok (.getfield 50, 3) := by decide +kernel
theorem dX9_load_44 : decode cX9_load 44 = .ok (.aload_n 0, 1) := by decide +kernel
theorem dX9_load_45 : decode cX9_load 45 = .ok (.getfield 141, 3) := by decide +kernel
theorem dX9_load_48 : decode cX9_load 48 = .ok (.lload_n 1, 1) := by decide +kernel
theorem dX9_load_49 : decode cX9_load 49 = .ok (.bipush 8, 2) := by decide +kernel
theorem dX9_load_51 : decode cX9_load 51 = .ok (.iload 4, 2) := by decide +kernel
theorem dX9_load_53 : decode cX9_load 53 = .ok (.imul, 1) := by decide +kernel
theorem dX9_load_54 : decode cX9_load 54 = .ok (.lshr, 1) := by decide +kernel
theorem dX9_load_55 : decode cX9_load 55 = .ok (.ldc2_w 71, 3) := by decide +kernel
theorem dX9_load_58 : decode cX9_load 58 = .ok (.land, 1) := by decide +kernel
theorem dX9_load_59 : decode cX9_load 59 = .ok (.l2i, 1) := by decide +kernel
theorem dX9_load_60 : decode cX9_load 60 = .ok (.iastore, 1) := by decide +kernel
theorem dX9_load_61 : decode cX9_load 61 = .ok (.aload_n 0, 1) := by decide +kernel
theorem dX9_load_62 : decode cX9_load 62 = .ok (.dup, 1) := by decide +kernel
theorem dX9_load_63 : decode cX9_load 63 = .ok (.getfield 141, 3) := by decide +kernel
theorem dX9_load_66 : decode cX9_load 66 = .ok (.iconst 1, 1) := by decide +kernel
theorem dX9_load_67 : decode cX9_load 67 = .ok (.iadd, 1) := by decide +kernel
theorem dX9_load_68 : decode cX9_load 68 = .ok (.putfield 141, 3) := by decide +kernel
theorem dX9_load_71 : decode cX9_load 71 = .ok (.iinc 4 (-1), 3) := by decide +kernel
theorem dX9_load_74 : decode cX9_load 74 = .ok (.goto (-39), 3) := by decide +kernel
theorem dX9_load_77 : decode cX9_load 77 = .ok (.aload_n 0, 1) := by decide +kernel
theorem dX9_load_78 : decode cX9_load 78 = .ok (.getfield 141, 3) := by decide +kernel
theorem dX9_load_81 : decode cX9_load 81 = .ok (.ireturn, 1) := by decide +kernel
theorem dX9_takeBit_0 : decode cX9_takeBit 0 = .ok (.aload_n 0, 1) := by decide +kernel
theorem dX9_takeBit_1 : decode cX9_takeBit 1 = .ok (.getfield 144, 3) := by decide +kernel
theorem dX9_takeBit_4 : decode cX9_takeBit 4 = .ok (.bipush 8, 2) := by decide +kernel
theorem dX9_takeBit_6 : decode cX9_takeBit 6 = .ok (.idiv, 1) := by decide +kernel
theorem dX9_takeBit_7 : decode cX9_takeBit 7 = .ok (.aload_n 0, 1) := by decide +kernel
theorem dX9_takeBit_8 : decode cX9_takeBit 8 = .ok (.getfield 141, 3) := by decide +kernel
theorem dX9_takeBit_11 : decode cX9_takeBit 11 = .ok (.if_icmp .lt 24, 3) := by decide +kernel
theorem dX9_takeBit_14 : decode cX9_takeBit 14 = .ok (.aload_n 0, 1) := by decide +kernel
theorem dX9_takeBit_15 : decode cX9_takeBit 15 = .ok (.aload_n 0, 1) := by decide +kernel
theorem dX9_takeBit_16 : decode cX9_takeBit 16 = .ok (.getfield 147, 3) := by decide +kernel
theorem dX9_takeBit_19 : decode cX9_takeBit 19 = .ok (.ifCond .ne 7, 3) := by decide +kernel
theorem dX9_takeBit_22 : decode cX9_takeBit 22 = .ok (.iconst 1, 1) := by decide +kernel
theorem dX9_takeBit_23 : decode cX9_takeBit 23 = .ok (.goto 7, 3) := by decide +kernel
theorem dX9_takeBit_26 : decode cX9_takeBit 26 = .ok (.aload_n 0, 1) := by decide +kernel
theorem dX9_takeBit_27 : decode cX9_takeBit 27 = .ok (.getfield 147, 3) := by decide +kernel
theorem dX9_takeBit_30 : decode cX9_takeBit 30 = .ok (.putfield 147, 3) := by decide +kernel
theorem dX9_takeBit_33 : decode cX9_takeBit 33 = .ok (.iconst 0, 1) := by decide +kernel
theorem dX9_takeBit_34 : decode cX9_takeBit 34 = .ok (.ireturn, 1) := by decide +kernel
theorem dX9_takeBit_35 : decode cX9_takeBit 35 = .ok (.aload_n 0, 1) := by decide +kernel
theorem dX9_takeBit_36 : decode cX9_takeBit 36 = .ok (.getfield 50, 3) := by decide +kernel
theorem dX9_takeBit_39 : decode cX9_takeBit 39 = .ok (.aload_n 0, 1) := by decide +kernel
theorem dX9_takeBit_40 : decode cX9_takeBit 40 = .ok (.getfield 144, 3) := by decide +kernel
theorem dX9_takeBit_43 : decode cX9_takeBit 43 = .ok (.bipush 8, 2) := by decide +kernel
theorem dX9_takeBit_45 : decode cX9_takeBit 45 = .ok (.idiv, 1) := by decide +kernel
theorem dX9_takeBit_46 : decode cX9_takeBit 46 = .ok (.iaload, 1) := by decide +kernel
theorem dX9_takeBit_47 : decode cX9_takeBit 47 = .ok (.bipush 7, 2) := by decide +kernel
theorem dX9_takeBit_49 : decode cX9_takeBit 49 = .ok (.aload_n 0, 1) := by decide +kernel
theorem dX9_takeBit_50 : decode cX9_takeBit 50 = .ok (.getfield 144, 3) := by decide +kernel
theorem dX9_takeBit_53 : decode cX9_takeBit 53 = .ok (.bipush 8, 2) := by decide +kernel
theorem dX9_takeBit_55 : decode cX9_takeBit 55 = .ok (.irem, 1) := by decide +kernel
theorem dX9_takeBit_56 : decode cX9_takeBit 56 = .ok (.isub, 1) := by decide +kernel
theorem dX9_takeBit_57 : decode cX9_takeBit 57 = .ok (.ishr, 1) := by decide +kernel
theorem dX9_takeBit_58 : decode cX9_takeBit 58 = .ok (.iconst 1, 1) := by decide +kernel
theorem dX9_takeBit_59 : decode cX9_takeBit 59 = .ok (.iand, 1) := by decide +kernel
theorem dX9_takeBit_60 : decode cX9_takeBit 60 = .ok (.istore_n 1, 1) := by decide +kernel
theorem dX9_takeBit_61 : decode cX9_takeBit 61 = .ok (.aload_n 0, 1) := by decide +kernel
theorem dX9_takeBit_62 : decode cX9_takeBit 62 = .ok (.dup, 1) := by decide +kernel
theorem dX9_takeBit_63 : decode cX9_takeBit 63 = .ok (.getfield 144, 3) := by decide +kernel
theorem dX9_takeBit_66 : decode cX9_takeBit 66 = .ok (.iconst 1, 1) := by decide +kernel
theorem dX9_takeBit_67 : decode cX9_takeBit 67 = .ok (.iadd, 1) := by decide +kernel
theorem dX9_takeBit_68 : decode cX9_takeBit 68 = .ok (.putfield 144, 3) := by decide +kernel
theorem dX9_takeBit_71 : decode cX9_takeBit 71 = .ok (.iload_n 1, 1) := by decide +kernel
theorem dX9_takeBit_72 : decode cX9_takeBit 72 = .ok (.ireturn, 1) := by decide +kernel
set_option maxRecDepth 20000 in
theorem ggX9_take_X9_takeBit : GoodIn wsX9_take wsX9_takeBit := goodIn_r _ [6, 7, 8, 1, 9, 10, 11, 12, 13, 14, 15, 16, 17, 18, 19, 20, 21, 22, 23, 24, 25, 26, 27, 28, 29, 30, 31, 32, 33, 34, 35, 36, 37, 38, 39, 40] (by decide +kernel) (by decide +kernel)
set_option maxRecDepth 20000 in
theorem gX9_take_X9_takeBit : GoodIn wsX9_take (wsV RX9 150 RX9 yX9_takeBit wsX9_takeBit) := goodIn_app (goodIn_of _ (by decide +kernel)) ggX9_take_X9_takeBit
theorem dX9_take_0 : decode cX9_take 0 = .ok (.iconst 0, 1) := by decide +kernel
theorem dX9_take_1 : decode cX9_take 1 = .ok (.istore_n 2, 1) := by decide +kernel
theorem dX9_take_2 : decode cX9_take 2 = .ok (.iconst 0, 1) := by decide +kernel
theorem dX9_take_3 : decode cX9_take 3 = .ok (.istore_n 3, 1) := by decide +kernel
theorem dX9_take_4 : decode cX9_take 4 = .ok (.iload_n 3, 1) := by decide +kernel
theorem dX9_take_5 : decode cX9_take 5 = .ok (.iload_n 1, 1) := by decide +kernel
theorem dX9_take_6 : decode cX9_take 6 = .ok (.if_icmp .ge 25, 3) := by decide +kernel
theorem dX9_take_9 : decode cX9_take 9 = .ok (.aload_n 0, 1) := by decide +kernel
theorem dX9_take_10 : decode cX9_take 10 = .ok (.getfield 147, 3) := by decide +kernel
theorem dX9_take_13 : decode cX9_take 13 = .ok (.ifCond .ne 18, 3) := by decide +kernel
theorem dX9_take_16 : decode cX9_take 16 = .ok (.iconst 2, 1) := by decide +kernel
theorem dX9_take_17 : decode cX9_take 17 = .ok (.iload_n 2, 1) := by decide +kernel
theorem dX9_take_18 : decode cX9_take 18 = .ok (.imul, 1) := by decide +kernel
theorem dX9_take_19 : decode cX9_take 19 = .ok (.aload_n 0, 1) := by decide +kernel
theorem dX9_take_20 : decode cX9_take 20 = .ok (.invokevirtual 150, 3) := by decide +kernel
theorem dX9_take_23 : decode cX9_take 23 = .ok (.iadd, 1) := by decide +kernel
theorem dX9_take_24 : decode cX9_take 24 = .ok (.istore_n 2, 1) := by decide +kernel
theorem dX9_take_25 : decode cX9_take 25 = .ok (.iinc 3 1, 3) := by decide +kernel
theorem dX9_take_28 : decode cX9_take 28 = .ok (.goto (-24), 3) := by decide +kernel
theorem dX9_take_31 : decode cX9_take 31 = .ok (.iload_n 2, 1) := by decide +kernel
theorem dX9_take_32 : decode cX9_take 32 = .ok (.ireturn, 1) := by decide +kernel
theorem dX9_need_0 : decode cX9_need 0 = .ok (.aload_n 0, 1) := by decide +kernel
theorem dX9_need_1 : decode cX9_need 1 = .ok (.aload_n 0, 1) := by decide +kernel
theorem dX9_need_2 : decode cX9_need 2 = .ok (.getfield 147, 3) := by decide +kernel
theorem dX9_need_5 : decode cX9_need 5 = .ok (.ifCond .ne 11, 3) := by decide +kernel
theorem dX9_need_8 : decode cX9_need 8 = .ok (.iload_n 1, 1) := by decide +kernel
theorem dX9_need_9 : decode cX9_need 9 = .ok (.ifCond .ne 7, 3) := by decide +kernel
theorem dX9_need_12 : decode cX9_need 12 = .ok (.iload_n 2, 1) := by decide +kernel
theorem dX9_need_13 : decode cX9_need 13 = .ok (.goto 7, 3) := by decide +kernel
theorem dX9_need_16 : decode cX9_need 16 = .ok (.aload_n 0, 1) := by decide +kernel
theorem dX9_need_17 : decode cX9_need 17 = .ok (.getfield 147, 3) := by decide +kernel
theorem dX9_need_20 : decode cX9_need 20 = .ok (.putfield 147, 3) := by decide +kernel
theorem dX9_need_23 : decode cX9_need 23 = .ok (.return_, 1) := by decide +kernel
set_option maxRecDepth 20000 in
theorem ggX9_takeMatch_X9_takeBit : GoodIn wsX9_takeMatch wsX9_takeBit := goodIn_r _ [10, 11, 12, 1, 13, 22, 23, 24, 25, 26, 27, 28, 29, 30, 31, 32, 33, 34, 35, 36, 37, 38, 39, 40, 41, 42, 43, 44, 45, 46, 47, 48, 49, 50, 51, 52] (by decide +kernel) (by decide +kernel)
set_option maxRecDepth 20000 in
theorem gX9_takeMatch_X9_takeBit : GoodIn wsX9_takeMatch (wsV RX9 150 RX9 yX9_takeBit wsX9_takeBit) := goodIn_app (goodIn_of _ (by decide +kernel)) ggX9_takeMatch_X9_takeBit
set_option maxRecDepth 20000 in
theorem ggX9_takeMatch_X9_need : GoodIn wsX9_takeMatch wsX9_need := goodIn_r _ [17, 1, 22, 23, 24, 25, 26, 27, 28, 29, 30, 31, 32, 33, 34, 35, 36, 37, 38, 39, 40, 41, 42, 43, 44, 45, 46, 47, 48, 49, 50, 51, 52] (by decide +kernel) (by decide +kernel)
set_option maxRecDepth 20000 in
theorem gX9_takeMatch_X9_need : GoodIn wsX9_takeMatch (wsV RX9 154 RX9 yX9_need wsX9_need) := goodIn_app (goodIn_of _ (by decide +kernel)) ggX9_takeMatch_X9_need
set_option maxRecDepth 20000 in
theorem ggX9_takeMatch_X9_take : GoodIn wsX9_takeMatch wsX9_take := goodIn_r _ [21, 1, 6, 7, 8, 9, 10, 11, 12, 13, 22, 23, 24, 25, 26, 27, 28, 29, 30, 31, 32, 33, 34, 35, 36, 37, 38, 39, 40, 41, 42, 43, 44, 45, 46, 47, 48, 49, 50, 51, 52] (by decide +kernel) (by decide +kernel)
set_option maxRecDepth 20000 in
theorem gX9_takeMatch_X9_take : GoodIn wsX9_takeMatch (wsV RX9 158 RX9 yX9_take wsX9_take) := goodIn_app (goodIn_of _ (by decide +kernel)) ggX9_takeMatch_X9_take
theorem dX9_takeMatch_0 : decode cX9_takeMatch 0 = .ok (.iconst 0, 1) := by decide +kernel
theorem dX9_takeMatch_1 : decode cX9_takeMatch 1 = .ok (.istore_n 3, 1) := by decide +kernel
theorem dX9_takeMatch_2 : decode cX9_takeMatch 2 = .ok (.aload_n 0, 1) := by decide +kernel
theorem dX9_takeMatch_3 : decode cX9_takeMatch 3 = .ok (.getfield 147, 3) := by decide +kernel
theorem dX9_takeMatch_6 : decode cX9_takeMatch 6 = .ok (.ifCond .ne 22, 3) := by decide +kernel
theorem dX9_takeMatch_9 : decode cX9_takeMatch 9 = .ok (.iload_n 3, 1) := by decide +kernel
theorem dX9_takeMatch_10 : decode cX9_takeMatch 10 = .ok (.bipush 9, 2) := by decide +kernel
theorem dX9_takeMatch_12 : decode cX9_takeMatch 12 = .ok (.if_icmp .ge 16, 3) := by decide +kernel
theorem dX9_takeMatch_15 : decode cX9_takeMatch 15 = .ok (.aload_n 0, 1) := by decide +kernel
theorem dX9_takeMatch_16 : decode cX9_takeMatch 16 = .ok (.invokevirtual 150, 3) := by decide +kernel
theorem dX9_takeMatch_19 : decode cX9_takeMatch 19 = .ok (.ifCond .ne 9, 3) := by decide +kernel
theorem dX9_takeMatch_22 : decode cX9_takeMatch 22 = .ok (.iinc 3 1, 3) := by decide +kernel
theorem dX9_takeMatch_25 : decode cX9_takeMatch 25 = .ok (.goto (-23), 3) := by decide +kernel
theorem dX9_takeMatch_28 : decode cX9_takeMatch 28 = .ok (.aload_n 0, 1) := by decide +kernel
theorem dX9_takeMatch_29 : decode cX9_takeMatch 29 = .ok (.iload_n 3, 1) := by decide +kernel
theorem dX9_takeMatch_30 : decode cX9_takeMatch 30 = .ok (.bipush 9, 2) := by decide +kernel
theorem dX9_takeMatch_32 : decode cX9_takeMatch 32 = .ok (.if_icmp .ge 7, 3) := by decide +kernel
theorem dX9_takeMatch_35 : decode cX9_takeMatch 35 = .ok (.iconst 1, 1) := by decide +kernel
theorem dX9_takeMatch_36 : decode cX9_takeMatch 36 = .ok (.goto 4, 3) := by decide +kernel
theorem dX9_takeMatch_39 : decode cX9_takeMatch 39 = .ok (.iconst 0, 1) := by decide +kernel
theorem dX9_takeMatch_40 : decode cX9_takeMatch 40 = .ok (.iconst 3, 1) := by decide +kernel
theorem dX9_takeMatch_41 : decode cX9_takeMatch 41 = .ok (.invokevirtual 154, 3) := by decide +kernel
theorem dX9_takeMatch_44 : decode cX9_takeMatch 44 = .ok (.aload_n 0, 1) := by decide +kernel
theorem dX9_takeMatch_45 : decode cX9_takeMatch 45 = .ok (.getfield 147, 3) := by decide +kernel
theorem dX9_takeMatch_48 : decode cX9_takeMatch 48 = .ok (.ifCond .ne 22, 3) := by decide +kernel
theorem dX9_takeMatch_51 : decode cX9_takeMatch 51 = .ok (.iconst 1, 1) := by decide +kernel
theorem dX9_takeMatch_52 : decode cX9_takeMatch 52 = .ok (.iload_n 3, 1) := by decide +kernel
theorem dX9_takeMatch_53 : decode cX9_takeMatch 53 = .ok (.ishl, 1) := by decide +kernel
theorem dX9_takeMatch_54 : decode cX9_takeMatch 54 = .ok (.aload_n 0, 1) := by decide +kernel
theorem dX9_takeMatch_55 : decode cX9_takeMatch 55 = .ok (.iload_n 3, 1) := by decide +kernel
theorem dX9_takeMatch_56 : decode cX9_takeMatch 56 = .ok (.invokevirtual 158, 3) := by decide +kernel
theorem dX9_takeMatch_59 : decode cX9_takeMatch 59 = .ok (.iadd, 1) := by decide +kernel
theorem dX9_takeMatch_60 : decode cX9_takeMatch 60 = .ok (.aload_n 0, 1) := by decide +kernel
theorem dX9_takeMatch_61 : decode cX9_takeMatch 61 = .ok (.getfield 13, 3) := by decide +kernel
theorem dX9_takeMatch_64 : decode cX9_takeMatch 64 = .ok (.iadd, 1) := by decide +kernel
theorem dX9_takeMatch_65 : decode cX9_takeMatch 65 = .ok (.iconst 1, 1) := by decide +kernel
theorem dX9_takeMatch_66 : decode cX9_takeMatch 66 = .ok (.isub, 1) := by decide +kernel
theorem dX9_takeMatch_67 : decode cX9_takeMatch 67 = .ok (.goto 4, 3) := by decide +kernel
theorem dX9_takeMatch_70 : decode cX9_takeMatch 70 = .ok (.iconst 0, 1) := by decide +kernel
theorem dX9_takeMatch_71 : decode cX9_takeMatch 71 = .ok (.istore 4, 2) := by decide +kernel
theorem dX9_takeMatch_73 : decode cX9_takeMatch 73 = .ok (.aload_n 0, 1) := by decide +kernel
theorem dX9_takeMatch_74 : decode cX9_takeMatch 74 = .ok (.iload 4, 2) := by decide +kernel
theorem dX9_takeMatch_76 : decode cX9_takeMatch 76 = .ok (.aload_n 0, 1) := by decide +kernel
theorem dX9_takeMatch_77 : decode cX9_takeMatch 77 = .ok (.getfield 17, 3) := by decide +kernel
theorem dX9_takeMatch_80 : decode cX9_takeMatch 80 = .ok (.if_icmp .gt 15, 3) := by decide +kernel
theorem dX9_takeMatch_83 : decode cX9_takeMatch 83 = .ok (.iload 4, 2) := by decide +kernel
theorem dX9_takeMatch_85 : decode cX9_takeMatch 85 = .ok (.iload_n 2, 1) := by decide +kernel
theorem dX9_takeMatch_86 : decode cX9_takeMatch 86 = .ok (.iload_n 1, 1) := by decide +kernel
theorem dX9_takeMatch_87 : decode cX9_takeMatch 87 = .ok (.isub, 1) := by decide +kernel
theorem dX9_takeMatch_88 : decode cX9_takeMatch 88 = .ok (.if_icmp .gt 7, 3) := by decide +kernel
theorem dX9_takeMatch_91 : decode cX9_takeMatch 91 = .ok (.iconst 1, 1) := by decide +kernel
theorem dX9_takeMatch_92 : decode cX9_takeMatch 92 = .ok (.goto 4, 3) := by decide +kernel
theorem dX9_takeMatch_95 : decode cX9_takeMatch 95 = .ok (.iconst 0, 1) := by decide +kernel
theorem dX9_takeMatch_96 : decode cX9_takeMatch 96 = .ok (.iconst 3, 1) := by decide +kernel
theorem dX9_takeMatch_97 : decode cX9_takeMatch 97 = .ok (.invokevirtual 154, 3) := by decide +kernel
theorem dX9_takeMatch_100 : decode cX9_takeMatch 100 = .ok (.aload_n 0, 1) := by decide +kernel
theorem dX9_takeMatch_101 : decode cX9_takeMatch 101 = .ok (.getfield 147, 3) := by decide +kernel
theorem dX9_takeMatch_104 : decode cX9_takeMatch 104 = .ok (.ifCond .ne 11, 3) := by decide +kernel
theorem dX9_takeMatch_107 : decode cX9_takeMatch 107 = .ok (.aload_n 0, 1) := by decide +kernel
theorem dX9_takeMatch_108 : decode cX9_takeMatch 108 = .ok (.iconst 4, 1) := by decide +kernel
theorem dX9_takeMatch_109 : decode cX9_takeMatch 109 = .ok (.invokevirtual 158, 3) := by decide +kernel
theorem dX9_takeMatch_112 : decode cX9_takeMatch 112 = .ok (.goto 4, 3) := by decide +kernel
theorem dX9_takeMatch_115 : decode cX9_takeMatch 115 = .ok (.iconst 0, 1) := by decide +kernel
theorem dX9_takeMatch_116 : decode cX9_takeMatch 116 = .ok (.istore 5, 2) := by decide +kernel
theorem dX9_takeMatch_118 : decode cX9_takeMatch 118 = .ok (.aload_n 0, 1) := by decide +kernel
theorem dX9_takeMatch_119 : decode cX9_takeMatch 119 = .ok (.getfield 147, 3) := by decide +kernel
theorem dX9_takeMatch_122 : decode cX9_takeMatch 122 = .ok (.ifCond .ne 17, 3) := by decide +kernel
theorem dX9_takeMatch_125 : decode cX9_takeMatch 125 = .ok (.iconst 1, 1) := by decide +kernel
theorem dX9_takeMatch_126 : decode cX9_takeMatch 126 = .ok (.iload 5, 2) := by decide +kernel
theorem dX9_takeMatch_128 : decode cX9_takeMatch 128 = .ok (.ishl, 1) := by decide +kernel
theorem dX9_takeMatch_129 : decode cX9_takeMatch 129 = .ok (.aload_n 0, 1) := by decide +kernel
theorem dX9_takeMatch_130 : decode cX9_takeMatch 130 = .ok (.iload 5, 2) := by decide +kernel
theorem dX9_takeMatch_132 : decode cX9_takeMatch 132 = .ok (.invokevirtual 158, 3) := by decide +kernel
theorem dX9_takeMatch_135 : decode cX9_takeMatch 135 = .ok (.iadd, 1) := by decide +kernel
theorem dX9_takeMatch_136 : decode cX9_takeMatch 136 = .ok (.goto 4, 3) := by decide +kernel
theorem dX9_takeMatch_139 : decode cX9_takeMatch 139 = .ok (.iconst 1, 1) := by decide +kernel
theorem dX9_takeMatch_140 : decode cX9_takeMatch 140 = .ok (.istore 6, 2) := by decide +kernel
theorem dX9_takeMatch_142 : decode cX9_takeMatch 142 = .ok (.aload_n 0, 1) := by decide +kernel
theorem dX9_takeMatch_143 : decode cX9_takeMatch 143 = .ok (.iload 6, 2) := by decide +kernel
theorem dX9_takeMatch_145 : decode cX9_takeMatch 145 = .ok (.aload_n 0, 1) := by decide +kernel
theorem dX9_takeMatch_146 : decode cX9_takeMatch 146 = .ok (.getfield 20, 3) := by decide +kernel
theorem dX9_takeMatch_149 : decode cX9_takeMatch 149 = .ok (.if_icmp .gt 13, 3) := by decide +kernel
theorem dX9_takeMatch_152 : decode cX9_takeMatch 152 = .ok (.iload 6, 2) := by decide +kernel
theorem dX9_takeMatch_154 : decode cX9_takeMatch 154 = .ok (.iload_n 1, 1) := by decide +kernel
theorem dX9_takeMatch_155 : decode cX9_takeMatch 155 = .ok (.if_icmp .gt 7, 3) := by decide +kernel
theorem dX9_takeMatch_158 : decode cX9_takeMatch 158 = .ok (.iconst 1, 1) := by decide +kernel
theorem dX9_takeMatch_159 : decode cX9_takeMatch 159 = .ok (.goto 4, 3) := by decide +kernel
theorem dX9_takeMatch_162 : decode cX9_takeMatch 162 = .ok (.iconst 0, 1) := by decide +kernel
theorem dX9_takeMatch_163 : decode cX9_takeMatch 163 = .ok (.iconst 4, 1) := by decide +kernel
theorem dX9_takeMatch_164 : decode cX9_takeMatch 164 = .ok (.invokevirtual 154, 3) := by decide +kernel
theorem dX9_takeMatch_167 : decode cX9_takeMatch 167 = .ok (.iconst 0, 1) := by decide +kernel
theorem dX9_takeMatch_168 : decode cX9_takeMatch 168 = .ok (.istore 7, 2) := by decide +kernel
theorem dX9_takeMatch_170 : decode cX9_takeMatch 170 = .ok (.iload 7, 2) := by decide +kernel
theorem dX9_takeMatch_172 : decode cX9_takeMatch 172 = .ok (.iload 4, 2) := by decide +kernel
theorem dX9_takeMatch_174 : decode cX9_takeMatch 174 = .ok (.if_icmp .ge 37, 3) := by decide +kernel
theorem dX9_takeMatch_177 : decode cX9_takeMatch 177 = .ok (.aload_n 0, 1) := by decide +kernel
theorem dX9_takeMatch_178 : decode cX9_takeMatch 178 = .ok (.getfield 147, 3) := by decide +kernel
theorem dX9_takeMatch_181 : decode cX9_takeMatch 181 = .ok (.ifCond .ne 30, 3) := by decide +kernel
theorem dX9_takeMatch_184 : decode cX9_takeMatch 184 = .ok (.aload_n 0, 1) := by decide +kernel
theorem dX9_takeMatch_185 : decode cX9_takeMatch 185 = .ok (.getfield 53, 3) := by decide +kernel
theorem dX9_takeMatch_188 : decode cX9_takeMatch 188 = .ok (.iload_n 1, 1) := by decide +kernel
theorem dX9_takeMatch_189 : decode cX9_takeMatch 189 = .ok (.iload 7, 2) := by decide +kernel
theorem dX9_takeMatch_191 : decode cX9_takeMatch 191 = .ok (.iadd, 1) := by decide +kernel
theorem dX9_takeMatch_192 : decode cX9_takeMatch 192 = .ok (.aload_n 0, 1) := by decide +kernel
theorem dX9_takeMatch_193 : decode cX9_takeMatch 193 = .ok (.getfield 53, 3) := by decide +kernel
theorem dX9_takeMatch_196 : decode cX9_takeMatch 196 = .ok (.iload_n 1, 1) := by decide +kernel
theorem dX9_takeMatch_197 : decode cX9_takeMatch 197 = .ok (.iload 7, 2) := by decide +kernel
theorem dX9_takeMatch_199 : decode cX9_takeMatch 199 = .ok (.iadd, 1) := by decide +kernel
theorem dX9_takeMatch_200 : decode cX9_takeMatch 200 = .ok (.iload 6, 2) := by decide +kernel
theorem dX9_takeMatch_202 : decode cX9_takeMatch 202 = .ok (.isub, 1) := by decide +kernel
theorem dX9_takeMatch_203 : decode cX9_takeMatch 203 = .ok (.iaload, 1) := by decide +kernel
theorem dX9_takeMatch_204 : decode cX9_takeMatch 204 = .ok (.iastore, 1) := by decide +kernel
theorem dX9_takeMatch_205 : decode cX9_takeMatch 205 = .ok (.iinc 7 1, 3) := by decide +kernel
theorem dX9_takeMatch_208 : decode cX9_takeMatch 208 = .ok (.goto (-38), 3) := by decide +kernel
theorem dX9_takeMatch_211 : decode cX9_takeMatch 211 = .ok (.iload 4, 2) := by decide +kernel
theorem dX9_takeMatch_213 : decode cX9_takeMatch 213 = .ok (.ireturn, 1) := by decide +kernel
set_option maxRecDepth 20000 in
theorem ggX9_read_X9_take : GoodIn wsX9_read wsX9_take := goodIn_r _ [12, 2, 13, 14, 15, 11, 16, 3, 5, 17, 29, 30, 31, 32, 33, 34, 35, 36, 37, 38, 39, 40, 41, 42, 43, 44, 45, 46, 47, 48, 49, 50, 51, 52, 53, 54, 55, 56, 57, 58, 59] (by decide +kernel) (by decide +kernel)
set_option maxRecDepth 20000 in
theorem gX9_read_X9_take : GoodIn wsX9_read (wsV RX9 158 RX9 yX9_take wsX9_take) := goodIn_app (goodIn_of _ (by decide +kernel)) ggX9_read_X9_take
set_option maxRecDepth 20000 in
theorem ggX9_read_X9_need : GoodIn wsX9_read wsX9_need := goodIn_r _ [21, 2, 29, 30, 31, 32, 33, 34, 35, 36, 37, 38, 39, 40, 41, 42, 43, 44, 45, 46, 47, 48, 49, 50, 51, 52, 53, 54, 55, 56, 57, 58, 59] (by decide +kernel) (by decide +kernel)
set_option maxRecDepth 20000 in
theorem gX9_read_X9_need : GoodIn wsX9_read (wsV RX9 154 RX9 yX9_need wsX9_need) := goodIn_app (goodIn_of _ (by decide +kernel)) ggX9_read_X9_need
set_option maxRecDepth 20000 in
theorem ggX9_read_X9_takeBit : GoodIn wsX9_read wsX9_takeBit := goodIn_r _ [16, 3, 5, 2, 17, 29, 30, 31, 32, 33, 34, 35, 36, 37, 38, 39, 40, 41, 42, 43, 44, 45, 46, 47, 48, 49, 50, 51, 52, 53, 54, 55, 56, 57, 58, 59] (by decide +kernel) (by decide +kernel)
set_option maxRecDepth 20000 in
theorem gX9_read_X9_takeBit : GoodIn wsX9_read (wsV RX9 150 RX9 yX9_takeBit wsX9_takeBit) := goodIn_app (goodIn_of _ (by decide +kernel)) ggX9_read_X9_takeBit
set_option maxRecDepth 20000 in
theorem ggX9_read_X9_takeMatch : GoodIn wsX9_read wsX9_takeMatch := goodIn_r _ [25, 2, 26, 27, 28, 4, 13, 14, 15, 11, 16, 3, 5, 17, 18, 19, 20, 21, 8, 9, 10, 12, 29, 30, 31, 32, 33, 34, 35, 36, 37, 38, 39, 40, 41, 42, 43, 44, 45, 46, 47, 48, 49, 50, 51, 52, 53, 54, 55, 56, 57, 58, 59] (by decide +kernel) (by decide +kernel)
set_option maxRecDepth 20000 in
theorem gX9_read_X9_takeMatch : GoodIn wsX9_read (wsV RX9 161 RX9 yX9_takeMatch wsX9_takeMatch) := goodIn_app (goodIn_of _ (by decide +kernel)) ggX9_read_X9_takeMatch
theorem dX9_read_0 : decode cX9_read 0 = .ok (.aload_n 0, 1) := by decide +kernel
theorem dX9_read_1 : decode cX9_read 1 = .ok (.iconst 0, 1) := by decide +kernel
theorem dX9_read_2 : decode cX9_read 2 = .ok (.putfield 65, 3) := by decide +kernel
theorem dX9_read_5 : decode cX9_read 5 = .ok (.aload_n 0, 1) := by decide +kernel
theorem dX9_read_6 : decode cX9_read 6 = .ok (.iconst 0, 1) := by decide +kernel
theorem dX9_read_7 : decode cX9_read 7 = .ok (.putfield 147, 3) := by decide +kernel
theorem dX9_read_10 : decode cX9_read 10 = .ok (.aload_n 0, 1) := by decide +kernel
theorem dX9_read_11 : decode cX9_read 11 = .ok (.iconst 0, 1) := by decide +kernel
theorem dX9_read_12 : decode cX9_read 12 = .ok (.putfield 144, 3) := by decide +kernel
theorem dX9_read_15 : decode cX9_read 15 = .ok (.aload_n 0, 1) := by decide +kernel
theorem dX9_read_16 : decode cX9_read 16 = .ok (.bipush 16, 2) := by decide +kernel
theorem dX9_read_18 : decode cX9_read 18 = .ok (.invokevirtual 158, 3) := by decide +kernel
theorem dX9_read_21 : decode cX9_read 21 = .ok (.istore_n 1, 1) := by decide +kernel
theorem dX9_read_22 : decode cX9_read 22 = .ok (.aload_n 0, 1) := by decide +kernel
theorem dX9_read_23 : decode cX9_read 23 = .ok (.iload_n 1, 1) := by decide +kernel
theorem dX9_read_24 : decode cX9_read 24 = .ok (.sipush 500, 3) := by decide +kernel
theorem dX9_read_27 : decode cX9_read 27 = .ok (.if_icmp .gt 7, 3) := by decide +kernel
theorem dX9_read_30 : decode cX9_read 30 = .ok (.iconst 1, 1) := by decide +kernel
theorem dX9_read_31 : decode cX9_read 31 = .ok (.goto 4, 3) := by decide +kernel
theorem dX9_read_34 : decode cX9_read 34 = .ok (.iconst 0, 1) := by decide +kernel
theorem dX9_read_35 : decode cX9_read 35 = .ok (.iconst 2, 1) := by decide +kernel
theorem dX9_read_36 : decode cX9_read 36 = .ok (.invokevirtual 154, 3) := by decide +kernel
theorem dX9_read_39 : decode cX9_read 39 = .ok (.iconst 0, 1) := by decide +kernel
theorem dX9_read_40 : decode cX9_read 40 = .ok (.istore_n 2, 1) := by decide +kernel
theorem dX9_read_41 : decode cX9_read 41 = .ok (.iload_n 2, 1) := by decide +kernel
theorem dX9_read_42 : decode cX9_read 42 = .ok (.iload_n 1, 1) := by decide +kernel
theorem dX9_read_43 : decode cX9_read 43 = .ok (.if_icmp .ge 63, 3) := by decide +kernel
theorem dX9_read_46 : decode cX9_read 46 = .ok (.aload_n 0, 1) := by decide +kernel
theorem dX9_read_47 : decode cX9_read 47 = .ok (.getfield 147, 3) := by decide +kernel
theorem dX9_read_50 : decode cX9_read 50 = .ok (.ifCond .ne 56, 3) := by decide +kernel
theorem dX9_read_53 : decode cX9_read 53 = .ok (.aload_n 0, 1) := by decide +kernel
theorem dX9_read_54 : decode cX9_read 54 = .ok (.invokevirtual 150, 3) := by decide +kernel
theorem dX9_read_57 : decode cX9_read 57 = .ok (.istore_n 3, 1) := by decide +kernel
theorem dX9_read_58 : decode cX9_read 58 = .ok (.aload_n 0, 1) := by decide +kernel
theorem dX9_read_59 : decode cX9_read 59 = .ok (.getfield 147, 3) := by decide +kernel
theorem dX9_read_62 : decode cX9_read 62 = .ok (.ifCond .ne 25, 3) := by decide +kernel
theorem dX9_read_65 : decode cX9_read 65 = .ok (.iload_n 3, 1) := by decide +kernel
theorem dX9_read_66 : decode cX9_read 66 = .ok (.ifCond .ne 21, 3) := by decide +kernel
theorem dX9_read_69 : decode cX9_read 69 = .ok (.aload_n 0, 1) := by decide +kernel
theorem dX9_read_70 : decode cX9_read 70 = .ok (.getfield 53, 3) := by decide +kernel
theorem dX9_read_73 : decode cX9_read 73 = .ok (.iload_n 2, 1) := by decide +kernel
theorem dX9_read_74 : decode cX9_read 74 = .ok (.aload_n 0, 1) := by decide +kernel
theorem dX9_read_75 : decode cX9_read 75 = .ok (.bipush 8, 2) := by decide +kernel
theorem dX9_read_77 : decode cX9_read 77 = .ok (.invokevirtual 158, 3) := by decide +kernel
theorem dX9_read_80 : decode cX9_read 80 = .ok (.iastore, 1) := by decide +kernel
theorem dX9_read_81 : decode cX9_read 81 = .ok (.iinc 2 1, 3) := by decide +kernel
theorem dX9_read_84 : decode cX9_read 84 = .ok (.goto 19, 3) := by decide +kernel
theorem dX9_read_87 : decode cX9_read 87 = .ok (.aload_n 0, 1) := by decide +kernel
theorem dX9_read_88 : decode cX9_read 88 = .ok (.getfield 147, 3) := by decide +kernel
theorem dX9_read_91 : decode cX9_read 91 = .ok (.ifCond .ne 12, 3) := by decide +kernel
theorem dX9_read_94 : decode cX9_read 94 = .ok (.iload_n 2, 1) := by decide +kernel
theorem dX9_read_95 : decode cX9_read 95 = .ok (.aload_n 0, 1) := by decide +kernel
theorem dX9_read_96 : decode cX9_read 96 = .ok (.iload_n 2, 1) := by decide +kernel
theorem dX9_read_97 : decode cX9_read 97 = .ok (.iload_n 1, 1) := by decide +kernel
theorem dX9_read_98 : decode cX9_read 98 = .ok (.invokevirtual 161, 3) := by decide +kernel
theorem dX9_read_101 : decode cX9_read 101 = .ok (.iadd, 1) := by decide +kernel
theorem dX9_read_102 : decode cX9_read 102 = .ok (.istore_n 2, 1) := by decide +kernel
theorem dX9_read_103 : decode cX9_read 103 = .ok (.goto (-62), 3) := by decide +kernel
theorem dX9_read_106 : decode cX9_read 106 = .ok (.aload_n 0, 1) := by decide +kernel
theorem dX9_read_107 : decode cX9_read 107 = .ok (.getfield 147, 3) := by decide +kernel
theorem dX9_read_110 : decode cX9_read 110 = .ok (.ifCond .ne 66, 3) := by decide +kernel
theorem dX9_read_113 : decode cX9_read 113 = .ok (.aload_n 0, 1) := by decide +kernel
theorem dX9_read_114 : decode cX9_read 114 = .ok (.getfield 144, 3) := by decide +kernel
theorem dX9_read_117 : decode cX9_read 117 = .ok (.bipush 8, 2) := by decide +kernel
theorem dX9_read_119 : decode cX9_read 119 = .ok (.aload_n 0, 1) := by decide +kernel
theorem dX9_read_120 : decode cX9_read 120 = .ok (.getfield 141, 3) := by decide +kernel
theorem dX9_read_123 : decode cX9_read 123 = .ok (.imul, 1) := by decide +kernel
theorem dX9_read_124 : decode cX9_read 124 = .ok (.if_icmp .ge 52, 3) := by decide +kernel
theorem dX9_read_127 : decode cX9_read 127 = .ok (.bipush 8, 2) := by decide +kernel
theorem dX9_read_129 : decode cX9_read 129 = .ok (.aload_n 0, 1) := by decide +kernel
theorem dX9_read_130 : decode cX9_read 130 = .ok (.getfield 141, 3) := by decide +kernel
theorem dX9_read_133 : decode cX9_read 133 = .ok (.imul, 1) := by decide +kernel
theorem dX9_read_134 : decode cX9_read 134 = .ok (.aload_n 0, 1) := by decide +kernel
theorem dX9_read_135 : decode cX9_read 135 = .ok (.getfield 144, 3) := by decide +kernel
theorem dX9_read_138 : decode cX9_read 138 = .ok (.isub, 1) := by decide +kernel
theorem dX9_read_139 : decode cX9_read 139 = .ok (.bipush 8, 2) := by decide +kernel
theorem dX9_read_141 : decode cX9_read 141 = .ok (.if_icmp .ge 7, 3) := by decide +kernel
theorem dX9_read_144 : decode cX9_read 144 = .ok (.iconst 1, 1) := by decide +kernel
theorem dX9_read_145 : decode cX9_read 145 = .ok (.goto 4, 3) := by decide +kernel
theorem dX9_read_148 : decode cX9_read 148 = .ok (.iconst 0, 1) := by decide +kernel
theorem dX9_read_149 : decode cX9_read 149 = .ok (.istore_n 3, 1) := by decide +kernel
theorem dX9_read_150 : decode cX9_read 150 = .ok (.aload_n 0, 1) := by decide +kernel
theorem dX9_read_151 : decode cX9_read 151 = .ok (.iload_n 3, 1) := by decide +kernel
theorem dX9_read_152 : decode cX9_read 152 = .ok (.iconst 5, 1) := by decide +kernel
theorem dX9_read_153 : decode cX9_read 153 = .ok (.invokevirtual 154, 3) := by decide +kernel
theorem dX9_read_156 : decode cX9_read 156 = .ok (.aload_n 0, 1) := by decide +kernel
theorem dX9_read_157 : decode cX9_read 157 = .ok (.aload_n 0, 1) := by decide +kernel
theorem dX9_read_158 : decode cX9_read 158 = .ok (.invokevirtual 150, 3) := by decide +kernel
theorem dX9_read_161 : decode cX9_read 161 = .ok (.ifCond .ne 7, 3) := by decide +kernel
theorem dX9_read_164 : decode cX9_read 164 = .ok (.iconst 1, 1) := by decide +kernel
theorem dX9_read_165 : decode cX9_read 165 = .ok (.goto 4, 3) := by decide +kernel
theorem dX9_read_168 : decode cX9_read 168 = .ok (.iconst 0, 1) := by decide +kernel
theorem dX9_read_169 : decode cX9_read 169 = .ok (.iconst 5, 1) := by decide +kernel
theorem dX9_read_170 : decode cX9_read 170 = .ok (.invokevirtual 154, 3) := by decide +kernel
theorem dX9_read_173 : decode cX9_read 173 = .ok (.goto (-67), 3) := by decide +kernel
theorem dX9_read_176 : decode cX9_read 176 = .ok (.aload_n 0, 1) := by decide +kernel
theorem dX9_read_177 : decode cX9_read 177 = .ok (.iconst 0, 1) := by decide +kernel
theorem dX9_read_178 : decode cX9_read 178 = .ok (.putfield 141, 3) := by decide +kernel
theorem dX9_read_181 : decode cX9_read 181 = .ok (.aload_n 0, 1) := by decide +kernel
theorem dX9_read_182 : decode cX9_read 182 = .ok (.getfield 147, 3) := by decide +kernel
theorem dX9_read_185 : decode cX9_read 185 = .ok (.ifCond .ne 33, 3) := by decide +kernel
theorem dX9_read_188 : decode cX9_read 188 = .ok (.aload_n 0, 1) := by decide +kernel
theorem dX9_read_189 : decode cX9_read 189 = .ok (.iload_n 1, 1) := by decide +kernel
theorem dX9_read_190 : decode cX9_read 190 = .ok (.putfield 59, 3) := by decide +kernel
theorem dX9_read_193 : decode cX9_read 193 = .ok (.iconst 0, 1) := by decide +kernel
theorem dX9_read_194 : decode cX9_read 194 = .ok (.istore_n 3, 1) := by decide +kernel
theorem dX9_read_195 : decode cX9_read 195 = .ok (.iload_n 3, 1) := by decide +kernel
theorem dX9_read_196 : decode cX9_read 196 = .ok (.iload_n 1, 1) := by decide +kernel
theorem dX9_read_197 : decode cX9_read 197 = .ok (.if_icmp .ge 21, 3) := by decide +kernel
theorem dX9_read_200 : decode cX9_read 200 = .ok (.aload_n 0, 1) := by decide +kernel
theorem dX9_read_201 : decode cX9_read 201 = .ok (.getfield 56, 3) := by decide +kernel
theorem dX9_read_204 : decode cX9_read 204 = .ok (.iload_n 3, 1) := by decide +kernel
theorem dX9_read_205 : decode cX9_read 205 = .ok (.aload_n 0, 1) := by decide +kernel
theorem dX9_read_206 : decode cX9_read 206 = .ok (.getfield 53, 3) := by decide +kernel
theorem dX9_read_209 : decode cX9_read 209 = .ok (.iload_n 3, 1) := by decide +kernel
theorem dX9_read_210 : decode cX9_read 210 = .ok (.iaload, 1) := by decide +kernel
theorem dX9_read_211 : decode cX9_read 211 = .ok (.iastore, 1) := by decide +kernel
theorem dX9_read_212 : decode cX9_read 212 = .ok (.iinc 3 1, 3) := by decide +kernel
theorem dX9_read_215 : decode cX9_read 215 = .ok (.goto (-20), 3) := by decide +kernel
theorem dX9_read_218 : decode cX9_read 218 = .ok (.aload_n 0, 1) := by decide +kernel
theorem dX9_read_219 : decode cX9_read 219 = .ok (.getfield 147, 3) := by decide +kernel
theorem dX9_read_222 : decode cX9_read 222 = .ok (.ireturn, 1) := by decide +kernel
theorem dX9_taken_0 : decode cX9_taken 0 = .ok (.aload_n 0, 1) := by decide +kernel
theorem dX9_taken_1 : decode cX9_taken 1 = .ok (.iconst 0, 1) := by decide +kernel
theorem dX9_taken_2 : decode cX9_taken 2 = .ok (.putfield 65, 3) := by decide +kernel
theorem dX9_taken_5 : decode cX9_taken 5 = .ok (.iload_n 1, 1) := by decide +kernel
theorem dX9_taken_6 : decode cX9_taken 6 = .ok (.iconst (-1), 1) := by decide +kernel
theorem dX9_taken_7 : decode cX9_taken 7 = .ok (.if_icmp .ne 10, 3) := by decide +kernel
theorem dX9_taken_10 : decode cX9_taken 10 = .ok (.aload_n 0, 1) := by decide +kernel
theorem dX9_taken_11 : decode cX9_taken 11 = .ok (.getfield 59, 3) := by decide +kernel
theorem dX9_taken_14 : decode cX9_taken 14 = .ok (.goto 25, 3) := by decide +kernel
theorem dX9_taken_17 : decode cX9_taken 17 = .ok (.iload_n 1, 1) := by decide +kernel
theorem dX9_taken_18 : decode cX9_taken 18 = .ok (.ifCond .lt 20, 3) := by decide +kernel
theorem dX9_taken_21 : decode cX9_taken 21 = .ok (.iload_n 1, 1) := by decide +kernel
theorem dX9_taken_22 : decode cX9_taken 22 = .ok (.aload_n 0, 1) := by decide +kernel
theorem dX9_taken_23 : decode cX9_taken 23 = .ok (.getfield 59, 3) := by decide +kernel
theorem dX9_taken_26 : decode cX9_taken 26 = .ok (.if_icmp .ge 12, 3) := by decide +kernel
theorem dX9_taken_29 : decode cX9_taken 29 = .ok (.aload_n 0, 1) := by decide +kernel
theorem dX9_taken_30 : decode cX9_taken 30 = .ok (.getfield 56, 3) := by decide +kernel
theorem dX9_taken_33 : decode cX9_taken 33 = .ok (.iload_n 1, 1) := by decide +kernel
theorem dX9_taken_34 : decode cX9_taken 34 = .ok (.iaload, 1) := by decide +kernel
theorem dX9_taken_35 : decode cX9_taken 35 = .ok (.goto 4, 3) := by decide +kernel
theorem dX9_taken_38 : decode cX9_taken 38 = .ok (.iconst (-1), 1) := by decide +kernel
theorem dX9_taken_39 : decode cX9_taken 39 = .ok (.ireturn, 1) := by decide +kernel
theorem dX9_check_0 : decode cX9_check 0 = .ok (.aload_n 0, 1) := by decide +kernel
theorem dX9_check_1 : decode cX9_check 1 = .ok (.iconst 0, 1) := by decide +kernel
theorem dX9_check_2 : decode cX9_check 2 = .ok (.putfield 65, 3) := by decide +kernel
theorem dX9_check_5 : decode cX9_check 5 = .ok (.iconst 1, 1) := by decide +kernel
theorem dX9_check_6 : decode cX9_check 6 = .ok (.ireturn, 1) := by decide +kernel
theorem dJ9_max_7cf53_0 : decode cJ9_max_7cf53 0 = .ok (.iload_n 0, 1) := by decide +kernel
theorem dJ9_max_7cf53_1 : decode cJ9_max_7cf53 1 = .ok (.iload_n 1, 1) := by decide +kernel
theorem dJ9_max_7cf53_2 : decode cJ9_max_7cf53 2 = .ok (.if_icmp .lt 7, 3) := by decide +kernel
theorem dJ9_max_7cf53_5 : decode cJ9_max_7cf53 5 = .ok (.iload_n 0, 1) := by decide +kernel
theorem dJ9_max_7cf53_6 : decode cJ9_max_7cf53 6 = .ok (.goto 4, 3) := by decide +kernel
theorem dJ9_max_7cf53_9 : decode cJ9_max_7cf53 9 = .ok (.iload_n 1, 1) := by decide +kernel
theorem dJ9_max_7cf53_10 : decode cJ9_max_7cf53 10 = .ok (.ireturn, 1) := by decide +kernel
theorem dJ9_min_7cf53_0 : decode cJ9_min_7cf53 0 = .ok (.iload_n 0, 1) := by decide +kernel
theorem dJ9_min_7cf53_1 : decode cJ9_min_7cf53 1 = .ok (.iload_n 1, 1) := by decide +kernel
theorem dJ9_min_7cf53_2 : decode cJ9_min_7cf53 2 = .ok (.if_icmp .gt 7, 3) := by decide +kernel
theorem dJ9_min_7cf53_5 : decode cJ9_min_7cf53 5 = .ok (.iload_n 0, 1) := by decide +kernel
theorem dJ9_min_7cf53_6 : decode cJ9_min_7cf53 6 = .ok (.goto 4, 3) := by decide +kernel
theorem dJ9_min_7cf53_9 : decode cJ9_min_7cf53 9 = .ok (.iload_n 1, 1) := by decide +kernel
theorem dJ9_min_7cf53_10 : decode cJ9_min_7cf53 10 = .ok (.ireturn, 1) := by decide +kernel
end
section
set_option maxRecDepth 20000 in
theorem ggL_law_X8_init : GoodIn wsL_law wsX8_init := goodIn_r _ [9, 10, 11, 12, 13, 14, 15, 16, 17, 18, 19, 20, 21, 22, 23, 24, 25, 26, 27, 28, 29, 30, 31, 32, 33, 34, 35, 36, 37, 38, 39, 40, 41, 42, 43, 44, 45, 46, 47, 48, 49, 50, 51, 52, 53, 54, 55, 56, 57, 58, 59, 60, 61, 62, 63, 64, 65, 66, 67, 68, 69, 70, 71, 72, 73, 74, 75, 76, 77, 78, 79, 80, 81, 82, 83, 84, 85, 86, 87, 88, 89, 90, 91, 92, 93, 94, 95, 96, 97, 98, 99, 100, 101, 102, 103, 104, 105, 106, 107, 108, 109, 110, 111, 112, 113, 114, 115, 116, 117, 118, 119, 120, 121, 122, 123, 124, 125, 126, 127, 128, 129, 730, 731, 685, 686, 687, 688, 689, 690, 691, 692, 693, 694, 695, 696, 697, 698, 732, 733, 734, 735, 736, 737, 738, 739, 740, 741, 742, 743, 744, 745, 746, 747, 748, 749, 750, 751, 752, 753, 754, 755, 756, 757, 758, 759, 760, 761, 762, 763, 764, 765, 766, 767, 768, 769, 770] (by decide +kernel) (by decide +kernel)
set_option maxRecDepth 20000 in
theorem gL_law_X8_init : GoodIn wsL_law (wsX8_init) := ggL_law_X8_init
set_option maxRecDepth 20000 in
theorem ggL_law_X9_init : GoodIn wsL_law wsX9_init := goodIn_r _ [132, 133, 11, 12, 55, 134, 135, 136, 137, 138, 139, 140, 141, 142, 143, 144, 145, 146, 147, 148, 149, 150, 151, 152, 153, 699, 700, 701, 702, 703, 704, 705, 706, 707, 708, 709, 710, 711, 712, 713, 714, 715, 716, 717, 718, 719, 720, 721, 722, 723, 724, 725, 726, 727, 728, 729] (by decide +kernel) (by decide +kernel)
set_option maxRecDepth 20000 in
theorem gL_law_X9_init : GoodIn wsL_law (wsX9_init) := ggL_law_X9_init
set_option maxRecDepth 20000 in
theorem ggL_law_X8_type : GoodIn wsL_law wsX8_type := goodIn_r _ [157, 16, 158, 159, 160, 15, 161, 56, 57, 162, 163, 164, 165, 166, 167, 168, 2, 169, 48, 49, 685, 686, 687, 688, 689, 690, 691, 692, 693, 694, 695, 696, 697, 698, 730, 731] (by decide +kernel) (by decide +kernel)
set_option maxRecDepth 20000 in
theorem gL_law_X8_type : GoodIn wsL_law (wsV RL 15 RX8 yX8_type wsX8_type) := goodIn_app (goodIn_of _ (by decide +kernel)) ggL_law_X8_type
set_option maxRecDepth 20000 in
theorem ggL_law_X9_type : GoodIn wsL_law wsX9_type := goodIn_r _ [173, 174, 175, 134, 176, 177, 699, 700, 701, 702, 703, 704, 705, 706, 707, 708, 709, 710, 711, 712, 713, 714, 715, 716, 717, 718, 719, 720, 721, 722, 723, 724, 725, 726, 727, 728, 729] (by decide +kernel) (by decide +kernel)
set_option maxRecDepth 20000 in
theorem gL_law_X9_type : GoodIn wsL_law (wsV RL 19 RX9 yX9_type wsX9_type) := goodIn_app (goodIn_of _ (by decide +kernel)) ggL_law_X9_type
set_option maxRecDepth 20000 in
theorem ggL_law_X8_fill : GoodIn wsL_law wsX8_fill := goodIn_r _ [181, 16, 182, 183, 184, 15, 185, 56, 57, 162, 163, 164, 165, 166, 167, 168, 2, 169, 48, 49, 685, 686, 687, 688, 689, 690, 691, 692, 693, 694, 695, 696, 697, 698, 730, 731] (by decide +kernel) (by decide +kernel)
set_option maxRecDepth 20000 in
theorem gL_law_X8_fill : GoodIn wsL_law (wsV RL 20 RX8 yX8_fill wsX8_fill) := goodIn_app (goodIn_of _ (by decide +kernel)) ggL_law_X8_fill
set_option maxRecDepth 20000 in
theorem ggL_law_X9_fill : GoodIn wsL_law wsX9_fill := goodIn_r _ [189, 174, 175, 134, 177, 699, 700, 701, 702, 703, 704, 705, 706, 707, 708, 709, 710, 711, 712, 713, 714, 715, 716, 717, 718, 719, 720, 721, 722, 723, 724, 725, 726, 727, 728, 729] (by decide +kernel) (by decide +kernel)
set_option maxRecDepth 20000 in
theorem gL_law_X9_fill : GoodIn wsL_law (wsV RL 24 RX9 yX9_fill wsX9_fill) := goodIn_app (goodIn_of _ (by decide +kernel)) ggL_law_X9_fill
set_option maxRecDepth 20000 in
theorem ggL_law_X8_clear : GoodIn wsL_law wsX8_clear := goodIn_r _ [193, 16, 194, 195, 196, 15, 197, 57, 198, 199, 200, 201, 166, 167, 168, 2, 169, 48, 49, 685, 686, 687, 688, 689, 690, 691, 692, 693, 694, 695, 696, 697, 698, 730, 731] (by decide +kernel) (by decide +kernel)
set_option maxRecDepth 20000 in
theorem gL_law_X8_clear : GoodIn wsL_law (wsV RL 25 RX8 yX8_clear wsX8_clear) := goodIn_app (goodIn_of _ (by decide +kernel)) ggL_law_X8_clear
set_option maxRecDepth 20000 in
theorem ggL_law_X9_clear : GoodIn wsL_law wsX9_clear := goodIn_r _ [205, 174, 175, 177, 699, 700, 701, 702, 703, 704, 705, 706, 707, 708, 709, 710, 711, 712, 713, 714, 715, 716, 717, 718, 719, 720, 721, 722, 723, 724, 725, 726, 727, 728, 729] (by decide +kernel) (by decide +kernel)
set_option maxRecDepth 20000 in
theorem gL_law_X9_clear : GoodIn wsL_law (wsV RL 29 RX9 yX9_clear wsX9_clear) := goodIn_app (goodIn_of _ (by decide +kernel)) ggL_law_X9_clear
set_option maxRecDepth 20000 in
theorem ggL_law_X8_limits : GoodIn wsL_law wsX8_limits := goodIn_r _ [209, 23, 210, 211, 212, 22, 213, 62, 63, 64, 166, 167, 168, 2, 169, 48, 49, 685, 686, 687, 688, 689, 690, 691, 692, 693, 694, 695, 696, 697, 698, 732, 733, 734] (by decide +kernel) (by decide +kernel)
set_option maxRecDepth 20000 in
theorem gL_law_X8_limits : GoodIn wsL_law (wsV RL 30 RX8 yX8_limits wsX8_limits) := goodIn_app (goodIn_of _ (by decide +kernel)) ggL_law_X8_limits
set_option maxRecDepth 20000 in
theorem ggL_law_X9_limits : GoodIn wsL_law wsX9_limits := goodIn_r _ [217, 174, 135, 136, 137, 177, 699, 700, 701, 702, 703, 704, 705, 706, 707, 708, 709, 710, 711, 712, 713, 714, 715, 716, 717, 718, 719, 720, 721, 722, 723, 724, 725, 726, 727, 728, 729] (by decide +kernel) (by decide +kernel)
set_option maxRecDepth 20000 in
theorem gL_law_X9_limits : GoodIn wsL_law (wsV RL 34 RX9 yX9_limits wsX9_limits) := goodIn_app (goodIn_of _ (by decide +kernel)) ggL_law_X9_limits
set_option maxRecDepth 20000 in
theorem ggL_law_X8_price : GoodIn wsL_law wsX8_price := goodIn_r _ [221, 27, 49, 222, 223, 224, 26, 225, 226, 227, 228, 229, 69, 70, 71, 72, 685, 686, 687, 688, 689, 690, 691, 692, 693, 694, 695, 696, 697, 698, 735, 736, 737, 738] (by decide +kernel) (by decide +kernel)
set_option maxRecDepth 20000 in
theorem gL_law_X8_price : GoodIn wsL_law (wsV RL 35 RX8 yX8_price wsX8_price) := goodIn_app (goodIn_of _ (by decide +kernel)) ggL_law_X8_price
set_option maxRecDepth 20000 in
theorem ggL_law_X9_price : GoodIn wsL_law wsX9_price := goodIn_r _ [233, 174, 138, 177, 699, 700, 701, 702, 703, 704, 705, 706, 707, 708, 709, 710, 711, 712, 713, 714, 715, 716, 717, 718, 719, 720, 721, 722, 723, 724, 725, 726, 727, 728, 729] (by decide +kernel) (by decide +kernel)
set_option maxRecDepth 20000 in
theorem gL_law_X9_price : GoodIn wsL_law (wsV RL 38 RX9 yX9_price wsX9_price) := goodIn_app (goodIn_of _ (by decide +kernel)) ggL_law_X9_price
set_option maxRecDepth 20000 in
theorem ggL_law_X8_parse : GoodIn wsL_law wsX8_parse := goodIn_r _ [237, 39, 16, 23, 238, 239, 240, 2, 241, 49, 35, 242, 243, 244, 245, 48, 31, 246, 247, 248, 30, 249, 86, 80, 82, 83, 84, 250, 195, 196, 15, 197, 57, 251, 252, 253, 254, 81, 255, 256, 257, 258, 85, 259, 260, 261, 22, 262, 62, 263, 264, 265, 266, 267, 268, 269, 270, 271, 272, 273, 64, 274, 275, 276, 277, 278, 279, 280, 281, 63, 282, 283, 284, 34, 285, 92, 98, 93, 95, 91, 286, 287, 288, 289, 290, 26, 291, 70, 71, 292, 293, 294, 295, 296, 297, 298, 299, 94, 300, 99, 301, 96, 97, 302, 303, 304, 305, 306, 307, 308, 309, 310, 311, 312, 313, 314, 315, 316, 317, 72, 318, 319, 320, 321, 56, 322, 323, 324, 325, 69, 326, 327, 328, 329, 38, 330, 105, 109, 110, 111, 112, 113, 114, 331, 332, 333, 334, 335, 336, 337, 338, 339, 194, 340, 341, 342, 343, 27, 344, 345, 346, 347, 348, 349, 350, 351, 352, 353, 354, 355, 356, 357, 358, 359, 360, 361, 362, 106, 107, 108, 363, 364, 365, 366, 367, 368, 369, 370, 371, 372, 373, 374, 375, 376, 377, 378, 379, 380, 381, 382, 383, 384, 385, 386, 387, 388, 389, 390, 391, 392, 393, 394, 395, 396, 397, 398, 399, 400, 401, 685, 686, 687, 688, 689, 690, 691, 692, 693, 694, 695, 696, 697, 698, 739, 740, 741, 742, 743, 744, 745, 730, 731, 732, 733, 734, 746, 747, 748, 749, 750, 751, 752, 753, 754, 735, 736, 737, 738, 755, 756, 757, 758, 759, 760, 761, 762, 763, 764] (by decide +kernel) (by decide +kernel)
set_option maxRecDepth 20000 in
theorem gL_law_X8_parse : GoodIn wsL_law (wsV RL 39 RX8 yX8_parse wsX8_parse) := goodIn_app (goodIn_of _ (by decide +kernel)) ggL_law_X8_parse
set_option maxRecDepth 20000 in
theorem ggL_law_X9_parse : GoodIn wsL_law wsX9_parse := goodIn_r _ [405, 174, 406, 407, 408, 175, 144, 146, 134, 409, 135, 410, 411, 412, 413, 414, 5, 415, 177, 141, 142, 153, 416, 417, 418, 419, 138, 420, 421, 422, 423, 424, 425, 426, 427, 428, 429, 430, 137, 136, 431, 432, 433, 434, 435, 436, 437, 438, 143, 145, 439, 440, 441, 442, 443, 444, 445, 446, 447, 448, 449, 450, 699, 700, 701, 702, 703, 704, 705, 706, 707, 708, 709, 710, 711, 712, 713, 714, 715, 716, 717, 718, 719, 720, 721, 722, 723, 724, 725, 726, 727, 728, 729] (by decide +kernel) (by decide +kernel)
set_option maxRecDepth 20000 in
theorem gL_law_X9_parse : GoodIn wsL_law (wsV RL 43 RX9 yX9_parse wsX9_parse) := goodIn_app (goodIn_of _ (by decide +kernel)) ggL_law_X9_parse
set_option maxRecDepth 20000 in
theorem ggL_law_X8_step : GoodIn wsL_law wsX8_step := goodIn_r _ [454, 39, 455, 456, 457, 38, 458, 110, 459, 460, 461, 462, 106, 463, 464, 465, 466, 467, 107, 468, 469, 470, 471, 108, 472, 473, 474, 475, 105, 476, 319, 320, 15, 321, 57, 56, 685, 686, 687, 688, 689, 690, 691, 692, 693, 694, 695, 696, 697, 698, 755, 756, 757, 758, 759, 760, 761, 762, 763, 764, 730, 731] (by decide +kernel) (by decide +kernel)
set_option maxRecDepth 20000 in
theorem gL_law_X8_step : GoodIn wsL_law (wsV RL 44 RX8 yX8_step wsX8_step) := goodIn_app (goodIn_of _ (by decide +kernel)) ggL_law_X8_step
set_option maxRecDepth 20000 in
theorem ggL_law_X9_step : GoodIn wsL_law wsX9_step := goodIn_r _ [480, 174, 406, 143, 144, 145, 146, 699, 700, 701, 702, 703, 704, 705, 706, 707, 708, 709, 710, 711, 712, 713, 714, 715, 716, 717, 718, 719, 720, 721, 722, 723, 724, 725, 726, 727, 728, 729] (by decide +kernel) (by decide +kernel)
set_option maxRecDepth 20000 in
theorem gL_law_X9_step : GoodIn wsL_law (wsV RL 47 RX9 yX9_step wsX9_step) := goodIn_app (goodIn_of _ (by decide +kernel)) ggL_law_X9_step
set_option maxRecDepth 20000 in
theorem ggL_law_X8_told : GoodIn wsL_law wsX8_told := goodIn_r _ [484, 39, 398, 399, 400, 38, 401, 110, 485, 486, 487, 488, 111, 489, 490, 491, 492, 112, 493, 494, 495, 496, 113, 497, 498, 499, 500, 105, 501, 195, 196, 15, 197, 57, 685, 686, 687, 688, 689, 690, 691, 692, 693, 694, 695, 696, 697, 698, 755, 756, 757, 758, 759, 760, 761, 762, 763, 764, 730, 731] (by decide +kernel) (by decide +kernel)
set_option maxRecDepth 20000 in
theorem gL_law_X8_told : GoodIn wsL_law (wsV RL 48 RX8 yX8_told wsX8_told) := goodIn_app (goodIn_of _ (by decide +kernel)) ggL_law_X8_told
set_option maxRecDepth 20000 in
theorem ggL_law_X9_told : GoodIn wsL_law wsX9_told := goodIn_r _ [505, 174, 406, 145, 407, 408, 409, 699, 700, 701, 702, 703, 704, 705, 706, 707, 708, 709, 710, 711, 712, 713, 714, 715, 716, 717, 718, 719, 720, 721, 722, 723, 724, 725, 726, 727, 728, 729] (by decide +kernel) (by decide +kernel)
set_option maxRecDepth 20000 in
theorem gL_law_X9_told : GoodIn wsL_law (wsV RL 51 RX9 yX9_told wsX9_told) := goodIn_app (goodIn_of _ (by decide +kernel)) ggL_law_X9_told
set_option maxRecDepth 20000 in
theorem ggL_law_X8_at : GoodIn wsL_law wsX8_at := goodIn_r _ [509, 16, 35, 31, 194, 195, 196, 15, 197, 57, 238, 239, 240, 2, 241, 49, 242, 243, 244, 245, 48, 246, 247, 248, 30, 249, 86, 80, 82, 83, 84, 250, 251, 252, 253, 254, 81, 255, 256, 257, 258, 85, 259, 260, 261, 22, 262, 62, 263, 264, 265, 266, 267, 268, 269, 270, 271, 272, 273, 64, 274, 275, 276, 277, 278, 279, 280, 281, 63, 282, 283, 284, 34, 285, 92, 98, 93, 95, 91, 286, 287, 288, 289, 290, 26, 291, 70, 71, 292, 293, 294, 295, 296, 297, 298, 299, 94, 300, 99, 301, 96, 97, 302, 303, 304, 305, 306, 307, 308, 309, 310, 311, 312, 313, 314, 315, 316, 317, 72, 318, 319, 320, 321, 56, 322, 323, 324, 325, 69, 510, 511, 512, 513, 352, 376, 377, 378, 379, 514, 515, 516, 517, 685, 686, 687, 688, 689, 690, 691, 692, 693, 694, 695, 696, 697, 698, 730, 731, 739, 740, 741, 742, 743, 744, 745, 732, 733, 734, 746, 747, 748, 749, 750, 751, 752, 753, 754, 735, 736, 737, 738] (by decide +kernel) (by decide +kernel)
set_option maxRecDepth 20000 in
theorem gL_law_X8_at : GoodIn wsL_law (wsV RL 52 RX8 yX8_at wsX8_at) := goodIn_app (goodIn_of _ (by decide +kernel)) ggL_law_X8_at
set_option maxRecDepth 20000 in
theorem ggL_law_X9_at : GoodIn wsL_law wsX9_at := goodIn_r _ [521, 174, 175, 142, 412, 413, 414, 5, 415, 177, 141, 134, 135, 153, 416, 417, 418, 419, 138, 420, 421, 422, 423, 424, 425, 426, 427, 428, 429, 430, 137, 136, 443, 444, 445, 446, 447, 448, 449, 450, 699, 700, 701, 702, 703, 704, 705, 706, 707, 708, 709, 710, 711, 712, 713, 714, 715, 716, 717, 718, 719, 720, 721, 722, 723, 724, 725, 726, 727, 728, 729] (by decide +kernel) (by decide +kernel)
set_option maxRecDepth 20000 in
theorem gL_law_X9_at : GoodIn wsL_law (wsV RL 55 RX9 yX9_at wsX9_at) := goodIn_app (goodIn_of _ (by decide +kernel)) ggL_law_X9_at
set_option maxRecDepth 20000 in
theorem ggL_law_X8_write : GoodIn wsL_law wsX8_write := goodIn_r _ [525, 39, 43, 526, 527, 528, 38, 529, 114, 530, 531, 532, 533, 105, 110, 108, 107, 534, 535, 536, 42, 537, 121, 501, 195, 196, 15, 197, 57, 538, 539, 540, 541, 542, 543, 544, 545, 120, 546, 473, 474, 475, 106, 463, 456, 457, 458, 476, 319, 320, 321, 56, 547, 548, 549, 550, 394, 395, 396, 397, 109, 390, 391, 392, 393, 293, 2, 294, 551, 552, 553, 554, 685, 686, 687, 688, 689, 690, 691, 692, 693, 694, 695, 696, 697, 698, 755, 756, 757, 758, 759, 760, 761, 762, 763, 764, 765, 766, 730, 731] (by decide +kernel) (by decide +kernel)
set_option maxRecDepth 20000 in
theorem gL_law_X8_write : GoodIn wsL_law (wsV RL 56 RX8 yX8_write wsX8_write) := goodIn_app (goodIn_of _ (by decide +kernel)) ggL_law_X8_write
set_option maxRecDepth 20000 in
theorem ggL_law_X9_write : GoodIn wsL_law wsX9_write := goodIn_r _ [558, 174, 559, 411, 409, 406, 145, 146, 143, 144, 410, 560, 561, 562, 563, 5, 564, 148, 420, 421, 422, 699, 700, 701, 702, 703, 704, 705, 706, 707, 708, 709, 710, 711, 712, 713, 714, 715, 716, 717, 718, 719, 720, 721, 722, 723, 724, 725, 726, 727, 728, 729] (by decide +kernel) (by decide +kernel)
set_option maxRecDepth 20000 in
theorem gL_law_X9_write : GoodIn wsL_law (wsV RL 59 RX9 yX9_write wsX9_write) := goodIn_app (goodIn_of _ (by decide +kernel)) ggL_law_X9_write
set_option maxRecDepth 20000 in
theorem ggL_law_X8_written : GoodIn wsL_law wsX8_written := goodIn_r _ [568, 43, 569, 570, 571, 42, 572, 120, 573, 552, 553, 554, 121, 685, 686, 687, 688, 689, 690, 691, 692, 693, 694, 695, 696, 697, 698, 765, 766] (by decide +kernel) (by decide +kernel)
set_option maxRecDepth 20000 in
theorem gL_law_X8_written : GoodIn wsL_law (wsV RL 60 RX8 yX8_written wsX8_written) := goodIn_app (goodIn_of _ (by decide +kernel)) ggL_law_X8_written
set_option maxRecDepth 20000 in
theorem ggL_law_X9_written : GoodIn wsL_law wsX9_written := goodIn_r _ [577, 174, 560, 148, 699, 700, 701, 702, 703, 704, 705, 706, 707, 708, 709, 710, 711, 712, 713, 714, 715, 716, 717, 718, 719, 720, 721, 722, 723, 724, 725, 726, 727, 728, 729] (by decide +kernel) (by decide +kernel)
set_option maxRecDepth 20000 in
theorem gL_law_X9_written : GoodIn wsL_law (wsV RL 63 RX9 yX9_written wsX9_written) := goodIn_app (goodIn_of _ (by decide +kernel)) ggL_law_X9_written
set_option maxRecDepth 20000 in
theorem ggL_law_X8_load : GoodIn wsL_law wsX8_load := goodIn_r _ [581, 17, 158, 159, 160, 15, 161, 56, 57, 162, 163, 164, 165, 685, 686, 687, 688, 689, 690, 691, 692, 693, 694, 695, 696, 697, 698, 730, 731] (by decide +kernel) (by decide +kernel)
set_option maxRecDepth 20000 in
theorem gL_law_X8_load : GoodIn wsL_law (wsV RL 64 RX8 yX8_load wsX8_load) := goodIn_app (goodIn_of _ (by decide +kernel)) ggL_law_X8_load
set_option maxRecDepth 20000 in
theorem ggL_law_X9_load : GoodIn wsL_law wsX9_load := goodIn_r _ [585, 174, 586, 149, 176, 699, 700, 701, 702, 703, 704, 705, 706, 707, 708, 709, 710, 711, 712, 713, 714, 715, 716, 717, 718, 719, 720, 721, 722, 723, 724, 725, 726, 727, 728, 729] (by decide +kernel) (by decide +kernel)
set_option maxRecDepth 20000 in
theorem gL_law_X9_load : GoodIn wsL_law (wsV RL 67 RX9 yX9_load wsX9_load) := goodIn_app (goodIn_of _ (by decide +kernel)) ggL_law_X9_load
set_option maxRecDepth 20000 in
theorem ggL_law_X8_read : GoodIn wsL_law wsX8_read := goodIn_r _ [590, 47, 17, 18, 19, 50, 591, 592, 593, 46, 594, 129, 128, 595, 199, 200, 15, 201, 57, 596, 597, 598, 599, 126, 600, 319, 320, 321, 56, 601, 195, 196, 197, 602, 603, 604, 605, 606, 607, 608, 609, 610, 163, 164, 165, 611, 612, 613, 614, 127, 615, 616, 617, 618, 619, 620, 621, 622, 623, 260, 261, 22, 262, 62, 624, 279, 280, 281, 63, 625, 271, 272, 273, 64, 626, 627, 628, 629, 630, 162, 631, 632, 633, 634, 198, 635, 332, 333, 334, 335, 268, 257, 269, 336, 337, 338, 339, 685, 686, 687, 688, 689, 690, 691, 692, 693, 694, 695, 696, 697, 698, 767, 768, 769, 770, 730, 731, 732, 733, 734] (by decide +kernel) (by decide +kernel)
set_option maxRecDepth 20000 in
theorem gL_law_X8_read : GoodIn wsL_law (wsV RL 68 RX8 yX8_read wsX8_read) := goodIn_app (goodIn_of _ (by decide +kernel)) ggL_law_X8_read
set_option maxRecDepth 20000 in
theorem ggL_law_X9_read : GoodIn wsL_law wsX9_read := goodIn_r _ [639, 174, 640, 641, 150, 586, 152, 151, 642, 643, 644, 5, 645, 646, 647, 648, 649, 149, 650, 651, 652, 653, 654, 655, 656, 657, 135, 136, 137, 699, 700, 701, 702, 703, 704, 705, 706, 707, 708, 709, 710, 711, 712, 713, 714, 715, 716, 717, 718, 719, 720, 721, 722, 723, 724, 725, 726, 727, 728, 729] (by decide +kernel) (by decide +kernel)
set_option maxRecDepth 20000 in
theorem gL_law_X9_read : GoodIn wsL_law (wsV RL 71 RX9 yX9_read wsX9_read) := goodIn_app (goodIn_of _ (by decide +kernel)) ggL_law_X9_read
set_option maxRecDepth 20000 in
theorem ggL_law_X8_taken : GoodIn wsL_law wsX8_taken := goodIn_r _ [661, 50, 18, 194, 195, 196, 15, 197, 57, 353, 319, 320, 321, 56, 685, 686, 687, 688, 689, 690, 691, 692, 693, 694, 695, 696, 697, 698, 730, 731] (by decide +kernel) (by decide +kernel)
set_option maxRecDepth 20000 in
theorem gL_law_X8_taken : GoodIn wsL_law (wsV RL 72 RX8 yX8_taken wsX8_taken) := goodIn_app (goodIn_of _ (by decide +kernel)) ggL_law_X8_taken
set_option maxRecDepth 20000 in
theorem ggL_law_X9_taken : GoodIn wsL_law wsX9_taken := goodIn_r _ [665, 174, 152, 151, 699, 700, 701, 702, 703, 704, 705, 706, 707, 708, 709, 710, 711, 712, 713, 714, 715, 716, 717, 718, 719, 720, 721, 722, 723, 724, 725, 726, 727, 728, 729] (by decide +kernel) (by decide +kernel)
set_option maxRecDepth 20000 in
theorem gL_law_X9_taken : GoodIn wsL_law (wsV RL 75 RX9 yX9_taken wsX9_taken) := goodIn_app (goodIn_of _ (by decide +kernel)) ggL_law_X9_taken
set_option maxRecDepth 20000 in
theorem ggL_law_X8_check : GoodIn wsL_law wsX8_check := goodIn_r _ [669, 39, 19, 670, 671, 672, 38, 673, 110, 106, 108, 107, 105, 674, 199, 200, 15, 201, 57, 501, 195, 196, 197, 546, 473, 474, 475, 463, 456, 457, 458, 476, 319, 320, 321, 56, 675, 163, 164, 165, 676, 627, 628, 629, 630, 162, 677, 678, 679, 680, 685, 686, 687, 688, 689, 690, 691, 692, 693, 694, 695, 696, 697, 698, 755, 756, 757, 758, 759, 760, 761, 762, 763, 764, 730, 731] (by decide +kernel) (by decide +kernel)
set_option maxRecDepth 20000 in
theorem gL_law_X8_check : GoodIn wsL_law (wsV RL 76 RX8 yX8_check wsX8_check) := goodIn_app (goodIn_of _ (by decide +kernel)) ggL_law_X8_check
set_option maxRecDepth 20000 in
theorem ggL_law_X9_check : GoodIn wsL_law wsX9_check := goodIn_r _ [684, 174, 699, 700, 701, 702, 703, 704, 705, 706, 707, 708, 709, 710, 711, 712, 713, 714, 715, 716, 717, 718, 719, 720, 721, 722, 723, 724, 725, 726, 727, 728, 729] (by decide +kernel) (by decide +kernel)
set_option maxRecDepth 20000 in
theorem gL_law_X9_check : GoodIn wsL_law (wsV RL 79 RX9 yX9_check wsX9_check) := goodIn_app (goodIn_of _ (by decide +kernel)) ggL_law_X9_check
theorem dL_law_0 : decode cL_law 0 = .ok (.new 7, 3) := by decide +kernel
theorem dL_law_3 : decode cL_law 3 = .ok (.dup, 1) := by decide +kernel
theorem dL_law_4 : decode cL_law 4 = .ok (.invokespecial 9, 3) := by decide +kernel
theorem dL_law_7 : decode cL_law 7 = .ok (.astore_n 1, 1) := by decide +kernel
theorem dL_law_8 : decode cL_law 8 = .ok (.new 10, 3) := by decide +kernel
theorem dL_law_11 : decode cL_law 11 = .ok (.dup, 1) := by decide +kernel
theorem dL_law_12 : decode cL_law 12 = .ok (.invokespecial 12, 3) := by decide +kernel
theorem dL_law_15 : decode cL_law 15 = .ok (.astore_n 2, 1) := by decide +kernel
theorem dL_law_16 : decode cL_law 16 = .ok (.iconst 0, 1) := by decide +kernel
theorem dL_law_17 : decode cL_law 17 = .ok (.istore_n 3, 1) := by decide +kernel
theorem dL_law_18 : decode cL_law 18 = .ok (.iload_n 3, 1) := by decide +kernel
theorem dL_law_19 : decode cL_law 19 = .ok (.aload_n 0, 1) := by decide +kernel
theorem dL_law_20 : decode cL_law 20 = .ok (.arraylength, 1) := by decide +kernel
theorem dL_law_21 : decode cL_law 21 = .ok (.iconst 4, 1) := by decide +kernel
theorem dL_law_22 : decode cL_law 22 = .ok (.isub, 1) := by decide +kernel
theorem dL_law_23 : decode cL_law 23 = .ok (.if_icmp .gt 546, 3) := by decide +kernel
theorem dL_law_26 : decode cL_law 26 = .ok (.aload_n 0, 1) := by decide +kernel
theorem dL_law_27 : decode cL_law 27 = .ok (.iload_n 3, 1) := by decide +kernel
theorem dL_law_28 : decode cL_law 28 = .ok (.iaload, 1) := by decide +kernel
theorem dL_law_29 : decode cL_law 29 = .ok (.bipush 15, 2) := by decide +kernel
theorem dL_law_31 : decode cL_law 31 = .ok (.iand, 1) := by decide +kernel
theorem dL_law_32 : decode cL_law 32 = .ok (.tableswitch 531 0 14 #[76, 139, 172, 185, 228, 271, 294, 327, 350, 383, 396, 419, 482, 495, 518], 76) := by decide +kernel
theorem dL_law_108 : decode cL_law 108 = .ok (.aload_n 1, 1) := by decide +kernel
theorem dL_law_109 : decode cL_law 109 = .ok (.aload_n 0, 1) := by decide +kernel
theorem dL_law_110 : decode cL_law 110 = .ok (.iload_n 3, 1) := by decide +kernel
theorem dL_law_111 : decode cL_law 111 = .ok (.iconst 1, 1) := by decide +kernel
theorem dL_law_112 : decode cL_law 112 = .ok (.iadd, 1) := by decide +kernel
theorem dL_law_113 : decode cL_law 113 = .ok (.iaload, 1) := by decide +kernel
theorem dL_law_114 : decode cL_law 114 = .ok (.i2l, 1) := by decide +kernel
theorem dL_law_115 : decode cL_law 115 = .ok (.bipush 32, 2) := by decide +kernel
theorem dL_law_117 : decode cL_law 117 = .ok (.lshl, 1) := by decide +kernel
theorem dL_law_118 : decode cL_law 118 = .ok (.aload_n 0, 1) := by decide +kernel
theorem dL_law_119 : decode cL_law 119 = .ok (.iload_n 3, 1) := by decide +kernel
theorem dL_law_120 : decode cL_law 120 = .ok (.iconst 2, 1) := by decide +kernel
theorem dL_law_121 : decode cL_law 121 = .ok (.iadd, 1) := by decide +kernel
theorem dL_law_122 : decode cL_law 122 = .ok (.iaload, 1) := by decide +kernel
theorem dL_law_123 : decode cL_law 123 = .ok (.i2l, 1) := by decide +kernel
theorem dL_law_124 : decode cL_law 124 = .ok (.ldc2_w 13, 3) := by decide +kernel
theorem dL_law_127 : decode cL_law 127 = .ok (.land, 1) := by decide +kernel
theorem dL_law_128 : decode cL_law 128 = .ok (.lor, 1) := by decide +kernel
theorem dL_law_129 : decode cL_law 129 = .ok (.aload_n 0, 1) := by decide +kernel
theorem dL_law_130 : decode cL_law 130 = .ok (.iload_n 3, 1) := by decide +kernel
theorem dL_law_131 : decode cL_law 131 = .ok (.iconst 3, 1) := by decide +kernel
theorem dL_law_132 : decode cL_law 132 = .ok (.iadd, 1) := by decide +kernel
theorem dL_law_133 : decode cL_law 133 = .ok (.iaload, 1) := by decide +kernel
theorem dL_law_134 : decode cL_law 134 = .ok (.invokevirtual 15, 3) := by decide +kernel
theorem dL_law_137 : decode cL_law 137 = .ok (.aload_n 2, 1) := by decide +kernel
theorem dL_law_138 : decode cL_law 138 = .ok (.aload_n 0, 1) := by decide +kernel
theorem dL_law_139 : decode cL_law 139 = .ok (.iload_n 3, 1) := by decide +kernel
theorem dL_law_140 : decode cL_law 140 = .ok (.iconst 1, 1) := by decide +kernel
theorem dL_law_141 : decode cL_law 141 = .ok (.iadd, 1) := by decide +kernel
theorem dL_law_142 : decode cL_law 142 = .ok (.iaload, 1) := by decide +kernel
theorem dL_law_143 : decode cL_law 143 = .ok (.i2l, 1) := by decide +kernel
theorem dL_law_144 : decode cL_law 144 = .ok (.bipush 32, 2) := by decide +kernel
theorem dL_law_146 : decode cL_law 146 = .ok (.lshl, 1) := by decide +kernel
theorem dL_law_147 : decode cL_law 147 = .ok (.aload_n 0, 1) := by decide +kernel
theorem dL_law_148 : decode cL_law 148 = .ok (.iload_n 3, 1) := by decide +kernel
theorem dL_law_149 : decode cL_law 149 = .ok (.iconst 2, 1) := by decide +kernel
theorem dL_law_150 : decode cL_law 150 = .ok (.iadd, 1) := by decide +kernel
theorem dL_law_151 : decode cL_law 151 = .ok (.iaload, 1) := by decide +kernel
theorem dL_law_152 : decode cL_law 152 = .ok (.i2l, 1) := by decide +kernel
theorem dL_law_153 : decode cL_law 153 = .ok (.ldc2_w 13, 3) := by decide +kernel
theorem dL_law_156 : decode cL_law 156 = .ok (.land, 1) := by decide +kernel
theorem dL_law_157 : decode cL_law 157 = .ok (.lor, 1) := by decide +kernel
theorem dL_law_158 : decode cL_law 158 = .ok (.aload_n 0, 1) := by decide +kernel
theorem dL_law_159 : decode cL_law 159 = .ok (.iload_n 3, 1) := by decide +kernel
theorem dL_law_160 : decode cL_law 160 = .ok (.iconst 3, 1) := by decide +kernel
theorem dL_law_161 : decode cL_law 161 = .ok (.iadd, 1) := by decide +kernel
theorem dL_law_162 : decode cL_law 162 = .ok (.iaload, 1) := by decide +kernel
theorem dL_law_163 : decode cL_law 163 = .ok (.invokevirtual 19, 3) := by decide +kernel
theorem dL_law_166 : decode cL_law 166 = .ok (.if_icmp .eq 397, 3) := by decide +kernel
theorem dL_law_169 : decode cL_law 169 = .ok (.iconst 0, 1) := by decide +kernel
theorem dL_law_170 : decode cL_law 170 = .ok (.ireturn, 1) := by decide +kernel
theorem dL_law_171 : decode cL_law 171 = .ok (.aload_n 1, 1) := by decide +kernel
theorem dL_law_172 : decode cL_law 172 = .ok (.aload_n 0, 1) := by decide +kernel
theorem dL_law_173 : decode cL_law 173 = .ok (.iload_n 3, 1) := by decide +kernel
theorem dL_law_174 : decode cL_law 174 = .ok (.iconst 1, 1) := by decide +kernel
theorem dL_law_175 : decode cL_law 175 = .ok (.iadd, 1) := by decide +kernel
theorem dL_law_176 : decode cL_law 176 = .ok (.iaload, 1) := by decide +kernel
theorem dL_law_177 : decode cL_law 177 = .ok (.aload_n 0, 1) := by decide +kernel
theorem dL_law_178 : decode cL_law 178 = .ok (.iload_n 3, 1) := by decide +kernel
theorem dL_law_179 : decode cL_law 179 = .ok (.iconst 2, 1) := by decide +kernel
theorem dL_law_180 : decode cL_law 180 = .ok (.iadd, 1) := by decide +kernel
theorem dL_law_181 : decode cL_law 181 = .ok (.iaload, 1) := by decide +kernel
theorem dL_law_182 : decode cL_law 182 = .ok (.invokevirtual 20, 3) := by decide +kernel
theorem dL_law_185 : decode cL_law 185 = .ok (.aload_n 2, 1) := by decide +kernel
theorem dL_law_186 : decode cL_law 186 = .ok (.aload_n 0, 1) := by decide +kernel
theorem dL_law_187 : decode cL_law 187 = .ok (.iload_n 3, 1) := by decide +kernel
theorem dL_law_188 : decode cL_law 188 = .ok (.iconst 1, 1) := by decide +kernel
theorem dL_law_189 : decode cL_law 189 = .ok (.iadd, 1) := by decide +kernel
theorem dL_law_190 : decode cL_law 190 = .ok (.iaload, 1) := by decide +kernel
theorem dL_law_191 : decode cL_law 191 = .ok (.aload_n 0, 1) := by decide +kernel
theorem dL_law_192 : decode cL_law 192 = .ok (.iload_n 3, 1) := by decide +kernel
theorem dL_law_193 : decode cL_law 193 = .ok (.iconst 2, 1) := by decide +kernel
theorem dL_law_194 : decode cL_law 194 = .ok (.iadd, 1) := by decide +kernel
theorem dL_law_195 : decode cL_law 195 = .ok (.iaload, 1) := by decide +kernel
theorem dL_law_196 : decode cL_law 196 = .ok (.invokevirtual 24, 3) := by decide +kernel
theorem dL_law_199 : decode cL_law 199 = .ok (.if_icmp .eq 364, 3) := by decide +kernel
theorem dL_law_202 : decode cL_law 202 = .ok (.iconst 0, 1) := by decide +kernel
theorem dL_law_203 : decode cL_law 203 = .ok (.ireturn, 1) := by decide +kernel
theorem dL_law_204 : decode cL_law 204 = .ok (.aload_n 1, 1) := by decide +kernel
theorem dL_law_205 : decode cL_law 205 = .ok (.invokevirtual 25, 3) := by decide +kernel
theorem dL_law_208 : decode cL_law 208 = .ok (.aload_n 2, 1) := by decide +kernel
theorem dL_law_209 : decode cL_law 209 = .ok (.invokevirtual 29, 3) := by decide +kernel
theorem dL_law_212 : decode cL_law 212 = .ok (.if_icmp .eq 351, 3) := by decide +kernel
theorem dL_law_215 : decode cL_law 215 = .ok (.iconst 0, 1) := by decide +kernel
theorem dL_law_216 : decode cL_law 216 = .ok (.ireturn, 1) := by decide +kernel
theorem dL_law_217 : decode cL_law 217 = .ok (.aload_n 1, 1) := by decide +kernel
theorem dL_law_218 : decode cL_law 218 = .ok (.aload_n 0, 1) := by decide +kernel
theorem dL_law_219 : decode cL_law 219 = .ok (.iload_n 3, 1) := by decide +kernel
theorem dL_law_220 : decode cL_law 220 = .ok (.iconst 1, 1) := by decide +kernel
theorem dL_law_221 : decode cL_law 221 = .ok (.iadd, 1) := by decide +kernel
theorem dL_law_222 : decode cL_law 222 = .ok (.iaload, 1) := by decide +kernel
theorem dL_law_223 : decode cL_law 223 = .ok (.aload_n 0, 1) := by decide +kernel
theorem dL_law_224 : decode cL_law 224 = .ok (.iload_n 3, 1) := by decide +kernel
theorem dL_law_225 : decode cL_law 225 = .ok (.iconst 2, 1) := by decide +kernel
theorem dL_law_226 : decode cL_law 226 = .ok (.iadd, 1) := by decide +kernel
theorem dL_law_227 : decode cL_law 227 = .ok (.iaload, 1) := by decide +kernel
theorem dL_law_228 : decode cL_law 228 = .ok (.aload_n 0, 1) := by decide +kernel
theorem dL_law_229 : decode cL_law 229 = .ok (.iload_n 3, 1) := by decide +kernel
theorem dL_law_230 : decode cL_law 230 = .ok (.iconst 3, 1) := by decide +kernel
theorem dL_law_231 : decode cL_law 231 = .ok (.iadd, 1) := by decide +kernel
theorem dL_law_232 : decode cL_law 232 = .ok (.iaload, 1) := by decide +kernel
theorem dL_law_233 : decode cL_law 233 = .ok (.invokevirtual 30, 3) := by decide +kernel
theorem dL_law_236 : decode cL_law 236 = .ok (.aload_n 2, 1) := by decide +kernel
theorem dL_law_237 : decode cL_law 237 = .ok (.aload_n 0, 1) := by decide +kernel
theorem dL_law_238 : decode cL_law 238 = .ok (.iload_n 3, 1) := by decide +kernel
theorem dL_law_239 : decode cL_law 239 = .ok (.iconst 1, 1) := by decide +kernel
theorem dL_law_240 : decode cL_law 240 = .ok (.iadd, 1) := by decide +kernel
theorem dL_law_241 : decode cL_law 241 = .ok (.iaload, 1) := by decide +kernel
theorem dL_law_242 : decode cL_law 242 = .ok (.aload_n 0, 1) := by decide +kernel
theorem dL_law_243 : decode cL_law 243 = .ok (.iload_n 3, 1) := by decide +kernel
theorem dL_law_244 : decode cL_law 244 = .ok (.iconst 2, 1) := by decide +kernel
theorem dL_law_245 : decode cL_law 245 = .ok (.iadd, 1) := by decide +kernel
theorem dL_law_246 : decode cL_law 246 = .ok (.iaload, 1) := by decide +kernel
theorem dL_law_247 : decode cL_law 247 = .ok (.aload_n 0, 1) := by decide +kernel
theorem dL_law_248 : decode cL_law 248 = .ok (.iload_n 3, 1) := by decide +kernel
theorem dL_law_249 : decode cL_law 249 = .ok (.iconst 3, 1) := by decide +kernel
theorem dL_law_250 : decode cL_law 250 = .ok (.iadd, 1) := by decide +kernel
theorem dL_law_251 : decode cL_law 251 = .ok (.iaload, 1) := by decide +kernel
theorem dL_law_252 : decode cL_law 252 = .ok (.invokevirtual 34, 3) := by decide +kernel
theorem dL_law_255 : decode cL_law 255 = .ok (.if_icmp .eq 308, 3) := by decide +kernel
theorem dL_law_258 : decode cL_law 258 = .ok (.iconst 0, 1) := by decide +kernel
theorem dL_law_259 : decode cL_law 259 = .ok (.ireturn, 1) := by decide +kernel
theorem dL_law_260 : decode cL_law 260 = .ok (.aload_n 1, 1) := by decide +kernel
theorem dL_law_261 : decode cL_law 261 = .ok (.aload_n 0, 1) := by decide +kernel
theorem dL_law_262 : decode cL_law 262 = .ok (.iload_n 3, 1) := by decide +kernel
theorem dL_law_263 : decode cL_law 263 = .ok (.iconst 1, 1) := by decide +kernel
theorem dL_law_264 : decode cL_law 264 = .ok (.iadd, 1) := by decide +kernel
theorem dL_law_265 : decode cL_law 265 = .ok (.iaload, 1) := by decide +kernel
theorem dL_law_266 : decode cL_law 266 = .ok (.aload_n 0, 1) := by decide +kernel
theorem dL_law_267 : decode cL_law 267 = .ok (.iload_n 3, 1) := by decide +kernel
theorem dL_law_268 : decode cL_law 268 = .ok (.iconst 2, 1) := by decide +kernel
theorem dL_law_269 : decode cL_law 269 = .ok (.iadd, 1) := by decide +kernel
theorem dL_law_270 : decode cL_law 270 = .ok (.iaload, 1) := by decide +kernel
theorem dL_law_271 : decode cL_law 271 = .ok (.aload_n 0, 1) := by decide +kernel
theorem dL_law_272 : decode cL_law 272 = .ok (.iload_n 3, 1) := by decide +kernel
theorem dL_law_273 : decode cL_law 273 = .ok (.iconst 3, 1) := by decide +kernel
theorem dL_law_274 : decode cL_law 274 = .ok (.iadd, 1) := by decide +kernel
theorem dL_law_275 : decode cL_law 275 = .ok (.iaload, 1) := by decide +kernel
theorem dL_law_276 : decode cL_law 276 = .ok (.invokevirtual 35, 3) := by decide +kernel
theorem dL_law_279 : decode cL_law 279 = .ok (.aload_n 2, 1) := by decide +kernel
theorem dL_law_280 : decode cL_law 280 = .ok (.aload_n 0, 1) := by decide +kernel
theorem dL_law_281 : decode cL_law 281 = .ok (.iload_n 3, 1) := by decide +kernel
theorem dL_law_282 : decode cL_law 282 = .ok (.iconst 1, 1) := by decide +kernel
theorem dL_law_283 : decode cL_law 283 = .ok (.iadd, 1) := by decide +kernel
theorem dL_law_284 : decode cL_law 284 = .ok (.iaload, 1) := by decide +kernel
theorem dL_law_285 : decode cL_law 285 = .ok (.aload_n 0, 1) := by decide +kernel
theorem dL_law_286 : decode cL_law 286 = .ok (.iload_n 3, 1) := by decide +kernel
theorem dL_law_287 : decode cL_law 287 = .ok (.iconst 2, 1) := by decide +kernel
theorem dL_law_288 : decode cL_law 288 = .ok (.iadd, 1) := by decide +kernel
theorem dL_law_289 : decode cL_law 289 = .ok (.iaload, 1) := by decide +kernel
theorem dL_law_290 : decode cL_law 290 = .ok (.aload_n 0, 1) := by decide +kernel
theorem dL_law_291 : decode cL_law 291 = .ok (.iload_n 3, 1) := by decide +kernel
theorem dL_law_292 : decode cL_law 292 = .ok (.iconst 3, 1) := by decide +kernel
theorem dL_law_293 : decode cL_law 293 = .ok (.iadd, 1) := by decide +kernel
theorem dL_law_294 : decode cL_law 294 = .ok (.iaload, 1) := by decide +kernel
theorem dL_law_295 : decode cL_law 295 = .ok (.invokevirtual 38, 3) := by decide +kernel
theorem dL_law_298 : decode cL_law 298 = .ok (.if_icmp .eq 265, 3) := by decide +kernel
theorem dL_law_301 : decode cL_law 301 = .ok (.iconst 0, 1) := by decide +kernel
theorem dL_law_302 : decode cL_law 302 = .ok (.ireturn, 1) := by decide +kernel
theorem dL_law_303 : decode cL_law 303 = .ok (.aload_n 1, 1) := by decide +kernel
theorem dL_law_304 : decode cL_law 304 = .ok (.aload_n 0, 1) := by decide +kernel
theorem dL_law_305 : decode cL_law 305 = .ok (.iload_n 3, 1) := by decide +kernel
theorem dL_law_306 : decode cL_law 306 = .ok (.iconst 1, 1) := by decide +kernel
theorem dL_law_307 : decode cL_law 307 = .ok (.iadd, 1) := by decide +kernel
theorem dL_law_308 : decode cL_law 308 = .ok (.iaload, 1) := by decide +kernel
theorem dL_law_309 : decode cL_law 309 = .ok (.invokevirtual 39, 3) := by decide +kernel
theorem dL_law_312 : decode cL_law 312 = .ok (.aload_n 2, 1) := by decide +kernel
theorem dL_law_313 : decode cL_law 313 = .ok (.aload_n 0, 1) := by decide +kernel
theorem dL_law_314 : decode cL_law 314 = .ok (.iload_n 3, 1) := by decide +kernel
theorem dL_law_315 : decode cL_law 315 = .ok (.iconst 1, 1) := by decide +kernel
theorem dL_law_316 : decode cL_law 316 = .ok (.iadd, 1) := by decide +kernel
theorem dL_law_317 : decode cL_law 317 = .ok (.iaload, 1) := by decide +kernel
theorem dL_law_318 : decode cL_law 318 = .ok (.invokevirtual 43, 3) := by decide +kernel
theorem dL_law_321 : decode cL_law 321 = .ok (.if_icmp .eq 242, 3) := by decide +kernel
theorem dL_law_324 : decode cL_law 324 = .ok (.iconst 0, 1) := by decide +kernel
theorem dL_law_325 : decode cL_law 325 = .ok (.ireturn, 1) := by decide +kernel
theorem dL_law_326 : decode cL_law 326 = .ok (.aload_n 1, 1) := by decide +kernel
theorem dL_law_327 : decode cL_law 327 = .ok (.aload_n 0, 1) := by decide +kernel
theorem dL_law_328 : decode cL_law 328 = .ok (.iload_n 3, 1) := by decide +kernel
theorem dL_law_329 : decode cL_law 329 = .ok (.iconst 1, 1) := by decide +kernel
theorem dL_law_330 : decode cL_law 330 = .ok (.iadd, 1) := by decide +kernel
theorem dL_law_331 : decode cL_law 331 = .ok (.iaload, 1) := by decide +kernel
theorem dL_law_332 : decode cL_law 332 = .ok (.aload_n 0, 1) := by decide +kernel
theorem dL_law_333 : decode cL_law 333 = .ok (.iload_n 3, 1) := by decide +kernel
theorem dL_law_334 : decode cL_law 334 = .ok (.iconst 2, 1) := by decide +kernel
theorem dL_law_335 : decode cL_law 335 = .ok (.iadd, 1) := by decide +kernel
theorem dL_law_336 : decode cL_law 336 = .ok (.iaload, 1) := by decide +kernel
theorem dL_law_337 : decode cL_law 337 = .ok (.invokevirtual 44, 3) := by decide +kernel
theorem dL_law_340 : decode cL_law 340 = .ok (.aload_n 2, 1) := by decide +kernel
theorem dL_law_341 : decode cL_law 341 = .ok (.aload_n 0, 1) := by decide +kernel
theorem dL_law_342 : decode cL_law 342 = .ok (.iload_n 3, 1) := by decide +kernel
theorem dL_law_343 : decode cL_law 343 = .ok (.iconst 1, 1) := by decide +kernel
theorem dL_law_344 : decode cL_law 344 = .ok (.iadd, 1) := by decide +kernel
theorem dL_law_345 : decode cL_law 345 = .ok (.iaload, 1) := by decide +kernel
theorem dL_law_346 : decode cL_law 346 = .ok (.aload_n 0, 1) := by decide +kernel
theorem dL_law_347 : decode cL_law 347 = .ok (.iload_n 3, 1) := by decide +kernel
theorem dL_law_348 : decode cL_law 348 = .ok (.iconst 2, 1) := by decide +kernel
theorem dL_law_349 : decode cL_law 349 = .ok (.iadd, 1) := by decide +kernel
theorem dL_law_350 : decode cL_law 350 = .ok (.iaload, 1) := by decide +kernel
theorem dL_law_351 : decode cL_law 351 = .ok (.invokevirtual 47, 3) := by decide +kernel
theorem dL_law_354 : decode cL_law 354 = .ok (.if_icmp .eq 209, 3) := by decide +kernel
theorem dL_law_357 : decode cL_law 357 = .ok (.iconst 0, 1) := by decide +kernel
theorem dL_law_358 : decode cL_law 358 = .ok (.ireturn, 1) := by decide +kernel
theorem dL_law_359 : decode cL_law 359 = .ok (.aload_n 1, 1) := by decide +kernel
theorem dL_law_360 : decode cL_law 360 = .ok (.aload_n 0, 1) := by decide +kernel
theorem dL_law_361 : decode cL_law 361 = .ok (.iload_n 3, 1) := by decide +kernel
theorem dL_law_362 : decode cL_law 362 = .ok (.iconst 1, 1) := by decide +kernel
theorem dL_law_363 : decode cL_law 363 = .ok (.iadd, 1) := by decide +kernel
theorem dL_law_364 : decode cL_law 364 = .ok (.iaload, 1) := by decide +kernel
theorem dL_law_365 : decode cL_law 365 = .ok (.invokevirtual 48, 3) := by decide +kernel
theorem dL_law_368 : decode cL_law 368 = .ok (.aload_n 2, 1) := by decide +kernel
theorem dL_law_369 : decode cL_law 369 = .ok (.aload_n 0, 1) := by decide +kernel
theorem dL_law_370 : decode cL_law 370 = .ok (.iload_n 3, 1) := by decide +kernel
theorem dL_law_371 : decode cL_law 371 = .ok (.iconst 1, 1) := by decide +kernel
theorem dL_law_372 : decode cL_law 372 = .ok (.iadd, 1) := by decide +kernel
theorem dL_law_373 : decode cL_law 373 = .ok (.iaload, 1) := by decide +kernel
theorem dL_law_374 : decode cL_law 374 = .ok (.invokevirtual 51, 3) := by decide +kernel
theorem dL_law_377 : decode cL_law 377 = .ok (.if_icmp .eq 186, 3) := by decide +kernel
theorem dL_law_380 : decode cL_law 380 = .ok (.iconst 0, 1) := by decide +kernel
theorem dL_law_381 : decode cL_law 381 = .ok (.ireturn, 1) := by decide +kernel
theorem dL_law_382 : decode cL_law 382 = .ok (.aload_n 1, 1) := by decide +kernel
theorem dL_law_383 : decode cL_law 383 = .ok (.aload_n 0, 1) := by decide +kernel
theorem dL_law_384 : decode cL_law 384 = .ok (.iload_n 3, 1) := by decide +kernel
theorem dL_law_385 : decode cL_law 385 = .ok (.iconst 1, 1) := by decide +kernel
theorem dL_law_386 : decode cL_law 386 = .ok (.iadd, 1) := by decide +kernel
theorem dL_law_387 : decode cL_law 387 = .ok (.iaload, 1) := by decide +kernel
theorem dL_law_388 : decode cL_law 388 = .ok (.aload_n 0, 1) := by decide +kernel
theorem dL_law_389 : decode cL_law 389 = .ok (.iload_n 3, 1) := by decide +kernel
theorem dL_law_390 : decode cL_law 390 = .ok (.iconst 2, 1) := by decide +kernel
theorem dL_law_391 : decode cL_law 391 = .ok (.iadd, 1) := by decide +kernel
theorem dL_law_392 : decode cL_law 392 = .ok (.iaload, 1) := by decide +kernel
theorem dL_law_393 : decode cL_law 393 = .ok (.invokevirtual 52, 3) := by decide +kernel
theorem dL_law_396 : decode cL_law 396 = .ok (.aload_n 2, 1) := by decide +kernel
theorem dL_law_397 : decode cL_law 397 = .ok (.aload_n 0, 1) := by decide +kernel
theorem dL_law_398 : decode cL_law 398 = .ok (.iload_n 3, 1) := by decide +kernel
theorem dL_law_399 : decode cL_law 399 = .ok (.iconst 1, 1) := by decide +kernel
theorem dL_law_400 : decode cL_law 400 = .ok (.iadd, 1) := by decide +kernel
theorem dL_law_401 : decode cL_law 401 = .ok (.iaload, 1) := by decide +kernel
theorem dL_law_402 : decode cL_law 402 = .ok (.aload_n 0, 1) := by decide +kernel
theorem dL_law_403 : decode cL_law 403 = .ok (.iload_n 3, 1) := by decide +kernel
theorem dL_law_404 : decode cL_law 404 = .ok (.iconst 2, 1) := by decide +kernel
theorem dL_law_405 : decode cL_law 405 = .ok (.iadd, 1) := by decide +kernel
theorem dL_law_406 : decode cL_law 406 = .ok (.iaload, 1) := by decide +kernel
theorem dL_law_407 : decode cL_law 407 = .ok (.invokevirtual 55, 3) := by decide +kernel
theorem dL_law_410 : decode cL_law 410 = .ok (.if_icmp .eq 153, 3) := by decide +kernel
theorem dL_law_413 : decode cL_law 413 = .ok (.iconst 0, 1) := by decide +kernel
theorem dL_law_414 : decode cL_law 414 = .ok (.ireturn, 1) := by decide +kernel
theorem dL_law_415 : decode cL_law 415 = .ok (.aload_n 1, 1) := by decide +kernel
theorem dL_law_416 : decode cL_law 416 = .ok (.invokevirtual 56, 3) := by decide +kernel
theorem dL_law_419 : decode cL_law 419 = .ok (.aload_n 2, 1) := by decide +kernel
theorem dL_law_420 : decode cL_law 420 = .ok (.invokevirtual 59, 3) := by decide +kernel
theorem dL_law_423 : decode cL_law 423 = .ok (.if_icmp .eq 140, 3) := by decide +kernel
theorem dL_law_426 : decode cL_law 426 = .ok (.iconst 0, 1) := by decide +kernel
theorem dL_law_427 : decode cL_law 427 = .ok (.ireturn, 1) := by decide +kernel
theorem dL_law_428 : decode cL_law 428 = .ok (.aload_n 1, 1) := by decide +kernel
theorem dL_law_429 : decode cL_law 429 = .ok (.aload_n 0, 1) := by decide +kernel
theorem dL_law_430 : decode cL_law 430 = .ok (.iload_n 3, 1) := by decide +kernel
theorem dL_law_431 : decode cL_law 431 = .ok (.iconst 1, 1) := by decide +kernel
theorem dL_law_432 : decode cL_law 432 = .ok (.iadd, 1) := by decide +kernel
theorem dL_law_433 : decode cL_law 433 = .ok (.iaload, 1) := by decide +kernel
theorem dL_law_434 : decode cL_law 434 = .ok (.invokevirtual 60, 3) := by decide +kernel
theorem dL_law_437 : decode cL_law 437 = .ok (.aload_n 2, 1) := by decide +kernel
theorem dL_law_438 : decode cL_law 438 = .ok (.aload_n 0, 1) := by decide +kernel
theorem dL_law_439 : decode cL_law 439 = .ok (.iload_n 3, 1) := by decide +kernel
theorem dL_law_440 : decode cL_law 440 = .ok (.iconst 1, 1) := by decide +kernel
theorem dL_law_441 : decode cL_law 441 = .ok (.iadd, 1) := by decide +kernel
theorem dL_law_442 : decode cL_law 442 = .ok (.iaload, 1) := by decide +kernel
theorem dL_law_443 : decode cL_law 443 = .ok (.invokevirtual 63, 3) := by decide +kernel
theorem dL_law_446 : decode cL_law 446 = .ok (.if_icmp .eq 117, 3) := by decide +kernel
theorem dL_law_449 : decode cL_law 449 = .ok (.iconst 0, 1) := by decide +kernel
theorem dL_law_450 : decode cL_law 450 = .ok (.ireturn, 1) := by decide +kernel
theorem dL_law_451 : decode cL_law 451 = .ok (.aload_n 1, 1) := by decide +kernel
theorem dL_law_452 : decode cL_law 452 = .ok (.aload_n 0, 1) := by decide +kernel
theorem dL_law_453 : decode cL_law 453 = .ok (.iload_n 3, 1) := by decide +kernel
theorem dL_law_454 : decode cL_law 454 = .ok (.iconst 1, 1) := by decide +kernel
theorem dL_law_455 : decode cL_law 455 = .ok (.iadd, 1) := by decide +kernel
theorem dL_law_456 : decode cL_law 456 = .ok (.iaload, 1) := by decide +kernel
theorem dL_law_457 : decode cL_law 457 = .ok (.i2l, 1) := by decide +kernel
theorem dL_law_458 : decode cL_law 458 = .ok (.bipush 32, 2) := by decide +kernel
theorem dL_law_460 : decode cL_law 460 = .ok (.lshl, 1) := by decide +kernel
theorem dL_law_461 : decode cL_law 461 = .ok (.aload_n 0, 1) := by decide +kernel
theorem dL_law_462 : decode cL_law 462 = .ok (.iload_n 3, 1) := by decide +kernel
theorem dL_law_463 : decode cL_law 463 = .ok (.iconst 2, 1) := by decide +kernel
theorem dL_law_464 : decode cL_law 464 = .ok (.iadd, 1) := by decide +kernel
theorem dL_law_465 : decode cL_law 465 = .ok (.iaload, 1) := by decide +kernel
theorem dL_law_466 : decode cL_law 466 = .ok (.i2l, 1) := by decide +kernel
theorem dL_law_467 : decode cL_law 467 = .ok (.ldc2_w 13, 3) := by decide +kernel
theorem dL_law_470 : decode cL_law 470 = .ok (.land, 1) := by decide +kernel
theorem dL_law_471 : decode cL_law 471 = .ok (.lor, 1) := by decide +kernel
theorem dL_law_472 : decode cL_law 472 = .ok (.aload_n 0, 1) := by decide +kernel
theorem dL_law_473 : decode cL_law 473 = .ok (.iload_n 3, 1) := by decide +kernel
theorem dL_law_474 : decode cL_law 474 = .ok (.iconst 3, 1) := by decide +kernel
theorem dL_law_475 : decode cL_law 475 = .ok (.iadd, 1) := by decide +kernel
theorem dL_law_476 : decode cL_law 476 = .ok (.iaload, 1) := by decide +kernel
theorem dL_law_477 : decode cL_law 477 = .ok (.invokevirtual 64, 3) := by decide +kernel
theorem dL_law_480 : decode cL_law 480 = .ok (.aload_n 2, 1) := by decide +kernel
theorem dL_law_481 : decode cL_law 481 = .ok (.aload_n 0, 1) := by decide +kernel
theorem dL_law_482 : decode cL_law 482 = .ok (.iload_n 3, 1) := by decide +kernel
theorem dL_law_483 : decode cL_law 483 = .ok (.iconst 1, 1) := by decide +kernel
theorem dL_law_484 : decode cL_law 484 = .ok (.iadd, 1) := by decide +kernel
theorem dL_law_485 : decode cL_law 485 = .ok (.iaload, 1) := by decide +kernel
theorem dL_law_486 : decode cL_law 486 = .ok (.i2l, 1) := by decide +kernel
theorem dL_law_487 : decode cL_law 487 = .ok (.bipush 32, 2) := by decide +kernel
theorem dL_law_489 : decode cL_law 489 = .ok (.lshl, 1) := by decide +kernel
theorem dL_law_490 : decode cL_law 490 = .ok (.aload_n 0, 1) := by decide +kernel
theorem dL_law_491 : decode cL_law 491 = .ok (.iload_n 3, 1) := by decide +kernel
theorem dL_law_492 : decode cL_law 492 = .ok (.iconst 2, 1) := by decide +kernel
theorem dL_law_493 : decode cL_law 493 = .ok (.iadd, 1) := by decide +kernel
theorem dL_law_494 : decode cL_law 494 = .ok (.iaload, 1) := by decide +kernel
theorem dL_law_495 : decode cL_law 495 = .ok (.i2l, 1) := by decide +kernel
theorem dL_law_496 : decode cL_law 496 = .ok (.ldc2_w 13, 3) := by decide +kernel
theorem dL_law_499 : decode cL_law 499 = .ok (.land, 1) := by decide +kernel
theorem dL_law_500 : decode cL_law 500 = .ok (.lor, 1) := by decide +kernel
theorem dL_law_501 : decode cL_law 501 = .ok (.aload_n 0, 1) := by decide +kernel
theorem dL_law_502 : decode cL_law 502 = .ok (.iload_n 3, 1) := by decide +kernel
theorem dL_law_503 : decode cL_law 503 = .ok (.iconst 3, 1) := by decide +kernel
theorem dL_law_504 : decode cL_law 504 = .ok (.iadd, 1) := by decide +kernel
theorem dL_law_505 : decode cL_law 505 = .ok (.iaload, 1) := by decide +kernel
theorem dL_law_506 : decode cL_law 506 = .ok (.invokevirtual 67, 3) := by decide +kernel
theorem dL_law_509 : decode cL_law 509 = .ok (.if_icmp .eq 54, 3) := by decide +kernel
theorem dL_law_512 : decode cL_law 512 = .ok (.iconst 0, 1) := by decide +kernel
theorem dL_law_513 : decode cL_law 513 = .ok (.ireturn, 1) := by decide +kernel
theorem dL_law_514 : decode cL_law 514 = .ok (.aload_n 1, 1) := by decide +kernel
theorem dL_law_515 : decode cL_law 515 = .ok (.invokevirtual 68, 3) := by decide +kernel
theorem dL_law_518 : decode cL_law 518 = .ok (.aload_n 2, 1) := by decide +kernel
theorem dL_law_519 : decode cL_law 519 = .ok (.invokevirtual 71, 3) := by decide +kernel
theorem dL_law_522 : decode cL_law 522 = .ok (.if_icmp .eq 41, 3) := by decide +kernel
theorem dL_law_525 : decode cL_law 525 = .ok (.iconst 0, 1) := by decide +kernel
theorem dL_law_526 : decode cL_law 526 = .ok (.ireturn, 1) := by decide +kernel
theorem dL_law_527 : decode cL_law 527 = .ok (.aload_n 1, 1) := by decide +kernel
theorem dL_law_528 : decode cL_law 528 = .ok (.aload_n 0, 1) := by decide +kernel
theorem dL_law_529 : decode cL_law 529 = .ok (.iload_n 3, 1) := by decide +kernel
theorem dL_law_530 : decode cL_law 530 = .ok (.iconst 1, 1) := by decide +kernel
theorem dL_law_531 : decode cL_law 531 = .ok (.iadd, 1) := by decide +kernel
theorem dL_law_532 : decode cL_law 532 = .ok (.iaload, 1) := by decide +kernel
theorem dL_law_533 : decode cL_law 533 = .ok (.invokevirtual 72, 3) := by decide +kernel
theorem dL_law_536 : decode cL_law 536 = .ok (.aload_n 2, 1) := by decide +kernel
theorem dL_law_537 : decode cL_law 537 = .ok (.aload_n 0, 1) := by decide +kernel
theorem dL_law_538 : decode cL_law 538 = .ok (.iload_n 3, 1) := by decide +kernel
theorem dL_law_539 : decode cL_law 539 = .ok (.iconst 1, 1) := by decide +kernel
theorem dL_law_540 : decode cL_law 540 = .ok (.iadd, 1) := by decide +kernel
theorem dL_law_541 : decode cL_law 541 = .ok (.iaload, 1) := by decide +kernel
theorem dL_law_542 : decode cL_law 542 = .ok (.invokevirtual 75, 3) := by decide +kernel
theorem dL_law_545 : decode cL_law 545 = .ok (.if_icmp .eq 18, 3) := by decide +kernel
theorem dL_law_548 : decode cL_law 548 = .ok (.iconst 0, 1) := by decide +kernel
theorem dL_law_549 : decode cL_law 549 = .ok (.ireturn, 1) := by decide +kernel
theorem dL_law_550 : decode cL_law 550 = .ok (.aload_n 1, 1) := by decide +kernel
theorem dL_law_551 : decode cL_law 551 = .ok (.invokevirtual 76, 3) := by decide +kernel
theorem dL_law_554 : decode cL_law 554 = .ok (.aload_n 2, 1) := by decide +kernel
theorem dL_law_555 : decode cL_law 555 = .ok (.invokevirtual 79, 3) := by decide +kernel
theorem dL_law_558 : decode cL_law 558 = .ok (.if_icmp .eq 5, 3) := by decide +kernel
theorem dL_law_561 : decode cL_law 561 = .ok (.iconst 0, 1) := by decide +kernel
theorem dL_law_562 : decode cL_law 562 = .ok (.ireturn, 1) := by decide +kernel
theorem dL_law_563 : decode cL_law 563 = .ok (.iinc 3 4, 3) := by decide +kernel
theorem dL_law_566 : decode cL_law 566 = .ok (.goto (-548), 3) := by decide +kernel
theorem dL_law_569 : decode cL_law 569 = .ok (.iconst 1, 1) := by decide +kernel
theorem dL_law_570 : decode cL_law 570 = .ok (.ireturn, 1) := by decide +kernel
end
section
/-! my rows: one bundle for the world, one for the code; numbers as nI of natural numbers -/
abbrev jG : Type := va_G × (ClassId × ClassId × ClassId)
abbrev jT (c : ClassId × ClassId × ClassId) : List (ClassId × FieldType) := [(c.1, .int), (c.2.1, .short), (c.2.2, .boolean)]
/-- an array's contents by natural numbers -/
def nr (g : Nat → Nat) : Nat → Int32 := fun j => nI (g j)
/-- one place of a function changed -/
def up (g : Nat → Nat) (k x : Nat) : Nat → Nat := fun j => if j = k then x else g j
theorem up_s {g : Nat → Nat} {k x : Nat} : up g k x k = x := by simp [up]
theorem up_n {g : Nat → Nat} {k x j : Nat} (h : j ≠ k) : up g k x j = g j := by simp [up, h]
theorem nr_up (g : Nat → Nat) (k x : Nat) : upd (nr g) k (nI x) = nr (up g k x) := by
  funext j
  by_cases h : j = k
  · subst h; simp [upd, nr, up]
  · simp [upd, nr, up, h]
abbrev oC (a ci : Nat) (fs : List Value) : Nat × va_E := (a, .inr (ci, fs))
abbrev aI (G : jG) (a n : Nat) (g : Nat → Nat) : Nat × va_E := (a, .inl (G.2.1, n, .inl (nr g)))
abbrev aS (G : jG) (a n : Nat) (g : Nat → Nat) : Nat × va_E := (a, .inl (G.2.2.1, n, .inl (nr g)))
abbrev aZ (G : jG) (a n : Nat) (g : Nat → Nat) : Nat × va_E := (a, .inl (G.2.2.2, n, .inl (nr g)))
/-- links to private members of nest mates: they hold at the entry -/
def jN (U : State) : Prop := ∀ w ∈ jNest, va_Nw w U
def jnest : Cond → Bool
  | .fieldLinkNest _ _ _ _ _ _ => true
  | .methodLinkNest _ _ _ _ => true
  | _ => false
theorem jNest_ok : jNest.all jnest = true := by decide +kernel
theorem jN_warm {s U : State} (hW : s.WarmedH U.vm) (h : jN s) : jN U := by
  intro w hw
  have h1 := List.all_eq_true.mp jNest_ok w hw
  have h2 := h w hw
  cases w <;> simp only [jnest] at h1 <;> first | exact va_Nw.warmF hW h2 | exact va_Nw.warmM hW h2 | cases h1
theorem jN_same {u U : State} (e : u.vm = U.vm) (h : jN u) : jN U := by
  intro w hw
  have h1 := List.all_eq_true.mp jNest_ok w hw
  have h2 := h w hw
  cases w <;> simp only [jnest] at h1 <;> first | exact va_Nw.same rfl e h2 | cases h1
/-- the world while a method runs -/
def jI (G : jG) (A : Nat → Prop) (s : State) (ws : va_W) (H : Heap) (locs : List Loc) : Prop :=
  va_K G.1 vwCl (jT G.2) s ∧ va_P G.1 vwCl ws H ∧ va_D A ws ∧ va_S A s.heap H locs ∧ (∀ q, s.heap.size ≤ q → A q) ∧ jN s
/-- the code of the method that runs -/
def jC (p : Program) (s : State) (m : MethodId) (args : Array Value) (meth : Method) (c : Code) (cc : ByteArray) (own : String) (Ts : List Cond) (nL : Nat) (ret : Option FieldType) (nm : String) : Prop :=
  p.tables.exec = Jvm.exec ∧ c.code = cc ∧ c.maxLocals = nL ∧ s.vm.findClass own = some m.cls ∧ (∀ w ∈ Ts, w.before args s = true) ∧ meth.sig.returnType = ret ∧ meth.locks = false ∧ meth.name = nm
theorem jC.fix {p : Program} {s : State} {m : MethodId} {args : Array Value} {meth : Method} {c : Code} {cc : ByteArray} {own : String} {Ts : List Cond} {nL : Nat} {ret : Option FieldType} {nm : String} (h : jC p s m args meth c cc own Ts nL ret nm) : CallFix p m c cc nL s args Ts own := ⟨h.1, h.2.1, h.2.2.1, h.2.2.2.1, h.2.2.2.2.1⟩
def jPre (G : jG) (wc : va_W) (sz : Nat) (av : List Value) : Array Value → State → Prop := va_Pc av (fun U => U.heap.size = sz ∧ va_P G.1 vwCl wc U.heap ∧ va_K G.1 vwCl (jT G.2) U ∧ va_D (fun _ => True) wc ∧ jN U)
def jAt (G : jG) (A : Nat → Prop) (w1 : va_W) (t : State) : Prop := va_P G.1 vwCl w1 t.heap ∧ va_K G.1 vwCl (jT G.2) t ∧ va_D A w1
def jQi {S : Type} (G : jG) (post : Int32 → S → Prop) (w1 : S → va_W) (A : Nat → Prop) : Array Value → State → Outcome → State → Prop := va_Qi post (fun u t => jAt G A (w1 u) t) A
def jQv {S : Type} (G : jG) (post : S → Prop) (w1 : S → va_W) (A : Nat → Prop) : Array Value → State → Outcome → State → Prop := va_Qv post (fun u t => jAt G A (w1 u) t) A
def jQr {S : Type} (G : jG) (post : S → Nat → Prop) (w1 : S → Nat → va_W) (A : Nat → Prop) : Array Value → State → Outcome → State → Prop := va_Qr (fun _ => True) (fun u a t => post u a ∧ jAt G A (w1 u a) t) A
def jQq {S : Type} (G : jG) (post : Option Nat → S → Prop) (w1 : S → va_W) (A : Nat → Prop) : Array Value → State → Outcome → State → Prop := va_Qq post (fun u t => jAt G A (w1 u) t) A
/-- a method's contract: from the cells wc to the cells w1 -/
def jMet (l : Launch) (y : MethodName) (ws : List Cond) (rm : Room) (G : jG) (wc : va_W) (av : List Value) (Qc : (Nat → Prop) → Array Value → State → Outcome → State → Prop) (mc ms : Nat) : Prop :=
  ∀ sz : Nat, Met l y ws rm (jPre G wc sz av) (Qc (va_A wc sz)) mc ms (va_A wc sz)
theorem jPre_blind {G : jG} {wc : va_W} {sz : Nat} {av : List Value} : FrameBlind (jPre G wc sz av) := fun a U g mk q => by
  obtain ⟨q0, q1, qP, qK, qD, qN⟩ := q
  exact ⟨q0, q1, qP, va_K.moved (u := U) (U := U.calling g mk a) (Vm.Alike.refl U.vm) qK, qD, jN_same (u := U) (U := U.calling g mk a) rfl qN⟩
/-- to enter a method -/
theorem j_enter {l : Launch} {y : MethodName} {ws ws' : List Cond} {rm : Room} {G : jG} {wc : va_W} {av : List Value} {lv : List (Nat × Value)} {Qc : (Nat → Prop) → Array Value → State → Outcome → State → Prop} {mc ms nL : Nat} {ret : Option FieldType} {cc : ByteArray} {nm own : String}
    (hy : plainName y.cls = true) (hw : ws = Cond.code y cc nL ret :: ws') (hnL : (lg_sl av).length ≤ nL) (hlv : lv_args 0 av = lv) (hnm : y.name = nm) (how : y.cls = own)
    (body : ∀ (A : Nat → Prop) (p : Program) (e : Env) (s : State) (m : MethodId) (below : List Frame) (meth : Method) (c : Code) (ls : Array Slot), jC p s m av.toArray meth c cc own ws nL ret nm → jI G A s wc s.heap [] → lv_has ls nL lv → W p l e rm s m av.toArray below meth c s.heap [] 0 0 (MQ below (Qc A) av.toArray s mc ms A) (F0 m 0 ls [])) :
    jMet l y ws rm G wc av Qc mc ms := by
  intro sz
  refine Met.ofW (cc := cc) (maxL := nL) (ret := ret) hy hw ?_
  intro p e s m args below meth c s₁ B hml hv
  obtain ⟨rfl, hsz, hP, hK, hD0, hN⟩ := hv
  subst hsz
  have hl := lv_entry av (n := nL) hnL
  rw [hlv] at hl
  rw [lg_entry_eq]
  subst hnm
  subst how
  exact body (va_A wc s.heap.size) p e s m below meth c _ ⟨B.exec, B.bytes, hml, findClass_of_methodNamed B.named, atoms_spec (ws := ws) B.pre, B.returns, B.notSynchronized, (name_of_methodNamed B.named B.method).1⟩ ⟨hK, hP, hD0.self, va_S.rf, fun q h => Or.inr h, hN⟩ hl

/-- what a return gives: the end of the method, as its caller wants it -/
def jRi {S : Type} (p : Program) (l : Launch) (e : Env) (R : Room) (s : State) (m : MethodId) (args : Array Value) (below : List Frame) (meth : Method) (c : Code) (Q : State → Prop) (G : jG) (A : Nat → Prop) (cc : ByteArray) (mc ms : Nat) (post : Int32 → S → Prop) (w1 : S → va_W) : Prop :=
  ∀ (H : Heap) (locs : List Loc) (pc : Nat) (ls : Array Slot) (v : Int32) (u : S), decode cc pc = .ok (.ireturn, 1) → jI G A s (w1 u) H locs → post v u → W p l e R s m args below meth c H locs mc ms Q (F0 m pc ls [.int v])
def jRz {S : Type} (p : Program) (l : Launch) (e : Env) (R : Room) (s : State) (m : MethodId) (args : Array Value) (below : List Frame) (meth : Method) (c : Code) (Q : State → Prop) (G : jG) (A : Nat → Prop) (cc : ByteArray) (mc ms : Nat) (post : Int32 → S → Prop) (w1 : S → va_W) : Prop :=
  ∀ (H : Heap) (locs : List Loc) (pc : Nat) (ls : Array Slot) (v : Int32) (u : S), decode cc pc = .ok (.ireturn, 1) → narrow .boolean (.int v) = .int v → jI G A s (w1 u) H locs → post v u → W p l e R s m args below meth c H locs mc ms Q (F0 m pc ls [.int v])
def jRv {S : Type} (p : Program) (l : Launch) (e : Env) (R : Room) (s : State) (m : MethodId) (args : Array Value) (below : List Frame) (meth : Method) (c : Code) (Q : State → Prop) (G : jG) (A : Nat → Prop) (cc : ByteArray) (mc ms : Nat) (post : S → Prop) (w1 : S → va_W) : Prop :=
  ∀ (H : Heap) (locs : List Loc) (pc : Nat) (ls : Array Slot) (u : S), decode cc pc = .ok (.return_, 1) → jI G A s (w1 u) H locs → post u → W p l e R s m args below meth c H locs mc ms Q (F0 m pc ls [])
theorem j_enter_i {S : Type} {post : Int32 → S → Prop} {w1 : S → va_W} {l : Launch} {y : MethodName} {ws ws' : List Cond} {rm : Room} {G : jG} {wc : va_W} {av : List Value} {lv : List (Nat × Value)} {mc ms nL : Nat} {cc : ByteArray} {nm own : String}
    (hy : plainName y.cls = true) (hw : ws = Cond.code y cc nL (some .int) :: ws') (hnL : (lg_sl av).length ≤ nL) (hlv : lv_args 0 av = lv) (hnm : y.name = nm) (how : y.cls = own)
    (body : ∀ (A : Nat → Prop) (p : Program) (e : Env) (s : State) (m : MethodId) (args : Array Value) (below : List Frame) (meth : Method) (c : Code) (Q : State → Prop) (ls : Array Slot), jC p s m args meth c cc own ws nL (some .int) nm → jRi p l e rm s m args below meth c Q G A cc mc ms post w1 → jI G A s wc s.heap [] → lv_has ls nL lv → W p l e rm s m args below meth c s.heap [] 0 0 Q (F0 m 0 ls [])) :
    jMet l y ws rm G wc av (jQi G post w1) mc ms :=
  j_enter hy hw hnL hlv hnm how (fun A p e s m below meth c ls hC hI hl => body A p e s m _ below meth c _ ls hC (fun H locs pc ls v u hdg hI hp => by
    obtain ⟨hK, hP, hD, hS, -, -⟩ := hI
    exact W.iret hC.1 hC.2.1 hC.2.2.2.2.2.1 (fun t ht hW => ⟨⟨v, u, rfl, hp, by rw [ht]; exact hP, va_K.moved hW.alike hK, hD⟩, hS.F ht⟩) hS.2.2 hdg hC.2.2.2.2.2.2.1) hI hl)
theorem j_enter_z {S : Type} {post : Int32 → S → Prop} {w1 : S → va_W} {l : Launch} {y : MethodName} {ws ws' : List Cond} {rm : Room} {G : jG} {wc : va_W} {av : List Value} {lv : List (Nat × Value)} {mc ms nL : Nat} {cc : ByteArray} {nm own : String}
    (hy : plainName y.cls = true) (hw : ws = Cond.code y cc nL (some .boolean) :: ws') (hnL : (lg_sl av).length ≤ nL) (hlv : lv_args 0 av = lv) (hnm : y.name = nm) (how : y.cls = own)
    (body : ∀ (A : Nat → Prop) (p : Program) (e : Env) (s : State) (m : MethodId) (args : Array Value) (below : List Frame) (meth : Method) (c : Code) (Q : State → Prop) (ls : Array Slot), jC p s m args meth c cc own ws nL (some .boolean) nm → jRz p l e rm s m args below meth c Q G A cc mc ms post w1 → jI G A s wc s.heap [] → lv_has ls nL lv → W p l e rm s m args below meth c s.heap [] 0 0 Q (F0 m 0 ls [])) :
    jMet l y ws rm G wc av (jQi G post w1) mc ms :=
  j_enter hy hw hnL hlv hnm how (fun A p e s m below meth c ls hC hI hl => body A p e s m _ below meth c _ ls hC (fun H locs pc ls v u hdg hn hI hp => by
    obtain ⟨hK, hP, hD, hS, -, -⟩ := hI
    exact W.zret hC.1 hC.2.1 hC.2.2.2.2.2.1 hn (fun t ht hW => ⟨⟨v, u, rfl, hp, by rw [ht]; exact hP, va_K.moved hW.alike hK, hD⟩, hS.F ht⟩) hS.2.2 hdg hC.2.2.2.2.2.2.1) hI hl)
theorem j_enter_v {S : Type} {post : S → Prop} {w1 : S → va_W} {l : Launch} {y : MethodName} {ws ws' : List Cond} {rm : Room} {G : jG} {wc : va_W} {av : List Value} {lv : List (Nat × Value)} {mc ms nL : Nat} {cc : ByteArray} {nm own : String}
    (hy : plainName y.cls = true) (hw : ws = Cond.code y cc nL (none) :: ws') (hnL : (lg_sl av).length ≤ nL) (hlv : lv_args 0 av = lv) (hnm : y.name = nm) (how : y.cls = own)
    (body : ∀ (A : Nat → Prop) (p : Program) (e : Env) (s : State) (m : MethodId) (args : Array Value) (below : List Frame) (meth : Method) (c : Code) (Q : State → Prop) (ls : Array Slot), jC p s m args meth c cc own ws nL (none) nm → jRv p l e rm s m args below meth c Q G A cc mc ms post w1 → jI G A s wc s.heap [] → lv_has ls nL lv → W p l e rm s m args below meth c s.heap [] 0 0 Q (F0 m 0 ls [])) :
    jMet l y ws rm G wc av (jQv G post w1) mc ms :=
  j_enter hy hw hnL hlv hnm how (fun A p e s m below meth c ls hC hI hl => body A p e s m _ below meth c _ ls hC (fun H locs pc ls u hdg hI hp => by
    obtain ⟨hK, hP, hD, hS, -, -⟩ := hI
    exact W.vret hC.1 hC.2.1 hC.2.2.2.2.2.1 (fun t ht hW => ⟨⟨u, rfl, hp, by rw [ht]; exact hP, va_K.moved hW.alike hK, hD⟩, hS.F ht⟩) hS.2.2 hdg hC.2.2.2.2.2.2.1) hI hl)
def jRq {S : Type} (p : Program) (l : Launch) (e : Env) (R : Room) (s : State) (m : MethodId) (args : Array Value) (below : List Frame) (meth : Method) (c : Code) (Q : State → Prop) (G : jG) (A : Nat → Prop) (cc : ByteArray) (mc ms : Nat) (post : Option Nat → S → Prop) (w1 : S → va_W) : Prop :=
  ∀ (H : Heap) (locs : List Loc) (pc : Nat) (ls : Array Slot) (r : Option Nat) (u : S), decode cc pc = .ok (.areturn, 1) → jI G A s (w1 u) H locs → post r u → W p l e R s m args below meth c H locs mc ms Q (F0 m pc ls [va_rf r])
theorem j_enter_q {S : Type} {post : Option Nat → S → Prop} {w1 : S → va_W} {l : Launch} {y : MethodName} {ws ws' : List Cond} {rm : Room} {G : jG} {wc : va_W} {av : List Value} {lv : List (Nat × Value)} {mc ms nL : Nat} {cc : ByteArray} {nm own : String} {ty : FieldType}
    (hy : plainName y.cls = true) (hw : ws = Cond.code y cc nL (some (.array ty)) :: ws') (hnL : (lg_sl av).length ≤ nL) (hlv : lv_args 0 av = lv) (hnm : y.name = nm) (how : y.cls = own)
    (body : ∀ (A : Nat → Prop) (p : Program) (e : Env) (s : State) (m : MethodId) (args : Array Value) (below : List Frame) (meth : Method) (c : Code) (Q : State → Prop) (ls : Array Slot), jC p s m args meth c cc own ws nL (some (.array ty)) nm → jRq p l e rm s m args below meth c Q G A cc mc ms post w1 → jI G A s wc s.heap [] → lv_has ls nL lv → W p l e rm s m args below meth c s.heap [] 0 0 Q (F0 m 0 ls [])) :
    jMet l y ws rm G wc av (jQq G post w1) mc ms :=
  j_enter hy hw hnL hlv hnm how (fun A p e s m below meth c ls hC hI hl => body A p e s m _ below meth c _ ls hC (fun H locs pc ls r u hdg hI hp => by
    obtain ⟨hK, hP, hD, hS, -, -⟩ := hI
    exact W.aret hC.1 hC.2.1 hC.2.2.2.2.2.1 (Or.inr ⟨_, rfl⟩) (va_rf_or r) (fun t ht hW => ⟨⟨r, u, rfl, hp, by rw [ht]; exact hP, va_K.moved hW.alike hK, hD⟩, hS.F ht⟩) hS.2.2 hdg hC.2.2.2.2.2.2.1) hI hl)
/-- cells picked out by their places -/
theorem j_pick {ws w : va_W} {is : List Nat} (hs : is.map (fun i => ws[i]?) = w.map some) : ∀ (k : Nat) (q : Nat × va_E), w[k]? = some q → ∃ i, is[k]? = some i ∧ ws[i]? = some q := by
  intro k q hk
  have h1 : (is.map (fun i => ws[i]?))[k]? = some (some q) := by rw [hs, List.getElem?_map, hk]; rfl
  rw [List.getElem?_map] at h1
  cases hi : is[k]? with
  | none => rw [hi] at h1; cases h1
  | some i => rw [hi] at h1; exact ⟨i, rfl, Option.some.inj h1⟩
theorem j_Psub {D : va_G} {cl : List vw_C} {ws w : va_W} {H : Heap} (h : va_P D cl ws H) {is : List Nat} (hs : is.map (fun i => ws[i]?) = w.map some) : va_P D cl w H := fun k q hk => by
  obtain ⟨i, -, hi⟩ := j_pick hs k q hk
  exact h i q hi
theorem jI.sub {G : jG} {A : Nat → Prop} {s : State} {ws w : va_W} {H : Heap} {locs : List Loc} (h : jI G A s ws H locs) (is : List Nat) (hn : va_nd is = true) (hs : is.map (fun i => ws[i]?) = w.map some) : jI G A s w H locs :=
  ⟨h.1, j_Psub h.2.1 hs, h.2.2.1.sub is hn hs, h.2.2.2.1, h.2.2.2.2.1, h.2.2.2.2.2⟩
theorem jI.eq {G : jG} {A : Nat → Prop} {s : State} {ws w : va_W} {H : Heap} {locs : List Loc} (h : jI G A s ws H locs) (e : ws = w) : jI G A s w H locs := e ▸ h
section JR
variable {p : Program} {l : Launch} {e : Env} {R : Room} {s : State} {m : MethodId} {args : Array Value} {below : List Frame} {meth : Method} {c : Code} {H : Heap} {locs : List Loc} {cells slots : Nat} {Q : State → Prop}
variable {cc : ByteArray} {own nm : String} {Ts : List Cond} {nL pc : Nat} {ret : Option FieldType} {ls : Array Slot} {rest : List Value} {G : jG} {A : Nat → Prop} {ws : va_W}
/-! fields -/
theorem j_get (hC : jC p s m args meth c cc own Ts nL ret nm) (hI : jI G A s ws H locs) {ref C : String} {T : u_T} {N ci index : Nat} (hin : ∀ w ∈ u_ws C T N, w ∈ Ts) {a : Nat} (q0 : Nat) {fs : List Value} (he : ws[q0]? = some (a, .inr (ci, fs))) (hc : vwCl[ci]? = some (C, T, N)) (k : Nat) (hk : k < N) (hlink : Cond.fieldLink own index ref (T k).2.1 (T k).2.2.1 ∈ Ts) (href : (T k).1 = ref) {v : Value} (hv : fs[k]? = some v) (hdg : decode cc pc = .ok (.getfield index, 3))
    (kk : W p l e R s m args below meth c H locs cells slots Q (F0 m (pc + 3) ls (v :: rest))) : W p l e R s m args below meth c H locs cells slots Q (F0 m pc ls (.ref a :: rest)) := by
  subst href
  exact va_get hC.1 hC.2.1 hC.2.2.2.2.1 hin hC.2.2.2.1 hI.1 hI.2.1 q0 he hc k hk (hC.2.2.2.2.1 _ hlink) (fun _ h => h) hv hdg kk
theorem j_getN (hC : jC p s m args meth c cc own Ts nL ret nm) (hI : jI G A s ws H locs) {ref C host : String} {T : u_T} {N ci index : Nat} (hin : ∀ w ∈ u_ws C T N, w ∈ Ts) {a : Nat} (q0 : Nat) {fs : List Value} (he : ws[q0]? = some (a, .inr (ci, fs))) (hc : vwCl[ci]? = some (C, T, N)) (k : Nat) (hk : k < N) (hlink : Cond.fieldLinkNest own index ref (T k).2.1 (T k).2.2.1 host ∈ jNest) (href : (T k).1 = ref) {v : Value} (hv : fs[k]? = some v) (hdg : decode cc pc = .ok (.getfield index, 3))
    (kk : W p l e R s m args below meth c H locs cells slots Q (F0 m (pc + 3) ls (v :: rest))) : W p l e R s m args below meth c H locs cells slots Q (F0 m pc ls (.ref a :: rest)) := by
  subst href
  exact va_getN hC.1 hC.2.1 hC.2.2.2.2.1 hin hC.2.2.2.1 hI.1 hI.2.1 q0 he hc k hk (va_Nw.use rfl (hI.2.2.2.2.2 _ hlink)) (fun _ h => h) hv hdg kk
theorem j_put (hC : jC p s m args meth c cc own Ts nL ret nm) (hI : jI G A s ws H locs) {ref C : String} {T : u_T} {N ci index : Nat} (hin : ∀ w ∈ u_ws C T N, w ∈ Ts) (ty0 : Nat → FieldType) (hty : ∀ k, k < N → parseFieldDescriptor (T k).2.2.1 = some (ty0 k)) (hnm : ∀ a, a < N → ∀ b, b < N → a ≠ b → (T a).2.1 ≠ (T b).2.1) {a : Nat} (q0 : Nat) {fs : List Value} (he : ws[q0]? = some (a, .inr (ci, fs))) (hc : vwCl[ci]? = some (C, T, N)) (k : Nat) (hk : k < N) (hlink : Cond.fieldLink own index ref (T k).2.1 (T k).2.2.1 ∈ Ts) (href : (T k).1 = ref) (hfin : (T k).2.2.2 = false) {v : Value} (hn : narrow (ty0 k) v = v) (hfit : fits (ty0 k) v = true) (hl : k < fs.length) (hdg : decode cc pc = .ok (.putfield index, 3)) {w1 : va_W} (hw : ws.set q0 (a, .inr (ci, fs.set k v)) = w1)
    (kk : ∀ (H1 : Heap) (locs1 : List Loc), jI G A s w1 H1 locs1 → W p l e R s m args below meth c H1 locs1 cells slots Q (F0 m (pc + 3) ls rest)) : W p l e R s m args below meth c H locs cells slots Q (F0 m pc ls (v :: .ref a :: rest)) := by
  subst href
  subst hw
  obtain ⟨hK, hP, hD, hS, hA, hN⟩ := hI
  exact va_put hC.1 hC.2.1 hC.2.2.2.2.1 hin ty0 hty hnm hC.2.2.2.1 hK hP hD hS q0 he hc k hk (hC.2.2.2.2.1 _ hlink) (fun _ h => h) hfin (hty k hk) hn hfit hl hdg (fun H1 locs1 hP hD hS => kk H1 locs1 ⟨hK, hP, hD, hS, hA, hN⟩)
theorem j_putF (hC : jC p s m args meth c cc own Ts nL ret "<init>") (hI : jI G A s ws H locs) {C : String} {T : u_T} {N ci index : Nat} (hin : ∀ w ∈ u_ws C T N, w ∈ Ts) (ty0 : Nat → FieldType) (hty : ∀ k, k < N → parseFieldDescriptor (T k).2.2.1 = some (ty0 k)) (hnm : ∀ a, a < N → ∀ b, b < N → a ≠ b → (T a).2.1 ≠ (T b).2.1) {a : Nat} (q0 : Nat) {fs : List Value} (he : ws[q0]? = some (a, .inr (ci, fs))) (hc : vwCl[ci]? = some (C, T, N)) (k : Nat) (hk : k < N) (hlink : Cond.fieldLink own index (T k).1 (T k).2.1 (T k).2.2.1 ∈ Ts) (href : (T k).1 = own) (hfin : (T k).2.2.2 = true) {v : Value} (hn : narrow (ty0 k) v = v) (hfit : fits (ty0 k) v = true) (hl : k < fs.length) (hdg : decode cc pc = .ok (.putfield index, 3)) {w1 : va_W} (hw : ws.set q0 (a, .inr (ci, fs.set k v)) = w1)
    (kk : ∀ (H1 : Heap) (locs1 : List Loc), jI G A s w1 H1 locs1 → W p l e R s m args below meth c H1 locs1 cells slots Q (F0 m (pc + 3) ls rest)) : W p l e R s m args below meth c H locs cells slots Q (F0 m pc ls (v :: .ref a :: rest)) := by
  subst hw
  obtain ⟨hK, hP, hD, hS, hA, hN⟩ := hI
  exact va_putF hC.1 hC.2.1 hC.2.2.2.2.1 hin ty0 hty hnm hC.2.2.2.1 hK hP hD hS q0 he hc k hk (hC.2.2.2.2.1 _ hlink) (fun _ h => h) hfin hC.2.2.2.2.2.2.2 href (hty k hk) hn hfit hl hdg (fun H1 locs1 hP hD hS => kk H1 locs1 ⟨hK, hP, hD, hS, hA, hN⟩)
/-! int arrays -/
theorem j_iald (hC : jC p s m args meth c cc own Ts nL ret nm) (hI : jI G A s ws H locs) (q0 : Nat) {a n i : Nat} {g : Nat → Nat} (ha : ws[q0]? = some (aI G a n g)) (hi : i < n) (hn : n < 2147483648) (hdg : decode cc pc = .ok (.iaload, 1))
    (kk : W p l e R s m args below meth c H locs cells slots Q (F0 m (pc + 1) ls (.int (nI (g i)) :: rest))) : W p l e R s m args below meth c H locs cells slots Q (F0 m pc ls (.int (nI i) :: .ref a :: rest)) := by
  refine va_iald hC.1 hC.2.1 hI.1 hI.2.1 q0 0 ha rfl (vp_in_nI hi (by omega)) hdg ?_
  rw [nI_clamp (by omega)]
  exact kk
theorem j_iast (hC : jC p s m args meth c cc own Ts nL ret nm) (hI : jI G A s ws H locs) (q0 : Nat) {a n i x : Nat} {g : Nat → Nat} (ha : ws[q0]? = some (aI G a n g)) (hi : i < n) (hn : n < 2147483648) (hdg : decode cc pc = .ok (.iastore, 1)) {w1 : va_W} (hw : ws.set q0 (aI G a n (up g i x)) = w1)
    (kk : ∀ (H1 : Heap) (locs1 : List Loc), jI G A s w1 H1 locs1 → W p l e R s m args below meth c H1 locs1 cells slots Q (F0 m (pc + 1) ls rest)) : W p l e R s m args below meth c H locs cells slots Q (F0 m pc ls (.int (nI x) :: .int (nI i) :: .ref a :: rest)) := by
  subst hw
  obtain ⟨hK, hP, hD, hS, hA, hN⟩ := hI
  refine va_iast hC.1 hC.2.1 hK hP hD hS q0 0 ha rfl (vp_in_nI hi (by omega)) hdg (fun H1 locs1 hP hD hS => ?_)
  rw [nI_clamp (by omega), nr_up] at hP hD
  exact kk H1 locs1 ⟨hK, hP, hD, hS, hA, hN⟩
theorem j_alen (hC : jC p s m args meth c cc own Ts nL ret nm) (hI : jI G A s ws H locs) (q0 : Nat) {a n : Nat} {g : Nat → Nat} (ha : ws[q0]? = some (aI G a n g)) (hdg : decode cc pc = .ok (.arraylength, 1))
    (kk : W p l e R s m args below meth c H locs cells slots Q (F0 m (pc + 1) ls (.int (nI n) :: rest))) : W p l e R s m args below meth c H locs cells slots Q (F0 m pc ls (.ref a :: rest)) :=
  va_alen hC.1 hC.2.1 hI.1 hI.2.1 q0 0 ha rfl (v := nI n) rfl hdg kk
/-! calls -/
theorem j_preV {wc : va_W} {C : String} {T : u_T} {N ci q0 b : Nat} {fs : List Value} {As : List Value} (hI : jI G A s ws H locs) (isC : List Nat) (hc : isC.map (fun i => ws[i]?) = wc.map some) (hnd : va_nd isC = true) (hcl : vwCl[ci]? = some (C, T, N)) (hq : wc[q0]? = some (b, .inr (ci, fs))) : PreV s H C b (jPre G wc H.size (.ref b :: As)) As :=
  ⟨jPre_blind, va_recv hI.1 (j_Psub hI.2.1 hc) hcl hq, fun U hU hW => ⟨rfl, by rw [hU], by rw [hU]; exact j_Psub hI.2.1 hc, va_K.moved hW.alike hI.1, (hI.2.2.1.sub isC hnd hc).weaken (fun _ _ _ _ => trivial), jN_warm hW hI.2.2.2.2.2⟩⟩
theorem j_preS {wc : va_W} {As : List Value} (hI : jI G A s ws H locs) (isC : List Nat) (hc : isC.map (fun i => ws[i]?) = wc.map some) (hnd : va_nd isC = true) : PreS s H (jPre G wc H.size As) As :=
  ⟨jPre_blind, fun U hU hW => ⟨rfl, by rw [hU], by rw [hU]; exact j_Psub hI.2.1 hc, va_K.moved hW.alike hI.1, (hI.2.2.1.sub isC hnd hc).weaken (fun _ _ _ _ => trivial), jN_warm hW hI.2.2.2.2.2⟩⟩
theorem j_back {wc wr w1 : va_W} {t : State} {H1 : Heap} {locs1 : List Loc} (hI : jI G A s ws H locs) (isC isR : List Nat) (hc : isC.map (fun i => ws[i]?) = wc.map some) (hr : isR.map (fun i => ws[i]?) = wr.map some) (hn : va_nd isR = true) (hdis : isR.all (fun i => !isC.contains i) = true) (ht : t.heap = H1) (hat : jAt G (va_A wc H.size) w1 t) (hk1 : ∀ q : Nat, q < H.size → ¬ va_A wc H.size q → H1[q]? = H[q]?) (hS : va_S A s.heap H1 locs1) : jI G A s (wr ++ w1) H1 locs1 := by
  obtain ⟨hP1, hK1, hD1⟩ := hat
  rw [ht] at hP1
  have hF := va_free (wc := wc) hI.2.2.1 hI.2.2.2.1 hI.2.2.2.2.1 isC hc
  obtain ⟨hP, hD⟩ := va_join hI.2.1 hI.2.2.1 isC isR hc hr hn (fun i hi h => by have h2 := List.all_eq_true.mp hdis i hi; simp [h] at h2) hk1 hF hP1 hD1
  exact ⟨hI.1, hP, hD, hS, hI.2.2.2.2.1, hI.2.2.2.2.2⟩
theorem j_callVi {S : Type} {post : Int32 → S → Prop} {w1 : S → va_W} {wc wr : va_W} {C : String} {T : u_T} {N ci q0 b index maxL n mc ms : Nat} {fs As st0 : List Value} {y : MethodName} {bytes : ByteArray} {rt : Option FieldType} {wsy : List Cond} {rm : Room} (hC : jC p s m args meth c cc own Ts nL ret nm) (hI : jI G A s ws H locs) (hM : jMet l y wsy rm G wc (.ref b :: As) (jQi G post w1) mc ms) (cw : CallW R s args own C index y bytes maxL rt wsy rm mc ms n)
    (isC isR : List Nat) (hc : isC.map (fun i => ws[i]?) = wc.map some) (hr : isR.map (fun i => ws[i]?) = wr.map some) (hnc : va_nd isC = true) (hnr : va_nd isR = true) (hdis : isR.all (fun i => !isC.contains i) = true) (hcl : vwCl[ci]? = some (C, T, N)) (hq : wc[q0]? = some (b, .inr (ci, fs)))
    (hst : st0 = As.reverse ++ .ref b :: rest) (hn : As.length = n) (hsize : ls.size = nL) (hW : (rest.map fun v => v.category).sum ≤ 8) (hdg : decode cc pc = .ok (.invokevirtual index, 3)) (hf : cells + mc ≤ R.cells ∧ slots + ms ≤ R.slots)
    (kk : ∀ (r : Int32) (u : S) (H1 : Heap) (locs1 : List Loc), post r u → jI G A s (wr ++ w1 u) H1 locs1 → W p l e R s m args below meth c H1 locs1 (cells + mc) (slots + ms) Q (F0 m (pc + 3) ls (.int r :: rest))) : W p l e R s m args below meth c H locs cells slots Q (F0 m pc ls st0) := by
  have hFc := va_free (wc := wc) hI.2.2.1 hI.2.2.2.1 hI.2.2.2.2.1 isC hc
  exact va_calli (va_runV (As := As) (rest := rest) hC.fix (hM H.size) cw (j_preV hI isC hc hnc hcl hq) rfl hn hsize hst (lv_room hW) hdg hf) hI.2.2.2.1 (fun q _ h => hFc q h) hFc (fun r u t H1 locs1 ht hvm hw hB hz1 hk1 hS => kk r u H1 locs1 hw (j_back hI isC isR hc hr hnr hdis ht hB hk1 hS))
theorem j_callVv {S : Type} {post : S → Prop} {w1 : S → va_W} {wc wr : va_W} {C : String} {T : u_T} {N ci q0 b index maxL n mc ms : Nat} {fs As st0 : List Value} {y : MethodName} {bytes : ByteArray} {rt : Option FieldType} {wsy : List Cond} {rm : Room} (hC : jC p s m args meth c cc own Ts nL ret nm) (hI : jI G A s ws H locs) (hM : jMet l y wsy rm G wc (.ref b :: As) (jQv G post w1) mc ms) (cw : CallW R s args own C index y bytes maxL rt wsy rm mc ms n)
    (isC isR : List Nat) (hc : isC.map (fun i => ws[i]?) = wc.map some) (hr : isR.map (fun i => ws[i]?) = wr.map some) (hnc : va_nd isC = true) (hnr : va_nd isR = true) (hdis : isR.all (fun i => !isC.contains i) = true) (hcl : vwCl[ci]? = some (C, T, N)) (hq : wc[q0]? = some (b, .inr (ci, fs)))
    (hst : st0 = As.reverse ++ .ref b :: rest) (hn : As.length = n) (hsize : ls.size = nL) (hW : (rest.map fun v => v.category).sum ≤ 8) (hdg : decode cc pc = .ok (.invokevirtual index, 3)) (hf : cells + mc ≤ R.cells ∧ slots + ms ≤ R.slots)
    (kk : ∀ (u : S) (H1 : Heap) (locs1 : List Loc), post u → jI G A s (wr ++ w1 u) H1 locs1 → W p l e R s m args below meth c H1 locs1 (cells + mc) (slots + ms) Q (F0 m (pc + 3) ls rest)) : W p l e R s m args below meth c H locs cells slots Q (F0 m pc ls st0) := by
  have hFc := va_free (wc := wc) hI.2.2.1 hI.2.2.2.1 hI.2.2.2.2.1 isC hc
  exact va_callv (va_runV (As := As) (rest := rest) hC.fix (hM H.size) cw (j_preV hI isC hc hnc hcl hq) rfl hn hsize hst (lv_room hW) hdg hf) hI.2.2.2.1 (fun q _ h => hFc q h) hFc (fun u t H1 locs1 ht hvm hw hB hz1 hk1 hS => kk u H1 locs1 hw (j_back hI isC isR hc hr hnr hdis ht hB hk1 hS))
theorem j_callSNi {S : Type} {post : Int32 → S → Prop} {w1 : S → va_W} {wc wr : va_W} {host : String} {index maxL n mc ms : Nat} {As st0 : List Value} {y : MethodName} {bytes : ByteArray} {rt : Option FieldType} {wsy : List Cond} {rm : Room} (hC : jC p s m args meth c cc own Ts nL ret nm) (hI : jI G A s ws H locs) (hM : jMet l y wsy rm G wc As (jQi G post w1) mc ms) (cw : va_CN R s args own index y host bytes maxL rt wsy rm mc ms n ∧ (Cond.static y).before args s = true ∧ True)
    (isC isR : List Nat) (hc : isC.map (fun i => ws[i]?) = wc.map some) (hr : isR.map (fun i => ws[i]?) = wr.map some) (hnc : va_nd isC = true) (hnr : va_nd isR = true) (hdis : isR.all (fun i => !isC.contains i) = true)
    (hst : st0 = As.reverse ++ rest) (hn : As.length = n) (hsize : ls.size = nL) (hW : (rest.map fun v => v.category).sum ≤ 8) (hdg : decode cc pc = .ok (.invokestatic index, 3)) (hf : cells + mc ≤ R.cells ∧ slots + ms ≤ R.slots)
    (kk : ∀ (r : Int32) (u : S) (H1 : Heap) (locs1 : List Loc), post r u → jI G A s (wr ++ w1 u) H1 locs1 → W p l e R s m args below meth c H1 locs1 (cells + mc) (slots + ms) Q (F0 m (pc + 3) ls (.int r :: rest))) : W p l e R s m args below meth c H locs cells slots Q (F0 m pc ls st0) := by
  have hFc := va_free (wc := wc) hI.2.2.1 hI.2.2.2.1 hI.2.2.2.2.1 isC hc
  exact va_calli (va_runSN (As := As) (rest := rest) hC.fix (hM H.size) cw (j_preS hI isC hc hnc) rfl hn hsize hst (lv_room hW) hdg hf) hI.2.2.2.1 (fun q _ h => hFc q h) hFc (fun r u t H1 locs1 ht hvm hw hB hz1 hk1 hS => kk r u H1 locs1 hw (j_back hI isC isR hc hr hnr hdis ht hB hk1 hS))
theorem j_callSi {S : Type} {post : Int32 → S → Prop} {w1 : S → va_W} {wc wr : va_W} {index maxL n mc ms : Nat} {As st0 : List Value} {y : MethodName} {bytes : ByteArray} {rt : Option FieldType} {wsy : List Cond} {rm : Room} (hC : jC p s m args meth c cc own Ts nL ret nm) (hI : jI G A s ws H locs) (hM : jMet l y wsy rm G wc As (jQi G post w1) mc ms) (cw : CallB R s args own index y bytes maxL rt wsy rm mc ms n ∧ (Cond.static y).before args s = true)
    (isC isR : List Nat) (hc : isC.map (fun i => ws[i]?) = wc.map some) (hr : isR.map (fun i => ws[i]?) = wr.map some) (hnc : va_nd isC = true) (hnr : va_nd isR = true) (hdis : isR.all (fun i => !isC.contains i) = true)
    (hst : st0 = As.reverse ++ rest) (hn : As.length = n) (hsize : ls.size = nL) (hW : (rest.map fun v => v.category).sum ≤ 8) (hdg : decode cc pc = .ok (.invokestatic index, 3)) (hf : cells + mc ≤ R.cells ∧ slots + ms ≤ R.slots)
    (kk : ∀ (r : Int32) (u : S) (H1 : Heap) (locs1 : List Loc), post r u → jI G A s (wr ++ w1 u) H1 locs1 → W p l e R s m args below meth c H1 locs1 (cells + mc) (slots + ms) Q (F0 m (pc + 3) ls (.int r :: rest))) : W p l e R s m args below meth c H locs cells slots Q (F0 m pc ls st0) := by
  have hFc := va_free (wc := wc) hI.2.2.1 hI.2.2.2.1 hI.2.2.2.2.1 isC hc
  exact va_calli (va_runS (As := As) (rest := rest) hC.fix (hM H.size) cw (j_preS hI isC hc hnc) rfl hn hsize hst (lv_room hW) hdg hf) hI.2.2.2.1 (fun q _ h => hFc q h) hFc (fun r u t H1 locs1 ht hvm hw hB hz1 hk1 hS => kk r u H1 locs1 hw (j_back hI isC isR hc hr hnr hdis ht hB hk1 hS))
theorem j_callSv {S : Type} {post : S → Prop} {w1 : S → va_W} {wc wr : va_W} {index maxL n mc ms : Nat} {As st0 : List Value} {y : MethodName} {bytes : ByteArray} {rt : Option FieldType} {wsy : List Cond} {rm : Room} (hC : jC p s m args meth c cc own Ts nL ret nm) (hI : jI G A s ws H locs) (hM : jMet l y wsy rm G wc As (jQv G post w1) mc ms) (cw : CallB R s args own index y bytes maxL rt wsy rm mc ms n ∧ (Cond.static y).before args s = true)
    (isC isR : List Nat) (hc : isC.map (fun i => ws[i]?) = wc.map some) (hr : isR.map (fun i => ws[i]?) = wr.map some) (hnc : va_nd isC = true) (hnr : va_nd isR = true) (hdis : isR.all (fun i => !isC.contains i) = true)
    (hst : st0 = As.reverse ++ rest) (hn : As.length = n) (hsize : ls.size = nL) (hW : (rest.map fun v => v.category).sum ≤ 8) (hdg : decode cc pc = .ok (.invokestatic index, 3)) (hf : cells + mc ≤ R.cells ∧ slots + ms ≤ R.slots)
    (kk : ∀ (u : S) (H1 : Heap) (locs1 : List Loc), post u → jI G A s (wr ++ w1 u) H1 locs1 → W p l e R s m args below meth c H1 locs1 (cells + mc) (slots + ms) Q (F0 m (pc + 3) ls rest)) : W p l e R s m args below meth c H locs cells slots Q (F0 m pc ls st0) := by
  have hFc := va_free (wc := wc) hI.2.2.1 hI.2.2.2.1 hI.2.2.2.2.1 isC hc
  exact va_callv (va_runS (As := As) (rest := rest) hC.fix (hM H.size) cw (j_preS hI isC hc hnc) rfl hn hsize hst (lv_room hW) hdg hf) hI.2.2.2.1 (fun q _ h => hFc q h) hFc (fun u t H1 locs1 ht hvm hw hB hz1 hk1 hS => kk u H1 locs1 hw (j_back hI isC isR hc hr hnr hdis ht hB hk1 hS))
theorem j_callI {S : Type} {post : S → Prop} {w1 : S → va_W} {wc wr : va_W} {b index maxL n mc ms : Nat} {As st0 : List Value} {y : MethodName} {bytes : ByteArray} {wsy : List Cond} {rm : Room} (hC : jC p s m args meth c cc own Ts nL ret nm) (hI : jI G A s ws H locs) (hM : jMet l y wsy rm G wc (.ref b :: As) (jQv G post w1) mc ms) (cw : CallB R s args own index y bytes maxL none wsy rm mc ms n ∧ y.name = "<init>" ∧ (Cond.instanceMethod y).before args s = true)
    (isC isR : List Nat) (hc : isC.map (fun i => ws[i]?) = wc.map some) (hr : isR.map (fun i => ws[i]?) = wr.map some) (hnc : va_nd isC = true) (hnr : va_nd isR = true) (hdis : isR.all (fun i => !isC.contains i) = true)
    (hst : st0 = As.reverse ++ .ref b :: rest) (hn : As.length = n) (hsize : ls.size = nL) (hW : (rest.map fun v => v.category).sum ≤ 8) (hdg : decode cc pc = .ok (.invokespecial index, 3)) (hf : cells + mc ≤ R.cells ∧ slots + ms ≤ R.slots)
    (kk : ∀ (u : S) (H1 : Heap) (locs1 : List Loc), post u → jI G A s (wr ++ w1 u) H1 locs1 → W p l e R s m args below meth c H1 locs1 (cells + mc) (slots + ms) Q (F0 m (pc + 3) ls rest)) : W p l e R s m args below meth c H locs cells slots Q (F0 m pc ls st0) := by
  have hFc := va_free (wc := wc) hI.2.2.1 hI.2.2.2.1 hI.2.2.2.2.1 isC hc
  exact va_callv (va_runI (As := As) (rest := rest) hC.fix (hM H.size) cw (j_preS hI isC hc hnc) rfl hn hsize hst (lv_room hW) hdg hf) hI.2.2.2.1 (fun q _ h => hFc q h) hFc (fun u t H1 locs1 ht hvm hw hB hz1 hk1 hS => kk u H1 locs1 hw (j_back hI isC isR hc hr hnr hdis ht hB hk1 hS))
theorem j_iadd (hC : jC p s m args meth c cc own Ts nL ret nm) {a b : Nat} (hdg : decode cc pc = .ok (.iadd, 1))
    (kk : W p l e R s m args below meth c H locs cells slots Q (F0 m (pc + 1) ls (.int (nI (a + b)) :: rest))) : W p l e R s m args below meth c H locs cells slots Q (F0 m pc ls (.int (nI b) :: .int (nI a) :: rest)) := lv_iadd hC.1 hC.2.1 hdg (by rw [nI_add]; exact kk)
theorem j_isub (hC : jC p s m args meth c cc own Ts nL ret nm) {a b : Nat} (hab : b ≤ a) (hdg : decode cc pc = .ok (.isub, 1))
    (kk : W p l e R s m args below meth c H locs cells slots Q (F0 m (pc + 1) ls (.int (nI (a - b)) :: rest))) : W p l e R s m args below meth c H locs cells slots Q (F0 m pc ls (.int (nI b) :: .int (nI a) :: rest)) := lv_isub hC.1 hC.2.1 hdg (by rw [pk_sub hab]; exact kk)
theorem j_imul (hC : jC p s m args meth c cc own Ts nL ret nm) {a b : Nat} (hdg : decode cc pc = .ok (.imul, 1))
    (kk : W p l e R s m args below meth c H locs cells slots Q (F0 m (pc + 1) ls (.int (nI (a * b)) :: rest))) : W p l e R s m args below meth c H locs cells slots Q (F0 m pc ls (.int (nI b) :: .int (nI a) :: rest)) := lv_imul hC.1 hC.2.1 hdg (by rw [pk_mul]; exact kk)
theorem j_idiv (hC : jC p s m args meth c cc own Ts nL ret nm) {a b : Nat} (ha : a < 2147483648) (h0 : 0 < b) (hb : b < 2147483648) (hdg : decode cc pc = .ok (.idiv, 1))
    (kk : W p l e R s m args below meth c H locs cells slots Q (F0 m (pc + 1) ls (.int (nI (a / b)) :: rest))) : W p l e R s m args below meth c H locs cells slots Q (F0 m pc ls (.int (nI b) :: .int (nI a) :: rest)) := lv_idiv hC.1 hC.2.1 hdg (nI_ne0 h0 (by omega)) (by rw [pk_div (by omega) h0 (by omega)]; exact kk)
theorem j_irem (hC : jC p s m args meth c cc own Ts nL ret nm) {a b : Nat} (ha : a < 2147483648) (h0 : 0 < b) (hb : b < 2147483648) (hdg : decode cc pc = .ok (.irem, 1))
    (kk : W p l e R s m args below meth c H locs cells slots Q (F0 m (pc + 1) ls (.int (nI (a % b)) :: rest))) : W p l e R s m args below meth c H locs cells slots Q (F0 m pc ls (.int (nI b) :: .int (nI a) :: rest)) := lv_irem hC.1 hC.2.1 hdg (nI_ne0 h0 (by omega)) (by rw [pk_rem (by omega) h0 (by omega)]; exact kk)
theorem nI_sh31 : ∀ b, b < 32 → ((nI b &&& 31).toBitVec.smod 32).toNat = b := by decide +kernel
theorem j_ishr (hC : jC p s m args meth c cc own Ts nL ret nm) {a b : Nat} (ha : a < 2147483648) (hb : b < 32) (hdg : decode cc pc = .ok (.ishr, 1))
    (kk : W p l e R s m args below meth c H locs cells slots Q (F0 m (pc + 1) ls (.int (nI (a / 2 ^ b)) :: rest))) : W p l e R s m args below meth c H locs cells slots Q (F0 m pc ls (.int (nI b) :: .int (nI a) :: rest)) := lv_ishr hC.1 hC.2.1 hdg (by rw [pk_shrN (by omega) _ b (nI_sh31 b hb)]; exact kk)
theorem j_ishl (hC : jC p s m args meth c cc own Ts nL ret nm) {a b : Nat} (hb : b < 32) (ha : a * 2 ^ b < 4294967296) (hdg : decode cc pc = .ok (.ishl, 1))
    (kk : W p l e R s m args below meth c H locs cells slots Q (F0 m (pc + 1) ls (.int (nI (a * 2 ^ b)) :: rest))) : W p l e R s m args below meth c H locs cells slots Q (F0 m pc ls (.int (nI b) :: .int (nI a) :: rest)) := lv_ishl hC.1 hC.2.1 hdg (by rw [pk_shlN _ b (nI_sh31 b hb) (by omega)]; exact kk)
theorem nI_land (a b : Nat) : nI a &&& nI b = nI (a &&& b) := by
  apply Int32.toBitVec_inj.mp
  show (nI a).toBitVec &&& (nI b).toBitVec = (nI (a &&& b)).toBitVec
  show BitVec.ofNat 32 a &&& BitVec.ofNat 32 b = BitVec.ofNat 32 (a &&& b)
  apply BitVec.eq_of_toNat_eq
  simp [BitVec.toNat_and, BitVec.toNat_ofNat, Nat.and_mod_two_pow]
theorem nI_lor (a b : Nat) : nI a ||| nI b = nI (a ||| b) := by
  apply Int32.toBitVec_inj.mp
  show BitVec.ofNat 32 a ||| BitVec.ofNat 32 b = BitVec.ofNat 32 (a ||| b)
  apply BitVec.eq_of_toNat_eq
  simp [BitVec.toNat_or, BitVec.toNat_ofNat, Nat.or_mod_two_pow]
theorem j_iand (hC : jC p s m args meth c cc own Ts nL ret nm) {a b : Nat} (hdg : decode cc pc = .ok (.iand, 1))
    (kk : W p l e R s m args below meth c H locs cells slots Q (F0 m (pc + 1) ls (.int (nI (a &&& b)) :: rest))) : W p l e R s m args below meth c H locs cells slots Q (F0 m pc ls (.int (nI b) :: .int (nI a) :: rest)) := lv_iand hC.1 hC.2.1 hdg (by rw [nI_land]; exact kk)
theorem j_ior (hC : jC p s m args meth c cc own Ts nL ret nm) {a b : Nat} (hdg : decode cc pc = .ok (.ior, 1))
    (kk : W p l e R s m args below meth c H locs cells slots Q (F0 m (pc + 1) ls (.int (nI (a ||| b)) :: rest))) : W p l e R s m args below meth c H locs cells slots Q (F0 m pc ls (.int (nI b) :: .int (nI a) :: rest)) := lv_ior hC.1 hC.2.1 hdg (by rw [nI_lor]; exact kk)
theorem j_icmp_eq (hC : jC p s m args meth c cc own Ts nL ret nm) {a b : Nat} {off : Int} {tgt : Nat} (hdg : decode cc pc = .ok (.if_icmp .eq off, 3)) (ht : (pc : Int) + off = (tgt : Int)) (ha : a < 2147483648) (hb : b < 2147483648)
    (kt : a = b → W p l e R s m args below meth c H locs cells slots Q (F0 m tgt ls rest)) (kf : a ≠ b → W p l e R s m args below meth c H locs cells slots Q (F0 m (pc + 3) ls rest)) : W p l e R s m args below meth c H locs cells slots Q (F0 m pc ls (.int (nI b) :: .int (nI a) :: rest)) :=
  lv_icmp_eq hC.1 hC.2.1 hdg ht (fun h => kt ((nI_eq (by omega) (by omega)).mp h)) (fun h => kf (fun q => h (by rw [q])))
theorem j_icmp_ne (hC : jC p s m args meth c cc own Ts nL ret nm) {a b : Nat} {off : Int} {tgt : Nat} (hdg : decode cc pc = .ok (.if_icmp .ne off, 3)) (ht : (pc : Int) + off = (tgt : Int)) (ha : a < 2147483648) (hb : b < 2147483648)
    (kt : a ≠ b → W p l e R s m args below meth c H locs cells slots Q (F0 m tgt ls rest)) (kf : a = b → W p l e R s m args below meth c H locs cells slots Q (F0 m (pc + 3) ls rest)) : W p l e R s m args below meth c H locs cells slots Q (F0 m pc ls (.int (nI b) :: .int (nI a) :: rest)) :=
  lv_icmp_ne hC.1 hC.2.1 hdg ht (fun h => kt (fun q => h (by rw [q]))) (fun h => kf ((nI_eq (by omega) (by omega)).mp h))
theorem j_icmp_lt (hC : jC p s m args meth c cc own Ts nL ret nm) {a b : Nat} {off : Int} {tgt : Nat} (hdg : decode cc pc = .ok (.if_icmp .lt off, 3)) (ht : (pc : Int) + off = (tgt : Int)) (ha : a < 2147483648) (hb : b < 2147483648)
    (kt : a < b → W p l e R s m args below meth c H locs cells slots Q (F0 m tgt ls rest)) (kf : b ≤ a → W p l e R s m args below meth c H locs cells slots Q (F0 m (pc + 3) ls rest)) : W p l e R s m args below meth c H locs cells slots Q (F0 m pc ls (.int (nI b) :: .int (nI a) :: rest)) :=
  lv_icmp_lt hC.1 hC.2.1 hdg ht (fun h => kt ((nI_ltI (by omega) (by omega)).mp h)) (fun h => kf (Nat.le_of_not_lt (fun q => h ((nI_ltI (by omega) (by omega)).mpr q))))
theorem j_icmp_ge (hC : jC p s m args meth c cc own Ts nL ret nm) {a b : Nat} {off : Int} {tgt : Nat} (hdg : decode cc pc = .ok (.if_icmp .ge off, 3)) (ht : (pc : Int) + off = (tgt : Int)) (ha : a < 2147483648) (hb : b < 2147483648)
    (kt : b ≤ a → W p l e R s m args below meth c H locs cells slots Q (F0 m tgt ls rest)) (kf : a < b → W p l e R s m args below meth c H locs cells slots Q (F0 m (pc + 3) ls rest)) : W p l e R s m args below meth c H locs cells slots Q (F0 m pc ls (.int (nI b) :: .int (nI a) :: rest)) :=
  lv_icmp_ge hC.1 hC.2.1 hdg ht (fun h => kt ((nI_leI (by omega) (by omega)).mp h)) (fun h => kf (Nat.lt_of_not_le (fun q => h ((nI_leI (by omega) (by omega)).mpr q))))
theorem j_icmp_gt (hC : jC p s m args meth c cc own Ts nL ret nm) {a b : Nat} {off : Int} {tgt : Nat} (hdg : decode cc pc = .ok (.if_icmp .gt off, 3)) (ht : (pc : Int) + off = (tgt : Int)) (ha : a < 2147483648) (hb : b < 2147483648)
    (kt : b < a → W p l e R s m args below meth c H locs cells slots Q (F0 m tgt ls rest)) (kf : a ≤ b → W p l e R s m args below meth c H locs cells slots Q (F0 m (pc + 3) ls rest)) : W p l e R s m args below meth c H locs cells slots Q (F0 m pc ls (.int (nI b) :: .int (nI a) :: rest)) :=
  lv_icmp_gt hC.1 hC.2.1 hdg ht (fun h => kt ((nI_ltI (by omega) (by omega)).mp h)) (fun h => kf (Nat.le_of_not_lt (fun q => h ((nI_ltI (by omega) (by omega)).mpr q))))
theorem j_icmp_le (hC : jC p s m args meth c cc own Ts nL ret nm) {a b : Nat} {off : Int} {tgt : Nat} (hdg : decode cc pc = .ok (.if_icmp .le off, 3)) (ht : (pc : Int) + off = (tgt : Int)) (ha : a < 2147483648) (hb : b < 2147483648)
    (kt : a ≤ b → W p l e R s m args below meth c H locs cells slots Q (F0 m tgt ls rest)) (kf : b < a → W p l e R s m args below meth c H locs cells slots Q (F0 m (pc + 3) ls rest)) : W p l e R s m args below meth c H locs cells slots Q (F0 m pc ls (.int (nI b) :: .int (nI a) :: rest)) :=
  lv_icmp_le hC.1 hC.2.1 hdg ht (fun h => kt ((nI_leI (by omega) (by omega)).mp h)) (fun h => kf (Nat.lt_of_not_le (fun q => h ((nI_leI (by omega) (by omega)).mpr q))))
theorem nI_lt0 {a : Nat} (h : a < 2147483648) : ¬ nI a < 0 := nI_pos (by omega)
theorem nI_eq0 {a : Nat} (h : a < 2147483648) : nI a = 0 ↔ a = 0 := ⟨fun q => by
  rcases Nat.eq_zero_or_pos a with z | z
  · exact z
  · exact absurd q (nI_ne0 z (by omega)), fun q => by rw [q]; exact nI_0⟩
theorem nI_le0 {a : Nat} (h : a < 2147483648) : nI a ≤ 0 ↔ a = 0 := ⟨fun q => by
  rcases Nat.eq_zero_or_pos a with z | z
  · exact z
  · exact absurd q (nI_nle z (by omega)), fun q => by rw [q]; decide⟩
theorem nI_gt0 {a : Nat} (h : a < 2147483648) : 0 < nI a ↔ 0 < a := ⟨fun q => by
  rcases Nat.eq_zero_or_pos a with z | z
  · rw [z] at q; exact absurd q (by decide)
  · exact z, fun q => by
  have := nI_nle q (by omega)
  exact Int32.not_le.mp this⟩
theorem nI_ge0 {a : Nat} (h : a < 2147483648) : 0 ≤ nI a := nI_pos' (by omega)
theorem j_if_eq (hC : jC p s m args meth c cc own Ts nL ret nm) {a : Nat} {off : Int} {tgt : Nat} (hdg : decode cc pc = .ok (.ifCond .eq off, 3)) (ht : (pc : Int) + off = (tgt : Int)) (ha : a < 2147483648)
    (kt : a = 0 → W p l e R s m args below meth c H locs cells slots Q (F0 m tgt ls rest)) (kf : a ≠ 0 → W p l e R s m args below meth c H locs cells slots Q (F0 m (pc + 3) ls rest)) : W p l e R s m args below meth c H locs cells slots Q (F0 m pc ls (.int (nI a) :: rest)) :=
  lv_if_eq hC.1 hC.2.1 hdg ht (fun h => kt ((nI_eq0 ha).mp h)) (fun h => kf (fun q => h ((nI_eq0 ha).mpr q)))
theorem j_if_ne (hC : jC p s m args meth c cc own Ts nL ret nm) {a : Nat} {off : Int} {tgt : Nat} (hdg : decode cc pc = .ok (.ifCond .ne off, 3)) (ht : (pc : Int) + off = (tgt : Int)) (ha : a < 2147483648)
    (kt : a ≠ 0 → W p l e R s m args below meth c H locs cells slots Q (F0 m tgt ls rest)) (kf : a = 0 → W p l e R s m args below meth c H locs cells slots Q (F0 m (pc + 3) ls rest)) : W p l e R s m args below meth c H locs cells slots Q (F0 m pc ls (.int (nI a) :: rest)) :=
  lv_if_ne hC.1 hC.2.1 hdg ht (fun h => kt (fun q => h ((nI_eq0 ha).mpr q))) (fun h => kf ((nI_eq0 ha).mp h))
theorem j_if_gt (hC : jC p s m args meth c cc own Ts nL ret nm) {a : Nat} {off : Int} {tgt : Nat} (hdg : decode cc pc = .ok (.ifCond .gt off, 3)) (ht : (pc : Int) + off = (tgt : Int)) (ha : a < 2147483648)
    (kt : 0 < a → W p l e R s m args below meth c H locs cells slots Q (F0 m tgt ls rest)) (kf : a = 0 → W p l e R s m args below meth c H locs cells slots Q (F0 m (pc + 3) ls rest)) : W p l e R s m args below meth c H locs cells slots Q (F0 m pc ls (.int (nI a) :: rest)) :=
  lv_if_gt hC.1 hC.2.1 hdg ht (fun h => kt ((nI_gt0 ha).mp h)) (fun h => kf (by rcases Nat.eq_zero_or_pos a with z | z; exact z; exact absurd ((nI_gt0 ha).mpr z) h))
theorem j_if_le (hC : jC p s m args meth c cc own Ts nL ret nm) {a : Nat} {off : Int} {tgt : Nat} (hdg : decode cc pc = .ok (.ifCond .le off, 3)) (ht : (pc : Int) + off = (tgt : Int)) (ha : a < 2147483648)
    (kt : a = 0 → W p l e R s m args below meth c H locs cells slots Q (F0 m tgt ls rest)) (kf : 0 < a → W p l e R s m args below meth c H locs cells slots Q (F0 m (pc + 3) ls rest)) : W p l e R s m args below meth c H locs cells slots Q (F0 m pc ls (.int (nI a) :: rest)) :=
  lv_if_le hC.1 hC.2.1 hdg ht (fun h => kt ((nI_le0 ha).mp h)) (fun h => kf (by rcases Nat.eq_zero_or_pos a with z | z; exact absurd ((nI_le0 ha).mpr z) h; exact z))
theorem j_if_lt (hC : jC p s m args meth c cc own Ts nL ret nm) {a : Nat} {off : Int} {tgt : Nat} (hdg : decode cc pc = .ok (.ifCond .lt off, 3)) (ht : (pc : Int) + off = (tgt : Int)) (ha : a < 2147483648)
    (kf : W p l e R s m args below meth c H locs cells slots Q (F0 m (pc + 3) ls rest)) : W p l e R s m args below meth c H locs cells slots Q (F0 m pc ls (.int (nI a) :: rest)) :=
  lv_if_lt hC.1 hC.2.1 hdg ht (fun h => absurd h (nI_lt0 ha)) (fun _ => kf)
theorem j_if_ge (hC : jC p s m args meth c cc own Ts nL ret nm) {a : Nat} {off : Int} {tgt : Nat} (hdg : decode cc pc = .ok (.ifCond .ge off, 3)) (ht : (pc : Int) + off = (tgt : Int)) (ha : a < 2147483648)
    (kt : W p l e R s m args below meth c H locs cells slots Q (F0 m tgt ls rest)) : W p l e R s m args below meth c H locs cells slots Q (F0 m pc ls (.int (nI a) :: rest)) :=
  lv_if_ge hC.1 hC.2.1 hdg ht (fun _ => kt) (fun h => absurd (nI_ge0 ha) h)
/-! a number that may be one below 0 -/
def mI (j : Nat) : Int32 := nI j - 1
theorem mI_s (j : Nat) : mI (j + 1) = nI j := nI_pred j
theorem mI_lt {j : Nat} (h : j ≤ 2147483648) : mI j < 0 ↔ j = 0 := by
  cases j with
  | zero => exact ⟨fun _ => rfl, fun _ => by decide⟩
  | succ j => rw [mI_s]; exact ⟨fun q => absurd q (nI_lt0 (by omega)), fun q => by omega⟩
theorem j_inc (e : Nat) (c : Int) (k : Nat) (h : Int32.ofInt c = nI k) : nI e + Int32.ofInt c = nI (e + k) := by rw [h, nI_add]
theorem j_dec (e : Nat) : nI e + Int32.ofInt (-1) = mI e := by
  show nI e + Int32.ofInt (-1) = nI e - 1
  rw [Int32.sub_eq_add_neg]; rfl
theorem j_isub1 (hC : jC p s m args meth c cc own Ts nL ret nm) {a : Nat} (hdg : decode cc pc = .ok (.isub, 1))
    (kk : W p l e R s m args below meth c H locs cells slots Q (F0 m (pc + 1) ls (.int (mI a) :: rest))) : W p l e R s m args below meth c H locs cells slots Q (F0 m pc ls (.int (nI 1) :: .int (nI a) :: rest)) := lv_isub hC.1 hC.2.1 hdg kk
theorem j_ifM_lt (hC : jC p s m args meth c cc own Ts nL ret nm) {a : Nat} {off : Int} {tgt : Nat} (hdg : decode cc pc = .ok (.ifCond .lt off, 3)) (ht : (pc : Int) + off = (tgt : Int)) (ha : a ≤ 2147483648)
    (kt : a = 0 → W p l e R s m args below meth c H locs cells slots Q (F0 m tgt ls rest)) (kf : 0 < a → W p l e R s m args below meth c H locs cells slots Q (F0 m (pc + 3) ls rest)) : W p l e R s m args below meth c H locs cells slots Q (F0 m pc ls (.int (mI a) :: rest)) :=
  lv_if_lt hC.1 hC.2.1 hdg ht (fun h => kt ((mI_lt ha).mp h)) (fun h => kf (Nat.pos_of_ne_zero (fun q => h ((mI_lt ha).mpr q))))
theorem j_ifM_ge (hC : jC p s m args meth c cc own Ts nL ret nm) {a : Nat} {off : Int} {tgt : Nat} (hdg : decode cc pc = .ok (.ifCond .ge off, 3)) (ht : (pc : Int) + off = (tgt : Int)) (ha : a ≤ 2147483648)
    (kt : 0 < a → W p l e R s m args below meth c H locs cells slots Q (F0 m tgt ls rest)) (kf : a = 0 → W p l e R s m args below meth c H locs cells slots Q (F0 m (pc + 3) ls rest)) : W p l e R s m args below meth c H locs cells slots Q (F0 m pc ls (.int (mI a) :: rest)) :=
  lv_if_ge hC.1 hC.2.1 hdg ht (fun h => kt (Nat.pos_of_ne_zero (fun q => absurd ((mI_lt ha).mpr q) (Int32.not_lt.mpr h)))) (fun h => kf ((mI_lt ha).mp (Int32.not_le.mp h)))
/-! the lowest byte of any number -/
def by8 (x : Int32) : Nat := x.toBitVec.toNat % 256
theorem by8_lt (x : Int32) : by8 x < 256 := Nat.mod_lt _ (by decide)
theorem by8_nI {a : Nat} (h : a < 4294967296) : by8 (nI a) = a % 256 := by rw [by8, pk_tn (by omega)]
theorem j_and255 (hC : jC p s m args meth c cc own Ts nL ret nm) {x : Int32} (hdg : decode cc pc = .ok (.iand, 1))
    (kk : W p l e R s m args below meth c H locs cells slots Q (F0 m (pc + 1) ls (.int (nI (by8 x)) :: rest))) : W p l e R s m args below meth c H locs cells slots Q (F0 m pc ls (.int (nI 255) :: .int x :: rest)) :=
  lv_iand hC.1 hC.2.1 hdg (by rw [pk_and x 8 (by decide)]; exact kk)
theorem j_and1 (hC : jC p s m args meth c cc own Ts nL ret nm) {a : Nat} (hdg : decode cc pc = .ok (.iand, 1))
    (kk : W p l e R s m args below meth c H locs cells slots Q (F0 m (pc + 1) ls (.int (nI (a % 2)) :: rest))) : W p l e R s m args below meth c H locs cells slots Q (F0 m pc ls (.int (nI 1) :: .int (nI a) :: rest)) :=
  lv_iand hC.1 hC.2.1 hdg (by rw [nI_land, show a &&& 1 = a % 2 from Nat.and_one_is_mod a]; exact kk)
/-! any number against a natural one -/
theorem jz_of {x : Int32} {b : Nat} (hb : b < 2147483648) (h : nI b ≤ x) : ∃ j, b ≤ j ∧ j < 2147483648 ∧ x = nI j := by
  have h1 : (b : Int) ≤ x.toInt := by have := Int32.le_iff_toInt_le.mp h; rwa [nI_toInt (by omega)] at this
  obtain ⟨j, h2, rfl⟩ := nI_of (x := x) (Int32.not_lt.mpr (by rw [Int32.le_iff_toInt_le]; show (0 : Int) ≤ _; omega))
  rw [nI_toInt (by omega)] at h1
  exact ⟨j, by omega, by omega, rfl⟩
theorem jz_icmp_lt (hC : jC p s m args meth c cc own Ts nL ret nm) {x : Int32} {b : Nat} {off : Int} {tgt : Nat} (hdg : decode cc pc = .ok (.if_icmp .lt off, 3)) (ht : (pc : Int) + off = (tgt : Int)) (hb : b < 2147483648)
    (kt : x < nI b → W p l e R s m args below meth c H locs cells slots Q (F0 m tgt ls rest)) (kf : ∀ j, b ≤ j → j < 2147483648 → x = nI j → W p l e R s m args below meth c H locs cells slots Q (F0 m (pc + 3) ls rest)) : W p l e R s m args below meth c H locs cells slots Q (F0 m pc ls (.int (nI b) :: .int x :: rest)) :=
  lv_icmp_lt hC.1 hC.2.1 hdg ht kt (fun h => by obtain ⟨j, h1, h2, h3⟩ := jz_of hb (Int32.not_lt.mp h); exact kf j h1 h2 h3)
theorem jz_icmp_ge (hC : jC p s m args meth c cc own Ts nL ret nm) {x : Int32} {b : Nat} {off : Int} {tgt : Nat} (hdg : decode cc pc = .ok (.if_icmp .ge off, 3)) (ht : (pc : Int) + off = (tgt : Int)) (hb : b < 2147483648)
    (kt : ∀ j, b ≤ j → j < 2147483648 → x = nI j → W p l e R s m args below meth c H locs cells slots Q (F0 m tgt ls rest)) (kf : x < nI b → W p l e R s m args below meth c H locs cells slots Q (F0 m (pc + 3) ls rest)) : W p l e R s m args below meth c H locs cells slots Q (F0 m pc ls (.int (nI b) :: .int x :: rest)) :=
  lv_icmp_ge hC.1 hC.2.1 hdg ht (fun h => by obtain ⟨j, h1, h2, h3⟩ := jz_of hb h; exact kt j h1 h2 h3) (fun h => kf (Int32.not_le.mp h))
theorem jz_icmp_gt (hC : jC p s m args meth c cc own Ts nL ret nm) {x : Int32} {b : Nat} {off : Int} {tgt : Nat} (hdg : decode cc pc = .ok (.if_icmp .gt off, 3)) (ht : (pc : Int) + off = (tgt : Int)) (hb : b < 2147483648)
    (kt : ∀ j, b ≤ j → j < 2147483648 → x = nI j → W p l e R s m args below meth c H locs cells slots Q (F0 m tgt ls rest)) (kf : x ≤ nI b → W p l e R s m args below meth c H locs cells slots Q (F0 m (pc + 3) ls rest)) : W p l e R s m args below meth c H locs cells slots Q (F0 m pc ls (.int (nI b) :: .int x :: rest)) :=
  lv_icmp_gt hC.1 hC.2.1 hdg ht (fun h => by obtain ⟨j, h1, h2, h3⟩ := jz_of hb (Int32.le_of_lt h); exact kt j h1 h2 h3) (fun h => kf (Int32.not_lt.mp h))
theorem jz_if_lt (hC : jC p s m args meth c cc own Ts nL ret nm) {x : Int32} {off : Int} {tgt : Nat} (hdg : decode cc pc = .ok (.ifCond .lt off, 3)) (ht : (pc : Int) + off = (tgt : Int))
    (kt : x < 0 → W p l e R s m args below meth c H locs cells slots Q (F0 m tgt ls rest)) (kf : ∀ j, j < 2147483648 → x = nI j → W p l e R s m args below meth c H locs cells slots Q (F0 m (pc + 3) ls rest)) : W p l e R s m args below meth c H locs cells slots Q (F0 m pc ls (.int x :: rest)) :=
  lv_if_lt hC.1 hC.2.1 hdg ht kt (fun h => by obtain ⟨j, h1, h2⟩ := nI_of h; exact kf j (by omega) h2)
theorem jz_if_ge (hC : jC p s m args meth c cc own Ts nL ret nm) {x : Int32} {off : Int} {tgt : Nat} (hdg : decode cc pc = .ok (.ifCond .ge off, 3)) (ht : (pc : Int) + off = (tgt : Int))
    (kt : ∀ j, j < 2147483648 → x = nI j → W p l e R s m args below meth c H locs cells slots Q (F0 m tgt ls rest)) (kf : x < 0 → W p l e R s m args below meth c H locs cells slots Q (F0 m (pc + 3) ls rest)) : W p l e R s m args below meth c H locs cells slots Q (F0 m pc ls (.int x :: rest)) :=
  lv_if_ge hC.1 hC.2.1 hdg ht (fun h => by obtain ⟨j, h1, h2⟩ := nI_of (Int32.not_lt.mpr h); exact kt j (by omega) h2) (fun h => kf (Int32.not_le.mp h))
/-! constants, Math, copies, new cells -/
theorem j_ldc (hC : jC p s m args meth c cc own Ts nL ret nm) {index k : Nat} {v : Int32} (hdg : decode cc pc = .ok (.ldc index, 2)) (hw : Cond.constant own index v ∈ Ts) (hv : v = nI k)
    (kk : W p l e R s m args below meth c H locs cells slots Q (F0 m (pc + 2) ls (.int (nI k) :: rest))) : W p l e R s m args below meth c H locs cells slots Q (F0 m pc ls rest) :=
  lv_ldc hC.1 hC.2.1 hC.2.2.2.1 (hC.2.2.2.2.1 _ hw) hdg (by rw [hv]; exact kk)
theorem nI_if_min {a b : Nat} (ha : a < 2147483648) (hb : b < 2147483648) : (if nI b < nI a then nI b else nI a) = nI (min a b) := by
  by_cases h : b < a
  · rw [if_pos ((nI_ltI (by omega) (by omega)).mpr h), Nat.min_eq_right (by omega)]
  · rw [if_neg (fun q => h ((nI_ltI (by omega) (by omega)).mp q)), Nat.min_eq_left (by omega)]
theorem nI_if_max {a b : Nat} (ha : a < 2147483648) (hb : b < 2147483648) : (if nI a < nI b then nI b else nI a) = nI (max a b) := by
  by_cases h : a < b
  · rw [if_pos ((nI_ltI (by omega) (by omega)).mpr h), Nat.max_eq_right (by omega)]
  · rw [if_neg (fun q => h ((nI_ltI (by omega) (by omega)).mp q)), Nat.max_eq_left (by omega)]
theorem j_min (hC : jC p s m args meth c cc own Ts nL ret nm) (hsz : ls.size = nL) {index a b : Nat} (hlink : Cond.methodLink own index Lib.Math.min.name ∈ Ts) (hstat : Cond.static Lib.Math.min.name ∈ Ts) (hini : Cond.initialized "java/lang/Math" ∈ Ts) (hcode : Cond.code Lib.Math.min.name Lib.Math.min.code 2 (some .int) ∈ Ts)
    (hframes : 1 ≤ R.frames) (hlocals : (rest.map fun v => v.category).sum + 13 ≤ R.locals) (hc : cells ≤ R.cells) (hs : slots ≤ R.slots) (ha : a < 2147483648) (hb : b < 2147483648) (hdg : decode cc pc = .ok (.invokestatic index, 3))
    (kk : W p l e R s m args below meth c H locs cells slots Q (F0 m (pc + 3) ls (.int (nI (min a b)) :: rest))) : W p l e R s m args below meth c H locs cells slots Q (F0 m pc ls (.int (nI b) :: .int (nI a) :: rest)) :=
  va_mmin hC.1 hC.2.1 (by rw [hC.2.2.1, hsz]) hC.2.2.2.1 (hC.2.2.2.2.1 _ hlink) (hC.2.2.2.2.1 _ hstat) (hC.2.2.2.2.1 _ hini) (hC.2.2.2.2.1 _ hcode) hframes hlocals hc hs hdg (by rw [nI_if_min ha hb]; exact kk)
theorem j_max (hC : jC p s m args meth c cc own Ts nL ret nm) (hsz : ls.size = nL) {index a b : Nat} (hlink : Cond.methodLink own index Lib.Math.max.name ∈ Ts) (hstat : Cond.static Lib.Math.max.name ∈ Ts) (hini : Cond.initialized "java/lang/Math" ∈ Ts) (hcode : Cond.code Lib.Math.max.name Lib.Math.max.code 2 (some .int) ∈ Ts)
    (hframes : 1 ≤ R.frames) (hlocals : (rest.map fun v => v.category).sum + 13 ≤ R.locals) (hc : cells ≤ R.cells) (hs : slots ≤ R.slots) (ha : a < 2147483648) (hb : b < 2147483648) (hdg : decode cc pc = .ok (.invokestatic index, 3))
    (kk : W p l e R s m args below meth c H locs cells slots Q (F0 m (pc + 3) ls (.int (nI (max a b)) :: rest))) : W p l e R s m args below meth c H locs cells slots Q (F0 m pc ls (.int (nI b) :: .int (nI a) :: rest)) :=
  va_mmax hC.1 hC.2.1 (by rw [hC.2.2.1, hsz]) hC.2.2.2.1 (hC.2.2.2.2.1 _ hlink) (hC.2.2.2.2.1 _ hstat) (hC.2.2.2.2.1 _ hini) (hC.2.2.2.2.1 _ hcode) hframes hlocals hc hs hdg (by rw [nI_if_max ha hb]; exact kk)
/-- the first n places from another row -/
def cpy (f g : Nat → Nat) (n : Nat) : Nat → Nat := fun j => if j < n then f j else g j
theorem nr_cpy (f g : Nat → Nat) (n : Nat) : va_cpy (nr f) (nr g) 0 0 n = nr (cpy f g n) := by
  funext j
  by_cases h : j < n
  · rw [pk_cpy_in (Nat.zero_le _) (by omega)]; simp [nr, cpy, h]
  · rw [pk_cpy_out (Or.inr (by omega))]; simp [nr, cpy, h]
theorem j_copy0 (hC : jC p s m args meth c cc own Ts nL ret nm) (hsz : ls.size = nL) {index : Nat} (hlink : Cond.methodLink own index arraycopyName ∈ Ts) (hnat : Cond.native arraycopyName ∈ Ts) (hstat : Cond.static arraycopyName ∈ Ts) (hini : Cond.initialized "java/lang/System" ∈ Ts) (hI : jI G A s ws H locs) (q0 q1 : Nat) {a0 a1 n0 n1 n : Nat} {f g : Nat → Nat} (h0 : ws[q0]? = some (aI G a0 n0 f)) (h1 : ws[q1]? = some (aI G a1 n1 g)) (hn0 : n ≤ n0) (hn1 : n ≤ n1) (hn : n < 2147483648)
    (hframes : 1 ≤ R.frames) (hlocals : (rest.map fun v => v.category).sum + (nativeFrameWords "java/lang/System" "arraycopy" 5 + 11) ≤ R.locals) (hdg : decode cc pc = .ok (.invokestatic index, 3)) {w1 : va_W} (hw : ws.set q1 (aI G a1 n1 (cpy f g n)) = w1)
    (kk : ∀ (H1 : Heap) (locs1 : List Loc), jI G A s w1 H1 locs1 → W p l e R s m args below meth c H1 locs1 cells slots Q (F0 m (pc + 3) ls rest)) : W p l e R s m args below meth c H locs cells slots Q (F0 m pc ls (.int (nI n) :: .int (nI 0) :: .ref a1 :: .int (nI 0) :: .ref a0 :: rest)) := by
  subst hw
  obtain ⟨hK, hP, hD, hS, hA, hN⟩ := hI
  refine va_copyi hC.1 hC.2.1 (by rw [hC.2.2.1, hsz]) hC.2.2.2.1 (hC.2.2.2.2.1 _ hlink) (hC.2.2.2.2.1 _ hnat) (hC.2.2.2.2.1 _ hstat) (hC.2.2.2.2.1 _ hini) hK hP hD hS q0 q1 0 0 h0 h1 rfl rfl rfl (by decide) (by decide) (nI_lt0 hn) (by rw [nI_clamp (n := n) (by omega)]; show 0 + n ≤ n0; omega) (by rw [nI_clamp (n := n) (by omega)]; show 0 + n ≤ n1; omega) (fun _ _ => rfl) hframes hlocals hdg (fun H1 locs1 hP hD hS => ?_)
  rw [show (nI 0).toNatClampNeg = 0 from rfl, nI_clamp (n := n) (by omega), nr_cpy] at hP hD
  exact kk H1 locs1 ⟨hK, hP, hD, hS, hA, hN⟩
theorem j_newaI (hC : jC p s m args meth c cc own Ts nL ret nm) (hI : jI G A s ws H locs) (harr : Cond.arrayClass .int ∈ Ts) {n : Nat} (hn : n ≤ 1000000) (hcells : cells + 1 ≤ R.cells) (hslots : slots + n ≤ R.slots) (hdg : decode cc pc = .ok (.newarray .int, 2)) {w1 : Nat → va_W} (hw : ∀ q, ws ++ [aI G q n (fun _ => 0)] = w1 q)
    (kk : ∀ (q : Nat) (H1 : Heap), jI G A s (w1 q) H1 locs → W p l e R s m args below meth c H1 locs (cells + 1) (slots + n) Q (F0 m (pc + 2) ls (.ref q :: rest))) : W p l e R s m args below meth c H locs cells slots Q (F0 m pc ls (.int (nI n) :: rest)) := by
  obtain ⟨hK, hP, hD, hS, hA, hN⟩ := hI
  refine va_newa (atype := .int) (ty := .int) (a0 := (n, .inl (nr fun _ => 0))) (N' := n) hC.1 hC.2.1 (hC.2.2.2.2.1 _ harr) rfl hK hP hD hS hA (fun cA => rfl) (nI_lt0 (by omega)) (nI_clamp (by omega)) (by show n * _ ≤ _; simp [componentBytes]; omega) hcells hslots hdg (fun q cA H1 hK1 hP1 hD1 hS1 => ?_)
  have e1 : s.vm.findClass ("[" ++ FieldType.toString .int) = some cA := (hK1.2 3 _ rfl).2
  have e2 : s.vm.findClass ("[" ++ FieldType.toString .int) = some G.2.1 := (hK.2 0 _ rfl).2
  have e3 : cA = G.2.1 := Option.some.inj (e1.symm.trans e2)
  subst e3
  exact kk q H1 (hw q ▸ ⟨hK, hP1, hD1, hS1, hA, hN⟩)
theorem j_newaS (hC : jC p s m args meth c cc own Ts nL ret nm) (hI : jI G A s ws H locs) (harr : Cond.arrayClass .short ∈ Ts) {n : Nat} (hn : n ≤ 1000000) (hcells : cells + 1 ≤ R.cells) (hslots : slots + n ≤ R.slots) (hdg : decode cc pc = .ok (.newarray .short, 2)) {w1 : Nat → va_W} (hw : ∀ q, ws ++ [aS G q n (fun _ => 0)] = w1 q)
    (kk : ∀ (q : Nat) (H1 : Heap), jI G A s (w1 q) H1 locs → W p l e R s m args below meth c H1 locs (cells + 1) (slots + n) Q (F0 m (pc + 2) ls (.ref q :: rest))) : W p l e R s m args below meth c H locs cells slots Q (F0 m pc ls (.int (nI n) :: rest)) := by
  obtain ⟨hK, hP, hD, hS, hA, hN⟩ := hI
  refine va_newa (atype := .short) (ty := .short) (a0 := (n, .inl (nr fun _ => 0))) (N' := n) hC.1 hC.2.1 (hC.2.2.2.2.1 _ harr) rfl hK hP hD hS hA (fun cA => rfl) (nI_lt0 (by omega)) (nI_clamp (by omega)) (by show n * _ ≤ _; simp [componentBytes]; omega) hcells hslots hdg (fun q cA H1 hK1 hP1 hD1 hS1 => ?_)
  have e1 : s.vm.findClass ("[" ++ FieldType.toString .short) = some cA := (hK1.2 3 _ rfl).2
  have e2 : s.vm.findClass ("[" ++ FieldType.toString .short) = some G.2.2.1 := (hK.2 1 _ rfl).2
  have e3 : cA = G.2.2.1 := Option.some.inj (e1.symm.trans e2)
  subst e3
  exact kk q H1 (hw q ▸ ⟨hK, hP1, hD1, hS1, hA, hN⟩)
theorem j_newaZ (hC : jC p s m args meth c cc own Ts nL ret nm) (hI : jI G A s ws H locs) (harr : Cond.arrayClass .boolean ∈ Ts) {n : Nat} (hn : n ≤ 1000000) (hcells : cells + 1 ≤ R.cells) (hslots : slots + n ≤ R.slots) (hdg : decode cc pc = .ok (.newarray .boolean, 2)) {w1 : Nat → va_W} (hw : ∀ q, ws ++ [aZ G q n (fun _ => 0)] = w1 q)
    (kk : ∀ (q : Nat) (H1 : Heap), jI G A s (w1 q) H1 locs → W p l e R s m args below meth c H1 locs (cells + 1) (slots + n) Q (F0 m (pc + 2) ls (.ref q :: rest))) : W p l e R s m args below meth c H locs cells slots Q (F0 m pc ls (.int (nI n) :: rest)) := by
  obtain ⟨hK, hP, hD, hS, hA, hN⟩ := hI
  refine va_newa (atype := .boolean) (ty := .boolean) (a0 := (n, .inl (nr fun _ => 0))) (N' := n) hC.1 hC.2.1 (hC.2.2.2.2.1 _ harr) rfl hK hP hD hS hA (fun cA => rfl) (nI_lt0 (by omega)) (nI_clamp (by omega)) (by show n * _ ≤ _; simp [componentBytes]; omega) hcells hslots hdg (fun q cA H1 hK1 hP1 hD1 hS1 => ?_)
  have e1 : s.vm.findClass ("[" ++ FieldType.toString .boolean) = some cA := (hK1.2 3 _ rfl).2
  have e2 : s.vm.findClass ("[" ++ FieldType.toString .boolean) = some G.2.2.2 := (hK.2 2 _ rfl).2
  have e3 : cA = G.2.2.2 := Option.some.inj (e1.symm.trans e2)
  subst e3
  exact kk q H1 (hw q ▸ ⟨hK, hP1, hD1, hS1, hA, hN⟩)
theorem j_new (hC : jC p s m args meth c cc own Ts nL ret nm) (hI : jI G A s ws H locs) {C : String} {T : u_T} {N ci index : Nat} (hin : ∀ w ∈ u_ws C T N, w ∈ Ts) (ty : Nat → FieldType) (hty : ∀ k, k < N → parseFieldDescriptor (T k).2.2.1 = some (ty k)) (hcl : Cond.classLink own index C ∈ Ts) (hinst : Cond.instantiable C N ∈ Ts) (hini : Cond.initialized C ∈ Ts) (hc : vwCl[ci]? = some (C, T, N)) {fs : List Value} (hfs : ∀ j, j < N → defaultValue (ty j) = vp_V fs j) (hcells : cells + 1 ≤ R.cells) (hslots : slots + N ≤ R.slots) (hdg : decode cc pc = .ok (.new index, 3)) {w1 : Nat → va_W} (hw : ∀ q, ws ++ [oC q ci fs] = w1 q)
    (kk : ∀ (q : Nat) (H1 : Heap), jI G A s (w1 q) H1 locs → W p l e R s m args below meth c H1 locs (cells + 1) (slots + N) Q (F0 m (pc + 3) ls (.ref q :: rest))) : W p l e R s m args below meth c H locs cells slots Q (F0 m pc ls rest) := by
  obtain ⟨hK, hP, hD, hS, hA, hN⟩ := hI
  exact va_new hC.1 hC.2.1 hC.2.2.2.2.1 hin ty hty hC.2.2.2.1 (hC.2.2.2.2.1 _ hcl) (hC.2.2.2.2.1 _ hinst) (hC.2.2.2.2.1 _ hini) hK hP hD hS hA hc hfs hcells hslots hdg (fun q H1 hP1 hD1 hS1 => kk q H1 (hw q ▸ ⟨hK, hP1, hD1, hS1, hA, hN⟩))
/-! arrays of short and boolean -/
theorem j_sald (hC : jC p s m args meth c cc own Ts nL ret nm) (hI : jI G A s ws H locs) (q0 : Nat) {a n i : Nat} {g : Nat → Nat} (ha : ws[q0]? = some (aS G a n g)) (hi : i < n) (hn : n < 2147483648) (hdg : decode cc pc = .ok (.saload, 1))
    (kk : W p l e R s m args below meth c H locs cells slots Q (F0 m (pc + 1) ls (.int (nI (g i)) :: rest))) : W p l e R s m args below meth c H locs cells slots Q (F0 m pc ls (.int (nI i) :: .ref a :: rest)) := by
  refine va_sald hC.1 hC.2.1 hI.1 hI.2.1 q0 1 ha rfl (vp_in_nI hi (by omega)) hdg ?_
  rw [nI_clamp (by omega)]
  exact kk
theorem j_zald (hC : jC p s m args meth c cc own Ts nL ret nm) (hI : jI G A s ws H locs) (q0 : Nat) {a n i : Nat} {g : Nat → Nat} (ha : ws[q0]? = some (aZ G a n g)) (hi : i < n) (hn : n < 2147483648) (hdg : decode cc pc = .ok (.baload, 1))
    (kk : W p l e R s m args below meth c H locs cells slots Q (F0 m (pc + 1) ls (.int (nI (g i)) :: rest))) : W p l e R s m args below meth c H locs cells slots Q (F0 m pc ls (.int (nI i) :: .ref a :: rest)) := by
  refine va_zald hC.1 hC.2.1 hI.1 hI.2.1 q0 2 ha rfl (vp_in_nI hi (by omega)) hdg ?_
  rw [nI_clamp (by omega)]
  exact kk
/-! switches over any number -/
theorem j_sw (n : Nat) (hn : n < 2147483648) (x : Int32) : (∃ k, k < n ∧ x = nI k) ∨ (x.toInt < 0 ∨ (n : Int) - 1 < x.toInt) := by
  rcases pk_ix x (n := n) (by omega) with h | h | ⟨j, h1, h2⟩
  · exact Or.inr (Or.inl (by have := Int32.lt_iff_toInt_lt.mp h; simpa using this))
  · refine Or.inr (Or.inr ?_)
    have := Int32.le_iff_toInt_le.mp h
    rw [nI_toInt (by omega)] at this
    omega
  · exact Or.inl ⟨j, h1, h2⟩
theorem j_tabOut (hC : jC p s m args meth c cc own Ts nL ret nm) {dflt hi : Int} {offs : Array Int} {len n : Nat} {x : Int32} {tgt : Nat} (hdg : decode cc pc = .ok (.tableswitch dflt 0 hi offs, len)) (hh : (n : Int) - 1 = hi) (h : x.toInt < 0 ∨ (n : Int) - 1 < x.toInt) (ht : (pc : Int) + dflt = (tgt : Int))
    (kk : W p l e R s m args below meth c H locs cells slots Q (F0 m tgt ls rest)) : W p l e R s m args below meth c H locs cells slots Q (F0 m pc ls (.int x :: rest)) := lv_tableOut hC.1 hC.2.1 hdg (by rw [← hh]; exact h) ht kk
theorem j_tabIn (hC : jC p s m args meth c cc own Ts nL ret nm) {dflt hi : Int} {offs : Array Int} {len : Nat} {off : Int} {tgt : Nat} (hdg : decode cc pc = .ok (.tableswitch dflt 0 hi offs, len)) (k : Nat) (hk : k < 2147483648) (hh : (k : Int) ≤ hi) (ho : offs[k]? = some off) (ht : (pc : Int) + off = (tgt : Int))
    (kk : W p l e R s m args below meth c H locs cells slots Q (F0 m tgt ls rest)) : W p l e R s m args below meth c H locs cells slots Q (F0 m pc ls (.int (nI k) :: rest)) := by
  have e : (nI k).toInt = (k : Int) := nI_toInt (by omega)
  exact lv_tableIn hC.1 hC.2.1 hdg (by rw [e]; omega) (by rw [e]; omega) (by rw [e, Int.sub_zero, Int.toNat_natCast]; exact ho) ht kk
theorem j_callVq {S : Type} {post : Option Nat → S → Prop} {ra : S → Nat}  {w1 : S → va_W} {wc wr : va_W} {C : String} {T : u_T} {N ci q0 b index maxL n mc ms : Nat} {fs As st0 : List Value} {y : MethodName} {bytes : ByteArray} {rt : Option FieldType} {wsy : List Cond} {rm : Room} (hC : jC p s m args meth c cc own Ts nL ret nm) (hI : jI G A s ws H locs) (hM : jMet l y wsy rm G wc (.ref b :: As) (jQq G post w1) mc ms) (cw : CallW R s args own C index y bytes maxL rt wsy rm mc ms n)
    (hret : ∀ r u, post r u → r = some (ra u)) (isC isR : List Nat) (hc : isC.map (fun i => ws[i]?) = wc.map some) (hr : isR.map (fun i => ws[i]?) = wr.map some) (hnc : va_nd isC = true) (hnr : va_nd isR = true) (hdis : isR.all (fun i => !isC.contains i) = true) (hcl : vwCl[ci]? = some (C, T, N)) (hq : wc[q0]? = some (b, .inr (ci, fs)))
    (hst : st0 = As.reverse ++ .ref b :: rest) (hn : As.length = n) (hsize : ls.size = nL) (hW : (rest.map fun v => v.category).sum ≤ 8) (hdg : decode cc pc = .ok (.invokevirtual index, 3)) (hf : cells + mc ≤ R.cells ∧ slots + ms ≤ R.slots)
    (kk : ∀ (u : S) (H1 : Heap) (locs1 : List Loc), post (some (ra u)) u → jI G A s (wr ++ w1 u) H1 locs1 → W p l e R s m args below meth c H1 locs1 (cells + mc) (slots + ms) Q (F0 m (pc + 3) ls (.ref (ra u) :: rest))) : W p l e R s m args below meth c H locs cells slots Q (F0 m pc ls st0) := by
  have hFc := va_free (wc := wc) hI.2.2.1 hI.2.2.2.1 hI.2.2.2.2.1 isC hc
  exact va_callq (va_runV (As := As) (rest := rest) hC.fix (hM H.size) cw (j_preV hI isC hc hnc hcl hq) rfl hn hsize hst (lv_room hW) hdg hf) hI.2.2.2.1 (fun q _ h => hFc q h) hFc (fun r u t H1 locs1 ht hvm hw hB hz1 hk1 hS => by
    have er := hret r u hw
    subst er
    exact kk u H1 locs1 hw (j_back hI isC isR hc hr hnr hdis ht hB hk1 hS))
theorem j_callVqN {S : Type} {post : Option Nat → S → Prop}  {w1 : S → va_W} {wc wr : va_W} {C : String} {T : u_T} {N ci q0 b index maxL n mc ms : Nat} {fs As st0 : List Value} {y : MethodName} {bytes : ByteArray} {rt : Option FieldType} {wsy : List Cond} {rm : Room} (hC : jC p s m args meth c cc own Ts nL ret nm) (hI : jI G A s ws H locs) (hM : jMet l y wsy rm G wc (.ref b :: As) (jQq G post w1) mc ms) (cw : CallW R s args own C index y bytes maxL rt wsy rm mc ms n)
    (hret : ∀ r u, post r u → r = none) (isC isR : List Nat) (hc : isC.map (fun i => ws[i]?) = wc.map some) (hr : isR.map (fun i => ws[i]?) = wr.map some) (hnc : va_nd isC = true) (hnr : va_nd isR = true) (hdis : isR.all (fun i => !isC.contains i) = true) (hcl : vwCl[ci]? = some (C, T, N)) (hq : wc[q0]? = some (b, .inr (ci, fs)))
    (hst : st0 = As.reverse ++ .ref b :: rest) (hn : As.length = n) (hsize : ls.size = nL) (hW : (rest.map fun v => v.category).sum ≤ 8) (hdg : decode cc pc = .ok (.invokevirtual index, 3)) (hf : cells + mc ≤ R.cells ∧ slots + ms ≤ R.slots)
    (kk : ∀ (u : S) (H1 : Heap) (locs1 : List Loc), post none u → jI G A s (wr ++ w1 u) H1 locs1 → W p l e R s m args below meth c H1 locs1 (cells + mc) (slots + ms) Q (F0 m (pc + 3) ls (.null :: rest))) : W p l e R s m args below meth c H locs cells slots Q (F0 m pc ls st0) := by
  have hFc := va_free (wc := wc) hI.2.2.1 hI.2.2.2.1 hI.2.2.2.2.1 isC hc
  exact va_callq (va_runV (As := As) (rest := rest) hC.fix (hM H.size) cw (j_preV hI isC hc hnc hcl hq) rfl hn hsize hst (lv_room hW) hdg hf) hI.2.2.2.1 (fun q _ h => hFc q h) hFc (fun r u t H1 locs1 ht hvm hw hB hz1 hk1 hS => by
    have er := hret r u hw
    subst er
    exact kk u H1 locs1 hw (j_back hI isC isR hc hr hnr hdis ht hB hk1 hS))
theorem j_callSq {S : Type} {post : Option Nat → S → Prop} {ra : S → Nat}  {w1 : S → va_W} {wc wr : va_W} {index maxL n mc ms : Nat} {As st0 : List Value} {y : MethodName} {bytes : ByteArray} {rt : Option FieldType} {wsy : List Cond} {rm : Room} (hC : jC p s m args meth c cc own Ts nL ret nm) (hI : jI G A s ws H locs) (hM : jMet l y wsy rm G wc As (jQq G post w1) mc ms) (cw : CallB R s args own index y bytes maxL rt wsy rm mc ms n ∧ (Cond.static y).before args s = true)
    (hret : ∀ r u, post r u → r = some (ra u)) (isC isR : List Nat) (hc : isC.map (fun i => ws[i]?) = wc.map some) (hr : isR.map (fun i => ws[i]?) = wr.map some) (hnc : va_nd isC = true) (hnr : va_nd isR = true) (hdis : isR.all (fun i => !isC.contains i) = true)
    (hst : st0 = As.reverse ++ rest) (hn : As.length = n) (hsize : ls.size = nL) (hW : (rest.map fun v => v.category).sum ≤ 8) (hdg : decode cc pc = .ok (.invokestatic index, 3)) (hf : cells + mc ≤ R.cells ∧ slots + ms ≤ R.slots)
    (kk : ∀ (u : S) (H1 : Heap) (locs1 : List Loc), post (some (ra u)) u → jI G A s (wr ++ w1 u) H1 locs1 → W p l e R s m args below meth c H1 locs1 (cells + mc) (slots + ms) Q (F0 m (pc + 3) ls (.ref (ra u) :: rest))) : W p l e R s m args below meth c H locs cells slots Q (F0 m pc ls st0) := by
  have hFc := va_free (wc := wc) hI.2.2.1 hI.2.2.2.1 hI.2.2.2.2.1 isC hc
  exact va_callq (va_runS (As := As) (rest := rest) hC.fix (hM H.size) cw (j_preS hI isC hc hnc) rfl hn hsize hst (lv_room hW) hdg hf) hI.2.2.2.1 (fun q _ h => hFc q h) hFc (fun r u t H1 locs1 ht hvm hw hB hz1 hk1 hS => by
    have er := hret r u hw
    subst er
    exact kk u H1 locs1 hw (j_back hI isC isR hc hr hnr hdis ht hB hk1 hS))
theorem j_and255N (hC : jC p s m args meth c cc own Ts nL ret nm) {a : Nat} (ha : a < 256) (hdg : decode cc pc = .ok (.iand, 1))
    (kk : W p l e R s m args below meth c H locs cells slots Q (F0 m (pc + 1) ls (.int (nI a) :: rest))) : W p l e R s m args below meth c H locs cells slots Q (F0 m pc ls (.int (nI 255) :: .int (nI a) :: rest)) :=
  j_and255 hC hdg (by rw [by8_nI (by omega), Nat.mod_eq_of_lt ha]; exact kk)
theorem j_ishl1 (hC : jC p s m args meth c cc own Ts nL ret nm) {b : Nat} (hb : b < 31) (hdg : decode cc pc = .ok (.ishl, 1))
    (kk : W p l e R s m args below meth c H locs cells slots Q (F0 m (pc + 1) ls (.int (nI (2 ^ b)) :: rest))) : W p l e R s m args below meth c H locs cells slots Q (F0 m pc ls (.int (nI b) :: .int (nI 1) :: rest)) :=
  j_ishl hC (by omega) (by have := Nat.pow_lt_pow_right (a := 2) (by decide) hb; omega) hdg (by rw [Nat.one_mul]; exact kk)
end JR
end
section
/-! the texts as functions -/
def gt (f : Nat → Nat) (n : Nat) (k : Int32) : Int32 := if 0 ≤ k ∧ k < nI n then nI (f k.toNatClampNeg) else (-1)
theorem gt_in {f : Nat → Nat} {n j : Nat} (h : j < n) (hn : n < 2147483648) : gt f n (nI j) = nI (f j) := by
  rw [gt, if_pos ⟨nI_ge0 (by omega), (nI_ltI (by omega) (by omega)).mpr h⟩, nI_clamp (by omega)]
theorem gt_ge {f : Nat → Nat} {n j : Nat} (h : n ≤ j) (hn : j < 2147483648) : gt f n (nI j) = (-1) := by
  rw [gt, if_neg (fun q => by have := (nI_ltI (by omega) (by omega)).mp q.2; omega)]
theorem gt_neg {f : Nat → Nat} {n : Nat} {k : Int32} (h : k < 0) : gt f n k = (-1) := by
  rw [gt, if_neg (fun q => absurd h (Int32.not_lt.mpr q.1))]
/-- byte k of a long -/
def lb (x : Int64) (k : Nat) : Nat := x.toBitVec.toNat / 2 ^ (8 * k) % 256
/-- the k lowest bytes of x more, the highest of them first -/
def low (x : Int64) : Nat → (Nat → Nat) → Nat → (Nat → Nat)
  | 0, f, _ => f
  | k + 1, f, n => low x k (up f n (lb x k)) (n + 1)
/-- k times b more -/
def rep (b : Nat) : Nat → (Nat → Nat) → Nat → (Nat → Nat)
  | 0, f, _ => f
  | k + 1, f, n => rep b k (up f n b) (n + 1)
/-- k bytes more, each as the one d places before -/
def agn (d : Nat) : Nat → (Nat → Nat) → Nat → (Nat → Nat)
  | 0, f, _ => f
  | k + 1, f, n => agn d k (up f n (f (n - d))) (n + 1)
theorem up_lt {f : Nat → Nat} {n x B : Nat} (h : ∀ j, j < n → f j < B) (hx : x < B) : ∀ j, j < n + 1 → up f n x j < B := by
  intro j hj
  by_cases e : j = n
  · subst e; rw [up_s]; exact hx
  · rw [up_n e]; exact h j (by omega)
theorem lb_lt (x : Int64) (k : Nat) : lb x k < 256 := Nat.mod_lt _ (by decide)
theorem low_lt (x : Int64) : ∀ (k : Nat) (f : Nat → Nat) (n : Nat), (∀ j, j < n → f j < 256) → ∀ j, j < n + k → low x k f n j < 256
  | 0, f, n, h, j, hj => h j (by omega)
  | k + 1, f, n, h, j, hj => low_lt x k _ (n + 1) (up_lt h (lb_lt x k)) j (by omega)
theorem rep_lt {b : Nat} (hb : b < 256) : ∀ (k : Nat) (f : Nat → Nat) (n : Nat), (∀ j, j < n → f j < 256) → ∀ j, j < n + k → rep b k f n j < 256
  | 0, f, n, h, j, hj => h j (by omega)
  | k + 1, f, n, h, j, hj => rep_lt hb k _ (n + 1) (up_lt h hb) j (by omega)
theorem agn_lt {d : Nat} : ∀ (k : Nat) (f : Nat → Nat) (n : Nat), 1 ≤ d → d ≤ n → (∀ j, j < n → f j < 256) → ∀ j, j < n + k → agn d k f n j < 256
  | 0, f, n, h1, h2, h, j, hj => h j (by omega)
  | k + 1, f, n, h1, h2, h, j, hj => agn_lt k _ (n + 1) h1 (by omega) (up_lt h (h _ (by omega))) j (by omega)
/-- the lowest byte of a long moved to the right -/
theorem by8_i64 (y : Int64) : by8 y.toInt32 = y.toBitVec.toNat % 256 := by
  show (y.toBitVec.signExtend 32).toNat % 256 = _
  rw [BitVec.signExtend_eq_setWidth_of_le _ (by decide), BitVec.toNat_setWidth]
  exact Nat.mod_mod_of_dvd _ (by decide)
theorem sh63 : ∀ k, k < 64 → ((nI k).toInt64.toUInt64 &&& Int64.toUInt64 63) = UInt64.ofNat k := by decide +kernel
theorem sh63n : ∀ k, k < 64 → (UInt64.ofNat k).toNat % 64 = k := by decide +kernel
theorem sh63s : ∀ k, k < 64 → (((nI k).toInt64 &&& 63).toBitVec.smod 64).toNat = k := by decide +kernel
theorem by8_ushr {x : Int64} {k : Nat} (hk : k < 8) : by8 (x.toUInt64 >>> ((nI (8 * k)).toInt64.toUInt64 &&& Int64.toUInt64 63)).toInt64.toInt32 = lb x k := by
  rw [by8_i64, sh63 _ (by omega)]
  show (x.toUInt64 >>> UInt64.ofNat (8 * k)).toNat % 256 = x.toUInt64.toNat / 2 ^ (8 * k) % 256
  rw [UInt64.toNat_shiftRight, sh63n _ (by omega), Nat.shiftRight_eq_div_pow]
theorem lb_int (x : Int64) {k : Nat} (hk : k < 8) : ((lb x k : Nat) : Int) = x.toInt / 2 ^ (8 * k) % 256 := by
  have h1 : x.toInt = if 2 * x.toBitVec.toNat < 2 ^ 64 then (x.toBitVec.toNat : Int) else (x.toBitVec.toNat : Int) - (2 ^ 64 : Nat) := BitVec.toInt_eq_toNat_cond _
  rw [lb, h1]
  generalize x.toBitVec.toNat = n
  have h8 : k = 0 ∨ k = 1 ∨ k = 2 ∨ k = 3 ∨ k = 4 ∨ k = 5 ∨ k = 6 ∨ k = 7 := by omega
  rcases h8 with rfl | rfl | rfl | rfl | rfl | rfl | rfl | rfl <;> simp only [Nat.reduceMul, Nat.reducePow, Int.reducePow] <;> split <;> omega
theorem and255L (y : Int64) : (y &&& 255).toInt32 = nI (y.toBitVec.toNat % 256) := by
  apply Int32.toBitVec_inj.mp
  apply BitVec.eq_of_toNat_eq
  show ((y.toBitVec &&& 255#64).signExtend 32).toNat = (BitVec.ofNat 32 _).toNat
  rw [BitVec.signExtend_eq_setWidth_of_le _ (by decide), BitVec.toNat_setWidth, BitVec.toNat_and, BitVec.toNat_ofNat]
  have : (255 % 2 ^ 64 : Nat) = 2 ^ 8 - 1 := rfl
  rw [this, Nat.and_two_pow_sub_one_eq_mod, BitVec.toNat_ofNat]
theorem lb_sshr {x : Int64} {k : Nat} (hk : k < 8) : ((x >>> ((nI (8 * k)).toInt64 &&& 63)) &&& 255).toInt32 = nI (lb x k) := by
  rw [and255L]
  congr 1
  have h2 : (x >>> ((nI (8 * k)).toInt64 &&& 63)).toInt = x.toInt >>> (8 * k) := by
    have e : (x >>> ((nI (8 * k)).toInt64 &&& 63)).toBitVec = x.toBitVec.sshiftRight (((nI (8 * k)).toInt64 &&& 63).toBitVec.smod 64).toNat := rfl
    show (x >>> ((nI (8 * k)).toInt64 &&& 63)).toBitVec.toInt = _
    rw [e, sh63s _ (by omega), BitVec.toInt_sshiftRight]
    rfl
  have h3 : (x >>> ((nI (8 * k)).toInt64 &&& 63)).toInt = if 2 * (x >>> ((nI (8 * k)).toInt64 &&& 63)).toBitVec.toNat < 2 ^ 64 then ((x >>> ((nI (8 * k)).toInt64 &&& 63)).toBitVec.toNat : Int) else ((x >>> ((nI (8 * k)).toInt64 &&& 63)).toBitVec.toNat : Int) - (2 ^ 64 : Nat) := BitVec.toInt_eq_toNat_cond _
  have h4 := lb_int x hk
  rw [Int.shiftRight_eq_div_pow] at h2
  rw [h2] at h3
  generalize (x >>> ((nI (8 * k)).toInt64 &&& 63)).toBitVec.toNat = q at h3
  have h5 : ((2 ^ (8 * k) : Nat) : Int) = (2 : Int) ^ (8 * k) := by simp
  rw [h5] at h3
  rw [h3] at h4
  split at h4 <;> omega
theorem rp_step {f : Nat → Nat} {p d i : Nat} (hs : ∀ j, j < i - p → f (p + j) = f (p + j - d)) (hp : p ≤ i) (c : f i = f (i - d)) : ∀ j, j < i + 1 - p → f (p + j) = f (p + j - d) := by
  intro j hj
  by_cases e : j < i - p
  · exact hs j e
  · rw [show p + j = i by omega]; exact c
theorem rp_no {f : Nat → Nat} {p d i k : Nat} (hp : p ≤ i) (hk : i < p + k) (c : f i ≠ f (i - d)) : 0 = 1 ↔ ∀ j, j < k → f (p + j) = f (p + j - d) :=
  ⟨fun h => by omega, fun h => by have := h (i - p) (by omega); rw [show p + (i - p) = i by omega] at this; exact absurd this c⟩
/-- what adding some bytes does, and that it is refused else -/
def ad_low (R : Nat) (f : Nat → Nat) (n : Nat) (x : Int64) (k r : Int32) (f2 : Nat → Nat) (n2 : Nat) : Prop :=
  (∃ j, 1 ≤ j ∧ j ≤ 8 ∧ n + j ≤ R ∧ k = nI j ∧ r = nI (n + j) ∧ f2 = low x j f n ∧ n2 = n + j) ∨ ((∀ j, 1 ≤ j → j ≤ 8 → n + j ≤ R → k ≠ nI j) ∧ r = (-1) ∧ f2 = f ∧ n2 = n)
def ad_rep (R : Nat) (f : Nat → Nat) (n : Nat) (v k r : Int32) (f2 : Nat → Nat) (n2 : Nat) : Prop :=
  (∃ j, 1 ≤ j ∧ n + j ≤ R ∧ k = nI j ∧ r = nI (n + j) ∧ f2 = rep (by8 v) j f n ∧ n2 = n + j) ∨ ((∀ j, 1 ≤ j → n + j ≤ R → k ≠ nI j) ∧ r = (-1) ∧ f2 = f ∧ n2 = n)
theorem ad_no1 {k : Int32} (h : k < nI 1) {n R : Nat} : (∀ j, 1 ≤ j → j ≤ 8 → n + j ≤ R → k ≠ nI j) := by
  intro j h1 h2 h3 e
  rw [e] at h
  have := (nI_ltI (by omega) (by omega)).mp h
  omega
theorem ad_no2 {i n R : Nat} (h : i < 2147483648 ∧ (8 < i ∨ R < n + i)) : (∀ j, 1 ≤ j → j ≤ 8 → n + j ≤ R → nI i ≠ nI j) := by
  intro j h1 h2 h3 e
  have := (nI_eq (by omega) (by omega)).mp e
  omega
theorem ad_no3 {k : Int32} (h : k < nI 1) {n R : Nat} (hR : R ≤ 700) : (∀ j, 1 ≤ j → n + j ≤ R → k ≠ nI j) := by
  intro j h1 h3 e
  rw [e] at h
  have := (nI_ltI (by omega) (by omega)).mp h
  omega
theorem ad_no4 {i n R : Nat} (hR : R ≤ 700) (h : i < 2147483648 ∧ R < n + i) : (∀ j, 1 ≤ j → n + j ≤ R → nI i ≠ nI j) := by
  intro j h1 h3 e
  have := (nI_eq (by omega) (by omega)).mp e
  omega
end
section
theorem hin_X1_size_X1 : ∀ w ∈ wsX10, w ∈ wsX1_size := by decide +kernel
theorem hfl_X1_size_15 : Cond.fieldLink RX1 15 "CheapParse$Bytes" "size" "I" ∈ wsX1_size := by decide +kernel
set_option maxHeartbeats 4000000 in
set_option maxRecDepth 100000 in
theorem c_X1_size (zl : Launch) (G : jG) (h0 : Nat) (h1 : Nat) (n : Nat)  : jMet zl yX1_size wsX1_size ({ frames := 0, cells := 0, slots := 0, locals := 0 }) G [oC h0 1 [.ref h1, .int (nI n)]] [.ref h0] (jQi G (fun (r : Int32) (u : Unit) => (r = nI n)) (fun (u : Unit) => [oC h0 1 [.ref h1, .int (nI n)]])) 0 0 := by
  refine j_enter_i (cc := cX1_size) (nL := 1) (nm := "size") (own := RX1) (lv := [(0, .ref h0)]) (by decide) rfl (Nat.le_of_ble_eq_true rfl) rfl rfl rfl ?_
  intro zA zp ze zs zm zargs zbelow zmeth zc zQ ls hC hQ hI hl
  have zx := hC.1
  have zb := hC.2.1
  refine lv_aload_n zx zb dX1_size_0 rfl (lv_at hl 0 rfl) ?_
  refine j_get hC hI hin_X1_size_X1 0 rfl rfl 1 (by decide) hfl_X1_size_15 rfl rfl dX1_size_1 ?_
  exact hQ _ _ _ _ _ () dX1_size_4 (hI.sub [0] rfl rfl) (by first | rfl | (congr 1; omega) | omega)

theorem hin_X1_get_X1 : ∀ w ∈ wsX10, w ∈ wsX1_get := by decide +kernel
theorem hfl_X1_get_15 : Cond.fieldLink RX1 15 "CheapParse$Bytes" "size" "I" ∈ wsX1_get := by decide +kernel
theorem hfl_X1_get_9 : Cond.fieldLink RX1 9 "CheapParse$Bytes" "row" "[I" ∈ wsX1_get := by decide +kernel
set_option maxHeartbeats 4000000 in
set_option maxRecDepth 100000 in
theorem c_X1_get (zl : Launch) (G : jG) (h0 : Nat) (h1 : Nat) (R : Nat) (n : Nat) (f : Nat → Nat) (k : Int32) (hn : n ≤ R) (hR : R ≤ 700) : jMet zl yX1_get wsX1_get ({ frames := 0, cells := 0, slots := 0, locals := 0 }) G [oC h0 1 [.ref h1, .int (nI n)], aI G h1 R f] [.ref h0, .int k] (jQi G (fun (r : Int32) (u : Unit) => (r = gt f n k)) (fun (u : Unit) => [oC h0 1 [.ref h1, .int (nI n)], aI G h1 R f])) 0 0 := by
  refine j_enter_i (cc := cX1_get) (nL := 2) (nm := "get") (own := RX1) (lv := [(0, .ref h0), (1, .int k)]) (by decide) rfl (Nat.le_of_ble_eq_true rfl) rfl rfl rfl ?_
  intro zA zp ze zs zm zargs zbelow zmeth zc zQ ls hC hQ hI hl
  have zx := hC.1
  have zb := hC.2.1
  refine lv_iload_n zx zb dX1_get_0 rfl (lv_at hl 1 rfl) ?_
  refine jz_if_lt (tgt := 21) hC dX1_get_1 (by decide) (fun c1 => ?_) (fun j1 j1a j1e => ?_)
  · refine lv_iconst (v := (-1)) zx zb dX1_get_21 (by decide) ?_
    exact hQ _ _ _ _ _ () dX1_get_22 (hI.sub [0, 1] rfl rfl) (gt_neg c1).symm
  · subst j1e
    refine lv_iload_n zx zb dX1_get_4 rfl (lv_at hl 1 rfl) ?_
    refine lv_aload_n zx zb dX1_get_5 rfl (lv_at hl 0 rfl) ?_
    refine j_get hC hI hin_X1_get_X1 0 rfl rfl 1 (by decide) hfl_X1_get_15 rfl rfl dX1_get_6 ?_
    refine j_icmp_ge (tgt := 21) hC dX1_get_9 (by decide) (by omega) (by omega) (fun c9 => ?_) (fun c9 => ?_)
    · refine lv_iconst (v := (-1)) zx zb dX1_get_21 (by decide) ?_
      exact hQ _ _ _ _ _ () dX1_get_22 (hI.sub [0, 1] rfl rfl) (gt_ge (by omega) (by omega)).symm
    · refine lv_aload_n zx zb dX1_get_12 rfl (lv_at hl 0 rfl) ?_
      refine j_get hC hI hin_X1_get_X1 0 rfl rfl 0 (by decide) hfl_X1_get_9 rfl rfl dX1_get_13 ?_
      refine lv_iload_n zx zb dX1_get_16 rfl (lv_at hl 1 rfl) ?_
      refine j_iald hC hI 1 rfl (by omega) (by omega) dX1_get_17 ?_
      refine lv_goto (tgt := 22) zx zb dX1_get_18 (by decide) ?_
      exact hQ _ _ _ _ _ () dX1_get_22 (hI.sub [0, 1] rfl rfl) (gt_in (by omega) (by omega)).symm

set_option maxHeartbeats 4000000 in
set_option maxRecDepth 100000 in
theorem c_X1_get_in (zl : Launch) (G : jG) (h0 : Nat) (h1 : Nat) (R : Nat) (n : Nat) (k : Nat) (f : Nat → Nat) (hn : n ≤ R) (hR : R ≤ 700) (hk : k < n) : jMet zl yX1_get wsX1_get ({ frames := 0, cells := 0, slots := 0, locals := 0 }) G [oC h0 1 [.ref h1, .int (nI n)], aI G h1 R f] [.ref h0, .int (nI k)] (jQi G (fun (r : Int32) (u : Unit) => (r = nI (f k))) (fun (u : Unit) => [oC h0 1 [.ref h1, .int (nI n)], aI G h1 R f])) 0 0 := by
  refine j_enter_i (cc := cX1_get) (nL := 2) (nm := "get") (own := RX1) (lv := [(0, .ref h0), (1, .int (nI k))]) (by decide) rfl (Nat.le_of_ble_eq_true rfl) rfl rfl rfl ?_
  intro zA zp ze zs zm zargs zbelow zmeth zc zQ ls hC hQ hI hl
  have zx := hC.1
  have zb := hC.2.1
  refine lv_iload_n zx zb dX1_get_0 rfl (lv_at hl 1 rfl) ?_
  refine j_if_lt (tgt := 21) hC dX1_get_1 (by decide) (by omega) ?_
  refine lv_iload_n zx zb dX1_get_4 rfl (lv_at hl 1 rfl) ?_
  refine lv_aload_n zx zb dX1_get_5 rfl (lv_at hl 0 rfl) ?_
  refine j_get hC hI hin_X1_get_X1 0 rfl rfl 1 (by decide) hfl_X1_get_15 rfl rfl dX1_get_6 ?_
  refine j_icmp_ge (tgt := 21) hC dX1_get_9 (by decide) (by omega) (by omega) (fun c9 => ?_) (fun c9 => ?_)
  · exact (by omega : False).elim
  · refine lv_aload_n zx zb dX1_get_12 rfl (lv_at hl 0 rfl) ?_
    refine j_get hC hI hin_X1_get_X1 0 rfl rfl 0 (by decide) hfl_X1_get_9 rfl rfl dX1_get_13 ?_
    refine lv_iload_n zx zb dX1_get_16 rfl (lv_at hl 1 rfl) ?_
    refine j_iald hC hI 1 rfl (by omega) (by omega) dX1_get_17 ?_
    refine lv_goto (tgt := 22) zx zb dX1_get_18 (by decide) ?_
    exact hQ _ _ _ _ _ () dX1_get_22 (hI.sub [0, 1] rfl rfl) (by first | rfl | (congr 1; omega) | omega)

theorem hin_X1_empty_X1 : ∀ w ∈ wsX10, w ∈ wsX1_empty := by decide +kernel
theorem hfl_X1_empty_15 : Cond.fieldLink RX1 15 "CheapParse$Bytes" "size" "I" ∈ wsX1_empty := by decide +kernel
set_option maxHeartbeats 4000000 in
set_option maxRecDepth 100000 in
theorem c_X1_empty (zl : Launch) (G : jG) (h0 : Nat) (h1 : Nat) (n : Nat)  : jMet zl yX1_empty wsX1_empty ({ frames := 0, cells := 0, slots := 0, locals := 0 }) G [oC h0 1 [.ref h1, .int (nI n)]] [.ref h0] (jQv G (fun (u : Unit) => True) (fun (u : Unit) => [oC h0 1 [.ref h1, .int (nI 0)]])) 0 0 := by
  refine j_enter_v (cc := cX1_empty) (nL := 1) (nm := "empty") (own := RX1) (lv := [(0, .ref h0)]) (by decide) rfl (Nat.le_of_ble_eq_true rfl) rfl rfl rfl ?_
  intro zA zp ze zs zm zargs zbelow zmeth zc zQ ls hC hQ hI hl
  have zx := hC.1
  have zb := hC.2.1
  refine lv_aload_n zx zb dX1_empty_0 rfl (lv_at hl 0 rfl) ?_
  refine lv_iconst (v := nI 0) zx zb dX1_empty_1 (by decide) ?_
  refine j_put (w1 := [oC h0 1 [.ref h1, .int (nI 0)]]) hC hI hin_X1_empty_X1 tyX1 tyX1_ok nmX1 0 rfl rfl 1 (by decide) hfl_X1_empty_15 rfl rfl rfl rfl (Nat.le_of_ble_eq_true rfl) dX1_empty_2 rfl (fun H locs hI => ?_)
  exact hQ _ _ _ _ () dX1_empty_5 (hI.sub [0] rfl rfl) trivial

theorem hin_X1_add_X1 : ∀ w ∈ wsX10, w ∈ wsX1_add := by decide +kernel
theorem hfl_X1_add_15 : Cond.fieldLink RX1 15 "CheapParse$Bytes" "size" "I" ∈ wsX1_add := by decide +kernel
theorem hfl_X1_add_9 : Cond.fieldLink RX1 9 "CheapParse$Bytes" "row" "[I" ∈ wsX1_add := by decide +kernel
set_option maxHeartbeats 4000000 in
set_option maxRecDepth 100000 in
theorem c_X1_add (zl : Launch) (G : jG) (h0 : Nat) (h1 : Nat) (R : Nat) (n : Nat) (f : Nat → Nat) (v : Int32) (hn : n < R) (hR : R ≤ 700) : jMet zl yX1_add wsX1_add ({ frames := 0, cells := 0, slots := 0, locals := 0 }) G [oC h0 1 [.ref h1, .int (nI n)], aI G h1 R f] [.ref h0, .int v] (jQv G (fun (u : Unit) => True) (fun (u : Unit) => [oC h0 1 [.ref h1, .int (nI (n + 1))], aI G h1 R (up f n (by8 v))])) 0 0 := by
  refine j_enter_v (cc := cX1_add) (nL := 2) (nm := "add") (own := RX1) (lv := [(0, .ref h0), (1, .int v)]) (by decide) rfl (Nat.le_of_ble_eq_true rfl) rfl rfl rfl ?_
  intro zA zp ze zs zm zargs zbelow zmeth zc zQ ls hC hQ hI hl
  have zx := hC.1
  have zb := hC.2.1
  refine lv_aload_n zx zb dX1_add_0 rfl (lv_at hl 0 rfl) ?_
  refine j_get hC hI hin_X1_add_X1 0 rfl rfl 1 (by decide) hfl_X1_add_15 rfl rfl dX1_add_1 ?_
  refine lv_aload_n zx zb dX1_add_4 rfl (lv_at hl 0 rfl) ?_
  refine j_get hC hI hin_X1_add_X1 0 rfl rfl 0 (by decide) hfl_X1_add_9 rfl rfl dX1_add_5 ?_
  refine j_alen hC hI 1 rfl dX1_add_8 ?_
  refine j_icmp_ge (tgt := 36) hC dX1_add_9 (by decide) (by omega) (by omega) (fun c9 => ?_) (fun c9 => ?_)
  · exact (by omega : False).elim
  · refine lv_aload_n zx zb dX1_add_12 rfl (lv_at hl 0 rfl) ?_
    refine j_get hC hI hin_X1_add_X1 0 rfl rfl 0 (by decide) hfl_X1_add_9 rfl rfl dX1_add_13 ?_
    refine lv_aload_n zx zb dX1_add_16 rfl (lv_at hl 0 rfl) ?_
    refine j_get hC hI hin_X1_add_X1 0 rfl rfl 1 (by decide) hfl_X1_add_15 rfl rfl dX1_add_17 ?_
    refine lv_iload_n zx zb dX1_add_20 rfl (lv_at hl 1 rfl) ?_
    refine lv_sipush (v := nI 255) zx zb dX1_add_21 (by decide) ?_
    refine j_and255 hC dX1_add_24 ?_
    refine j_iast (w1 := [oC h0 1 [.ref h1, .int (nI n)], aI G h1 R (up f n (by8 v))]) hC hI 1 rfl (by omega) (by omega) dX1_add_25 rfl (fun H locs hI => ?_)
    refine lv_aload_n zx zb dX1_add_26 rfl (lv_at hl 0 rfl) ?_
    refine lv_dup zx zb dX1_add_27 rfl ?_
    refine j_get hC hI hin_X1_add_X1 0 rfl rfl 1 (by decide) hfl_X1_add_15 rfl rfl dX1_add_28 ?_
    refine lv_iconst (v := nI 1) zx zb dX1_add_31 (by decide) ?_
    refine j_iadd hC dX1_add_32 ?_
    refine j_put (w1 := [oC h0 1 [.ref h1, .int (nI (n + 1))], aI G h1 R (up f n (by8 v))]) hC hI hin_X1_add_X1 tyX1 tyX1_ok nmX1 0 rfl rfl 1 (by decide) hfl_X1_add_15 rfl rfl rfl rfl (Nat.le_of_ble_eq_true rfl) dX1_add_33 rfl (fun H locs hI => ?_)
    exact hQ _ _ _ _ () dX1_add_36 (hI.sub [0, 1] rfl rfl) trivial

theorem hin_X1_addLowest_X1 : ∀ w ∈ wsX10, w ∈ wsX1_addLowest := by decide +kernel
theorem hfl_X1_addLowest_9 : Cond.fieldLink RX1 9 "CheapParse$Bytes" "row" "[I" ∈ wsX1_addLowest := by decide +kernel
theorem hfl_X1_addLowest_15 : Cond.fieldLink RX1 15 "CheapParse$Bytes" "size" "I" ∈ wsX1_addLowest := by decide +kernel
set_option maxHeartbeats 4000000 in
set_option maxRecDepth 100000 in
theorem c_X1_addLowest (zl : Launch) (G : jG) (h0 : Nat) (h1 : Nat) (R : Nat) (n : Nat) (f : Nat → Nat) (x : Int64) (k : Int32) (hn : n ≤ R) (hR : R ≤ 700) : jMet zl yX1_addLowest wsX1_addLowest ({ frames := 1, cells := 0, slots := 0, locals := 21 }) G [oC h0 1 [.ref h1, .int (nI n)], aI G h1 R f] [.ref h0, .long x, .int k] (jQi G (fun (r : Int32) (u : (Nat → Nat) × Nat) => (ad_low R f n x k r u.1 u.2)) (fun (u : (Nat → Nat) × Nat) => [oC h0 1 [.ref h1, .int (nI u.2)], aI G h1 R u.1])) 0 0 := by
  refine j_enter_i (cc := cX1_addLowest) (nL := 5) (nm := "addLowest") (own := RX1) (lv := [(0, .ref h0), (1, .long x), (3, .int k)]) (by decide) rfl (Nat.le_of_ble_eq_true rfl) rfl rfl rfl ?_
  intro zA zp ze zs zm zargs zbelow zmeth zc zQ ls hC hQ hI hl
  have zx := hC.1
  have zb := hC.2.1
  refine lv_iload_n zx zb dX1_addLowest_0 rfl (lv_at hl 2 rfl) ?_
  refine lv_iconst (v := nI 1) zx zb dX1_addLowest_1 (by decide) ?_
  refine jz_icmp_lt (tgt := 25) hC dX1_addLowest_2 (by decide) (by omega) (fun c2 => ?_) (fun j2 j2a j2b j2e => ?_)
  · refine lv_iconst (v := (-1)) zx zb dX1_addLowest_25 (by decide) ?_
    exact hQ _ _ _ _ _ ⟨f, n⟩ dX1_addLowest_26 (hI.sub [0, 1] rfl rfl) (by (try dsimp only); exact (Or.inr ⟨ad_no1 c2, rfl, rfl, rfl⟩))
  · subst j2e
    refine lv_iload_n zx zb dX1_addLowest_5 rfl (lv_at hl 2 rfl) ?_
    refine lv_bipush (v := nI 8) zx zb dX1_addLowest_6 (by decide) ?_
    refine j_icmp_gt (tgt := 25) hC dX1_addLowest_8 (by decide) (by omega) (by omega) (fun c8 => ?_) (fun c8 => ?_)
    · refine lv_iconst (v := (-1)) zx zb dX1_addLowest_25 (by decide) ?_
      exact hQ _ _ _ _ _ ⟨f, n⟩ dX1_addLowest_26 (hI.sub [0, 1] rfl rfl) (by (try dsimp only); exact (Or.inr ⟨ad_no2 (by omega), rfl, rfl, rfl⟩))
    · refine lv_iload_n zx zb dX1_addLowest_11 rfl (lv_at hl 2 rfl) ?_
      refine lv_aload_n zx zb dX1_addLowest_12 rfl (lv_at hl 0 rfl) ?_
      refine j_get hC hI hin_X1_addLowest_X1 0 rfl rfl 0 (by decide) hfl_X1_addLowest_9 rfl rfl dX1_addLowest_13 ?_
      refine j_alen hC hI 1 rfl dX1_addLowest_16 ?_
      refine lv_aload_n zx zb dX1_addLowest_17 rfl (lv_at hl 0 rfl) ?_
      refine j_get hC hI hin_X1_addLowest_X1 0 rfl rfl 1 (by decide) hfl_X1_addLowest_15 rfl rfl dX1_addLowest_18 ?_
      refine j_isub hC (by omega) dX1_addLowest_21 ?_
      refine j_icmp_le (tgt := 27) hC dX1_addLowest_22 (by decide) (by omega) (by omega) (fun c22 => ?_) (fun c22 => ?_)
      · refine lv_iload_n zx zb dX1_addLowest_27 rfl (lv_at hl 2 rfl) ?_
        refine lv_iconst (v := nI 1) zx zb dX1_addLowest_28 (by decide) ?_
        refine j_isub1 hC dX1_addLowest_29 ?_
        refine lv_istore (lv' := [(4, .int (mI j2)), (0, .ref h0), (1, .long x), (3, .int (nI j2))]) zx zb dX1_addLowest_30 hl (by decide) rfl (fun ls hl => ?_)
        have loop32 : ∀ (zn32 : Nat) (j : Nat) (m : Nat) (g : Nat → Nat), (m + j = n + j2) → (low x j g m = low x j2 f n) → (j ≤ 8) → (n + j2 ≤ R) → j < zn32 → ∀ (H : Heap) (locs : List Loc) (ls : Array Slot), jI G zA zs [oC h0 1 [.ref h1, .int (nI m)], aI G h1 R g] H locs → lv_has ls 5 [(0, .ref h0), (1, .long x), (4, .int (mI j))] → W zp zl ze ({ frames := 1, cells := 0, slots := 0, locals := 21 }) zs zm zargs zbelow zmeth zc H locs 0 0 zQ (F0 zm 32 ls []) := by
          intro zn32
          induction zn32 with
          | zero => intros; omega
          | succ zn32 ih32 =>
            intro j m g ej eg ek em zm32 H locs ls hI hl
            refine lv_iload zx zb dX1_addLowest_32 (lv_at hl 2 rfl) ?_
            refine j_ifM_lt (tgt := 55) hC dX1_addLowest_34 (by decide) (by omega) (fun c34 => ?_) (fun c34 => ?_)
            · subst c34
              refine lv_aload_n zx zb dX1_addLowest_55 rfl (lv_at hl 0 rfl) ?_
              refine j_get hC hI hin_X1_addLowest_X1 0 rfl rfl 1 (by decide) hfl_X1_addLowest_15 rfl rfl dX1_addLowest_56 ?_
              exact hQ _ _ _ _ _ ⟨g, m⟩ dX1_addLowest_59 (hI.sub [0, 1] rfl rfl) (by (try dsimp only); exact (Or.inl ⟨_, by omega, by omega, by omega, rfl, congrArg nI (by omega), eg, by omega⟩))
            · obtain ⟨j34, rfl⟩ : ∃ z, j = z + 1 := ⟨j - 1, by omega⟩
              rw [mI_s] at hl
              refine lv_aload_n zx zb dX1_addLowest_37 rfl (lv_at hl 0 rfl) ?_
              refine lv_lload_n zx zb dX1_addLowest_38 rfl (lv_at hl 1 rfl) ?_
              refine lv_bipush (v := nI 8) zx zb dX1_addLowest_39 (by decide) ?_
              refine lv_iload zx zb dX1_addLowest_41 (lv_at hl 2 rfl) ?_
              refine j_imul hC dX1_addLowest_43 ?_
              refine lv_lushr zx zb dX1_addLowest_44 rfl ?_
              refine lv_l2i zx zb dX1_addLowest_45 rfl ?_
              refine j_callVv (wr := []) hC hI (c_X1_add zl G h0 h1 R m g (((x.toUInt64 >>> ((nI (8 * j34)).toInt64.toUInt64 &&& Int64.toUInt64 63)).toInt64).toInt32) (by omega) (by omega)) (cwV 1 hC.2.2.2.2.1 gX1_addLowest_X1_add rfl rfl rfl (by decide +kernel) ⟨Nat.le_of_ble_eq_true rfl, Nat.le_of_ble_eq_true rfl⟩) [0, 1] [] rfl rfl rfl rfl rfl rfl (q0 := 0) rfl rfl rfl hl.1 (Nat.le_of_ble_eq_true rfl) dX1_addLowest_46 ⟨Nat.le_of_ble_eq_true rfl, Nat.le_of_ble_eq_true rfl⟩ (fun u46 H locs hp46 hI => ?_)
              have hI : jI G zA zs [oC h0 1 [.ref h1, .int (nI (m + 1))], aI G h1 R (up g m (by8 (((x.toUInt64 >>> ((nI (8 * j34)).toInt64.toUInt64 &&& Int64.toUInt64 63)).toInt64).toInt32)))] H locs := hI
              refine lv_iinc (v := mI j34) (lv' := [(4, .int (mI j34)), (0, .ref h0), (1, .long x)]) zx zb dX1_addLowest_49 hl (k := 2) rfl (j_dec _) (by decide) rfl (fun ls hl => ?_)
              refine lv_goto (tgt := 32) zx zb dX1_addLowest_52 (by decide) ?_
              exact ih32 j34 (m + 1) (up g m (by8 (((x.toUInt64 >>> ((nI (8 * j34)).toInt64.toUInt64 &&& Int64.toUInt64 63)).toInt64).toInt32))) (by omega) (by rw [← eg, by8_ushr (by omega)]; rfl) (by omega) (by omega) (by omega) _ _ _ hI (lv_sub hl [1, 2, 0] rfl)
        exact loop32 _ j2 n f (by omega) rfl (by omega) (by omega) (Nat.lt_succ_self _) _ _ _ hI (lv_sub hl [1, 2, 0] rfl)
      · refine lv_iconst (v := (-1)) zx zb dX1_addLowest_25 (by decide) ?_
        exact hQ _ _ _ _ _ ⟨f, n⟩ dX1_addLowest_26 (hI.sub [0, 1] rfl rfl) (by (try dsimp only); exact (Or.inr ⟨ad_no2 (by omega), rfl, rfl, rfl⟩))

theorem hin_X1_addTimes_X1 : ∀ w ∈ wsX10, w ∈ wsX1_addTimes := by decide +kernel
theorem hfl_X1_addTimes_9 : Cond.fieldLink RX1 9 "CheapParse$Bytes" "row" "[I" ∈ wsX1_addTimes := by decide +kernel
theorem hfl_X1_addTimes_15 : Cond.fieldLink RX1 15 "CheapParse$Bytes" "size" "I" ∈ wsX1_addTimes := by decide +kernel
set_option maxHeartbeats 4000000 in
set_option maxRecDepth 100000 in
theorem c_X1_addTimes (zl : Launch) (G : jG) (h0 : Nat) (h1 : Nat) (R : Nat) (n : Nat) (f : Nat → Nat) (v : Int32) (k : Int32) (hn : n ≤ R) (hR : R ≤ 700) : jMet zl yX1_addTimes wsX1_addTimes ({ frames := 1, cells := 0, slots := 0, locals := 21 }) G [oC h0 1 [.ref h1, .int (nI n)], aI G h1 R f] [.ref h0, .int v, .int k] (jQi G (fun (r : Int32) (u : (Nat → Nat) × Nat) => (ad_rep R f n v k r u.1 u.2)) (fun (u : (Nat → Nat) × Nat) => [oC h0 1 [.ref h1, .int (nI u.2)], aI G h1 R u.1])) 0 0 := by
  refine j_enter_i (cc := cX1_addTimes) (nL := 4) (nm := "addTimes") (own := RX1) (lv := [(0, .ref h0), (1, .int v), (2, .int k)]) (by decide) rfl (Nat.le_of_ble_eq_true rfl) rfl rfl rfl ?_
  intro zA zp ze zs zm zargs zbelow zmeth zc zQ ls hC hQ hI hl
  have zx := hC.1
  have zb := hC.2.1
  refine lv_iload_n zx zb dX1_addTimes_0 rfl (lv_at hl 2 rfl) ?_
  refine lv_iconst (v := nI 1) zx zb dX1_addTimes_1 (by decide) ?_
  refine jz_icmp_lt (tgt := 19) hC dX1_addTimes_2 (by decide) (by omega) (fun c2 => ?_) (fun j2 j2a j2b j2e => ?_)
  · refine lv_iconst (v := (-1)) zx zb dX1_addTimes_19 (by decide) ?_
    exact hQ _ _ _ _ _ ⟨f, n⟩ dX1_addTimes_20 (hI.sub [0, 1] rfl rfl) (by (try dsimp only); exact (Or.inr ⟨ad_no3 c2 hR, rfl, rfl, rfl⟩))
  · subst j2e
    refine lv_iload_n zx zb dX1_addTimes_5 rfl (lv_at hl 2 rfl) ?_
    refine lv_aload_n zx zb dX1_addTimes_6 rfl (lv_at hl 0 rfl) ?_
    refine j_get hC hI hin_X1_addTimes_X1 0 rfl rfl 0 (by decide) hfl_X1_addTimes_9 rfl rfl dX1_addTimes_7 ?_
    refine j_alen hC hI 1 rfl dX1_addTimes_10 ?_
    refine lv_aload_n zx zb dX1_addTimes_11 rfl (lv_at hl 0 rfl) ?_
    refine j_get hC hI hin_X1_addTimes_X1 0 rfl rfl 1 (by decide) hfl_X1_addTimes_15 rfl rfl dX1_addTimes_12 ?_
    refine j_isub hC (by omega) dX1_addTimes_15 ?_
    refine j_icmp_le (tgt := 21) hC dX1_addTimes_16 (by decide) (by omega) (by omega) (fun c16 => ?_) (fun c16 => ?_)
    · refine lv_iconst (v := nI 0) zx zb dX1_addTimes_21 (by decide) ?_
      refine lv_istore_n (lv' := [(3, .int (nI 0)), (0, .ref h0), (1, .int v), (2, .int (nI j2))]) zx zb dX1_addTimes_22 rfl hl (by decide) rfl (fun ls hl => ?_)
      have loop23 : ∀ (zn23 : Nat) (i : Nat) (m : Nat) (g : Nat → Nat), (m = n + i) → (rep (by8 v) (j2 - i) g m = rep (by8 v) j2 f n) → (i ≤ j2) → (n + j2 ≤ R) → (j2 - i) < zn23 → ∀ (H : Heap) (locs : List Loc) (ls : Array Slot), jI G zA zs [oC h0 1 [.ref h1, .int (nI m)], aI G h1 R g] H locs → lv_has ls 4 [(0, .ref h0), (1, .int v), (2, .int (nI j2)), (3, .int (nI i))] → W zp zl ze ({ frames := 1, cells := 0, slots := 0, locals := 21 }) zs zm zargs zbelow zmeth zc H locs 0 0 zQ (F0 zm 23 ls []) := by
        intro zn23
        induction zn23 with
        | zero => intros; omega
        | succ zn23 ih23 =>
          intro i m g ej eg ek em zm23 H locs ls hI hl
          refine lv_iload_n zx zb dX1_addTimes_23 rfl (lv_at hl 3 rfl) ?_
          refine lv_iload_n zx zb dX1_addTimes_24 rfl (lv_at hl 2 rfl) ?_
          refine j_icmp_ge (tgt := 39) hC dX1_addTimes_25 (by decide) (by omega) (by omega) (fun c25 => ?_) (fun c25 => ?_)
          · refine lv_aload_n zx zb dX1_addTimes_39 rfl (lv_at hl 0 rfl) ?_
            refine j_get hC hI hin_X1_addTimes_X1 0 rfl rfl 1 (by decide) hfl_X1_addTimes_15 rfl rfl dX1_addTimes_40 ?_
            exact hQ _ _ _ _ _ ⟨g, m⟩ dX1_addTimes_43 (hI.sub [0, 1] rfl rfl) (by (try dsimp only); exact (Or.inl ⟨_, by omega, by omega, rfl, congrArg nI (by omega), by rw [← eg, show j2 - i = 0 by omega]; rfl, by omega⟩))
          · refine lv_aload_n zx zb dX1_addTimes_28 rfl (lv_at hl 0 rfl) ?_
            refine lv_iload_n zx zb dX1_addTimes_29 rfl (lv_at hl 1 rfl) ?_
            refine j_callVv (wr := []) hC hI (c_X1_add zl G h0 h1 R m g v (by omega) (by omega)) (cwV 1 hC.2.2.2.2.1 gX1_addTimes_X1_add rfl rfl rfl (by decide +kernel) ⟨Nat.le_of_ble_eq_true rfl, Nat.le_of_ble_eq_true rfl⟩) [0, 1] [] rfl rfl rfl rfl rfl rfl (q0 := 0) rfl rfl rfl hl.1 (Nat.le_of_ble_eq_true rfl) dX1_addTimes_30 ⟨Nat.le_of_ble_eq_true rfl, Nat.le_of_ble_eq_true rfl⟩ (fun u30 H locs hp30 hI => ?_)
            have hI : jI G zA zs [oC h0 1 [.ref h1, .int (nI (m + 1))], aI G h1 R (up g m (by8 v))] H locs := hI
            refine lv_iinc (v := nI (i + 1)) (lv' := [(3, .int (nI (i + 1))), (0, .ref h0), (1, .int v), (2, .int (nI j2))]) zx zb dX1_addTimes_33 hl (k := 3) rfl (j_inc _ _ _ (by decide)) (by decide) rfl (fun ls hl => ?_)
            refine lv_goto (tgt := 23) zx zb dX1_addTimes_36 (by decide) ?_
            exact ih23 (i + 1) (m + 1) (up g m (by8 v)) (by omega) (by rw [← eg, show j2 - i = (j2 - (i + 1)) + 1 by omega]; rfl) (by omega) (by omega) (by omega) _ _ _ hI (lv_sub hl [1, 2, 3, 0] rfl)
      exact loop23 _ 0 n f (by omega) rfl (by omega) (by omega) (Nat.lt_succ_self _) _ _ _ hI (lv_sub hl [1, 2, 3, 0] rfl)
    · refine lv_iconst (v := (-1)) zx zb dX1_addTimes_19 (by decide) ?_
      exact hQ _ _ _ _ _ ⟨f, n⟩ dX1_addTimes_20 (hI.sub [0, 1] rfl rfl) (by (try dsimp only); exact (Or.inr ⟨ad_no4 hR (by omega), rfl, rfl, rfl⟩))

theorem hin_X1_addAgain_X1 : ∀ w ∈ wsX10, w ∈ wsX1_addAgain := by decide +kernel
theorem hfl_X1_addAgain_15 : Cond.fieldLink RX1 15 "CheapParse$Bytes" "size" "I" ∈ wsX1_addAgain := by decide +kernel
set_option maxHeartbeats 4000000 in
set_option maxRecDepth 100000 in
theorem c_X1_addAgain (zl : Launch) (G : jG) (h0 : Nat) (h1 : Nat) (R : Nat) (n : Nat) (d : Nat) (k : Nat) (f : Nat → Nat) (hR : R ≤ 700) (hk : n + k ≤ R) (hd1 : 1 ≤ d) (hd2 : d ≤ n) (hf : ∀ j, j < n → f j < 256) : jMet zl yX1_addAgain wsX1_addAgain ({ frames := 1, cells := 0, slots := 0, locals := 21 }) G [oC h0 1 [.ref h1, .int (nI n)], aI G h1 R f] [.ref h0, .int (nI d), .int (nI k)] (jQv G (fun (u : Unit) => True) (fun (u : Unit) => [oC h0 1 [.ref h1, .int (nI (n + k))], aI G h1 R (agn d k f n)])) 0 0 := by
  refine j_enter_v (cc := cX1_addAgain) (nL := 4) (nm := "addAgain") (own := RX1) (lv := [(0, .ref h0), (1, .int (nI d)), (2, .int (nI k))]) (by decide) rfl (Nat.le_of_ble_eq_true rfl) rfl rfl rfl ?_
  intro zA zp ze zs zm zargs zbelow zmeth zc zQ ls hC hQ hI hl
  have zx := hC.1
  have zb := hC.2.1
  refine lv_iconst (v := nI 0) zx zb dX1_addAgain_0 (by decide) ?_
  refine lv_istore_n (lv' := [(3, .int (nI 0)), (0, .ref h0), (1, .int (nI d)), (2, .int (nI k))]) zx zb dX1_addAgain_1 rfl hl (by decide) rfl (fun ls hl => ?_)
  have loop2 : ∀ (zn2 : Nat) (i : Nat) (m : Nat) (g : Nat → Nat), (m = n + i) → (agn d (k - i) g m = agn d k f n) → (i ≤ k) → (∀ j, j < m → g j < 256) → (k - i) < zn2 → ∀ (H : Heap) (locs : List Loc) (ls : Array Slot), jI G zA zs [oC h0 1 [.ref h1, .int (nI m)], aI G h1 R g] H locs → lv_has ls 4 [(0, .ref h0), (1, .int (nI d)), (2, .int (nI k)), (3, .int (nI i))] → W zp zl ze ({ frames := 1, cells := 0, slots := 0, locals := 21 }) zs zm zargs zbelow zmeth zc H locs 0 0 zQ (F0 zm 2 ls []) := by
    intro zn2
    induction zn2 with
    | zero => intros; omega
    | succ zn2 ih2 =>
      intro i m g ej eg ek hg zm2 H locs ls hI hl
      refine lv_iload_n zx zb dX1_addAgain_2 rfl (lv_at hl 3 rfl) ?_
      refine lv_iload_n zx zb dX1_addAgain_3 rfl (lv_at hl 2 rfl) ?_
      refine j_icmp_ge (tgt := 27) hC dX1_addAgain_4 (by decide) (by omega) (by omega) (fun c4 => ?_) (fun c4 => ?_)
      · have em : m = n + k := by omega
        subst em
        rw [show k - i = 0 by omega] at eg
        exact hQ _ _ _ _ () dX1_addAgain_27 (hI.sub [0, 1] rfl (by rw [← eg]; rfl)) trivial
      · refine lv_aload_n zx zb dX1_addAgain_7 rfl (lv_at hl 0 rfl) ?_
        refine lv_aload_n zx zb dX1_addAgain_8 rfl (lv_at hl 0 rfl) ?_
        refine lv_aload_n zx zb dX1_addAgain_9 rfl (lv_at hl 0 rfl) ?_
        refine j_get hC hI hin_X1_addAgain_X1 0 rfl rfl 1 (by decide) hfl_X1_addAgain_15 rfl rfl dX1_addAgain_10 ?_
        refine lv_iload_n zx zb dX1_addAgain_13 rfl (lv_at hl 1 rfl) ?_
        refine j_isub hC (by omega) dX1_addAgain_14 ?_
        refine j_callVi (wr := []) hC hI (c_X1_get_in zl G h0 h1 R m (m - d) g (by omega) (by omega) (by omega)) (cwV 1 hC.2.2.2.2.1 gX1_addAgain_X1_get rfl rfl rfl (by decide +kernel) ⟨Nat.le_of_ble_eq_true rfl, Nat.le_of_ble_eq_true rfl⟩) [0, 1] [] rfl rfl rfl rfl rfl rfl (q0 := 0) rfl rfl rfl hl.1 (Nat.le_of_ble_eq_true rfl) dX1_addAgain_15 ⟨Nat.le_of_ble_eq_true rfl, Nat.le_of_ble_eq_true rfl⟩ (fun r u15 H locs hp15 hI => ?_)
        have hI : jI G zA zs [oC h0 1 [.ref h1, .int (nI m)], aI G h1 R g] H locs := hI
        subst hp15
        refine j_callVv (wr := []) hC hI (c_X1_add zl G h0 h1 R m g (nI (g (m - d))) (by omega) (by omega)) (cwV 1 hC.2.2.2.2.1 gX1_addAgain_X1_add rfl rfl rfl (by decide +kernel) ⟨Nat.le_of_ble_eq_true rfl, Nat.le_of_ble_eq_true rfl⟩) [0, 1] [] rfl rfl rfl rfl rfl rfl (q0 := 0) rfl rfl rfl hl.1 (Nat.le_of_ble_eq_true rfl) dX1_addAgain_18 ⟨Nat.le_of_ble_eq_true rfl, Nat.le_of_ble_eq_true rfl⟩ (fun u18 H locs hp18 hI => ?_)
        have hI : jI G zA zs [oC h0 1 [.ref h1, .int (nI (m + 1))], aI G h1 R (up g m (by8 (nI (g (m - d)))))] H locs := hI
        refine lv_iinc (v := nI (i + 1)) (lv' := [(3, .int (nI (i + 1))), (0, .ref h0), (1, .int (nI d)), (2, .int (nI k))]) zx zb dX1_addAgain_21 hl (k := 3) rfl (j_inc _ _ _ (by decide)) (by decide) rfl (fun ls hl => ?_)
        refine lv_goto (tgt := 2) zx zb dX1_addAgain_24 (by decide) ?_
        rw [by8_nI (by have := hg (m - d) (by omega); omega), Nat.mod_eq_of_lt (hg (m - d) (by omega))] at hI
        exact ih2 (i + 1) (m + 1) (up g m (g (m - d))) (by omega) (by rw [← eg, show k - i = (k - (i + 1)) + 1 by omega]; rfl) (by omega) (up_lt hg (hg _ (by omega))) (by omega) _ _ _ hI (lv_sub hl [1, 2, 3, 0] rfl)
  exact loop2 _ 0 n f (by omega) rfl (by omega) hf (Nat.lt_succ_self _) _ _ _ hI (lv_sub hl [1, 2, 3, 0] rfl)

theorem hin_X1_copyOf_X1 : ∀ w ∈ wsX10, w ∈ wsX1_copyOf := by decide +kernel
theorem hfl_X1_copyOf_15 : Cond.fieldLink RX1 15 "CheapParse$Bytes" "size" "I" ∈ wsX1_copyOf := by decide +kernel
theorem hfl_X1_copyOf_9 : Cond.fieldLink RX1 9 "CheapParse$Bytes" "row" "[I" ∈ wsX1_copyOf := by decide +kernel
set_option maxHeartbeats 4000000 in
set_option maxRecDepth 100000 in
theorem c_X1_copyOf (zl : Launch) (G : jG) (h0 : Nat) (h1 : Nat) (g0 : Nat) (g1 : Nat) (R : Nat) (n : Nat) (R2 : Nat) (n2 : Nat) (f : Nat → Nat) (g : Nat → Nat) (hR : R ≤ 700) (h2 : n2 ≤ R) (h3 : n2 ≤ R2) : jMet zl yX1_copyOf wsX1_copyOf ({ frames := 1, cells := 0, slots := 0, locals := 30 }) G [oC h0 1 [.ref h1, .int (nI n)], aI G h1 R f, oC g0 1 [.ref g1, .int (nI n2)], aI G g1 R2 g] [.ref h0, .ref g0] (jQv G (fun (u : Unit) => True) (fun (u : Unit) => [oC h0 1 [.ref h1, .int (nI n2)], aI G h1 R (cpy g f n2), oC g0 1 [.ref g1, .int (nI n2)], aI G g1 R2 g])) 0 0 := by
  refine j_enter_v (cc := cX1_copyOf) (nL := 2) (nm := "copyOf") (own := RX1) (lv := [(0, .ref h0), (1, .ref g0)]) (by decide) rfl (Nat.le_of_ble_eq_true rfl) rfl rfl rfl ?_
  intro zA zp ze zs zm zargs zbelow zmeth zc zQ ls hC hQ hI hl
  have zx := hC.1
  have zb := hC.2.1
  refine lv_aload_n zx zb dX1_copyOf_0 rfl (lv_at hl 0 rfl) ?_
  refine lv_aload_n zx zb dX1_copyOf_1 rfl (lv_at hl 1 rfl) ?_
  refine j_get hC hI hin_X1_copyOf_X1 2 rfl rfl 1 (by decide) hfl_X1_copyOf_15 rfl rfl dX1_copyOf_2 ?_
  refine lv_aload_n zx zb dX1_copyOf_5 rfl (lv_at hl 0 rfl) ?_
  refine j_get hC hI hin_X1_copyOf_X1 0 rfl rfl 0 (by decide) hfl_X1_copyOf_9 rfl rfl dX1_copyOf_6 ?_
  refine j_alen hC hI 1 rfl dX1_copyOf_9 ?_
  refine j_min hC hl.1 (by decide +kernel) (by decide +kernel) (by decide +kernel) (by decide +kernel) (Nat.le_of_ble_eq_true rfl) (Nat.le_of_ble_eq_true rfl) (Nat.le_of_ble_eq_true rfl) (Nat.le_of_ble_eq_true rfl) (by omega) (by omega) dX1_copyOf_10 ?_
  rw [Nat.min_eq_left h2]
  refine j_put (w1 := [oC h0 1 [.ref h1, .int (nI n2)], aI G h1 R f, oC g0 1 [.ref g1, .int (nI n2)], aI G g1 R2 g]) hC hI hin_X1_copyOf_X1 tyX1 tyX1_ok nmX1 0 rfl rfl 1 (by decide) hfl_X1_copyOf_15 rfl rfl rfl rfl (Nat.le_of_ble_eq_true rfl) dX1_copyOf_13 rfl (fun H locs hI => ?_)
  refine lv_aload_n zx zb dX1_copyOf_16 rfl (lv_at hl 1 rfl) ?_
  refine j_get hC hI hin_X1_copyOf_X1 2 rfl rfl 0 (by decide) hfl_X1_copyOf_9 rfl rfl dX1_copyOf_17 ?_
  refine lv_iconst (v := nI 0) zx zb dX1_copyOf_20 (by decide) ?_
  refine lv_aload_n zx zb dX1_copyOf_21 rfl (lv_at hl 0 rfl) ?_
  refine j_get hC hI hin_X1_copyOf_X1 0 rfl rfl 0 (by decide) hfl_X1_copyOf_9 rfl rfl dX1_copyOf_22 ?_
  refine lv_iconst (v := nI 0) zx zb dX1_copyOf_25 (by decide) ?_
  refine lv_aload_n zx zb dX1_copyOf_26 rfl (lv_at hl 0 rfl) ?_
  refine j_get hC hI hin_X1_copyOf_X1 0 rfl rfl 1 (by decide) hfl_X1_copyOf_15 rfl rfl dX1_copyOf_27 ?_
  refine j_copy0 (w1 := [oC h0 1 [.ref h1, .int (nI n2)], aI G h1 R (cpy g f n2), oC g0 1 [.ref g1, .int (nI n2)], aI G g1 R2 g]) hC hl.1 (by decide +kernel) (by decide +kernel) (by decide +kernel) (by decide +kernel) hI 3 1 rfl rfl (by omega) (by omega) (by omega) (Nat.le_of_ble_eq_true rfl) (by decide) dX1_copyOf_30 rfl (fun H locs hI => ?_)
  exact hQ _ _ _ _ () dX1_copyOf_33 (hI.sub [0, 1, 2, 3] rfl rfl) trivial

theorem hin_X1_sameAs_X1 : ∀ w ∈ wsX10, w ∈ wsX1_sameAs := by decide +kernel
theorem hfl_X1_sameAs_15 : Cond.fieldLink RX1 15 "CheapParse$Bytes" "size" "I" ∈ wsX1_sameAs := by decide +kernel
theorem hfl_X1_sameAs_9 : Cond.fieldLink RX1 9 "CheapParse$Bytes" "row" "[I" ∈ wsX1_sameAs := by decide +kernel
set_option maxHeartbeats 4000000 in
set_option maxRecDepth 100000 in
theorem c_X1_sameAs (zl : Launch) (G : jG) (h0 : Nat) (h1 : Nat) (g0 : Nat) (g1 : Nat) (R : Nat) (n : Nat) (R2 : Nat) (n2 : Nat) (f : Nat → Nat) (g : Nat → Nat) (hR : R ≤ 700) (hR2 : R2 ≤ 700) (h2 : n ≤ R) (h3 : n2 ≤ R2) (hf : ∀ j, j < n → f j < 256) (hg : ∀ j, j < n2 → g j < 256) (hn : n = n2) (hfg : ∀ j, j < n → f j = g j) : jMet zl yX1_sameAs wsX1_sameAs ({ frames := 0, cells := 0, slots := 0, locals := 0 }) G [oC h0 1 [.ref h1, .int (nI n)], aI G h1 R f, oC g0 1 [.ref g1, .int (nI n2)], aI G g1 R2 g] [.ref h0, .ref g0] (jQi G (fun (r : Int32) (u : Unit) => (r = nI 1)) (fun (u : Unit) => [oC h0 1 [.ref h1, .int (nI n)], aI G h1 R f, oC g0 1 [.ref g1, .int (nI n2)], aI G g1 R2 g])) 0 0 := by
  refine j_enter_z (cc := cX1_sameAs) (nL := 3) (nm := "sameAs") (own := RX1) (lv := [(0, .ref h0), (1, .ref g0)]) (by decide) rfl (Nat.le_of_ble_eq_true rfl) rfl rfl rfl ?_
  intro zA zp ze zs zm zargs zbelow zmeth zc zQ ls hC hQ hI hl
  have zx := hC.1
  have zb := hC.2.1
  refine lv_aload_n zx zb dX1_sameAs_0 rfl (lv_at hl 0 rfl) ?_
  refine j_get hC hI hin_X1_sameAs_X1 0 rfl rfl 1 (by decide) hfl_X1_sameAs_15 rfl rfl dX1_sameAs_1 ?_
  refine lv_aload_n zx zb dX1_sameAs_4 rfl (lv_at hl 1 rfl) ?_
  refine j_get hC hI hin_X1_sameAs_X1 2 rfl rfl 1 (by decide) hfl_X1_sameAs_15 rfl rfl dX1_sameAs_5 ?_
  refine j_icmp_eq (tgt := 13) hC dX1_sameAs_8 (by decide) (by omega) (by omega) (fun c8 => ?_) (fun c8 => ?_)
  · refine lv_iconst (v := nI 0) zx zb dX1_sameAs_13 (by decide) ?_
    refine lv_istore_n (lv' := [(2, .int (nI 0)), (0, .ref h0), (1, .ref g0)]) zx zb dX1_sameAs_14 rfl hl (by decide) rfl (fun ls hl => ?_)
    have loop15 : ∀ (zn15 : Nat) (i : Nat), (i ≤ n) → (n - i) < zn15 → ∀ (H : Heap) (locs : List Loc) (ls : Array Slot), jI G zA zs [oC h0 1 [.ref h1, .int (nI n)], aI G h1 R f, oC g0 1 [.ref g1, .int (nI n2)], aI G g1 R2 g] H locs → lv_has ls 3 [(0, .ref h0), (1, .ref g0), (2, .int (nI i))] → W zp zl ze ({ frames := 0, cells := 0, slots := 0, locals := 0 }) zs zm zargs zbelow zmeth zc H locs 0 0 zQ (F0 zm 15 ls []) := by
      intro zn15
      induction zn15 with
      | zero => intros; omega
      | succ zn15 ih15 =>
        intro i hi zm15 H locs ls hI hl
        refine lv_iload_n zx zb dX1_sameAs_15 rfl (lv_at hl 2 rfl) ?_
        refine lv_aload_n zx zb dX1_sameAs_16 rfl (lv_at hl 0 rfl) ?_
        refine j_get hC hI hin_X1_sameAs_X1 0 rfl rfl 1 (by decide) hfl_X1_sameAs_15 rfl rfl dX1_sameAs_17 ?_
        refine j_icmp_ge (tgt := 46) hC dX1_sameAs_20 (by decide) (by omega) (by omega) (fun c20 => ?_) (fun c20 => ?_)
        · refine lv_iconst (v := nI 1) zx zb dX1_sameAs_46 (by decide) ?_
          exact hQ _ _ _ _ _ () dX1_sameAs_47 rfl (hI.sub [0, 1, 2, 3] rfl rfl) (by first | rfl | (congr 1; omega) | omega)
        · refine lv_aload_n zx zb dX1_sameAs_23 rfl (lv_at hl 0 rfl) ?_
          refine j_get hC hI hin_X1_sameAs_X1 0 rfl rfl 0 (by decide) hfl_X1_sameAs_9 rfl rfl dX1_sameAs_24 ?_
          refine lv_iload_n zx zb dX1_sameAs_27 rfl (lv_at hl 2 rfl) ?_
          refine j_iald hC hI 1 rfl (by omega) (by omega) dX1_sameAs_28 ?_
          have b28 := hf i (by omega)
          refine lv_aload_n zx zb dX1_sameAs_29 rfl (lv_at hl 1 rfl) ?_
          refine j_get hC hI hin_X1_sameAs_X1 2 rfl rfl 0 (by decide) hfl_X1_sameAs_9 rfl rfl dX1_sameAs_30 ?_
          refine lv_iload_n zx zb dX1_sameAs_33 rfl (lv_at hl 2 rfl) ?_
          refine j_iald hC hI 3 rfl (by omega) (by omega) dX1_sameAs_34 ?_
          have b34 := hg i (by omega)
          refine j_icmp_eq (tgt := 40) hC dX1_sameAs_35 (by decide) (by omega) (by omega) (fun c35 => ?_) (fun c35 => ?_)
          · refine lv_iinc (v := nI (i + 1)) (lv' := [(2, .int (nI (i + 1))), (0, .ref h0), (1, .ref g0)]) zx zb dX1_sameAs_40 hl (k := 2) rfl (j_inc _ _ _ (by decide)) (by decide) rfl (fun ls hl => ?_)
            refine lv_goto (tgt := 15) zx zb dX1_sameAs_43 (by decide) ?_
            exact ih15 (i + 1) (by omega) (by omega) _ _ _ hI (lv_sub hl [1, 2, 0] rfl)
          · exact absurd (hfg i (by omega)) c35
    exact loop15 _ 0 (by omega) (Nat.lt_succ_self _) _ _ _ hI (lv_sub hl [1, 2, 0] rfl)
  · exact (by omega : False).elim

theorem hin_X1_repeats_X1 : ∀ w ∈ wsX10, w ∈ wsX1_repeats := by decide +kernel
theorem hfl_X1_repeats_15 : Cond.fieldLink RX1 15 "CheapParse$Bytes" "size" "I" ∈ wsX1_repeats := by decide +kernel
theorem hfl_X1_repeats_9 : Cond.fieldLink RX1 9 "CheapParse$Bytes" "row" "[I" ∈ wsX1_repeats := by decide +kernel
set_option maxHeartbeats 4000000 in
set_option maxRecDepth 100000 in
theorem c_X1_repeats (zl : Launch) (G : jG) (h0 : Nat) (h1 : Nat) (R : Nat) (n : Nat) (p : Nat) (d : Nat) (k : Nat) (f : Nat → Nat) (hR : R ≤ 700) (h2 : n ≤ R) (hf : ∀ j, j < n → f j < 256) (hp : p + k ≤ n) (hd1 : 1 ≤ d) (hd2 : d ≤ p) : jMet zl yX1_repeats wsX1_repeats ({ frames := 0, cells := 0, slots := 0, locals := 0 }) G [oC h0 1 [.ref h1, .int (nI n)], aI G h1 R f] [.ref h0, .int (nI p), .int (nI d), .int (nI k)] (jQi G (fun (r : Int32) (u : Nat) => (r = nI u) ∧ (u ≤ 1) ∧ (u = 1 ↔ ∀ j, j < k → f (p + j) = f (p + j - d))) (fun (u : Nat) => [oC h0 1 [.ref h1, .int (nI n)], aI G h1 R f])) 0 0 := by
  refine j_enter_z (cc := cX1_repeats) (nL := 5) (nm := "repeats") (own := RX1) (lv := [(0, .ref h0), (1, .int (nI p)), (2, .int (nI d)), (3, .int (nI k))]) (by decide) rfl (Nat.le_of_ble_eq_true rfl) rfl rfl rfl ?_
  intro zA zp ze zs zm zargs zbelow zmeth zc zQ ls hC hQ hI hl
  have zx := hC.1
  have zb := hC.2.1
  refine lv_iload_n zx zb dX1_repeats_0 rfl (lv_at hl 2 rfl) ?_
  refine lv_iconst (v := nI 1) zx zb dX1_repeats_1 (by decide) ?_
  refine j_icmp_lt (tgt := 20) hC dX1_repeats_2 (by decide) (by omega) (by omega) (fun c2 => ?_) (fun c2 => ?_)
  · exact (by omega : False).elim
  · refine lv_iload_n zx zb dX1_repeats_5 rfl (lv_at hl 2 rfl) ?_
    refine lv_iload_n zx zb dX1_repeats_6 rfl (lv_at hl 1 rfl) ?_
    refine j_icmp_gt (tgt := 20) hC dX1_repeats_7 (by decide) (by omega) (by omega) (fun c7 => ?_) (fun c7 => ?_)
    · exact (by omega : False).elim
    · refine lv_iload_n zx zb dX1_repeats_10 rfl (lv_at hl 3 rfl) ?_
      refine lv_aload_n zx zb dX1_repeats_11 rfl (lv_at hl 0 rfl) ?_
      refine j_get hC hI hin_X1_repeats_X1 0 rfl rfl 1 (by decide) hfl_X1_repeats_15 rfl rfl dX1_repeats_12 ?_
      refine lv_iload_n zx zb dX1_repeats_15 rfl (lv_at hl 1 rfl) ?_
      refine j_isub hC (by omega) dX1_repeats_16 ?_
      refine j_icmp_le (tgt := 22) hC dX1_repeats_17 (by decide) (by omega) (by omega) (fun c17 => ?_) (fun c17 => ?_)
      · refine lv_iload_n zx zb dX1_repeats_22 rfl (lv_at hl 1 rfl) ?_
        refine lv_istore (lv' := [(4, .int (nI p)), (0, .ref h0), (1, .int (nI p)), (2, .int (nI d)), (3, .int (nI k))]) zx zb dX1_repeats_23 hl (by decide) rfl (fun ls hl => ?_)
        have loop25 : ∀ (zn25 : Nat) (i : Nat), (p ≤ i ∧ i ≤ p + k) → (∀ j, j < i - p → f (p + j) = f (p + j - d)) → (p + k - i) < zn25 → ∀ (H : Heap) (locs : List Loc) (ls : Array Slot), jI G zA zs [oC h0 1 [.ref h1, .int (nI n)], aI G h1 R f] H locs → lv_has ls 5 [(0, .ref h0), (1, .int (nI p)), (2, .int (nI d)), (3, .int (nI k)), (4, .int (nI i))] → W zp zl ze ({ frames := 0, cells := 0, slots := 0, locals := 0 }) zs zm zargs zbelow zmeth zc H locs 0 0 zQ (F0 zm 25 ls []) := by
          intro zn25
          induction zn25 with
          | zero => intros; omega
          | succ zn25 ih25 =>
            intro i hi hs zm25 H locs ls hI hl
            refine lv_iload zx zb dX1_repeats_25 (lv_at hl 4 rfl) ?_
            refine lv_iload_n zx zb dX1_repeats_27 rfl (lv_at hl 1 rfl) ?_
            refine lv_iload_n zx zb dX1_repeats_28 rfl (lv_at hl 3 rfl) ?_
            refine j_iadd hC dX1_repeats_29 ?_
            refine j_icmp_ge (tgt := 60) hC dX1_repeats_30 (by decide) (by omega) (by omega) (fun c30 => ?_) (fun c30 => ?_)
            · refine lv_iconst (v := nI 1) zx zb dX1_repeats_60 (by decide) ?_
              exact hQ _ _ _ _ _ 1 dX1_repeats_61 rfl (hI.sub [0, 1] rfl rfl) ⟨(by first | rfl | (congr 1; omega) | omega), (by omega), (by rw [show i - p = k by omega] at hs; exact ⟨fun _ => hs, fun _ => rfl⟩)⟩
            · refine lv_aload_n zx zb dX1_repeats_33 rfl (lv_at hl 0 rfl) ?_
              refine j_get hC hI hin_X1_repeats_X1 0 rfl rfl 0 (by decide) hfl_X1_repeats_9 rfl rfl dX1_repeats_34 ?_
              refine lv_iload zx zb dX1_repeats_37 (lv_at hl 4 rfl) ?_
              refine j_iald hC hI 1 rfl (by omega) (by omega) dX1_repeats_39 ?_
              have b39 := hf i (by omega)
              refine lv_aload_n zx zb dX1_repeats_40 rfl (lv_at hl 0 rfl) ?_
              refine j_get hC hI hin_X1_repeats_X1 0 rfl rfl 0 (by decide) hfl_X1_repeats_9 rfl rfl dX1_repeats_41 ?_
              refine lv_iload zx zb dX1_repeats_44 (lv_at hl 4 rfl) ?_
              refine lv_iload_n zx zb dX1_repeats_46 rfl (lv_at hl 2 rfl) ?_
              refine j_isub hC (by omega) dX1_repeats_47 ?_
              refine j_iald hC hI 1 rfl (by omega) (by omega) dX1_repeats_48 ?_
              have b48 := hf (i - d) (by omega)
              refine j_icmp_eq (tgt := 54) hC dX1_repeats_49 (by decide) (by omega) (by omega) (fun c49 => ?_) (fun c49 => ?_)
              · refine lv_iinc (v := nI (i + 1)) (lv' := [(4, .int (nI (i + 1))), (0, .ref h0), (1, .int (nI p)), (2, .int (nI d)), (3, .int (nI k))]) zx zb dX1_repeats_54 hl (k := 4) rfl (j_inc _ _ _ (by decide)) (by decide) rfl (fun ls hl => ?_)
                refine lv_goto (tgt := 25) zx zb dX1_repeats_57 (by decide) ?_
                exact ih25 (i + 1) (by omega) (rp_step hs (by omega) c49) (by omega) _ _ _ hI (lv_sub hl [1, 2, 3, 4, 0] rfl)
              · refine lv_iconst (v := nI 0) zx zb dX1_repeats_52 (by decide) ?_
                exact hQ _ _ _ _ _ 0 dX1_repeats_53 rfl (hI.sub [0, 1] rfl rfl) ⟨(by first | rfl | (congr 1; omega) | omega), (by omega), (rp_no (by omega) (by omega) c49)⟩
        exact loop25 _ p (by omega) (fun j hj => by omega) (Nat.lt_succ_self _) _ _ _ hI (lv_sub hl [1, 2, 3, 4, 0] rfl)
      · exact (by omega : False).elim
end
section
/-! classes of numbers -/
theorem cl_ge {n i : Nat} (h : 0 < n / 2 ^ i) : 2 ^ (i + 1 - 1) ≤ n := by
  rw [Nat.add_sub_cancel]
  exact Nat.le_of_not_lt (fun q => by rw [Nat.div_eq_of_lt q] at h; omega)
theorem cl_lt {n i : Nat} (h : n / 2 ^ i = 0) : n < 2 ^ i := by
  rcases Nat.div_eq_zero_iff.mp h with q | q
  · have := Nat.two_pow_pos i; omega
  · exact q
theorem cl_eq {n i h : Nat} (h1 : 1 ≤ i) (h2 : h + 1 = i) (h3 : i = 1 ∨ 2 ^ (i - 1) ≤ n) (h4 : n < 2 ^ i) : h = n.log2 := by
  subst h2
  rcases Nat.eq_zero_or_pos n with z | z
  · subst z
    rcases h3 with q | q
    · rw [Nat.log2_zero]; omega
    · have := Nat.two_pow_pos (h + 1 - 1); omega
  · refine ((Nat.log2_eq_iff (by omega)).mpr ⟨?_, h4⟩).symm
    rcases h3 with q | q
    · rw [show h = 0 by omega, Nat.pow_zero]; exact z
    · exact q
/-! limits -/
def lim_rel (la lm lw : Nat) (a m w r : Int32) (la2 lm2 lw2 : Nat) : Prop :=
  (2 ≤ la2 ∧ la2 ≤ 16 ∧ la2 ≤ lm2 ∧ lm2 ≤ 255 ∧ 1 ≤ lw2 ∧ lw2 ≤ 500 ∧ a = nI la2 ∧ m = nI lm2 ∧ w = nI lw2 ∧ r = nI 1) ∨
  ((∀ x y z, 2 ≤ x → x ≤ 16 → x ≤ y → y ≤ 255 → 1 ≤ z → z ≤ 500 → ¬ (a = nI x ∧ m = nI y ∧ w = nI z)) ∧ r = nI 0 ∧ la2 = la ∧ lm2 = lm ∧ lw2 = lw)
theorem nI_ltZ {x b : Nat} (hx : x < 2147483648) (hb : b < 2147483648) (h : nI x < nI b) : x < b := (nI_ltI (by omega) (by omega)).mp h
theorem nI_inj {x y : Nat} (hx : x < 2147483648) (hy : y < 2147483648) (h : nI x = nI y) : x = y := (nI_eq (by omega) (by omega)).mp h
theorem lm_no1 {a m w : Int32} (h : a < nI 2) : ∀ x y z, 2 ≤ x → x ≤ 16 → x ≤ y → y ≤ 255 → 1 ≤ z → z ≤ 500 → ¬ (a = nI x ∧ m = nI y ∧ w = nI z) := by
  rintro x y z h1 h2 h3 h4 h5 h6 ⟨rfl, rfl, rfl⟩
  have := nI_ltZ (by omega) (by omega) h; omega
theorem lm_no2 {j : Nat} {m w : Int32} (h : 16 < j ∧ j < 2147483648) : ∀ x y z, 2 ≤ x → x ≤ 16 → x ≤ y → y ≤ 255 → 1 ≤ z → z ≤ 500 → ¬ (nI j = nI x ∧ m = nI y ∧ w = nI z) := by
  rintro x y z h1 h2 h3 h4 h5 h6 ⟨e, rfl, rfl⟩
  have := nI_inj (by omega) (by omega) e; omega
theorem lm_no3 {j : Nat} {m w : Int32} (h : m < nI j) (hj : 2 ≤ j ∧ j ≤ 16) : ∀ x y z, 2 ≤ x → x ≤ 16 → x ≤ y → y ≤ 255 → 1 ≤ z → z ≤ 500 → ¬ (nI j = nI x ∧ m = nI y ∧ w = nI z) := by
  rintro x y z h1 h2 h3 h4 h5 h6 ⟨e, rfl, rfl⟩
  have := nI_inj (by omega) (by omega) e
  have := nI_ltZ (by omega) (by omega) h; omega
theorem lm_no4 {i j : Nat} {w : Int32} (h : 255 < j ∧ j < 2147483648) : ∀ x y z, 2 ≤ x → x ≤ 16 → x ≤ y → y ≤ 255 → 1 ≤ z → z ≤ 500 → ¬ (nI i = nI x ∧ nI j = nI y ∧ w = nI z) := by
  rintro x y z h1 h2 h3 h4 h5 h6 ⟨-, e, rfl⟩
  have := nI_inj (by omega) (by omega) e; omega
theorem lm_no5 {i j : Nat} {w : Int32} (h : w < nI 1) : ∀ x y z, 2 ≤ x → x ≤ 16 → x ≤ y → y ≤ 255 → 1 ≤ z → z ≤ 500 → ¬ (nI i = nI x ∧ nI j = nI y ∧ w = nI z) := by
  rintro x y z h1 h2 h3 h4 h5 h6 ⟨-, -, rfl⟩
  have := nI_ltZ (by omega) (by omega) h; omega
theorem lm_no6 {i j k : Nat} (h : 500 < k ∧ k < 2147483648) : ∀ x y z, 2 ≤ x → x ≤ 16 → x ≤ y → y ≤ 255 → 1 ≤ z → z ≤ 500 → ¬ (nI i = nI x ∧ nI j = nI y ∧ nI k = nI z) := by
  rintro x y z h1 h2 h3 h4 h5 h6 ⟨-, -, e⟩
  have := nI_inj (by omega) (by omega) e; omega
/-! bits in bytes -/
/-- the number of the first e bits of byte k -/
def bv (w : Nat → Nat) (k : Nat) : Nat → Nat
  | 0 => 0
  | e + 1 => 2 * bv w k e + w (8 * k + e)
theorem bv_congr {w w2 : Nat → Nat} {k : Nat} : ∀ e, (∀ j, j < e → w (8 * k + j) = w2 (8 * k + j)) → bv w k e = bv w2 k e
  | 0, _ => rfl
  | e + 1, h => by rw [bv, bv, bv_congr e (fun j hj => h j (by omega)), h e (by omega)]
/-- the row f holds the b bits w -/
def bwOK (f : Nat → Nat) (b : Nat) (w : Nat → Nat) : Prop := (∀ j, j < b → w j ≤ 1) ∧ ∀ k, k < (b + 7) / 8 → f k = bv w k (min 8 (b - 8 * k)) * 2 ^ (8 - min 8 (b - 8 * k))
/-- k bits of v more -/
def pt (v : Nat) : Nat → (Nat → Nat) → Nat → (Nat → Nat)
  | 0, w, _ => w
  | k + 1, w, b => pt v k (up w b (v / 2 ^ k % 2)) (b + 1)
theorem bv_lt {w : Nat → Nat} {k : Nat} : ∀ e, (∀ j, j < e → w (8 * k + j) ≤ 1) → bv w k e < 2 ^ e
  | 0, _ => by simp [bv]
  | e + 1, h => by
    have h1 := bv_lt e (fun j hj => h j (by omega))
    have h2 := h e (by omega)
    rw [bv, Nat.pow_succ]; omega
theorem bw_sh {v i : Nat} (hv : v ≤ 1) : v * 2 ^ (7 - i % 8) < 4294967296 := by
  have h1 : 2 ^ (7 - i % 8) ≤ 2 ^ 7 := Nat.pow_le_pow_right (by decide) (by omega)
  have h2 : v * 2 ^ (7 - i % 8) ≤ 1 * 2 ^ (7 - i % 8) := Nat.mul_le_mul_right _ hv
  omega
theorem lor_add {x v s : Nat} (hv : v < 2 ^ s) : (x * 2 ^ s) ||| v = x * 2 ^ s + v := by
  have := Nat.two_pow_add_eq_or_of_lt hv x
  rw [Nat.mul_comm x, ← this]
theorem bw_putc {f g w : Nat → Nat} {b v : Nat} (hb0 : b < 4520) (hv : v ≤ 1) (hw : bwOK f b w) (h1 : g (b / 8) = bv w (b / 8) (b % 8) * 2 ^ (8 - b % 8) ||| v * 2 ^ (7 - b % 8)) (h2 : ∀ k, k ≠ b / 8 → g k = f k) : bwOK g (b + 1) (up w b v) := by
  refine ⟨fun j hj => ?_, fun k hk => ?_⟩
  · by_cases e : j = b
    · subst e; rw [up_s]; exact hv
    · rw [up_n e]; exact hw.1 j (by omega)
  · by_cases e : k = b / 8
    · subst e
      have hm : min 8 (b + 1 - 8 * (b / 8)) = b % 8 + 1 := by omega
      rw [hm, bv, h1]
      have e1 : 8 * (b / 8) + b % 8 = b := by omega
      rw [e1, up_s, bv_congr (w2 := w) (b % 8) (fun j hj => up_n (by omega))]
      have e2 : 8 - b % 8 = (7 - b % 8) + 1 := by omega
      have e3 : 8 - (b % 8 + 1) = 7 - b % 8 := by omega
      have h3 : v * 2 ^ (7 - b % 8) < 2 ^ (8 - b % 8) := by
        rw [e2, Nat.pow_succ]
        have : 0 < 2 ^ (7 - b % 8) := Nat.two_pow_pos _
        have : v * 2 ^ (7 - b % 8) ≤ 1 * 2 ^ (7 - b % 8) := Nat.mul_le_mul_right _ hv
        omega
      rw [lor_add h3, e3, e2, Nat.pow_succ, Nat.add_mul, Nat.mul_comm 2, Nat.mul_assoc, Nat.mul_comm 2 (2 ^ (7 - b % 8))]
    · have hk2 : k < b / 8 := by omega
      rw [h2 k e, hw.2 k (by omega)]
      have hm : min 8 (b + 1 - 8 * k) = 8 := by omega
      have hm2 : min 8 (b - 8 * k) = 8 := by omega
      rw [hm, hm2, bv_congr (w2 := w) 8 (fun j hj => up_n (by omega))]
theorem bw_put1 {f w : Nat → Nat} {b v : Nat} (hb0 : b < 4520) (hv : v ≤ 1) (hw : bwOK f b w) (c : b % 8 ≠ 0) : bwOK (up f (b / 8) (f (b / 8) ||| v * 2 ^ (7 - b % 8))) (b + 1) (up w b v) := by
  refine bw_putc hb0 hv hw ?_ (fun k hk => up_n hk)
  rw [up_s, hw.2 (b / 8) (by omega), show min 8 (b - 8 * (b / 8)) = b % 8 by omega]
theorem bw_put2 {f w : Nat → Nat} {b v : Nat} (hb0 : b < 4520) (hv : v ≤ 1) (hw : bwOK f b w) (c : b % 8 = 0) : bwOK (up (up f (b / 8) 0) (b / 8) (up f (b / 8) 0 (b / 8) ||| v * 2 ^ (7 - b % 8))) (b + 1) (up w b v) := by
  refine bw_putc hb0 hv hw ?_ (fun k hk => by rw [up_n hk, up_n hk])
  rw [up_s, up_s, c]
  simp [bv]
theorem bw_0 (f w : Nat → Nat) : bwOK f 0 w := ⟨fun j hj => by omega, fun k hk => by omega⟩
end
section
set_option maxHeartbeats 4000000 in
set_option maxRecDepth 100000 in
theorem c_X8_classOf (zl : Launch) (G : jG) (n : Nat) (hn : n < 2147483648) : jMet zl yX8_classOf wsX8_classOf ({ frames := 0, cells := 0, slots := 0, locals := 0 }) G [] [.int (nI n)] (jQi G (fun (r : Int32) (u : Unit) => (r = nI n.log2)) (fun (u : Unit) => [])) 0 0 := by
  refine j_enter_i (cc := cX8_classOf) (nL := 3) (nm := "classOf") (own := RX8) (lv := [(0, .int (nI n))]) (by decide) rfl (Nat.le_of_ble_eq_true rfl) rfl rfl rfl ?_
  intro zA zp ze zs zm zargs zbelow zmeth zc zQ ls hC hQ hI hl
  have zx := hC.1
  have zb := hC.2.1
  refine lv_iconst (v := nI 0) zx zb dX8_classOf_0 (by decide) ?_
  refine lv_istore_n (lv' := [(1, .int (nI 0)), (0, .int (nI n))]) zx zb dX8_classOf_1 rfl hl (by decide) rfl (fun ls hl => ?_)
  refine lv_iconst (v := nI 1) zx zb dX8_classOf_2 (by decide) ?_
  refine lv_istore_n (lv' := [(2, .int (nI 1)), (1, .int (nI 0)), (0, .int (nI n))]) zx zb dX8_classOf_3 rfl hl (by decide) rfl (fun ls hl => ?_)
  have loop4 : ∀ (zn4 : Nat) (i : Nat) (h : Nat), (1 ≤ i ∧ i ≤ 31) → (h + 1 = i) → (i = 1 ∨ 2 ^ (i - 1) ≤ n) → (31 - i) < zn4 → ∀ (H : Heap) (locs : List Loc) (ls : Array Slot), jI G zA zs [] H locs → lv_has ls 3 [(0, .int (nI n)), (1, .int (nI h)), (2, .int (nI i))] → W zp zl ze ({ frames := 0, cells := 0, slots := 0, locals := 0 }) zs zm zargs zbelow zmeth zc H locs 0 0 zQ (F0 zm 4 ls []) := by
    intro zn4
    induction zn4 with
    | zero => intros; omega
    | succ zn4 ih4 =>
      intro i h h1 h2 h3 zm4 H locs ls hI hl
      refine lv_iload_n zx zb dX8_classOf_4 rfl (lv_at hl 2 rfl) ?_
      refine lv_bipush (v := nI 31) zx zb dX8_classOf_5 (by decide) ?_
      refine j_icmp_ge (tgt := 24) hC dX8_classOf_7 (by decide) (by omega) (by omega) (fun c7 => ?_) (fun c7 => ?_)
      · refine lv_iload_n zx zb dX8_classOf_24 rfl (lv_at hl 1 rfl) ?_
        exact hQ _ _ _ _ _ () dX8_classOf_25 (hI.sub [] rfl rfl) (congrArg nI (cl_eq h1.1 h2 h3 (by rw [show i = 31 by omega]; exact hn)))
      · refine lv_iload_n zx zb dX8_classOf_10 rfl (lv_at hl 0 rfl) ?_
        refine lv_iload_n zx zb dX8_classOf_11 rfl (lv_at hl 2 rfl) ?_
        refine j_ishr hC (by omega) (by omega) dX8_classOf_12 ?_
        refine j_if_le (tgt := 24) hC dX8_classOf_13 (by decide) (Nat.lt_of_le_of_lt (Nat.div_le_self _ _) hn) (fun c13 => ?_) (fun c13 => ?_)
        · refine lv_iload_n zx zb dX8_classOf_24 rfl (lv_at hl 1 rfl) ?_
          exact hQ _ _ _ _ _ () dX8_classOf_25 (hI.sub [] rfl rfl) (congrArg nI (cl_eq h1.1 h2 h3 (cl_lt c13)))
        · refine lv_iload_n zx zb dX8_classOf_16 rfl (lv_at hl 2 rfl) ?_
          refine lv_istore_n (lv' := [(1, .int (nI i)), (0, .int (nI n)), (2, .int (nI i))]) zx zb dX8_classOf_17 rfl hl (by decide) rfl (fun ls hl => ?_)
          refine lv_iinc (v := nI (i + 1)) (lv' := [(2, .int (nI (i + 1))), (1, .int (nI i)), (0, .int (nI n))]) zx zb dX8_classOf_18 hl (k := 2) rfl (j_inc _ _ _ (by decide)) (by decide) rfl (fun ls hl => ?_)
          refine lv_goto (tgt := 4) zx zb dX8_classOf_21 (by decide) ?_
          exact ih4 (i + 1) i (by omega) (by omega) (Or.inr (cl_ge c13)) (by omega) _ _ _ hI (lv_sub hl [2, 1, 0] rfl)
  exact loop4 _ 1 0 (by omega) (by omega) (by omega) (Nat.lt_succ_self _) _ _ _ hI (lv_sub hl [2, 1, 0] rfl)

theorem hin_X5_least_X5 : ∀ w ∈ wsX50, w ∈ wsX5_least := by decide +kernel
theorem hfl_X5_least_9 : Cond.fieldLink RX5 9 "CheapParse$Rules" "least" "I" ∈ wsX5_least := by decide +kernel
set_option maxHeartbeats 4000000 in
set_option maxRecDepth 100000 in
theorem c_X5_least (zl : Launch) (G : jG) (h0 : Nat) (la : Nat) (lm : Nat) (lw : Nat)  : jMet zl yX5_least wsX5_least ({ frames := 0, cells := 0, slots := 0, locals := 0 }) G [oC h0 5 [.int (nI la), .int (nI lm), .int (nI lw)]] [.ref h0] (jQi G (fun (r : Int32) (u : Unit) => (r = nI la)) (fun (u : Unit) => [oC h0 5 [.int (nI la), .int (nI lm), .int (nI lw)]])) 0 0 := by
  refine j_enter_i (cc := cX5_least) (nL := 1) (nm := "least") (own := RX5) (lv := [(0, .ref h0)]) (by decide) rfl (Nat.le_of_ble_eq_true rfl) rfl rfl rfl ?_
  intro zA zp ze zs zm zargs zbelow zmeth zc zQ ls hC hQ hI hl
  have zx := hC.1
  have zb := hC.2.1
  refine lv_aload_n zx zb dX5_least_0 rfl (lv_at hl 0 rfl) ?_
  refine j_get hC hI hin_X5_least_X5 0 rfl rfl 0 (by decide) hfl_X5_least_9 rfl rfl dX5_least_1 ?_
  exact hQ _ _ _ _ _ () dX5_least_4 (hI.sub [0] rfl rfl) (by first | rfl | (congr 1; omega) | omega)

theorem hin_X5_most_X5 : ∀ w ∈ wsX50, w ∈ wsX5_most := by decide +kernel
theorem hfl_X5_most_15 : Cond.fieldLink RX5 15 "CheapParse$Rules" "most" "I" ∈ wsX5_most := by decide +kernel
set_option maxHeartbeats 4000000 in
set_option maxRecDepth 100000 in
theorem c_X5_most (zl : Launch) (G : jG) (h0 : Nat) (la : Nat) (lm : Nat) (lw : Nat)  : jMet zl yX5_most wsX5_most ({ frames := 0, cells := 0, slots := 0, locals := 0 }) G [oC h0 5 [.int (nI la), .int (nI lm), .int (nI lw)]] [.ref h0] (jQi G (fun (r : Int32) (u : Unit) => (r = nI lm)) (fun (u : Unit) => [oC h0 5 [.int (nI la), .int (nI lm), .int (nI lw)]])) 0 0 := by
  refine j_enter_i (cc := cX5_most) (nL := 1) (nm := "most") (own := RX5) (lv := [(0, .ref h0)]) (by decide) rfl (Nat.le_of_ble_eq_true rfl) rfl rfl rfl ?_
  intro zA zp ze zs zm zargs zbelow zmeth zc zQ ls hC hQ hI hl
  have zx := hC.1
  have zb := hC.2.1
  refine lv_aload_n zx zb dX5_most_0 rfl (lv_at hl 0 rfl) ?_
  refine j_get hC hI hin_X5_most_X5 0 rfl rfl 1 (by decide) hfl_X5_most_15 rfl rfl dX5_most_1 ?_
  exact hQ _ _ _ _ _ () dX5_most_4 (hI.sub [0] rfl rfl) (by first | rfl | (congr 1; omega) | omega)

theorem hin_X5_window_X5 : ∀ w ∈ wsX50, w ∈ wsX5_window := by decide +kernel
theorem hfl_X5_window_18 : Cond.fieldLink RX5 18 "CheapParse$Rules" "window" "I" ∈ wsX5_window := by decide +kernel
set_option maxHeartbeats 4000000 in
set_option maxRecDepth 100000 in
theorem c_X5_window (zl : Launch) (G : jG) (h0 : Nat) (la : Nat) (lm : Nat) (lw : Nat)  : jMet zl yX5_window wsX5_window ({ frames := 0, cells := 0, slots := 0, locals := 0 }) G [oC h0 5 [.int (nI la), .int (nI lm), .int (nI lw)]] [.ref h0] (jQi G (fun (r : Int32) (u : Unit) => (r = nI lw)) (fun (u : Unit) => [oC h0 5 [.int (nI la), .int (nI lm), .int (nI lw)]])) 0 0 := by
  refine j_enter_i (cc := cX5_window) (nL := 1) (nm := "window") (own := RX5) (lv := [(0, .ref h0)]) (by decide) rfl (Nat.le_of_ble_eq_true rfl) rfl rfl rfl ?_
  intro zA zp ze zs zm zargs zbelow zmeth zc zQ ls hC hQ hI hl
  have zx := hC.1
  have zb := hC.2.1
  refine lv_aload_n zx zb dX5_window_0 rfl (lv_at hl 0 rfl) ?_
  refine j_get hC hI hin_X5_window_X5 0 rfl rfl 2 (by decide) hfl_X5_window_18 rfl rfl dX5_window_1 ?_
  exact hQ _ _ _ _ _ () dX5_window_4 (hI.sub [0] rfl rfl) (by first | rfl | (congr 1; omega) | omega)

theorem hin_X5_change_X5 : ∀ w ∈ wsX50, w ∈ wsX5_change := by decide +kernel
theorem hfl_X5_change_9 : Cond.fieldLink RX5 9 "CheapParse$Rules" "least" "I" ∈ wsX5_change := by decide +kernel
theorem hfl_X5_change_15 : Cond.fieldLink RX5 15 "CheapParse$Rules" "most" "I" ∈ wsX5_change := by decide +kernel
theorem hfl_X5_change_18 : Cond.fieldLink RX5 18 "CheapParse$Rules" "window" "I" ∈ wsX5_change := by decide +kernel
set_option maxHeartbeats 4000000 in
set_option maxRecDepth 100000 in
theorem c_X5_change (zl : Launch) (G : jG) (h0 : Nat) (la : Nat) (lm : Nat) (lw : Nat) (a : Int32) (m : Int32) (w : Int32)  : jMet zl yX5_change wsX5_change ({ frames := 0, cells := 0, slots := 0, locals := 0 }) G [oC h0 5 [.int (nI la), .int (nI lm), .int (nI lw)]] [.ref h0, .int a, .int m, .int w] (jQi G (fun (r : Int32) (u : Nat × Nat × Nat) => (lim_rel la lm lw a m w r u.1 u.2.1 u.2.2)) (fun (u : Nat × Nat × Nat) => [oC h0 5 [.int (nI u.1), .int (nI u.2.1), .int (nI u.2.2)]])) 0 0 := by
  refine j_enter_z (cc := cX5_change) (nL := 5) (nm := "change") (own := RX5) (lv := [(0, .ref h0), (1, .int a), (2, .int m), (3, .int w)]) (by decide) rfl (Nat.le_of_ble_eq_true rfl) rfl rfl rfl ?_
  intro zA zp ze zs zm zargs zbelow zmeth zc zQ ls hC hQ hI hl
  have zx := hC.1
  have zb := hC.2.1
  refine lv_iload_n zx zb dX5_change_0 rfl (lv_at hl 1 rfl) ?_
  refine lv_iconst (v := nI 2) zx zb dX5_change_1 (by decide) ?_
  refine jz_icmp_lt (tgt := 39) hC dX5_change_2 (by decide) (by omega) (fun c2 => ?_) (fun j2 j2a j2b j2e => ?_)
  · refine lv_iconst (v := nI 0) zx zb dX5_change_39 (by decide) ?_
    refine lv_istore (lv' := [(4, .int (nI 0)), (0, .ref h0), (1, .int a), (2, .int m), (3, .int w)]) zx zb dX5_change_40 hl (by decide) rfl (fun ls hl => ?_)
    refine lv_iload zx zb dX5_change_42 (lv_at hl 0 rfl) ?_
    refine j_if_eq (tgt := 62) hC dX5_change_44 (by decide) (by omega) (fun c44 => ?_) (fun c44 => ?_)
    · refine lv_iload zx zb dX5_change_62 (lv_at hl 0 rfl) ?_
      exact hQ _ _ _ _ _ ⟨la, lm, lw⟩ dX5_change_64 rfl (hI.sub [0] rfl rfl) (by (try dsimp only); exact (Or.inr ⟨lm_no1 c2, rfl, rfl, rfl, rfl⟩))
    · exact (by omega : False).elim
  · subst j2e
    refine lv_iload_n zx zb dX5_change_5 rfl (lv_at hl 1 rfl) ?_
    refine lv_bipush (v := nI 16) zx zb dX5_change_6 (by decide) ?_
    refine j_icmp_gt (tgt := 39) hC dX5_change_8 (by decide) (by omega) (by omega) (fun c8 => ?_) (fun c8 => ?_)
    · refine lv_iconst (v := nI 0) zx zb dX5_change_39 (by decide) ?_
      refine lv_istore (lv' := [(4, .int (nI 0)), (0, .ref h0), (1, .int (nI j2)), (2, .int m), (3, .int w)]) zx zb dX5_change_40 hl (by decide) rfl (fun ls hl => ?_)
      refine lv_iload zx zb dX5_change_42 (lv_at hl 0 rfl) ?_
      refine j_if_eq (tgt := 62) hC dX5_change_44 (by decide) (by omega) (fun c44 => ?_) (fun c44 => ?_)
      · refine lv_iload zx zb dX5_change_62 (lv_at hl 0 rfl) ?_
        exact hQ _ _ _ _ _ ⟨la, lm, lw⟩ dX5_change_64 rfl (hI.sub [0] rfl rfl) (by (try dsimp only); exact (Or.inr ⟨lm_no2 (by omega), rfl, rfl, rfl, rfl⟩))
      · exact (by omega : False).elim
    · refine lv_iload_n zx zb dX5_change_11 rfl (lv_at hl 2 rfl) ?_
      refine lv_iload_n zx zb dX5_change_12 rfl (lv_at hl 1 rfl) ?_
      refine jz_icmp_lt (tgt := 39) hC dX5_change_13 (by decide) (by omega) (fun c13 => ?_) (fun j13 j13a j13b j13e => ?_)
      · refine lv_iconst (v := nI 0) zx zb dX5_change_39 (by decide) ?_
        refine lv_istore (lv' := [(4, .int (nI 0)), (0, .ref h0), (1, .int (nI j2)), (2, .int m), (3, .int w)]) zx zb dX5_change_40 hl (by decide) rfl (fun ls hl => ?_)
        refine lv_iload zx zb dX5_change_42 (lv_at hl 0 rfl) ?_
        refine j_if_eq (tgt := 62) hC dX5_change_44 (by decide) (by omega) (fun c44 => ?_) (fun c44 => ?_)
        · refine lv_iload zx zb dX5_change_62 (lv_at hl 0 rfl) ?_
          exact hQ _ _ _ _ _ ⟨la, lm, lw⟩ dX5_change_64 rfl (hI.sub [0] rfl rfl) (by (try dsimp only); exact (Or.inr ⟨lm_no3 c13 (by omega), rfl, rfl, rfl, rfl⟩))
        · exact (by omega : False).elim
      · subst j13e
        refine lv_iload_n zx zb dX5_change_16 rfl (lv_at hl 2 rfl) ?_
        refine lv_sipush (v := nI 255) zx zb dX5_change_17 (by decide) ?_
        refine j_icmp_gt (tgt := 39) hC dX5_change_20 (by decide) (by omega) (by omega) (fun c20 => ?_) (fun c20 => ?_)
        · refine lv_iconst (v := nI 0) zx zb dX5_change_39 (by decide) ?_
          refine lv_istore (lv' := [(4, .int (nI 0)), (0, .ref h0), (1, .int (nI j2)), (2, .int (nI j13)), (3, .int w)]) zx zb dX5_change_40 hl (by decide) rfl (fun ls hl => ?_)
          refine lv_iload zx zb dX5_change_42 (lv_at hl 0 rfl) ?_
          refine j_if_eq (tgt := 62) hC dX5_change_44 (by decide) (by omega) (fun c44 => ?_) (fun c44 => ?_)
          · refine lv_iload zx zb dX5_change_62 (lv_at hl 0 rfl) ?_
            exact hQ _ _ _ _ _ ⟨la, lm, lw⟩ dX5_change_64 rfl (hI.sub [0] rfl rfl) (by (try dsimp only); exact (Or.inr ⟨lm_no4 (by omega), rfl, rfl, rfl, rfl⟩))
          · exact (by omega : False).elim
        · refine lv_iload_n zx zb dX5_change_23 rfl (lv_at hl 3 rfl) ?_
          refine lv_iconst (v := nI 1) zx zb dX5_change_24 (by decide) ?_
          refine jz_icmp_lt (tgt := 39) hC dX5_change_25 (by decide) (by omega) (fun c25 => ?_) (fun j25 j25a j25b j25e => ?_)
          · refine lv_iconst (v := nI 0) zx zb dX5_change_39 (by decide) ?_
            refine lv_istore (lv' := [(4, .int (nI 0)), (0, .ref h0), (1, .int (nI j2)), (2, .int (nI j13)), (3, .int w)]) zx zb dX5_change_40 hl (by decide) rfl (fun ls hl => ?_)
            refine lv_iload zx zb dX5_change_42 (lv_at hl 0 rfl) ?_
            refine j_if_eq (tgt := 62) hC dX5_change_44 (by decide) (by omega) (fun c44 => ?_) (fun c44 => ?_)
            · refine lv_iload zx zb dX5_change_62 (lv_at hl 0 rfl) ?_
              exact hQ _ _ _ _ _ ⟨la, lm, lw⟩ dX5_change_64 rfl (hI.sub [0] rfl rfl) (by (try dsimp only); exact (Or.inr ⟨lm_no5 c25, rfl, rfl, rfl, rfl⟩))
            · exact (by omega : False).elim
          · subst j25e
            refine lv_iload_n zx zb dX5_change_28 rfl (lv_at hl 3 rfl) ?_
            refine lv_sipush (v := nI 500) zx zb dX5_change_29 (by decide) ?_
            refine j_icmp_gt (tgt := 39) hC dX5_change_32 (by decide) (by omega) (by omega) (fun c32 => ?_) (fun c32 => ?_)
            · refine lv_iconst (v := nI 0) zx zb dX5_change_39 (by decide) ?_
              refine lv_istore (lv' := [(4, .int (nI 0)), (0, .ref h0), (1, .int (nI j2)), (2, .int (nI j13)), (3, .int (nI j25))]) zx zb dX5_change_40 hl (by decide) rfl (fun ls hl => ?_)
              refine lv_iload zx zb dX5_change_42 (lv_at hl 0 rfl) ?_
              refine j_if_eq (tgt := 62) hC dX5_change_44 (by decide) (by omega) (fun c44 => ?_) (fun c44 => ?_)
              · refine lv_iload zx zb dX5_change_62 (lv_at hl 0 rfl) ?_
                exact hQ _ _ _ _ _ ⟨la, lm, lw⟩ dX5_change_64 rfl (hI.sub [0] rfl rfl) (by (try dsimp only); exact (Or.inr ⟨lm_no6 (by omega), rfl, rfl, rfl, rfl⟩))
              · exact (by omega : False).elim
            · refine lv_iconst (v := nI 1) zx zb dX5_change_35 (by decide) ?_
              refine lv_goto (tgt := 40) zx zb dX5_change_36 (by decide) ?_
              refine lv_istore (lv' := [(4, .int (nI 1)), (0, .ref h0), (1, .int (nI j2)), (2, .int (nI j13)), (3, .int (nI j25))]) zx zb dX5_change_40 hl (by decide) rfl (fun ls hl => ?_)
              refine lv_iload zx zb dX5_change_42 (lv_at hl 0 rfl) ?_
              refine j_if_eq (tgt := 62) hC dX5_change_44 (by decide) (by omega) (fun c44 => ?_) (fun c44 => ?_)
              · exact (by omega : False).elim
              · refine lv_aload_n zx zb dX5_change_47 rfl (lv_at hl 1 rfl) ?_
                refine lv_iload_n zx zb dX5_change_48 rfl (lv_at hl 2 rfl) ?_
                refine j_put (w1 := [oC h0 5 [.int (nI j2), .int (nI lm), .int (nI lw)]]) hC hI hin_X5_change_X5 tyX5 tyX5_ok nmX5 0 rfl rfl 0 (by decide) hfl_X5_change_9 rfl rfl rfl rfl (Nat.le_of_ble_eq_true rfl) dX5_change_49 rfl (fun H locs hI => ?_)
                refine lv_aload_n zx zb dX5_change_52 rfl (lv_at hl 1 rfl) ?_
                refine lv_iload_n zx zb dX5_change_53 rfl (lv_at hl 3 rfl) ?_
                refine j_put (w1 := [oC h0 5 [.int (nI j2), .int (nI j13), .int (nI lw)]]) hC hI hin_X5_change_X5 tyX5 tyX5_ok nmX5 0 rfl rfl 1 (by decide) hfl_X5_change_15 rfl rfl rfl rfl (Nat.le_of_ble_eq_true rfl) dX5_change_54 rfl (fun H locs hI => ?_)
                refine lv_aload_n zx zb dX5_change_57 rfl (lv_at hl 1 rfl) ?_
                refine lv_iload_n zx zb dX5_change_58 rfl (lv_at hl 4 rfl) ?_
                refine j_put (w1 := [oC h0 5 [.int (nI j2), .int (nI j13), .int (nI j25)]]) hC hI hin_X5_change_X5 tyX5 tyX5_ok nmX5 0 rfl rfl 2 (by decide) hfl_X5_change_18 rfl rfl rfl rfl (Nat.le_of_ble_eq_true rfl) dX5_change_59 rfl (fun H locs hI => ?_)
                refine lv_iload zx zb dX5_change_62 (lv_at hl 0 rfl) ?_
                exact hQ _ _ _ _ _ ⟨j2, j13, j25⟩ dX5_change_64 rfl (hI.sub [0] rfl rfl) (by (try dsimp only); exact (Or.inl ⟨by omega, by omega, by omega, by omega, by omega, by omega, rfl, rfl, rfl, rfl⟩))

theorem hin_X0_begin_X0 : ∀ w ∈ wsX00, w ∈ wsX0_begin := by decide +kernel
theorem hfl_X0_begin_15 : Cond.fieldLink RX0 15 "CheapParse$BitWriter" "bits" "I" ∈ wsX0_begin := by decide +kernel
set_option maxHeartbeats 4000000 in
set_option maxRecDepth 100000 in
theorem c_X0_begin (zl : Launch) (G : jG) (h0 : Nat) (h1 : Nat) (b : Nat)  : jMet zl yX0_begin wsX0_begin ({ frames := 0, cells := 0, slots := 0, locals := 0 }) G [oC h0 0 [.ref h1, .int (nI b)]] [.ref h0] (jQv G (fun (u : Unit) => True) (fun (u : Unit) => [oC h0 0 [.ref h1, .int (nI 0)]])) 0 0 := by
  refine j_enter_v (cc := cX0_begin) (nL := 1) (nm := "begin") (own := RX0) (lv := [(0, .ref h0)]) (by decide) rfl (Nat.le_of_ble_eq_true rfl) rfl rfl rfl ?_
  intro zA zp ze zs zm zargs zbelow zmeth zc zQ ls hC hQ hI hl
  have zx := hC.1
  have zb := hC.2.1
  refine lv_aload_n zx zb dX0_begin_0 rfl (lv_at hl 0 rfl) ?_
  refine lv_iconst (v := nI 0) zx zb dX0_begin_1 (by decide) ?_
  refine j_put (w1 := [oC h0 0 [.ref h1, .int (nI 0)]]) hC hI hin_X0_begin_X0 tyX0 tyX0_ok nmX0 0 rfl rfl 1 (by decide) hfl_X0_begin_15 rfl rfl rfl rfl (Nat.le_of_ble_eq_true rfl) dX0_begin_2 rfl (fun H locs hI => ?_)
  exact hQ _ _ _ _ () dX0_begin_5 (hI.sub [0] rfl rfl) trivial

theorem hin_X0_size_X0 : ∀ w ∈ wsX00, w ∈ wsX0_size := by decide +kernel
theorem hfl_X0_size_15 : Cond.fieldLink RX0 15 "CheapParse$BitWriter" "bits" "I" ∈ wsX0_size := by decide +kernel
set_option maxHeartbeats 4000000 in
set_option maxRecDepth 100000 in
theorem c_X0_size (zl : Launch) (G : jG) (h0 : Nat) (h1 : Nat) (b : Nat) (hb0 : b ≤ 4520) : jMet zl yX0_size wsX0_size ({ frames := 0, cells := 0, slots := 0, locals := 0 }) G [oC h0 0 [.ref h1, .int (nI b)]] [.ref h0] (jQi G (fun (r : Int32) (u : Unit) => (r = nI ((b + 7) / 8))) (fun (u : Unit) => [oC h0 0 [.ref h1, .int (nI b)]])) 0 0 := by
  refine j_enter_i (cc := cX0_size) (nL := 1) (nm := "size") (own := RX0) (lv := [(0, .ref h0)]) (by decide) rfl (Nat.le_of_ble_eq_true rfl) rfl rfl rfl ?_
  intro zA zp ze zs zm zargs zbelow zmeth zc zQ ls hC hQ hI hl
  have zx := hC.1
  have zb := hC.2.1
  refine lv_aload_n zx zb dX0_size_0 rfl (lv_at hl 0 rfl) ?_
  refine j_get hC hI hin_X0_size_X0 0 rfl rfl 1 (by decide) hfl_X0_size_15 rfl rfl dX0_size_1 ?_
  refine lv_bipush (v := nI 7) zx zb dX0_size_4 (by decide) ?_
  refine j_iadd hC dX0_size_6 ?_
  refine lv_bipush (v := nI 8) zx zb dX0_size_7 (by decide) ?_
  refine j_idiv hC (by omega) (by omega) (by omega) dX0_size_9 ?_
  exact hQ _ _ _ _ _ () dX0_size_10 (hI.sub [0] rfl rfl) (by first | rfl | (congr 1; omega) | omega)

theorem hin_X0_get_X0 : ∀ w ∈ wsX00, w ∈ wsX0_get := by decide +kernel
theorem hfl_X0_get_9 : Cond.fieldLink RX0 9 "CheapParse$BitWriter" "row" "[I" ∈ wsX0_get := by decide +kernel
set_option maxHeartbeats 4000000 in
set_option maxRecDepth 100000 in
theorem c_X0_get (zl : Launch) (G : jG) (h0 : Nat) (h1 : Nat) (b : Nat) (f : Nat → Nat) (k : Int32) (hb0 : b ≤ 4520) : jMet zl yX0_get wsX0_get ({ frames := 1, cells := 0, slots := 0, locals := 20 }) G [oC h0 0 [.ref h1, .int (nI b)], aI G h1 565 f] [.ref h0, .int k] (jQi G (fun (r : Int32) (u : Unit) => (r = gt f ((b + 7) / 8) k)) (fun (u : Unit) => [oC h0 0 [.ref h1, .int (nI b)], aI G h1 565 f])) 0 0 := by
  refine j_enter_i (cc := cX0_get) (nL := 2) (nm := "get") (own := RX0) (lv := [(0, .ref h0), (1, .int k)]) (by decide) rfl (Nat.le_of_ble_eq_true rfl) rfl rfl rfl ?_
  intro zA zp ze zs zm zargs zbelow zmeth zc zQ ls hC hQ hI hl
  have zx := hC.1
  have zb := hC.2.1
  refine lv_iload_n zx zb dX0_get_0 rfl (lv_at hl 1 rfl) ?_
  refine jz_if_lt (tgt := 21) hC dX0_get_1 (by decide) (fun c1 => ?_) (fun j1 j1a j1e => ?_)
  · refine lv_iconst (v := (-1)) zx zb dX0_get_21 (by decide) ?_
    exact hQ _ _ _ _ _ () dX0_get_22 (hI.sub [0, 1] rfl rfl) (gt_neg c1).symm
  · subst j1e
    refine lv_iload_n zx zb dX0_get_4 rfl (lv_at hl 1 rfl) ?_
    refine lv_aload_n zx zb dX0_get_5 rfl (lv_at hl 0 rfl) ?_
    refine j_callVi (wr := [aI G h1 565 f]) hC hI (c_X0_size zl G h0 h1 b (by omega)) (cwV 0 hC.2.2.2.2.1 gX0_get_X0_size rfl rfl rfl (by decide +kernel) ⟨Nat.le_of_ble_eq_true rfl, Nat.le_of_ble_eq_true rfl⟩) [0] [1] rfl rfl rfl rfl rfl rfl (q0 := 0) rfl rfl rfl hl.1 (Nat.le_of_ble_eq_true rfl) dX0_get_6 ⟨Nat.le_of_ble_eq_true rfl, Nat.le_of_ble_eq_true rfl⟩ (fun r u6 H locs hp6 hI => ?_)
    have hI : jI G zA zs [aI G h1 565 f, oC h0 0 [.ref h1, .int (nI b)]] H locs := hI
    subst hp6
    refine j_icmp_ge (tgt := 21) hC dX0_get_9 (by decide) (by omega) (by omega) (fun c9 => ?_) (fun c9 => ?_)
    · refine lv_iconst (v := (-1)) zx zb dX0_get_21 (by decide) ?_
      exact hQ _ _ _ _ _ () dX0_get_22 (hI.sub [1, 0] rfl rfl) (gt_ge (by omega) (by omega)).symm
    · refine lv_aload_n zx zb dX0_get_12 rfl (lv_at hl 0 rfl) ?_
      refine j_get hC hI hin_X0_get_X0 1 rfl rfl 0 (by decide) hfl_X0_get_9 rfl rfl dX0_get_13 ?_
      refine lv_iload_n zx zb dX0_get_16 rfl (lv_at hl 1 rfl) ?_
      refine j_iald hC hI 0 rfl (by omega) (by omega) dX0_get_17 ?_
      refine lv_goto (tgt := 22) zx zb dX0_get_18 (by decide) ?_
      exact hQ _ _ _ _ _ () dX0_get_22 (hI.sub [1, 0] rfl rfl) (gt_in (by omega) (by omega)).symm

theorem hin_X0_putBit_X0 : ∀ w ∈ wsX00, w ∈ wsX0_putBit := by decide +kernel
theorem hfl_X0_putBit_15 : Cond.fieldLink RX0 15 "CheapParse$BitWriter" "bits" "I" ∈ wsX0_putBit := by decide +kernel
theorem hfl_X0_putBit_9 : Cond.fieldLink RX0 9 "CheapParse$BitWriter" "row" "[I" ∈ wsX0_putBit := by decide +kernel
set_option maxHeartbeats 4000000 in
set_option maxRecDepth 100000 in
theorem c_X0_putBit (zl : Launch) (G : jG) (h0 : Nat) (h1 : Nat) (b : Nat) (v : Nat) (f : Nat → Nat) (w : Nat → Nat) (hb0 : b < 4520) (hv : v ≤ 1) (hw : bwOK f b w) : jMet zl yX0_putBit wsX0_putBit ({ frames := 0, cells := 0, slots := 0, locals := 0 }) G [oC h0 0 [.ref h1, .int (nI b)], aI G h1 565 f] [.ref h0, .int (nI v)] (jQv G (fun (u : (Nat → Nat)) => (bwOK u (b + 1) (up w b v))) (fun (u : (Nat → Nat)) => [oC h0 0 [.ref h1, .int (nI (b + 1))], aI G h1 565 u])) 0 0 := by
  refine j_enter_v (cc := cX0_putBit) (nL := 3) (nm := "putBit") (own := RX0) (lv := [(0, .ref h0), (1, .int (nI v))]) (by decide) rfl (Nat.le_of_ble_eq_true rfl) rfl rfl rfl ?_
  intro zA zp ze zs zm zargs zbelow zmeth zc zQ ls hC hQ hI hl
  have zx := hC.1
  have zb := hC.2.1
  refine lv_aload_n zx zb dX0_putBit_0 rfl (lv_at hl 0 rfl) ?_
  refine j_get hC hI hin_X0_putBit_X0 0 rfl rfl 1 (by decide) hfl_X0_putBit_15 rfl rfl dX0_putBit_1 ?_
  refine lv_bipush (v := nI 8) zx zb dX0_putBit_4 (by decide) ?_
  refine j_idiv hC (by omega) (by omega) (by omega) dX0_putBit_6 ?_
  refine lv_istore_n (lv' := [(2, .int (nI (b / 8))), (0, .ref h0), (1, .int (nI v))]) zx zb dX0_putBit_7 rfl hl (by decide) rfl (fun ls hl => ?_)
  refine lv_iload_n zx zb dX0_putBit_8 rfl (lv_at hl 0 rfl) ?_
  refine lv_aload_n zx zb dX0_putBit_9 rfl (lv_at hl 1 rfl) ?_
  refine j_get hC hI hin_X0_putBit_X0 0 rfl rfl 0 (by decide) hfl_X0_putBit_9 rfl rfl dX0_putBit_10 ?_
  refine j_alen hC hI 1 rfl dX0_putBit_13 ?_
  refine j_icmp_lt (tgt := 18) hC dX0_putBit_14 (by decide) (by omega) (by omega) (fun c14 => ?_) (fun c14 => ?_)
  · refine lv_aload_n zx zb dX0_putBit_18 rfl (lv_at hl 1 rfl) ?_
    refine j_get hC hI hin_X0_putBit_X0 0 rfl rfl 1 (by decide) hfl_X0_putBit_15 rfl rfl dX0_putBit_19 ?_
    refine lv_bipush (v := nI 8) zx zb dX0_putBit_22 (by decide) ?_
    refine j_irem hC (by omega) (by omega) (by omega) dX0_putBit_24 ?_
    refine j_if_ne (tgt := 35) hC dX0_putBit_25 (by decide) (by omega) (fun c25 => ?_) (fun c25 => ?_)
    · refine lv_aload_n zx zb dX0_putBit_35 rfl (lv_at hl 1 rfl) ?_
      refine j_get hC hI hin_X0_putBit_X0 0 rfl rfl 0 (by decide) hfl_X0_putBit_9 rfl rfl dX0_putBit_36 ?_
      refine lv_iload_n zx zb dX0_putBit_39 rfl (lv_at hl 0 rfl) ?_
      refine lv_dup2_11 zx zb dX0_putBit_40 rfl rfl ?_
      refine j_iald hC hI 1 rfl (by omega) (by omega) dX0_putBit_41 ?_
      refine lv_iload_n zx zb dX0_putBit_42 rfl (lv_at hl 2 rfl) ?_
      refine lv_bipush (v := nI 7) zx zb dX0_putBit_43 (by decide) ?_
      refine lv_aload_n zx zb dX0_putBit_45 rfl (lv_at hl 1 rfl) ?_
      refine j_get hC hI hin_X0_putBit_X0 0 rfl rfl 1 (by decide) hfl_X0_putBit_15 rfl rfl dX0_putBit_46 ?_
      refine lv_bipush (v := nI 8) zx zb dX0_putBit_49 (by decide) ?_
      refine j_irem hC (by omega) (by omega) (by omega) dX0_putBit_51 ?_
      refine j_isub hC (by omega) dX0_putBit_52 ?_
      refine j_ishl hC (by omega) (bw_sh hv) dX0_putBit_53 ?_
      refine j_ior hC dX0_putBit_54 ?_
      refine j_iast (w1 := [oC h0 0 [.ref h1, .int (nI b)], aI G h1 565 (up f (b / 8) ((f (b / 8)) ||| (v * 2 ^ (7 - (b % 8)))))]) hC hI 1 rfl (by omega) (by omega) dX0_putBit_55 rfl (fun H locs hI => ?_)
      refine lv_aload_n zx zb dX0_putBit_56 rfl (lv_at hl 1 rfl) ?_
      refine lv_dup zx zb dX0_putBit_57 rfl ?_
      refine j_get hC hI hin_X0_putBit_X0 0 rfl rfl 1 (by decide) hfl_X0_putBit_15 rfl rfl dX0_putBit_58 ?_
      refine lv_iconst (v := nI 1) zx zb dX0_putBit_61 (by decide) ?_
      refine j_iadd hC dX0_putBit_62 ?_
      refine j_put (w1 := [oC h0 0 [.ref h1, .int (nI (b + 1))], aI G h1 565 (up f (b / 8) ((f (b / 8)) ||| (v * 2 ^ (7 - (b % 8)))))]) hC hI hin_X0_putBit_X0 tyX0 tyX0_ok nmX0 0 rfl rfl 1 (by decide) hfl_X0_putBit_15 rfl rfl rfl rfl (Nat.le_of_ble_eq_true rfl) dX0_putBit_63 rfl (fun H locs hI => ?_)
      exact hQ _ _ _ _ (up f (b / 8) ((f (b / 8)) ||| (v * 2 ^ (7 - (b % 8))))) dX0_putBit_66 (hI.sub [0, 1] rfl rfl) (bw_put1 hb0 hv hw c25)
    · refine lv_aload_n zx zb dX0_putBit_28 rfl (lv_at hl 1 rfl) ?_
      refine j_get hC hI hin_X0_putBit_X0 0 rfl rfl 0 (by decide) hfl_X0_putBit_9 rfl rfl dX0_putBit_29 ?_
      refine lv_iload_n zx zb dX0_putBit_32 rfl (lv_at hl 0 rfl) ?_
      refine lv_iconst (v := nI 0) zx zb dX0_putBit_33 (by decide) ?_
      refine j_iast (w1 := [oC h0 0 [.ref h1, .int (nI b)], aI G h1 565 (up f (b / 8) 0)]) hC hI 1 rfl (by omega) (by omega) dX0_putBit_34 rfl (fun H locs hI => ?_)
      refine lv_aload_n zx zb dX0_putBit_35 rfl (lv_at hl 1 rfl) ?_
      refine j_get hC hI hin_X0_putBit_X0 0 rfl rfl 0 (by decide) hfl_X0_putBit_9 rfl rfl dX0_putBit_36 ?_
      refine lv_iload_n zx zb dX0_putBit_39 rfl (lv_at hl 0 rfl) ?_
      refine lv_dup2_11 zx zb dX0_putBit_40 rfl rfl ?_
      refine j_iald hC hI 1 rfl (by omega) (by omega) dX0_putBit_41 ?_
      refine lv_iload_n zx zb dX0_putBit_42 rfl (lv_at hl 2 rfl) ?_
      refine lv_bipush (v := nI 7) zx zb dX0_putBit_43 (by decide) ?_
      refine lv_aload_n zx zb dX0_putBit_45 rfl (lv_at hl 1 rfl) ?_
      refine j_get hC hI hin_X0_putBit_X0 0 rfl rfl 1 (by decide) hfl_X0_putBit_15 rfl rfl dX0_putBit_46 ?_
      refine lv_bipush (v := nI 8) zx zb dX0_putBit_49 (by decide) ?_
      refine j_irem hC (by omega) (by omega) (by omega) dX0_putBit_51 ?_
      refine j_isub hC (by omega) dX0_putBit_52 ?_
      refine j_ishl hC (by omega) (bw_sh hv) dX0_putBit_53 ?_
      refine j_ior hC dX0_putBit_54 ?_
      refine j_iast (w1 := [oC h0 0 [.ref h1, .int (nI b)], aI G h1 565 (up (up f (b / 8) 0) (b / 8) (((up f (b / 8) 0) (b / 8)) ||| (v * 2 ^ (7 - (b % 8)))))]) hC hI 1 rfl (by omega) (by omega) dX0_putBit_55 rfl (fun H locs hI => ?_)
      refine lv_aload_n zx zb dX0_putBit_56 rfl (lv_at hl 1 rfl) ?_
      refine lv_dup zx zb dX0_putBit_57 rfl ?_
      refine j_get hC hI hin_X0_putBit_X0 0 rfl rfl 1 (by decide) hfl_X0_putBit_15 rfl rfl dX0_putBit_58 ?_
      refine lv_iconst (v := nI 1) zx zb dX0_putBit_61 (by decide) ?_
      refine j_iadd hC dX0_putBit_62 ?_
      refine j_put (w1 := [oC h0 0 [.ref h1, .int (nI (b + 1))], aI G h1 565 (up (up f (b / 8) 0) (b / 8) (((up f (b / 8) 0) (b / 8)) ||| (v * 2 ^ (7 - (b % 8)))))]) hC hI hin_X0_putBit_X0 tyX0 tyX0_ok nmX0 0 rfl rfl 1 (by decide) hfl_X0_putBit_15 rfl rfl rfl rfl (Nat.le_of_ble_eq_true rfl) dX0_putBit_63 rfl (fun H locs hI => ?_)
      exact hQ _ _ _ _ (up (up f (b / 8) 0) (b / 8) (((up f (b / 8) 0) (b / 8)) ||| (v * 2 ^ (7 - (b % 8))))) dX0_putBit_66 (hI.sub [0, 1] rfl rfl) (bw_put2 hb0 hv hw c25)
  · exact (by omega : False).elim

set_option maxHeartbeats 4000000 in
set_option maxRecDepth 100000 in
theorem c_X0_put (zl : Launch) (G : jG) (h0 : Nat) (h1 : Nat) (b : Nat) (v : Nat) (k : Nat) (f : Nat → Nat) (w : Nat → Nat) (hb0 : b + k ≤ 4520) (hk : k ≤ 31) (hv : v < 2147483648) (hw : bwOK f b w) : jMet zl yX0_put wsX0_put ({ frames := 1, cells := 0, slots := 0, locals := 22 }) G [oC h0 0 [.ref h1, .int (nI b)], aI G h1 565 f] [.ref h0, .int (nI v), .int (nI k)] (jQv G (fun (u : (Nat → Nat)) => (bwOK u (b + k) (pt v k w b))) (fun (u : (Nat → Nat)) => [oC h0 0 [.ref h1, .int (nI (b + k))], aI G h1 565 u])) 0 0 := by
  refine j_enter_v (cc := cX0_put) (nL := 4) (nm := "put") (own := RX0) (lv := [(0, .ref h0), (1, .int (nI v)), (2, .int (nI k))]) (by decide) rfl (Nat.le_of_ble_eq_true rfl) rfl rfl rfl ?_
  intro zA zp ze zs zm zargs zbelow zmeth zc zQ ls hC hQ hI hl
  have zx := hC.1
  have zb := hC.2.1
  refine lv_iload_n zx zb dX0_put_0 rfl (lv_at hl 2 rfl) ?_
  refine lv_iconst (v := nI 1) zx zb dX0_put_1 (by decide) ?_
  refine j_isub1 hC dX0_put_2 ?_
  refine lv_istore_n (lv' := [(3, .int (mI k)), (0, .ref h0), (1, .int (nI v)), (2, .int (nI k))]) zx zb dX0_put_3 rfl hl (by decide) rfl (fun ls hl => ?_)
  have loop4 : ∀ (zn4 : Nat) (j : Nat) (b2 : Nat) (g : Nat → Nat) (w2 : Nat → Nat), (b2 + j = b + k ∧ j ≤ 31) → (bwOK g b2 w2) → (pt v j w2 b2 = pt v k w b) → j < zn4 → ∀ (H : Heap) (locs : List Loc) (ls : Array Slot), jI G zA zs [oC h0 0 [.ref h1, .int (nI b2)], aI G h1 565 g] H locs → lv_has ls 4 [(0, .ref h0), (1, .int (nI v)), (3, .int (mI j))] → W zp zl ze ({ frames := 1, cells := 0, slots := 0, locals := 22 }) zs zm zargs zbelow zmeth zc H locs 0 0 zQ (F0 zm 4 ls []) := by
    intro zn4
    induction zn4 with
    | zero => intros; omega
    | succ zn4 ih4 =>
      intro j b2 g w2 ej eg ew zm4 H locs ls hI hl
      refine lv_iload_n zx zb dX0_put_4 rfl (lv_at hl 2 rfl) ?_
      refine j_ifM_lt (tgt := 23) hC dX0_put_5 (by decide) (by omega) (fun c5 => ?_) (fun c5 => ?_)
      · subst c5
        have eb : b2 = b + k := by omega
        subst eb
        exact hQ _ _ _ _ g dX0_put_23 (hI.sub [0, 1] rfl rfl) (by rw [← ew]; exact eg)
      · obtain ⟨j5, rfl⟩ : ∃ z, j = z + 1 := ⟨j - 1, by omega⟩
        rw [mI_s] at hl
        refine lv_aload_n zx zb dX0_put_8 rfl (lv_at hl 0 rfl) ?_
        refine lv_iload_n zx zb dX0_put_9 rfl (lv_at hl 1 rfl) ?_
        refine lv_iload_n zx zb dX0_put_10 rfl (lv_at hl 2 rfl) ?_
        refine j_ishr hC (by omega) (by omega) dX0_put_11 ?_
        refine lv_iconst (v := nI 1) zx zb dX0_put_12 (by decide) ?_
        refine j_and1 hC dX0_put_13 ?_
        refine j_callVv (wr := []) hC hI (c_X0_putBit zl G h0 h1 b2 ((v / 2 ^ j5) % 2) g w2 (by omega) (by omega) eg) (cwV 1 hC.2.2.2.2.1 gX0_put_X0_putBit rfl rfl rfl (by decide +kernel) ⟨Nat.le_of_ble_eq_true rfl, Nat.le_of_ble_eq_true rfl⟩) [0, 1] [] rfl rfl rfl rfl rfl rfl (q0 := 0) rfl rfl rfl hl.1 (Nat.le_of_ble_eq_true rfl) dX0_put_14 ⟨Nat.le_of_ble_eq_true rfl, Nat.le_of_ble_eq_true rfl⟩ (fun u14 H locs hp14 hI => ?_)
        obtain ⟨v14_0, rfl⟩ : ∃ z, z = u14 := ⟨_, rfl⟩
        have hI : jI G zA zs [oC h0 0 [.ref h1, .int (nI (b2 + 1))], aI G h1 565 v14_0] H locs := hI
        have f14_0 := hp14
        refine lv_iinc (v := mI j5) (lv' := [(3, .int (mI j5)), (0, .ref h0), (1, .int (nI v))]) zx zb dX0_put_17 hl (k := 2) rfl (j_dec _) (by decide) rfl (fun ls hl => ?_)
        refine lv_goto (tgt := 4) zx zb dX0_put_20 (by decide) ?_
        exact ih4 j5 (b2 + 1) v14_0 (up w2 b2 (v / 2 ^ j5 % 2)) (by omega) f14_0 (by rw [← ew]; rfl) (by omega) _ _ _ hI (lv_sub hl [1, 2, 0] rfl)
  exact loop4 _ k b f w (by omega) hw rfl (Nat.lt_succ_self _) _ _ _ hI (lv_sub hl [1, 2, 0] rfl)
end
section
theorem lg_le {n k : Nat} (h : n < 2 ^ (k + 1)) : n.log2 ≤ k := by
  rcases Nat.eq_zero_or_pos n with z | z
  · subst z; rw [Nat.log2_zero]; omega
  · have := (Nat.log2_lt (n := n) (k := k + 1) (by omega)).mpr h
    omega
/-- a price told, or refused -/
def pr_rel (pb pa pl pd : Nat → Nat) (w k v r : Int32) (pb2 pa2 pl2 pd2 : Nat → Nat) : Prop :=
  (∃ j x, 1 ≤ x ∧ x ≤ 1000 ∧ k = nI j ∧ v = nI x ∧ r = nI 1 ∧ ((w = nI 0 ∧ j < 8 ∧ pb2 = up pb j x ∧ pa2 = pa ∧ pl2 = pl ∧ pd2 = pd) ∨ (w = nI 1 ∧ j < 1 ∧ pb2 = pb ∧ pa2 = up pa j x ∧ pl2 = pl ∧ pd2 = pd) ∨ (w = nI 2 ∧ j < 8 ∧ pb2 = pb ∧ pa2 = pa ∧ pl2 = up pl j x ∧ pd2 = pd) ∨ (w = nI 3 ∧ j < 9 ∧ pb2 = pb ∧ pa2 = pa ∧ pl2 = pl ∧ pd2 = up pd j x))) ∨
  ((∀ j x, 1 ≤ x → x ≤ 1000 → k = nI j → v = nI x → ¬ ((w = nI 0 ∧ j < 8) ∨ (w = nI 1 ∧ j < 1) ∨ (w = nI 2 ∧ j < 8) ∨ (w = nI 3 ∧ j < 9))) ∧ r = nI 0 ∧ pb2 = pb ∧ pa2 = pa ∧ pl2 = pl ∧ pd2 = pd)
theorem pr_sw (w : Int32) : w = nI 0 ∨ w = nI 1 ∨ w = nI 2 ∨ w = nI 3 ∨ (w.toInt < 0 ∨ (4 : Nat) - 1 < w.toInt) := by
  rcases j_sw 4 (by decide) w with ⟨k, h, rfl⟩ | h
  · rcases (show k = 0 ∨ k = 1 ∨ k = 2 ∨ k = 3 by omega) with rfl | rfl | rfl | rfl
    · exact Or.inl rfl
    · exact Or.inr (Or.inl rfl)
    · exact Or.inr (Or.inr (Or.inl rfl))
    · exact Or.inr (Or.inr (Or.inr (Or.inl rfl)))
  · exact Or.inr (Or.inr (Or.inr (Or.inr h)))
theorem nI_ne {a b : Nat} (ha : a < 2147483648) (hb : b < 2147483648) (h : a ≠ b) : nI a ≠ nI b := fun e => h (nI_inj ha hb e)
theorem pr_no1 {w k v : Int32} (h : k < 0) : ∀ j x, 1 ≤ x → x ≤ 1000 → k = nI j → v = nI x → ¬ ((w = nI 0 ∧ j < 8) ∨ (w = nI 1 ∧ j < 1) ∨ (w = nI 2 ∧ j < 8) ∨ (w = nI 3 ∧ j < 9)) := by
  rintro j x h1 h2 rfl rfl h3
  exact absurd h (nI_lt0 (by omega))
theorem pr_noN {i B : Nat} {k : Nat} {v : Int32} (hi : i < 4) (hB : (i = 0 → B = 8) ∧ (i = 1 → B = 1) ∧ (i = 2 → B = 8) ∧ (i = 3 → B = 9)) (h : B ≤ k ∧ k < 2147483648) : ∀ j x, 1 ≤ x → x ≤ 1000 → nI k = nI j → v = nI x → ¬ ((nI i = nI 0 ∧ j < 8) ∨ (nI i = nI 1 ∧ j < 1) ∨ (nI i = nI 2 ∧ j < 8) ∨ (nI i = nI 3 ∧ j < 9)) := by
  rintro j x h1 h2 e rfl h3
  rcases h3 with ⟨a, b⟩ | ⟨a, b⟩ | ⟨a, b⟩ | ⟨a, b⟩ <;> have e1 := nI_inj (by omega) (by omega) a <;> have e2 := nI_inj (by omega) (by omega) e <;> omega
theorem pr_no02 {k : Nat} {v : Int32} (h : 8 ≤ k ∧ k < 2147483648) : ∀ j x, 1 ≤ x → x ≤ 1000 → nI k = nI j → v = nI x → ¬ ((nI 0 = nI 0 ∧ j < 8) ∨ (nI 0 = nI 1 ∧ j < 1) ∨ (nI 0 = nI 2 ∧ j < 8) ∨ (nI 0 = nI 3 ∧ j < 9)) := pr_noN (by omega) (by omega) h
theorem pr_no12 {k : Nat} {v : Int32} (h : 1 ≤ k ∧ k < 2147483648) : ∀ j x, 1 ≤ x → x ≤ 1000 → nI k = nI j → v = nI x → ¬ ((nI 1 = nI 0 ∧ j < 8) ∨ (nI 1 = nI 1 ∧ j < 1) ∨ (nI 1 = nI 2 ∧ j < 8) ∨ (nI 1 = nI 3 ∧ j < 9)) := pr_noN (by omega) (by omega) h
theorem pr_no22 {k : Nat} {v : Int32} (h : 8 ≤ k ∧ k < 2147483648) : ∀ j x, 1 ≤ x → x ≤ 1000 → nI k = nI j → v = nI x → ¬ ((nI 2 = nI 0 ∧ j < 8) ∨ (nI 2 = nI 1 ∧ j < 1) ∨ (nI 2 = nI 2 ∧ j < 8) ∨ (nI 2 = nI 3 ∧ j < 9)) := pr_noN (by omega) (by omega) h
theorem pr_no32 {k : Nat} {v : Int32} (h : 9 ≤ k ∧ k < 2147483648) : ∀ j x, 1 ≤ x → x ≤ 1000 → nI k = nI j → v = nI x → ¬ ((nI 3 = nI 0 ∧ j < 8) ∨ (nI 3 = nI 1 ∧ j < 1) ∨ (nI 3 = nI 2 ∧ j < 8) ∨ (nI 3 = nI 3 ∧ j < 9)) := pr_noN (by omega) (by omega) h
theorem pr_no3 {w k v : Int32} (h : v < nI 1) : ∀ j x, 1 ≤ x → x ≤ 1000 → k = nI j → v = nI x → ¬ ((w = nI 0 ∧ j < 8) ∨ (w = nI 1 ∧ j < 1) ∨ (w = nI 2 ∧ j < 8) ∨ (w = nI 3 ∧ j < 9)) := by
  rintro j x h1 h2 rfl rfl h3
  have := nI_ltZ (by omega) (by omega) h; omega
theorem pr_no5 {w k : Int32} {i : Nat} (h : 1000 < i ∧ i < 2147483648) : ∀ j x, 1 ≤ x → x ≤ 1000 → k = nI j → nI i = nI x → ¬ ((w = nI 0 ∧ j < 8) ∨ (w = nI 1 ∧ j < 1) ∨ (w = nI 2 ∧ j < 8) ∨ (w = nI 3 ∧ j < 9)) := by
  rintro j x h1 h2 rfl e h3
  have := nI_inj (by omega) (by omega) e; omega
theorem pr_no6 {w k v : Int32} (h : w.toInt < 0 ∨ (4 : Nat) - 1 < w.toInt) : ∀ j x, 1 ≤ x → x ≤ 1000 → k = nI j → v = nI x → ¬ ((w = nI 0 ∧ j < 8) ∨ (w = nI 1 ∧ j < 1) ∨ (w = nI 2 ∧ j < 8) ∨ (w = nI 3 ∧ j < 9)) := by
  rintro j x h1 h2 rfl rfl h3
  rcases h3 with ⟨rfl, -⟩ | ⟨rfl, -⟩ | ⟨rfl, -⟩ | ⟨rfl, -⟩ <;> revert h <;> decide
end
section
theorem hin_X7_ofByte_X7 : ∀ w ∈ wsX70, w ∈ wsX7_ofByte := by decide +kernel
theorem hfl_X7_ofByte_15 : Cond.fieldLink RX7 15 "CheapParse$Tariff" "bytes" "[I" ∈ wsX7_ofByte := by decide +kernel
set_option maxHeartbeats 4000000 in
set_option maxRecDepth 100000 in
theorem c_X7_ofByte (zl : Launch) (G : jG) (h0 : Nat) (h1 : Nat) (h2 : Nat) (h3 : Nat) (h4 : Nat) (v : Nat) (pb : Nat → Nat) (hv : v < 256) : jMet zl yX7_ofByte wsX7_ofByte ({ frames := 0, cells := 0, slots := 0, locals := 0 }) G [oC h0 7 [.ref h1, .ref h2, .ref h3, .ref h4], aI G h1 8 pb] [.ref h0, .int (nI v)] (jQi G (fun (r : Int32) (u : Unit) => (r = nI (pb (v / 32)))) (fun (u : Unit) => [oC h0 7 [.ref h1, .ref h2, .ref h3, .ref h4], aI G h1 8 pb])) 0 0 := by
  refine j_enter_i (cc := cX7_ofByte) (nL := 2) (nm := "ofByte") (own := RX7) (lv := [(0, .ref h0), (1, .int (nI v))]) (by decide) rfl (Nat.le_of_ble_eq_true rfl) rfl rfl rfl ?_
  intro zA zp ze zs zm zargs zbelow zmeth zc zQ ls hC hQ hI hl
  have zx := hC.1
  have zb := hC.2.1
  refine lv_aload_n zx zb dX7_ofByte_0 rfl (lv_at hl 0 rfl) ?_
  refine j_get hC hI hin_X7_ofByte_X7 0 rfl rfl 0 (by decide) hfl_X7_ofByte_15 rfl rfl dX7_ofByte_1 ?_
  refine lv_iload_n zx zb dX7_ofByte_4 rfl (lv_at hl 1 rfl) ?_
  refine lv_sipush (v := nI 255) zx zb dX7_ofByte_5 (by decide) ?_
  refine j_and255N hC hv dX7_ofByte_8 ?_
  refine lv_bipush (v := nI 32) zx zb dX7_ofByte_9 (by decide) ?_
  refine j_idiv hC (by omega) (by omega) (by omega) dX7_ofByte_11 ?_
  refine j_iald hC hI 1 rfl (by omega) (by omega) dX7_ofByte_12 ?_
  exact hQ _ _ _ _ _ () dX7_ofByte_13 (hI.sub [0, 1] rfl rfl) (by first | rfl | (congr 1; omega) | omega)

theorem hin_X7_ofDistanceClass_X7 : ∀ w ∈ wsX70, w ∈ wsX7_ofDistanceClass := by decide +kernel
theorem hfl_X7_ofDistanceClass_25 : Cond.fieldLink RX7 25 "CheapParse$Tariff" "distances" "[I" ∈ wsX7_ofDistanceClass := by decide +kernel
set_option maxHeartbeats 4000000 in
set_option maxRecDepth 100000 in
theorem c_X7_ofDistanceClass (zl : Launch) (G : jG) (h0 : Nat) (h1 : Nat) (h2 : Nat) (h3 : Nat) (h4 : Nat) (c : Nat) (pd : Nat → Nat) (hc : c ≤ 8) : jMet zl yX7_ofDistanceClass wsX7_ofDistanceClass ({ frames := 1, cells := 0, slots := 0, locals := 14 }) G [oC h0 7 [.ref h1, .ref h2, .ref h3, .ref h4], aI G h4 9 pd] [.ref h0, .int (nI c)] (jQi G (fun (r : Int32) (u : Unit) => (r = nI (pd c))) (fun (u : Unit) => [oC h0 7 [.ref h1, .ref h2, .ref h3, .ref h4], aI G h4 9 pd])) 0 0 := by
  refine j_enter_i (cc := cX7_ofDistanceClass) (nL := 2) (nm := "ofDistanceClass") (own := RX7) (lv := [(0, .ref h0), (1, .int (nI c))]) (by decide) rfl (Nat.le_of_ble_eq_true rfl) rfl rfl rfl ?_
  intro zA zp ze zs zm zargs zbelow zmeth zc zQ ls hC hQ hI hl
  have zx := hC.1
  have zb := hC.2.1
  refine lv_aload_n zx zb dX7_ofDistanceClass_0 rfl (lv_at hl 0 rfl) ?_
  refine j_get hC hI hin_X7_ofDistanceClass_X7 0 rfl rfl 3 (by decide) hfl_X7_ofDistanceClass_25 rfl rfl dX7_ofDistanceClass_1 ?_
  refine lv_iload_n zx zb dX7_ofDistanceClass_4 rfl (lv_at hl 1 rfl) ?_
  refine lv_bipush (v := nI 8) zx zb dX7_ofDistanceClass_5 (by decide) ?_
  refine j_min hC hl.1 (by decide +kernel) (by decide +kernel) (by decide +kernel) (by decide +kernel) (Nat.le_of_ble_eq_true rfl) (Nat.le_of_ble_eq_true rfl) (Nat.le_of_ble_eq_true rfl) (Nat.le_of_ble_eq_true rfl) (by omega) (by omega) dX7_ofDistanceClass_7 ?_
  rw [Nat.min_eq_left hc]
  refine j_iald hC hI 1 rfl (by omega) (by omega) dX7_ofDistanceClass_10 ?_
  exact hQ _ _ _ _ _ () dX7_ofDistanceClass_11 (hI.sub [0, 1] rfl rfl) (by first | rfl | (congr 1; omega) | omega)

theorem hin_X7_ofLength_X7 : ∀ w ∈ wsX70, w ∈ wsX7_ofLength := by decide +kernel
theorem hfl_X7_ofLength_19 : Cond.fieldLink RX7 19 "CheapParse$Tariff" "allMatches" "[I" ∈ wsX7_ofLength := by decide +kernel
theorem hfl_X7_ofLength_22 : Cond.fieldLink RX7 22 "CheapParse$Tariff" "lengths" "[I" ∈ wsX7_ofLength := by decide +kernel
set_option maxHeartbeats 4000000 in
set_option maxRecDepth 100000 in
theorem c_X7_ofLength (zl : Launch) (G : jG) (h0 : Nat) (h1 : Nat) (h2 : Nat) (h3 : Nat) (h4 : Nat) (n : Nat) (pa : Nat → Nat) (pl : Nat → Nat) (hn : n < 256) : jMet zl yX7_ofLength wsX7_ofLength ({ frames := 1, cells := 0, slots := 0, locals := 22 }) G [oC h0 7 [.ref h1, .ref h2, .ref h3, .ref h4], aI G h2 1 pa, aI G h3 8 pl] [.ref h0, .int (nI n)] (jQi G (fun (r : Int32) (u : Unit) => (r = nI (pa 0 + pl n.log2))) (fun (u : Unit) => [oC h0 7 [.ref h1, .ref h2, .ref h3, .ref h4], aI G h2 1 pa, aI G h3 8 pl])) 0 0 := by
  refine j_enter_i (cc := cX7_ofLength) (nL := 2) (nm := "ofLength") (own := RX7) (lv := [(0, .ref h0), (1, .int (nI n))]) (by decide) rfl (Nat.le_of_ble_eq_true rfl) rfl rfl rfl ?_
  intro zA zp ze zs zm zargs zbelow zmeth zc zQ ls hC hQ hI hl
  have zx := hC.1
  have zb := hC.2.1
  have hlg : n.log2 ≤ 7 := lg_le (k := 7) hn
  refine lv_aload_n zx zb dX7_ofLength_0 rfl (lv_at hl 0 rfl) ?_
  refine j_get hC hI hin_X7_ofLength_X7 0 rfl rfl 1 (by decide) hfl_X7_ofLength_19 rfl rfl dX7_ofLength_1 ?_
  refine lv_iconst (v := nI 0) zx zb dX7_ofLength_4 (by decide) ?_
  refine j_iald hC hI 1 rfl (by omega) (by omega) dX7_ofLength_5 ?_
  refine lv_aload_n zx zb dX7_ofLength_6 rfl (lv_at hl 0 rfl) ?_
  refine j_get hC hI hin_X7_ofLength_X7 0 rfl rfl 2 (by decide) hfl_X7_ofLength_22 rfl rfl dX7_ofLength_7 ?_
  refine lv_iload_n zx zb dX7_ofLength_10 rfl (lv_at hl 1 rfl) ?_
  refine j_callSNi (wr := [oC h0 7 [.ref h1, .ref h2, .ref h3, .ref h4], aI G h2 1 pa, aI G h3 8 pl]) hC hI (c_X8_classOf zl G n (by omega)) ⟨va_cnB (host := "CheapParse") 1 hC.2.2.2.2.1 ggX7_ofLength_X8_classOf rfl rfl rfl (hI.2.2.2.2.2 _ (by decide +kernel)) (hC.2.2.2.2.1 _ (by decide +kernel)) (by decide +kernel) ⟨Nat.le_of_ble_eq_true rfl, Nat.le_of_ble_eq_true rfl⟩, hC.2.2.2.2.1 _ (by decide +kernel), trivial⟩ [] [0, 1, 2] rfl rfl rfl rfl rfl rfl rfl hl.1 (Nat.le_of_ble_eq_true rfl) dX7_ofLength_11 ⟨Nat.le_of_ble_eq_true rfl, Nat.le_of_ble_eq_true rfl⟩ (fun r u11 H locs hp11 hI => ?_)
  have hI : jI G zA zs [oC h0 7 [.ref h1, .ref h2, .ref h3, .ref h4], aI G h2 1 pa, aI G h3 8 pl] H locs := hI
  subst hp11
  refine lv_bipush (v := nI 7) zx zb dX7_ofLength_14 (by decide) ?_
  refine j_min hC hl.1 (by decide +kernel) (by decide +kernel) (by decide +kernel) (by decide +kernel) (Nat.le_of_ble_eq_true rfl) (Nat.le_of_ble_eq_true rfl) (Nat.le_of_ble_eq_true rfl) (Nat.le_of_ble_eq_true rfl) (by omega) (by omega) dX7_ofLength_16 ?_
  rw [Nat.min_eq_left hlg]
  refine j_iald hC hI 2 rfl (by omega) (by omega) dX7_ofLength_19 ?_
  refine j_iadd hC dX7_ofLength_20 ?_
  exact hQ _ _ _ _ _ () dX7_ofLength_21 (hI.sub [0, 1, 2] rfl rfl) (by first | rfl | (congr 1; omega) | omega)

set_option maxHeartbeats 4000000 in
set_option maxRecDepth 100000 in
theorem c_X7_ofMatch (zl : Launch) (G : jG) (h0 : Nat) (h1 : Nat) (h2 : Nat) (h3 : Nat) (h4 : Nat) (n : Nat) (d : Nat) (pa : Nat → Nat) (pl : Nat → Nat) (pd : Nat → Nat) (hn : n < 256) (hd : d < 512) : jMet zl yX7_ofMatch wsX7_ofMatch ({ frames := 2, cells := 0, slots := 0, locals := 43 }) G [oC h0 7 [.ref h1, .ref h2, .ref h3, .ref h4], aI G h2 1 pa, aI G h3 8 pl, aI G h4 9 pd] [.ref h0, .int (nI n), .int (nI d)] (jQi G (fun (r : Int32) (u : Unit) => (r = nI (pa 0 + pl n.log2 + pd d.log2))) (fun (u : Unit) => [oC h0 7 [.ref h1, .ref h2, .ref h3, .ref h4], aI G h2 1 pa, aI G h3 8 pl, aI G h4 9 pd])) 0 0 := by
  refine j_enter_i (cc := cX7_ofMatch) (nL := 3) (nm := "ofMatch") (own := RX7) (lv := [(0, .ref h0), (1, .int (nI n)), (2, .int (nI d))]) (by decide) rfl (Nat.le_of_ble_eq_true rfl) rfl rfl rfl ?_
  intro zA zp ze zs zm zargs zbelow zmeth zc zQ ls hC hQ hI hl
  have zx := hC.1
  have zb := hC.2.1
  have hlg : d.log2 ≤ 8 := lg_le (k := 8) hd
  refine lv_aload_n zx zb dX7_ofMatch_0 rfl (lv_at hl 0 rfl) ?_
  refine lv_iload_n zx zb dX7_ofMatch_1 rfl (lv_at hl 1 rfl) ?_
  refine j_callVi (wr := [aI G h4 9 pd]) hC hI (c_X7_ofLength zl G h0 h1 h2 h3 h4 n pa pl (by omega)) (cwV 1 hC.2.2.2.2.1 gX7_ofMatch_X7_ofLength rfl rfl rfl (by decide +kernel) ⟨Nat.le_of_ble_eq_true rfl, Nat.le_of_ble_eq_true rfl⟩) [0, 1, 2] [3] rfl rfl rfl rfl rfl rfl (q0 := 0) rfl rfl rfl hl.1 (Nat.le_of_ble_eq_true rfl) dX7_ofMatch_2 ⟨Nat.le_of_ble_eq_true rfl, Nat.le_of_ble_eq_true rfl⟩ (fun r u2 H locs hp2 hI => ?_)
  have hI : jI G zA zs [aI G h4 9 pd, oC h0 7 [.ref h1, .ref h2, .ref h3, .ref h4], aI G h2 1 pa, aI G h3 8 pl] H locs := hI
  subst hp2
  refine lv_aload_n zx zb dX7_ofMatch_5 rfl (lv_at hl 0 rfl) ?_
  refine lv_iload_n zx zb dX7_ofMatch_6 rfl (lv_at hl 2 rfl) ?_
  refine j_callSNi (wr := [aI G h4 9 pd, oC h0 7 [.ref h1, .ref h2, .ref h3, .ref h4], aI G h2 1 pa, aI G h3 8 pl]) hC hI (c_X8_classOf zl G d (by omega)) ⟨va_cnB (host := "CheapParse") 1 hC.2.2.2.2.1 ggX7_ofMatch_X8_classOf rfl rfl rfl (hI.2.2.2.2.2 _ (by decide +kernel)) (hC.2.2.2.2.1 _ (by decide +kernel)) (by decide +kernel) ⟨Nat.le_of_ble_eq_true rfl, Nat.le_of_ble_eq_true rfl⟩, hC.2.2.2.2.1 _ (by decide +kernel), trivial⟩ [] [0, 1, 2, 3] rfl rfl rfl rfl rfl rfl rfl hl.1 (Nat.le_of_ble_eq_true rfl) dX7_ofMatch_7 ⟨Nat.le_of_ble_eq_true rfl, Nat.le_of_ble_eq_true rfl⟩ (fun r u7 H locs hp7 hI => ?_)
  have hI : jI G zA zs [aI G h4 9 pd, oC h0 7 [.ref h1, .ref h2, .ref h3, .ref h4], aI G h2 1 pa, aI G h3 8 pl] H locs := hI
  subst hp7
  refine j_callVi (wr := [aI G h2 1 pa, aI G h3 8 pl]) hC hI (c_X7_ofDistanceClass zl G h0 h1 h2 h3 h4 d.log2 pd (by omega)) (cwV 1 hC.2.2.2.2.1 gX7_ofMatch_X7_ofDistanceClass rfl rfl rfl (by decide +kernel) ⟨Nat.le_of_ble_eq_true rfl, Nat.le_of_ble_eq_true rfl⟩) [1, 0] [2, 3] rfl rfl rfl rfl rfl rfl (q0 := 0) rfl rfl rfl hl.1 (Nat.le_of_ble_eq_true rfl) dX7_ofMatch_10 ⟨Nat.le_of_ble_eq_true rfl, Nat.le_of_ble_eq_true rfl⟩ (fun r u10 H locs hp10 hI => ?_)
  have hI : jI G zA zs [aI G h2 1 pa, aI G h3 8 pl, oC h0 7 [.ref h1, .ref h2, .ref h3, .ref h4], aI G h4 9 pd] H locs := hI
  subst hp10
  refine j_iadd hC dX7_ofMatch_13 ?_
  exact hQ _ _ _ _ _ () dX7_ofMatch_14 (hI.sub [2, 0, 1, 3] rfl rfl) (by first | rfl | (congr 1; omega) | omega)

theorem hin_X7_rowOf_X7 : ∀ w ∈ wsX70, w ∈ wsX7_rowOf := by decide +kernel
theorem hfl_X7_rowOf_15 : Cond.fieldLink RX7 15 "CheapParse$Tariff" "bytes" "[I" ∈ wsX7_rowOf := by decide +kernel
set_option maxHeartbeats 4000000 in
set_option maxRecDepth 100000 in
theorem c_X7_rowOf_0 (zl : Launch) (G : jG) (h0 : Nat) (h1 : Nat) (h2 : Nat) (h3 : Nat) (h4 : Nat)  : jMet zl yX7_rowOf wsX7_rowOf ({ frames := 0, cells := 0, slots := 0, locals := 0 }) G [oC h0 7 [.ref h1, .ref h2, .ref h3, .ref h4]] [.ref h0, .int (nI 0)] (jQq G (fun (r : Option Nat) (u : Unit) => (r = some h1)) (fun (u : Unit) => [oC h0 7 [.ref h1, .ref h2, .ref h3, .ref h4]])) 0 0 := by
  refine j_enter_q (cc := cX7_rowOf) (nL := 2) (nm := "rowOf") (own := RX7) (lv := [(0, .ref h0), (1, .int (nI 0))]) (by decide) rfl (Nat.le_of_ble_eq_true rfl) rfl rfl rfl ?_
  intro zA zp ze zs zm zargs zbelow zmeth zc zQ ls hC hQ hI hl
  have zx := hC.1
  have zb := hC.2.1
  refine lv_iload_n zx zb dX7_rowOf_0 rfl (lv_at hl 1 rfl) ?_
  refine j_tabIn (tgt := 32) hC dX7_rowOf_1 0 (by decide) (by decide) rfl (by decide) ?_
  refine lv_aload_n zx zb dX7_rowOf_32 rfl (lv_at hl 0 rfl) ?_
  refine j_get hC hI hin_X7_rowOf_X7 0 rfl rfl 0 (by decide) hfl_X7_rowOf_15 rfl rfl dX7_rowOf_33 ?_
  exact hQ _ _ _ _ (some h1) () dX7_rowOf_36 (hI.sub [0] rfl rfl) (by first | rfl | (congr 1; omega) | omega)

theorem hfl_X7_rowOf_19 : Cond.fieldLink RX7 19 "CheapParse$Tariff" "allMatches" "[I" ∈ wsX7_rowOf := by decide +kernel
set_option maxHeartbeats 4000000 in
set_option maxRecDepth 100000 in
theorem c_X7_rowOf_1 (zl : Launch) (G : jG) (h0 : Nat) (h1 : Nat) (h2 : Nat) (h3 : Nat) (h4 : Nat)  : jMet zl yX7_rowOf wsX7_rowOf ({ frames := 0, cells := 0, slots := 0, locals := 0 }) G [oC h0 7 [.ref h1, .ref h2, .ref h3, .ref h4]] [.ref h0, .int (nI 1)] (jQq G (fun (r : Option Nat) (u : Unit) => (r = some h2)) (fun (u : Unit) => [oC h0 7 [.ref h1, .ref h2, .ref h3, .ref h4]])) 0 0 := by
  refine j_enter_q (cc := cX7_rowOf) (nL := 2) (nm := "rowOf") (own := RX7) (lv := [(0, .ref h0), (1, .int (nI 1))]) (by decide) rfl (Nat.le_of_ble_eq_true rfl) rfl rfl rfl ?_
  intro zA zp ze zs zm zargs zbelow zmeth zc zQ ls hC hQ hI hl
  have zx := hC.1
  have zb := hC.2.1
  refine lv_iload_n zx zb dX7_rowOf_0 rfl (lv_at hl 1 rfl) ?_
  refine j_tabIn (tgt := 37) hC dX7_rowOf_1 1 (by decide) (by decide) rfl (by decide) ?_
  refine lv_aload_n zx zb dX7_rowOf_37 rfl (lv_at hl 0 rfl) ?_
  refine j_get hC hI hin_X7_rowOf_X7 0 rfl rfl 1 (by decide) hfl_X7_rowOf_19 rfl rfl dX7_rowOf_38 ?_
  exact hQ _ _ _ _ (some h2) () dX7_rowOf_41 (hI.sub [0] rfl rfl) (by first | rfl | (congr 1; omega) | omega)

theorem hfl_X7_rowOf_22 : Cond.fieldLink RX7 22 "CheapParse$Tariff" "lengths" "[I" ∈ wsX7_rowOf := by decide +kernel
set_option maxHeartbeats 4000000 in
set_option maxRecDepth 100000 in
theorem c_X7_rowOf_2 (zl : Launch) (G : jG) (h0 : Nat) (h1 : Nat) (h2 : Nat) (h3 : Nat) (h4 : Nat)  : jMet zl yX7_rowOf wsX7_rowOf ({ frames := 0, cells := 0, slots := 0, locals := 0 }) G [oC h0 7 [.ref h1, .ref h2, .ref h3, .ref h4]] [.ref h0, .int (nI 2)] (jQq G (fun (r : Option Nat) (u : Unit) => (r = some h3)) (fun (u : Unit) => [oC h0 7 [.ref h1, .ref h2, .ref h3, .ref h4]])) 0 0 := by
  refine j_enter_q (cc := cX7_rowOf) (nL := 2) (nm := "rowOf") (own := RX7) (lv := [(0, .ref h0), (1, .int (nI 2))]) (by decide) rfl (Nat.le_of_ble_eq_true rfl) rfl rfl rfl ?_
  intro zA zp ze zs zm zargs zbelow zmeth zc zQ ls hC hQ hI hl
  have zx := hC.1
  have zb := hC.2.1
  refine lv_iload_n zx zb dX7_rowOf_0 rfl (lv_at hl 1 rfl) ?_
  refine j_tabIn (tgt := 42) hC dX7_rowOf_1 2 (by decide) (by decide) rfl (by decide) ?_
  refine lv_aload_n zx zb dX7_rowOf_42 rfl (lv_at hl 0 rfl) ?_
  refine j_get hC hI hin_X7_rowOf_X7 0 rfl rfl 2 (by decide) hfl_X7_rowOf_22 rfl rfl dX7_rowOf_43 ?_
  exact hQ _ _ _ _ (some h3) () dX7_rowOf_46 (hI.sub [0] rfl rfl) (by first | rfl | (congr 1; omega) | omega)

theorem hfl_X7_rowOf_25 : Cond.fieldLink RX7 25 "CheapParse$Tariff" "distances" "[I" ∈ wsX7_rowOf := by decide +kernel
set_option maxHeartbeats 4000000 in
set_option maxRecDepth 100000 in
theorem c_X7_rowOf_3 (zl : Launch) (G : jG) (h0 : Nat) (h1 : Nat) (h2 : Nat) (h3 : Nat) (h4 : Nat)  : jMet zl yX7_rowOf wsX7_rowOf ({ frames := 0, cells := 0, slots := 0, locals := 0 }) G [oC h0 7 [.ref h1, .ref h2, .ref h3, .ref h4]] [.ref h0, .int (nI 3)] (jQq G (fun (r : Option Nat) (u : Unit) => (r = some h4)) (fun (u : Unit) => [oC h0 7 [.ref h1, .ref h2, .ref h3, .ref h4]])) 0 0 := by
  refine j_enter_q (cc := cX7_rowOf) (nL := 2) (nm := "rowOf") (own := RX7) (lv := [(0, .ref h0), (1, .int (nI 3))]) (by decide) rfl (Nat.le_of_ble_eq_true rfl) rfl rfl rfl ?_
  intro zA zp ze zs zm zargs zbelow zmeth zc zQ ls hC hQ hI hl
  have zx := hC.1
  have zb := hC.2.1
  refine lv_iload_n zx zb dX7_rowOf_0 rfl (lv_at hl 1 rfl) ?_
  refine j_tabIn (tgt := 47) hC dX7_rowOf_1 3 (by decide) (by decide) rfl (by decide) ?_
  refine lv_aload_n zx zb dX7_rowOf_47 rfl (lv_at hl 0 rfl) ?_
  refine j_get hC hI hin_X7_rowOf_X7 0 rfl rfl 3 (by decide) hfl_X7_rowOf_25 rfl rfl dX7_rowOf_48 ?_
  exact hQ _ _ _ _ (some h4) () dX7_rowOf_51 (hI.sub [0] rfl rfl) (by first | rfl | (congr 1; omega) | omega)

set_option maxHeartbeats 4000000 in
set_option maxRecDepth 100000 in
theorem c_X7_rowOf_n (zl : Launch) (G : jG) (h0 : Nat) (h1 : Nat) (h2 : Nat) (h3 : Nat) (h4 : Nat) (w : Int32) (hsw : w.toInt < 0 ∨ (4 : Nat) - 1 < w.toInt) : jMet zl yX7_rowOf wsX7_rowOf ({ frames := 0, cells := 0, slots := 0, locals := 0 }) G [oC h0 7 [.ref h1, .ref h2, .ref h3, .ref h4]] [.ref h0, .int w] (jQq G (fun (r : Option Nat) (u : Unit) => (r = none)) (fun (u : Unit) => [oC h0 7 [.ref h1, .ref h2, .ref h3, .ref h4]])) 0 0 := by
  refine j_enter_q (cc := cX7_rowOf) (nL := 2) (nm := "rowOf") (own := RX7) (lv := [(0, .ref h0), (1, .int w)]) (by decide) rfl (Nat.le_of_ble_eq_true rfl) rfl rfl rfl ?_
  intro zA zp ze zs zm zargs zbelow zmeth zc zQ ls hC hQ hI hl
  have zx := hC.1
  have zb := hC.2.1
  refine lv_iload_n zx zb dX7_rowOf_0 rfl (lv_at hl 1 rfl) ?_
  refine j_tabOut (n := 4) (tgt := 52) hC dX7_rowOf_1 (by decide) hsw (by decide) ?_
  refine lv_null zx zb dX7_rowOf_52 ?_
  exact hQ _ _ _ _ none () dX7_rowOf_53 (hI.sub [0] rfl rfl) (by first | rfl | (congr 1; omega) | omega)

set_option maxHeartbeats 4000000 in
set_option maxRecDepth 100000 in
theorem c_X7_change (zl : Launch) (G : jG) (h0 : Nat) (h1 : Nat) (h2 : Nat) (h3 : Nat) (h4 : Nat) (pb : Nat → Nat) (pa : Nat → Nat) (pl : Nat → Nat) (pd : Nat → Nat) (w : Int32) (k : Int32) (v : Int32)  : jMet zl yX7_change wsX7_change ({ frames := 1, cells := 0, slots := 0, locals := 21 }) G [oC h0 7 [.ref h1, .ref h2, .ref h3, .ref h4], aI G h1 8 pb, aI G h2 1 pa, aI G h3 8 pl, aI G h4 9 pd] [.ref h0, .int w, .int k, .int v] (jQi G (fun (r : Int32) (u : (Nat → Nat) × (Nat → Nat) × (Nat → Nat) × (Nat → Nat)) => (pr_rel pb pa pl pd w k v r u.1 u.2.1 u.2.2.1 u.2.2.2)) (fun (u : (Nat → Nat) × (Nat → Nat) × (Nat → Nat) × (Nat → Nat)) => [oC h0 7 [.ref h1, .ref h2, .ref h3, .ref h4], aI G h1 8 u.1, aI G h2 1 u.2.1, aI G h3 8 u.2.2.1, aI G h4 9 u.2.2.2])) 0 0 := by
  refine j_enter_z (cc := cX7_change) (nL := 5) (nm := "change") (own := RX7) (lv := [(0, .ref h0), (1, .int w), (2, .int k), (3, .int v)]) (by decide) rfl (Nat.le_of_ble_eq_true rfl) rfl rfl rfl ?_
  intro zA zp ze zs zm zargs zbelow zmeth zc zQ ls hC hQ hI hl
  have zx := hC.1
  have zb := hC.2.1
  refine lv_aload_n zx zb dX7_change_0 rfl (lv_at hl 0 rfl) ?_
  refine lv_iload_n zx zb dX7_change_1 rfl (lv_at hl 1 rfl) ?_
  rcases pr_sw w with rfl | rfl | rfl | rfl | hsw
  · refine j_callVq (wr := [aI G h1 8 pb, aI G h2 1 pa, aI G h3 8 pl, aI G h4 9 pd]) hC hI (c_X7_rowOf_0 zl G h0 h1 h2 h3 h4 ) (cwV 1 hC.2.2.2.2.1 gX7_change_X7_rowOf rfl rfl rfl (by decide +kernel) ⟨Nat.le_of_ble_eq_true rfl, Nat.le_of_ble_eq_true rfl⟩) (ra := fun u => h1) (fun r u h => h) [0] [1, 2, 3, 4] rfl rfl rfl rfl rfl rfl (q0 := 0) rfl rfl rfl hl.1 (Nat.le_of_ble_eq_true rfl) dX7_change_2 ⟨Nat.le_of_ble_eq_true rfl, Nat.le_of_ble_eq_true rfl⟩ (fun u2 H locs hp2 hI => ?_)
    have hI : jI G zA zs [aI G h1 8 pb, aI G h2 1 pa, aI G h3 8 pl, aI G h4 9 pd, oC h0 7 [.ref h1, .ref h2, .ref h3, .ref h4]] H locs := hI
    refine lv_astore (lv' := [(4, .ref h1), (0, .ref h0), (1, .int (nI 0)), (2, .int k), (3, .int v)]) zx zb dX7_change_5 hl (by decide) rfl (fun ls hl => ?_)
    refine lv_aload zx zb dX7_change_7 (lv_at hl 0 rfl) ?_
    refine lv_ifnull zx zb dX7_change_9 ?_
    refine lv_iload_n zx zb dX7_change_12 rfl (lv_at hl 3 rfl) ?_
    refine jz_if_lt (tgt := 35) hC dX7_change_13 (by decide) (fun c13 => ?_) (fun j13 j13a j13e => ?_)
    · refine lv_iconst (v := nI 0) zx zb dX7_change_35 (by decide) ?_
      exact hQ _ _ _ _ _ ⟨pb, pa, pl, pd⟩ dX7_change_36 rfl (hI.sub [4, 0, 1, 2, 3] rfl rfl) (by (try dsimp only); exact (Or.inr ⟨pr_no1 c13, rfl, rfl, rfl, rfl, rfl⟩))
    · subst j13e
      refine lv_iload_n zx zb dX7_change_16 rfl (lv_at hl 3 rfl) ?_
      refine lv_aload zx zb dX7_change_17 (lv_at hl 0 rfl) ?_
      refine j_alen hC hI 0 rfl dX7_change_19 ?_
      refine j_icmp_ge (tgt := 35) hC dX7_change_20 (by decide) (by omega) (by omega) (fun c20 => ?_) (fun c20 => ?_)
      · refine lv_iconst (v := nI 0) zx zb dX7_change_35 (by decide) ?_
        exact hQ _ _ _ _ _ ⟨pb, pa, pl, pd⟩ dX7_change_36 rfl (hI.sub [4, 0, 1, 2, 3] rfl rfl) (by (try dsimp only); exact (Or.inr ⟨pr_no02 (by omega), rfl, rfl, rfl, rfl, rfl⟩))
      · refine lv_iload_n zx zb dX7_change_23 rfl (lv_at hl 4 rfl) ?_
        refine lv_iconst (v := nI 1) zx zb dX7_change_24 (by decide) ?_
        refine jz_icmp_lt (tgt := 35) hC dX7_change_25 (by decide) (by omega) (fun c25 => ?_) (fun j25 j25a j25b j25e => ?_)
        · refine lv_iconst (v := nI 0) zx zb dX7_change_35 (by decide) ?_
          exact hQ _ _ _ _ _ ⟨pb, pa, pl, pd⟩ dX7_change_36 rfl (hI.sub [4, 0, 1, 2, 3] rfl rfl) (by (try dsimp only); exact (Or.inr ⟨pr_no3 c25, rfl, rfl, rfl, rfl, rfl⟩))
        · subst j25e
          refine lv_iload_n zx zb dX7_change_28 rfl (lv_at hl 4 rfl) ?_
          refine lv_sipush (v := nI 1000) zx zb dX7_change_29 (by decide) ?_
          refine j_icmp_le (tgt := 37) hC dX7_change_32 (by decide) (by omega) (by omega) (fun c32 => ?_) (fun c32 => ?_)
          · refine lv_aload zx zb dX7_change_37 (lv_at hl 0 rfl) ?_
            refine lv_iload_n zx zb dX7_change_39 rfl (lv_at hl 3 rfl) ?_
            refine lv_iload_n zx zb dX7_change_40 rfl (lv_at hl 4 rfl) ?_
            refine j_iast (w1 := [aI G h1 8 (up pb j13 j25), aI G h2 1 pa, aI G h3 8 pl, aI G h4 9 pd, oC h0 7 [.ref h1, .ref h2, .ref h3, .ref h4]]) hC hI 0 rfl (by omega) (by omega) dX7_change_41 rfl (fun H locs hI => ?_)
            refine lv_iconst (v := nI 1) zx zb dX7_change_42 (by decide) ?_
            exact hQ _ _ _ _ _ ⟨up pb j13 j25, pa, pl, pd⟩ dX7_change_43 rfl (hI.sub [4, 0, 1, 2, 3] rfl rfl) (by (try dsimp only); exact (Or.inl ⟨j13, j25, by omega, by omega, rfl, rfl, rfl, Or.inl ⟨rfl, by omega, rfl, rfl, rfl, rfl⟩⟩))
          · refine lv_iconst (v := nI 0) zx zb dX7_change_35 (by decide) ?_
            exact hQ _ _ _ _ _ ⟨pb, pa, pl, pd⟩ dX7_change_36 rfl (hI.sub [4, 0, 1, 2, 3] rfl rfl) (by (try dsimp only); exact (Or.inr ⟨pr_no5 (by omega), rfl, rfl, rfl, rfl, rfl⟩))
  · refine j_callVq (wr := [aI G h1 8 pb, aI G h2 1 pa, aI G h3 8 pl, aI G h4 9 pd]) hC hI (c_X7_rowOf_1 zl G h0 h1 h2 h3 h4 ) (cwV 1 hC.2.2.2.2.1 gX7_change_X7_rowOf rfl rfl rfl (by decide +kernel) ⟨Nat.le_of_ble_eq_true rfl, Nat.le_of_ble_eq_true rfl⟩) (ra := fun u => h2) (fun r u h => h) [0] [1, 2, 3, 4] rfl rfl rfl rfl rfl rfl (q0 := 0) rfl rfl rfl hl.1 (Nat.le_of_ble_eq_true rfl) dX7_change_2 ⟨Nat.le_of_ble_eq_true rfl, Nat.le_of_ble_eq_true rfl⟩ (fun u2 H locs hp2 hI => ?_)
    have hI : jI G zA zs [aI G h1 8 pb, aI G h2 1 pa, aI G h3 8 pl, aI G h4 9 pd, oC h0 7 [.ref h1, .ref h2, .ref h3, .ref h4]] H locs := hI
    refine lv_astore (lv' := [(4, .ref h2), (0, .ref h0), (1, .int (nI 1)), (2, .int k), (3, .int v)]) zx zb dX7_change_5 hl (by decide) rfl (fun ls hl => ?_)
    refine lv_aload zx zb dX7_change_7 (lv_at hl 0 rfl) ?_
    refine lv_ifnull zx zb dX7_change_9 ?_
    refine lv_iload_n zx zb dX7_change_12 rfl (lv_at hl 3 rfl) ?_
    refine jz_if_lt (tgt := 35) hC dX7_change_13 (by decide) (fun c13 => ?_) (fun j13 j13a j13e => ?_)
    · refine lv_iconst (v := nI 0) zx zb dX7_change_35 (by decide) ?_
      exact hQ _ _ _ _ _ ⟨pb, pa, pl, pd⟩ dX7_change_36 rfl (hI.sub [4, 0, 1, 2, 3] rfl rfl) (by (try dsimp only); exact (Or.inr ⟨pr_no1 c13, rfl, rfl, rfl, rfl, rfl⟩))
    · subst j13e
      refine lv_iload_n zx zb dX7_change_16 rfl (lv_at hl 3 rfl) ?_
      refine lv_aload zx zb dX7_change_17 (lv_at hl 0 rfl) ?_
      refine j_alen hC hI 1 rfl dX7_change_19 ?_
      refine j_icmp_ge (tgt := 35) hC dX7_change_20 (by decide) (by omega) (by omega) (fun c20 => ?_) (fun c20 => ?_)
      · refine lv_iconst (v := nI 0) zx zb dX7_change_35 (by decide) ?_
        exact hQ _ _ _ _ _ ⟨pb, pa, pl, pd⟩ dX7_change_36 rfl (hI.sub [4, 0, 1, 2, 3] rfl rfl) (by (try dsimp only); exact (Or.inr ⟨pr_no12 (by omega), rfl, rfl, rfl, rfl, rfl⟩))
      · refine lv_iload_n zx zb dX7_change_23 rfl (lv_at hl 4 rfl) ?_
        refine lv_iconst (v := nI 1) zx zb dX7_change_24 (by decide) ?_
        refine jz_icmp_lt (tgt := 35) hC dX7_change_25 (by decide) (by omega) (fun c25 => ?_) (fun j25 j25a j25b j25e => ?_)
        · refine lv_iconst (v := nI 0) zx zb dX7_change_35 (by decide) ?_
          exact hQ _ _ _ _ _ ⟨pb, pa, pl, pd⟩ dX7_change_36 rfl (hI.sub [4, 0, 1, 2, 3] rfl rfl) (by (try dsimp only); exact (Or.inr ⟨pr_no3 c25, rfl, rfl, rfl, rfl, rfl⟩))
        · subst j25e
          refine lv_iload_n zx zb dX7_change_28 rfl (lv_at hl 4 rfl) ?_
          refine lv_sipush (v := nI 1000) zx zb dX7_change_29 (by decide) ?_
          refine j_icmp_le (tgt := 37) hC dX7_change_32 (by decide) (by omega) (by omega) (fun c32 => ?_) (fun c32 => ?_)
          · refine lv_aload zx zb dX7_change_37 (lv_at hl 0 rfl) ?_
            refine lv_iload_n zx zb dX7_change_39 rfl (lv_at hl 3 rfl) ?_
            refine lv_iload_n zx zb dX7_change_40 rfl (lv_at hl 4 rfl) ?_
            refine j_iast (w1 := [aI G h1 8 pb, aI G h2 1 (up pa j13 j25), aI G h3 8 pl, aI G h4 9 pd, oC h0 7 [.ref h1, .ref h2, .ref h3, .ref h4]]) hC hI 1 rfl (by omega) (by omega) dX7_change_41 rfl (fun H locs hI => ?_)
            refine lv_iconst (v := nI 1) zx zb dX7_change_42 (by decide) ?_
            exact hQ _ _ _ _ _ ⟨pb, up pa j13 j25, pl, pd⟩ dX7_change_43 rfl (hI.sub [4, 0, 1, 2, 3] rfl rfl) (by (try dsimp only); exact (Or.inl ⟨j13, j25, by omega, by omega, rfl, rfl, rfl, Or.inr (Or.inl ⟨rfl, by omega, rfl, rfl, rfl, rfl⟩)⟩))
          · refine lv_iconst (v := nI 0) zx zb dX7_change_35 (by decide) ?_
            exact hQ _ _ _ _ _ ⟨pb, pa, pl, pd⟩ dX7_change_36 rfl (hI.sub [4, 0, 1, 2, 3] rfl rfl) (by (try dsimp only); exact (Or.inr ⟨pr_no5 (by omega), rfl, rfl, rfl, rfl, rfl⟩))
  · refine j_callVq (wr := [aI G h1 8 pb, aI G h2 1 pa, aI G h3 8 pl, aI G h4 9 pd]) hC hI (c_X7_rowOf_2 zl G h0 h1 h2 h3 h4 ) (cwV 1 hC.2.2.2.2.1 gX7_change_X7_rowOf rfl rfl rfl (by decide +kernel) ⟨Nat.le_of_ble_eq_true rfl, Nat.le_of_ble_eq_true rfl⟩) (ra := fun u => h3) (fun r u h => h) [0] [1, 2, 3, 4] rfl rfl rfl rfl rfl rfl (q0 := 0) rfl rfl rfl hl.1 (Nat.le_of_ble_eq_true rfl) dX7_change_2 ⟨Nat.le_of_ble_eq_true rfl, Nat.le_of_ble_eq_true rfl⟩ (fun u2 H locs hp2 hI => ?_)
    have hI : jI G zA zs [aI G h1 8 pb, aI G h2 1 pa, aI G h3 8 pl, aI G h4 9 pd, oC h0 7 [.ref h1, .ref h2, .ref h3, .ref h4]] H locs := hI
    refine lv_astore (lv' := [(4, .ref h3), (0, .ref h0), (1, .int (nI 2)), (2, .int k), (3, .int v)]) zx zb dX7_change_5 hl (by decide) rfl (fun ls hl => ?_)
    refine lv_aload zx zb dX7_change_7 (lv_at hl 0 rfl) ?_
    refine lv_ifnull zx zb dX7_change_9 ?_
    refine lv_iload_n zx zb dX7_change_12 rfl (lv_at hl 3 rfl) ?_
    refine jz_if_lt (tgt := 35) hC dX7_change_13 (by decide) (fun c13 => ?_) (fun j13 j13a j13e => ?_)
    · refine lv_iconst (v := nI 0) zx zb dX7_change_35 (by decide) ?_
      exact hQ _ _ _ _ _ ⟨pb, pa, pl, pd⟩ dX7_change_36 rfl (hI.sub [4, 0, 1, 2, 3] rfl rfl) (by (try dsimp only); exact (Or.inr ⟨pr_no1 c13, rfl, rfl, rfl, rfl, rfl⟩))
    · subst j13e
      refine lv_iload_n zx zb dX7_change_16 rfl (lv_at hl 3 rfl) ?_
      refine lv_aload zx zb dX7_change_17 (lv_at hl 0 rfl) ?_
      refine j_alen hC hI 2 rfl dX7_change_19 ?_
      refine j_icmp_ge (tgt := 35) hC dX7_change_20 (by decide) (by omega) (by omega) (fun c20 => ?_) (fun c20 => ?_)
      · refine lv_iconst (v := nI 0) zx zb dX7_change_35 (by decide) ?_
        exact hQ _ _ _ _ _ ⟨pb, pa, pl, pd⟩ dX7_change_36 rfl (hI.sub [4, 0, 1, 2, 3] rfl rfl) (by (try dsimp only); exact (Or.inr ⟨pr_no22 (by omega), rfl, rfl, rfl, rfl, rfl⟩))
      · refine lv_iload_n zx zb dX7_change_23 rfl (lv_at hl 4 rfl) ?_
        refine lv_iconst (v := nI 1) zx zb dX7_change_24 (by decide) ?_
        refine jz_icmp_lt (tgt := 35) hC dX7_change_25 (by decide) (by omega) (fun c25 => ?_) (fun j25 j25a j25b j25e => ?_)
        · refine lv_iconst (v := nI 0) zx zb dX7_change_35 (by decide) ?_
          exact hQ _ _ _ _ _ ⟨pb, pa, pl, pd⟩ dX7_change_36 rfl (hI.sub [4, 0, 1, 2, 3] rfl rfl) (by (try dsimp only); exact (Or.inr ⟨pr_no3 c25, rfl, rfl, rfl, rfl, rfl⟩))
        · subst j25e
          refine lv_iload_n zx zb dX7_change_28 rfl (lv_at hl 4 rfl) ?_
          refine lv_sipush (v := nI 1000) zx zb dX7_change_29 (by decide) ?_
          refine j_icmp_le (tgt := 37) hC dX7_change_32 (by decide) (by omega) (by omega) (fun c32 => ?_) (fun c32 => ?_)
          · refine lv_aload zx zb dX7_change_37 (lv_at hl 0 rfl) ?_
            refine lv_iload_n zx zb dX7_change_39 rfl (lv_at hl 3 rfl) ?_
            refine lv_iload_n zx zb dX7_change_40 rfl (lv_at hl 4 rfl) ?_
            refine j_iast (w1 := [aI G h1 8 pb, aI G h2 1 pa, aI G h3 8 (up pl j13 j25), aI G h4 9 pd, oC h0 7 [.ref h1, .ref h2, .ref h3, .ref h4]]) hC hI 2 rfl (by omega) (by omega) dX7_change_41 rfl (fun H locs hI => ?_)
            refine lv_iconst (v := nI 1) zx zb dX7_change_42 (by decide) ?_
            exact hQ _ _ _ _ _ ⟨pb, pa, up pl j13 j25, pd⟩ dX7_change_43 rfl (hI.sub [4, 0, 1, 2, 3] rfl rfl) (by (try dsimp only); exact (Or.inl ⟨j13, j25, by omega, by omega, rfl, rfl, rfl, Or.inr (Or.inr (Or.inl ⟨rfl, by omega, rfl, rfl, rfl, rfl⟩))⟩))
          · refine lv_iconst (v := nI 0) zx zb dX7_change_35 (by decide) ?_
            exact hQ _ _ _ _ _ ⟨pb, pa, pl, pd⟩ dX7_change_36 rfl (hI.sub [4, 0, 1, 2, 3] rfl rfl) (by (try dsimp only); exact (Or.inr ⟨pr_no5 (by omega), rfl, rfl, rfl, rfl, rfl⟩))
  · refine j_callVq (wr := [aI G h1 8 pb, aI G h2 1 pa, aI G h3 8 pl, aI G h4 9 pd]) hC hI (c_X7_rowOf_3 zl G h0 h1 h2 h3 h4 ) (cwV 1 hC.2.2.2.2.1 gX7_change_X7_rowOf rfl rfl rfl (by decide +kernel) ⟨Nat.le_of_ble_eq_true rfl, Nat.le_of_ble_eq_true rfl⟩) (ra := fun u => h4) (fun r u h => h) [0] [1, 2, 3, 4] rfl rfl rfl rfl rfl rfl (q0 := 0) rfl rfl rfl hl.1 (Nat.le_of_ble_eq_true rfl) dX7_change_2 ⟨Nat.le_of_ble_eq_true rfl, Nat.le_of_ble_eq_true rfl⟩ (fun u2 H locs hp2 hI => ?_)
    have hI : jI G zA zs [aI G h1 8 pb, aI G h2 1 pa, aI G h3 8 pl, aI G h4 9 pd, oC h0 7 [.ref h1, .ref h2, .ref h3, .ref h4]] H locs := hI
    refine lv_astore (lv' := [(4, .ref h4), (0, .ref h0), (1, .int (nI 3)), (2, .int k), (3, .int v)]) zx zb dX7_change_5 hl (by decide) rfl (fun ls hl => ?_)
    refine lv_aload zx zb dX7_change_7 (lv_at hl 0 rfl) ?_
    refine lv_ifnull zx zb dX7_change_9 ?_
    refine lv_iload_n zx zb dX7_change_12 rfl (lv_at hl 3 rfl) ?_
    refine jz_if_lt (tgt := 35) hC dX7_change_13 (by decide) (fun c13 => ?_) (fun j13 j13a j13e => ?_)
    · refine lv_iconst (v := nI 0) zx zb dX7_change_35 (by decide) ?_
      exact hQ _ _ _ _ _ ⟨pb, pa, pl, pd⟩ dX7_change_36 rfl (hI.sub [4, 0, 1, 2, 3] rfl rfl) (by (try dsimp only); exact (Or.inr ⟨pr_no1 c13, rfl, rfl, rfl, rfl, rfl⟩))
    · subst j13e
      refine lv_iload_n zx zb dX7_change_16 rfl (lv_at hl 3 rfl) ?_
      refine lv_aload zx zb dX7_change_17 (lv_at hl 0 rfl) ?_
      refine j_alen hC hI 3 rfl dX7_change_19 ?_
      refine j_icmp_ge (tgt := 35) hC dX7_change_20 (by decide) (by omega) (by omega) (fun c20 => ?_) (fun c20 => ?_)
      · refine lv_iconst (v := nI 0) zx zb dX7_change_35 (by decide) ?_
        exact hQ _ _ _ _ _ ⟨pb, pa, pl, pd⟩ dX7_change_36 rfl (hI.sub [4, 0, 1, 2, 3] rfl rfl) (by (try dsimp only); exact (Or.inr ⟨pr_no32 (by omega), rfl, rfl, rfl, rfl, rfl⟩))
      · refine lv_iload_n zx zb dX7_change_23 rfl (lv_at hl 4 rfl) ?_
        refine lv_iconst (v := nI 1) zx zb dX7_change_24 (by decide) ?_
        refine jz_icmp_lt (tgt := 35) hC dX7_change_25 (by decide) (by omega) (fun c25 => ?_) (fun j25 j25a j25b j25e => ?_)
        · refine lv_iconst (v := nI 0) zx zb dX7_change_35 (by decide) ?_
          exact hQ _ _ _ _ _ ⟨pb, pa, pl, pd⟩ dX7_change_36 rfl (hI.sub [4, 0, 1, 2, 3] rfl rfl) (by (try dsimp only); exact (Or.inr ⟨pr_no3 c25, rfl, rfl, rfl, rfl, rfl⟩))
        · subst j25e
          refine lv_iload_n zx zb dX7_change_28 rfl (lv_at hl 4 rfl) ?_
          refine lv_sipush (v := nI 1000) zx zb dX7_change_29 (by decide) ?_
          refine j_icmp_le (tgt := 37) hC dX7_change_32 (by decide) (by omega) (by omega) (fun c32 => ?_) (fun c32 => ?_)
          · refine lv_aload zx zb dX7_change_37 (lv_at hl 0 rfl) ?_
            refine lv_iload_n zx zb dX7_change_39 rfl (lv_at hl 3 rfl) ?_
            refine lv_iload_n zx zb dX7_change_40 rfl (lv_at hl 4 rfl) ?_
            refine j_iast (w1 := [aI G h1 8 pb, aI G h2 1 pa, aI G h3 8 pl, aI G h4 9 (up pd j13 j25), oC h0 7 [.ref h1, .ref h2, .ref h3, .ref h4]]) hC hI 3 rfl (by omega) (by omega) dX7_change_41 rfl (fun H locs hI => ?_)
            refine lv_iconst (v := nI 1) zx zb dX7_change_42 (by decide) ?_
            exact hQ _ _ _ _ _ ⟨pb, pa, pl, up pd j13 j25⟩ dX7_change_43 rfl (hI.sub [4, 0, 1, 2, 3] rfl rfl) (by (try dsimp only); exact (Or.inl ⟨j13, j25, by omega, by omega, rfl, rfl, rfl, Or.inr (Or.inr (Or.inr ⟨rfl, by omega, rfl, rfl, rfl, rfl⟩))⟩))
          · refine lv_iconst (v := nI 0) zx zb dX7_change_35 (by decide) ?_
            exact hQ _ _ _ _ _ ⟨pb, pa, pl, pd⟩ dX7_change_36 rfl (hI.sub [4, 0, 1, 2, 3] rfl rfl) (by (try dsimp only); exact (Or.inr ⟨pr_no5 (by omega), rfl, rfl, rfl, rfl, rfl⟩))
  · refine j_callVqN (wr := [aI G h1 8 pb, aI G h2 1 pa, aI G h3 8 pl, aI G h4 9 pd]) hC hI (c_X7_rowOf_n zl G h0 h1 h2 h3 h4 w (by omega)) (cwV 1 hC.2.2.2.2.1 gX7_change_X7_rowOf rfl rfl rfl (by decide +kernel) ⟨Nat.le_of_ble_eq_true rfl, Nat.le_of_ble_eq_true rfl⟩) (fun r u h => h) [0] [1, 2, 3, 4] rfl rfl rfl rfl rfl rfl (q0 := 0) rfl rfl rfl hl.1 (Nat.le_of_ble_eq_true rfl) dX7_change_2 ⟨Nat.le_of_ble_eq_true rfl, Nat.le_of_ble_eq_true rfl⟩ (fun u2 H locs hp2 hI => ?_)
    have hI : jI G zA zs [aI G h1 8 pb, aI G h2 1 pa, aI G h3 8 pl, aI G h4 9 pd, oC h0 7 [.ref h1, .ref h2, .ref h3, .ref h4]] H locs := hI
    refine lv_astoreN (lv' := [(4, .null), (0, .ref h0), (1, .int w), (2, .int k), (3, .int v)]) zx zb dX7_change_5 hl (by decide) rfl (fun ls hl => ?_)
    refine lv_aloadN zx zb dX7_change_7 (lv_at hl 0 rfl) ?_
    refine lv_ifnullN (tgt := 35) zx zb dX7_change_9 (by decide) ?_
    refine lv_iconst (v := nI 0) zx zb dX7_change_35 (by decide) ?_
    exact hQ _ _ _ _ _ ⟨pb, pa, pl, pd⟩ dX7_change_36 rfl (hI.sub [4, 0, 1, 2, 3] rfl rfl) (by (try dsimp only); exact (Or.inr ⟨pr_no6 hsw, rfl, rfl, rfl, rfl, rfl⟩))
end
section
/-! matches of a text T of n bytes, by the limits la, lm, lw -/
/-- how many of k bytes from p on are the same as those d places before -/
def lc (T : Nat → Nat) (d : Nat) : Nat → Nat → Nat
  | _, 0 => 0
  | p, k + 1 => if T p = T (p - d) then lc T d (p + 1) k + 1 else 0
theorem lc_le (T : Nat → Nat) (d : Nat) : ∀ k p, lc T d p k ≤ k
  | 0, _ => Nat.le_refl _
  | k + 1, p => by
    rw [lc]; split
    · have := lc_le T d k (p + 1); omega
    · omega
theorem lc_eq {T : Nat → Nat} {d p n : Nat} (hp : p < n) (h : T (p - d) = T p) : lc T d p (n - p) = lc T d (p + 1) (n - (p + 1)) + 1 := by
  rw [show n - p = (n - (p + 1)) + 1 by omega, lc, if_pos h.symm]
theorem lc_ne {T : Nat → Nat} {d p n : Nat} (hp : p < n) (h : T (p - d) ≠ T p) : lc T d p (n - p) = 0 := by
  rw [show n - p = (n - (p + 1)) + 1 by omega, lc, if_neg (fun q => h q.symm)]
/-- the longest match at p of distance d, or 0 -/
def mt (la lm lw : Nat) (T : Nat → Nat) (n p d : Nat) : Nat := if 1 ≤ d ∧ d ≤ lw ∧ d ≤ p then (if min (lc T d p (n - p)) lm < la then 0 else min (lc T d p (n - p)) lm) else 0
theorem mt_le {la lm lw : Nat} {T : Nat → Nat} {n p d : Nat} : mt la lm lw T n p d ≤ lm := by
  rw [mt]; split
  · split
    · omega
    · exact Nat.min_le_right _ _
  · omega
theorem mt_far {la lm lw : Nat} {T : Nat → Nat} {n p d : Nat} (h : p < d ∨ lw < d) : mt la lm lw T n p d = 0 := by
  rw [mt, if_neg (by omega)]
theorem mt_short {la lm lw : Nat} {T : Nat → Nat} {n p d : Nat} (h : lc T d p (n - p) < la) : mt la lm lw T n p d = 0 := by
  rw [mt]; split
  · rw [if_pos (by omega)]
  · rfl
theorem mt_in {la lm lw : Nat} {T : Nat → Nat} {n p d : Nat} (h1 : 1 ≤ d ∧ d ≤ lw ∧ d ≤ p) (h : la ≤ lc T d p (n - p)) (hl : la ≤ lm) : mt la lm lw T n p d = min (lc T d p (n - p)) lm := by
  rw [mt, if_pos h1, if_neg (by omega)]
/-- the greatest of f 1 .. f k, the first place of it (0 when all are 0), how many are not 0 -/
def mx (f : Nat → Nat) : Nat → Nat
  | 0 => 0
  | k + 1 => max (mx f k) (f (k + 1))
def nrs (f : Nat → Nat) : Nat → Nat
  | 0 => 0
  | k + 1 => if mx f k < f (k + 1) then k + 1 else nrs f k
def ct (f : Nat → Nat) : Nat → Nat
  | 0 => 0
  | k + 1 => ct f k + (if f (k + 1) = 0 then 0 else 1)
/-- the greatest of f lo .. f (lo + k - 1) -/
def rx (f : Nat → Nat) (lo : Nat) : Nat → Nat
  | 0 => 0
  | k + 1 => max (rx f lo k) (f (lo + k))
theorem mx_le {f : Nat → Nat} {B : Nat} (h : ∀ d, f d ≤ B) : ∀ k, mx f k ≤ B
  | 0 => Nat.zero_le _
  | k + 1 => by have := mx_le h k; have := h (k + 1); rw [mx]; omega
theorem rx_le {f : Nat → Nat} {B lo : Nat} (h : ∀ d, f d ≤ B) : ∀ k, rx f lo k ≤ B
  | 0 => Nat.zero_le _
  | k + 1 => by have := rx_le (lo := lo) h k; have := h (lo + k); rw [rx]; omega
theorem ct_le {f : Nat → Nat} : ∀ k, ct f k ≤ k
  | 0 => Nat.le_refl _
  | k + 1 => by have := ct_le (f := f) k; rw [ct]; split <;> omega
theorem nrs_le {f : Nat → Nat} : ∀ k, nrs f k ≤ k
  | 0 => Nat.le_refl _
  | k + 1 => by have := nrs_le (f := f) k; rw [nrs]; split <;> omega
theorem mx_skip {f : Nat → Nat} {a : Nat} : ∀ k, (∀ d, a < d → d ≤ a + k → f d = 0) → mx f (a + k) = mx f a
  | 0, _ => rfl
  | k + 1, h => by rw [← Nat.add_assoc, mx, h _ (by omega) (by omega), mx_skip k (fun d h1 h2 => h d h1 (by omega))]; omega
theorem nrs_skip {f : Nat → Nat} {a : Nat} : ∀ k, (∀ d, a < d → d ≤ a + k → f d = 0) → nrs f (a + k) = nrs f a
  | 0, _ => rfl
  | k + 1, h => by rw [← Nat.add_assoc, nrs, h _ (by omega) (by omega), if_neg (by omega), nrs_skip k (fun d h1 h2 => h d h1 (by omega))]
theorem ct_skip {f : Nat → Nat} {a : Nat} : ∀ k, (∀ d, a < d → d ≤ a + k → f d = 0) → ct f (a + k) = ct f a
  | 0, _ => rfl
  | k + 1, h => by rw [← Nat.add_assoc, ct, h _ (by omega) (by omega), if_pos rfl, ct_skip k (fun d h1 h2 => h d h1 (by omega))]; omega
theorem rx_skip {f : Nat → Nat} {lo a : Nat} : ∀ k, (∀ d, lo + a ≤ d → d < lo + a + k → f d = 0) → rx f lo (a + k) = rx f lo a
  | 0, _ => rfl
  | k + 1, h => by rw [← Nat.add_assoc, rx, h _ (by omega) (by omega), rx_skip k (fun d h1 h2 => h d h1 (by omega))]; omega
theorem mx_to {f : Nat → Nat} {a b : Nat} (hab : a ≤ b) (h : ∀ d, a < d → d ≤ b → f d = 0) : mx f b = mx f a := by
  have := mx_skip (f := f) (a := a) (b - a) (fun d h1 h2 => h d h1 (by omega)); rwa [show a + (b - a) = b by omega] at this
theorem nrs_to {f : Nat → Nat} {a b : Nat} (hab : a ≤ b) (h : ∀ d, a < d → d ≤ b → f d = 0) : nrs f b = nrs f a := by
  have := nrs_skip (f := f) (a := a) (b - a) (fun d h1 h2 => h d h1 (by omega)); rwa [show a + (b - a) = b by omega] at this
theorem ct_to {f : Nat → Nat} {a b : Nat} (hab : a ≤ b) (h : ∀ d, a < d → d ≤ b → f d = 0) : ct f b = ct f a := by
  have := ct_skip (f := f) (a := a) (b - a) (fun d h1 h2 => h d h1 (by omega)); rwa [show a + (b - a) = b by omega] at this
theorem rx_to {f : Nat → Nat} {lo a b : Nat} (hab : a ≤ b) (h : ∀ d, lo + a ≤ d → d < lo + b → f d = 0) : rx f lo b = rx f lo a := by
  have := rx_skip (f := f) (lo := lo) (a := a) (b - a) (fun d h1 h2 => h d h1 (by omega)); rwa [show a + (b - a) = b by omega] at this
theorem mx_at {f : Nat → Nat} {D : Nat} (h : 1 ≤ D) : mx f (D + 1 - 1) = max (mx f (D - 1)) (f D) := by
  obtain ⟨k, rfl⟩ : ∃ k, D = k + 1 := ⟨D - 1, by omega⟩
  rw [show k + 1 + 1 - 1 = k + 1 by omega, show k + 1 - 1 = k by omega, mx]
theorem nrs_at {f : Nat → Nat} {D : Nat} (h : 1 ≤ D) : nrs f (D + 1 - 1) = if mx f (D - 1) < f D then D else nrs f (D - 1) := by
  obtain ⟨k, rfl⟩ : ∃ k, D = k + 1 := ⟨D - 1, by omega⟩
  rw [show k + 1 + 1 - 1 = k + 1 by omega, show k + 1 - 1 = k by omega, nrs]
theorem ct_at {f : Nat → Nat} {D : Nat} (h : 1 ≤ D) : ct f (D + 1 - 1) = ct f (D - 1) + (if f D = 0 then 0 else 1) := by
  obtain ⟨k, rfl⟩ : ∃ k, D = k + 1 := ⟨D - 1, by omega⟩
  rw [show k + 1 + 1 - 1 = k + 1 by omega, show k + 1 - 1 = k by omega, ct]
theorem rx_at {f : Nat → Nat} {lo D : Nat} (h : lo ≤ D) : rx f lo (D + 1 - lo) = max (rx f lo (D - lo)) (f D) := by
  rw [show D + 1 - lo = (D - lo) + 1 by omega, rx, show lo + (D - lo) = D by omega]
/-- what the tables say of a place -/
def mOK (la lm lw : Nat) (T : Nat → Nat) (n : Nat) (g1 g2 g3 g4 : Nat → Nat) (p : Nat) : Prop :=
  g1 p = mx (mt la lm lw T n p) 511 ∧ g2 p = nrs (mt la lm lw T n p) 511 ∧ g3 p = ct (mt la lm lw T n p) 511 ∧ ∀ c, c < 9 → g4 (p * 9 + c) = rx (mt la lm lw T n p) (2 ^ c) (2 ^ c)
theorem tp_lt {c : Nat} (h : c < 9) : 2 ^ c ≤ 256 := by
  have := Nat.pow_le_pow_right (n := 2) (by decide) (show c ≤ 8 by omega); omega
theorem nc_same {T e g5 : Nat → Nat} {lo D p n y : Nat} (k : ∀ d, (lo ≤ d ∧ d < D → e d = lc T d p (n - p)) ∧ (¬ (lo ≤ d ∧ d < D) → e d = g5 d)) (hy : y = lc T D p (n - p)) (hD : lo ≤ D) :
    ∀ d, (lo ≤ d ∧ d < D + 1 → up e D y d = lc T d p (n - p)) ∧ (¬ (lo ≤ d ∧ d < D + 1) → up e D y d = g5 d) := by
  intro d
  by_cases e1 : d = D
  · subst e1; rw [up_s]; exact ⟨fun _ => hy, fun h => by omega⟩
  · rw [up_n e1]; exact ⟨fun h => (k d).1 (by omega), fun h => (k d).2 (by omega)⟩
theorem lc_iff (T : Nat → Nat) (d : Nat) : ∀ K p k, k ≤ K → (k ≤ lc T d p K ↔ ∀ j, j < k → T (p + j) = T (p + j - d))
  | 0, p, k, h => ⟨fun _ j hj => by omega, fun _ => by omega⟩
  | K + 1, p, 0, h => ⟨fun _ j hj => by omega, fun _ => Nat.zero_le _⟩
  | K + 1, p, k + 1, h => by
    have ih := lc_iff T d K (p + 1) k (by omega)
    rw [lc]
    split
    · rename_i e
      constructor
      · intro q j hj
        rcases Nat.eq_zero_or_pos j with z | z
        · subst z; exact e
        · have := ih.mp (by omega) (j - 1) (by omega)
          rwa [show p + 1 + (j - 1) = p + j by omega] at this
      · intro q
        have := ih.mpr (fun j hj => by have := q (j + 1) (by omega); rwa [show p + (j + 1) = p + 1 + j by omega] at this)
        omega
    · rename_i e
      exact ⟨fun q => by omega, fun q => absurd (q 0 (by omega)) e⟩
theorem lc_large {T : Nat → Nat} {d p n k : Nat} (h : p + k ≤ n) (q : ∀ j, j < k → T (p + j) = T (p + j - d)) : k ≤ lc T d p (n - p) := (lc_iff T d (n - p) p k (by omega)).mpr q
theorem lc_small {T : Nat → Nat} {d p n k : Nat} (h : p + k ≤ n) (q : ¬ ∀ j, j < k → T (p + j) = T (p + j - d)) : lc T d p (n - p) < k := Nat.lt_of_not_le (fun z => q ((lc_iff T d (n - p) p k (by omega)).mp z))
theorem bd_next {la lm lw n j : Nat} {T e1 e2 e3 e4 : Nat → Nat} (hm : ∀ p, j + 1 ≤ p → p < n → mOK la lm lw T n e1 e2 e3 e4 p) (k1 : e1 j = mx (mt la lm lw T n j) (2 ^ 9 - 1)) (k2 : e2 j = nrs (mt la lm lw T n j) (2 ^ 9 - 1)) (k3 : e3 j = ct (mt la lm lw T n j) (2 ^ 9 - 1)) (k4 : ∀ c2, c2 < 9 → e4 (j * 9 + c2) = rx (mt la lm lw T n j) (2 ^ c2) (2 ^ c2)) (hj : j < n) : ∀ p, j ≤ p → p < n → mOK la lm lw T n e1 e2 e3 e4 p := by
  intro p h1 h2
  by_cases e : p = j
  · subst e; exact ⟨k1, k2, k3, k4⟩
  · exact hm p (by omega) h2
theorem bd_off {la lm lw n j p : Nat} {T e1 e2 e3 e4 : Nat → Nat} {x y z : Nat} (h : mOK la lm lw T n e1 e2 e3 e4 p) (hp : p ≠ j) : mOK la lm lw T n (up e1 j x) (up e2 j y) (up e3 j z) e4 p := by
  obtain ⟨h1, h2, h3, h4⟩ := h
  exact ⟨by rw [up_n hp, h1], by rw [up_n hp, h2], by rw [up_n hp, h3], h4⟩
theorem bd_keep {la lm lw n j p c x : Nat} {T y1 y2 y3 y4 e1 e2 e3 e4 : Nat → Nat} (h : mOK la lm lw T n y1 y2 y3 y4 p) (ho : ∀ i, i ≠ j → e1 i = y1 i ∧ e2 i = y2 i ∧ e3 i = y3 i) (h4 : e4 = up y4 (j * 9 + c) x) (hp : p ≠ j) (hc : c < 9) : mOK la lm lw T n e1 e2 e3 e4 p := by
  obtain ⟨k1, k2, k3, k4⟩ := h
  obtain ⟨o1, o2, o3⟩ := ho p hp
  exact ⟨o1.trans k1, o2.trans k2, o3.trans k3, fun c2 hc2 => by rw [h4, up_n (by omega)]; exact k4 c2 hc2⟩
theorem bd_k4 {la lm lw n j c : Nat} {T y4 e4 : Nat → Nat} (k4 : ∀ c2, c2 < c → y4 (j * 9 + c2) = rx (mt la lm lw T n j) (2 ^ c2) (2 ^ c2)) (h4 : e4 = up y4 (j * 9 + c) (rx (mt la lm lw T n j) (2 ^ c) (2 ^ c))) : ∀ c2, c2 < c + 1 → e4 (j * 9 + c2) = rx (mt la lm lw T n j) (2 ^ c2) (2 ^ c2) := by
  intro c2 h
  by_cases e : c2 = c
  · subst e; rw [h4, up_s]
  · rw [h4, up_n (by omega)]; exact k4 c2 (by omega)
theorem bd_k5 {lw n j c : Nat} {T y5 e5 : Nat → Nat} (k5 : ∀ d, 1 ≤ d → d ≤ j → d ≤ lw → (d < 2 ^ c → y5 d = lc T d j (n - j)) ∧ (2 ^ c ≤ d → y5 d = lc T d (j + 1) (n - (j + 1)))) (h : ∀ d, d ≤ j → d ≤ lw → (2 ^ c ≤ d ∧ d < 2 ^ (c + 1) → e5 d = lc T d j (n - j)) ∧ (¬ (2 ^ c ≤ d ∧ d < 2 ^ (c + 1)) → e5 d = y5 d)) :
    ∀ d, 1 ≤ d → d ≤ j → d ≤ lw → (d < 2 ^ (c + 1) → e5 d = lc T d j (n - j)) ∧ (2 ^ (c + 1) ≤ d → e5 d = lc T d (j + 1) (n - (j + 1))) := by
  intro d h1 h2 h3
  have hp : 2 ^ c ≤ 2 ^ (c + 1) := Nat.pow_le_pow_right (by decide) (by omega)
  refine ⟨fun q => ?_, fun q => ?_⟩
  · rcases Nat.lt_or_ge d (2 ^ c) with z | z
    · rw [(h d h2 h3).2 (by omega)]; exact (k5 d h1 h2 h3).1 z
    · exact (h d h2 h3).1 ⟨z, q⟩
  · rw [(h d h2 h3).2 (by omega)]; exact (k5 d h1 h2 h3).2 (by omega)
end
section
theorem hin_X3_longestAt_X3 : ∀ w ∈ wsX30, w ∈ wsX3_longestAt := by decide +kernel
theorem hfl_X3_longestAt_9 : Cond.fieldLink RX3 9 "CheapParse$Matches" "text" "LCheapParse$Bytes;" ∈ wsX3_longestAt := by decide +kernel
theorem hfl_X3_longestAt_19 : Cond.fieldLink RX3 19 "CheapParse$Matches" "longest" "[I" ∈ wsX3_longestAt := by decide +kernel
set_option maxHeartbeats 4000000 in
set_option maxRecDepth 100000 in
theorem c_X3_longestAt (zl : Launch) (G : jG) (m0 : Nat) (t0 : Nat) (u0 : Nat) (a1 : Nat) (a2 : Nat) (a3 : Nat) (a4 : Nat) (a5 : Nat) (t1 : Nat) (n : Nat) (p : Nat) (g1 : Nat → Nat) (hn : n ≤ 500) (hp : p < n) : jMet zl yX3_longestAt wsX3_longestAt ({ frames := 1, cells := 0, slots := 0, locals := 20 }) G [oC m0 3 [.ref t0, .ref u0, .ref a1, .ref a2, .ref a3, .ref a4, .ref a5], oC t0 1 [.ref t1, .int (nI n)], aI G a1 500 g1] [.ref m0, .int (nI p)] (jQi G (fun (r : Int32) (u : Unit) => (r = nI (g1 p))) (fun (u : Unit) => [oC m0 3 [.ref t0, .ref u0, .ref a1, .ref a2, .ref a3, .ref a4, .ref a5], oC t0 1 [.ref t1, .int (nI n)], aI G a1 500 g1])) 0 0 := by
  refine j_enter_i (cc := cX3_longestAt) (nL := 2) (nm := "longestAt") (own := RX3) (lv := [(0, .ref m0), (1, .int (nI p))]) (by decide) rfl (Nat.le_of_ble_eq_true rfl) rfl rfl rfl ?_
  intro zA zp ze zs zm zargs zbelow zmeth zc zQ ls hC hQ hI hl
  have zx := hC.1
  have zb := hC.2.1
  refine lv_iload_n zx zb dX3_longestAt_0 rfl (lv_at hl 1 rfl) ?_
  refine j_if_lt (tgt := 24) hC dX3_longestAt_1 (by decide) (by omega) ?_
  refine lv_iload_n zx zb dX3_longestAt_4 rfl (lv_at hl 1 rfl) ?_
  refine lv_aload_n zx zb dX3_longestAt_5 rfl (lv_at hl 0 rfl) ?_
  refine j_get hC hI hin_X3_longestAt_X3 0 rfl rfl 0 (by decide) hfl_X3_longestAt_9 rfl rfl dX3_longestAt_6 ?_
  refine j_callVi (wr := [oC m0 3 [.ref t0, .ref u0, .ref a1, .ref a2, .ref a3, .ref a4, .ref a5], aI G a1 500 g1]) hC hI (c_X1_size zl G t0 t1 n ) (cwV 0 hC.2.2.2.2.1 gX3_longestAt_X1_size rfl rfl rfl (by decide +kernel) ⟨Nat.le_of_ble_eq_true rfl, Nat.le_of_ble_eq_true rfl⟩) [1] [0, 2] rfl rfl rfl rfl rfl rfl (q0 := 0) rfl rfl rfl hl.1 (Nat.le_of_ble_eq_true rfl) dX3_longestAt_9 ⟨Nat.le_of_ble_eq_true rfl, Nat.le_of_ble_eq_true rfl⟩ (fun r u9 H locs hp9 hI => ?_)
  have hI : jI G zA zs [oC m0 3 [.ref t0, .ref u0, .ref a1, .ref a2, .ref a3, .ref a4, .ref a5], aI G a1 500 g1, oC t0 1 [.ref t1, .int (nI n)]] H locs := hI
  subst hp9
  refine j_icmp_ge (tgt := 24) hC dX3_longestAt_12 (by decide) (by omega) (by omega) (fun c12 => ?_) (fun c12 => ?_)
  · exact (by omega : False).elim
  · refine lv_aload_n zx zb dX3_longestAt_15 rfl (lv_at hl 0 rfl) ?_
    refine j_get hC hI hin_X3_longestAt_X3 0 rfl rfl 2 (by decide) hfl_X3_longestAt_19 rfl rfl dX3_longestAt_16 ?_
    refine lv_iload_n zx zb dX3_longestAt_19 rfl (lv_at hl 1 rfl) ?_
    refine j_iald hC hI 1 rfl (by omega) (by omega) dX3_longestAt_20 ?_
    refine lv_goto (tgt := 25) zx zb dX3_longestAt_21 (by decide) ?_
    exact hQ _ _ _ _ _ () dX3_longestAt_25 (hI.sub [0, 2, 1] rfl rfl) (by first | rfl | (congr 1; omega) | omega)

set_option maxHeartbeats 4000000 in
set_option maxRecDepth 100000 in
theorem c_X3_longestAt_out (zl : Launch) (G : jG) (m0 : Nat) (t0 : Nat) (u0 : Nat) (a1 : Nat) (a2 : Nat) (a3 : Nat) (a4 : Nat) (a5 : Nat) (t1 : Nat) (n : Nat) (p : Nat) (hn : n ≤ 500) (hp : n ≤ p ∧ p ≤ 500) : jMet zl yX3_longestAt wsX3_longestAt ({ frames := 1, cells := 0, slots := 0, locals := 20 }) G [oC m0 3 [.ref t0, .ref u0, .ref a1, .ref a2, .ref a3, .ref a4, .ref a5], oC t0 1 [.ref t1, .int (nI n)]] [.ref m0, .int (nI p)] (jQi G (fun (r : Int32) (u : Unit) => (r = nI 0)) (fun (u : Unit) => [oC m0 3 [.ref t0, .ref u0, .ref a1, .ref a2, .ref a3, .ref a4, .ref a5], oC t0 1 [.ref t1, .int (nI n)]])) 0 0 := by
  refine j_enter_i (cc := cX3_longestAt) (nL := 2) (nm := "longestAt") (own := RX3) (lv := [(0, .ref m0), (1, .int (nI p))]) (by decide) rfl (Nat.le_of_ble_eq_true rfl) rfl rfl rfl ?_
  intro zA zp ze zs zm zargs zbelow zmeth zc zQ ls hC hQ hI hl
  have zx := hC.1
  have zb := hC.2.1
  refine lv_iload_n zx zb dX3_longestAt_0 rfl (lv_at hl 1 rfl) ?_
  refine j_if_lt (tgt := 24) hC dX3_longestAt_1 (by decide) (by omega) ?_
  refine lv_iload_n zx zb dX3_longestAt_4 rfl (lv_at hl 1 rfl) ?_
  refine lv_aload_n zx zb dX3_longestAt_5 rfl (lv_at hl 0 rfl) ?_
  refine j_get hC hI hin_X3_longestAt_X3 0 rfl rfl 0 (by decide) hfl_X3_longestAt_9 rfl rfl dX3_longestAt_6 ?_
  refine j_callVi (wr := [oC m0 3 [.ref t0, .ref u0, .ref a1, .ref a2, .ref a3, .ref a4, .ref a5]]) hC hI (c_X1_size zl G t0 t1 n ) (cwV 0 hC.2.2.2.2.1 gX3_longestAt_X1_size rfl rfl rfl (by decide +kernel) ⟨Nat.le_of_ble_eq_true rfl, Nat.le_of_ble_eq_true rfl⟩) [1] [0] rfl rfl rfl rfl rfl rfl (q0 := 0) rfl rfl rfl hl.1 (Nat.le_of_ble_eq_true rfl) dX3_longestAt_9 ⟨Nat.le_of_ble_eq_true rfl, Nat.le_of_ble_eq_true rfl⟩ (fun r u9 H locs hp9 hI => ?_)
  have hI : jI G zA zs [oC m0 3 [.ref t0, .ref u0, .ref a1, .ref a2, .ref a3, .ref a4, .ref a5], oC t0 1 [.ref t1, .int (nI n)]] H locs := hI
  subst hp9
  refine j_icmp_ge (tgt := 24) hC dX3_longestAt_12 (by decide) (by omega) (by omega) (fun c12 => ?_) (fun c12 => ?_)
  · refine lv_iconst (v := nI 0) zx zb dX3_longestAt_24 (by decide) ?_
    exact hQ _ _ _ _ _ () dX3_longestAt_25 (hI.sub [0, 1] rfl rfl) (by first | rfl | (congr 1; omega) | omega)
  · exact (by omega : False).elim

theorem hin_X3_nearestAt_X3 : ∀ w ∈ wsX30, w ∈ wsX3_nearestAt := by decide +kernel
theorem hfl_X3_nearestAt_9 : Cond.fieldLink RX3 9 "CheapParse$Matches" "text" "LCheapParse$Bytes;" ∈ wsX3_nearestAt := by decide +kernel
theorem hfl_X3_nearestAt_23 : Cond.fieldLink RX3 23 "CheapParse$Matches" "nearest" "[I" ∈ wsX3_nearestAt := by decide +kernel
set_option maxHeartbeats 4000000 in
set_option maxRecDepth 100000 in
theorem c_X3_nearestAt (zl : Launch) (G : jG) (m0 : Nat) (t0 : Nat) (u0 : Nat) (a1 : Nat) (a2 : Nat) (a3 : Nat) (a4 : Nat) (a5 : Nat) (t1 : Nat) (n : Nat) (p : Nat) (g2 : Nat → Nat) (hn : n ≤ 500) (hp : p < n) : jMet zl yX3_nearestAt wsX3_nearestAt ({ frames := 1, cells := 0, slots := 0, locals := 20 }) G [oC m0 3 [.ref t0, .ref u0, .ref a1, .ref a2, .ref a3, .ref a4, .ref a5], oC t0 1 [.ref t1, .int (nI n)], aI G a2 500 g2] [.ref m0, .int (nI p)] (jQi G (fun (r : Int32) (u : Unit) => (r = nI (g2 p))) (fun (u : Unit) => [oC m0 3 [.ref t0, .ref u0, .ref a1, .ref a2, .ref a3, .ref a4, .ref a5], oC t0 1 [.ref t1, .int (nI n)], aI G a2 500 g2])) 0 0 := by
  refine j_enter_i (cc := cX3_nearestAt) (nL := 2) (nm := "nearestAt") (own := RX3) (lv := [(0, .ref m0), (1, .int (nI p))]) (by decide) rfl (Nat.le_of_ble_eq_true rfl) rfl rfl rfl ?_
  intro zA zp ze zs zm zargs zbelow zmeth zc zQ ls hC hQ hI hl
  have zx := hC.1
  have zb := hC.2.1
  refine lv_iload_n zx zb dX3_nearestAt_0 rfl (lv_at hl 1 rfl) ?_
  refine j_if_lt (tgt := 24) hC dX3_nearestAt_1 (by decide) (by omega) ?_
  refine lv_iload_n zx zb dX3_nearestAt_4 rfl (lv_at hl 1 rfl) ?_
  refine lv_aload_n zx zb dX3_nearestAt_5 rfl (lv_at hl 0 rfl) ?_
  refine j_get hC hI hin_X3_nearestAt_X3 0 rfl rfl 0 (by decide) hfl_X3_nearestAt_9 rfl rfl dX3_nearestAt_6 ?_
  refine j_callVi (wr := [oC m0 3 [.ref t0, .ref u0, .ref a1, .ref a2, .ref a3, .ref a4, .ref a5], aI G a2 500 g2]) hC hI (c_X1_size zl G t0 t1 n ) (cwV 0 hC.2.2.2.2.1 gX3_nearestAt_X1_size rfl rfl rfl (by decide +kernel) ⟨Nat.le_of_ble_eq_true rfl, Nat.le_of_ble_eq_true rfl⟩) [1] [0, 2] rfl rfl rfl rfl rfl rfl (q0 := 0) rfl rfl rfl hl.1 (Nat.le_of_ble_eq_true rfl) dX3_nearestAt_9 ⟨Nat.le_of_ble_eq_true rfl, Nat.le_of_ble_eq_true rfl⟩ (fun r u9 H locs hp9 hI => ?_)
  have hI : jI G zA zs [oC m0 3 [.ref t0, .ref u0, .ref a1, .ref a2, .ref a3, .ref a4, .ref a5], aI G a2 500 g2, oC t0 1 [.ref t1, .int (nI n)]] H locs := hI
  subst hp9
  refine j_icmp_ge (tgt := 24) hC dX3_nearestAt_12 (by decide) (by omega) (by omega) (fun c12 => ?_) (fun c12 => ?_)
  · exact (by omega : False).elim
  · refine lv_aload_n zx zb dX3_nearestAt_15 rfl (lv_at hl 0 rfl) ?_
    refine j_get hC hI hin_X3_nearestAt_X3 0 rfl rfl 3 (by decide) hfl_X3_nearestAt_23 rfl rfl dX3_nearestAt_16 ?_
    refine lv_iload_n zx zb dX3_nearestAt_19 rfl (lv_at hl 1 rfl) ?_
    refine j_iald hC hI 1 rfl (by omega) (by omega) dX3_nearestAt_20 ?_
    refine lv_goto (tgt := 25) zx zb dX3_nearestAt_21 (by decide) ?_
    exact hQ _ _ _ _ _ () dX3_nearestAt_25 (hI.sub [0, 2, 1] rfl rfl) (by first | rfl | (congr 1; omega) | omega)

theorem hin_X3_distancesAt_X3 : ∀ w ∈ wsX30, w ∈ wsX3_distancesAt := by decide +kernel
theorem hfl_X3_distancesAt_9 : Cond.fieldLink RX3 9 "CheapParse$Matches" "text" "LCheapParse$Bytes;" ∈ wsX3_distancesAt := by decide +kernel
theorem hfl_X3_distancesAt_26 : Cond.fieldLink RX3 26 "CheapParse$Matches" "distances" "[I" ∈ wsX3_distancesAt := by decide +kernel
set_option maxHeartbeats 4000000 in
set_option maxRecDepth 100000 in
theorem c_X3_distancesAt (zl : Launch) (G : jG) (m0 : Nat) (t0 : Nat) (u0 : Nat) (a1 : Nat) (a2 : Nat) (a3 : Nat) (a4 : Nat) (a5 : Nat) (t1 : Nat) (n : Nat) (p : Nat) (g3 : Nat → Nat) (hn : n ≤ 500) (hp : p < n) : jMet zl yX3_distancesAt wsX3_distancesAt ({ frames := 1, cells := 0, slots := 0, locals := 20 }) G [oC m0 3 [.ref t0, .ref u0, .ref a1, .ref a2, .ref a3, .ref a4, .ref a5], oC t0 1 [.ref t1, .int (nI n)], aI G a3 500 g3] [.ref m0, .int (nI p)] (jQi G (fun (r : Int32) (u : Unit) => (r = nI (g3 p))) (fun (u : Unit) => [oC m0 3 [.ref t0, .ref u0, .ref a1, .ref a2, .ref a3, .ref a4, .ref a5], oC t0 1 [.ref t1, .int (nI n)], aI G a3 500 g3])) 0 0 := by
  refine j_enter_i (cc := cX3_distancesAt) (nL := 2) (nm := "distancesAt") (own := RX3) (lv := [(0, .ref m0), (1, .int (nI p))]) (by decide) rfl (Nat.le_of_ble_eq_true rfl) rfl rfl rfl ?_
  intro zA zp ze zs zm zargs zbelow zmeth zc zQ ls hC hQ hI hl
  have zx := hC.1
  have zb := hC.2.1
  refine lv_iload_n zx zb dX3_distancesAt_0 rfl (lv_at hl 1 rfl) ?_
  refine j_if_lt (tgt := 24) hC dX3_distancesAt_1 (by decide) (by omega) ?_
  refine lv_iload_n zx zb dX3_distancesAt_4 rfl (lv_at hl 1 rfl) ?_
  refine lv_aload_n zx zb dX3_distancesAt_5 rfl (lv_at hl 0 rfl) ?_
  refine j_get hC hI hin_X3_distancesAt_X3 0 rfl rfl 0 (by decide) hfl_X3_distancesAt_9 rfl rfl dX3_distancesAt_6 ?_
  refine j_callVi (wr := [oC m0 3 [.ref t0, .ref u0, .ref a1, .ref a2, .ref a3, .ref a4, .ref a5], aI G a3 500 g3]) hC hI (c_X1_size zl G t0 t1 n ) (cwV 0 hC.2.2.2.2.1 gX3_distancesAt_X1_size rfl rfl rfl (by decide +kernel) ⟨Nat.le_of_ble_eq_true rfl, Nat.le_of_ble_eq_true rfl⟩) [1] [0, 2] rfl rfl rfl rfl rfl rfl (q0 := 0) rfl rfl rfl hl.1 (Nat.le_of_ble_eq_true rfl) dX3_distancesAt_9 ⟨Nat.le_of_ble_eq_true rfl, Nat.le_of_ble_eq_true rfl⟩ (fun r u9 H locs hp9 hI => ?_)
  have hI : jI G zA zs [oC m0 3 [.ref t0, .ref u0, .ref a1, .ref a2, .ref a3, .ref a4, .ref a5], aI G a3 500 g3, oC t0 1 [.ref t1, .int (nI n)]] H locs := hI
  subst hp9
  refine j_icmp_ge (tgt := 24) hC dX3_distancesAt_12 (by decide) (by omega) (by omega) (fun c12 => ?_) (fun c12 => ?_)
  · exact (by omega : False).elim
  · refine lv_aload_n zx zb dX3_distancesAt_15 rfl (lv_at hl 0 rfl) ?_
    refine j_get hC hI hin_X3_distancesAt_X3 0 rfl rfl 4 (by decide) hfl_X3_distancesAt_26 rfl rfl dX3_distancesAt_16 ?_
    refine lv_iload_n zx zb dX3_distancesAt_19 rfl (lv_at hl 1 rfl) ?_
    refine j_iald hC hI 1 rfl (by omega) (by omega) dX3_distancesAt_20 ?_
    refine lv_goto (tgt := 25) zx zb dX3_distancesAt_21 (by decide) ?_
    exact hQ _ _ _ _ _ () dX3_distancesAt_25 (hI.sub [0, 2, 1] rfl rfl) (by first | rfl | (congr 1; omega) | omega)

theorem hin_X3_reachAt_X3 : ∀ w ∈ wsX30, w ∈ wsX3_reachAt := by decide +kernel
theorem hfl_X3_reachAt_29 : Cond.fieldLink RX3 29 "CheapParse$Matches" "reach" "[I" ∈ wsX3_reachAt := by decide +kernel
set_option maxHeartbeats 4000000 in
set_option maxRecDepth 100000 in
theorem c_X3_reachAt (zl : Launch) (G : jG) (m0 : Nat) (t0 : Nat) (u0 : Nat) (a1 : Nat) (a2 : Nat) (a3 : Nat) (a4 : Nat) (a5 : Nat) (p : Nat) (c : Nat) (g4 : Nat → Nat) (hp : p < 500) (hc : c < 9) : jMet zl yX3_reachAt wsX3_reachAt ({ frames := 0, cells := 0, slots := 0, locals := 0 }) G [oC m0 3 [.ref t0, .ref u0, .ref a1, .ref a2, .ref a3, .ref a4, .ref a5], aI G a4 4500 g4] [.ref m0, .int (nI p), .int (nI c)] (jQi G (fun (r : Int32) (u : Unit) => (r = nI (g4 (p * 9 + c)))) (fun (u : Unit) => [oC m0 3 [.ref t0, .ref u0, .ref a1, .ref a2, .ref a3, .ref a4, .ref a5], aI G a4 4500 g4])) 0 0 := by
  refine j_enter_i (cc := cX3_reachAt) (nL := 3) (nm := "reachAt") (own := RX3) (lv := [(0, .ref m0), (1, .int (nI p)), (2, .int (nI c))]) (by decide) rfl (Nat.le_of_ble_eq_true rfl) rfl rfl rfl ?_
  intro zA zp ze zs zm zargs zbelow zmeth zc zQ ls hC hQ hI hl
  have zx := hC.1
  have zb := hC.2.1
  refine lv_aload_n zx zb dX3_reachAt_0 rfl (lv_at hl 0 rfl) ?_
  refine j_get hC hI hin_X3_reachAt_X3 0 rfl rfl 5 (by decide) hfl_X3_reachAt_29 rfl rfl dX3_reachAt_1 ?_
  refine lv_iload_n zx zb dX3_reachAt_4 rfl (lv_at hl 1 rfl) ?_
  refine lv_bipush (v := nI 9) zx zb dX3_reachAt_5 (by decide) ?_
  refine j_imul hC dX3_reachAt_7 ?_
  refine lv_iload_n zx zb dX3_reachAt_8 rfl (lv_at hl 2 rfl) ?_
  refine j_iadd hC dX3_reachAt_9 ?_
  refine j_iald hC hI 1 rfl (by omega) (by omega) dX3_reachAt_10 ?_
  exact hQ _ _ _ _ _ () dX3_reachAt_11 (hI.sub [0, 1] rfl rfl) (by first | rfl | (congr 1; omega) | omega)

theorem hin_X3_lastOfClass_X3 : ∀ w ∈ wsX30, w ∈ wsX3_lastOfClass := by decide +kernel
theorem hfl_X3_lastOfClass_15 : Cond.fieldLink RX3 15 "CheapParse$Matches" "rules" "LCheapParse$Rules;" ∈ wsX3_lastOfClass := by decide +kernel
set_option maxHeartbeats 4000000 in
set_option maxRecDepth 100000 in
theorem c_X3_lastOfClass (zl : Launch) (G : jG) (m0 : Nat) (t0 : Nat) (u0 : Nat) (a1 : Nat) (a2 : Nat) (a3 : Nat) (a4 : Nat) (a5 : Nat) (la : Nat) (lm : Nat) (lw : Nat) (p : Nat) (c : Nat) (hp : p < 500) (hw : lw ≤ 500) (hc : c < 9) : jMet zl yX3_lastOfClass wsX3_lastOfClass ({ frames := 1, cells := 0, slots := 0, locals := 20 }) G [oC m0 3 [.ref t0, .ref u0, .ref a1, .ref a2, .ref a3, .ref a4, .ref a5], oC u0 5 [.int (nI la), .int (nI lm), .int (nI lw)]] [.ref m0, .int (nI p), .int (nI c)] (jQi G (fun (r : Int32) (u : Nat) => (r = nI u) ∧ (u = min (2 * 2 ^ c - 1) (min p lw))) (fun (u : Nat) => [oC m0 3 [.ref t0, .ref u0, .ref a1, .ref a2, .ref a3, .ref a4, .ref a5], oC u0 5 [.int (nI la), .int (nI lm), .int (nI lw)]])) 0 0 := by
  refine j_enter_i (cc := cX3_lastOfClass) (nL := 4) (nm := "lastOfClass") (own := RX3) (lv := [(0, .ref m0), (1, .int (nI p)), (2, .int (nI c))]) (by decide) rfl (Nat.le_of_ble_eq_true rfl) rfl rfl rfl ?_
  intro zA zp ze zs zm zargs zbelow zmeth zc zQ ls hC hQ hI hl
  have zx := hC.1
  have zb := hC.2.1
  have h2c := tp_lt hc
  have h2p := Nat.two_pow_pos c
  refine lv_iload_n zx zb dX3_lastOfClass_0 rfl (lv_at hl 1 rfl) ?_
  refine lv_aload_n zx zb dX3_lastOfClass_1 rfl (lv_at hl 0 rfl) ?_
  refine j_get hC hI hin_X3_lastOfClass_X3 0 rfl rfl 1 (by decide) hfl_X3_lastOfClass_15 rfl rfl dX3_lastOfClass_2 ?_
  refine j_callVi (wr := [oC m0 3 [.ref t0, .ref u0, .ref a1, .ref a2, .ref a3, .ref a4, .ref a5]]) hC hI (c_X5_window zl G u0 la lm lw ) (cwV 0 hC.2.2.2.2.1 gX3_lastOfClass_X5_window rfl rfl rfl (by decide +kernel) ⟨Nat.le_of_ble_eq_true rfl, Nat.le_of_ble_eq_true rfl⟩) [1] [0] rfl rfl rfl rfl rfl rfl (q0 := 0) rfl rfl rfl hl.1 (Nat.le_of_ble_eq_true rfl) dX3_lastOfClass_5 ⟨Nat.le_of_ble_eq_true rfl, Nat.le_of_ble_eq_true rfl⟩ (fun r u5 H locs hp5 hI => ?_)
  have hI : jI G zA zs [oC m0 3 [.ref t0, .ref u0, .ref a1, .ref a2, .ref a3, .ref a4, .ref a5], oC u0 5 [.int (nI la), .int (nI lm), .int (nI lw)]] H locs := hI
  subst hp5
  refine j_min hC hl.1 (by decide +kernel) (by decide +kernel) (by decide +kernel) (by decide +kernel) (Nat.le_of_ble_eq_true rfl) (Nat.le_of_ble_eq_true rfl) (Nat.le_of_ble_eq_true rfl) (Nat.le_of_ble_eq_true rfl) (by omega) (by omega) dX3_lastOfClass_8 ?_
  refine lv_istore_n (lv' := [(3, .int (nI (min p lw))), (0, .ref m0), (1, .int (nI p)), (2, .int (nI c))]) zx zb dX3_lastOfClass_11 rfl hl (by decide) rfl (fun ls hl => ?_)
  refine lv_iconst (v := nI 2) zx zb dX3_lastOfClass_12 (by decide) ?_
  refine lv_iload_n zx zb dX3_lastOfClass_13 rfl (lv_at hl 3 rfl) ?_
  refine j_ishl hC (by omega) (by omega) dX3_lastOfClass_14 ?_
  refine lv_iconst (v := nI 1) zx zb dX3_lastOfClass_15 (by decide) ?_
  refine j_isub hC (by omega) dX3_lastOfClass_16 ?_
  refine lv_iload_n zx zb dX3_lastOfClass_17 rfl (lv_at hl 0 rfl) ?_
  refine j_min hC hl.1 (by decide +kernel) (by decide +kernel) (by decide +kernel) (by decide +kernel) (Nat.le_of_ble_eq_true rfl) (Nat.le_of_ble_eq_true rfl) (Nat.le_of_ble_eq_true rfl) (Nat.le_of_ble_eq_true rfl) (by omega) (by omega) dX3_lastOfClass_18 ?_
  exact hQ _ _ _ _ _ (min ((2 * 2 ^ c) - 1) (min p lw)) dX3_lastOfClass_21 (hI.sub [0, 1] rfl rfl) ⟨(by first | rfl | (congr 1; omega) | omega), rfl⟩

theorem hin_X3_noteMatch_X3 : ∀ w ∈ wsX30, w ∈ wsX3_noteMatch := by decide +kernel
theorem hfl_X3_noteMatch_15 : Cond.fieldLink RX3 15 "CheapParse$Matches" "rules" "LCheapParse$Rules;" ∈ wsX3_noteMatch := by decide +kernel
theorem hfl_X3_noteMatch_26 : Cond.fieldLink RX3 26 "CheapParse$Matches" "distances" "[I" ∈ wsX3_noteMatch := by decide +kernel
theorem hfl_X3_noteMatch_19 : Cond.fieldLink RX3 19 "CheapParse$Matches" "longest" "[I" ∈ wsX3_noteMatch := by decide +kernel
theorem hfl_X3_noteMatch_23 : Cond.fieldLink RX3 23 "CheapParse$Matches" "nearest" "[I" ∈ wsX3_noteMatch := by decide +kernel
set_option maxHeartbeats 4000000 in
set_option maxRecDepth 100000 in
theorem c_X3_noteMatch (zl : Launch) (G : jG) (m0 : Nat) (t0 : Nat) (u0 : Nat) (a1 : Nat) (a2 : Nat) (a3 : Nat) (a4 : Nat) (a5 : Nat) (la : Nat) (lm : Nat) (lw : Nat) (p : Nat) (d : Nat) (k : Nat) (g1 : Nat → Nat) (g2 : Nat → Nat) (g3 : Nat → Nat) (hp : p < 500) (hk : k ≤ 500) (hl : lm ≤ 255) (h3 : g3 p ≤ 600) (h1 : g1 p ≤ 255) : jMet zl yX3_noteMatch wsX3_noteMatch ({ frames := 1, cells := 0, slots := 0, locals := 20 }) G [oC m0 3 [.ref t0, .ref u0, .ref a1, .ref a2, .ref a3, .ref a4, .ref a5], oC u0 5 [.int (nI la), .int (nI lm), .int (nI lw)], aI G a1 500 g1, aI G a2 500 g2, aI G a3 500 g3] [.ref m0, .int (nI p), .int (nI d), .int (nI k)] (jQi G (fun (r : Int32) (u : (Nat → Nat) × (Nat → Nat)) => (r = nI (min k lm)) ∧ (u.1 p = max (g1 p) (min k lm)) ∧ (u.2 p = if g1 p < min k lm then d else g2 p) ∧ (∀ j, j ≠ p → u.1 j = g1 j ∧ u.2 j = g2 j)) (fun (u : (Nat → Nat) × (Nat → Nat)) => [oC m0 3 [.ref t0, .ref u0, .ref a1, .ref a2, .ref a3, .ref a4, .ref a5], oC u0 5 [.int (nI la), .int (nI lm), .int (nI lw)], aI G a1 500 u.1, aI G a2 500 u.2, aI G a3 500 (up g3 p (g3 p + 1))])) 0 0 := by
  refine j_enter_i (cc := cX3_noteMatch) (nL := 5) (nm := "noteMatch") (own := RX3) (lv := [(0, .ref m0), (1, .int (nI p)), (2, .int (nI d)), (3, .int (nI k))]) (by decide) rfl (Nat.le_of_ble_eq_true rfl) rfl rfl rfl ?_
  intro zA zp ze zs zm zargs zbelow zmeth zc zQ ls hC hQ hI hl
  have zx := hC.1
  have zb := hC.2.1
  refine lv_iload_n zx zb dX3_noteMatch_0 rfl (lv_at hl 3 rfl) ?_
  refine lv_aload_n zx zb dX3_noteMatch_1 rfl (lv_at hl 0 rfl) ?_
  refine j_get hC hI hin_X3_noteMatch_X3 0 rfl rfl 1 (by decide) hfl_X3_noteMatch_15 rfl rfl dX3_noteMatch_2 ?_
  refine j_callVi (wr := [oC m0 3 [.ref t0, .ref u0, .ref a1, .ref a2, .ref a3, .ref a4, .ref a5], aI G a1 500 g1, aI G a2 500 g2, aI G a3 500 g3]) hC hI (c_X5_most zl G u0 la lm lw ) (cwV 0 hC.2.2.2.2.1 gX3_noteMatch_X5_most rfl rfl rfl (by decide +kernel) ⟨Nat.le_of_ble_eq_true rfl, Nat.le_of_ble_eq_true rfl⟩) [1] [0, 2, 3, 4] rfl rfl rfl rfl rfl rfl (q0 := 0) rfl rfl rfl hl.1 (Nat.le_of_ble_eq_true rfl) dX3_noteMatch_5 ⟨Nat.le_of_ble_eq_true rfl, Nat.le_of_ble_eq_true rfl⟩ (fun r u5 H locs hp5 hI => ?_)
  have hI : jI G zA zs [oC m0 3 [.ref t0, .ref u0, .ref a1, .ref a2, .ref a3, .ref a4, .ref a5], aI G a1 500 g1, aI G a2 500 g2, aI G a3 500 g3, oC u0 5 [.int (nI la), .int (nI lm), .int (nI lw)]] H locs := hI
  subst hp5
  refine j_min hC hl.1 (by decide +kernel) (by decide +kernel) (by decide +kernel) (by decide +kernel) (Nat.le_of_ble_eq_true rfl) (Nat.le_of_ble_eq_true rfl) (Nat.le_of_ble_eq_true rfl) (Nat.le_of_ble_eq_true rfl) (by omega) (by omega) dX3_noteMatch_8 ?_
  refine lv_istore (lv' := [(4, .int (nI (min k lm))), (0, .ref m0), (1, .int (nI p)), (2, .int (nI d)), (3, .int (nI k))]) zx zb dX3_noteMatch_11 hl (by decide) rfl (fun ls hl => ?_)
  refine lv_aload_n zx zb dX3_noteMatch_13 rfl (lv_at hl 1 rfl) ?_
  refine j_get hC hI hin_X3_noteMatch_X3 0 rfl rfl 4 (by decide) hfl_X3_noteMatch_26 rfl rfl dX3_noteMatch_14 ?_
  refine lv_iload_n zx zb dX3_noteMatch_17 rfl (lv_at hl 2 rfl) ?_
  refine lv_dup2_11 zx zb dX3_noteMatch_18 rfl rfl ?_
  refine j_iald hC hI 3 rfl (by omega) (by omega) dX3_noteMatch_19 ?_
  refine lv_iconst (v := nI 1) zx zb dX3_noteMatch_20 (by decide) ?_
  refine j_iadd hC dX3_noteMatch_21 ?_
  refine j_iast (w1 := [oC m0 3 [.ref t0, .ref u0, .ref a1, .ref a2, .ref a3, .ref a4, .ref a5], aI G a1 500 g1, aI G a2 500 g2, aI G a3 500 (up g3 p ((g3 p) + 1)), oC u0 5 [.int (nI la), .int (nI lm), .int (nI lw)]]) hC hI 3 rfl (by omega) (by omega) dX3_noteMatch_22 rfl (fun H locs hI => ?_)
  refine lv_iload zx zb dX3_noteMatch_23 (lv_at hl 0 rfl) ?_
  refine lv_aload_n zx zb dX3_noteMatch_25 rfl (lv_at hl 1 rfl) ?_
  refine j_get hC hI hin_X3_noteMatch_X3 0 rfl rfl 2 (by decide) hfl_X3_noteMatch_19 rfl rfl dX3_noteMatch_26 ?_
  refine lv_iload_n zx zb dX3_noteMatch_29 rfl (lv_at hl 2 rfl) ?_
  refine j_iald hC hI 1 rfl (by omega) (by omega) dX3_noteMatch_30 ?_
  refine j_icmp_le (tgt := 49) hC dX3_noteMatch_31 (by decide) (by omega) (by omega) (fun c31 => ?_) (fun c31 => ?_)
  · refine lv_iload zx zb dX3_noteMatch_49 (lv_at hl 0 rfl) ?_
    exact hQ _ _ _ _ _ ⟨g1, g2⟩ dX3_noteMatch_51 (hI.sub [0, 4, 1, 2, 3] rfl rfl) (by (try dsimp only); exact ⟨(by first | rfl | (congr 1; omega) | omega), (by omega), (by rw [if_neg (by omega)]), (fun j hj => ⟨rfl, rfl⟩)⟩)
  · refine lv_aload_n zx zb dX3_noteMatch_34 rfl (lv_at hl 1 rfl) ?_
    refine j_get hC hI hin_X3_noteMatch_X3 0 rfl rfl 2 (by decide) hfl_X3_noteMatch_19 rfl rfl dX3_noteMatch_35 ?_
    refine lv_iload_n zx zb dX3_noteMatch_38 rfl (lv_at hl 2 rfl) ?_
    refine lv_iload zx zb dX3_noteMatch_39 (lv_at hl 0 rfl) ?_
    refine j_iast (w1 := [oC m0 3 [.ref t0, .ref u0, .ref a1, .ref a2, .ref a3, .ref a4, .ref a5], aI G a1 500 (up g1 p (min k lm)), aI G a2 500 g2, aI G a3 500 (up g3 p ((g3 p) + 1)), oC u0 5 [.int (nI la), .int (nI lm), .int (nI lw)]]) hC hI 1 rfl (by omega) (by omega) dX3_noteMatch_41 rfl (fun H locs hI => ?_)
    refine lv_aload_n zx zb dX3_noteMatch_42 rfl (lv_at hl 1 rfl) ?_
    refine j_get hC hI hin_X3_noteMatch_X3 0 rfl rfl 3 (by decide) hfl_X3_noteMatch_23 rfl rfl dX3_noteMatch_43 ?_
    refine lv_iload_n zx zb dX3_noteMatch_46 rfl (lv_at hl 2 rfl) ?_
    refine lv_iload_n zx zb dX3_noteMatch_47 rfl (lv_at hl 3 rfl) ?_
    refine j_iast (w1 := [oC m0 3 [.ref t0, .ref u0, .ref a1, .ref a2, .ref a3, .ref a4, .ref a5], aI G a1 500 (up g1 p (min k lm)), aI G a2 500 (up g2 p d), aI G a3 500 (up g3 p ((g3 p) + 1)), oC u0 5 [.int (nI la), .int (nI lm), .int (nI lw)]]) hC hI 2 rfl (by omega) (by omega) dX3_noteMatch_48 rfl (fun H locs hI => ?_)
    refine lv_iload zx zb dX3_noteMatch_49 (lv_at hl 0 rfl) ?_
    exact hQ _ _ _ _ _ ⟨up g1 p (min k lm), up g2 p d⟩ dX3_noteMatch_51 (hI.sub [0, 4, 1, 2, 3] rfl rfl) (by (try dsimp only); exact ⟨(by first | rfl | (congr 1; omega) | omega), (by rw [up_s]; omega), (by rw [up_s, if_pos (by omega)]), (fun j hj => ⟨up_n hj, up_n hj⟩)⟩)

theorem hin_X3_noteClass_X3 : ∀ w ∈ wsX30, w ∈ wsX3_noteClass := by decide +kernel
theorem hfl_X3_noteClass_9 : Cond.fieldLink RX3 9 "CheapParse$Matches" "text" "LCheapParse$Bytes;" ∈ wsX3_noteClass := by decide +kernel
theorem hin_X3_noteClass_X1 : ∀ w ∈ wsX10, w ∈ wsX3_noteClass := by decide +kernel
theorem hfl_X3_noteClass_15 : Cond.fieldLink RX3 15 "CheapParse$Matches" "rules" "LCheapParse$Rules;" ∈ wsX3_noteClass := by decide +kernel
theorem hfl_X3_noteClass_29 : Cond.fieldLink RX3 29 "CheapParse$Matches" "reach" "[I" ∈ wsX3_noteClass := by decide +kernel
theorem hfl_X3_noteClass_32 : Cond.fieldLink RX3 32 "CheapParse$Matches" "same" "[I" ∈ wsX3_noteClass := by decide +kernel
set_option maxHeartbeats 4000000 in
set_option maxRecDepth 100000 in
theorem c_X3_noteClass (zl : Launch) (G : jG) (m0 : Nat) (t0 : Nat) (u0 : Nat) (a1 : Nat) (a2 : Nat) (a3 : Nat) (a4 : Nat) (a5 : Nat) (t1 : Nat) (n : Nat) (la : Nat) (lm : Nat) (lw : Nat) (p : Nat) (c : Nat) (T : Nat → Nat) (g1 : Nat → Nat) (g2 : Nat → Nat) (g3 : Nat → Nat) (g4 : Nat → Nat) (g5 : Nat → Nat) (hn : n ≤ 500) (hl : 1 ≤ la ∧ la ≤ lm ∧ lm ≤ 255 ∧ lw ≤ 500) (hT : ∀ j, j < n → T j < 256) (hp : p < n) (hc : c < 9) (i1 : g1 p = mx (mt la lm lw T n p) (2 ^ c - 1)) (i2 : g2 p = nrs (mt la lm lw T n p) (2 ^ c - 1)) (i3 : g3 p = ct (mt la lm lw T n p) (2 ^ c - 1)) (i5 : ∀ d, 2 ^ c ≤ d → d ≤ p → d ≤ lw → g5 d = lc T d (p + 1) (n - (p + 1))) : jMet zl yX3_noteClass wsX3_noteClass ({ frames := 2, cells := 0, slots := 0, locals := 44 }) G [oC m0 3 [.ref t0, .ref u0, .ref a1, .ref a2, .ref a3, .ref a4, .ref a5], oC t0 1 [.ref t1, .int (nI n)], aI G t1 500 T, oC u0 5 [.int (nI la), .int (nI lm), .int (nI lw)], aI G a1 500 g1, aI G a2 500 g2, aI G a3 500 g3, aI G a4 4500 g4, aI G a5 501 g5] [.ref m0, .int (nI p), .int (nI c)] (jQv G (fun (u : (Nat → Nat) × (Nat → Nat) × (Nat → Nat) × (Nat → Nat) × (Nat → Nat)) => (u.1 p = mx (mt la lm lw T n p) (2 ^ (c + 1) - 1)) ∧ (u.2.1 p = nrs (mt la lm lw T n p) (2 ^ (c + 1) - 1)) ∧ (u.2.2.1 p = ct (mt la lm lw T n p) (2 ^ (c + 1) - 1)) ∧ (u.2.2.2.1 = up g4 (p * 9 + c) (rx (mt la lm lw T n p) (2 ^ c) (2 ^ c))) ∧ (∀ j, j ≠ p → u.1 j = g1 j ∧ u.2.1 j = g2 j ∧ u.2.2.1 j = g3 j) ∧ (∀ d, d ≤ p → d ≤ lw → (2 ^ c ≤ d ∧ d < 2 ^ (c + 1) → u.2.2.2.2 d = lc T d p (n - p)) ∧ (¬ (2 ^ c ≤ d ∧ d < 2 ^ (c + 1)) → u.2.2.2.2 d = g5 d))) (fun (u : (Nat → Nat) × (Nat → Nat) × (Nat → Nat) × (Nat → Nat) × (Nat → Nat)) => [oC m0 3 [.ref t0, .ref u0, .ref a1, .ref a2, .ref a3, .ref a4, .ref a5], oC t0 1 [.ref t1, .int (nI n)], aI G t1 500 T, oC u0 5 [.int (nI la), .int (nI lm), .int (nI lw)], aI G a1 500 u.1, aI G a2 500 u.2.1, aI G a3 500 u.2.2.1, aI G a4 4500 u.2.2.2.1, aI G a5 501 u.2.2.2.2])) 0 0 := by
  refine j_enter_v (cc := cX3_noteClass) (nL := 10) (nm := "noteClass") (own := RX3) (lv := [(0, .ref m0), (1, .int (nI p)), (2, .int (nI c))]) (by decide) rfl (Nat.le_of_ble_eq_true rfl) rfl rfl rfl ?_
  intro zA zp ze zs zm zargs zbelow zmeth zc zQ ls hC hQ hI hl
  have zx := hC.1
  have zb := hC.2.1
  have h2c := tp_lt hc
  have h2p := Nat.two_pow_pos c
  have h2s : 2 ^ (c + 1) = 2 * 2 ^ c := by rw [Nat.pow_succ]; omega
  refine lv_aload_n zx zb dX3_noteClass_0 rfl (lv_at hl 0 rfl) ?_
  refine j_get hC hI hin_X3_noteClass_X3 0 rfl rfl 0 (by decide) hfl_X3_noteClass_9 rfl rfl dX3_noteClass_1 ?_
  refine j_getN (host := "CheapParse") hC hI hin_X3_noteClass_X1 1 rfl rfl 0 (by decide) (by decide +kernel) rfl rfl dX3_noteClass_4 ?_
  refine lv_astore_n (lv' := [(3, .ref t1), (0, .ref m0), (1, .int (nI p)), (2, .int (nI c))]) zx zb dX3_noteClass_7 rfl hl (by decide) rfl (fun ls hl => ?_)
  refine lv_aload_n zx zb dX3_noteClass_8 rfl (lv_at hl 0 rfl) ?_
  refine lv_iload_n zx zb dX3_noteClass_9 rfl (lv_at hl 2 rfl) ?_
  refine j_iald hC hI 2 rfl (by omega) (by omega) dX3_noteClass_10 ?_
  have b10 := hT p (by omega)
  refine lv_istore (lv' := [(4, .int (nI (T p))), (3, .ref t1), (0, .ref m0), (1, .int (nI p)), (2, .int (nI c))]) zx zb dX3_noteClass_11 hl (by decide) rfl (fun ls hl => ?_)
  refine lv_aload_n zx zb dX3_noteClass_13 rfl (lv_at hl 2 rfl) ?_
  refine j_get hC hI hin_X3_noteClass_X3 0 rfl rfl 1 (by decide) hfl_X3_noteClass_15 rfl rfl dX3_noteClass_14 ?_
  refine j_callVi (wr := [oC m0 3 [.ref t0, .ref u0, .ref a1, .ref a2, .ref a3, .ref a4, .ref a5], oC t0 1 [.ref t1, .int (nI n)], aI G t1 500 T, aI G a1 500 g1, aI G a2 500 g2, aI G a3 500 g3, aI G a4 4500 g4, aI G a5 501 g5]) hC hI (c_X5_least zl G u0 la lm lw ) (cwV 0 hC.2.2.2.2.1 gX3_noteClass_X5_least rfl rfl rfl (by decide +kernel) ⟨Nat.le_of_ble_eq_true rfl, Nat.le_of_ble_eq_true rfl⟩) [3] [0, 1, 2, 4, 5, 6, 7, 8] rfl rfl rfl rfl rfl rfl (q0 := 0) rfl rfl rfl hl.1 (Nat.le_of_ble_eq_true rfl) dX3_noteClass_17 ⟨Nat.le_of_ble_eq_true rfl, Nat.le_of_ble_eq_true rfl⟩ (fun r u17 H locs hp17 hI => ?_)
  have hI : jI G zA zs [oC m0 3 [.ref t0, .ref u0, .ref a1, .ref a2, .ref a3, .ref a4, .ref a5], oC t0 1 [.ref t1, .int (nI n)], aI G t1 500 T, aI G a1 500 g1, aI G a2 500 g2, aI G a3 500 g3, aI G a4 4500 g4, aI G a5 501 g5, oC u0 5 [.int (nI la), .int (nI lm), .int (nI lw)]] H locs := hI
  subst hp17
  refine lv_istore (lv' := [(5, .int (nI la)), (4, .int (nI (T p))), (3, .ref t1), (0, .ref m0), (1, .int (nI p)), (2, .int (nI c))]) zx zb dX3_noteClass_20 hl (by decide) rfl (fun ls hl => ?_)
  refine lv_aload_n zx zb dX3_noteClass_22 rfl (lv_at hl 3 rfl) ?_
  refine lv_iload_n zx zb dX3_noteClass_23 rfl (lv_at hl 4 rfl) ?_
  refine lv_iload_n zx zb dX3_noteClass_24 rfl (lv_at hl 5 rfl) ?_
  refine j_callVi (wr := [oC t0 1 [.ref t1, .int (nI n)], aI G t1 500 T, aI G a1 500 g1, aI G a2 500 g2, aI G a3 500 g3, aI G a4 4500 g4, aI G a5 501 g5]) hC hI (c_X3_lastOfClass zl G m0 t0 u0 a1 a2 a3 a4 a5 la lm lw p c (by omega) (by omega) (by omega)) (cwV 2 hC.2.2.2.2.1 gX3_noteClass_X3_lastOfClass rfl rfl rfl (by decide +kernel) ⟨Nat.le_of_ble_eq_true rfl, Nat.le_of_ble_eq_true rfl⟩) [0, 8] [1, 2, 3, 4, 5, 6, 7] rfl rfl rfl rfl rfl rfl (q0 := 0) rfl rfl rfl hl.1 (Nat.le_of_ble_eq_true rfl) dX3_noteClass_25 ⟨Nat.le_of_ble_eq_true rfl, Nat.le_of_ble_eq_true rfl⟩ (fun r u25 H locs hp25 hI => ?_)
  obtain ⟨v25_0, rfl⟩ : ∃ z, z = u25 := ⟨_, rfl⟩
  have hI : jI G zA zs [oC t0 1 [.ref t1, .int (nI n)], aI G t1 500 T, aI G a1 500 g1, aI G a2 500 g2, aI G a3 500 g3, aI G a4 4500 g4, aI G a5 501 g5, oC m0 3 [.ref t0, .ref u0, .ref a1, .ref a2, .ref a3, .ref a4, .ref a5], oC u0 5 [.int (nI la), .int (nI lm), .int (nI lw)]] H locs := hI
  obtain ⟨rfl, f25_0⟩ := hp25
  refine lv_istore (lv' := [(6, .int (nI v25_0)), (5, .int (nI la)), (4, .int (nI (T p))), (3, .ref t1), (0, .ref m0), (1, .int (nI p)), (2, .int (nI c))]) zx zb dX3_noteClass_28 hl (by decide) rfl (fun ls hl => ?_)
  refine lv_iconst (v := nI 0) zx zb dX3_noteClass_30 (by decide) ?_
  refine lv_istore (lv' := [(7, .int (nI 0)), (6, .int (nI v25_0)), (5, .int (nI la)), (4, .int (nI (T p))), (3, .ref t1), (0, .ref m0), (1, .int (nI p)), (2, .int (nI c))]) zx zb dX3_noteClass_31 hl (by decide) rfl (fun ls hl => ?_)
  refine lv_iconst (v := nI 1) zx zb dX3_noteClass_33 (by decide) ?_
  refine lv_iload_n zx zb dX3_noteClass_34 rfl (lv_at hl 7 rfl) ?_
  refine j_ishl1 hC (by omega) dX3_noteClass_35 ?_
  refine lv_istore (lv' := [(8, .int (nI (2 ^ c))), (7, .int (nI 0)), (6, .int (nI v25_0)), (5, .int (nI la)), (4, .int (nI (T p))), (3, .ref t1), (0, .ref m0), (1, .int (nI p)), (2, .int (nI c))]) zx zb dX3_noteClass_36 hl (by decide) rfl (fun ls hl => ?_)
  have loop38 : ∀ (zn38 : Nat) (D : Nat) (x : Nat) (e1 : Nat → Nat) (e2 : Nat → Nat) (e3 : Nat → Nat) (e5 : Nat → Nat), (2 ^ c ≤ D ∧ (D ≤ v25_0 + 1 ∨ D = 2 ^ c)) → (e1 p = mx (mt la lm lw T n p) (D - 1)) → (e2 p = nrs (mt la lm lw T n p) (D - 1)) → (e3 p = ct (mt la lm lw T n p) (D - 1)) → (x = rx (mt la lm lw T n p) (2 ^ c) (D - 2 ^ c)) → (∀ j, j ≠ p → e1 j = g1 j ∧ e2 j = g2 j ∧ e3 j = g3 j) → (∀ d, (2 ^ c ≤ d ∧ d < D → e5 d = lc T d p (n - p)) ∧ (¬ (2 ^ c ≤ d ∧ d < D) → e5 d = g5 d)) → (v25_0 + 1 - D) < zn38 → ∀ (H : Heap) (locs : List Loc) (ls : Array Slot), jI G zA zs [oC m0 3 [.ref t0, .ref u0, .ref a1, .ref a2, .ref a3, .ref a4, .ref a5], oC t0 1 [.ref t1, .int (nI n)], aI G t1 500 T, oC u0 5 [.int (nI la), .int (nI lm), .int (nI lw)], aI G a1 500 e1, aI G a2 500 e2, aI G a3 500 e3, aI G a4 4500 g4, aI G a5 501 e5] H locs → lv_has ls 10 [(0, .ref m0), (1, .int (nI p)), (2, .int (nI c)), (3, .ref t1), (4, .int (nI (T p))), (5, .int (nI la)), (6, .int (nI v25_0)), (7, .int (nI x)), (8, .int (nI D))] → W zp zl ze ({ frames := 2, cells := 0, slots := 0, locals := 44 }) zs zm zargs zbelow zmeth zc H locs 0 0 zQ (F0 zm 38 ls []) := by
    intro zn38
    induction zn38 with
    | zero => intros; omega
    | succ zn38 ih38 =>
      intro D x e1 e2 e3 e5 hD k1 k2 k3 kx ko k5 zm38 H locs ls hI hl
      have b1 : mx (mt la lm lw T n p) (D - 1) ≤ lm := mx_le (fun d => mt_le) _
      have b2 : rx (mt la lm lw T n p) (2 ^ c) (D - 2 ^ c) ≤ lm := rx_le (fun d => mt_le) _
      have b3 : ct (mt la lm lw T n p) (D - 1) ≤ D - 1 := ct_le _
      refine lv_iload zx zb dX3_noteClass_38 (lv_at hl 8 rfl) ?_
      refine lv_iload zx zb dX3_noteClass_40 (lv_at hl 6 rfl) ?_
      refine j_icmp_gt (tgt := 109) hC dX3_noteClass_42 (by decide) (by omega) (by omega) (fun c42 => ?_) (fun c42 => ?_)
      · refine lv_aload_n zx zb dX3_noteClass_109 rfl (lv_at hl 0 rfl) ?_
        refine j_get hC hI hin_X3_noteClass_X3 0 rfl rfl 5 (by decide) hfl_X3_noteClass_29 rfl rfl dX3_noteClass_110 ?_
        refine lv_iload_n zx zb dX3_noteClass_113 rfl (lv_at hl 1 rfl) ?_
        refine lv_bipush (v := nI 9) zx zb dX3_noteClass_114 (by decide) ?_
        refine j_imul hC dX3_noteClass_116 ?_
        refine lv_iload_n zx zb dX3_noteClass_117 rfl (lv_at hl 2 rfl) ?_
        refine j_iadd hC dX3_noteClass_118 ?_
        refine lv_iload zx zb dX3_noteClass_119 (lv_at hl 7 rfl) ?_
        refine j_iast (w1 := [oC m0 3 [.ref t0, .ref u0, .ref a1, .ref a2, .ref a3, .ref a4, .ref a5], oC t0 1 [.ref t1, .int (nI n)], aI G t1 500 T, oC u0 5 [.int (nI la), .int (nI lm), .int (nI lw)], aI G a1 500 e1, aI G a2 500 e2, aI G a3 500 e3, aI G a4 4500 (up g4 ((p * 9) + c) x), aI G a5 501 e5]) hC hI 7 rfl (by omega) (by omega) dX3_noteClass_121 rfl (fun H locs hI => ?_)
        have hz : ∀ d, D - 1 < d → d ≤ 2 ^ (c + 1) - 1 → mt la lm lw T n p d = 0 := fun d h1 h2 => mt_far (by omega)
        exact hQ _ _ _ _ ⟨e1, e2, e3, up g4 ((p * 9) + c) x, e5⟩ dX3_noteClass_122 (hI.sub [0, 1, 2, 3, 4, 5, 6, 7, 8] rfl rfl) (by (try dsimp only); exact ⟨(by rw [mx_to (by omega) hz, k1]), (by rw [nrs_to (by omega) hz, k2]), (by rw [ct_to (by omega) hz, k3]), (by rw [rx_to (a := D - 2 ^ c) (by omega) (fun d h1 h2 => hz d (by omega) (by omega)), kx]), ko, (fun d h1 h2 => ⟨fun h => (k5 d).1 (by omega), fun h => (k5 d).2 (by omega)⟩)⟩)
      · have hq : D ≤ p ∧ D ≤ lw := by omega
        have loop69 : ∀ (y : Nat), (y = lc T D p (n - p)) → ∀ (H : Heap) (locs : List Loc) (ls : Array Slot), jI G zA zs [oC m0 3 [.ref t0, .ref u0, .ref a1, .ref a2, .ref a3, .ref a4, .ref a5], oC t0 1 [.ref t1, .int (nI n)], aI G t1 500 T, oC u0 5 [.int (nI la), .int (nI lm), .int (nI lw)], aI G a1 500 e1, aI G a2 500 e2, aI G a3 500 e3, aI G a4 4500 g4, aI G a5 501 e5] H locs → lv_has ls 10 [(0, .ref m0), (1, .int (nI p)), (2, .int (nI c)), (3, .ref t1), (4, .int (nI (T p))), (5, .int (nI la)), (6, .int (nI v25_0)), (7, .int (nI x)), (8, .int (nI D))] → W zp zl ze ({ frames := 2, cells := 0, slots := 0, locals := 44 }) zs zm zargs zbelow zmeth zc H locs 0 0 zQ (F0 zm 69 ls [.int (nI y)]) := by
          intro y hy H locs ls hI hl
          have by1 := lc_le T D (n - p) p
          refine lv_istore (lv' := [(9, .int (nI y)), (0, .ref m0), (1, .int (nI p)), (2, .int (nI c)), (3, .ref t1), (4, .int (nI (T p))), (5, .int (nI la)), (6, .int (nI v25_0)), (7, .int (nI x)), (8, .int (nI D))]) zx zb dX3_noteClass_69 hl (by decide) rfl (fun ls hl => ?_)
          refine lv_aload_n zx zb dX3_noteClass_71 rfl (lv_at hl 1 rfl) ?_
          refine j_get hC hI hin_X3_noteClass_X3 0 rfl rfl 6 (by decide) hfl_X3_noteClass_32 rfl rfl dX3_noteClass_72 ?_
          refine lv_iload zx zb dX3_noteClass_75 (lv_at hl 9 rfl) ?_
          refine lv_iload zx zb dX3_noteClass_77 (lv_at hl 0 rfl) ?_
          refine j_iast (w1 := [oC m0 3 [.ref t0, .ref u0, .ref a1, .ref a2, .ref a3, .ref a4, .ref a5], oC t0 1 [.ref t1, .int (nI n)], aI G t1 500 T, oC u0 5 [.int (nI la), .int (nI lm), .int (nI lw)], aI G a1 500 e1, aI G a2 500 e2, aI G a3 500 e3, aI G a4 4500 g4, aI G a5 501 (up e5 D y)]) hC hI 8 rfl (by omega) (by omega) dX3_noteClass_79 rfl (fun H locs hI => ?_)
          refine lv_iload zx zb dX3_noteClass_80 (lv_at hl 0 rfl) ?_
          refine lv_iload zx zb dX3_noteClass_82 (lv_at hl 6 rfl) ?_
          refine j_icmp_lt (tgt := 103) hC dX3_noteClass_84 (by decide) (by omega) (by omega) (fun c84 => ?_) (fun c84 => ?_)
          · refine lv_iinc (v := nI (D + 1)) (lv' := [(8, .int (nI (D + 1))), (9, .int (nI y)), (0, .ref m0), (1, .int (nI p)), (2, .int (nI c)), (3, .ref t1), (4, .int (nI (T p))), (5, .int (nI la)), (6, .int (nI v25_0)), (7, .int (nI x))]) zx zb dX3_noteClass_103 hl (k := 9) rfl (j_inc _ _ _ (by decide)) (by decide) rfl (fun ls hl => ?_)
            refine lv_goto (tgt := 38) zx zb dX3_noteClass_106 (by decide) ?_
            have z0 : mt la lm lw T n p D = 0 := mt_short (by omega)
            exact ih38 (D + 1) x e1 e2 e3 (up e5 D y) (by omega) (by rw [mx_at (by omega), z0, k1]; omega) (by rw [nrs_at (by omega), z0, if_neg (by omega), k2]) (by rw [ct_at (by omega), z0, if_pos rfl, k3]; rfl) (by rw [rx_at (by omega), z0, kx]; omega) ko (nc_same k5 hy (by omega)) (by omega) _ _ _ hI (lv_sub hl [2, 3, 4, 5, 6, 7, 8, 9, 0] rfl)
          · refine lv_iload zx zb dX3_noteClass_87 (lv_at hl 8 rfl) ?_
            refine lv_aload_n zx zb dX3_noteClass_89 rfl (lv_at hl 1 rfl) ?_
            refine lv_iload_n zx zb dX3_noteClass_90 rfl (lv_at hl 2 rfl) ?_
            refine lv_iload zx zb dX3_noteClass_91 (lv_at hl 9 rfl) ?_
            refine lv_iload zx zb dX3_noteClass_93 (lv_at hl 0 rfl) ?_
            refine j_callVi (wr := [oC t0 1 [.ref t1, .int (nI n)], aI G t1 500 T, aI G a4 4500 g4, aI G a5 501 (up e5 D y)]) hC hI (c_X3_noteMatch zl G m0 t0 u0 a1 a2 a3 a4 a5 la lm lw p D y e1 e2 e3 (by omega) (by omega) (by omega) (by omega) (by omega)) (cwV 3 hC.2.2.2.2.1 gX3_noteClass_X3_noteMatch rfl rfl rfl (by decide +kernel) ⟨Nat.le_of_ble_eq_true rfl, Nat.le_of_ble_eq_true rfl⟩) [0, 3, 4, 5, 6] [1, 2, 7, 8] rfl rfl rfl rfl rfl rfl (q0 := 0) rfl rfl rfl hl.1 (Nat.le_of_ble_eq_true rfl) dX3_noteClass_95 ⟨Nat.le_of_ble_eq_true rfl, Nat.le_of_ble_eq_true rfl⟩ (fun r u95 H locs hp95 hI => ?_)
            obtain ⟨v95_0, v95_1⟩ := u95
            have hI : jI G zA zs [oC t0 1 [.ref t1, .int (nI n)], aI G t1 500 T, aI G a4 4500 g4, aI G a5 501 (up e5 D y), oC m0 3 [.ref t0, .ref u0, .ref a1, .ref a2, .ref a3, .ref a4, .ref a5], oC u0 5 [.int (nI la), .int (nI lm), .int (nI lw)], aI G a1 500 v95_0, aI G a2 500 v95_1, aI G a3 500 (up e3 p (e3 p + 1))] H locs := hI
            dsimp only at hp95
            obtain ⟨rfl, f95_0, f95_1, f95_2⟩ := hp95
            refine j_max hC hl.1 (by decide +kernel) (by decide +kernel) (by decide +kernel) (by decide +kernel) (Nat.le_of_ble_eq_true rfl) (Nat.le_of_ble_eq_true rfl) (Nat.le_of_ble_eq_true rfl) (Nat.le_of_ble_eq_true rfl) (by omega) (by omega) dX3_noteClass_98 ?_
            refine lv_istore (lv' := [(7, .int (nI (max x (min y lm)))), (9, .int (nI y)), (0, .ref m0), (1, .int (nI p)), (2, .int (nI c)), (3, .ref t1), (4, .int (nI (T p))), (5, .int (nI la)), (6, .int (nI v25_0)), (8, .int (nI D))]) zx zb dX3_noteClass_101 hl (by decide) rfl (fun ls hl => ?_)
            refine lv_iinc (v := nI (D + 1)) (lv' := [(8, .int (nI (D + 1))), (7, .int (nI (max x (min y lm)))), (9, .int (nI y)), (0, .ref m0), (1, .int (nI p)), (2, .int (nI c)), (3, .ref t1), (4, .int (nI (T p))), (5, .int (nI la)), (6, .int (nI v25_0))]) zx zb dX3_noteClass_103 hl (k := 9) rfl (j_inc _ _ _ (by decide)) (by decide) rfl (fun ls hl => ?_)
            refine lv_goto (tgt := 38) zx zb dX3_noteClass_106 (by decide) ?_
            have z0 : mt la lm lw T n p D = min (lc T D p (n - p)) lm := mt_in (by omega) (by omega) (by omega)
            exact ih38 (D + 1) (max x (min y lm)) v95_0 v95_1 (up e3 p (e3 p + 1)) (up e5 D y) (by omega) (by rw [mx_at (by omega), z0, f95_0, k1, hy]) (by rw [nrs_at (by omega), z0, f95_1, k2, k1, hy]) (by rw [up_s, ct_at (by omega), if_neg (by omega), k3]) (by rw [rx_at (by omega), z0, kx, hy]) (fun j hj => ⟨(f95_2 j hj).1.trans (ko j hj).1, (f95_2 j hj).2.trans (ko j hj).2.1, (up_n hj).trans (ko j hj).2.2⟩) (nc_same k5 hy (by omega)) (by omega) _ _ _ (hI.sub [4, 0, 1, 5, 6, 7, 8, 2, 3] rfl rfl) (lv_sub hl [3, 4, 5, 6, 7, 8, 9, 1, 0] rfl)
        refine lv_aload_n zx zb dX3_noteClass_45 rfl (lv_at hl 3 rfl) ?_
        refine lv_iload_n zx zb dX3_noteClass_46 rfl (lv_at hl 1 rfl) ?_
        refine lv_iload zx zb dX3_noteClass_47 (lv_at hl 8 rfl) ?_
        refine j_isub hC (by omega) dX3_noteClass_49 ?_
        refine j_iald hC hI 2 rfl (by omega) (by omega) dX3_noteClass_50 ?_
        have b50 := hT (p - D) (by omega)
        refine lv_iload zx zb dX3_noteClass_51 (lv_at hl 4 rfl) ?_
        refine j_icmp_ne (tgt := 68) hC dX3_noteClass_53 (by decide) (by omega) (by omega) (fun c53 => ?_) (fun c53 => ?_)
        · refine lv_iconst (v := nI 0) zx zb dX3_noteClass_68 (by decide) ?_
          exact loop69 0 (lc_ne (by omega) c53).symm  _ _ _ hI (lv_sub hl [0, 1, 2, 3, 4, 5, 6, 7, 8] rfl)
        · have b5 : e5 D ≤ 500 := by rw [(k5 D).2 (by omega), i5 D (by omega) (by omega) (by omega)]; have := lc_le T D (n - (p + 1)) (p + 1); omega
          refine lv_aload_n zx zb dX3_noteClass_56 rfl (lv_at hl 0 rfl) ?_
          refine j_get hC hI hin_X3_noteClass_X3 0 rfl rfl 6 (by decide) hfl_X3_noteClass_32 rfl rfl dX3_noteClass_57 ?_
          refine lv_iload zx zb dX3_noteClass_60 (lv_at hl 8 rfl) ?_
          refine j_iald hC hI 8 rfl (by omega) (by omega) dX3_noteClass_62 ?_
          refine lv_iconst (v := nI 1) zx zb dX3_noteClass_63 (by decide) ?_
          refine j_iadd hC dX3_noteClass_64 ?_
          refine lv_goto (tgt := 69) zx zb dX3_noteClass_65 (by decide) ?_
          exact loop69 ((e5 D) + 1) (by rw [lc_eq (by omega) c53, (k5 D).2 (by omega), i5 D (by omega) (by omega) (by omega)])  _ _ _ hI (lv_sub hl [0, 1, 2, 3, 4, 5, 6, 7, 8] rfl)
  exact loop38 _ (2 ^ c) 0 g1 g2 g3 g5 (by omega) i1 i2 i3 (by rw [Nat.sub_self]; rfl) (fun j hj => ⟨rfl, rfl, rfl⟩) (fun d => ⟨fun h => by omega, fun h => rfl⟩) (Nat.lt_succ_self _) _ _ _ (hI.sub [7, 0, 1, 8, 2, 3, 4, 5, 6] rfl rfl) (lv_sub hl [6, 7, 8, 5, 4, 3, 2, 1, 0] rfl)

theorem hin_X3_nearestOfClass_X3 : ∀ w ∈ wsX30, w ∈ wsX3_nearestOfClass := by decide +kernel
theorem hfl_X3_nearestOfClass_9 : Cond.fieldLink RX3 9 "CheapParse$Matches" "text" "LCheapParse$Bytes;" ∈ wsX3_nearestOfClass := by decide +kernel
set_option maxHeartbeats 4000000 in
set_option maxRecDepth 100000 in
theorem c_X3_nearestOfClass (zl : Launch) (G : jG) (m0 : Nat) (t0 : Nat) (u0 : Nat) (a1 : Nat) (a2 : Nat) (a3 : Nat) (a4 : Nat) (a5 : Nat) (t1 : Nat) (n : Nat) (la : Nat) (lm : Nat) (lw : Nat) (p : Nat) (k : Nat) (c : Nat) (T : Nat → Nat) (hn : n ≤ 500) (hl : 1 ≤ la ∧ la ≤ lm ∧ lm ≤ 255 ∧ lw ≤ 500) (hT : ∀ j, j < n → T j < 256) (hp : p < n) (hk : p + k ≤ n) (hc : c < 9) : jMet zl yX3_nearestOfClass wsX3_nearestOfClass ({ frames := 2, cells := 0, slots := 0, locals := 43 }) G [oC m0 3 [.ref t0, .ref u0, .ref a1, .ref a2, .ref a3, .ref a4, .ref a5], oC t0 1 [.ref t1, .int (nI n)], aI G t1 500 T, oC u0 5 [.int (nI la), .int (nI lm), .int (nI lw)]] [.ref m0, .int (nI p), .int (nI k), .int (nI c)] (jQi G (fun (r : Int32) (u : Nat) => (r = nI u) ∧ ((u = 0 ∧ ∀ x, 2 ^ c ≤ x → x ≤ (min (2 * 2 ^ c - 1) (min p lw)) → lc T x p (n - p) < k) ∨ (2 ^ c ≤ u ∧ u ≤ (min (2 * 2 ^ c - 1) (min p lw)) ∧ k ≤ lc T u p (n - p) ∧ ∀ x, 2 ^ c ≤ x → x < u → lc T x p (n - p) < k))) (fun (u : Nat) => [oC m0 3 [.ref t0, .ref u0, .ref a1, .ref a2, .ref a3, .ref a4, .ref a5], oC t0 1 [.ref t1, .int (nI n)], aI G t1 500 T, oC u0 5 [.int (nI la), .int (nI lm), .int (nI lw)]])) 0 0 := by
  refine j_enter_i (cc := cX3_nearestOfClass) (nL := 6) (nm := "nearestOfClass") (own := RX3) (lv := [(0, .ref m0), (1, .int (nI p)), (2, .int (nI k)), (3, .int (nI c))]) (by decide) rfl (Nat.le_of_ble_eq_true rfl) rfl rfl rfl ?_
  intro zA zp ze zs zm zargs zbelow zmeth zc zQ ls hC hQ hI hl
  have zx := hC.1
  have zb := hC.2.1
  have h2c := tp_lt hc
  have h2p := Nat.two_pow_pos c
  refine lv_aload_n zx zb dX3_nearestOfClass_0 rfl (lv_at hl 0 rfl) ?_
  refine lv_iload_n zx zb dX3_nearestOfClass_1 rfl (lv_at hl 1 rfl) ?_
  refine lv_iload_n zx zb dX3_nearestOfClass_2 rfl (lv_at hl 3 rfl) ?_
  refine j_callVi (wr := [oC t0 1 [.ref t1, .int (nI n)], aI G t1 500 T]) hC hI (c_X3_lastOfClass zl G m0 t0 u0 a1 a2 a3 a4 a5 la lm lw p c (by omega) (by omega) (by omega)) (cwV 2 hC.2.2.2.2.1 gX3_nearestOfClass_X3_lastOfClass rfl rfl rfl (by decide +kernel) ⟨Nat.le_of_ble_eq_true rfl, Nat.le_of_ble_eq_true rfl⟩) [0, 3] [1, 2] rfl rfl rfl rfl rfl rfl (q0 := 0) rfl rfl rfl hl.1 (Nat.le_of_ble_eq_true rfl) dX3_nearestOfClass_3 ⟨Nat.le_of_ble_eq_true rfl, Nat.le_of_ble_eq_true rfl⟩ (fun r u3 H locs hp3 hI => ?_)
  obtain ⟨v3_0, rfl⟩ : ∃ z, z = u3 := ⟨_, rfl⟩
  have hI : jI G zA zs [oC t0 1 [.ref t1, .int (nI n)], aI G t1 500 T, oC m0 3 [.ref t0, .ref u0, .ref a1, .ref a2, .ref a3, .ref a4, .ref a5], oC u0 5 [.int (nI la), .int (nI lm), .int (nI lw)]] H locs := hI
  obtain ⟨rfl, f3_0⟩ := hp3
  refine lv_istore (lv' := [(4, .int (nI v3_0)), (0, .ref m0), (1, .int (nI p)), (2, .int (nI k)), (3, .int (nI c))]) zx zb dX3_nearestOfClass_6 hl (by decide) rfl (fun ls hl => ?_)
  refine lv_iconst (v := nI 1) zx zb dX3_nearestOfClass_8 (by decide) ?_
  refine lv_iload_n zx zb dX3_nearestOfClass_9 rfl (lv_at hl 4 rfl) ?_
  refine j_ishl1 hC (by omega) dX3_nearestOfClass_10 ?_
  refine lv_istore (lv' := [(5, .int (nI (2 ^ c))), (4, .int (nI v3_0)), (0, .ref m0), (1, .int (nI p)), (2, .int (nI k)), (3, .int (nI c))]) zx zb dX3_nearestOfClass_11 hl (by decide) rfl (fun ls hl => ?_)
  have loop13 : ∀ (zn13 : Nat) (D : Nat), (2 ^ c ≤ D ∧ D ≤ 1000) → (∀ x, 2 ^ c ≤ x → x < D → lc T x p (n - p) < k) → (1001 - D) < zn13 → ∀ (H : Heap) (locs : List Loc) (ls : Array Slot), jI G zA zs [oC t0 1 [.ref t1, .int (nI n)], aI G t1 500 T, oC m0 3 [.ref t0, .ref u0, .ref a1, .ref a2, .ref a3, .ref a4, .ref a5], oC u0 5 [.int (nI la), .int (nI lm), .int (nI lw)]] H locs → lv_has ls 6 [(0, .ref m0), (1, .int (nI p)), (2, .int (nI k)), (3, .int (nI c)), (4, .int (nI v3_0)), (5, .int (nI D))] → W zp zl ze ({ frames := 2, cells := 0, slots := 0, locals := 43 }) zs zm zargs zbelow zmeth zc H locs 0 0 zQ (F0 zm 13 ls []) := by
    intro zn13
    induction zn13 with
    | zero => intros; omega
    | succ zn13 ih13 =>
      intro D hD hx zm13 H locs ls hI hl
      refine lv_iload zx zb dX3_nearestOfClass_13 (lv_at hl 5 rfl) ?_
      refine lv_iload zx zb dX3_nearestOfClass_15 (lv_at hl 4 rfl) ?_
      refine j_icmp_gt (tgt := 43) hC dX3_nearestOfClass_17 (by decide) (by omega) (by omega) (fun c17 => ?_) (fun c17 => ?_)
      · refine lv_iconst (v := nI 0) zx zb dX3_nearestOfClass_43 (by decide) ?_
        exact hQ _ _ _ _ _ 0 dX3_nearestOfClass_44 (hI.sub [2, 0, 1, 3] rfl rfl) ⟨(by first | rfl | (congr 1; omega) | omega), (Or.inl ⟨rfl, fun x h1 h2 => hx x h1 (by omega)⟩)⟩
      · refine lv_aload_n zx zb dX3_nearestOfClass_20 rfl (lv_at hl 0 rfl) ?_
        refine j_get hC hI hin_X3_nearestOfClass_X3 2 rfl rfl 0 (by decide) hfl_X3_nearestOfClass_9 rfl rfl dX3_nearestOfClass_21 ?_
        refine lv_iload_n zx zb dX3_nearestOfClass_24 rfl (lv_at hl 1 rfl) ?_
        refine lv_iload zx zb dX3_nearestOfClass_25 (lv_at hl 5 rfl) ?_
        refine lv_iload_n zx zb dX3_nearestOfClass_27 rfl (lv_at hl 2 rfl) ?_
        refine j_callVi (wr := [oC m0 3 [.ref t0, .ref u0, .ref a1, .ref a2, .ref a3, .ref a4, .ref a5], oC u0 5 [.int (nI la), .int (nI lm), .int (nI lw)]]) hC hI (c_X1_repeats zl G t0 t1 500 n p D k T (by omega) (by omega) (by omega) (by omega) (by omega) (by omega)) (cwV 3 hC.2.2.2.2.1 gX3_nearestOfClass_X1_repeats rfl rfl rfl (by decide +kernel) ⟨Nat.le_of_ble_eq_true rfl, Nat.le_of_ble_eq_true rfl⟩) [0, 1] [2, 3] rfl rfl rfl rfl rfl rfl (q0 := 0) rfl rfl rfl hl.1 (Nat.le_of_ble_eq_true rfl) dX3_nearestOfClass_28 ⟨Nat.le_of_ble_eq_true rfl, Nat.le_of_ble_eq_true rfl⟩ (fun r u28 H locs hp28 hI => ?_)
        obtain ⟨v28_0, rfl⟩ : ∃ z, z = u28 := ⟨_, rfl⟩
        have hI : jI G zA zs [oC m0 3 [.ref t0, .ref u0, .ref a1, .ref a2, .ref a3, .ref a4, .ref a5], oC u0 5 [.int (nI la), .int (nI lm), .int (nI lw)], oC t0 1 [.ref t1, .int (nI n)], aI G t1 500 T] H locs := hI
        obtain ⟨rfl, f28_0, f28_1⟩ := hp28
        refine j_if_eq (tgt := 37) hC dX3_nearestOfClass_31 (by decide) (by omega) (fun c31 => ?_) (fun c31 => ?_)
        · refine lv_iinc (v := nI (D + 1)) (lv' := [(5, .int (nI (D + 1))), (0, .ref m0), (1, .int (nI p)), (2, .int (nI k)), (3, .int (nI c)), (4, .int (nI v3_0))]) zx zb dX3_nearestOfClass_37 hl (k := 5) rfl (j_inc _ _ _ (by decide)) (by decide) rfl (fun ls hl => ?_)
          refine lv_goto (tgt := 13) zx zb dX3_nearestOfClass_40 (by decide) ?_
          exact ih13 (D + 1) (by omega) (fun x h1 h2 => by rcases Nat.lt_or_ge x D with q | q; exact hx x h1 q; rw [show x = D by omega]; exact lc_small hk (fun q2 => by have := f28_1.mpr q2; omega)) (by omega) _ _ _ (hI.sub [2, 3, 0, 1] rfl rfl) (lv_sub hl [1, 2, 3, 4, 5, 0] rfl)
        · refine lv_iload zx zb dX3_nearestOfClass_34 (lv_at hl 5 rfl) ?_
          exact hQ _ _ _ _ _ D dX3_nearestOfClass_36 (hI.sub [0, 2, 3, 1] rfl rfl) ⟨(by first | rfl | (congr 1; omega) | omega), (Or.inr ⟨by omega, by omega, lc_large hk (f28_1.mp (by omega)), fun x h1 h2 => hx x h1 h2⟩)⟩
  exact loop13 _ (2 ^ c) (by omega) (fun x h1 h2 => by omega) (Nat.lt_succ_self _) _ _ _ hI (lv_sub hl [2, 3, 4, 5, 1, 0] rfl)

theorem hin_X3_build_X3 : ∀ w ∈ wsX30, w ∈ wsX3_build := by decide +kernel
theorem hfl_X3_build_9 : Cond.fieldLink RX3 9 "CheapParse$Matches" "text" "LCheapParse$Bytes;" ∈ wsX3_build := by decide +kernel
theorem hfl_X3_build_19 : Cond.fieldLink RX3 19 "CheapParse$Matches" "longest" "[I" ∈ wsX3_build := by decide +kernel
theorem hfl_X3_build_23 : Cond.fieldLink RX3 23 "CheapParse$Matches" "nearest" "[I" ∈ wsX3_build := by decide +kernel
theorem hfl_X3_build_26 : Cond.fieldLink RX3 26 "CheapParse$Matches" "distances" "[I" ∈ wsX3_build := by decide +kernel
theorem hfl_X3_build_32 : Cond.fieldLink RX3 32 "CheapParse$Matches" "same" "[I" ∈ wsX3_build := by decide +kernel
set_option maxHeartbeats 4000000 in
set_option maxRecDepth 100000 in
theorem c_X3_build (zl : Launch) (G : jG) (m0 : Nat) (t0 : Nat) (u0 : Nat) (a1 : Nat) (a2 : Nat) (a3 : Nat) (a4 : Nat) (a5 : Nat) (t1 : Nat) (n : Nat) (la : Nat) (lm : Nat) (lw : Nat) (T : Nat → Nat) (g1 : Nat → Nat) (g2 : Nat → Nat) (g3 : Nat → Nat) (g4 : Nat → Nat) (g5 : Nat → Nat) (hn : n ≤ 500) (hl : 1 ≤ la ∧ la ≤ lm ∧ lm ≤ 255 ∧ lw ≤ 500) (hT : ∀ j, j < n → T j < 256) : jMet zl yX3_build wsX3_build ({ frames := 3, cells := 0, slots := 0, locals := 73 }) G [oC m0 3 [.ref t0, .ref u0, .ref a1, .ref a2, .ref a3, .ref a4, .ref a5], oC t0 1 [.ref t1, .int (nI n)], aI G t1 500 T, oC u0 5 [.int (nI la), .int (nI lm), .int (nI lw)], aI G a1 500 g1, aI G a2 500 g2, aI G a3 500 g3, aI G a4 4500 g4, aI G a5 501 g5] [.ref m0] (jQv G (fun (u : (Nat → Nat) × (Nat → Nat) × (Nat → Nat) × (Nat → Nat) × (Nat → Nat)) => (∀ p, p < n → mOK la lm lw T n u.1 u.2.1 u.2.2.1 u.2.2.2.1 p)) (fun (u : (Nat → Nat) × (Nat → Nat) × (Nat → Nat) × (Nat → Nat) × (Nat → Nat)) => [oC m0 3 [.ref t0, .ref u0, .ref a1, .ref a2, .ref a3, .ref a4, .ref a5], oC t0 1 [.ref t1, .int (nI n)], aI G t1 500 T, oC u0 5 [.int (nI la), .int (nI lm), .int (nI lw)], aI G a1 500 u.1, aI G a2 500 u.2.1, aI G a3 500 u.2.2.1, aI G a4 4500 u.2.2.2.1, aI G a5 501 u.2.2.2.2])) 0 0 := by
  refine j_enter_v (cc := cX3_build) (nL := 3) (nm := "build") (own := RX3) (lv := [(0, .ref m0)]) (by decide) rfl (Nat.le_of_ble_eq_true rfl) rfl rfl rfl ?_
  intro zA zp ze zs zm zargs zbelow zmeth zc zQ ls hC hQ hI hl
  have zx := hC.1
  have zb := hC.2.1
  refine lv_iconst (v := nI 0) zx zb dX3_build_0 (by decide) ?_
  refine lv_istore_n (lv' := [(1, .int (nI 0)), (0, .ref m0)]) zx zb dX3_build_1 rfl hl (by decide) rfl (fun ls hl => ?_)
  have loop2 : ∀ (zn2 : Nat) (i : Nat) (s5 : Nat → Nat), (i ≤ 501) → (∀ d, d < i → s5 d = 0) → (501 - i) < zn2 → ∀ (H : Heap) (locs : List Loc) (ls : Array Slot), jI G zA zs [oC m0 3 [.ref t0, .ref u0, .ref a1, .ref a2, .ref a3, .ref a4, .ref a5], oC t0 1 [.ref t1, .int (nI n)], aI G t1 500 T, oC u0 5 [.int (nI la), .int (nI lm), .int (nI lw)], aI G a1 500 g1, aI G a2 500 g2, aI G a3 500 g3, aI G a4 4500 g4, aI G a5 501 s5] H locs → lv_has ls 3 [(0, .ref m0), (1, .int (nI i))] → W zp zl ze ({ frames := 3, cells := 0, slots := 0, locals := 73 }) zs zm zargs zbelow zmeth zc H locs 0 0 zQ (F0 zm 2 ls []) := by
    intro zn2
    induction zn2 with
    | zero => intros; omega
    | succ zn2 ih2 =>
      intro i s5 hi h5 zm2 H locs ls hI hl
      refine lv_iload_n zx zb dX3_build_2 rfl (lv_at hl 1 rfl) ?_
      refine lv_sipush (v := nI 500) zx zb dX3_build_3 (by decide) ?_
      refine j_icmp_gt (tgt := 22) hC dX3_build_6 (by decide) (by omega) (by omega) (fun c6 => ?_) (fun c6 => ?_)
      · refine lv_aload_n zx zb dX3_build_22 rfl (lv_at hl 0 rfl) ?_
        refine j_get hC hI hin_X3_build_X3 0 rfl rfl 0 (by decide) hfl_X3_build_9 rfl rfl dX3_build_23 ?_
        refine j_callVi (wr := [oC m0 3 [.ref t0, .ref u0, .ref a1, .ref a2, .ref a3, .ref a4, .ref a5], aI G t1 500 T, oC u0 5 [.int (nI la), .int (nI lm), .int (nI lw)], aI G a1 500 g1, aI G a2 500 g2, aI G a3 500 g3, aI G a4 4500 g4, aI G a5 501 s5]) hC hI (c_X1_size zl G t0 t1 n ) (cwV 0 hC.2.2.2.2.1 gX3_build_X1_size rfl rfl rfl (by decide +kernel) ⟨Nat.le_of_ble_eq_true rfl, Nat.le_of_ble_eq_true rfl⟩) [1] [0, 2, 3, 4, 5, 6, 7, 8] rfl rfl rfl rfl rfl rfl (q0 := 0) rfl rfl rfl hl.1 (Nat.le_of_ble_eq_true rfl) dX3_build_26 ⟨Nat.le_of_ble_eq_true rfl, Nat.le_of_ble_eq_true rfl⟩ (fun r u26 H locs hp26 hI => ?_)
        have hI : jI G zA zs [oC m0 3 [.ref t0, .ref u0, .ref a1, .ref a2, .ref a3, .ref a4, .ref a5], aI G t1 500 T, oC u0 5 [.int (nI la), .int (nI lm), .int (nI lw)], aI G a1 500 g1, aI G a2 500 g2, aI G a3 500 g3, aI G a4 4500 g4, aI G a5 501 s5, oC t0 1 [.ref t1, .int (nI n)]] H locs := hI
        subst hp26
        refine lv_iconst (v := nI 1) zx zb dX3_build_29 (by decide) ?_
        refine j_isub1 hC dX3_build_30 ?_
        refine lv_istore_n (lv' := [(1, .int (mI n)), (0, .ref m0)]) zx zb dX3_build_31 rfl hl (by decide) rfl (fun ls hl => ?_)
        have loop32 : ∀ (zn32 : Nat) (j : Nat) (e1 : Nat → Nat) (e2 : Nat → Nat) (e3 : Nat → Nat) (e4 : Nat → Nat) (e5 : Nat → Nat), (j ≤ n) → (∀ p, j ≤ p → p < n → mOK la lm lw T n e1 e2 e3 e4 p) → (∀ d, 1 ≤ d → d ≤ j → d ≤ lw → e5 d = lc T d j (n - j)) → j < zn32 → ∀ (H : Heap) (locs : List Loc) (ls : Array Slot), jI G zA zs [oC m0 3 [.ref t0, .ref u0, .ref a1, .ref a2, .ref a3, .ref a4, .ref a5], oC t0 1 [.ref t1, .int (nI n)], aI G t1 500 T, oC u0 5 [.int (nI la), .int (nI lm), .int (nI lw)], aI G a1 500 e1, aI G a2 500 e2, aI G a3 500 e3, aI G a4 4500 e4, aI G a5 501 e5] H locs → lv_has ls 3 [(0, .ref m0), (1, .int (mI j))] → W zp zl ze ({ frames := 3, cells := 0, slots := 0, locals := 73 }) zs zm zargs zbelow zmeth zc H locs 0 0 zQ (F0 zm 32 ls []) := by
          intro zn32
          induction zn32 with
          | zero => intros; omega
          | succ zn32 ih32 =>
            intro j e1 e2 e3 e4 e5 hj hm h5 zm32 H locs ls hI hl
            refine lv_iload_n zx zb dX3_build_32 rfl (lv_at hl 1 rfl) ?_
            refine j_ifM_lt (tgt := 83) hC dX3_build_33 (by decide) (by omega) (fun c33 => ?_) (fun c33 => ?_)
            · subst c33
              exact hQ _ _ _ _ ⟨e1, e2, e3, e4, e5⟩ dX3_build_83 (hI.sub [0, 1, 2, 3, 4, 5, 6, 7, 8] rfl rfl) (by (try dsimp only); exact (fun p h => hm p (by omega) h))
            · obtain ⟨j33, rfl⟩ : ∃ z, j = z + 1 := ⟨j - 1, by omega⟩
              rw [mI_s] at hl
              refine lv_aload_n zx zb dX3_build_36 rfl (lv_at hl 0 rfl) ?_
              refine j_get hC hI hin_X3_build_X3 0 rfl rfl 2 (by decide) hfl_X3_build_19 rfl rfl dX3_build_37 ?_
              refine lv_iload_n zx zb dX3_build_40 rfl (lv_at hl 1 rfl) ?_
              refine lv_iconst (v := nI 0) zx zb dX3_build_41 (by decide) ?_
              refine j_iast (w1 := [oC m0 3 [.ref t0, .ref u0, .ref a1, .ref a2, .ref a3, .ref a4, .ref a5], oC t0 1 [.ref t1, .int (nI n)], aI G t1 500 T, oC u0 5 [.int (nI la), .int (nI lm), .int (nI lw)], aI G a1 500 (up e1 j33 0), aI G a2 500 e2, aI G a3 500 e3, aI G a4 4500 e4, aI G a5 501 e5]) hC hI 4 rfl (by omega) (by omega) dX3_build_42 rfl (fun H locs hI => ?_)
              refine lv_aload_n zx zb dX3_build_43 rfl (lv_at hl 0 rfl) ?_
              refine j_get hC hI hin_X3_build_X3 0 rfl rfl 3 (by decide) hfl_X3_build_23 rfl rfl dX3_build_44 ?_
              refine lv_iload_n zx zb dX3_build_47 rfl (lv_at hl 1 rfl) ?_
              refine lv_iconst (v := nI 0) zx zb dX3_build_48 (by decide) ?_
              refine j_iast (w1 := [oC m0 3 [.ref t0, .ref u0, .ref a1, .ref a2, .ref a3, .ref a4, .ref a5], oC t0 1 [.ref t1, .int (nI n)], aI G t1 500 T, oC u0 5 [.int (nI la), .int (nI lm), .int (nI lw)], aI G a1 500 (up e1 j33 0), aI G a2 500 (up e2 j33 0), aI G a3 500 e3, aI G a4 4500 e4, aI G a5 501 e5]) hC hI 5 rfl (by omega) (by omega) dX3_build_49 rfl (fun H locs hI => ?_)
              refine lv_aload_n zx zb dX3_build_50 rfl (lv_at hl 0 rfl) ?_
              refine j_get hC hI hin_X3_build_X3 0 rfl rfl 4 (by decide) hfl_X3_build_26 rfl rfl dX3_build_51 ?_
              refine lv_iload_n zx zb dX3_build_54 rfl (lv_at hl 1 rfl) ?_
              refine lv_iconst (v := nI 0) zx zb dX3_build_55 (by decide) ?_
              refine j_iast (w1 := [oC m0 3 [.ref t0, .ref u0, .ref a1, .ref a2, .ref a3, .ref a4, .ref a5], oC t0 1 [.ref t1, .int (nI n)], aI G t1 500 T, oC u0 5 [.int (nI la), .int (nI lm), .int (nI lw)], aI G a1 500 (up e1 j33 0), aI G a2 500 (up e2 j33 0), aI G a3 500 (up e3 j33 0), aI G a4 4500 e4, aI G a5 501 e5]) hC hI 6 rfl (by omega) (by omega) dX3_build_56 rfl (fun H locs hI => ?_)
              refine lv_iconst (v := nI 0) zx zb dX3_build_57 (by decide) ?_
              refine lv_istore_n (lv' := [(2, .int (nI 0)), (0, .ref m0), (1, .int (nI j33))]) zx zb dX3_build_58 rfl hl (by decide) rfl (fun ls hl => ?_)
              have loop59 : ∀ (zn59 : Nat) (c : Nat) (y1 : Nat → Nat) (y2 : Nat → Nat) (y3 : Nat → Nat) (y4 : Nat → Nat) (y5 : Nat → Nat), (c ≤ 9) → (∀ p, j33 + 1 ≤ p → p < n → mOK la lm lw T n y1 y2 y3 y4 p) → (y1 j33 = mx (mt la lm lw T n j33) (2 ^ c - 1)) → (y2 j33 = nrs (mt la lm lw T n j33) (2 ^ c - 1)) → (y3 j33 = ct (mt la lm lw T n j33) (2 ^ c - 1)) → (∀ c2, c2 < c → y4 (j33 * 9 + c2) = rx (mt la lm lw T n j33) (2 ^ c2) (2 ^ c2)) → (∀ d, 1 ≤ d → d ≤ j33 → d ≤ lw → (d < 2 ^ c → y5 d = lc T d j33 (n - j33)) ∧ (2 ^ c ≤ d → y5 d = lc T d (j33 + 1) (n - (j33 + 1)))) → (9 - c) < zn59 → ∀ (H : Heap) (locs : List Loc) (ls : Array Slot), jI G zA zs [oC m0 3 [.ref t0, .ref u0, .ref a1, .ref a2, .ref a3, .ref a4, .ref a5], oC t0 1 [.ref t1, .int (nI n)], aI G t1 500 T, oC u0 5 [.int (nI la), .int (nI lm), .int (nI lw)], aI G a1 500 y1, aI G a2 500 y2, aI G a3 500 y3, aI G a4 4500 y4, aI G a5 501 y5] H locs → lv_has ls 3 [(0, .ref m0), (1, .int (nI j33)), (2, .int (nI c))] → W zp zl ze ({ frames := 3, cells := 0, slots := 0, locals := 73 }) zs zm zargs zbelow zmeth zc H locs 0 0 zQ (F0 zm 59 ls []) := by
                intro zn59
                induction zn59 with
                | zero => intros; omega
                | succ zn59 ih59 =>
                  intro c y1 y2 y3 y4 y5 hc hm2 k1 k2 k3 k4 k5 zm59 H locs ls hI hl
                  refine lv_iload_n zx zb dX3_build_59 rfl (lv_at hl 2 rfl) ?_
                  refine lv_bipush (v := nI 9) zx zb dX3_build_60 (by decide) ?_
                  refine j_icmp_ge (tgt := 77) hC dX3_build_62 (by decide) (by omega) (by omega) (fun c62 => ?_) (fun c62 => ?_)
                  · rw [show c = 9 by omega] at k1 k2 k3 k4 k5
                    refine lv_iinc (v := mI j33) (lv' := [(1, .int (mI j33)), (0, .ref m0), (2, .int (nI c))]) zx zb dX3_build_77 hl (k := 1) rfl (j_dec _) (by decide) rfl (fun ls hl => ?_)
                    refine lv_goto (tgt := 32) zx zb dX3_build_80 (by decide) ?_
                    exact ih32 j33 y1 y2 y3 y4 y5 (by omega) (bd_next hm2 k1 k2 k3 k4 (by omega)) (fun d h1 h2 h3 => (k5 d h1 (by omega) h3).1 (by omega)) (by omega) _ _ _ hI (lv_sub hl [1, 0] rfl)
                  · refine lv_aload_n zx zb dX3_build_65 rfl (lv_at hl 0 rfl) ?_
                    refine lv_iload_n zx zb dX3_build_66 rfl (lv_at hl 1 rfl) ?_
                    refine lv_iload_n zx zb dX3_build_67 rfl (lv_at hl 2 rfl) ?_
                    refine j_callVv (wr := []) hC hI (c_X3_noteClass zl G m0 t0 u0 a1 a2 a3 a4 a5 t1 n la lm lw j33 c T y1 y2 y3 y4 y5 (by omega) (by omega) (by omega) (by omega) (by omega) k1 k2 k3 (fun d h1 h2 h3 => (k5 d (by have := Nat.two_pow_pos c; omega) h2 h3).2 h1)) (cwV 2 hC.2.2.2.2.1 gX3_build_X3_noteClass rfl rfl rfl (by decide +kernel) ⟨Nat.le_of_ble_eq_true rfl, Nat.le_of_ble_eq_true rfl⟩) [0, 1, 2, 3, 4, 5, 6, 7, 8] [] rfl rfl rfl rfl rfl rfl (q0 := 0) rfl rfl rfl hl.1 (Nat.le_of_ble_eq_true rfl) dX3_build_68 ⟨Nat.le_of_ble_eq_true rfl, Nat.le_of_ble_eq_true rfl⟩ (fun u68 H locs hp68 hI => ?_)
                    obtain ⟨v68_0, v68_1, v68_2, v68_3, v68_4⟩ := u68
                    have hI : jI G zA zs [oC m0 3 [.ref t0, .ref u0, .ref a1, .ref a2, .ref a3, .ref a4, .ref a5], oC t0 1 [.ref t1, .int (nI n)], aI G t1 500 T, oC u0 5 [.int (nI la), .int (nI lm), .int (nI lw)], aI G a1 500 v68_0, aI G a2 500 v68_1, aI G a3 500 v68_2, aI G a4 4500 v68_3, aI G a5 501 v68_4] H locs := hI
                    dsimp only at hp68
                    obtain ⟨f68_0, f68_1, f68_2, f68_3, f68_4, f68_5⟩ := hp68
                    refine lv_iinc (v := nI (c + 1)) (lv' := [(2, .int (nI (c + 1))), (0, .ref m0), (1, .int (nI j33))]) zx zb dX3_build_71 hl (k := 2) rfl (j_inc _ _ _ (by decide)) (by decide) rfl (fun ls hl => ?_)
                    refine lv_goto (tgt := 59) zx zb dX3_build_74 (by decide) ?_
                    exact ih59 (c + 1) v68_0 v68_1 v68_2 v68_3 v68_4 (by omega) (fun p h1 h2 => bd_keep (hm2 p h1 h2) f68_4 f68_3 (by omega) (by omega)) f68_0 f68_1 f68_2 (bd_k4 k4 f68_3) (bd_k5 k5 f68_5) (by omega) _ _ _ hI (lv_sub hl [1, 2, 0] rfl)
              exact loop59 _ 0 (up e1 j33 0) (up e2 j33 0) (up e3 j33 0) e4 e5 (by omega) (fun p h1 h2 => bd_off (hm p h1 h2) (by omega)) up_s up_s up_s (fun c2 h => by omega) (fun d h1 h2 h3 => ⟨fun h => by omega, fun h => h5 d h1 (by omega) h3⟩) (Nat.lt_succ_self _) _ _ _ hI (lv_sub hl [1, 2, 0] rfl)
        exact loop32 _ n g1 g2 g3 g4 s5 (by omega) (fun p h1 h2 => by omega) (fun d h1 h2 h3 => by rw [Nat.sub_self]; exact h5 d (by omega)) (Nat.lt_succ_self _) _ _ _ (hI.sub [0, 8, 1, 2, 3, 4, 5, 6, 7] rfl rfl) (lv_sub hl [1, 0] rfl)
      · refine lv_aload_n zx zb dX3_build_9 rfl (lv_at hl 0 rfl) ?_
        refine j_get hC hI hin_X3_build_X3 0 rfl rfl 6 (by decide) hfl_X3_build_32 rfl rfl dX3_build_10 ?_
        refine lv_iload_n zx zb dX3_build_13 rfl (lv_at hl 1 rfl) ?_
        refine lv_iconst (v := nI 0) zx zb dX3_build_14 (by decide) ?_
        refine j_iast (w1 := [oC m0 3 [.ref t0, .ref u0, .ref a1, .ref a2, .ref a3, .ref a4, .ref a5], oC t0 1 [.ref t1, .int (nI n)], aI G t1 500 T, oC u0 5 [.int (nI la), .int (nI lm), .int (nI lw)], aI G a1 500 g1, aI G a2 500 g2, aI G a3 500 g3, aI G a4 4500 g4, aI G a5 501 (up s5 i 0)]) hC hI 8 rfl (by omega) (by omega) dX3_build_15 rfl (fun H locs hI => ?_)
        refine lv_iinc (v := nI (i + 1)) (lv' := [(1, .int (nI (i + 1))), (0, .ref m0)]) zx zb dX3_build_16 hl (k := 1) rfl (j_inc _ _ _ (by decide)) (by decide) rfl (fun ls hl => ?_)
        refine lv_goto (tgt := 2) zx zb dX3_build_19 (by decide) ?_
        exact ih2 (i + 1) (up s5 i 0) (by omega) (fun d h => by by_cases e : d = i; subst e; rw [up_s]; rw [up_n e]; exact h5 d (by omega)) (by omega) _ _ _ hI (lv_sub hl [1, 0] rfl)
  exact loop2 _ 0 g5 (by omega) (fun d h => by omega) (Nat.lt_succ_self _) _ _ _ hI (lv_sub hl [1, 0] rfl)
end

section
-- ===== PART A: goes FIRST, ahead of the names: the tables' words, and 'selects' of the private methods out of them =====
/-- a private method of a class that the tables say can be made, by its rows of tables_1 -/
def lw_okq (q : MethodName × Nat) : Prop := (q.1.cls ≠ "java/lang/invoke/MethodHandle" ∧ q.1.cls ≠ "java/lang/invoke/VarHandle") ∧ Cond.instantiable q.1.cls q.2 ∈ tables_1 ∧ Cond.privateMethod q.1 ∈ tables_1 ∧ Cond.instanceMethod q.1 ∈ tables_1
theorem lw_p0 : lw_okq (⟨"GoldHeaps$BothGame", "lesserLostAlong", "(JJ)J"⟩, 1) := ⟨⟨by decide +kernel, by decide +kernel⟩, List.mem_of_getElem? (i := 80) (by decide +kernel), List.mem_of_getElem? (i := 206) (by decide +kernel), List.mem_of_getElem? (i := 207) (by decide +kernel)⟩
theorem lw_p1 : lw_okq (⟨"GoldHeaps$Golden", "indexIfLesser", "(J)J"⟩, 1) := ⟨⟨by decide +kernel, by decide +kernel⟩, List.mem_of_getElem? (i := 42) (by decide +kernel), List.mem_of_getElem? (i := 231) (by decide +kernel), List.mem_of_getElem? (i := 232) (by decide +kernel)⟩
theorem lw_p2 : lw_okq (⟨"GoldHeaps$Play", "heapCount", "()I"⟩, 9) := ⟨⟨by decide +kernel, by decide +kernel⟩, List.mem_of_getElem? (i := 113) (by decide +kernel), List.mem_of_getElem? (i := 405) (by decide +kernel), List.mem_of_getElem? (i := 406) (by decide +kernel)⟩
theorem lw_p3 : lw_okq (⟨"GoldHeaps$Play", "takesFrom", "(II)Z"⟩, 9) := ⟨⟨by decide +kernel, by decide +kernel⟩, List.mem_of_getElem? (i := 113) (by decide +kernel), List.mem_of_getElem? (i := 413) (by decide +kernel), List.mem_of_getElem? (i := 414) (by decide +kernel)⟩
theorem lw_p4 : lw_okq (⟨"GoldHeaps$Play", "bound", "()J"⟩, 9) := ⟨⟨by decide +kernel, by decide +kernel⟩, List.mem_of_getElem? (i := 113) (by decide +kernel), List.mem_of_getElem? (i := 417) (by decide +kernel), List.mem_of_getElem? (i := 418) (by decide +kernel)⟩
theorem lw_p5 : lw_okq (⟨"GoldHeaps$Play", "isWon", "()Z"⟩, 9) := ⟨⟨by decide +kernel, by decide +kernel⟩, List.mem_of_getElem? (i := 113) (by decide +kernel), List.mem_of_getElem? (i := 428) (by decide +kernel), List.mem_of_getElem? (i := 429) (by decide +kernel)⟩
theorem lw_p6 : lw_okq (⟨"GoldHeaps$Play", "addToHeaps", "(IJ)V"⟩, 9) := ⟨⟨by decide +kernel, by decide +kernel⟩, List.mem_of_getElem? (i := 113) (by decide +kernel), List.mem_of_getElem? (i := 437) (by decide +kernel), List.mem_of_getElem? (i := 438) (by decide +kernel)⟩
theorem lw_p7 : lw_okq (⟨"GoldHeaps$Play", "faults", "()I"⟩, 9) := ⟨⟨by decide +kernel, by decide +kernel⟩, List.mem_of_getElem? (i := 113) (by decide +kernel), List.mem_of_getElem? (i := 466) (by decide +kernel), List.mem_of_getElem? (i := 467) (by decide +kernel)⟩
theorem lw_p8 : lw_okq (⟨"GoldHeapsModel", "isBoth", "(JJ)Z"⟩, 18) := ⟨⟨by decide +kernel, by decide +kernel⟩, List.mem_of_getElem? (i := 477) (by decide +kernel), List.mem_of_getElem? (i := 562) (by decide +kernel), List.mem_of_getElem? (i := 563) (by decide +kernel)⟩
theorem lw_p9 : lw_okq (⟨"GoldHeapsModel", "lesser", "(J)J"⟩, 18) := ⟨⟨by decide +kernel, by decide +kernel⟩, List.mem_of_getElem? (i := 477) (by decide +kernel), List.mem_of_getElem? (i := 566) (by decide +kernel), List.mem_of_getElem? (i := 567) (by decide +kernel)⟩
theorem lw_p10 : lw_okq (⟨"GoldHeapsModel", "partner", "(J)J"⟩, 18) := ⟨⟨by decide +kernel, by decide +kernel⟩, List.mem_of_getElem? (i := 477) (by decide +kernel), List.mem_of_getElem? (i := 574) (by decide +kernel), List.mem_of_getElem? (i := 575) (by decide +kernel)⟩
theorem lw_p11 : lw_okq (⟨"GoldHeapsModel", "find", "(J)V"⟩, 18) := ⟨⟨by decide +kernel, by decide +kernel⟩, List.mem_of_getElem? (i := 477) (by decide +kernel), List.mem_of_getElem? (i := 578) (by decide +kernel), List.mem_of_getElem? (i := 579) (by decide +kernel)⟩
theorem lw_p12 : lw_okq (⟨"GoldHeapsModel", "findRow", "(I)V"⟩, 18) := ⟨⟨by decide +kernel, by decide +kernel⟩, List.mem_of_getElem? (i := 477) (by decide +kernel), List.mem_of_getElem? (i := 600) (by decide +kernel), List.mem_of_getElem? (i := 601) (by decide +kernel)⟩
theorem lw_p13 : lw_okq (⟨"GoldHeapsModel", "lastOf", "(IJ)J"⟩, 18) := ⟨⟨by decide +kernel, by decide +kernel⟩, List.mem_of_getElem? (i := 477) (by decide +kernel), List.mem_of_getElem? (i := 608) (by decide +kernel), List.mem_of_getElem? (i := 609) (by decide +kernel)⟩
theorem lw_p14 : lw_okq (⟨"GoldHeapsModel", "isTimes", "(IJJ)Z"⟩, 18) := ⟨⟨by decide +kernel, by decide +kernel⟩, List.mem_of_getElem? (i := 477) (by decide +kernel), List.mem_of_getElem? (i := 620) (by decide +kernel), List.mem_of_getElem? (i := 621) (by decide +kernel)⟩
theorem lw_p15 : lw_okq (⟨"GoldHeapsModel", "wonAt", "(IZII)Z"⟩, 18) := ⟨⟨by decide +kernel, by decide +kernel⟩, List.mem_of_getElem? (i := 477) (by decide +kernel), List.mem_of_getElem? (i := 633) (by decide +kernel), List.mem_of_getElem? (i := 634) (by decide +kernel)⟩
def lw_privs_1 : List (MethodName × Nat) := [(⟨"GoldHeaps$BothGame", "lesserLostAlong", "(JJ)J"⟩, 1), (⟨"GoldHeaps$Golden", "indexIfLesser", "(J)J"⟩, 1), (⟨"GoldHeaps$Play", "heapCount", "()I"⟩, 9), (⟨"GoldHeaps$Play", "takesFrom", "(II)Z"⟩, 9), (⟨"GoldHeaps$Play", "bound", "()J"⟩, 9), (⟨"GoldHeaps$Play", "isWon", "()Z"⟩, 9), (⟨"GoldHeaps$Play", "addToHeaps", "(IJ)V"⟩, 9), (⟨"GoldHeaps$Play", "faults", "()I"⟩, 9), (⟨"GoldHeapsModel", "isBoth", "(JJ)Z"⟩, 18), (⟨"GoldHeapsModel", "lesser", "(J)J"⟩, 18), (⟨"GoldHeapsModel", "partner", "(J)J"⟩, 18), (⟨"GoldHeapsModel", "find", "(J)V"⟩, 18), (⟨"GoldHeapsModel", "findRow", "(I)V"⟩, 18), (⟨"GoldHeapsModel", "lastOf", "(IJ)J"⟩, 18), (⟨"GoldHeapsModel", "isTimes", "(IJJ)Z"⟩, 18), (⟨"GoldHeapsModel", "wonAt", "(IZII)Z"⟩, 18)]
theorem lw_r1 : ∀ q ∈ lw_privs_1, lw_okq q := List.forall_mem_cons.mpr ⟨lw_p0, List.forall_mem_cons.mpr ⟨lw_p1, List.forall_mem_cons.mpr ⟨lw_p2, List.forall_mem_cons.mpr ⟨lw_p3, List.forall_mem_cons.mpr ⟨lw_p4, List.forall_mem_cons.mpr ⟨lw_p5, List.forall_mem_cons.mpr ⟨lw_p6, List.forall_mem_cons.mpr ⟨lw_p7, List.forall_mem_cons.mpr ⟨lw_p8, List.forall_mem_cons.mpr ⟨lw_p9, List.forall_mem_cons.mpr ⟨lw_p10, List.forall_mem_cons.mpr ⟨lw_p11, List.forall_mem_cons.mpr ⟨lw_p12, List.forall_mem_cons.mpr ⟨lw_p13, List.forall_mem_cons.mpr ⟨lw_p14, List.forall_mem_cons.mpr ⟨lw_p15, fun _ h => absurd h List.not_mem_nil⟩⟩⟩⟩⟩⟩⟩⟩⟩⟩⟩⟩⟩⟩⟩⟩
theorem lw_p16 : lw_okq (⟨"GoldHeapsModel", "goShares", "(IZII)Z"⟩, 18) := ⟨⟨by decide +kernel, by decide +kernel⟩, List.mem_of_getElem? (i := 477) (by decide +kernel), List.mem_of_getElem? (i := 637) (by decide +kernel), List.mem_of_getElem? (i := 638) (by decide +kernel)⟩
theorem lw_p17 : lw_okq (⟨"GoldHeapsModel", "goBoth", "(IZII)Z"⟩, 18) := ⟨⟨by decide +kernel, by decide +kernel⟩, List.mem_of_getElem? (i := 477) (by decide +kernel), List.mem_of_getElem? (i := 641) (by decide +kernel), List.mem_of_getElem? (i := 642) (by decide +kernel)⟩
theorem lw_p18 : lw_okq (⟨"GoldHeapsModel", "threeAt", "(ZIII)Z"⟩, 18) := ⟨⟨by decide +kernel, by decide +kernel⟩, List.mem_of_getElem? (i := 477) (by decide +kernel), List.mem_of_getElem? (i := 646) (by decide +kernel), List.mem_of_getElem? (i := 647) (by decide +kernel)⟩
theorem lw_p19 : lw_okq (⟨"GoldHeapsModel", "goThree", "(IZIII)Z"⟩, 18) := ⟨⟨by decide +kernel, by decide +kernel⟩, List.mem_of_getElem? (i := 477) (by decide +kernel), List.mem_of_getElem? (i := 650) (by decide +kernel), List.mem_of_getElem? (i := 651) (by decide +kernel)⟩
theorem lw_p20 : lw_okq (⟨"GoldHeapsModel", "mayMove", "(IJ)Z"⟩, 18) := ⟨⟨by decide +kernel, by decide +kernel⟩, List.mem_of_getElem? (i := 477) (by decide +kernel), List.mem_of_getElem? (i := 671) (by decide +kernel), List.mem_of_getElem? (i := 672) (by decide +kernel)⟩
theorem lw_p21 : lw_okq (⟨"GoldHeapsModel", "canMove", "()Z"⟩, 18) := ⟨⟨by decide +kernel, by decide +kernel⟩, List.mem_of_getElem? (i := 477) (by decide +kernel), List.mem_of_getElem? (i := 675) (by decide +kernel), List.mem_of_getElem? (i := 676) (by decide +kernel)⟩
theorem lw_p22 : lw_okq (⟨"GoldHeapsModel", "heap", "(I)J"⟩, 18) := ⟨⟨by decide +kernel, by decide +kernel⟩, List.mem_of_getElem? (i := 477) (by decide +kernel), List.mem_of_getElem? (i := 679) (by decide +kernel), List.mem_of_getElem? (i := 680) (by decide +kernel)⟩
theorem lw_p23 : lw_okq (⟨"GoldHeapsModel", "isWon", "()Z"⟩, 18) := ⟨⟨by decide +kernel, by decide +kernel⟩, List.mem_of_getElem? (i := 477) (by decide +kernel), List.mem_of_getElem? (i := 683) (by decide +kernel), List.mem_of_getElem? (i := 684) (by decide +kernel)⟩
def lw_privs_2 : List (MethodName × Nat) := [(⟨"GoldHeapsModel", "goShares", "(IZII)Z"⟩, 18), (⟨"GoldHeapsModel", "goBoth", "(IZII)Z"⟩, 18), (⟨"GoldHeapsModel", "threeAt", "(ZIII)Z"⟩, 18), (⟨"GoldHeapsModel", "goThree", "(IZIII)Z"⟩, 18), (⟨"GoldHeapsModel", "mayMove", "(IJ)Z"⟩, 18), (⟨"GoldHeapsModel", "canMove", "()Z"⟩, 18), (⟨"GoldHeapsModel", "heap", "(I)J"⟩, 18), (⟨"GoldHeapsModel", "isWon", "()Z"⟩, 18)]
theorem lw_r2 : ∀ q ∈ lw_privs_2, lw_okq q := List.forall_mem_cons.mpr ⟨lw_p16, List.forall_mem_cons.mpr ⟨lw_p17, List.forall_mem_cons.mpr ⟨lw_p18, List.forall_mem_cons.mpr ⟨lw_p19, List.forall_mem_cons.mpr ⟨lw_p20, List.forall_mem_cons.mpr ⟨lw_p21, List.forall_mem_cons.mpr ⟨lw_p22, List.forall_mem_cons.mpr ⟨lw_p23, fun _ h => absurd h List.not_mem_nil⟩⟩⟩⟩⟩⟩⟩⟩
def lw_privs : List (MethodName × Nat) := lw_privs_1 ++ (lw_privs_2)
def lw_tbl : List Cond := k2_sels lw_privs ++ tables_1
theorem lw_privs_ok : ∀ q ∈ lw_privs, lw_okq q := by
  show ∀ q ∈ lw_privs_1 ++ (lw_privs_2), lw_okq q
  exact List.forall_mem_append.mpr ⟨lw_r1, lw_r2⟩
end
section
/-! ===== BEGIN words of one list among another's, by their places ===== -/
theorem goodIn_r {big : List Cond} (ws : List Cond) (ps : List Nat) (hp : ws = ps.filterMap (fun i => big[i]?)) (h : ws.all goodWord = true) : GoodIn big ws := by
  intro w hw
  have h1 := List.all_eq_true.mp h w hw
  rw [hp] at hw
  obtain ⟨i, -, hi⟩ := List.mem_filterMap.mp hw
  have hm : w ∈ big := by first | exact List.mem_of_getElem? hi | exact List.getElem?_mem hi
  exact ⟨hm, good_of_word h1⟩
theorem goodIn_app {big a b : List Cond} (ha : GoodIn big a) (hb : GoodIn big b) : GoodIn big (a ++ b) := fun w h => (List.mem_append.mp h).elim (ha w) (hb w)
theorem goodIn_ca {big a b : List Cond} {c : Cond} (ha : GoodIn big (c :: a)) (hb : GoodIn big b) : GoodIn big (c :: (a ++ b)) := fun w h => (List.mem_cons.mp h).elim (fun e => ha w (List.mem_cons.mpr (Or.inl e))) (fun h => (List.mem_append.mp h).elim (fun h => ha w (List.mem_cons.mpr (Or.inr h))) (hb w))
theorem goodIn_sub {big ws : List Cond} (hm : ∀ w ∈ ws, w ∈ big) (h : ws.all goodWord = true) : GoodIn big ws := fun w hw => ⟨hm w hw, good_of_word (List.all_eq_true.mp h w hw)⟩
/-! ===== END ===== -/

/-! ===== BEGIN printed: names, fields, word lists, decode rows ===== -/
def RX0 : String := "GoldHeaps$BothGame"
def TX0 : u_T := fun k => match k with
  | _ => ("GoldHeaps$BothGame", "golden", "LGoldHeaps$Golden;", true)
def tyX0 : Nat → FieldType := fun k => match k with
  | _ => .object "GoldHeaps$Golden"
abbrev wsX00 : List Cond := u_ws RX0 TX0 1
theorem nmX0 : ∀ a, a < 1 → ∀ b, b < 1 → a ≠ b → (TX0 a).2.1 ≠ (TX0 b).2.1 := by decide +kernel
theorem tyX0_ok : ∀ k, k < 1 → parseFieldDescriptor (TX0 k).2.2.1 = some (tyX0 k) := by decide +kernel
abbrev cX0_init : ByteArray := prog_2_method_1_code
def yX0_init : MethodName := ⟨RX0, "<init>", "(LGoldHeaps$Golden;)V"⟩
abbrev cX0_isWon : ByteArray := prog_2_method_2_code
def yX0_isWon : MethodName := ⟨RX0, "isWon", "(JJ)Z"⟩
abbrev cX0_whichWins : ByteArray := prog_2_method_3_code
def yX0_whichWins : MethodName := ⟨RX0, "whichWins", "(JJ)I"⟩
abbrev cX0_howMany : ByteArray := prog_2_method_4_code
def yX0_howMany : MethodName := ⟨RX0, "howMany", "(JJI)J"⟩
abbrev cX0_lesserLostAlong : ByteArray := prog_2_method_5_code
def yX0_lesserLostAlong : MethodName := ⟨RX0, "lesserLostAlong", "(JJ)J"⟩
def RX1 : String := "GoldHeaps$Golden"
def TX1 : u_T := fun k => match k with
  | _ => ("GoldHeaps$Golden", "fibonacci", "LGoldHeaps$Sums;", true)
def tyX1 : Nat → FieldType := fun k => match k with
  | _ => .object "GoldHeaps$Sums"
abbrev wsX10 : List Cond := u_ws RX1 TX1 1
theorem nmX1 : ∀ a, a < 1 → ∀ b, b < 1 → a ≠ b → (TX1 a).2.1 ≠ (TX1 b).2.1 := by decide +kernel
theorem tyX1_ok : ∀ k, k < 1 → parseFieldDescriptor (TX1 k).2.2.1 = some (tyX1 k) := by decide +kernel
abbrev cX1_init : ByteArray := prog_3_method_1_code
def yX1_init : MethodName := ⟨RX1, "<init>", "(LGoldHeaps$Sums;)V"⟩
abbrev cX1_cut : ByteArray := prog_3_method_2_code
def yX1_cut : MethodName := ⟨RX1, "cut", "(J)J"⟩
abbrev cX1_isLesser : ByteArray := prog_3_method_3_code
def yX1_isLesser : MethodName := ⟨RX1, "isLesser", "(J)Z"⟩
abbrev cX1_indexOf : ByteArray := prog_3_method_4_code
def yX1_indexOf : MethodName := ⟨RX1, "indexOf", "(J)J"⟩
abbrev cX1_partnerOf : ByteArray := prog_3_method_5_code
def yX1_partnerOf : MethodName := ⟨RX1, "partnerOf", "(J)J"⟩
abbrev cX1_indexIfLesser : ByteArray := prog_3_method_6_code
def yX1_indexIfLesser : MethodName := ⟨RX1, "indexIfLesser", "(J)J"⟩
def RX2 : String := "GoldHeaps$Judge"
def TX2 : u_T := fun k => match k with
  | 0 => ("GoldHeaps$Judge", "timesGame", "LGoldHeaps$TimesGame;", true)
  | 1 => ("GoldHeaps$Judge", "golden", "LGoldHeaps$Golden;", true)
  | 2 => ("GoldHeaps$Judge", "sharesGame", "LGoldHeaps$SharesGame;", true)
  | 3 => ("GoldHeaps$Judge", "bothGame", "LGoldHeaps$BothGame;", true)
  | _ => ("GoldHeaps$Judge", "tablesMade", "[LGoldHeaps$LostTable;", true)
def tyX2 : Nat → FieldType := fun k => match k with
  | 0 => .object "GoldHeaps$TimesGame"
  | 1 => .object "GoldHeaps$Golden"
  | 2 => .object "GoldHeaps$SharesGame"
  | 3 => .object "GoldHeaps$BothGame"
  | _ => .array (.object "GoldHeaps$LostTable")
abbrev wsX20 : List Cond := u_ws RX2 TX2 5
theorem nmX2 : ∀ a, a < 5 → ∀ b, b < 5 → a ≠ b → (TX2 a).2.1 ≠ (TX2 b).2.1 := by decide +kernel
theorem tyX2_ok : ∀ k, k < 5 → parseFieldDescriptor (TX2 k).2.2.1 = some (tyX2 k) := by decide +kernel
abbrev cX2_init : ByteArray := prog_4_method_1_code
def yX2_init : MethodName := ⟨RX2, "<init>", "()V"⟩
abbrev cX2_tableOf : ByteArray := prog_4_method_2_code
def yX2_tableOf : MethodName := ⟨RX2, "tableOf", "(IZ)LGoldHeaps$LostTable;"⟩
def RX3 : String := "GoldHeaps$LostTable"
def TX3 : u_T := fun k => match k with
  | 0 => ("GoldHeaps$LostTable", "ofThree", "Z", true)
  | _ => ("GoldHeaps$LostTable", "lines", "[J", true)
def tyX3 : Nat → FieldType := fun k => match k with
  | 0 => .boolean
  | _ => .array .long
abbrev wsX30 : List Cond := u_ws RX3 TX3 2
theorem nmX3 : ∀ a, a < 2 → ∀ b, b < 2 → a ≠ b → (TX3 a).2.1 ≠ (TX3 b).2.1 := by decide +kernel
theorem tyX3_ok : ∀ k, k < 2 → parseFieldDescriptor (TX3 k).2.2.1 = some (tyX3 k) := by decide +kernel
abbrev cX3_init : ByteArray := prog_5_method_1_code
def yX3_init : MethodName := ⟨RX3, "<init>", "(IZ)V"⟩
abbrev cX3_has : ByteArray := prog_5_method_2_code
def yX3_has : MethodName := ⟨RX3, "has", "(III)Z"⟩
abbrev cX3_countUpTo : ByteArray := prog_5_method_3_code
def yX3_countUpTo : MethodName := ⟨RX3, "countUpTo", "(I)I"⟩
abbrev cX3_fillShares : ByteArray := prog_5_method_4_code
def yX3_fillShares : MethodName := ⟨RX3, "fillShares", "([JZ)V"⟩
abbrev cX3_sharesReach : ByteArray := prog_5_method_5_code
def yX3_sharesReach : MethodName := ⟨RX3, "sharesReach", "(JII)Z"⟩
abbrev cX3_fillBoth : ByteArray := prog_5_method_6_code
def yX3_fillBoth : MethodName := ⟨RX3, "fillBoth", "([JZ)V"⟩
abbrev cX3_fillThree : ByteArray := prog_5_method_7_code
def yX3_fillThree : MethodName := ⟨RX3, "fillThree", "([JZ)V"⟩
abbrev cX3_wonByTaking : ByteArray := prog_5_method_8_code
def yX3_wonByTaking : MethodName := ⟨RX3, "wonByTaking", "([JII)J"⟩
abbrev cX3_lostInLine : ByteArray := prog_5_method_9_code
def yX3_lostInLine : MethodName := ⟨RX3, "lostInLine", "(JIZ)J"⟩
def RX4 : String := "GoldHeaps$Play"
def TX4 : u_T := fun k => match k with
  | 0 => ("GoldHeaps$Play", "judge", "LGoldHeaps$Judge;", true)
  | 1 => ("GoldHeaps$Play", "heaps", "[J", true)
  | 2 => ("GoldHeaps$Play", "whichMoved", "[I", true)
  | 3 => ("GoldHeaps$Play", "manyTaken", "[J", true)
  | 4 => ("GoldHeaps$Play", "wasFault", "[Z", true)
  | 5 => ("GoldHeaps$Play", "game", "I", false)
  | 6 => ("GoldHeaps$Play", "misere", "Z", false)
  | 7 => ("GoldHeaps$Play", "t", "I", false)
  | _ => ("GoldHeaps$Play", "made", "I", false)
def tyX4 : Nat → FieldType := fun k => match k with
  | 0 => .object "GoldHeaps$Judge"
  | 1 => .array .long
  | 2 => .array .int
  | 3 => .array .long
  | 4 => .array .boolean
  | 5 => .int
  | 6 => .boolean
  | 7 => .int
  | _ => .int
abbrev wsX40 : List Cond := u_ws RX4 TX4 9
theorem nmX4 : ∀ a, a < 9 → ∀ b, b < 9 → a ≠ b → (TX4 a).2.1 ≠ (TX4 b).2.1 := by decide +kernel
theorem tyX4_ok : ∀ k, k < 9 → parseFieldDescriptor (TX4 k).2.2.1 = some (tyX4 k) := by decide +kernel
abbrev cX4_init : ByteArray := prog_6_method_1_code
def yX4_init : MethodName := ⟨RX4, "<init>", "(LGoldHeaps$Judge;)V"⟩
abbrev cX4_begin : ByteArray := prog_6_method_2_code
def yX4_begin : MethodName := ⟨RX4, "begin", "(IZJJJ)V"⟩
abbrev cX4_movesMade : ByteArray := prog_6_method_3_code
def yX4_movesMade : MethodName := ⟨RX4, "movesMade", "()I"⟩
abbrev cX4_ways : ByteArray := prog_6_method_4_code
def yX4_ways : MethodName := ⟨RX4, "ways", "()I"⟩
abbrev cX4_mayTake : ByteArray := prog_6_method_5_code
def yX4_mayTake : MethodName := ⟨RX4, "mayTake", "(IJ)Z"⟩
abbrev cX4_take : ByteArray := prog_6_method_6_code
def yX4_take : MethodName := ⟨RX4, "take", "(IJ)V"⟩
abbrev cX4_takeBack : ByteArray := prog_6_method_7_code
def yX4_takeBack : MethodName := ⟨RX4, "takeBack", "()Z"⟩
abbrev cX4_isOver : ByteArray := prog_6_method_8_code
def yX4_isOver : MethodName := ⟨RX4, "isOver", "()Z"⟩
abbrev cX4_tell : ByteArray := prog_6_method_9_code
def yX4_tell : MethodName := ⟨RX4, "tell", "(I)J"⟩
abbrev cX4_heapCount : ByteArray := prog_6_method_10_code
def yX4_heapCount : MethodName := ⟨RX4, "heapCount", "()I"⟩
abbrev cX4_takesFrom : ByteArray := prog_6_method_11_code
def yX4_takesFrom : MethodName := ⟨RX4, "takesFrom", "(II)Z"⟩
abbrev cX4_addToHeaps : ByteArray := prog_6_method_12_code
def yX4_addToHeaps : MethodName := ⟨RX4, "addToHeaps", "(IJ)V"⟩
abbrev cX4_bound : ByteArray := prog_6_method_13_code
def yX4_bound : MethodName := ⟨RX4, "bound", "()J"⟩
abbrev cX4_isWon : ByteArray := prog_6_method_14_code
def yX4_isWon : MethodName := ⟨RX4, "isWon", "()Z"⟩
abbrev cX4_faults : ByteArray := prog_6_method_15_code
def yX4_faults : MethodName := ⟨RX4, "faults", "()I"⟩
def RX5 : String := "GoldHeaps$SharesGame"
def TX5 : u_T := fun k => match k with
  | _ => ("GoldHeaps$SharesGame", "golden", "LGoldHeaps$Golden;", true)
def tyX5 : Nat → FieldType := fun k => match k with
  | _ => .object "GoldHeaps$Golden"
abbrev wsX50 : List Cond := u_ws RX5 TX5 1
theorem nmX5 : ∀ a, a < 1 → ∀ b, b < 1 → a ≠ b → (TX5 a).2.1 ≠ (TX5 b).2.1 := by decide +kernel
theorem tyX5_ok : ∀ k, k < 1 → parseFieldDescriptor (TX5 k).2.2.1 = some (tyX5 k) := by decide +kernel
abbrev cX5_init : ByteArray := prog_7_method_1_code
def yX5_init : MethodName := ⟨RX5, "<init>", "(LGoldHeaps$Golden;)V"⟩
abbrev cX5_isWon : ByteArray := prog_7_method_2_code
def yX5_isWon : MethodName := ⟨RX5, "isWon", "(JJ)Z"⟩
abbrev cX5_leastTimes : ByteArray := prog_7_method_3_code
def yX5_leastTimes : MethodName := ⟨RX5, "leastTimes", "(JJ)J"⟩
def RX6 : String := "GoldHeaps$Sums"
def TX6 : u_T := fun k => match k with
  | 0 => ("GoldHeaps$Sums", "numbers", "[J", true)
  | _ => ("GoldHeaps$Sums", "size", "I", true)
def tyX6 : Nat → FieldType := fun k => match k with
  | 0 => .array .long
  | _ => .int
abbrev wsX60 : List Cond := u_ws RX6 TX6 2
theorem nmX6 : ∀ a, a < 2 → ∀ b, b < 2 → a ≠ b → (TX6 a).2.1 ≠ (TX6 b).2.1 := by decide +kernel
theorem tyX6_ok : ∀ k, k < 2 → parseFieldDescriptor (TX6 k).2.2.1 = some (tyX6 k) := by decide +kernel
abbrev cX6_init : ByteArray := prog_8_method_1_code
def yX6_init : MethodName := ⟨RX6, "<init>", "(I)V"⟩
abbrev cX6_numberAt : ByteArray := prog_8_method_2_code
def yX6_numberAt : MethodName := ⟨RX6, "numberAt", "(I)J"⟩
abbrev cX6_countOf : ByteArray := prog_8_method_3_code
def yX6_countOf : MethodName := ⟨RX6, "countOf", "(J)I"⟩
abbrev cX6_endOf : ByteArray := prog_8_method_4_code
def yX6_endOf : MethodName := ⟨RX6, "endOf", "(J)J"⟩
abbrev cX6_raised : ByteArray := prog_8_method_5_code
def yX6_raised : MethodName := ⟨RX6, "raised", "(J)J"⟩
def RX7 : String := "GoldHeaps$TimesGame"
def TX7 : u_T := fun k => match k with
  | _ => ("GoldHeaps$TimesGame", "sumsMade", "[LGoldHeaps$Sums;", true)
def tyX7 : Nat → FieldType := fun k => match k with
  | _ => .array (.object "GoldHeaps$Sums")
abbrev wsX70 : List Cond := u_ws RX7 TX7 1
theorem nmX7 : ∀ a, a < 1 → ∀ b, b < 1 → a ≠ b → (TX7 a).2.1 ≠ (TX7 b).2.1 := by decide +kernel
theorem tyX7_ok : ∀ k, k < 1 → parseFieldDescriptor (TX7 k).2.2.1 = some (tyX7 k) := by decide +kernel
abbrev cX7_init : ByteArray := prog_9_method_1_code
def yX7_init : MethodName := ⟨RX7, "<init>", "()V"⟩
abbrev cX7_sumsBy : ByteArray := prog_9_method_2_code
def yX7_sumsBy : MethodName := ⟨RX7, "sumsBy", "(I)LGoldHeaps$Sums;"⟩
abbrev cX7_isWon : ByteArray := prog_9_method_3_code
def yX7_isWon : MethodName := ⟨RX7, "isWon", "(IJJ)Z"⟩
abbrev cX7_leastTaken : ByteArray := prog_9_method_4_code
def yX7_leastTaken : MethodName := ⟨RX7, "leastTaken", "(IJJ)J"⟩
abbrev cX7_isWonByAll : ByteArray := prog_9_method_5_code
def yX7_isWonByAll : MethodName := ⟨RX7, "isWonByAll", "(III)Z"⟩
def RX8 : String := "GoldHeaps"
def TX8 : u_T := fun k => match k with
  | 0 => ("GoldHeaps", "judge", "LGoldHeaps$Judge;", true)
  | _ => ("GoldHeaps", "play", "LGoldHeaps$Play;", true)
def tyX8 : Nat → FieldType := fun k => match k with
  | 0 => .object "GoldHeaps$Judge"
  | _ => .object "GoldHeaps$Play"
abbrev wsX80 : List Cond := u_ws RX8 TX8 2
theorem nmX8 : ∀ a, a < 2 → ∀ b, b < 2 → a ≠ b → (TX8 a).2.1 ≠ (TX8 b).2.1 := by decide +kernel
theorem tyX8_ok : ∀ k, k < 2 → parseFieldDescriptor (TX8 k).2.2.1 = some (tyX8 k) := by decide +kernel
abbrev cX8_init : ByteArray := prog_1_method_1_code
def yX8_init : MethodName := ⟨RX8, "<init>", "()V"⟩
abbrev cX8_shares : ByteArray := prog_1_method_2_code
def yX8_shares : MethodName := ⟨RX8, "shares", "(JJ)I"⟩
abbrev cX8_sharesMove : ByteArray := prog_1_method_3_code
def yX8_sharesMove : MethodName := ⟨RX8, "sharesMove", "(JJ)J"⟩
abbrev cX8_both : ByteArray := prog_1_method_4_code
def yX8_both : MethodName := ⟨RX8, "both", "(JJ)I"⟩
abbrev cX8_bothMove : ByteArray := prog_1_method_5_code
def yX8_bothMove : MethodName := ⟨RX8, "bothMove", "(JJI)J"⟩
abbrev cX8_lost : ByteArray := prog_1_method_6_code
def yX8_lost : MethodName := ⟨RX8, "lost", "(JI)J"⟩
abbrev cX8_lostOf : ByteArray := prog_1_method_7_code
def yX8_lostOf : MethodName := ⟨RX8, "lostOf", "(JI)J"⟩
abbrev cX8_row : ByteArray := prog_1_method_8_code
def yX8_row : MethodName := ⟨RX8, "row", "(II)J"⟩
abbrev cX8_digits : ByteArray := prog_1_method_9_code
def yX8_digits : MethodName := ⟨RX8, "digits", "(IJ)I"⟩
abbrev cX8_last : ByteArray := prog_1_method_10_code
def yX8_last : MethodName := ⟨RX8, "last", "(IJ)J"⟩
abbrev cX8_times : ByteArray := prog_1_method_11_code
def yX8_times : MethodName := ⟨RX8, "times", "(IJJ)I"⟩
abbrev cX8_timesMove : ByteArray := prog_1_method_12_code
def yX8_timesMove : MethodName := ⟨RX8, "timesMove", "(IJJ)J"⟩
abbrev cX8_byAll : ByteArray := prog_1_method_13_code
def yX8_byAll : MethodName := ⟨RX8, "byAll", "(IZIII)I"⟩
abbrev cX8_lostUpTo : ByteArray := prog_1_method_14_code
def yX8_lostUpTo : MethodName := ⟨RX8, "lostUpTo", "(IZI)I"⟩
abbrev cX8_timesByAll : ByteArray := prog_1_method_15_code
def yX8_timesByAll : MethodName := ⟨RX8, "timesByAll", "(III)I"⟩
abbrev cX8_board : ByteArray := prog_1_method_16_code
def yX8_board : MethodName := ⟨RX8, "board", "(IZJJJ)I"⟩
abbrev cX8_move : ByteArray := prog_1_method_17_code
def yX8_move : MethodName := ⟨RX8, "move", "(IJ)I"⟩
abbrev cX8_undo : ByteArray := prog_1_method_18_code
def yX8_undo : MethodName := ⟨RX8, "undo", "()I"⟩
abbrev cX8_about : ByteArray := prog_1_method_19_code
def yX8_about : MethodName := ⟨RX8, "about", "(I)J"⟩
abbrev cX8_digest : ByteArray := prog_1_method_20_code
def yX8_digest : MethodName := ⟨RX8, "digest", "()J"⟩
abbrev cX8_isWithin : ByteArray := prog_1_method_21_code
def yX8_isWithin : MethodName := ⟨RX8, "isWithin", "(JJJ)Z"⟩
abbrev cX8_isHeap : ByteArray := prog_1_method_22_code
def yX8_isHeap : MethodName := ⟨RX8, "isHeap", "(J)Z"⟩
abbrev cX8_isFactor : ByteArray := prog_1_method_23_code
def yX8_isFactor : MethodName := ⟨RX8, "isFactor", "(J)Z"⟩
abbrev cX8_mostByAll : ByteArray := prog_1_method_24_code
def yX8_mostByAll : MethodName := ⟨RX8, "mostByAll", "(I)I"⟩
abbrev cX8_areHeapsOf : ByteArray := prog_1_method_25_code
def yX8_areHeapsOf : MethodName := ⟨RX8, "areHeapsOf", "(IZJJJ)Z"⟩
abbrev cX8_oneIf : ByteArray := prog_1_method_26_code
def yX8_oneIf : MethodName := ⟨RX8, "oneIf", "(Z)I"⟩
def RX9 : String := "GoldHeapsModel"
def TX9 : u_T := fun k => match k with
  | 0 => ("GoldHeapsModel", "fib", "[J", true)
  | 1 => ("GoldHeapsModel", "row", "[J", true)
  | 2 => ("GoldHeapsModel", "rowMany", "I", false)
  | 3 => ("GoldHeapsModel", "won", "[Z", true)
  | 4 => ("GoldHeapsModel", "isOver", "[Z", true)
  | 5 => ("GoldHeapsModel", "three", "[Z", true)
  | 6 => ("GoldHeapsModel", "isThree", "[Z", true)
  | 7 => ("GoldHeapsModel", "timed", "[Z", true)
  | 8 => ("GoldHeapsModel", "game", "I", false)
  | 9 => ("GoldHeapsModel", "misere", "Z", false)
  | 10 => ("GoldHeapsModel", "t", "I", false)
  | 11 => ("GoldHeapsModel", "moves", "I", false)
  | 12 => ("GoldHeapsModel", "heaps", "[J", true)
  | 13 => ("GoldHeapsModel", "bounds", "[J", true)
  | 14 => ("GoldHeapsModel", "faults", "[I", true)
  | 15 => ("GoldHeapsModel", "foundK", "J", false)
  | 16 => ("GoldHeapsModel", "foundLesser", "Z", false)
  | _ => ("GoldHeapsModel", "digitMany", "I", false)
def tyX9 : Nat → FieldType := fun k => match k with
  | 0 => .array .long
  | 1 => .array .long
  | 2 => .int
  | 3 => .array .boolean
  | 4 => .array .boolean
  | 5 => .array .boolean
  | 6 => .array .boolean
  | 7 => .array .boolean
  | 8 => .int
  | 9 => .boolean
  | 10 => .int
  | 11 => .int
  | 12 => .array .long
  | 13 => .array .long
  | 14 => .array .int
  | 15 => .long
  | 16 => .boolean
  | _ => .int
abbrev wsX90 : List Cond := u_ws RX9 TX9 18
theorem nmX9 : ∀ a, a < 18 → ∀ b, b < 18 → a ≠ b → (TX9 a).2.1 ≠ (TX9 b).2.1 := by decide +kernel
theorem tyX9_ok : ∀ k, k < 18 → parseFieldDescriptor (TX9 k).2.2.1 = some (tyX9 k) := by decide +kernel
abbrev cX9_init : ByteArray := prog_11_method_1_code
def yX9_init : MethodName := ⟨RX9, "<init>", "()V"⟩
abbrev cX9_in : ByteArray := prog_11_method_3_code
def yX9_in : MethodName := ⟨RX9, "in", "(JJJ)Z"⟩
abbrev cX9_isHeap : ByteArray := prog_11_method_4_code
def yX9_isHeap : MethodName := ⟨RX9, "isHeap", "(J)Z"⟩
abbrev cX9_isShares : ByteArray := prog_11_method_5_code
def yX9_isShares : MethodName := ⟨RX9, "isShares", "(JJ)Z"⟩
abbrev cX9_shares : ByteArray := prog_11_method_6_code
def yX9_shares : MethodName := ⟨RX9, "shares", "(JJ)I"⟩
abbrev cX9_sharesMove : ByteArray := prog_11_method_7_code
def yX9_sharesMove : MethodName := ⟨RX9, "sharesMove", "(JJ)J"⟩
abbrev cX9_lesser : ByteArray := prog_11_method_8_code
def yX9_lesser : MethodName := ⟨RX9, "lesser", "(J)J"⟩
abbrev cX9_isBoth : ByteArray := prog_11_method_9_code
def yX9_isBoth : MethodName := ⟨RX9, "isBoth", "(JJ)Z"⟩
abbrev cX9_both : ByteArray := prog_11_method_10_code
def yX9_both : MethodName := ⟨RX9, "both", "(JJ)I"⟩
abbrev cX9_find : ByteArray := prog_11_method_11_code
def yX9_find : MethodName := ⟨RX9, "find", "(J)V"⟩
abbrev cX9_partner : ByteArray := prog_11_method_12_code
def yX9_partner : MethodName := ⟨RX9, "partner", "(J)J"⟩
abbrev cX9_bothMove : ByteArray := prog_11_method_13_code
def yX9_bothMove : MethodName := ⟨RX9, "bothMove", "(JJI)J"⟩
abbrev cX9_lost : ByteArray := prog_11_method_14_code
def yX9_lost : MethodName := ⟨RX9, "lost", "(JI)J"⟩
abbrev cX9_lostOf : ByteArray := prog_11_method_15_code
def yX9_lostOf : MethodName := ⟨RX9, "lostOf", "(JI)J"⟩
abbrev cX9_findRow : ByteArray := prog_11_method_16_code
def yX9_findRow : MethodName := ⟨RX9, "findRow", "(I)V"⟩
abbrev cX9_isBy : ByteArray := prog_11_method_17_code
def yX9_isBy : MethodName := ⟨RX9, "isBy", "(I)Z"⟩
abbrev cX9_row : ByteArray := prog_11_method_18_code
def yX9_row : MethodName := ⟨RX9, "row", "(II)J"⟩
abbrev cX9_lastOf : ByteArray := prog_11_method_19_code
def yX9_lastOf : MethodName := ⟨RX9, "lastOf", "(IJ)J"⟩
abbrev cX9_digits : ByteArray := prog_11_method_20_code
def yX9_digits : MethodName := ⟨RX9, "digits", "(IJ)I"⟩
abbrev cX9_last : ByteArray := prog_11_method_21_code
def yX9_last : MethodName := ⟨RX9, "last", "(IJ)J"⟩
abbrev cX9_isTimes : ByteArray := prog_11_method_22_code
def yX9_isTimes : MethodName := ⟨RX9, "isTimes", "(IJJ)Z"⟩
abbrev cX9_times : ByteArray := prog_11_method_23_code
def yX9_times : MethodName := ⟨RX9, "times", "(IJJ)I"⟩
abbrev cX9_timesMove : ByteArray := prog_11_method_24_code
def yX9_timesMove : MethodName := ⟨RX9, "timesMove", "(IJJ)J"⟩
abbrev cX9_wonAt : ByteArray := prog_11_method_25_code
def yX9_wonAt : MethodName := ⟨RX9, "wonAt", "(IZII)Z"⟩
abbrev cX9_goShares : ByteArray := prog_11_method_26_code
def yX9_goShares : MethodName := ⟨RX9, "goShares", "(IZII)Z"⟩
abbrev cX9_goBoth : ByteArray := prog_11_method_27_code
def yX9_goBoth : MethodName := ⟨RX9, "goBoth", "(IZII)Z"⟩
abbrev cX9_threeAt : ByteArray := prog_11_method_28_code
def yX9_threeAt : MethodName := ⟨RX9, "threeAt", "(ZIII)Z"⟩
abbrev cX9_goThree : ByteArray := prog_11_method_29_code
def yX9_goThree : MethodName := ⟨RX9, "goThree", "(IZIII)Z"⟩
abbrev cX9_byAll : ByteArray := prog_11_method_30_code
def yX9_byAll : MethodName := ⟨RX9, "byAll", "(IZIII)I"⟩
abbrev cX9_lostUpTo : ByteArray := prog_11_method_31_code
def yX9_lostUpTo : MethodName := ⟨RX9, "lostUpTo", "(IZI)I"⟩
abbrev cX9_timesByAll : ByteArray := prog_11_method_32_code
def yX9_timesByAll : MethodName := ⟨RX9, "timesByAll", "(III)I"⟩
abbrev cX9_board : ByteArray := prog_11_method_33_code
def yX9_board : MethodName := ⟨RX9, "board", "(IZJJJ)I"⟩
abbrev cX9_heap : ByteArray := prog_11_method_34_code
def yX9_heap : MethodName := ⟨RX9, "heap", "(I)J"⟩
abbrev cX9_canMove : ByteArray := prog_11_method_35_code
def yX9_canMove : MethodName := ⟨RX9, "canMove", "()Z"⟩
abbrev cX9_isWon : ByteArray := prog_11_method_36_code
def yX9_isWon : MethodName := ⟨RX9, "isWon", "()Z"⟩
abbrev cX9_mayMove : ByteArray := prog_11_method_37_code
def yX9_mayMove : MethodName := ⟨RX9, "mayMove", "(IJ)Z"⟩
abbrev cX9_move : ByteArray := prog_11_method_38_code
def yX9_move : MethodName := ⟨RX9, "move", "(IJ)I"⟩
abbrev cX9_undo : ByteArray := prog_11_method_39_code
def yX9_undo : MethodName := ⟨RX9, "undo", "()I"⟩
abbrev cX9_about : ByteArray := prog_11_method_40_code
def yX9_about : MethodName := ⟨RX9, "about", "(I)J"⟩
abbrev cX9_digest : ByteArray := prog_11_method_41_code
def yX9_digest : MethodName := ⟨RX9, "digest", "()J"⟩
def RJ13 : String := "java/lang/Long"
def TJ13 : u_T := fun k => match k with
  | _ => ("", "", "", false)
def tyJ13 : Nat → FieldType := fun k => match k with
  | _ => .int
abbrev wsJ130 : List Cond := u_ws RJ13 TJ13 0
theorem nmJ13 : ∀ a, a < 0 → ∀ b, b < 0 → a ≠ b → (TJ13 a).2.1 ≠ (TJ13 b).2.1 := by decide +kernel
theorem tyJ13_ok : ∀ k, k < 0 → parseFieldDescriptor (TJ13 k).2.2.1 = some (tyJ13 k) := by decide +kernel
abbrev cJ13_bitCount_95d88 : ByteArray := prog_12_method_50_code
def yJ13_bitCount_95d88 : MethodName := ⟨RJ13, "bitCount", "(J)I"⟩
def RJ9 : String := "java/lang/Math"
def TJ9 : u_T := fun k => match k with
  | _ => ("", "", "", false)
def tyJ9 : Nat → FieldType := fun k => match k with
  | _ => .int
abbrev wsJ90 : List Cond := u_ws RJ9 TJ9 0
theorem nmJ9 : ∀ a, a < 0 → ∀ b, b < 0 → a ≠ b → (TJ9 a).2.1 ≠ (TJ9 b).2.1 := by decide +kernel
theorem tyJ9_ok : ∀ k, k < 0 → parseFieldDescriptor (TJ9 k).2.2.1 = some (tyJ9 k) := by decide +kernel
abbrev cJ9_abs_067f4 : ByteArray := prog_13_method_61_code
def yJ9_abs_067f4 : MethodName := ⟨RJ9, "abs", "(J)J"⟩
abbrev cJ9_max_7cf53 : ByteArray := prog_13_method_65_code
def yJ9_max_7cf53 : MethodName := ⟨RJ9, "max", "(II)I"⟩
abbrev cJ9_max_f86c9 : ByteArray := prog_13_method_66_code
def yJ9_max_f86c9 : MethodName := ⟨RJ9, "max", "(JJ)J"⟩
abbrev cJ9_min_7cf53 : ByteArray := prog_13_method_69_code
def yJ9_min_7cf53 : MethodName := ⟨RJ9, "min", "(II)I"⟩
abbrev cJ9_min_f86c9 : ByteArray := prog_13_method_70_code
def yJ9_min_f86c9 : MethodName := ⟨RJ9, "min", "(JJ)J"⟩
def RL : String := "GoldHeapsLaw"
abbrev cL_law : ByteArray := code
def yL_law : MethodName := ⟨RL, "law", "([I)Z"⟩
def wsX0_init : List Cond := .code yX0_init cX0_init 2 none :: ([.methodLink RX0 3 objectInit, .instanceMethod objectInit, .code objectInit ⟨#[0xb1]⟩ 1 none, .fieldLink RX0 9 "GoldHeaps$BothGame" "golden" "LGoldHeaps$Golden;"] ++ wsX00)
def wsX6_raised : List Cond := .code yX6_raised cX6_raised 8 (some .long) :: ([.fieldLink RX6 17 "GoldHeaps$Sums" "size" "I", .fieldLink RX6 11 "GoldHeaps$Sums" "numbers" "[J"] ++ wsX60)
def wsX1_cut : List Cond := .code yX1_cut cX1_cut 3 (some .long) :: ([.fieldLink RX1 7 "GoldHeaps$Golden" "fibonacci" "LGoldHeaps$Sums;", .methodLink RX1 13 yX6_raised, .instanceMethod yX6_raised, .selects RX6 yX6_raised yX6_raised, .initialized RX6, .code yX6_raised cX6_raised 8 (some .long), .fieldLink RX6 17 "GoldHeaps$Sums" "size" "I", .fieldLink RX6 11 "GoldHeaps$Sums" "numbers" "[J"] ++ wsX10 ++ wsX60)
def wsX0_lesserLostAlong : List Cond := .code yX0_lesserLostAlong cX0_lesserLostAlong 5 (some .long) :: ([.fieldLink RX0 9 "GoldHeaps$BothGame" "golden" "LGoldHeaps$Golden;", .methodLink RX0 30 Lib.MathLoose.abs_long.x, .static Lib.MathLoose.abs_long.x, .initialized "java/lang/Math", .code Lib.MathLoose.abs_long.x Lib.MathLoose.abs_long.code 2 (some .long), .methodLink RX0 33 yX1_cut, .instanceMethod yX1_cut, .selects RX1 yX1_cut yX1_cut, .initialized RX1, .code yX1_cut cX1_cut 3 (some .long), .fieldLink RX1 7 "GoldHeaps$Golden" "fibonacci" "LGoldHeaps$Sums;", .methodLink RX1 13 yX6_raised, .instanceMethod yX6_raised, .selects RX6 yX6_raised yX6_raised, .initialized RX6, .code yX6_raised cX6_raised 8 (some .long), .fieldLink RX6 17 "GoldHeaps$Sums" "size" "I", .fieldLink RX6 11 "GoldHeaps$Sums" "numbers" "[J"] ++ wsX00 ++ wsX10 ++ wsX60)
def wsX0_isWon_r1 : List Cond := [Cond.methodLink RX0 19 Lib.MathLoose.min_long.x, Cond.static Lib.MathLoose.min_long.x, Cond.initialized "java/lang/Math", Cond.code Lib.MathLoose.min_long.x Lib.MathLoose.min_long.code 4 (some .long), Cond.methodLink RX0 15 yX0_lesserLostAlong, Cond.instanceMethod yX0_lesserLostAlong, Cond.selects RX0 yX0_lesserLostAlong yX0_lesserLostAlong, Cond.initialized RX0, Cond.code yX0_lesserLostAlong cX0_lesserLostAlong 5 (some .long), Cond.fieldLink RX0 9 "GoldHeaps$BothGame" "golden" "LGoldHeaps$Golden;", Cond.methodLink RX0 30 Lib.MathLoose.abs_long.x, Cond.static Lib.MathLoose.abs_long.x, Cond.code Lib.MathLoose.abs_long.x Lib.MathLoose.abs_long.code 2 (some .long), Cond.methodLink RX0 33 yX1_cut, Cond.instanceMethod yX1_cut, Cond.selects RX1 yX1_cut yX1_cut, Cond.initialized RX1, Cond.code yX1_cut cX1_cut 3 (some .long), Cond.fieldLink RX1 7 "GoldHeaps$Golden" "fibonacci" "LGoldHeaps$Sums;", Cond.methodLink RX1 13 yX6_raised, Cond.instanceMethod yX6_raised, Cond.selects RX6 yX6_raised yX6_raised, Cond.initialized RX6, Cond.code yX6_raised cX6_raised 8 (some .long)]
def wsX0_isWon_r2 : List Cond := [Cond.fieldLink RX6 17 "GoldHeaps$Sums" "size" "I", Cond.fieldLink RX6 11 "GoldHeaps$Sums" "numbers" "[J"]
def wsX0_isWon : List Cond := .code yX0_isWon cX0_isWon 5 (some .boolean) :: ((wsX0_isWon_r1 ++ wsX0_isWon_r2) ++ wsX00 ++ wsX10 ++ wsX60)
def wsX1_indexIfLesser : List Cond := .code yX1_indexIfLesser cX1_indexIfLesser 3 (some .long) :: ([.methodLink RX1 22 yX1_cut, .instanceMethod yX1_cut, .selects RX1 yX1_cut yX1_cut, .initialized RX1, .code yX1_cut cX1_cut 3 (some .long), .fieldLink RX1 7 "GoldHeaps$Golden" "fibonacci" "LGoldHeaps$Sums;", .methodLink RX1 13 yX6_raised, .instanceMethod yX6_raised, .selects RX6 yX6_raised yX6_raised, .initialized RX6, .code yX6_raised cX6_raised 8 (some .long), .fieldLink RX6 17 "GoldHeaps$Sums" "size" "I", .fieldLink RX6 11 "GoldHeaps$Sums" "numbers" "[J"] ++ wsX10 ++ wsX60)
def wsX1_isLesser : List Cond := .code yX1_isLesser cX1_isLesser 3 (some .boolean) :: ([.methodLink RX1 19 yX1_indexIfLesser, .instanceMethod yX1_indexIfLesser, .selects RX1 yX1_indexIfLesser yX1_indexIfLesser, .initialized RX1, .code yX1_indexIfLesser cX1_indexIfLesser 3 (some .long), .methodLink RX1 22 yX1_cut, .instanceMethod yX1_cut, .selects RX1 yX1_cut yX1_cut, .code yX1_cut cX1_cut 3 (some .long), .fieldLink RX1 7 "GoldHeaps$Golden" "fibonacci" "LGoldHeaps$Sums;", .methodLink RX1 13 yX6_raised, .instanceMethod yX6_raised, .selects RX6 yX6_raised yX6_raised, .initialized RX6, .code yX6_raised cX6_raised 8 (some .long), .fieldLink RX6 17 "GoldHeaps$Sums" "size" "I", .fieldLink RX6 11 "GoldHeaps$Sums" "numbers" "[J"] ++ wsX10 ++ wsX60)
def wsX1_partnerOf : List Cond := .code yX1_partnerOf cX1_partnerOf 3 (some .long) :: ([.methodLink RX1 25 yX1_isLesser, .instanceMethod yX1_isLesser, .selects RX1 yX1_isLesser yX1_isLesser, .initialized RX1, .code yX1_isLesser cX1_isLesser 3 (some .boolean), .methodLink RX1 19 yX1_indexIfLesser, .instanceMethod yX1_indexIfLesser, .selects RX1 yX1_indexIfLesser yX1_indexIfLesser, .code yX1_indexIfLesser cX1_indexIfLesser 3 (some .long), .methodLink RX1 22 yX1_cut, .instanceMethod yX1_cut, .selects RX1 yX1_cut yX1_cut, .code yX1_cut cX1_cut 3 (some .long), .fieldLink RX1 7 "GoldHeaps$Golden" "fibonacci" "LGoldHeaps$Sums;", .methodLink RX1 13 yX6_raised, .instanceMethod yX6_raised, .selects RX6 yX6_raised yX6_raised, .initialized RX6, .code yX6_raised cX6_raised 8 (some .long), .fieldLink RX6 17 "GoldHeaps$Sums" "size" "I", .fieldLink RX6 11 "GoldHeaps$Sums" "numbers" "[J"] ++ wsX10 ++ wsX60)
def wsX0_whichWins_r1 : List Cond := [Cond.fieldLink RX0 9 "GoldHeaps$BothGame" "golden" "LGoldHeaps$Golden;", Cond.methodLink RX0 19 Lib.MathLoose.min_long.x, Cond.static Lib.MathLoose.min_long.x, Cond.initialized "java/lang/Math", Cond.code Lib.MathLoose.min_long.x Lib.MathLoose.min_long.code 4 (some .long), Cond.methodLink RX0 24 yX1_partnerOf, Cond.instanceMethod yX1_partnerOf, Cond.selects RX1 yX1_partnerOf yX1_partnerOf, Cond.initialized RX1, Cond.code yX1_partnerOf cX1_partnerOf 3 (some .long), Cond.methodLink RX1 25 yX1_isLesser, Cond.instanceMethod yX1_isLesser, Cond.selects RX1 yX1_isLesser yX1_isLesser, Cond.code yX1_isLesser cX1_isLesser 3 (some .boolean), Cond.methodLink RX1 19 yX1_indexIfLesser, Cond.instanceMethod yX1_indexIfLesser, Cond.selects RX1 yX1_indexIfLesser yX1_indexIfLesser, Cond.code yX1_indexIfLesser cX1_indexIfLesser 3 (some .long), Cond.methodLink RX1 22 yX1_cut, Cond.instanceMethod yX1_cut, Cond.selects RX1 yX1_cut yX1_cut, Cond.code yX1_cut cX1_cut 3 (some .long), Cond.fieldLink RX1 7 "GoldHeaps$Golden" "fibonacci" "LGoldHeaps$Sums;", Cond.methodLink RX1 13 yX6_raised]
def wsX0_whichWins_r2 : List Cond := [Cond.instanceMethod yX6_raised, Cond.selects RX6 yX6_raised yX6_raised, Cond.initialized RX6, Cond.code yX6_raised cX6_raised 8 (some .long), Cond.fieldLink RX6 17 "GoldHeaps$Sums" "size" "I", Cond.fieldLink RX6 11 "GoldHeaps$Sums" "numbers" "[J", Cond.methodLink RX0 15 yX0_lesserLostAlong, Cond.instanceMethod yX0_lesserLostAlong, Cond.selects RX0 yX0_lesserLostAlong yX0_lesserLostAlong, Cond.initialized RX0, Cond.code yX0_lesserLostAlong cX0_lesserLostAlong 5 (some .long), Cond.methodLink RX0 30 Lib.MathLoose.abs_long.x, Cond.static Lib.MathLoose.abs_long.x, Cond.code Lib.MathLoose.abs_long.x Lib.MathLoose.abs_long.code 2 (some .long), Cond.methodLink RX0 33 yX1_cut]
def wsX0_whichWins : List Cond := .code yX0_whichWins cX0_whichWins 5 (some .int) :: ((wsX0_whichWins_r1 ++ wsX0_whichWins_r2) ++ wsX00 ++ wsX10 ++ wsX60)
def wsX0_howMany_r1 : List Cond := [Cond.fieldLink RX0 9 "GoldHeaps$BothGame" "golden" "LGoldHeaps$Golden;", Cond.methodLink RX0 19 Lib.MathLoose.min_long.x, Cond.static Lib.MathLoose.min_long.x, Cond.initialized "java/lang/Math", Cond.code Lib.MathLoose.min_long.x Lib.MathLoose.min_long.code 4 (some .long), Cond.methodLink RX0 24 yX1_partnerOf, Cond.instanceMethod yX1_partnerOf, Cond.selects RX1 yX1_partnerOf yX1_partnerOf, Cond.initialized RX1, Cond.code yX1_partnerOf cX1_partnerOf 3 (some .long), Cond.methodLink RX1 25 yX1_isLesser, Cond.instanceMethod yX1_isLesser, Cond.selects RX1 yX1_isLesser yX1_isLesser, Cond.code yX1_isLesser cX1_isLesser 3 (some .boolean), Cond.methodLink RX1 19 yX1_indexIfLesser, Cond.instanceMethod yX1_indexIfLesser, Cond.selects RX1 yX1_indexIfLesser yX1_indexIfLesser, Cond.code yX1_indexIfLesser cX1_indexIfLesser 3 (some .long), Cond.methodLink RX1 22 yX1_cut, Cond.instanceMethod yX1_cut, Cond.selects RX1 yX1_cut yX1_cut, Cond.code yX1_cut cX1_cut 3 (some .long), Cond.fieldLink RX1 7 "GoldHeaps$Golden" "fibonacci" "LGoldHeaps$Sums;", Cond.methodLink RX1 13 yX6_raised]
def wsX0_howMany_r2 : List Cond := [Cond.instanceMethod yX6_raised, Cond.selects RX6 yX6_raised yX6_raised, Cond.initialized RX6, Cond.code yX6_raised cX6_raised 8 (some .long), Cond.fieldLink RX6 17 "GoldHeaps$Sums" "size" "I", Cond.fieldLink RX6 11 "GoldHeaps$Sums" "numbers" "[J", Cond.methodLink RX0 15 yX0_lesserLostAlong, Cond.instanceMethod yX0_lesserLostAlong, Cond.selects RX0 yX0_lesserLostAlong yX0_lesserLostAlong, Cond.initialized RX0, Cond.code yX0_lesserLostAlong cX0_lesserLostAlong 5 (some .long), Cond.methodLink RX0 30 Lib.MathLoose.abs_long.x, Cond.static Lib.MathLoose.abs_long.x, Cond.code Lib.MathLoose.abs_long.x Lib.MathLoose.abs_long.code 2 (some .long), Cond.methodLink RX0 33 yX1_cut]
def wsX0_howMany : List Cond := .code yX0_howMany cX0_howMany 6 (some .long) :: ((wsX0_howMany_r1 ++ wsX0_howMany_r2) ++ wsX00 ++ wsX10 ++ wsX60)
def wsX1_init : List Cond := .code yX1_init cX1_init 2 none :: ([.methodLink RX1 1 objectInit, .instanceMethod objectInit, .code objectInit ⟨#[0xb1]⟩ 1 none, .fieldLink RX1 7 "GoldHeaps$Golden" "fibonacci" "LGoldHeaps$Sums;"] ++ wsX10)
def wsX1_indexOf : List Cond := .code yX1_indexOf cX1_indexOf 3 (some .long) :: ([.constantLong RX1 29 (2), .methodLink RX1 25 yX1_isLesser, .instanceMethod yX1_isLesser, .selects RX1 yX1_isLesser yX1_isLesser, .initialized RX1, .code yX1_isLesser cX1_isLesser 3 (some .boolean), .methodLink RX1 19 yX1_indexIfLesser, .instanceMethod yX1_indexIfLesser, .selects RX1 yX1_indexIfLesser yX1_indexIfLesser, .code yX1_indexIfLesser cX1_indexIfLesser 3 (some .long), .methodLink RX1 22 yX1_cut, .instanceMethod yX1_cut, .selects RX1 yX1_cut yX1_cut, .code yX1_cut cX1_cut 3 (some .long), .fieldLink RX1 7 "GoldHeaps$Golden" "fibonacci" "LGoldHeaps$Sums;", .methodLink RX1 13 yX6_raised, .instanceMethod yX6_raised, .selects RX6 yX6_raised yX6_raised, .initialized RX6, .code yX6_raised cX6_raised 8 (some .long), .fieldLink RX6 17 "GoldHeaps$Sums" "size" "I", .fieldLink RX6 11 "GoldHeaps$Sums" "numbers" "[J"] ++ wsX10 ++ wsX60)
def wsX7_init : List Cond := .code yX7_init cX7_init 1 none :: ([.methodLink RX7 3 objectInit, .instanceMethod objectInit, .code objectInit ⟨#[0xb1]⟩ 1 none, .classLink RX7 9 RX6, .fieldLink RX7 11 "GoldHeaps$TimesGame" "sumsMade" "[LGoldHeaps$Sums;"] ++ wsX70)
def wsX6_init : List Cond := .code yX6_init cX6_init 6 none :: ([.methodLink RX6 3 objectInit, .instanceMethod objectInit, .code objectInit ⟨#[0xb1]⟩ 1 none, .arrayClass .long, .fieldLink RX6 11 "GoldHeaps$Sums" "numbers" "[J", .constantLong RX6 15 (1000000000000), .fieldLink RX6 17 "GoldHeaps$Sums" "size" "I"] ++ wsX60)
def wsX7_sumsBy : List Cond := .code yX7_sumsBy cX7_sumsBy 4 (some (.object "GoldHeaps$Sums")) :: ([.fieldLink RX7 11 "GoldHeaps$TimesGame" "sumsMade" "[LGoldHeaps$Sums;", .classLink RX7 9 RX6, .instantiable RX6 2, .initialized RX6, .methodLink RX7 17 yX6_init, .instanceMethod yX6_init, .code yX6_init cX6_init 6 none, .methodLink RX6 3 objectInit, .instanceMethod objectInit, .code objectInit ⟨#[0xb1]⟩ 1 none, .arrayClass .long, .fieldLink RX6 11 "GoldHeaps$Sums" "numbers" "[J", .constantLong RX6 15 (1000000000000), .fieldLink RX6 17 "GoldHeaps$Sums" "size" "I"] ++ wsX70 ++ wsX60)
def wsX5_init : List Cond := .code yX5_init cX5_init 2 none :: ([.methodLink RX5 1 objectInit, .instanceMethod objectInit, .code objectInit ⟨#[0xb1]⟩ 1 none, .fieldLink RX5 7 "GoldHeaps$SharesGame" "golden" "LGoldHeaps$Golden;"] ++ wsX50)
def wsX2_init_r1 : List Cond := [Cond.methodLink RX2 3 objectInit, Cond.instanceMethod objectInit, Cond.code objectInit ⟨#[0xb1]⟩ 1 none, Cond.classLink RX2 9 RX3, Cond.fieldLink RX2 11 "GoldHeaps$Judge" "tablesMade" "[LGoldHeaps$LostTable;", Cond.classLink RX2 17 RX7, Cond.instantiable RX7 1, Cond.initialized RX7, Cond.fieldLink RX2 20 "GoldHeaps$Judge" "timesGame" "LGoldHeaps$TimesGame;", Cond.classLink RX2 24 RX1, Cond.instantiable RX1 1, Cond.initialized RX1, Cond.fieldLink RX2 33 "GoldHeaps$Judge" "golden" "LGoldHeaps$Golden;", Cond.classLink RX2 37 RX5, Cond.instantiable RX5 1, Cond.initialized RX5, Cond.fieldLink RX2 42 "GoldHeaps$Judge" "sharesGame" "LGoldHeaps$SharesGame;", Cond.classLink RX2 46 RX0, Cond.instantiable RX0 1, Cond.initialized RX0, Cond.fieldLink RX2 49 "GoldHeaps$Judge" "bothGame" "LGoldHeaps$BothGame;", Cond.instanceMethod yX7_init, Cond.code yX7_init cX7_init 1 none, Cond.methodLink RX7 3 objectInit]
def wsX2_init_r2 : List Cond := [Cond.classLink RX7 9 RX6, Cond.fieldLink RX7 11 "GoldHeaps$TimesGame" "sumsMade" "[LGoldHeaps$Sums;", Cond.methodLink RX2 26 yX7_sumsBy, Cond.instanceMethod yX7_sumsBy, Cond.selects RX7 yX7_sumsBy yX7_sumsBy, Cond.code yX7_sumsBy cX7_sumsBy 4 (some (.object "GoldHeaps$Sums")), Cond.instantiable RX6 2, Cond.initialized RX6, Cond.methodLink RX7 17 yX6_init, Cond.instanceMethod yX6_init, Cond.code yX6_init cX6_init 6 none, Cond.methodLink RX6 3 objectInit, Cond.arrayClass .long, Cond.fieldLink RX6 11 "GoldHeaps$Sums" "numbers" "[J", Cond.constantLong RX6 15 (1000000000000), Cond.fieldLink RX6 17 "GoldHeaps$Sums" "size" "I", Cond.methodLink RX2 30 yX1_init, Cond.instanceMethod yX1_init, Cond.code yX1_init cX1_init 2 none, Cond.methodLink RX1 1 objectInit, Cond.fieldLink RX1 7 "GoldHeaps$Golden" "fibonacci" "LGoldHeaps$Sums;", Cond.methodLink RX2 39 yX5_init, Cond.instanceMethod yX5_init, Cond.code yX5_init cX5_init 2 none]
def wsX2_init_r3 : List Cond := [Cond.methodLink RX5 1 objectInit, Cond.fieldLink RX5 7 "GoldHeaps$SharesGame" "golden" "LGoldHeaps$Golden;", Cond.methodLink RX2 48 yX0_init, Cond.instanceMethod yX0_init, Cond.code yX0_init cX0_init 2 none, Cond.methodLink RX0 3 objectInit, Cond.fieldLink RX0 9 "GoldHeaps$BothGame" "golden" "LGoldHeaps$Golden;"]
def wsX2_init : List Cond := .code yX2_init cX2_init 1 none :: ((wsX2_init_r1 ++ (wsX2_init_r2 ++ wsX2_init_r3)) ++ wsX20 ++ wsX70 ++ wsX10 ++ wsX50 ++ wsX00 ++ wsX60)
def wsX8_isWithin : List Cond := .code yX8_isWithin cX8_isWithin 6 (some .boolean) :: ([])
def wsX8_oneIf : List Cond := .code yX8_oneIf cX8_oneIf 1 (some .int) :: ([])
def wsX3_wonByTaking : List Cond := .code yX3_wonByTaking cX3_wonByTaking 7 (some .long) :: ([])
def wsX3_lostInLine : List Cond := .code yX3_lostInLine cX3_lostInLine 8 (some .long) :: ([.constantLong RX3 56 (-1)])
def wsX3_fillThree : List Cond := .code yX3_fillThree cX3_fillThree 5 none :: ([.methodLink RX3 52 yX3_wonByTaking, .static yX3_wonByTaking, .initialized RX3, .code yX3_wonByTaking cX3_wonByTaking 7 (some .long), .methodLink RX3 48 yX3_lostInLine, .static yX3_lostInLine, .code yX3_lostInLine cX3_lostInLine 8 (some .long), .constantLong RX3 56 (-1)])
def wsX3_fillBoth : List Cond := .code yX3_fillBoth cX3_fillBoth 7 none :: ([.methodLink RX3 48 yX3_lostInLine, .static yX3_lostInLine, .initialized RX3, .code yX3_lostInLine cX3_lostInLine 8 (some .long), .constantLong RX3 56 (-1)])
def wsX3_sharesReach : List Cond := .code yX3_sharesReach cX3_sharesReach 5 (some .boolean) :: ([])
def wsX3_fillShares : List Cond := .code yX3_fillShares cX3_fillShares 6 none :: ([.methodLink RX3 35 Lib.Math.min.name, .static Lib.Math.min.name, .initialized "java/lang/Math", .code Lib.Math.min.name Lib.Math.min.code 2 (some .int), .methodLink RX3 41 Lib.Math.max.name, .static Lib.Math.max.name, .code Lib.Math.max.name Lib.Math.max.code 2 (some .int), .methodLink RX3 44 yX3_sharesReach, .static yX3_sharesReach, .initialized RX3, .code yX3_sharesReach cX3_sharesReach 5 (some .boolean)])
def wsX3_init_r1 : List Cond := [Cond.methodLink RX3 3 objectInit, Cond.instanceMethod objectInit, Cond.code objectInit ⟨#[0xb1]⟩ 1 none, Cond.fieldLink RX3 9 "GoldHeaps$LostTable" "ofThree" "Z", Cond.arrayClass .long, Cond.fieldLink RX3 15 "GoldHeaps$LostTable" "lines" "[J", Cond.methodLink RX3 19 yX3_fillThree, Cond.static yX3_fillThree, Cond.initialized RX3, Cond.code yX3_fillThree cX3_fillThree 5 none, Cond.methodLink RX3 52 yX3_wonByTaking, Cond.static yX3_wonByTaking, Cond.code yX3_wonByTaking cX3_wonByTaking 7 (some .long), Cond.methodLink RX3 48 yX3_lostInLine, Cond.static yX3_lostInLine, Cond.code yX3_lostInLine cX3_lostInLine 8 (some .long), Cond.constantLong RX3 56 (-1), Cond.methodLink RX3 23 yX3_fillBoth, Cond.static yX3_fillBoth, Cond.code yX3_fillBoth cX3_fillBoth 7 none, Cond.methodLink RX3 26 yX3_fillShares, Cond.static yX3_fillShares, Cond.code yX3_fillShares cX3_fillShares 6 none, Cond.methodLink RX3 35 Lib.Math.min.name]
def wsX3_init_r2 : List Cond := [Cond.static Lib.Math.min.name, Cond.initialized "java/lang/Math", Cond.code Lib.Math.min.name Lib.Math.min.code 2 (some .int), Cond.methodLink RX3 41 Lib.Math.max.name, Cond.static Lib.Math.max.name, Cond.code Lib.Math.max.name Lib.Math.max.code 2 (some .int), Cond.methodLink RX3 44 yX3_sharesReach, Cond.static yX3_sharesReach, Cond.code yX3_sharesReach cX3_sharesReach 5 (some .boolean)]
def wsX3_init : List Cond := .code yX3_init cX3_init 3 none :: ((wsX3_init_r1 ++ wsX3_init_r2) ++ wsX30)
def wsX2_tableOf_r1 : List Cond := [Cond.constantLong RX2 53 (3), Cond.fieldLink RX2 11 "GoldHeaps$Judge" "tablesMade" "[LGoldHeaps$LostTable;", Cond.classLink RX2 9 RX3, Cond.instantiable RX3 2, Cond.initialized RX3, Cond.static yX8_isWithin, Cond.initialized RX8, Cond.code yX8_isWithin cX8_isWithin 6 (some .boolean), Cond.static yX8_oneIf, Cond.code yX8_oneIf cX8_oneIf 1 (some .int), Cond.methodLink RX2 63 yX3_init, Cond.instanceMethod yX3_init, Cond.code yX3_init cX3_init 3 none, Cond.methodLink RX3 3 objectInit, Cond.instanceMethod objectInit, Cond.code objectInit ⟨#[0xb1]⟩ 1 none, Cond.fieldLink RX3 9 "GoldHeaps$LostTable" "ofThree" "Z", Cond.arrayClass .long, Cond.fieldLink RX3 15 "GoldHeaps$LostTable" "lines" "[J", Cond.methodLink RX3 19 yX3_fillThree, Cond.static yX3_fillThree, Cond.code yX3_fillThree cX3_fillThree 5 none, Cond.methodLink RX3 52 yX3_wonByTaking, Cond.static yX3_wonByTaking]
def wsX2_tableOf_r2 : List Cond := [Cond.code yX3_wonByTaking cX3_wonByTaking 7 (some .long), Cond.methodLink RX3 48 yX3_lostInLine, Cond.static yX3_lostInLine, Cond.code yX3_lostInLine cX3_lostInLine 8 (some .long), Cond.constantLong RX3 56 (-1), Cond.methodLink RX3 23 yX3_fillBoth, Cond.static yX3_fillBoth, Cond.code yX3_fillBoth cX3_fillBoth 7 none, Cond.methodLink RX3 26 yX3_fillShares, Cond.static yX3_fillShares, Cond.code yX3_fillShares cX3_fillShares 6 none, Cond.methodLink RX3 35 Lib.Math.min.name, Cond.static Lib.Math.min.name, Cond.initialized "java/lang/Math", Cond.code Lib.Math.min.name Lib.Math.min.code 2 (some .int), Cond.methodLink RX3 41 Lib.Math.max.name, Cond.static Lib.Math.max.name, Cond.code Lib.Math.max.name Lib.Math.max.code 2 (some .int), Cond.methodLink RX3 44 yX3_sharesReach, Cond.static yX3_sharesReach, Cond.code yX3_sharesReach cX3_sharesReach 5 (some .boolean)]
def wsX2_tableOf : List Cond := .code yX2_tableOf cX2_tableOf 5 (some (.object "GoldHeaps$LostTable")) :: ((wsX2_tableOf_r1 ++ wsX2_tableOf_r2) ++ wsX20 ++ wsX30)
def wsX3_has : List Cond := .code yX3_has cX3_has 6 (some .boolean) :: ([.fieldLink RX3 9 "GoldHeaps$LostTable" "ofThree" "Z", .fieldLink RX3 15 "GoldHeaps$LostTable" "lines" "[J"] ++ wsX30)
def wsJ13_bitCount_95d88 : List Cond := .code yJ13_bitCount_95d88 cJ13_bitCount_95d88 2 (some .int) :: ([.constantLong RJ13 314 (6148914691236517205), .constantLong RJ13 316 (3689348814741910323), .constantLong RJ13 318 (1085102592571150095)])
def wsX3_countUpTo : List Cond := .code yX3_countUpTo cX3_countUpTo 8 (some .int) :: ([.fieldLink RX3 15 "GoldHeaps$LostTable" "lines" "[J", .fieldLink RX3 9 "GoldHeaps$LostTable" "ofThree" "Z", .methodLink RX3 29 yJ13_bitCount_95d88, .static yJ13_bitCount_95d88, .initialized RJ13, .code yJ13_bitCount_95d88 cJ13_bitCount_95d88 2 (some .int), .constantLong RJ13 314 (6148914691236517205), .constantLong RJ13 316 (3689348814741910323), .constantLong RJ13 318 (1085102592571150095)] ++ wsX30)
def wsX4_init : List Cond := .code yX4_init cX4_init 2 none :: ([.methodLink RX4 3 objectInit, .instanceMethod objectInit, .code objectInit ⟨#[0xb1]⟩ 1 none, .arrayClass .long, .fieldLink RX4 11 "GoldHeaps$Play" "heaps" "[J", .arrayClass .int, .fieldLink RX4 15 "GoldHeaps$Play" "whichMoved" "[I", .fieldLink RX4 19 "GoldHeaps$Play" "manyTaken" "[J", .arrayClass .boolean, .fieldLink RX4 22 "GoldHeaps$Play" "wasFault" "[Z", .fieldLink RX4 26 "GoldHeaps$Play" "game" "I", .fieldLink RX4 30 "GoldHeaps$Play" "judge" "LGoldHeaps$Judge;"] ++ wsX40)
def wsX4_begin : List Cond := .code yX4_begin cX4_begin 9 none :: ([.fieldLink RX4 26 "GoldHeaps$Play" "game" "I", .fieldLink RX4 34 "GoldHeaps$Play" "misere" "Z", .fieldLink RX4 38 "GoldHeaps$Play" "t" "I", .fieldLink RX4 11 "GoldHeaps$Play" "heaps" "[J", .fieldLink RX4 41 "GoldHeaps$Play" "made" "I"] ++ wsX40)
def wsX4_movesMade : List Cond := .code yX4_movesMade cX4_movesMade 1 (some .int) :: ([.fieldLink RX4 41 "GoldHeaps$Play" "made" "I"] ++ wsX40)
def wsX4_heapCount : List Cond := .code yX4_heapCount cX4_heapCount 1 (some .int) :: ([.fieldLink RX4 26 "GoldHeaps$Play" "game" "I"] ++ wsX40)
def wsX4_ways : List Cond := .code yX4_ways cX4_ways 1 (some .int) :: ([.fieldLink RX4 26 "GoldHeaps$Play" "game" "I", .methodLink RX4 44 yX4_heapCount, .instanceMethod yX4_heapCount, .selects RX4 yX4_heapCount yX4_heapCount, .initialized RX4, .code yX4_heapCount cX4_heapCount 1 (some .int)] ++ wsX40)
def wsX4_takesFrom : List Cond := .code yX4_takesFrom cX4_takesFrom 3 (some .boolean) :: ([.methodLink RX4 44 yX4_heapCount, .instanceMethod yX4_heapCount, .selects RX4 yX4_heapCount yX4_heapCount, .initialized RX4, .code yX4_heapCount cX4_heapCount 1 (some .int), .fieldLink RX4 26 "GoldHeaps$Play" "game" "I"] ++ wsX40)
def wsX4_bound : List Cond := .code yX4_bound cX4_bound 1 (some .long) :: ([.fieldLink RX4 26 "GoldHeaps$Play" "game" "I", .fieldLink RX4 41 "GoldHeaps$Play" "made" "I", .fieldLink RX4 11 "GoldHeaps$Play" "heaps" "[J", .methodLink RX4 73 Lib.MathLoose.max_long.x, .static Lib.MathLoose.max_long.x, .initialized "java/lang/Math", .code Lib.MathLoose.max_long.x Lib.MathLoose.max_long.code 4 (some .long), .constantLong RX4 79 (1000000000000), .fieldLink RX4 38 "GoldHeaps$Play" "t" "I", .fieldLink RX4 19 "GoldHeaps$Play" "manyTaken" "[J", .methodLink RX4 81 Lib.MathLoose.min_long.x, .static Lib.MathLoose.min_long.x, .code Lib.MathLoose.min_long.x Lib.MathLoose.min_long.code 4 (some .long)] ++ wsX40)
def wsX4_mayTake_r1 : List Cond := [Cond.fieldLink RX4 41 "GoldHeaps$Play" "made" "I", Cond.fieldLink RX4 11 "GoldHeaps$Play" "heaps" "[J", Cond.fieldLink RX4 26 "GoldHeaps$Play" "game" "I", Cond.methodLink RX4 44 yX4_heapCount, Cond.instanceMethod yX4_heapCount, Cond.selects RX4 yX4_heapCount yX4_heapCount, Cond.initialized RX4, Cond.code yX4_heapCount cX4_heapCount 1 (some .int), Cond.methodLink RX4 48 yX4_takesFrom, Cond.instanceMethod yX4_takesFrom, Cond.selects RX4 yX4_takesFrom yX4_takesFrom, Cond.code yX4_takesFrom cX4_takesFrom 3 (some .boolean), Cond.methodLink RX4 52 yX4_bound, Cond.instanceMethod yX4_bound, Cond.selects RX4 yX4_bound yX4_bound, Cond.code yX4_bound cX4_bound 1 (some .long), Cond.methodLink RX4 73 Lib.MathLoose.max_long.x, Cond.static Lib.MathLoose.max_long.x, Cond.initialized "java/lang/Math", Cond.code Lib.MathLoose.max_long.x Lib.MathLoose.max_long.code 4 (some .long), Cond.constantLong RX4 79 (1000000000000), Cond.fieldLink RX4 38 "GoldHeaps$Play" "t" "I", Cond.fieldLink RX4 19 "GoldHeaps$Play" "manyTaken" "[J", Cond.methodLink RX4 81 Lib.MathLoose.min_long.x]
def wsX4_mayTake_r2 : List Cond := [Cond.static Lib.MathLoose.min_long.x, Cond.code Lib.MathLoose.min_long.x Lib.MathLoose.min_long.code 4 (some .long)]
def wsX4_mayTake : List Cond := .code yX4_mayTake cX4_mayTake 6 (some .boolean) :: ((wsX4_mayTake_r1 ++ wsX4_mayTake_r2) ++ wsX40)
def wsX6_endOf : List Cond := .code yX6_endOf cX6_endOf 8 (some .long) :: ([.fieldLink RX6 17 "GoldHeaps$Sums" "size" "I", .fieldLink RX6 11 "GoldHeaps$Sums" "numbers" "[J"] ++ wsX60)
def wsX7_leastTaken : List Cond := .code yX7_leastTaken cX7_leastTaken 8 (some .long) :: ([.methodLink RX7 24 yX7_sumsBy, .instanceMethod yX7_sumsBy, .selects RX7 yX7_sumsBy yX7_sumsBy, .initialized RX7, .code yX7_sumsBy cX7_sumsBy 4 (some (.object "GoldHeaps$Sums")), .fieldLink RX7 11 "GoldHeaps$TimesGame" "sumsMade" "[LGoldHeaps$Sums;", .classLink RX7 9 RX6, .instantiable RX6 2, .initialized RX6, .methodLink RX7 17 yX6_init, .instanceMethod yX6_init, .code yX6_init cX6_init 6 none, .methodLink RX6 3 objectInit, .instanceMethod objectInit, .code objectInit ⟨#[0xb1]⟩ 1 none, .arrayClass .long, .fieldLink RX6 11 "GoldHeaps$Sums" "numbers" "[J", .constantLong RX6 15 (1000000000000), .fieldLink RX6 17 "GoldHeaps$Sums" "size" "I", .methodLink RX7 28 yX6_endOf, .instanceMethod yX6_endOf, .selects RX6 yX6_endOf yX6_endOf, .code yX6_endOf cX6_endOf 8 (some .long)] ++ wsX70 ++ wsX60)
def wsX7_isWon_r1 : List Cond := [Cond.methodLink RX7 20 yX7_leastTaken, Cond.instanceMethod yX7_leastTaken, Cond.selects RX7 yX7_leastTaken yX7_leastTaken, Cond.initialized RX7, Cond.code yX7_leastTaken cX7_leastTaken 8 (some .long), Cond.methodLink RX7 24 yX7_sumsBy, Cond.instanceMethod yX7_sumsBy, Cond.selects RX7 yX7_sumsBy yX7_sumsBy, Cond.code yX7_sumsBy cX7_sumsBy 4 (some (.object "GoldHeaps$Sums")), Cond.fieldLink RX7 11 "GoldHeaps$TimesGame" "sumsMade" "[LGoldHeaps$Sums;", Cond.classLink RX7 9 RX6, Cond.instantiable RX6 2, Cond.initialized RX6, Cond.methodLink RX7 17 yX6_init, Cond.instanceMethod yX6_init, Cond.code yX6_init cX6_init 6 none, Cond.methodLink RX6 3 objectInit, Cond.instanceMethod objectInit, Cond.code objectInit ⟨#[0xb1]⟩ 1 none, Cond.arrayClass .long, Cond.fieldLink RX6 11 "GoldHeaps$Sums" "numbers" "[J", Cond.constantLong RX6 15 (1000000000000), Cond.fieldLink RX6 17 "GoldHeaps$Sums" "size" "I", Cond.methodLink RX7 28 yX6_endOf]
def wsX7_isWon_r2 : List Cond := [Cond.instanceMethod yX6_endOf, Cond.selects RX6 yX6_endOf yX6_endOf, Cond.code yX6_endOf cX6_endOf 8 (some .long)]
def wsX7_isWon : List Cond := .code yX7_isWon cX7_isWon 6 (some .boolean) :: ((wsX7_isWon_r1 ++ wsX7_isWon_r2) ++ wsX70 ++ wsX60)
def wsX5_isWon : List Cond := .code yX5_isWon cX5_isWon 9 (some .boolean) :: ([.methodLink RX5 13 Lib.MathLoose.max_long.x, .static Lib.MathLoose.max_long.x, .initialized "java/lang/Math", .code Lib.MathLoose.max_long.x Lib.MathLoose.max_long.code 4 (some .long), .methodLink RX5 19 Lib.MathLoose.min_long.x, .static Lib.MathLoose.min_long.x, .code Lib.MathLoose.min_long.x Lib.MathLoose.min_long.code 4 (some .long), .fieldLink RX5 7 "GoldHeaps$SharesGame" "golden" "LGoldHeaps$Golden;", .methodLink RX5 22 yX1_cut, .instanceMethod yX1_cut, .selects RX1 yX1_cut yX1_cut, .initialized RX1, .code yX1_cut cX1_cut 3 (some .long), .fieldLink RX1 7 "GoldHeaps$Golden" "fibonacci" "LGoldHeaps$Sums;", .methodLink RX1 13 yX6_raised, .instanceMethod yX6_raised, .selects RX6 yX6_raised yX6_raised, .initialized RX6, .code yX6_raised cX6_raised 8 (some .long), .fieldLink RX6 17 "GoldHeaps$Sums" "size" "I", .fieldLink RX6 11 "GoldHeaps$Sums" "numbers" "[J"] ++ wsX50 ++ wsX10 ++ wsX60)
def wsX4_isWon_r1 : List Cond := [Cond.fieldLink RX4 26 "GoldHeaps$Play" "game" "I", Cond.fieldLink RX4 30 "GoldHeaps$Play" "judge" "LGoldHeaps$Judge;", Cond.fieldLink RX4 38 "GoldHeaps$Play" "t" "I", Cond.fieldLink RX4 11 "GoldHeaps$Play" "heaps" "[J", Cond.fieldLink RX4 34 "GoldHeaps$Play" "misere" "Z", Cond.methodLink RX4 52 yX4_bound, Cond.instanceMethod yX4_bound, Cond.selects RX4 yX4_bound yX4_bound, Cond.initialized RX4, Cond.code yX4_bound cX4_bound 1 (some .long), Cond.fieldLink RX4 41 "GoldHeaps$Play" "made" "I", Cond.methodLink RX4 73 Lib.MathLoose.max_long.x, Cond.static Lib.MathLoose.max_long.x, Cond.initialized "java/lang/Math", Cond.code Lib.MathLoose.max_long.x Lib.MathLoose.max_long.code 4 (some .long), Cond.constantLong RX4 79 (1000000000000), Cond.fieldLink RX4 19 "GoldHeaps$Play" "manyTaken" "[J", Cond.methodLink RX4 81 Lib.MathLoose.min_long.x, Cond.static Lib.MathLoose.min_long.x, Cond.code Lib.MathLoose.min_long.x Lib.MathLoose.min_long.code 4 (some .long), Cond.methodLink RX4 90 yX7_isWon, Cond.instanceMethod yX7_isWon, Cond.selects RX7 yX7_isWon yX7_isWon, Cond.initialized RX7]
def wsX4_isWon_r2 : List Cond := [Cond.code yX7_isWon cX7_isWon 6 (some .boolean), Cond.methodLink RX7 20 yX7_leastTaken, Cond.instanceMethod yX7_leastTaken, Cond.selects RX7 yX7_leastTaken yX7_leastTaken, Cond.code yX7_leastTaken cX7_leastTaken 8 (some .long), Cond.methodLink RX7 24 yX7_sumsBy, Cond.instanceMethod yX7_sumsBy, Cond.selects RX7 yX7_sumsBy yX7_sumsBy, Cond.code yX7_sumsBy cX7_sumsBy 4 (some (.object "GoldHeaps$Sums")), Cond.fieldLink RX7 11 "GoldHeaps$TimesGame" "sumsMade" "[LGoldHeaps$Sums;", Cond.classLink RX7 9 RX6, Cond.instantiable RX6 2, Cond.initialized RX6, Cond.methodLink RX7 17 yX6_init, Cond.instanceMethod yX6_init, Cond.code yX6_init cX6_init 6 none, Cond.methodLink RX6 3 objectInit, Cond.instanceMethod objectInit, Cond.code objectInit ⟨#[0xb1]⟩ 1 none, Cond.arrayClass .long, Cond.fieldLink RX6 11 "GoldHeaps$Sums" "numbers" "[J", Cond.constantLong RX6 15 (1000000000000), Cond.fieldLink RX6 17 "GoldHeaps$Sums" "size" "I", Cond.methodLink RX7 28 yX6_endOf]
def wsX4_isWon_r3 : List Cond := [Cond.instanceMethod yX6_endOf, Cond.selects RX6 yX6_endOf yX6_endOf, Cond.code yX6_endOf cX6_endOf 8 (some .long), Cond.methodLink RX4 95 yX2_tableOf, Cond.instanceMethod yX2_tableOf, Cond.selects RX2 yX2_tableOf yX2_tableOf, Cond.initialized RX2, Cond.code yX2_tableOf cX2_tableOf 5 (some (.object "GoldHeaps$LostTable")), Cond.constantLong RX2 53 (3), Cond.fieldLink RX2 11 "GoldHeaps$Judge" "tablesMade" "[LGoldHeaps$LostTable;", Cond.classLink RX2 9 RX3, Cond.instantiable RX3 2, Cond.initialized RX3, Cond.static yX8_isWithin, Cond.initialized RX8, Cond.code yX8_isWithin cX8_isWithin 6 (some .boolean), Cond.static yX8_oneIf, Cond.code yX8_oneIf cX8_oneIf 1 (some .int), Cond.methodLink RX2 63 yX3_init, Cond.instanceMethod yX3_init, Cond.code yX3_init cX3_init 3 none, Cond.methodLink RX3 3 objectInit, Cond.fieldLink RX3 9 "GoldHeaps$LostTable" "ofThree" "Z", Cond.fieldLink RX3 15 "GoldHeaps$LostTable" "lines" "[J"]
def wsX4_isWon_r4 : List Cond := [Cond.methodLink RX3 19 yX3_fillThree, Cond.static yX3_fillThree, Cond.code yX3_fillThree cX3_fillThree 5 none, Cond.methodLink RX3 52 yX3_wonByTaking, Cond.static yX3_wonByTaking, Cond.code yX3_wonByTaking cX3_wonByTaking 7 (some .long), Cond.methodLink RX3 48 yX3_lostInLine, Cond.static yX3_lostInLine, Cond.code yX3_lostInLine cX3_lostInLine 8 (some .long), Cond.constantLong RX3 56 (-1), Cond.methodLink RX3 23 yX3_fillBoth, Cond.static yX3_fillBoth, Cond.code yX3_fillBoth cX3_fillBoth 7 none, Cond.methodLink RX3 26 yX3_fillShares, Cond.static yX3_fillShares, Cond.code yX3_fillShares cX3_fillShares 6 none, Cond.methodLink RX3 35 Lib.Math.min.name, Cond.static Lib.Math.min.name, Cond.code Lib.Math.min.name Lib.Math.min.code 2 (some .int), Cond.methodLink RX3 41 Lib.Math.max.name, Cond.static Lib.Math.max.name, Cond.code Lib.Math.max.name Lib.Math.max.code 2 (some .int), Cond.methodLink RX3 44 yX3_sharesReach, Cond.static yX3_sharesReach]
def wsX4_isWon_r5 : List Cond := [Cond.code yX3_sharesReach cX3_sharesReach 5 (some .boolean), Cond.methodLink RX4 99 yX3_has, Cond.instanceMethod yX3_has, Cond.selects RX3 yX3_has yX3_has, Cond.code yX3_has cX3_has 6 (some .boolean), Cond.methodLink RX4 109 yX5_isWon, Cond.instanceMethod yX5_isWon, Cond.selects RX5 yX5_isWon yX5_isWon, Cond.initialized RX5, Cond.code yX5_isWon cX5_isWon 9 (some .boolean), Cond.methodLink RX5 13 Lib.MathLoose.max_long.x, Cond.methodLink RX5 19 Lib.MathLoose.min_long.x, Cond.fieldLink RX5 7 "GoldHeaps$SharesGame" "golden" "LGoldHeaps$Golden;", Cond.methodLink RX5 22 yX1_cut, Cond.instanceMethod yX1_cut, Cond.selects RX1 yX1_cut yX1_cut, Cond.initialized RX1, Cond.code yX1_cut cX1_cut 3 (some .long), Cond.fieldLink RX1 7 "GoldHeaps$Golden" "fibonacci" "LGoldHeaps$Sums;", Cond.methodLink RX1 13 yX6_raised, Cond.instanceMethod yX6_raised, Cond.selects RX6 yX6_raised yX6_raised, Cond.code yX6_raised cX6_raised 8 (some .long), Cond.methodLink RX4 118 yX0_isWon]
def wsX4_isWon_r6 : List Cond := [Cond.instanceMethod yX0_isWon, Cond.selects RX0 yX0_isWon yX0_isWon, Cond.initialized RX0, Cond.code yX0_isWon cX0_isWon 5 (some .boolean), Cond.methodLink RX0 19 Lib.MathLoose.min_long.x, Cond.methodLink RX0 15 yX0_lesserLostAlong, Cond.instanceMethod yX0_lesserLostAlong, Cond.selects RX0 yX0_lesserLostAlong yX0_lesserLostAlong, Cond.code yX0_lesserLostAlong cX0_lesserLostAlong 5 (some .long), Cond.fieldLink RX0 9 "GoldHeaps$BothGame" "golden" "LGoldHeaps$Golden;", Cond.methodLink RX0 30 Lib.MathLoose.abs_long.x, Cond.static Lib.MathLoose.abs_long.x, Cond.code Lib.MathLoose.abs_long.x Lib.MathLoose.abs_long.code 2 (some .long), Cond.methodLink RX0 33 yX1_cut]
def wsX4_isWon : List Cond := .code yX4_isWon cX4_isWon 1 (some .boolean) :: ((wsX4_isWon_r1 ++ (wsX4_isWon_r2 ++ (wsX4_isWon_r3 ++ (wsX4_isWon_r4 ++ (wsX4_isWon_r5 ++ wsX4_isWon_r6))))) ++ wsX40 ++ wsX20 ++ wsX70 ++ wsX60 ++ wsX30 ++ wsX50 ++ wsX10 ++ wsX00)
def wsX4_addToHeaps : List Cond := .code yX4_addToHeaps cX4_addToHeaps 5 none :: ([.fieldLink RX4 11 "GoldHeaps$Play" "heaps" "[J", .methodLink RX4 44 yX4_heapCount, .instanceMethod yX4_heapCount, .selects RX4 yX4_heapCount yX4_heapCount, .initialized RX4, .code yX4_heapCount cX4_heapCount 1 (some .int), .fieldLink RX4 26 "GoldHeaps$Play" "game" "I", .methodLink RX4 48 yX4_takesFrom, .instanceMethod yX4_takesFrom, .selects RX4 yX4_takesFrom yX4_takesFrom, .code yX4_takesFrom cX4_takesFrom 3 (some .boolean)] ++ wsX40)
def wsX4_take_r1 : List Cond := [Cond.fieldLink RX4 41 "GoldHeaps$Play" "made" "I", Cond.fieldLink RX4 15 "GoldHeaps$Play" "whichMoved" "[I", Cond.fieldLink RX4 19 "GoldHeaps$Play" "manyTaken" "[J", Cond.fieldLink RX4 22 "GoldHeaps$Play" "wasFault" "[Z", Cond.methodLink RX4 56 yX4_isWon, Cond.instanceMethod yX4_isWon, Cond.selects RX4 yX4_isWon yX4_isWon, Cond.initialized RX4, Cond.code yX4_isWon cX4_isWon 1 (some .boolean), Cond.fieldLink RX4 26 "GoldHeaps$Play" "game" "I", Cond.fieldLink RX4 30 "GoldHeaps$Play" "judge" "LGoldHeaps$Judge;", Cond.fieldLink RX4 38 "GoldHeaps$Play" "t" "I", Cond.fieldLink RX4 11 "GoldHeaps$Play" "heaps" "[J", Cond.fieldLink RX4 34 "GoldHeaps$Play" "misere" "Z", Cond.methodLink RX4 52 yX4_bound, Cond.instanceMethod yX4_bound, Cond.selects RX4 yX4_bound yX4_bound, Cond.code yX4_bound cX4_bound 1 (some .long), Cond.methodLink RX4 73 Lib.MathLoose.max_long.x, Cond.static Lib.MathLoose.max_long.x, Cond.initialized "java/lang/Math", Cond.code Lib.MathLoose.max_long.x Lib.MathLoose.max_long.code 4 (some .long), Cond.constantLong RX4 79 (1000000000000), Cond.methodLink RX4 81 Lib.MathLoose.min_long.x]
def wsX4_take_r2 : List Cond := [Cond.static Lib.MathLoose.min_long.x, Cond.code Lib.MathLoose.min_long.x Lib.MathLoose.min_long.code 4 (some .long), Cond.methodLink RX4 90 yX7_isWon, Cond.instanceMethod yX7_isWon, Cond.selects RX7 yX7_isWon yX7_isWon, Cond.initialized RX7, Cond.code yX7_isWon cX7_isWon 6 (some .boolean), Cond.methodLink RX7 20 yX7_leastTaken, Cond.instanceMethod yX7_leastTaken, Cond.selects RX7 yX7_leastTaken yX7_leastTaken, Cond.code yX7_leastTaken cX7_leastTaken 8 (some .long), Cond.methodLink RX7 24 yX7_sumsBy, Cond.instanceMethod yX7_sumsBy, Cond.selects RX7 yX7_sumsBy yX7_sumsBy, Cond.code yX7_sumsBy cX7_sumsBy 4 (some (.object "GoldHeaps$Sums")), Cond.fieldLink RX7 11 "GoldHeaps$TimesGame" "sumsMade" "[LGoldHeaps$Sums;", Cond.classLink RX7 9 RX6, Cond.instantiable RX6 2, Cond.initialized RX6, Cond.methodLink RX7 17 yX6_init, Cond.instanceMethod yX6_init, Cond.code yX6_init cX6_init 6 none, Cond.methodLink RX6 3 objectInit, Cond.instanceMethod objectInit]
def wsX4_take_r3 : List Cond := [Cond.code objectInit ⟨#[0xb1]⟩ 1 none, Cond.arrayClass .long, Cond.fieldLink RX6 11 "GoldHeaps$Sums" "numbers" "[J", Cond.constantLong RX6 15 (1000000000000), Cond.fieldLink RX6 17 "GoldHeaps$Sums" "size" "I", Cond.methodLink RX7 28 yX6_endOf, Cond.instanceMethod yX6_endOf, Cond.selects RX6 yX6_endOf yX6_endOf, Cond.code yX6_endOf cX6_endOf 8 (some .long), Cond.methodLink RX4 95 yX2_tableOf, Cond.instanceMethod yX2_tableOf, Cond.selects RX2 yX2_tableOf yX2_tableOf, Cond.initialized RX2, Cond.code yX2_tableOf cX2_tableOf 5 (some (.object "GoldHeaps$LostTable")), Cond.constantLong RX2 53 (3), Cond.fieldLink RX2 11 "GoldHeaps$Judge" "tablesMade" "[LGoldHeaps$LostTable;", Cond.classLink RX2 9 RX3, Cond.instantiable RX3 2, Cond.initialized RX3, Cond.static yX8_isWithin, Cond.initialized RX8, Cond.code yX8_isWithin cX8_isWithin 6 (some .boolean), Cond.static yX8_oneIf, Cond.code yX8_oneIf cX8_oneIf 1 (some .int)]
def wsX4_take_r4 : List Cond := [Cond.methodLink RX2 63 yX3_init, Cond.instanceMethod yX3_init, Cond.code yX3_init cX3_init 3 none, Cond.methodLink RX3 3 objectInit, Cond.fieldLink RX3 9 "GoldHeaps$LostTable" "ofThree" "Z", Cond.fieldLink RX3 15 "GoldHeaps$LostTable" "lines" "[J", Cond.methodLink RX3 19 yX3_fillThree, Cond.static yX3_fillThree, Cond.code yX3_fillThree cX3_fillThree 5 none, Cond.methodLink RX3 52 yX3_wonByTaking, Cond.static yX3_wonByTaking, Cond.code yX3_wonByTaking cX3_wonByTaking 7 (some .long), Cond.methodLink RX3 48 yX3_lostInLine, Cond.static yX3_lostInLine, Cond.code yX3_lostInLine cX3_lostInLine 8 (some .long), Cond.constantLong RX3 56 (-1), Cond.methodLink RX3 23 yX3_fillBoth, Cond.static yX3_fillBoth, Cond.code yX3_fillBoth cX3_fillBoth 7 none, Cond.methodLink RX3 26 yX3_fillShares, Cond.static yX3_fillShares, Cond.code yX3_fillShares cX3_fillShares 6 none, Cond.methodLink RX3 35 Lib.Math.min.name, Cond.static Lib.Math.min.name]
def wsX4_take_r5 : List Cond := [Cond.code Lib.Math.min.name Lib.Math.min.code 2 (some .int), Cond.methodLink RX3 41 Lib.Math.max.name, Cond.static Lib.Math.max.name, Cond.code Lib.Math.max.name Lib.Math.max.code 2 (some .int), Cond.methodLink RX3 44 yX3_sharesReach, Cond.static yX3_sharesReach, Cond.code yX3_sharesReach cX3_sharesReach 5 (some .boolean), Cond.methodLink RX4 99 yX3_has, Cond.instanceMethod yX3_has, Cond.selects RX3 yX3_has yX3_has, Cond.code yX3_has cX3_has 6 (some .boolean), Cond.methodLink RX4 109 yX5_isWon, Cond.instanceMethod yX5_isWon, Cond.selects RX5 yX5_isWon yX5_isWon, Cond.initialized RX5, Cond.code yX5_isWon cX5_isWon 9 (some .boolean), Cond.methodLink RX5 13 Lib.MathLoose.max_long.x, Cond.methodLink RX5 19 Lib.MathLoose.min_long.x, Cond.fieldLink RX5 7 "GoldHeaps$SharesGame" "golden" "LGoldHeaps$Golden;", Cond.methodLink RX5 22 yX1_cut, Cond.instanceMethod yX1_cut, Cond.selects RX1 yX1_cut yX1_cut, Cond.initialized RX1, Cond.code yX1_cut cX1_cut 3 (some .long)]
def wsX4_take_r6 : List Cond := [Cond.fieldLink RX1 7 "GoldHeaps$Golden" "fibonacci" "LGoldHeaps$Sums;", Cond.methodLink RX1 13 yX6_raised, Cond.instanceMethod yX6_raised, Cond.selects RX6 yX6_raised yX6_raised, Cond.code yX6_raised cX6_raised 8 (some .long), Cond.methodLink RX4 118 yX0_isWon, Cond.instanceMethod yX0_isWon, Cond.selects RX0 yX0_isWon yX0_isWon, Cond.initialized RX0, Cond.code yX0_isWon cX0_isWon 5 (some .boolean), Cond.methodLink RX0 19 Lib.MathLoose.min_long.x, Cond.methodLink RX0 15 yX0_lesserLostAlong, Cond.instanceMethod yX0_lesserLostAlong, Cond.selects RX0 yX0_lesserLostAlong yX0_lesserLostAlong, Cond.code yX0_lesserLostAlong cX0_lesserLostAlong 5 (some .long), Cond.fieldLink RX0 9 "GoldHeaps$BothGame" "golden" "LGoldHeaps$Golden;", Cond.methodLink RX0 30 Lib.MathLoose.abs_long.x, Cond.static Lib.MathLoose.abs_long.x, Cond.code Lib.MathLoose.abs_long.x Lib.MathLoose.abs_long.code 2 (some .long), Cond.methodLink RX0 33 yX1_cut, Cond.methodLink RX4 60 yX4_addToHeaps, Cond.instanceMethod yX4_addToHeaps, Cond.selects RX4 yX4_addToHeaps yX4_addToHeaps, Cond.code yX4_addToHeaps cX4_addToHeaps 5 none]
def wsX4_take_r7 : List Cond := [Cond.methodLink RX4 44 yX4_heapCount, Cond.instanceMethod yX4_heapCount, Cond.selects RX4 yX4_heapCount yX4_heapCount, Cond.code yX4_heapCount cX4_heapCount 1 (some .int), Cond.methodLink RX4 48 yX4_takesFrom, Cond.instanceMethod yX4_takesFrom, Cond.selects RX4 yX4_takesFrom yX4_takesFrom, Cond.code yX4_takesFrom cX4_takesFrom 3 (some .boolean)]
def wsX4_take : List Cond := .code yX4_take cX4_take 5 none :: ((wsX4_take_r1 ++ (wsX4_take_r2 ++ (wsX4_take_r3 ++ (wsX4_take_r4 ++ (wsX4_take_r5 ++ (wsX4_take_r6 ++ wsX4_take_r7)))))) ++ wsX40 ++ wsX20 ++ wsX70 ++ wsX60 ++ wsX30 ++ wsX50 ++ wsX10 ++ wsX00)
def wsX4_takeBack : List Cond := .code yX4_takeBack cX4_takeBack 1 (some .boolean) :: ([.fieldLink RX4 41 "GoldHeaps$Play" "made" "I", .fieldLink RX4 15 "GoldHeaps$Play" "whichMoved" "[I", .fieldLink RX4 19 "GoldHeaps$Play" "manyTaken" "[J", .methodLink RX4 60 yX4_addToHeaps, .instanceMethod yX4_addToHeaps, .selects RX4 yX4_addToHeaps yX4_addToHeaps, .initialized RX4, .code yX4_addToHeaps cX4_addToHeaps 5 none, .fieldLink RX4 11 "GoldHeaps$Play" "heaps" "[J", .methodLink RX4 44 yX4_heapCount, .instanceMethod yX4_heapCount, .selects RX4 yX4_heapCount yX4_heapCount, .code yX4_heapCount cX4_heapCount 1 (some .int), .fieldLink RX4 26 "GoldHeaps$Play" "game" "I", .methodLink RX4 48 yX4_takesFrom, .instanceMethod yX4_takesFrom, .selects RX4 yX4_takesFrom yX4_takesFrom, .code yX4_takesFrom cX4_takesFrom 3 (some .boolean)] ++ wsX40)
def wsX4_isOver : List Cond := .code yX4_isOver cX4_isOver 1 (some .boolean) :: ([.fieldLink RX4 26 "GoldHeaps$Play" "game" "I", .fieldLink RX4 11 "GoldHeaps$Play" "heaps" "[J", .methodLink RX4 52 yX4_bound, .instanceMethod yX4_bound, .selects RX4 yX4_bound yX4_bound, .initialized RX4, .code yX4_bound cX4_bound 1 (some .long), .fieldLink RX4 41 "GoldHeaps$Play" "made" "I", .methodLink RX4 73 Lib.MathLoose.max_long.x, .static Lib.MathLoose.max_long.x, .initialized "java/lang/Math", .code Lib.MathLoose.max_long.x Lib.MathLoose.max_long.code 4 (some .long), .constantLong RX4 79 (1000000000000), .fieldLink RX4 38 "GoldHeaps$Play" "t" "I", .fieldLink RX4 19 "GoldHeaps$Play" "manyTaken" "[J", .methodLink RX4 81 Lib.MathLoose.min_long.x, .static Lib.MathLoose.min_long.x, .code Lib.MathLoose.min_long.x Lib.MathLoose.min_long.code 4 (some .long)] ++ wsX40)
def wsX4_faults : List Cond := .code yX4_faults cX4_faults 3 (some .int) :: ([.fieldLink RX4 41 "GoldHeaps$Play" "made" "I", .fieldLink RX4 22 "GoldHeaps$Play" "wasFault" "[Z"] ++ wsX40)
def wsX4_tell_r1 : List Cond := [Cond.fieldLink RX4 11 "GoldHeaps$Play" "heaps" "[J", Cond.fieldLink RX4 41 "GoldHeaps$Play" "made" "I", Cond.fieldLink RX4 26 "GoldHeaps$Play" "game" "I", Cond.constantLong RX4 71 (-2), Cond.methodLink RX4 52 yX4_bound, Cond.instanceMethod yX4_bound, Cond.selects RX4 yX4_bound yX4_bound, Cond.initialized RX4, Cond.code yX4_bound cX4_bound 1 (some .long), Cond.methodLink RX4 73 Lib.MathLoose.max_long.x, Cond.static Lib.MathLoose.max_long.x, Cond.initialized "java/lang/Math", Cond.code Lib.MathLoose.max_long.x Lib.MathLoose.max_long.code 4 (some .long), Cond.constantLong RX4 79 (1000000000000), Cond.fieldLink RX4 38 "GoldHeaps$Play" "t" "I", Cond.fieldLink RX4 19 "GoldHeaps$Play" "manyTaken" "[J", Cond.methodLink RX4 81 Lib.MathLoose.min_long.x, Cond.static Lib.MathLoose.min_long.x, Cond.code Lib.MathLoose.min_long.x Lib.MathLoose.min_long.code 4 (some .long), Cond.methodLink RX4 56 yX4_isWon, Cond.instanceMethod yX4_isWon, Cond.selects RX4 yX4_isWon yX4_isWon, Cond.code yX4_isWon cX4_isWon 1 (some .boolean), Cond.fieldLink RX4 30 "GoldHeaps$Play" "judge" "LGoldHeaps$Judge;"]
def wsX4_tell_r2 : List Cond := [Cond.fieldLink RX4 34 "GoldHeaps$Play" "misere" "Z", Cond.methodLink RX4 90 yX7_isWon, Cond.instanceMethod yX7_isWon, Cond.selects RX7 yX7_isWon yX7_isWon, Cond.initialized RX7, Cond.code yX7_isWon cX7_isWon 6 (some .boolean), Cond.methodLink RX7 20 yX7_leastTaken, Cond.instanceMethod yX7_leastTaken, Cond.selects RX7 yX7_leastTaken yX7_leastTaken, Cond.code yX7_leastTaken cX7_leastTaken 8 (some .long), Cond.methodLink RX7 24 yX7_sumsBy, Cond.instanceMethod yX7_sumsBy, Cond.selects RX7 yX7_sumsBy yX7_sumsBy, Cond.code yX7_sumsBy cX7_sumsBy 4 (some (.object "GoldHeaps$Sums")), Cond.fieldLink RX7 11 "GoldHeaps$TimesGame" "sumsMade" "[LGoldHeaps$Sums;", Cond.classLink RX7 9 RX6, Cond.instantiable RX6 2, Cond.initialized RX6, Cond.methodLink RX7 17 yX6_init, Cond.instanceMethod yX6_init, Cond.code yX6_init cX6_init 6 none, Cond.methodLink RX6 3 objectInit, Cond.instanceMethod objectInit, Cond.code objectInit ⟨#[0xb1]⟩ 1 none]
def wsX4_tell_r3 : List Cond := [Cond.arrayClass .long, Cond.fieldLink RX6 11 "GoldHeaps$Sums" "numbers" "[J", Cond.constantLong RX6 15 (1000000000000), Cond.fieldLink RX6 17 "GoldHeaps$Sums" "size" "I", Cond.methodLink RX7 28 yX6_endOf, Cond.instanceMethod yX6_endOf, Cond.selects RX6 yX6_endOf yX6_endOf, Cond.code yX6_endOf cX6_endOf 8 (some .long), Cond.methodLink RX4 95 yX2_tableOf, Cond.instanceMethod yX2_tableOf, Cond.selects RX2 yX2_tableOf yX2_tableOf, Cond.initialized RX2, Cond.code yX2_tableOf cX2_tableOf 5 (some (.object "GoldHeaps$LostTable")), Cond.constantLong RX2 53 (3), Cond.fieldLink RX2 11 "GoldHeaps$Judge" "tablesMade" "[LGoldHeaps$LostTable;", Cond.classLink RX2 9 RX3, Cond.instantiable RX3 2, Cond.initialized RX3, Cond.static yX8_isWithin, Cond.initialized RX8, Cond.code yX8_isWithin cX8_isWithin 6 (some .boolean), Cond.static yX8_oneIf, Cond.code yX8_oneIf cX8_oneIf 1 (some .int), Cond.methodLink RX2 63 yX3_init]
def wsX4_tell_r4 : List Cond := [Cond.instanceMethod yX3_init, Cond.code yX3_init cX3_init 3 none, Cond.methodLink RX3 3 objectInit, Cond.fieldLink RX3 9 "GoldHeaps$LostTable" "ofThree" "Z", Cond.fieldLink RX3 15 "GoldHeaps$LostTable" "lines" "[J", Cond.methodLink RX3 19 yX3_fillThree, Cond.static yX3_fillThree, Cond.code yX3_fillThree cX3_fillThree 5 none, Cond.methodLink RX3 52 yX3_wonByTaking, Cond.static yX3_wonByTaking, Cond.code yX3_wonByTaking cX3_wonByTaking 7 (some .long), Cond.methodLink RX3 48 yX3_lostInLine, Cond.static yX3_lostInLine, Cond.code yX3_lostInLine cX3_lostInLine 8 (some .long), Cond.constantLong RX3 56 (-1), Cond.methodLink RX3 23 yX3_fillBoth, Cond.static yX3_fillBoth, Cond.code yX3_fillBoth cX3_fillBoth 7 none, Cond.methodLink RX3 26 yX3_fillShares, Cond.static yX3_fillShares, Cond.code yX3_fillShares cX3_fillShares 6 none, Cond.methodLink RX3 35 Lib.Math.min.name, Cond.static Lib.Math.min.name, Cond.code Lib.Math.min.name Lib.Math.min.code 2 (some .int)]
def wsX4_tell_r5 : List Cond := [Cond.methodLink RX3 41 Lib.Math.max.name, Cond.static Lib.Math.max.name, Cond.code Lib.Math.max.name Lib.Math.max.code 2 (some .int), Cond.methodLink RX3 44 yX3_sharesReach, Cond.static yX3_sharesReach, Cond.code yX3_sharesReach cX3_sharesReach 5 (some .boolean), Cond.methodLink RX4 99 yX3_has, Cond.instanceMethod yX3_has, Cond.selects RX3 yX3_has yX3_has, Cond.code yX3_has cX3_has 6 (some .boolean), Cond.methodLink RX4 109 yX5_isWon, Cond.instanceMethod yX5_isWon, Cond.selects RX5 yX5_isWon yX5_isWon, Cond.initialized RX5, Cond.code yX5_isWon cX5_isWon 9 (some .boolean), Cond.methodLink RX5 13 Lib.MathLoose.max_long.x, Cond.methodLink RX5 19 Lib.MathLoose.min_long.x, Cond.fieldLink RX5 7 "GoldHeaps$SharesGame" "golden" "LGoldHeaps$Golden;", Cond.methodLink RX5 22 yX1_cut, Cond.instanceMethod yX1_cut, Cond.selects RX1 yX1_cut yX1_cut, Cond.initialized RX1, Cond.code yX1_cut cX1_cut 3 (some .long), Cond.fieldLink RX1 7 "GoldHeaps$Golden" "fibonacci" "LGoldHeaps$Sums;"]
def wsX4_tell_r6 : List Cond := [Cond.methodLink RX1 13 yX6_raised, Cond.instanceMethod yX6_raised, Cond.selects RX6 yX6_raised yX6_raised, Cond.code yX6_raised cX6_raised 8 (some .long), Cond.methodLink RX4 118 yX0_isWon, Cond.instanceMethod yX0_isWon, Cond.selects RX0 yX0_isWon yX0_isWon, Cond.initialized RX0, Cond.code yX0_isWon cX0_isWon 5 (some .boolean), Cond.methodLink RX0 19 Lib.MathLoose.min_long.x, Cond.methodLink RX0 15 yX0_lesserLostAlong, Cond.instanceMethod yX0_lesserLostAlong, Cond.selects RX0 yX0_lesserLostAlong yX0_lesserLostAlong, Cond.code yX0_lesserLostAlong cX0_lesserLostAlong 5 (some .long), Cond.fieldLink RX0 9 "GoldHeaps$BothGame" "golden" "LGoldHeaps$Golden;", Cond.methodLink RX0 30 Lib.MathLoose.abs_long.x, Cond.static Lib.MathLoose.abs_long.x, Cond.code Lib.MathLoose.abs_long.x Lib.MathLoose.abs_long.code 2 (some .long), Cond.methodLink RX0 33 yX1_cut, Cond.methodLink RX4 68 yX4_faults, Cond.instanceMethod yX4_faults, Cond.selects RX4 yX4_faults yX4_faults, Cond.code yX4_faults cX4_faults 3 (some .int), Cond.fieldLink RX4 22 "GoldHeaps$Play" "wasFault" "[Z"]
def wsX4_tell : List Cond := .code yX4_tell cX4_tell 2 (some .long) :: ((wsX4_tell_r1 ++ (wsX4_tell_r2 ++ (wsX4_tell_r3 ++ (wsX4_tell_r4 ++ (wsX4_tell_r5 ++ wsX4_tell_r6))))) ++ wsX40 ++ wsX20 ++ wsX70 ++ wsX60 ++ wsX30 ++ wsX50 ++ wsX10 ++ wsX00)
def wsX5_leastTimes_r1 : List Cond := [Cond.methodLink RX5 13 Lib.MathLoose.max_long.x, Cond.static Lib.MathLoose.max_long.x, Cond.initialized "java/lang/Math", Cond.code Lib.MathLoose.max_long.x Lib.MathLoose.max_long.code 4 (some .long), Cond.methodLink RX5 19 Lib.MathLoose.min_long.x, Cond.static Lib.MathLoose.min_long.x, Cond.code Lib.MathLoose.min_long.x Lib.MathLoose.min_long.code 4 (some .long), Cond.methodLink RX5 28 yX5_isWon, Cond.instanceMethod yX5_isWon, Cond.selects RX5 yX5_isWon yX5_isWon, Cond.initialized RX5, Cond.code yX5_isWon cX5_isWon 9 (some .boolean), Cond.fieldLink RX5 7 "GoldHeaps$SharesGame" "golden" "LGoldHeaps$Golden;", Cond.methodLink RX5 22 yX1_cut, Cond.instanceMethod yX1_cut, Cond.selects RX1 yX1_cut yX1_cut, Cond.initialized RX1, Cond.code yX1_cut cX1_cut 3 (some .long), Cond.fieldLink RX1 7 "GoldHeaps$Golden" "fibonacci" "LGoldHeaps$Sums;", Cond.methodLink RX1 13 yX6_raised, Cond.instanceMethod yX6_raised, Cond.selects RX6 yX6_raised yX6_raised, Cond.initialized RX6, Cond.code yX6_raised cX6_raised 8 (some .long)]
def wsX5_leastTimes_r2 : List Cond := [Cond.fieldLink RX6 17 "GoldHeaps$Sums" "size" "I", Cond.fieldLink RX6 11 "GoldHeaps$Sums" "numbers" "[J"]
def wsX5_leastTimes : List Cond := .code yX5_leastTimes cX5_leastTimes 13 (some .long) :: ((wsX5_leastTimes_r1 ++ wsX5_leastTimes_r2) ++ wsX50 ++ wsX10 ++ wsX60)
def wsX6_numberAt : List Cond := .code yX6_numberAt cX6_numberAt 2 (some .long) :: ([.fieldLink RX6 17 "GoldHeaps$Sums" "size" "I", .fieldLink RX6 11 "GoldHeaps$Sums" "numbers" "[J", .constantLong RX6 15 (1000000000000), .constantLong RX6 21 (-1)] ++ wsX60)
def wsX6_countOf : List Cond := .code yX6_countOf cX6_countOf 7 (some .int) :: ([.fieldLink RX6 17 "GoldHeaps$Sums" "size" "I", .fieldLink RX6 11 "GoldHeaps$Sums" "numbers" "[J"] ++ wsX60)
def wsX7_isWonByAll : List Cond := .code yX7_isWonByAll cX7_isWonByAll 6 (some .boolean) :: ([.arrayClass .int, .constant RX7 34 (2147483647), .constantLong RX7 35 (60), .static yX8_isWithin, .initialized RX8, .code yX8_isWithin cX8_isWithin 6 (some .boolean)])
def wsX8_init_r1 : List Cond := [Cond.methodLink RX8 1 objectInit, Cond.instanceMethod objectInit, Cond.code objectInit ⟨#[0xb1]⟩ 1 none, Cond.classLink RX8 7 RX2, Cond.instantiable RX2 5, Cond.initialized RX2, Cond.fieldLink RX8 10 "GoldHeaps" "judge" "LGoldHeaps$Judge;", Cond.classLink RX8 16 RX4, Cond.instantiable RX4 9, Cond.initialized RX4, Cond.fieldLink RX8 21 "GoldHeaps" "play" "LGoldHeaps$Play;", Cond.methodLink RX8 9 yX2_init, Cond.instanceMethod yX2_init, Cond.code yX2_init cX2_init 1 none, Cond.methodLink RX2 3 objectInit, Cond.classLink RX2 9 RX3, Cond.fieldLink RX2 11 "GoldHeaps$Judge" "tablesMade" "[LGoldHeaps$LostTable;", Cond.classLink RX2 17 RX7, Cond.instantiable RX7 1, Cond.initialized RX7, Cond.fieldLink RX2 20 "GoldHeaps$Judge" "timesGame" "LGoldHeaps$TimesGame;", Cond.classLink RX2 24 RX1, Cond.instantiable RX1 1, Cond.initialized RX1]
def wsX8_init_r2 : List Cond := [Cond.fieldLink RX2 33 "GoldHeaps$Judge" "golden" "LGoldHeaps$Golden;", Cond.classLink RX2 37 RX5, Cond.instantiable RX5 1, Cond.initialized RX5, Cond.fieldLink RX2 42 "GoldHeaps$Judge" "sharesGame" "LGoldHeaps$SharesGame;", Cond.classLink RX2 46 RX0, Cond.instantiable RX0 1, Cond.initialized RX0, Cond.fieldLink RX2 49 "GoldHeaps$Judge" "bothGame" "LGoldHeaps$BothGame;", Cond.instanceMethod yX7_init, Cond.code yX7_init cX7_init 1 none, Cond.methodLink RX7 3 objectInit, Cond.classLink RX7 9 RX6, Cond.fieldLink RX7 11 "GoldHeaps$TimesGame" "sumsMade" "[LGoldHeaps$Sums;", Cond.methodLink RX2 26 yX7_sumsBy, Cond.instanceMethod yX7_sumsBy, Cond.selects RX7 yX7_sumsBy yX7_sumsBy, Cond.code yX7_sumsBy cX7_sumsBy 4 (some (.object "GoldHeaps$Sums")), Cond.instantiable RX6 2, Cond.initialized RX6, Cond.methodLink RX7 17 yX6_init, Cond.instanceMethod yX6_init, Cond.code yX6_init cX6_init 6 none, Cond.methodLink RX6 3 objectInit]
def wsX8_init_r3 : List Cond := [Cond.arrayClass .long, Cond.fieldLink RX6 11 "GoldHeaps$Sums" "numbers" "[J", Cond.constantLong RX6 15 (1000000000000), Cond.fieldLink RX6 17 "GoldHeaps$Sums" "size" "I", Cond.methodLink RX2 30 yX1_init, Cond.instanceMethod yX1_init, Cond.code yX1_init cX1_init 2 none, Cond.methodLink RX1 1 objectInit, Cond.fieldLink RX1 7 "GoldHeaps$Golden" "fibonacci" "LGoldHeaps$Sums;", Cond.methodLink RX2 39 yX5_init, Cond.instanceMethod yX5_init, Cond.code yX5_init cX5_init 2 none, Cond.methodLink RX5 1 objectInit, Cond.fieldLink RX5 7 "GoldHeaps$SharesGame" "golden" "LGoldHeaps$Golden;", Cond.methodLink RX2 48 yX0_init, Cond.instanceMethod yX0_init, Cond.code yX0_init cX0_init 2 none, Cond.methodLink RX0 3 objectInit, Cond.fieldLink RX0 9 "GoldHeaps$BothGame" "golden" "LGoldHeaps$Golden;", Cond.methodLink RX8 18 yX4_init, Cond.instanceMethod yX4_init, Cond.code yX4_init cX4_init 2 none, Cond.methodLink RX4 3 objectInit, Cond.fieldLink RX4 11 "GoldHeaps$Play" "heaps" "[J"]
def wsX8_init_r4 : List Cond := [Cond.arrayClass .int, Cond.fieldLink RX4 15 "GoldHeaps$Play" "whichMoved" "[I", Cond.fieldLink RX4 19 "GoldHeaps$Play" "manyTaken" "[J", Cond.arrayClass .boolean, Cond.fieldLink RX4 22 "GoldHeaps$Play" "wasFault" "[Z", Cond.fieldLink RX4 26 "GoldHeaps$Play" "game" "I", Cond.fieldLink RX4 30 "GoldHeaps$Play" "judge" "LGoldHeaps$Judge;"]
def wsX8_init : List Cond := .code yX8_init cX8_init 1 none :: ((wsX8_init_r1 ++ (wsX8_init_r2 ++ (wsX8_init_r3 ++ wsX8_init_r4))) ++ wsX20 ++ wsX80 ++ wsX40 ++ wsX70 ++ wsX10 ++ wsX50 ++ wsX00 ++ wsX60)
def wsX8_isHeap : List Cond := .code yX8_isHeap cX8_isHeap 2 (some .boolean) :: ([.constantLong RX8 109 (1000000000000), .methodLink RX8 56 yX8_isWithin, .static yX8_isWithin, .initialized RX8, .code yX8_isWithin cX8_isWithin 6 (some .boolean)])
def wsX8_shares_r1 : List Cond := [Cond.fieldLink RX8 10 "GoldHeaps" "judge" "LGoldHeaps$Judge;", Cond.methodLink RX8 25 yX8_isHeap, Cond.static yX8_isHeap, Cond.initialized RX8, Cond.code yX8_isHeap cX8_isHeap 2 (some .boolean), Cond.constantLong RX8 109 (1000000000000), Cond.methodLink RX8 56 yX8_isWithin, Cond.static yX8_isWithin, Cond.code yX8_isWithin cX8_isWithin 6 (some .boolean), Cond.methodLink RX8 33 yX5_isWon, Cond.instanceMethod yX5_isWon, Cond.selects RX5 yX5_isWon yX5_isWon, Cond.initialized RX5, Cond.code yX5_isWon cX5_isWon 9 (some .boolean), Cond.methodLink RX5 13 Lib.MathLoose.max_long.x, Cond.static Lib.MathLoose.max_long.x, Cond.initialized "java/lang/Math", Cond.code Lib.MathLoose.max_long.x Lib.MathLoose.max_long.code 4 (some .long), Cond.methodLink RX5 19 Lib.MathLoose.min_long.x, Cond.static Lib.MathLoose.min_long.x, Cond.code Lib.MathLoose.min_long.x Lib.MathLoose.min_long.code 4 (some .long), Cond.fieldLink RX5 7 "GoldHeaps$SharesGame" "golden" "LGoldHeaps$Golden;", Cond.methodLink RX5 22 yX1_cut, Cond.instanceMethod yX1_cut]
def wsX8_shares_r2 : List Cond := [Cond.selects RX1 yX1_cut yX1_cut, Cond.initialized RX1, Cond.code yX1_cut cX1_cut 3 (some .long), Cond.fieldLink RX1 7 "GoldHeaps$Golden" "fibonacci" "LGoldHeaps$Sums;", Cond.methodLink RX1 13 yX6_raised, Cond.instanceMethod yX6_raised, Cond.selects RX6 yX6_raised yX6_raised, Cond.initialized RX6, Cond.code yX6_raised cX6_raised 8 (some .long), Cond.fieldLink RX6 17 "GoldHeaps$Sums" "size" "I", Cond.fieldLink RX6 11 "GoldHeaps$Sums" "numbers" "[J", Cond.methodLink RX8 39 yX8_oneIf, Cond.static yX8_oneIf, Cond.code yX8_oneIf cX8_oneIf 1 (some .int)]
def wsX8_shares : List Cond := .code yX8_shares cX8_shares 5 (some .int) :: ((wsX8_shares_r1 ++ wsX8_shares_r2) ++ wsX80 ++ wsX20 ++ wsX50 ++ wsX10 ++ wsX60)
def wsX8_sharesMove_r1 : List Cond := [Cond.constantLong RX8 43 (-2), Cond.fieldLink RX8 10 "GoldHeaps" "judge" "LGoldHeaps$Judge;", Cond.methodLink RX8 25 yX8_isHeap, Cond.static yX8_isHeap, Cond.initialized RX8, Cond.code yX8_isHeap cX8_isHeap 2 (some .boolean), Cond.constantLong RX8 109 (1000000000000), Cond.methodLink RX8 56 yX8_isWithin, Cond.static yX8_isWithin, Cond.code yX8_isWithin cX8_isWithin 6 (some .boolean), Cond.methodLink RX8 45 yX5_leastTimes, Cond.instanceMethod yX5_leastTimes, Cond.selects RX5 yX5_leastTimes yX5_leastTimes, Cond.initialized RX5, Cond.code yX5_leastTimes cX5_leastTimes 13 (some .long), Cond.methodLink RX5 13 Lib.MathLoose.max_long.x, Cond.static Lib.MathLoose.max_long.x, Cond.initialized "java/lang/Math", Cond.code Lib.MathLoose.max_long.x Lib.MathLoose.max_long.code 4 (some .long), Cond.methodLink RX5 19 Lib.MathLoose.min_long.x, Cond.static Lib.MathLoose.min_long.x, Cond.code Lib.MathLoose.min_long.x Lib.MathLoose.min_long.code 4 (some .long), Cond.methodLink RX5 28 yX5_isWon, Cond.instanceMethod yX5_isWon]
def wsX8_sharesMove_r2 : List Cond := [Cond.selects RX5 yX5_isWon yX5_isWon, Cond.code yX5_isWon cX5_isWon 9 (some .boolean), Cond.fieldLink RX5 7 "GoldHeaps$SharesGame" "golden" "LGoldHeaps$Golden;", Cond.methodLink RX5 22 yX1_cut, Cond.instanceMethod yX1_cut, Cond.selects RX1 yX1_cut yX1_cut, Cond.initialized RX1, Cond.code yX1_cut cX1_cut 3 (some .long), Cond.fieldLink RX1 7 "GoldHeaps$Golden" "fibonacci" "LGoldHeaps$Sums;", Cond.methodLink RX1 13 yX6_raised, Cond.instanceMethod yX6_raised, Cond.selects RX6 yX6_raised yX6_raised, Cond.initialized RX6, Cond.code yX6_raised cX6_raised 8 (some .long), Cond.fieldLink RX6 17 "GoldHeaps$Sums" "size" "I", Cond.fieldLink RX6 11 "GoldHeaps$Sums" "numbers" "[J"]
def wsX8_sharesMove : List Cond := .code yX8_sharesMove cX8_sharesMove 5 (some .long) :: ((wsX8_sharesMove_r1 ++ wsX8_sharesMove_r2) ++ wsX80 ++ wsX20 ++ wsX50 ++ wsX10 ++ wsX60)
def wsX8_both_r1 : List Cond := [Cond.fieldLink RX8 10 "GoldHeaps" "judge" "LGoldHeaps$Judge;", Cond.methodLink RX8 25 yX8_isHeap, Cond.static yX8_isHeap, Cond.initialized RX8, Cond.code yX8_isHeap cX8_isHeap 2 (some .boolean), Cond.constantLong RX8 109 (1000000000000), Cond.methodLink RX8 56 yX8_isWithin, Cond.static yX8_isWithin, Cond.code yX8_isWithin cX8_isWithin 6 (some .boolean), Cond.methodLink RX8 53 yX0_isWon, Cond.instanceMethod yX0_isWon, Cond.selects RX0 yX0_isWon yX0_isWon, Cond.initialized RX0, Cond.code yX0_isWon cX0_isWon 5 (some .boolean), Cond.methodLink RX0 19 Lib.MathLoose.min_long.x, Cond.static Lib.MathLoose.min_long.x, Cond.initialized "java/lang/Math", Cond.code Lib.MathLoose.min_long.x Lib.MathLoose.min_long.code 4 (some .long), Cond.methodLink RX0 15 yX0_lesserLostAlong, Cond.instanceMethod yX0_lesserLostAlong, Cond.selects RX0 yX0_lesserLostAlong yX0_lesserLostAlong, Cond.code yX0_lesserLostAlong cX0_lesserLostAlong 5 (some .long), Cond.fieldLink RX0 9 "GoldHeaps$BothGame" "golden" "LGoldHeaps$Golden;", Cond.methodLink RX0 30 Lib.MathLoose.abs_long.x]
def wsX8_both_r2 : List Cond := [Cond.static Lib.MathLoose.abs_long.x, Cond.code Lib.MathLoose.abs_long.x Lib.MathLoose.abs_long.code 2 (some .long), Cond.methodLink RX0 33 yX1_cut, Cond.instanceMethod yX1_cut, Cond.selects RX1 yX1_cut yX1_cut, Cond.initialized RX1, Cond.code yX1_cut cX1_cut 3 (some .long), Cond.fieldLink RX1 7 "GoldHeaps$Golden" "fibonacci" "LGoldHeaps$Sums;", Cond.methodLink RX1 13 yX6_raised, Cond.instanceMethod yX6_raised, Cond.selects RX6 yX6_raised yX6_raised, Cond.initialized RX6, Cond.code yX6_raised cX6_raised 8 (some .long), Cond.fieldLink RX6 17 "GoldHeaps$Sums" "size" "I", Cond.fieldLink RX6 11 "GoldHeaps$Sums" "numbers" "[J", Cond.methodLink RX8 39 yX8_oneIf, Cond.static yX8_oneIf, Cond.code yX8_oneIf cX8_oneIf 1 (some .int)]
def wsX8_both : List Cond := .code yX8_both cX8_both 5 (some .int) :: ((wsX8_both_r1 ++ wsX8_both_r2) ++ wsX80 ++ wsX20 ++ wsX00 ++ wsX10 ++ wsX60)
def wsX8_bothMove_r1 : List Cond := [Cond.constantLong RX8 43 (-2), Cond.fieldLink RX8 10 "GoldHeaps" "judge" "LGoldHeaps$Judge;", Cond.methodLink RX8 25 yX8_isHeap, Cond.static yX8_isHeap, Cond.initialized RX8, Cond.code yX8_isHeap cX8_isHeap 2 (some .boolean), Cond.constantLong RX8 109 (1000000000000), Cond.methodLink RX8 56 yX8_isWithin, Cond.static yX8_isWithin, Cond.code yX8_isWithin cX8_isWithin 6 (some .boolean), Cond.methodLink RX8 60 yX0_whichWins, Cond.instanceMethod yX0_whichWins, Cond.selects RX0 yX0_whichWins yX0_whichWins, Cond.initialized RX0, Cond.code yX0_whichWins cX0_whichWins 5 (some .int), Cond.fieldLink RX0 9 "GoldHeaps$BothGame" "golden" "LGoldHeaps$Golden;", Cond.methodLink RX0 19 Lib.MathLoose.min_long.x, Cond.static Lib.MathLoose.min_long.x, Cond.initialized "java/lang/Math", Cond.code Lib.MathLoose.min_long.x Lib.MathLoose.min_long.code 4 (some .long), Cond.methodLink RX0 24 yX1_partnerOf, Cond.instanceMethod yX1_partnerOf, Cond.selects RX1 yX1_partnerOf yX1_partnerOf, Cond.initialized RX1]
def wsX8_bothMove_r2 : List Cond := [Cond.code yX1_partnerOf cX1_partnerOf 3 (some .long), Cond.methodLink RX1 25 yX1_isLesser, Cond.instanceMethod yX1_isLesser, Cond.selects RX1 yX1_isLesser yX1_isLesser, Cond.code yX1_isLesser cX1_isLesser 3 (some .boolean), Cond.methodLink RX1 19 yX1_indexIfLesser, Cond.instanceMethod yX1_indexIfLesser, Cond.selects RX1 yX1_indexIfLesser yX1_indexIfLesser, Cond.code yX1_indexIfLesser cX1_indexIfLesser 3 (some .long), Cond.methodLink RX1 22 yX1_cut, Cond.instanceMethod yX1_cut, Cond.selects RX1 yX1_cut yX1_cut, Cond.code yX1_cut cX1_cut 3 (some .long), Cond.fieldLink RX1 7 "GoldHeaps$Golden" "fibonacci" "LGoldHeaps$Sums;", Cond.methodLink RX1 13 yX6_raised, Cond.instanceMethod yX6_raised, Cond.selects RX6 yX6_raised yX6_raised, Cond.initialized RX6, Cond.code yX6_raised cX6_raised 8 (some .long), Cond.fieldLink RX6 17 "GoldHeaps$Sums" "size" "I", Cond.fieldLink RX6 11 "GoldHeaps$Sums" "numbers" "[J", Cond.methodLink RX0 15 yX0_lesserLostAlong, Cond.instanceMethod yX0_lesserLostAlong, Cond.selects RX0 yX0_lesserLostAlong yX0_lesserLostAlong]
def wsX8_bothMove_r3 : List Cond := [Cond.code yX0_lesserLostAlong cX0_lesserLostAlong 5 (some .long), Cond.methodLink RX0 30 Lib.MathLoose.abs_long.x, Cond.static Lib.MathLoose.abs_long.x, Cond.code Lib.MathLoose.abs_long.x Lib.MathLoose.abs_long.code 2 (some .long), Cond.methodLink RX0 33 yX1_cut, Cond.methodLink RX8 64 yX0_howMany, Cond.instanceMethod yX0_howMany, Cond.selects RX0 yX0_howMany yX0_howMany, Cond.code yX0_howMany cX0_howMany 6 (some .long)]
def wsX8_bothMove : List Cond := .code yX8_bothMove cX8_bothMove 7 (some .long) :: ((wsX8_bothMove_r1 ++ (wsX8_bothMove_r2 ++ wsX8_bothMove_r3)) ++ wsX80 ++ wsX20 ++ wsX00 ++ wsX10 ++ wsX60)
def wsX8_lost : List Cond := .code yX8_lost cX8_lost 6 (some .long) :: ([.constantLong RX8 68 (300000000000), .constantLong RX8 43 (-2), .fieldLink RX8 10 "GoldHeaps" "judge" "LGoldHeaps$Judge;", .methodLink RX8 56 yX8_isWithin, .static yX8_isWithin, .initialized RX8, .code yX8_isWithin cX8_isWithin 6 (some .boolean), .methodLink RX8 74 yX1_cut, .instanceMethod yX1_cut, .selects RX1 yX1_cut yX1_cut, .initialized RX1, .code yX1_cut cX1_cut 3 (some .long), .fieldLink RX1 7 "GoldHeaps$Golden" "fibonacci" "LGoldHeaps$Sums;", .methodLink RX1 13 yX6_raised, .instanceMethod yX6_raised, .selects RX6 yX6_raised yX6_raised, .initialized RX6, .code yX6_raised cX6_raised 8 (some .long), .fieldLink RX6 17 "GoldHeaps$Sums" "size" "I", .fieldLink RX6 11 "GoldHeaps$Sums" "numbers" "[J"] ++ wsX80 ++ wsX20 ++ wsX10 ++ wsX60)
def wsX8_lostOf_r1 : List Cond := [Cond.constantLong RX8 43 (-2), Cond.fieldLink RX8 10 "GoldHeaps" "judge" "LGoldHeaps$Judge;", Cond.methodLink RX8 25 yX8_isHeap, Cond.static yX8_isHeap, Cond.initialized RX8, Cond.code yX8_isHeap cX8_isHeap 2 (some .boolean), Cond.constantLong RX8 109 (1000000000000), Cond.methodLink RX8 56 yX8_isWithin, Cond.static yX8_isWithin, Cond.code yX8_isWithin cX8_isWithin 6 (some .boolean), Cond.methodLink RX8 80 yX1_indexOf, Cond.instanceMethod yX1_indexOf, Cond.selects RX1 yX1_indexOf yX1_indexOf, Cond.initialized RX1, Cond.code yX1_indexOf cX1_indexOf 3 (some .long), Cond.constantLong RX1 29 (2), Cond.methodLink RX1 25 yX1_isLesser, Cond.instanceMethod yX1_isLesser, Cond.selects RX1 yX1_isLesser yX1_isLesser, Cond.code yX1_isLesser cX1_isLesser 3 (some .boolean), Cond.methodLink RX1 19 yX1_indexIfLesser, Cond.instanceMethod yX1_indexIfLesser, Cond.selects RX1 yX1_indexIfLesser yX1_indexIfLesser, Cond.code yX1_indexIfLesser cX1_indexIfLesser 3 (some .long)]
def wsX8_lostOf_r2 : List Cond := [Cond.methodLink RX1 22 yX1_cut, Cond.instanceMethod yX1_cut, Cond.selects RX1 yX1_cut yX1_cut, Cond.code yX1_cut cX1_cut 3 (some .long), Cond.fieldLink RX1 7 "GoldHeaps$Golden" "fibonacci" "LGoldHeaps$Sums;", Cond.methodLink RX1 13 yX6_raised, Cond.instanceMethod yX6_raised, Cond.selects RX6 yX6_raised yX6_raised, Cond.initialized RX6, Cond.code yX6_raised cX6_raised 8 (some .long), Cond.fieldLink RX6 17 "GoldHeaps$Sums" "size" "I", Cond.fieldLink RX6 11 "GoldHeaps$Sums" "numbers" "[J", Cond.methodLink RX8 83 yX1_isLesser, Cond.methodLink RX8 39 yX8_oneIf, Cond.static yX8_oneIf, Cond.code yX8_oneIf cX8_oneIf 1 (some .int)]
def wsX8_lostOf : List Cond := .code yX8_lostOf cX8_lostOf 4 (some .long) :: ((wsX8_lostOf_r1 ++ wsX8_lostOf_r2) ++ wsX80 ++ wsX20 ++ wsX10 ++ wsX60)
def wsX8_isFactor : List Cond := .code yX8_isFactor cX8_isFactor 2 (some .boolean) :: ([.constantLong RX8 180 (9), .methodLink RX8 56 yX8_isWithin, .static yX8_isWithin, .initialized RX8, .code yX8_isWithin cX8_isWithin 6 (some .boolean)])
def wsX8_row_r1 : List Cond := [Cond.constantLong RX8 43 (-2), Cond.fieldLink RX8 10 "GoldHeaps" "judge" "LGoldHeaps$Judge;", Cond.methodLink RX8 86 yX8_isFactor, Cond.static yX8_isFactor, Cond.initialized RX8, Cond.code yX8_isFactor cX8_isFactor 2 (some .boolean), Cond.constantLong RX8 180 (9), Cond.methodLink RX8 56 yX8_isWithin, Cond.static yX8_isWithin, Cond.code yX8_isWithin cX8_isWithin 6 (some .boolean), Cond.methodLink RX8 93 yX7_sumsBy, Cond.instanceMethod yX7_sumsBy, Cond.selects RX7 yX7_sumsBy yX7_sumsBy, Cond.initialized RX7, Cond.code yX7_sumsBy cX7_sumsBy 4 (some (.object "GoldHeaps$Sums")), Cond.fieldLink RX7 11 "GoldHeaps$TimesGame" "sumsMade" "[LGoldHeaps$Sums;", Cond.classLink RX7 9 RX6, Cond.instantiable RX6 2, Cond.initialized RX6, Cond.methodLink RX7 17 yX6_init, Cond.instanceMethod yX6_init, Cond.code yX6_init cX6_init 6 none, Cond.methodLink RX6 3 objectInit, Cond.instanceMethod objectInit]
def wsX8_row_r2 : List Cond := [Cond.code objectInit ⟨#[0xb1]⟩ 1 none, Cond.arrayClass .long, Cond.fieldLink RX6 11 "GoldHeaps$Sums" "numbers" "[J", Cond.constantLong RX6 15 (1000000000000), Cond.fieldLink RX6 17 "GoldHeaps$Sums" "size" "I", Cond.methodLink RX8 99 yX6_numberAt, Cond.instanceMethod yX6_numberAt, Cond.selects RX6 yX6_numberAt yX6_numberAt, Cond.code yX6_numberAt cX6_numberAt 2 (some .long), Cond.constantLong RX6 21 (-1)]
def wsX8_row : List Cond := .code yX8_row cX8_row 3 (some .long) :: ((wsX8_row_r1 ++ wsX8_row_r2) ++ wsX80 ++ wsX20 ++ wsX70 ++ wsX60)
def wsX8_digits_r1 : List Cond := [Cond.fieldLink RX8 10 "GoldHeaps" "judge" "LGoldHeaps$Judge;", Cond.methodLink RX8 86 yX8_isFactor, Cond.static yX8_isFactor, Cond.initialized RX8, Cond.code yX8_isFactor cX8_isFactor 2 (some .boolean), Cond.constantLong RX8 180 (9), Cond.methodLink RX8 56 yX8_isWithin, Cond.static yX8_isWithin, Cond.code yX8_isWithin cX8_isWithin 6 (some .boolean), Cond.methodLink RX8 25 yX8_isHeap, Cond.static yX8_isHeap, Cond.code yX8_isHeap cX8_isHeap 2 (some .boolean), Cond.constantLong RX8 109 (1000000000000), Cond.methodLink RX8 93 yX7_sumsBy, Cond.instanceMethod yX7_sumsBy, Cond.selects RX7 yX7_sumsBy yX7_sumsBy, Cond.initialized RX7, Cond.code yX7_sumsBy cX7_sumsBy 4 (some (.object "GoldHeaps$Sums")), Cond.fieldLink RX7 11 "GoldHeaps$TimesGame" "sumsMade" "[LGoldHeaps$Sums;", Cond.classLink RX7 9 RX6, Cond.instantiable RX6 2, Cond.initialized RX6, Cond.methodLink RX7 17 yX6_init, Cond.instanceMethod yX6_init]
def wsX8_digits_r2 : List Cond := [Cond.code yX6_init cX6_init 6 none, Cond.methodLink RX6 3 objectInit, Cond.instanceMethod objectInit, Cond.code objectInit ⟨#[0xb1]⟩ 1 none, Cond.arrayClass .long, Cond.fieldLink RX6 11 "GoldHeaps$Sums" "numbers" "[J", Cond.constantLong RX6 15 (1000000000000), Cond.fieldLink RX6 17 "GoldHeaps$Sums" "size" "I", Cond.methodLink RX8 105 yX6_countOf, Cond.instanceMethod yX6_countOf, Cond.selects RX6 yX6_countOf yX6_countOf, Cond.code yX6_countOf cX6_countOf 7 (some .int)]
def wsX8_digits : List Cond := .code yX8_digits cX8_digits 4 (some .int) :: ((wsX8_digits_r1 ++ wsX8_digits_r2) ++ wsX80 ++ wsX20 ++ wsX70 ++ wsX60)
def wsX8_last_r1 : List Cond := [Cond.constantLong RX8 109 (1000000000000), Cond.constantLong RX8 43 (-2), Cond.fieldLink RX8 10 "GoldHeaps" "judge" "LGoldHeaps$Judge;", Cond.methodLink RX8 86 yX8_isFactor, Cond.static yX8_isFactor, Cond.initialized RX8, Cond.code yX8_isFactor cX8_isFactor 2 (some .boolean), Cond.constantLong RX8 180 (9), Cond.methodLink RX8 56 yX8_isWithin, Cond.static yX8_isWithin, Cond.code yX8_isWithin cX8_isWithin 6 (some .boolean), Cond.methodLink RX8 93 yX7_sumsBy, Cond.instanceMethod yX7_sumsBy, Cond.selects RX7 yX7_sumsBy yX7_sumsBy, Cond.initialized RX7, Cond.code yX7_sumsBy cX7_sumsBy 4 (some (.object "GoldHeaps$Sums")), Cond.fieldLink RX7 11 "GoldHeaps$TimesGame" "sumsMade" "[LGoldHeaps$Sums;", Cond.classLink RX7 9 RX6, Cond.instantiable RX6 2, Cond.initialized RX6, Cond.methodLink RX7 17 yX6_init, Cond.instanceMethod yX6_init, Cond.code yX6_init cX6_init 6 none, Cond.methodLink RX6 3 objectInit]
def wsX8_last_r2 : List Cond := [Cond.instanceMethod objectInit, Cond.code objectInit ⟨#[0xb1]⟩ 1 none, Cond.arrayClass .long, Cond.fieldLink RX6 11 "GoldHeaps$Sums" "numbers" "[J", Cond.constantLong RX6 15 (1000000000000), Cond.fieldLink RX6 17 "GoldHeaps$Sums" "size" "I", Cond.methodLink RX8 111 yX6_endOf, Cond.instanceMethod yX6_endOf, Cond.selects RX6 yX6_endOf yX6_endOf, Cond.code yX6_endOf cX6_endOf 8 (some .long)]
def wsX8_last : List Cond := .code yX8_last cX8_last 4 (some .long) :: ((wsX8_last_r1 ++ wsX8_last_r2) ++ wsX80 ++ wsX20 ++ wsX70 ++ wsX60)
def wsX8_times_r1 : List Cond := [Cond.fieldLink RX8 10 "GoldHeaps" "judge" "LGoldHeaps$Judge;", Cond.methodLink RX8 86 yX8_isFactor, Cond.static yX8_isFactor, Cond.initialized RX8, Cond.code yX8_isFactor cX8_isFactor 2 (some .boolean), Cond.constantLong RX8 180 (9), Cond.methodLink RX8 56 yX8_isWithin, Cond.static yX8_isWithin, Cond.code yX8_isWithin cX8_isWithin 6 (some .boolean), Cond.methodLink RX8 25 yX8_isHeap, Cond.static yX8_isHeap, Cond.code yX8_isHeap cX8_isHeap 2 (some .boolean), Cond.constantLong RX8 109 (1000000000000), Cond.methodLink RX8 114 yX7_isWon, Cond.instanceMethod yX7_isWon, Cond.selects RX7 yX7_isWon yX7_isWon, Cond.initialized RX7, Cond.code yX7_isWon cX7_isWon 6 (some .boolean), Cond.methodLink RX7 20 yX7_leastTaken, Cond.instanceMethod yX7_leastTaken, Cond.selects RX7 yX7_leastTaken yX7_leastTaken, Cond.code yX7_leastTaken cX7_leastTaken 8 (some .long), Cond.methodLink RX7 24 yX7_sumsBy, Cond.instanceMethod yX7_sumsBy]
def wsX8_times_r2 : List Cond := [Cond.selects RX7 yX7_sumsBy yX7_sumsBy, Cond.code yX7_sumsBy cX7_sumsBy 4 (some (.object "GoldHeaps$Sums")), Cond.fieldLink RX7 11 "GoldHeaps$TimesGame" "sumsMade" "[LGoldHeaps$Sums;", Cond.classLink RX7 9 RX6, Cond.instantiable RX6 2, Cond.initialized RX6, Cond.methodLink RX7 17 yX6_init, Cond.instanceMethod yX6_init, Cond.code yX6_init cX6_init 6 none, Cond.methodLink RX6 3 objectInit, Cond.instanceMethod objectInit, Cond.code objectInit ⟨#[0xb1]⟩ 1 none, Cond.arrayClass .long, Cond.fieldLink RX6 11 "GoldHeaps$Sums" "numbers" "[J", Cond.constantLong RX6 15 (1000000000000), Cond.fieldLink RX6 17 "GoldHeaps$Sums" "size" "I", Cond.methodLink RX7 28 yX6_endOf, Cond.instanceMethod yX6_endOf, Cond.selects RX6 yX6_endOf yX6_endOf, Cond.code yX6_endOf cX6_endOf 8 (some .long), Cond.methodLink RX8 39 yX8_oneIf, Cond.static yX8_oneIf, Cond.code yX8_oneIf cX8_oneIf 1 (some .int)]
def wsX8_times : List Cond := .code yX8_times cX8_times 6 (some .int) :: ((wsX8_times_r1 ++ wsX8_times_r2) ++ wsX80 ++ wsX20 ++ wsX70 ++ wsX60)
def wsX8_timesMove_r1 : List Cond := [Cond.constantLong RX8 43 (-2), Cond.fieldLink RX8 10 "GoldHeaps" "judge" "LGoldHeaps$Judge;", Cond.methodLink RX8 86 yX8_isFactor, Cond.static yX8_isFactor, Cond.initialized RX8, Cond.code yX8_isFactor cX8_isFactor 2 (some .boolean), Cond.constantLong RX8 180 (9), Cond.methodLink RX8 56 yX8_isWithin, Cond.static yX8_isWithin, Cond.code yX8_isWithin cX8_isWithin 6 (some .boolean), Cond.methodLink RX8 25 yX8_isHeap, Cond.static yX8_isHeap, Cond.code yX8_isHeap cX8_isHeap 2 (some .boolean), Cond.constantLong RX8 109 (1000000000000), Cond.methodLink RX8 117 yX7_leastTaken, Cond.instanceMethod yX7_leastTaken, Cond.selects RX7 yX7_leastTaken yX7_leastTaken, Cond.initialized RX7, Cond.code yX7_leastTaken cX7_leastTaken 8 (some .long), Cond.methodLink RX7 24 yX7_sumsBy, Cond.instanceMethod yX7_sumsBy, Cond.selects RX7 yX7_sumsBy yX7_sumsBy, Cond.code yX7_sumsBy cX7_sumsBy 4 (some (.object "GoldHeaps$Sums")), Cond.fieldLink RX7 11 "GoldHeaps$TimesGame" "sumsMade" "[LGoldHeaps$Sums;"]
def wsX8_timesMove_r2 : List Cond := [Cond.classLink RX7 9 RX6, Cond.instantiable RX6 2, Cond.initialized RX6, Cond.methodLink RX7 17 yX6_init, Cond.instanceMethod yX6_init, Cond.code yX6_init cX6_init 6 none, Cond.methodLink RX6 3 objectInit, Cond.instanceMethod objectInit, Cond.code objectInit ⟨#[0xb1]⟩ 1 none, Cond.arrayClass .long, Cond.fieldLink RX6 11 "GoldHeaps$Sums" "numbers" "[J", Cond.constantLong RX6 15 (1000000000000), Cond.fieldLink RX6 17 "GoldHeaps$Sums" "size" "I", Cond.methodLink RX7 28 yX6_endOf, Cond.instanceMethod yX6_endOf, Cond.selects RX6 yX6_endOf yX6_endOf, Cond.code yX6_endOf cX6_endOf 8 (some .long)]
def wsX8_timesMove : List Cond := .code yX8_timesMove cX8_timesMove 6 (some .long) :: ((wsX8_timesMove_r1 ++ wsX8_timesMove_r2) ++ wsX80 ++ wsX20 ++ wsX70 ++ wsX60)
def wsX8_areHeapsOf : List Cond := .code yX8_areHeapsOf cX8_areHeapsOf 10 (some .boolean) :: ([.constantLong RX8 142 (60), .constantLong RX8 109 (1000000000000), .constantLong RX8 182 (10), .methodLink RX8 56 yX8_isWithin, .static yX8_isWithin, .initialized RX8, .code yX8_isWithin cX8_isWithin 6 (some .boolean), .methodLink RX8 25 yX8_isHeap, .static yX8_isHeap, .code yX8_isHeap cX8_isHeap 2 (some .boolean), .methodLink RX8 86 yX8_isFactor, .static yX8_isFactor, .code yX8_isFactor cX8_isFactor 2 (some .boolean), .constantLong RX8 180 (9)])
def wsX8_byAll_r1 : List Cond := [Cond.fieldLink RX8 10 "GoldHeaps" "judge" "LGoldHeaps$Judge;", Cond.methodLink RX8 121 yX8_areHeapsOf, Cond.static yX8_areHeapsOf, Cond.initialized RX8, Cond.code yX8_areHeapsOf cX8_areHeapsOf 10 (some .boolean), Cond.constantLong RX8 142 (60), Cond.constantLong RX8 109 (1000000000000), Cond.constantLong RX8 182 (10), Cond.methodLink RX8 56 yX8_isWithin, Cond.static yX8_isWithin, Cond.code yX8_isWithin cX8_isWithin 6 (some .boolean), Cond.methodLink RX8 25 yX8_isHeap, Cond.static yX8_isHeap, Cond.code yX8_isHeap cX8_isHeap 2 (some .boolean), Cond.methodLink RX8 86 yX8_isFactor, Cond.static yX8_isFactor, Cond.code yX8_isFactor cX8_isFactor 2 (some .boolean), Cond.constantLong RX8 180 (9), Cond.methodLink RX8 125 yX2_tableOf, Cond.instanceMethod yX2_tableOf, Cond.selects RX2 yX2_tableOf yX2_tableOf, Cond.initialized RX2, Cond.code yX2_tableOf cX2_tableOf 5 (some (.object "GoldHeaps$LostTable")), Cond.constantLong RX2 53 (3)]
def wsX8_byAll_r2 : List Cond := [Cond.fieldLink RX2 11 "GoldHeaps$Judge" "tablesMade" "[LGoldHeaps$LostTable;", Cond.classLink RX2 9 RX3, Cond.instantiable RX3 2, Cond.initialized RX3, Cond.static yX8_oneIf, Cond.code yX8_oneIf cX8_oneIf 1 (some .int), Cond.methodLink RX2 63 yX3_init, Cond.instanceMethod yX3_init, Cond.code yX3_init cX3_init 3 none, Cond.methodLink RX3 3 objectInit, Cond.instanceMethod objectInit, Cond.code objectInit ⟨#[0xb1]⟩ 1 none, Cond.fieldLink RX3 9 "GoldHeaps$LostTable" "ofThree" "Z", Cond.arrayClass .long, Cond.fieldLink RX3 15 "GoldHeaps$LostTable" "lines" "[J", Cond.methodLink RX3 19 yX3_fillThree, Cond.static yX3_fillThree, Cond.code yX3_fillThree cX3_fillThree 5 none, Cond.methodLink RX3 52 yX3_wonByTaking, Cond.static yX3_wonByTaking, Cond.code yX3_wonByTaking cX3_wonByTaking 7 (some .long), Cond.methodLink RX3 48 yX3_lostInLine, Cond.static yX3_lostInLine, Cond.code yX3_lostInLine cX3_lostInLine 8 (some .long)]
def wsX8_byAll_r3 : List Cond := [Cond.constantLong RX3 56 (-1), Cond.methodLink RX3 23 yX3_fillBoth, Cond.static yX3_fillBoth, Cond.code yX3_fillBoth cX3_fillBoth 7 none, Cond.methodLink RX3 26 yX3_fillShares, Cond.static yX3_fillShares, Cond.code yX3_fillShares cX3_fillShares 6 none, Cond.methodLink RX3 35 Lib.Math.min.name, Cond.static Lib.Math.min.name, Cond.initialized "java/lang/Math", Cond.code Lib.Math.min.name Lib.Math.min.code 2 (some .int), Cond.methodLink RX3 41 Lib.Math.max.name, Cond.static Lib.Math.max.name, Cond.code Lib.Math.max.name Lib.Math.max.code 2 (some .int), Cond.methodLink RX3 44 yX3_sharesReach, Cond.static yX3_sharesReach, Cond.code yX3_sharesReach cX3_sharesReach 5 (some .boolean), Cond.methodLink RX8 129 yX3_has, Cond.instanceMethod yX3_has, Cond.selects RX3 yX3_has yX3_has, Cond.code yX3_has cX3_has 6 (some .boolean), Cond.methodLink RX8 39 yX8_oneIf]
def wsX8_byAll : List Cond := .code yX8_byAll cX8_byAll 6 (some .int) :: ((wsX8_byAll_r1 ++ (wsX8_byAll_r2 ++ wsX8_byAll_r3)) ++ wsX80 ++ wsX20 ++ wsX30)
def wsX8_mostByAll : List Cond := .code yX8_mostByAll cX8_mostByAll 1 (some .int) :: ([])
def wsX8_lostUpTo_r1 : List Cond := [Cond.fieldLink RX8 10 "GoldHeaps" "judge" "LGoldHeaps$Judge;", Cond.methodLink RX8 135 yX8_mostByAll, Cond.static yX8_mostByAll, Cond.initialized RX8, Cond.code yX8_mostByAll cX8_mostByAll 1 (some .int), Cond.methodLink RX8 56 yX8_isWithin, Cond.static yX8_isWithin, Cond.code yX8_isWithin cX8_isWithin 6 (some .boolean), Cond.methodLink RX8 125 yX2_tableOf, Cond.instanceMethod yX2_tableOf, Cond.selects RX2 yX2_tableOf yX2_tableOf, Cond.initialized RX2, Cond.code yX2_tableOf cX2_tableOf 5 (some (.object "GoldHeaps$LostTable")), Cond.constantLong RX2 53 (3), Cond.fieldLink RX2 11 "GoldHeaps$Judge" "tablesMade" "[LGoldHeaps$LostTable;", Cond.classLink RX2 9 RX3, Cond.instantiable RX3 2, Cond.initialized RX3, Cond.static yX8_oneIf, Cond.code yX8_oneIf cX8_oneIf 1 (some .int), Cond.methodLink RX2 63 yX3_init, Cond.instanceMethod yX3_init, Cond.code yX3_init cX3_init 3 none, Cond.methodLink RX3 3 objectInit]
def wsX8_lostUpTo_r2 : List Cond := [Cond.instanceMethod objectInit, Cond.code objectInit ⟨#[0xb1]⟩ 1 none, Cond.fieldLink RX3 9 "GoldHeaps$LostTable" "ofThree" "Z", Cond.arrayClass .long, Cond.fieldLink RX3 15 "GoldHeaps$LostTable" "lines" "[J", Cond.methodLink RX3 19 yX3_fillThree, Cond.static yX3_fillThree, Cond.code yX3_fillThree cX3_fillThree 5 none, Cond.methodLink RX3 52 yX3_wonByTaking, Cond.static yX3_wonByTaking, Cond.code yX3_wonByTaking cX3_wonByTaking 7 (some .long), Cond.methodLink RX3 48 yX3_lostInLine, Cond.static yX3_lostInLine, Cond.code yX3_lostInLine cX3_lostInLine 8 (some .long), Cond.constantLong RX3 56 (-1), Cond.methodLink RX3 23 yX3_fillBoth, Cond.static yX3_fillBoth, Cond.code yX3_fillBoth cX3_fillBoth 7 none, Cond.methodLink RX3 26 yX3_fillShares, Cond.static yX3_fillShares, Cond.code yX3_fillShares cX3_fillShares 6 none, Cond.methodLink RX3 35 Lib.Math.min.name, Cond.static Lib.Math.min.name, Cond.initialized "java/lang/Math"]
def wsX8_lostUpTo_r3 : List Cond := [Cond.code Lib.Math.min.name Lib.Math.min.code 2 (some .int), Cond.methodLink RX3 41 Lib.Math.max.name, Cond.static Lib.Math.max.name, Cond.code Lib.Math.max.name Lib.Math.max.code 2 (some .int), Cond.methodLink RX3 44 yX3_sharesReach, Cond.static yX3_sharesReach, Cond.code yX3_sharesReach cX3_sharesReach 5 (some .boolean), Cond.methodLink RX8 139 yX3_countUpTo, Cond.instanceMethod yX3_countUpTo, Cond.selects RX3 yX3_countUpTo yX3_countUpTo, Cond.code yX3_countUpTo cX3_countUpTo 8 (some .int), Cond.methodLink RX3 29 yJ13_bitCount_95d88, Cond.static yJ13_bitCount_95d88, Cond.initialized RJ13, Cond.code yJ13_bitCount_95d88 cJ13_bitCount_95d88 2 (some .int), Cond.constantLong RJ13 314 (6148914691236517205), Cond.constantLong RJ13 316 (3689348814741910323), Cond.constantLong RJ13 318 (1085102592571150095)]
def wsX8_lostUpTo : List Cond := .code yX8_lostUpTo cX8_lostUpTo 4 (some .int) :: ((wsX8_lostUpTo_r1 ++ (wsX8_lostUpTo_r2 ++ wsX8_lostUpTo_r3)) ++ wsX80 ++ wsX20 ++ wsX30)
def wsX8_timesByAll : List Cond := .code yX8_timesByAll cX8_timesByAll 4 (some .int) :: ([.constantLong RX8 142 (60), .methodLink RX8 86 yX8_isFactor, .static yX8_isFactor, .initialized RX8, .code yX8_isFactor cX8_isFactor 2 (some .boolean), .constantLong RX8 180 (9), .methodLink RX8 56 yX8_isWithin, .static yX8_isWithin, .code yX8_isWithin cX8_isWithin 6 (some .boolean), .methodLink RX8 144 yX7_isWonByAll, .static yX7_isWonByAll, .initialized RX7, .code yX7_isWonByAll cX7_isWonByAll 6 (some .boolean), .arrayClass .int, .constant RX7 34 (2147483647), .constantLong RX7 35 (60), .methodLink RX8 39 yX8_oneIf, .static yX8_oneIf, .code yX8_oneIf cX8_oneIf 1 (some .int)])
def wsX8_board_r1 : List Cond := [Cond.fieldLink RX8 21 "GoldHeaps" "play" "LGoldHeaps$Play;", Cond.methodLink RX8 121 yX8_areHeapsOf, Cond.static yX8_areHeapsOf, Cond.initialized RX8, Cond.code yX8_areHeapsOf cX8_areHeapsOf 10 (some .boolean), Cond.constantLong RX8 142 (60), Cond.constantLong RX8 109 (1000000000000), Cond.constantLong RX8 182 (10), Cond.methodLink RX8 56 yX8_isWithin, Cond.static yX8_isWithin, Cond.code yX8_isWithin cX8_isWithin 6 (some .boolean), Cond.methodLink RX8 25 yX8_isHeap, Cond.static yX8_isHeap, Cond.code yX8_isHeap cX8_isHeap 2 (some .boolean), Cond.methodLink RX8 86 yX8_isFactor, Cond.static yX8_isFactor, Cond.code yX8_isFactor cX8_isFactor 2 (some .boolean), Cond.constantLong RX8 180 (9), Cond.methodLink RX8 147 yX4_begin, Cond.instanceMethod yX4_begin, Cond.selects RX4 yX4_begin yX4_begin, Cond.initialized RX4, Cond.code yX4_begin cX4_begin 9 none, Cond.fieldLink RX4 26 "GoldHeaps$Play" "game" "I"]
def wsX8_board_r2 : List Cond := [Cond.fieldLink RX4 34 "GoldHeaps$Play" "misere" "Z", Cond.fieldLink RX4 38 "GoldHeaps$Play" "t" "I", Cond.fieldLink RX4 11 "GoldHeaps$Play" "heaps" "[J", Cond.fieldLink RX4 41 "GoldHeaps$Play" "made" "I"]
def wsX8_board : List Cond := .code yX8_board cX8_board 9 (some .int) :: ((wsX8_board_r1 ++ wsX8_board_r2) ++ wsX80 ++ wsX40)
def wsX8_move_r1 : List Cond := [Cond.fieldLink RX8 21 "GoldHeaps" "play" "LGoldHeaps$Play;", Cond.methodLink RX8 151 yX4_ways, Cond.instanceMethod yX4_ways, Cond.selects RX4 yX4_ways yX4_ways, Cond.initialized RX4, Cond.code yX4_ways cX4_ways 1 (some .int), Cond.fieldLink RX4 26 "GoldHeaps$Play" "game" "I", Cond.methodLink RX4 44 yX4_heapCount, Cond.instanceMethod yX4_heapCount, Cond.selects RX4 yX4_heapCount yX4_heapCount, Cond.code yX4_heapCount cX4_heapCount 1 (some .int), Cond.methodLink RX8 56 yX8_isWithin, Cond.static yX8_isWithin, Cond.initialized RX8, Cond.code yX8_isWithin cX8_isWithin 6 (some .boolean), Cond.methodLink RX8 155 yX4_mayTake, Cond.instanceMethod yX4_mayTake, Cond.selects RX4 yX4_mayTake yX4_mayTake, Cond.code yX4_mayTake cX4_mayTake 6 (some .boolean), Cond.fieldLink RX4 41 "GoldHeaps$Play" "made" "I", Cond.fieldLink RX4 11 "GoldHeaps$Play" "heaps" "[J", Cond.methodLink RX4 48 yX4_takesFrom, Cond.instanceMethod yX4_takesFrom, Cond.selects RX4 yX4_takesFrom yX4_takesFrom]
def wsX8_move_r2 : List Cond := [Cond.code yX4_takesFrom cX4_takesFrom 3 (some .boolean), Cond.methodLink RX4 52 yX4_bound, Cond.instanceMethod yX4_bound, Cond.selects RX4 yX4_bound yX4_bound, Cond.code yX4_bound cX4_bound 1 (some .long), Cond.methodLink RX4 73 Lib.MathLoose.max_long.x, Cond.static Lib.MathLoose.max_long.x, Cond.initialized "java/lang/Math", Cond.code Lib.MathLoose.max_long.x Lib.MathLoose.max_long.code 4 (some .long), Cond.constantLong RX4 79 (1000000000000), Cond.fieldLink RX4 38 "GoldHeaps$Play" "t" "I", Cond.fieldLink RX4 19 "GoldHeaps$Play" "manyTaken" "[J", Cond.methodLink RX4 81 Lib.MathLoose.min_long.x, Cond.static Lib.MathLoose.min_long.x, Cond.code Lib.MathLoose.min_long.x Lib.MathLoose.min_long.code 4 (some .long), Cond.methodLink RX8 159 yX4_take, Cond.instanceMethod yX4_take, Cond.selects RX4 yX4_take yX4_take, Cond.code yX4_take cX4_take 5 none, Cond.fieldLink RX4 15 "GoldHeaps$Play" "whichMoved" "[I", Cond.fieldLink RX4 22 "GoldHeaps$Play" "wasFault" "[Z", Cond.methodLink RX4 56 yX4_isWon, Cond.instanceMethod yX4_isWon, Cond.selects RX4 yX4_isWon yX4_isWon]
def wsX8_move_r3 : List Cond := [Cond.code yX4_isWon cX4_isWon 1 (some .boolean), Cond.fieldLink RX4 30 "GoldHeaps$Play" "judge" "LGoldHeaps$Judge;", Cond.fieldLink RX4 34 "GoldHeaps$Play" "misere" "Z", Cond.methodLink RX4 90 yX7_isWon, Cond.instanceMethod yX7_isWon, Cond.selects RX7 yX7_isWon yX7_isWon, Cond.initialized RX7, Cond.code yX7_isWon cX7_isWon 6 (some .boolean), Cond.methodLink RX7 20 yX7_leastTaken, Cond.instanceMethod yX7_leastTaken, Cond.selects RX7 yX7_leastTaken yX7_leastTaken, Cond.code yX7_leastTaken cX7_leastTaken 8 (some .long), Cond.methodLink RX7 24 yX7_sumsBy, Cond.instanceMethod yX7_sumsBy, Cond.selects RX7 yX7_sumsBy yX7_sumsBy, Cond.code yX7_sumsBy cX7_sumsBy 4 (some (.object "GoldHeaps$Sums")), Cond.fieldLink RX7 11 "GoldHeaps$TimesGame" "sumsMade" "[LGoldHeaps$Sums;", Cond.classLink RX7 9 RX6, Cond.instantiable RX6 2, Cond.initialized RX6, Cond.methodLink RX7 17 yX6_init, Cond.instanceMethod yX6_init, Cond.code yX6_init cX6_init 6 none, Cond.methodLink RX6 3 objectInit]
def wsX8_move_r4 : List Cond := [Cond.instanceMethod objectInit, Cond.code objectInit ⟨#[0xb1]⟩ 1 none, Cond.arrayClass .long, Cond.fieldLink RX6 11 "GoldHeaps$Sums" "numbers" "[J", Cond.constantLong RX6 15 (1000000000000), Cond.fieldLink RX6 17 "GoldHeaps$Sums" "size" "I", Cond.methodLink RX7 28 yX6_endOf, Cond.instanceMethod yX6_endOf, Cond.selects RX6 yX6_endOf yX6_endOf, Cond.code yX6_endOf cX6_endOf 8 (some .long), Cond.methodLink RX4 95 yX2_tableOf, Cond.instanceMethod yX2_tableOf, Cond.selects RX2 yX2_tableOf yX2_tableOf, Cond.initialized RX2, Cond.code yX2_tableOf cX2_tableOf 5 (some (.object "GoldHeaps$LostTable")), Cond.constantLong RX2 53 (3), Cond.fieldLink RX2 11 "GoldHeaps$Judge" "tablesMade" "[LGoldHeaps$LostTable;", Cond.classLink RX2 9 RX3, Cond.instantiable RX3 2, Cond.initialized RX3, Cond.static yX8_oneIf, Cond.code yX8_oneIf cX8_oneIf 1 (some .int), Cond.methodLink RX2 63 yX3_init, Cond.instanceMethod yX3_init]
def wsX8_move_r5 : List Cond := [Cond.code yX3_init cX3_init 3 none, Cond.methodLink RX3 3 objectInit, Cond.fieldLink RX3 9 "GoldHeaps$LostTable" "ofThree" "Z", Cond.fieldLink RX3 15 "GoldHeaps$LostTable" "lines" "[J", Cond.methodLink RX3 19 yX3_fillThree, Cond.static yX3_fillThree, Cond.code yX3_fillThree cX3_fillThree 5 none, Cond.methodLink RX3 52 yX3_wonByTaking, Cond.static yX3_wonByTaking, Cond.code yX3_wonByTaking cX3_wonByTaking 7 (some .long), Cond.methodLink RX3 48 yX3_lostInLine, Cond.static yX3_lostInLine, Cond.code yX3_lostInLine cX3_lostInLine 8 (some .long), Cond.constantLong RX3 56 (-1), Cond.methodLink RX3 23 yX3_fillBoth, Cond.static yX3_fillBoth, Cond.code yX3_fillBoth cX3_fillBoth 7 none, Cond.methodLink RX3 26 yX3_fillShares, Cond.static yX3_fillShares, Cond.code yX3_fillShares cX3_fillShares 6 none, Cond.methodLink RX3 35 Lib.Math.min.name, Cond.static Lib.Math.min.name, Cond.code Lib.Math.min.name Lib.Math.min.code 2 (some .int), Cond.methodLink RX3 41 Lib.Math.max.name]
def wsX8_move_r6 : List Cond := [Cond.static Lib.Math.max.name, Cond.code Lib.Math.max.name Lib.Math.max.code 2 (some .int), Cond.methodLink RX3 44 yX3_sharesReach, Cond.static yX3_sharesReach, Cond.code yX3_sharesReach cX3_sharesReach 5 (some .boolean), Cond.methodLink RX4 99 yX3_has, Cond.instanceMethod yX3_has, Cond.selects RX3 yX3_has yX3_has, Cond.code yX3_has cX3_has 6 (some .boolean), Cond.methodLink RX4 109 yX5_isWon, Cond.instanceMethod yX5_isWon, Cond.selects RX5 yX5_isWon yX5_isWon, Cond.initialized RX5, Cond.code yX5_isWon cX5_isWon 9 (some .boolean), Cond.methodLink RX5 13 Lib.MathLoose.max_long.x, Cond.methodLink RX5 19 Lib.MathLoose.min_long.x, Cond.fieldLink RX5 7 "GoldHeaps$SharesGame" "golden" "LGoldHeaps$Golden;", Cond.methodLink RX5 22 yX1_cut, Cond.instanceMethod yX1_cut, Cond.selects RX1 yX1_cut yX1_cut, Cond.initialized RX1, Cond.code yX1_cut cX1_cut 3 (some .long), Cond.fieldLink RX1 7 "GoldHeaps$Golden" "fibonacci" "LGoldHeaps$Sums;", Cond.methodLink RX1 13 yX6_raised]
def wsX8_move_r7 : List Cond := [Cond.instanceMethod yX6_raised, Cond.selects RX6 yX6_raised yX6_raised, Cond.code yX6_raised cX6_raised 8 (some .long), Cond.methodLink RX4 118 yX0_isWon, Cond.instanceMethod yX0_isWon, Cond.selects RX0 yX0_isWon yX0_isWon, Cond.initialized RX0, Cond.code yX0_isWon cX0_isWon 5 (some .boolean), Cond.methodLink RX0 19 Lib.MathLoose.min_long.x, Cond.methodLink RX0 15 yX0_lesserLostAlong, Cond.instanceMethod yX0_lesserLostAlong, Cond.selects RX0 yX0_lesserLostAlong yX0_lesserLostAlong, Cond.code yX0_lesserLostAlong cX0_lesserLostAlong 5 (some .long), Cond.fieldLink RX0 9 "GoldHeaps$BothGame" "golden" "LGoldHeaps$Golden;", Cond.methodLink RX0 30 Lib.MathLoose.abs_long.x, Cond.static Lib.MathLoose.abs_long.x, Cond.code Lib.MathLoose.abs_long.x Lib.MathLoose.abs_long.code 2 (some .long), Cond.methodLink RX0 33 yX1_cut, Cond.methodLink RX4 60 yX4_addToHeaps, Cond.instanceMethod yX4_addToHeaps, Cond.selects RX4 yX4_addToHeaps yX4_addToHeaps, Cond.code yX4_addToHeaps cX4_addToHeaps 5 none, Cond.methodLink RX8 163 yX4_isOver, Cond.instanceMethod yX4_isOver]
def wsX8_move_r8 : List Cond := [Cond.selects RX4 yX4_isOver yX4_isOver, Cond.code yX4_isOver cX4_isOver 1 (some .boolean)]
def wsX8_move : List Cond := .code yX8_move cX8_move 4 (some .int) :: ((wsX8_move_r1 ++ (wsX8_move_r2 ++ (wsX8_move_r3 ++ (wsX8_move_r4 ++ (wsX8_move_r5 ++ (wsX8_move_r6 ++ (wsX8_move_r7 ++ wsX8_move_r8))))))) ++ wsX80 ++ wsX40 ++ wsX20 ++ wsX70 ++ wsX60 ++ wsX30 ++ wsX50 ++ wsX10 ++ wsX00)
def wsX8_undo_r1 : List Cond := [Cond.fieldLink RX8 21 "GoldHeaps" "play" "LGoldHeaps$Play;", Cond.methodLink RX8 167 yX4_takeBack, Cond.instanceMethod yX4_takeBack, Cond.selects RX4 yX4_takeBack yX4_takeBack, Cond.initialized RX4, Cond.code yX4_takeBack cX4_takeBack 1 (some .boolean), Cond.fieldLink RX4 41 "GoldHeaps$Play" "made" "I", Cond.fieldLink RX4 15 "GoldHeaps$Play" "whichMoved" "[I", Cond.fieldLink RX4 19 "GoldHeaps$Play" "manyTaken" "[J", Cond.methodLink RX4 60 yX4_addToHeaps, Cond.instanceMethod yX4_addToHeaps, Cond.selects RX4 yX4_addToHeaps yX4_addToHeaps, Cond.code yX4_addToHeaps cX4_addToHeaps 5 none, Cond.fieldLink RX4 11 "GoldHeaps$Play" "heaps" "[J", Cond.methodLink RX4 44 yX4_heapCount, Cond.instanceMethod yX4_heapCount, Cond.selects RX4 yX4_heapCount yX4_heapCount, Cond.code yX4_heapCount cX4_heapCount 1 (some .int), Cond.fieldLink RX4 26 "GoldHeaps$Play" "game" "I", Cond.methodLink RX4 48 yX4_takesFrom, Cond.instanceMethod yX4_takesFrom, Cond.selects RX4 yX4_takesFrom yX4_takesFrom, Cond.code yX4_takesFrom cX4_takesFrom 3 (some .boolean), Cond.methodLink RX8 170 yX4_movesMade]
def wsX8_undo_r2 : List Cond := [Cond.instanceMethod yX4_movesMade, Cond.selects RX4 yX4_movesMade yX4_movesMade, Cond.code yX4_movesMade cX4_movesMade 1 (some .int)]
def wsX8_undo : List Cond := .code yX8_undo cX8_undo 1 (some .int) :: ((wsX8_undo_r1 ++ wsX8_undo_r2) ++ wsX80 ++ wsX40)
def wsX8_about_r1 : List Cond := [Cond.fieldLink RX8 21 "GoldHeaps" "play" "LGoldHeaps$Play;", Cond.methodLink RX8 173 yX4_tell, Cond.instanceMethod yX4_tell, Cond.selects RX4 yX4_tell yX4_tell, Cond.initialized RX4, Cond.code yX4_tell cX4_tell 2 (some .long), Cond.fieldLink RX4 11 "GoldHeaps$Play" "heaps" "[J", Cond.fieldLink RX4 41 "GoldHeaps$Play" "made" "I", Cond.fieldLink RX4 26 "GoldHeaps$Play" "game" "I", Cond.constantLong RX4 71 (-2), Cond.methodLink RX4 52 yX4_bound, Cond.instanceMethod yX4_bound, Cond.selects RX4 yX4_bound yX4_bound, Cond.code yX4_bound cX4_bound 1 (some .long), Cond.methodLink RX4 73 Lib.MathLoose.max_long.x, Cond.static Lib.MathLoose.max_long.x, Cond.initialized "java/lang/Math", Cond.code Lib.MathLoose.max_long.x Lib.MathLoose.max_long.code 4 (some .long), Cond.constantLong RX4 79 (1000000000000), Cond.fieldLink RX4 38 "GoldHeaps$Play" "t" "I", Cond.fieldLink RX4 19 "GoldHeaps$Play" "manyTaken" "[J", Cond.methodLink RX4 81 Lib.MathLoose.min_long.x, Cond.static Lib.MathLoose.min_long.x, Cond.code Lib.MathLoose.min_long.x Lib.MathLoose.min_long.code 4 (some .long)]
def wsX8_about_r2 : List Cond := [Cond.methodLink RX4 56 yX4_isWon, Cond.instanceMethod yX4_isWon, Cond.selects RX4 yX4_isWon yX4_isWon, Cond.code yX4_isWon cX4_isWon 1 (some .boolean), Cond.fieldLink RX4 30 "GoldHeaps$Play" "judge" "LGoldHeaps$Judge;", Cond.fieldLink RX4 34 "GoldHeaps$Play" "misere" "Z", Cond.methodLink RX4 90 yX7_isWon, Cond.instanceMethod yX7_isWon, Cond.selects RX7 yX7_isWon yX7_isWon, Cond.initialized RX7, Cond.code yX7_isWon cX7_isWon 6 (some .boolean), Cond.methodLink RX7 20 yX7_leastTaken, Cond.instanceMethod yX7_leastTaken, Cond.selects RX7 yX7_leastTaken yX7_leastTaken, Cond.code yX7_leastTaken cX7_leastTaken 8 (some .long), Cond.methodLink RX7 24 yX7_sumsBy, Cond.instanceMethod yX7_sumsBy, Cond.selects RX7 yX7_sumsBy yX7_sumsBy, Cond.code yX7_sumsBy cX7_sumsBy 4 (some (.object "GoldHeaps$Sums")), Cond.fieldLink RX7 11 "GoldHeaps$TimesGame" "sumsMade" "[LGoldHeaps$Sums;", Cond.classLink RX7 9 RX6, Cond.instantiable RX6 2, Cond.initialized RX6, Cond.methodLink RX7 17 yX6_init]
def wsX8_about_r3 : List Cond := [Cond.instanceMethod yX6_init, Cond.code yX6_init cX6_init 6 none, Cond.methodLink RX6 3 objectInit, Cond.instanceMethod objectInit, Cond.code objectInit ⟨#[0xb1]⟩ 1 none, Cond.arrayClass .long, Cond.fieldLink RX6 11 "GoldHeaps$Sums" "numbers" "[J", Cond.constantLong RX6 15 (1000000000000), Cond.fieldLink RX6 17 "GoldHeaps$Sums" "size" "I", Cond.methodLink RX7 28 yX6_endOf, Cond.instanceMethod yX6_endOf, Cond.selects RX6 yX6_endOf yX6_endOf, Cond.code yX6_endOf cX6_endOf 8 (some .long), Cond.methodLink RX4 95 yX2_tableOf, Cond.instanceMethod yX2_tableOf, Cond.selects RX2 yX2_tableOf yX2_tableOf, Cond.initialized RX2, Cond.code yX2_tableOf cX2_tableOf 5 (some (.object "GoldHeaps$LostTable")), Cond.constantLong RX2 53 (3), Cond.fieldLink RX2 11 "GoldHeaps$Judge" "tablesMade" "[LGoldHeaps$LostTable;", Cond.classLink RX2 9 RX3, Cond.instantiable RX3 2, Cond.initialized RX3, Cond.static yX8_isWithin]
def wsX8_about_r4 : List Cond := [Cond.initialized RX8, Cond.code yX8_isWithin cX8_isWithin 6 (some .boolean), Cond.static yX8_oneIf, Cond.code yX8_oneIf cX8_oneIf 1 (some .int), Cond.methodLink RX2 63 yX3_init, Cond.instanceMethod yX3_init, Cond.code yX3_init cX3_init 3 none, Cond.methodLink RX3 3 objectInit, Cond.fieldLink RX3 9 "GoldHeaps$LostTable" "ofThree" "Z", Cond.fieldLink RX3 15 "GoldHeaps$LostTable" "lines" "[J", Cond.methodLink RX3 19 yX3_fillThree, Cond.static yX3_fillThree, Cond.code yX3_fillThree cX3_fillThree 5 none, Cond.methodLink RX3 52 yX3_wonByTaking, Cond.static yX3_wonByTaking, Cond.code yX3_wonByTaking cX3_wonByTaking 7 (some .long), Cond.methodLink RX3 48 yX3_lostInLine, Cond.static yX3_lostInLine, Cond.code yX3_lostInLine cX3_lostInLine 8 (some .long), Cond.constantLong RX3 56 (-1), Cond.methodLink RX3 23 yX3_fillBoth, Cond.static yX3_fillBoth, Cond.code yX3_fillBoth cX3_fillBoth 7 none, Cond.methodLink RX3 26 yX3_fillShares]
def wsX8_about_r5 : List Cond := [Cond.static yX3_fillShares, Cond.code yX3_fillShares cX3_fillShares 6 none, Cond.methodLink RX3 35 Lib.Math.min.name, Cond.static Lib.Math.min.name, Cond.code Lib.Math.min.name Lib.Math.min.code 2 (some .int), Cond.methodLink RX3 41 Lib.Math.max.name, Cond.static Lib.Math.max.name, Cond.code Lib.Math.max.name Lib.Math.max.code 2 (some .int), Cond.methodLink RX3 44 yX3_sharesReach, Cond.static yX3_sharesReach, Cond.code yX3_sharesReach cX3_sharesReach 5 (some .boolean), Cond.methodLink RX4 99 yX3_has, Cond.instanceMethod yX3_has, Cond.selects RX3 yX3_has yX3_has, Cond.code yX3_has cX3_has 6 (some .boolean), Cond.methodLink RX4 109 yX5_isWon, Cond.instanceMethod yX5_isWon, Cond.selects RX5 yX5_isWon yX5_isWon, Cond.initialized RX5, Cond.code yX5_isWon cX5_isWon 9 (some .boolean), Cond.methodLink RX5 13 Lib.MathLoose.max_long.x, Cond.methodLink RX5 19 Lib.MathLoose.min_long.x, Cond.fieldLink RX5 7 "GoldHeaps$SharesGame" "golden" "LGoldHeaps$Golden;", Cond.methodLink RX5 22 yX1_cut]
def wsX8_about_r6 : List Cond := [Cond.instanceMethod yX1_cut, Cond.selects RX1 yX1_cut yX1_cut, Cond.initialized RX1, Cond.code yX1_cut cX1_cut 3 (some .long), Cond.fieldLink RX1 7 "GoldHeaps$Golden" "fibonacci" "LGoldHeaps$Sums;", Cond.methodLink RX1 13 yX6_raised, Cond.instanceMethod yX6_raised, Cond.selects RX6 yX6_raised yX6_raised, Cond.code yX6_raised cX6_raised 8 (some .long), Cond.methodLink RX4 118 yX0_isWon, Cond.instanceMethod yX0_isWon, Cond.selects RX0 yX0_isWon yX0_isWon, Cond.initialized RX0, Cond.code yX0_isWon cX0_isWon 5 (some .boolean), Cond.methodLink RX0 19 Lib.MathLoose.min_long.x, Cond.methodLink RX0 15 yX0_lesserLostAlong, Cond.instanceMethod yX0_lesserLostAlong, Cond.selects RX0 yX0_lesserLostAlong yX0_lesserLostAlong, Cond.code yX0_lesserLostAlong cX0_lesserLostAlong 5 (some .long), Cond.fieldLink RX0 9 "GoldHeaps$BothGame" "golden" "LGoldHeaps$Golden;", Cond.methodLink RX0 30 Lib.MathLoose.abs_long.x, Cond.static Lib.MathLoose.abs_long.x, Cond.code Lib.MathLoose.abs_long.x Lib.MathLoose.abs_long.code 2 (some .long), Cond.methodLink RX0 33 yX1_cut]
def wsX8_about_r7 : List Cond := [Cond.methodLink RX4 68 yX4_faults, Cond.instanceMethod yX4_faults, Cond.selects RX4 yX4_faults yX4_faults, Cond.code yX4_faults cX4_faults 3 (some .int), Cond.fieldLink RX4 22 "GoldHeaps$Play" "wasFault" "[Z"]
def wsX8_about : List Cond := .code yX8_about cX8_about 2 (some .long) :: ((wsX8_about_r1 ++ (wsX8_about_r2 ++ (wsX8_about_r3 ++ (wsX8_about_r4 ++ (wsX8_about_r5 ++ (wsX8_about_r6 ++ wsX8_about_r7)))))) ++ wsX80 ++ wsX40 ++ wsX20 ++ wsX70 ++ wsX60 ++ wsX30 ++ wsX50 ++ wsX10 ++ wsX00)
def wsX8_digest_r1 : List Cond := [Cond.constantLong RX8 176 (227), Cond.constantLong RX8 178 (31), Cond.fieldLink RX8 21 "GoldHeaps" "play" "LGoldHeaps$Play;", Cond.methodLink RX8 173 yX4_tell, Cond.instanceMethod yX4_tell, Cond.selects RX4 yX4_tell yX4_tell, Cond.initialized RX4, Cond.code yX4_tell cX4_tell 2 (some .long), Cond.fieldLink RX4 11 "GoldHeaps$Play" "heaps" "[J", Cond.fieldLink RX4 41 "GoldHeaps$Play" "made" "I", Cond.fieldLink RX4 26 "GoldHeaps$Play" "game" "I", Cond.constantLong RX4 71 (-2), Cond.methodLink RX4 52 yX4_bound, Cond.instanceMethod yX4_bound, Cond.selects RX4 yX4_bound yX4_bound, Cond.code yX4_bound cX4_bound 1 (some .long), Cond.methodLink RX4 73 Lib.MathLoose.max_long.x, Cond.static Lib.MathLoose.max_long.x, Cond.initialized "java/lang/Math", Cond.code Lib.MathLoose.max_long.x Lib.MathLoose.max_long.code 4 (some .long), Cond.constantLong RX4 79 (1000000000000), Cond.fieldLink RX4 38 "GoldHeaps$Play" "t" "I", Cond.fieldLink RX4 19 "GoldHeaps$Play" "manyTaken" "[J", Cond.methodLink RX4 81 Lib.MathLoose.min_long.x]
def wsX8_digest_r2 : List Cond := [Cond.static Lib.MathLoose.min_long.x, Cond.code Lib.MathLoose.min_long.x Lib.MathLoose.min_long.code 4 (some .long), Cond.methodLink RX4 56 yX4_isWon, Cond.instanceMethod yX4_isWon, Cond.selects RX4 yX4_isWon yX4_isWon, Cond.code yX4_isWon cX4_isWon 1 (some .boolean), Cond.fieldLink RX4 30 "GoldHeaps$Play" "judge" "LGoldHeaps$Judge;", Cond.fieldLink RX4 34 "GoldHeaps$Play" "misere" "Z", Cond.methodLink RX4 90 yX7_isWon, Cond.instanceMethod yX7_isWon, Cond.selects RX7 yX7_isWon yX7_isWon, Cond.initialized RX7, Cond.code yX7_isWon cX7_isWon 6 (some .boolean), Cond.methodLink RX7 20 yX7_leastTaken, Cond.instanceMethod yX7_leastTaken, Cond.selects RX7 yX7_leastTaken yX7_leastTaken, Cond.code yX7_leastTaken cX7_leastTaken 8 (some .long), Cond.methodLink RX7 24 yX7_sumsBy, Cond.instanceMethod yX7_sumsBy, Cond.selects RX7 yX7_sumsBy yX7_sumsBy, Cond.code yX7_sumsBy cX7_sumsBy 4 (some (.object "GoldHeaps$Sums")), Cond.fieldLink RX7 11 "GoldHeaps$TimesGame" "sumsMade" "[LGoldHeaps$Sums;", Cond.classLink RX7 9 RX6, Cond.instantiable RX6 2]
def wsX8_digest_r3 : List Cond := [Cond.initialized RX6, Cond.methodLink RX7 17 yX6_init, Cond.instanceMethod yX6_init, Cond.code yX6_init cX6_init 6 none, Cond.methodLink RX6 3 objectInit, Cond.instanceMethod objectInit, Cond.code objectInit ⟨#[0xb1]⟩ 1 none, Cond.arrayClass .long, Cond.fieldLink RX6 11 "GoldHeaps$Sums" "numbers" "[J", Cond.constantLong RX6 15 (1000000000000), Cond.fieldLink RX6 17 "GoldHeaps$Sums" "size" "I", Cond.methodLink RX7 28 yX6_endOf, Cond.instanceMethod yX6_endOf, Cond.selects RX6 yX6_endOf yX6_endOf, Cond.code yX6_endOf cX6_endOf 8 (some .long), Cond.methodLink RX4 95 yX2_tableOf, Cond.instanceMethod yX2_tableOf, Cond.selects RX2 yX2_tableOf yX2_tableOf, Cond.initialized RX2, Cond.code yX2_tableOf cX2_tableOf 5 (some (.object "GoldHeaps$LostTable")), Cond.constantLong RX2 53 (3), Cond.fieldLink RX2 11 "GoldHeaps$Judge" "tablesMade" "[LGoldHeaps$LostTable;", Cond.classLink RX2 9 RX3, Cond.instantiable RX3 2]
def wsX8_digest_r4 : List Cond := [Cond.initialized RX3, Cond.static yX8_isWithin, Cond.initialized RX8, Cond.code yX8_isWithin cX8_isWithin 6 (some .boolean), Cond.static yX8_oneIf, Cond.code yX8_oneIf cX8_oneIf 1 (some .int), Cond.methodLink RX2 63 yX3_init, Cond.instanceMethod yX3_init, Cond.code yX3_init cX3_init 3 none, Cond.methodLink RX3 3 objectInit, Cond.fieldLink RX3 9 "GoldHeaps$LostTable" "ofThree" "Z", Cond.fieldLink RX3 15 "GoldHeaps$LostTable" "lines" "[J", Cond.methodLink RX3 19 yX3_fillThree, Cond.static yX3_fillThree, Cond.code yX3_fillThree cX3_fillThree 5 none, Cond.methodLink RX3 52 yX3_wonByTaking, Cond.static yX3_wonByTaking, Cond.code yX3_wonByTaking cX3_wonByTaking 7 (some .long), Cond.methodLink RX3 48 yX3_lostInLine, Cond.static yX3_lostInLine, Cond.code yX3_lostInLine cX3_lostInLine 8 (some .long), Cond.constantLong RX3 56 (-1), Cond.methodLink RX3 23 yX3_fillBoth, Cond.static yX3_fillBoth]
def wsX8_digest_r5 : List Cond := [Cond.code yX3_fillBoth cX3_fillBoth 7 none, Cond.methodLink RX3 26 yX3_fillShares, Cond.static yX3_fillShares, Cond.code yX3_fillShares cX3_fillShares 6 none, Cond.methodLink RX3 35 Lib.Math.min.name, Cond.static Lib.Math.min.name, Cond.code Lib.Math.min.name Lib.Math.min.code 2 (some .int), Cond.methodLink RX3 41 Lib.Math.max.name, Cond.static Lib.Math.max.name, Cond.code Lib.Math.max.name Lib.Math.max.code 2 (some .int), Cond.methodLink RX3 44 yX3_sharesReach, Cond.static yX3_sharesReach, Cond.code yX3_sharesReach cX3_sharesReach 5 (some .boolean), Cond.methodLink RX4 99 yX3_has, Cond.instanceMethod yX3_has, Cond.selects RX3 yX3_has yX3_has, Cond.code yX3_has cX3_has 6 (some .boolean), Cond.methodLink RX4 109 yX5_isWon, Cond.instanceMethod yX5_isWon, Cond.selects RX5 yX5_isWon yX5_isWon, Cond.initialized RX5, Cond.code yX5_isWon cX5_isWon 9 (some .boolean), Cond.methodLink RX5 13 Lib.MathLoose.max_long.x, Cond.methodLink RX5 19 Lib.MathLoose.min_long.x]
def wsX8_digest_r6 : List Cond := [Cond.fieldLink RX5 7 "GoldHeaps$SharesGame" "golden" "LGoldHeaps$Golden;", Cond.methodLink RX5 22 yX1_cut, Cond.instanceMethod yX1_cut, Cond.selects RX1 yX1_cut yX1_cut, Cond.initialized RX1, Cond.code yX1_cut cX1_cut 3 (some .long), Cond.fieldLink RX1 7 "GoldHeaps$Golden" "fibonacci" "LGoldHeaps$Sums;", Cond.methodLink RX1 13 yX6_raised, Cond.instanceMethod yX6_raised, Cond.selects RX6 yX6_raised yX6_raised, Cond.code yX6_raised cX6_raised 8 (some .long), Cond.methodLink RX4 118 yX0_isWon, Cond.instanceMethod yX0_isWon, Cond.selects RX0 yX0_isWon yX0_isWon, Cond.initialized RX0, Cond.code yX0_isWon cX0_isWon 5 (some .boolean), Cond.methodLink RX0 19 Lib.MathLoose.min_long.x, Cond.methodLink RX0 15 yX0_lesserLostAlong, Cond.instanceMethod yX0_lesserLostAlong, Cond.selects RX0 yX0_lesserLostAlong yX0_lesserLostAlong, Cond.code yX0_lesserLostAlong cX0_lesserLostAlong 5 (some .long), Cond.fieldLink RX0 9 "GoldHeaps$BothGame" "golden" "LGoldHeaps$Golden;", Cond.methodLink RX0 30 Lib.MathLoose.abs_long.x, Cond.static Lib.MathLoose.abs_long.x]
def wsX8_digest_r7 : List Cond := [Cond.code Lib.MathLoose.abs_long.x Lib.MathLoose.abs_long.code 2 (some .long), Cond.methodLink RX0 33 yX1_cut, Cond.methodLink RX4 68 yX4_faults, Cond.instanceMethod yX4_faults, Cond.selects RX4 yX4_faults yX4_faults, Cond.code yX4_faults cX4_faults 3 (some .int), Cond.fieldLink RX4 22 "GoldHeaps$Play" "wasFault" "[Z"]
def wsX8_digest : List Cond := .code yX8_digest cX8_digest 4 (some .long) :: ((wsX8_digest_r1 ++ (wsX8_digest_r2 ++ (wsX8_digest_r3 ++ (wsX8_digest_r4 ++ (wsX8_digest_r5 ++ (wsX8_digest_r6 ++ wsX8_digest_r7)))))) ++ wsX80 ++ wsX40 ++ wsX20 ++ wsX70 ++ wsX60 ++ wsX30 ++ wsX50 ++ wsX10 ++ wsX00)
def wsX9_init : List Cond := .code yX9_init cX9_init 2 none :: ([.methodLink RX9 1 objectInit, .instanceMethod objectInit, .code objectInit ⟨#[0xb1]⟩ 1 none, .arrayClass .long, .fieldLink RX9 7 "GoldHeapsModel" "fib" "[J", .fieldLink RX9 13 "GoldHeapsModel" "row" "[J", .arrayClass .boolean, .fieldLink RX9 16 "GoldHeapsModel" "won" "[Z", .fieldLink RX9 20 "GoldHeapsModel" "isOver" "[Z", .fieldLink RX9 23 "GoldHeapsModel" "three" "[Z", .fieldLink RX9 26 "GoldHeapsModel" "isThree" "[Z", .fieldLink RX9 29 "GoldHeapsModel" "timed" "[Z", .fieldLink RX9 32 "GoldHeapsModel" "game" "I", .fieldLink RX9 36 "GoldHeapsModel" "heaps" "[J", .fieldLink RX9 39 "GoldHeapsModel" "bounds" "[J", .arrayClass .int, .fieldLink RX9 42 "GoldHeapsModel" "faults" "[I", .constantLong RX9 46 (2)] ++ wsX90)
def wsX9_in : List Cond := .code yX9_in cX9_in 6 (some .boolean) :: ([])
def wsX9_isHeap : List Cond := .code yX9_isHeap cX9_isHeap 2 (some .boolean) :: ([.constantLong RX9 48 (1000000000000), .methodLink RX9 50 yX9_in, .static yX9_in, .initialized RX9, .code yX9_in cX9_in 6 (some .boolean)])
def wsX9_isShares : List Cond := .code yX9_isShares cX9_isShares 11 (some .boolean) :: ([.constantLong RX9 46 (2)])
def wsX9_shares : List Cond := .code yX9_shares cX9_shares 5 (some .int) :: ([.methodLink RX9 54 yX9_isHeap, .static yX9_isHeap, .initialized RX9, .code yX9_isHeap cX9_isHeap 2 (some .boolean), .constantLong RX9 48 (1000000000000), .methodLink RX9 50 yX9_in, .static yX9_in, .code yX9_in cX9_in 6 (some .boolean), .methodLink RX9 58 yX9_isShares, .static yX9_isShares, .code yX9_isShares cX9_isShares 11 (some .boolean), .constantLong RX9 46 (2)])
def wsX9_sharesMove : List Cond := .code yX9_sharesMove cX9_sharesMove 11 (some .long) :: ([.constantLong RX9 62 (-2), .methodLink RX9 54 yX9_isHeap, .static yX9_isHeap, .initialized RX9, .code yX9_isHeap cX9_isHeap 2 (some .boolean), .constantLong RX9 48 (1000000000000), .methodLink RX9 50 yX9_in, .static yX9_in, .code yX9_in cX9_in 6 (some .boolean), .methodLink RX9 58 yX9_isShares, .static yX9_isShares, .code yX9_isShares cX9_isShares 11 (some .boolean), .constantLong RX9 46 (2)])
def wsX9_lesser : List Cond := .code yX9_lesser cX9_lesser 8 (some .long) :: ([.fieldLink RX9 7 "GoldHeapsModel" "fib" "[J"] ++ wsX90)
def wsX9_isBoth : List Cond := .code yX9_isBoth cX9_isBoth 5 (some .boolean) :: ([.methodLink RX9 64 yX9_lesser, .instanceMethod yX9_lesser, .selects RX9 yX9_lesser yX9_lesser, .initialized RX9, .code yX9_lesser cX9_lesser 8 (some .long), .fieldLink RX9 7 "GoldHeapsModel" "fib" "[J"] ++ wsX90)
def wsX9_both : List Cond := .code yX9_both cX9_both 5 (some .int) :: ([.methodLink RX9 54 yX9_isHeap, .static yX9_isHeap, .initialized RX9, .code yX9_isHeap cX9_isHeap 2 (some .boolean), .constantLong RX9 48 (1000000000000), .methodLink RX9 50 yX9_in, .static yX9_in, .code yX9_in cX9_in 6 (some .boolean), .methodLink RX9 68 yX9_isBoth, .instanceMethod yX9_isBoth, .selects RX9 yX9_isBoth yX9_isBoth, .code yX9_isBoth cX9_isBoth 5 (some .boolean), .methodLink RX9 64 yX9_lesser, .instanceMethod yX9_lesser, .selects RX9 yX9_lesser yX9_lesser, .code yX9_lesser cX9_lesser 8 (some .long), .fieldLink RX9 7 "GoldHeapsModel" "fib" "[J"] ++ wsX90)
def wsX9_find : List Cond := .code yX9_find cX9_find 9 none :: ([.constantLong RX9 46 (2), .fieldLink RX9 71 "GoldHeapsModel" "foundK" "J", .fieldLink RX9 75 "GoldHeapsModel" "foundLesser" "Z", .methodLink RX9 64 yX9_lesser, .instanceMethod yX9_lesser, .selects RX9 yX9_lesser yX9_lesser, .initialized RX9, .code yX9_lesser cX9_lesser 8 (some .long), .fieldLink RX9 7 "GoldHeapsModel" "fib" "[J"] ++ wsX90)
def wsX9_partner : List Cond := .code yX9_partner cX9_partner 3 (some .long) :: ([.fieldLink RX9 75 "GoldHeapsModel" "foundLesser" "Z", .fieldLink RX9 71 "GoldHeapsModel" "foundK" "J", .methodLink RX9 79 yX9_find, .instanceMethod yX9_find, .selects RX9 yX9_find yX9_find, .initialized RX9, .code yX9_find cX9_find 9 none, .constantLong RX9 46 (2), .methodLink RX9 64 yX9_lesser, .instanceMethod yX9_lesser, .selects RX9 yX9_lesser yX9_lesser, .code yX9_lesser cX9_lesser 8 (some .long), .fieldLink RX9 7 "GoldHeapsModel" "fib" "[J"] ++ wsX90)
def wsX9_bothMove_r1 : List Cond := [Cond.constantLong RX9 62 (-2), Cond.constantLong RX9 46 (2), Cond.constantLong RX9 86 (-1), Cond.methodLink RX9 54 yX9_isHeap, Cond.static yX9_isHeap, Cond.initialized RX9, Cond.code yX9_isHeap cX9_isHeap 2 (some .boolean), Cond.constantLong RX9 48 (1000000000000), Cond.methodLink RX9 50 yX9_in, Cond.static yX9_in, Cond.code yX9_in cX9_in 6 (some .boolean), Cond.methodLink RX9 83 yX9_partner, Cond.instanceMethod yX9_partner, Cond.selects RX9 yX9_partner yX9_partner, Cond.code yX9_partner cX9_partner 3 (some .long), Cond.fieldLink RX9 75 "GoldHeapsModel" "foundLesser" "Z", Cond.fieldLink RX9 71 "GoldHeapsModel" "foundK" "J", Cond.methodLink RX9 79 yX9_find, Cond.instanceMethod yX9_find, Cond.selects RX9 yX9_find yX9_find, Cond.code yX9_find cX9_find 9 none, Cond.methodLink RX9 64 yX9_lesser, Cond.instanceMethod yX9_lesser, Cond.selects RX9 yX9_lesser yX9_lesser]
def wsX9_bothMove_r2 : List Cond := [Cond.code yX9_lesser cX9_lesser 8 (some .long), Cond.fieldLink RX9 7 "GoldHeapsModel" "fib" "[J"]
def wsX9_bothMove : List Cond := .code yX9_bothMove cX9_bothMove 12 (some .long) :: ((wsX9_bothMove_r1 ++ wsX9_bothMove_r2) ++ wsX90)
def wsX9_lost : List Cond := .code yX9_lost cX9_lost 4 (some .long) :: ([.constantLong RX9 88 (300000000000), .constantLong RX9 62 (-2), .methodLink RX9 50 yX9_in, .static yX9_in, .initialized RX9, .code yX9_in cX9_in 6 (some .boolean), .methodLink RX9 64 yX9_lesser, .instanceMethod yX9_lesser, .selects RX9 yX9_lesser yX9_lesser, .code yX9_lesser cX9_lesser 8 (some .long), .fieldLink RX9 7 "GoldHeapsModel" "fib" "[J"] ++ wsX90)
def wsX9_lostOf : List Cond := .code yX9_lostOf cX9_lostOf 4 (some .long) :: ([.constantLong RX9 62 (-2), .fieldLink RX9 71 "GoldHeapsModel" "foundK" "J", .fieldLink RX9 75 "GoldHeapsModel" "foundLesser" "Z", .methodLink RX9 54 yX9_isHeap, .static yX9_isHeap, .initialized RX9, .code yX9_isHeap cX9_isHeap 2 (some .boolean), .constantLong RX9 48 (1000000000000), .methodLink RX9 50 yX9_in, .static yX9_in, .code yX9_in cX9_in 6 (some .boolean), .methodLink RX9 79 yX9_find, .instanceMethod yX9_find, .selects RX9 yX9_find yX9_find, .code yX9_find cX9_find 9 none, .constantLong RX9 46 (2), .methodLink RX9 64 yX9_lesser, .instanceMethod yX9_lesser, .selects RX9 yX9_lesser yX9_lesser, .code yX9_lesser cX9_lesser 8 (some .long), .fieldLink RX9 7 "GoldHeapsModel" "fib" "[J"] ++ wsX90)
def wsX9_findRow : List Cond := .code yX9_findRow cX9_findRow 5 none :: ([.fieldLink RX9 13 "GoldHeapsModel" "row" "[J", .fieldLink RX9 90 "GoldHeapsModel" "rowMany" "I", .constantLong RX9 48 (1000000000000)] ++ wsX90)
def wsX9_isBy : List Cond := .code yX9_isBy cX9_isBy 1 (some .boolean) :: ([.constantLong RX9 93 (9), .methodLink RX9 50 yX9_in, .static yX9_in, .initialized RX9, .code yX9_in cX9_in 6 (some .boolean)])
def wsX9_row : List Cond := .code yX9_row cX9_row 3 (some .long) :: ([.constantLong RX9 62 (-2), .fieldLink RX9 90 "GoldHeapsModel" "rowMany" "I", .fieldLink RX9 13 "GoldHeapsModel" "row" "[J", .constantLong RX9 86 (-1), .methodLink RX9 95 yX9_isBy, .static yX9_isBy, .initialized RX9, .code yX9_isBy cX9_isBy 1 (some .boolean), .constantLong RX9 93 (9), .methodLink RX9 50 yX9_in, .static yX9_in, .code yX9_in cX9_in 6 (some .boolean), .methodLink RX9 99 yX9_findRow, .instanceMethod yX9_findRow, .selects RX9 yX9_findRow yX9_findRow, .code yX9_findRow cX9_findRow 5 none, .constantLong RX9 48 (1000000000000)] ++ wsX90)
def wsX9_lastOf : List Cond := .code yX9_lastOf cX9_lastOf 9 (some .long) :: ([.fieldLink RX9 103 "GoldHeapsModel" "digitMany" "I", .fieldLink RX9 90 "GoldHeapsModel" "rowMany" "I", .fieldLink RX9 13 "GoldHeapsModel" "row" "[J", .methodLink RX9 99 yX9_findRow, .instanceMethod yX9_findRow, .selects RX9 yX9_findRow yX9_findRow, .initialized RX9, .code yX9_findRow cX9_findRow 5 none, .constantLong RX9 48 (1000000000000)] ++ wsX90)
def wsX9_digits : List Cond := .code yX9_digits cX9_digits 6 (some .int) :: ([.fieldLink RX9 103 "GoldHeapsModel" "digitMany" "I", .methodLink RX9 95 yX9_isBy, .static yX9_isBy, .initialized RX9, .code yX9_isBy cX9_isBy 1 (some .boolean), .constantLong RX9 93 (9), .methodLink RX9 50 yX9_in, .static yX9_in, .code yX9_in cX9_in 6 (some .boolean), .methodLink RX9 54 yX9_isHeap, .static yX9_isHeap, .code yX9_isHeap cX9_isHeap 2 (some .boolean), .constantLong RX9 48 (1000000000000), .methodLink RX9 106 yX9_lastOf, .instanceMethod yX9_lastOf, .selects RX9 yX9_lastOf yX9_lastOf, .code yX9_lastOf cX9_lastOf 9 (some .long), .fieldLink RX9 90 "GoldHeapsModel" "rowMany" "I", .fieldLink RX9 13 "GoldHeapsModel" "row" "[J", .methodLink RX9 99 yX9_findRow, .instanceMethod yX9_findRow, .selects RX9 yX9_findRow yX9_findRow, .code yX9_findRow cX9_findRow 5 none] ++ wsX90)
def wsX9_last : List Cond := .code yX9_last cX9_last 4 (some .long) :: ([.constantLong RX9 48 (1000000000000), .constantLong RX9 62 (-2), .methodLink RX9 95 yX9_isBy, .static yX9_isBy, .initialized RX9, .code yX9_isBy cX9_isBy 1 (some .boolean), .constantLong RX9 93 (9), .methodLink RX9 50 yX9_in, .static yX9_in, .code yX9_in cX9_in 6 (some .boolean), .methodLink RX9 106 yX9_lastOf, .instanceMethod yX9_lastOf, .selects RX9 yX9_lastOf yX9_lastOf, .code yX9_lastOf cX9_lastOf 9 (some .long), .fieldLink RX9 103 "GoldHeapsModel" "digitMany" "I", .fieldLink RX9 90 "GoldHeapsModel" "rowMany" "I", .fieldLink RX9 13 "GoldHeapsModel" "row" "[J", .methodLink RX9 99 yX9_findRow, .instanceMethod yX9_findRow, .selects RX9 yX9_findRow yX9_findRow, .code yX9_findRow cX9_findRow 5 none] ++ wsX90)
def wsX9_isTimes : List Cond := .code yX9_isTimes cX9_isTimes 6 (some .boolean) :: ([.methodLink RX9 106 yX9_lastOf, .instanceMethod yX9_lastOf, .selects RX9 yX9_lastOf yX9_lastOf, .initialized RX9, .code yX9_lastOf cX9_lastOf 9 (some .long), .fieldLink RX9 103 "GoldHeapsModel" "digitMany" "I", .fieldLink RX9 90 "GoldHeapsModel" "rowMany" "I", .fieldLink RX9 13 "GoldHeapsModel" "row" "[J", .methodLink RX9 99 yX9_findRow, .instanceMethod yX9_findRow, .selects RX9 yX9_findRow yX9_findRow, .code yX9_findRow cX9_findRow 5 none, .constantLong RX9 48 (1000000000000)] ++ wsX90)
def wsX9_times_r1 : List Cond := [Cond.methodLink RX9 95 yX9_isBy, Cond.static yX9_isBy, Cond.initialized RX9, Cond.code yX9_isBy cX9_isBy 1 (some .boolean), Cond.constantLong RX9 93 (9), Cond.methodLink RX9 50 yX9_in, Cond.static yX9_in, Cond.code yX9_in cX9_in 6 (some .boolean), Cond.methodLink RX9 54 yX9_isHeap, Cond.static yX9_isHeap, Cond.code yX9_isHeap cX9_isHeap 2 (some .boolean), Cond.constantLong RX9 48 (1000000000000), Cond.methodLink RX9 110 yX9_isTimes, Cond.instanceMethod yX9_isTimes, Cond.selects RX9 yX9_isTimes yX9_isTimes, Cond.code yX9_isTimes cX9_isTimes 6 (some .boolean), Cond.methodLink RX9 106 yX9_lastOf, Cond.instanceMethod yX9_lastOf, Cond.selects RX9 yX9_lastOf yX9_lastOf, Cond.code yX9_lastOf cX9_lastOf 9 (some .long), Cond.fieldLink RX9 103 "GoldHeapsModel" "digitMany" "I", Cond.fieldLink RX9 90 "GoldHeapsModel" "rowMany" "I", Cond.fieldLink RX9 13 "GoldHeapsModel" "row" "[J", Cond.methodLink RX9 99 yX9_findRow]
def wsX9_times_r2 : List Cond := [Cond.instanceMethod yX9_findRow, Cond.selects RX9 yX9_findRow yX9_findRow, Cond.code yX9_findRow cX9_findRow 5 none]
def wsX9_times : List Cond := .code yX9_times cX9_times 6 (some .int) :: ((wsX9_times_r1 ++ wsX9_times_r2) ++ wsX90)
def wsX9_timesMove_r1 : List Cond := [Cond.constantLong RX9 62 (-2), Cond.methodLink RX9 95 yX9_isBy, Cond.static yX9_isBy, Cond.initialized RX9, Cond.code yX9_isBy cX9_isBy 1 (some .boolean), Cond.constantLong RX9 93 (9), Cond.methodLink RX9 50 yX9_in, Cond.static yX9_in, Cond.code yX9_in cX9_in 6 (some .boolean), Cond.methodLink RX9 54 yX9_isHeap, Cond.static yX9_isHeap, Cond.code yX9_isHeap cX9_isHeap 2 (some .boolean), Cond.constantLong RX9 48 (1000000000000), Cond.methodLink RX9 110 yX9_isTimes, Cond.instanceMethod yX9_isTimes, Cond.selects RX9 yX9_isTimes yX9_isTimes, Cond.code yX9_isTimes cX9_isTimes 6 (some .boolean), Cond.methodLink RX9 106 yX9_lastOf, Cond.instanceMethod yX9_lastOf, Cond.selects RX9 yX9_lastOf yX9_lastOf, Cond.code yX9_lastOf cX9_lastOf 9 (some .long), Cond.fieldLink RX9 103 "GoldHeapsModel" "digitMany" "I", Cond.fieldLink RX9 90 "GoldHeapsModel" "rowMany" "I", Cond.fieldLink RX9 13 "GoldHeapsModel" "row" "[J"]
def wsX9_timesMove_r2 : List Cond := [Cond.methodLink RX9 99 yX9_findRow, Cond.instanceMethod yX9_findRow, Cond.selects RX9 yX9_findRow yX9_findRow, Cond.code yX9_findRow cX9_findRow 5 none]
def wsX9_timesMove : List Cond := .code yX9_timesMove cX9_timesMove 6 (some .long) :: ((wsX9_timesMove_r1 ++ wsX9_timesMove_r2) ++ wsX90)
def wsX9_goShares : List Cond := .code yX9_goShares cX9_goShares 7 (some .boolean) :: ([.fieldLink RX9 16 "GoldHeapsModel" "won" "[Z"] ++ wsX90)
def wsX9_goBoth : List Cond := .code yX9_goBoth cX9_goBoth 7 (some .boolean) :: ([.fieldLink RX9 16 "GoldHeapsModel" "won" "[Z"] ++ wsX90)
def wsX9_wonAt : List Cond := .code yX9_wonAt cX9_wonAt 8 (some .boolean) :: ([.fieldLink RX9 20 "GoldHeapsModel" "isOver" "[Z", .fieldLink RX9 16 "GoldHeapsModel" "won" "[Z", .methodLink RX9 114 yX9_goShares, .instanceMethod yX9_goShares, .selects RX9 yX9_goShares yX9_goShares, .initialized RX9, .code yX9_goShares cX9_goShares 7 (some .boolean), .methodLink RX9 118 yX9_goBoth, .instanceMethod yX9_goBoth, .selects RX9 yX9_goBoth yX9_goBoth, .code yX9_goBoth cX9_goBoth 7 (some .boolean)] ++ wsX90)
def wsX9_goThree : List Cond := .code yX9_goThree cX9_goThree 9 (some .boolean) :: ([.fieldLink RX9 23 "GoldHeapsModel" "three" "[Z"] ++ wsX90)
def wsX9_threeAt : List Cond := .code yX9_threeAt cX9_threeAt 7 (some .boolean) :: ([.fieldLink RX9 26 "GoldHeapsModel" "isThree" "[Z", .fieldLink RX9 23 "GoldHeapsModel" "three" "[Z", .methodLink RX9 121 yX9_goThree, .instanceMethod yX9_goThree, .selects RX9 yX9_goThree yX9_goThree, .initialized RX9, .code yX9_goThree cX9_goThree 9 (some .boolean)] ++ wsX90)
def wsX9_byAll_r1 : List Cond := [Cond.constantLong RX9 125 (60), Cond.constantLong RX9 130 (10), Cond.methodLink RX9 50 yX9_in, Cond.static yX9_in, Cond.initialized RX9, Cond.code yX9_in cX9_in 6 (some .boolean), Cond.methodLink RX9 127 yX9_wonAt, Cond.instanceMethod yX9_wonAt, Cond.selects RX9 yX9_wonAt yX9_wonAt, Cond.code yX9_wonAt cX9_wonAt 8 (some .boolean), Cond.fieldLink RX9 20 "GoldHeapsModel" "isOver" "[Z", Cond.fieldLink RX9 16 "GoldHeapsModel" "won" "[Z", Cond.methodLink RX9 114 yX9_goShares, Cond.instanceMethod yX9_goShares, Cond.selects RX9 yX9_goShares yX9_goShares, Cond.code yX9_goShares cX9_goShares 7 (some .boolean), Cond.methodLink RX9 118 yX9_goBoth, Cond.instanceMethod yX9_goBoth, Cond.selects RX9 yX9_goBoth yX9_goBoth, Cond.code yX9_goBoth cX9_goBoth 7 (some .boolean), Cond.methodLink RX9 132 yX9_threeAt, Cond.instanceMethod yX9_threeAt, Cond.selects RX9 yX9_threeAt yX9_threeAt, Cond.code yX9_threeAt cX9_threeAt 7 (some .boolean)]
def wsX9_byAll_r2 : List Cond := [Cond.fieldLink RX9 26 "GoldHeapsModel" "isThree" "[Z", Cond.fieldLink RX9 23 "GoldHeapsModel" "three" "[Z", Cond.methodLink RX9 121 yX9_goThree, Cond.instanceMethod yX9_goThree, Cond.selects RX9 yX9_goThree yX9_goThree, Cond.code yX9_goThree cX9_goThree 9 (some .boolean)]
def wsX9_byAll : List Cond := .code yX9_byAll cX9_byAll 6 (some .int) :: ((wsX9_byAll_r1 ++ wsX9_byAll_r2) ++ wsX90)
def wsX9_lostUpTo_r1 : List Cond := [Cond.constantLong RX9 130 (10), Cond.constantLong RX9 125 (60), Cond.methodLink RX9 50 yX9_in, Cond.static yX9_in, Cond.initialized RX9, Cond.code yX9_in cX9_in 6 (some .boolean), Cond.methodLink RX9 132 yX9_threeAt, Cond.instanceMethod yX9_threeAt, Cond.selects RX9 yX9_threeAt yX9_threeAt, Cond.code yX9_threeAt cX9_threeAt 7 (some .boolean), Cond.fieldLink RX9 26 "GoldHeapsModel" "isThree" "[Z", Cond.fieldLink RX9 23 "GoldHeapsModel" "three" "[Z", Cond.methodLink RX9 121 yX9_goThree, Cond.instanceMethod yX9_goThree, Cond.selects RX9 yX9_goThree yX9_goThree, Cond.code yX9_goThree cX9_goThree 9 (some .boolean), Cond.methodLink RX9 127 yX9_wonAt, Cond.instanceMethod yX9_wonAt, Cond.selects RX9 yX9_wonAt yX9_wonAt, Cond.code yX9_wonAt cX9_wonAt 8 (some .boolean), Cond.fieldLink RX9 20 "GoldHeapsModel" "isOver" "[Z", Cond.fieldLink RX9 16 "GoldHeapsModel" "won" "[Z", Cond.methodLink RX9 114 yX9_goShares, Cond.instanceMethod yX9_goShares]
def wsX9_lostUpTo_r2 : List Cond := [Cond.selects RX9 yX9_goShares yX9_goShares, Cond.code yX9_goShares cX9_goShares 7 (some .boolean), Cond.methodLink RX9 118 yX9_goBoth, Cond.instanceMethod yX9_goBoth, Cond.selects RX9 yX9_goBoth yX9_goBoth, Cond.code yX9_goBoth cX9_goBoth 7 (some .boolean)]
def wsX9_lostUpTo : List Cond := .code yX9_lostUpTo cX9_lostUpTo 8 (some .int) :: ((wsX9_lostUpTo_r1 ++ wsX9_lostUpTo_r2) ++ wsX90)
def wsX9_timesByAll : List Cond := .code yX9_timesByAll cX9_timesByAll 9 (some .int) :: ([.constantLong RX9 125 (60), .fieldLink RX9 29 "GoldHeapsModel" "timed" "[Z", .methodLink RX9 95 yX9_isBy, .static yX9_isBy, .initialized RX9, .code yX9_isBy cX9_isBy 1 (some .boolean), .constantLong RX9 93 (9), .methodLink RX9 50 yX9_in, .static yX9_in, .code yX9_in cX9_in 6 (some .boolean)] ++ wsX90)
def wsX9_board : List Cond := .code yX9_board cX9_board 12 (some .int) :: ([.constantLong RX9 130 (10), .constantLong RX9 125 (60), .constantLong RX9 48 (1000000000000), .constantLong RX9 136 (3), .constantLong RX9 93 (9), .fieldLink RX9 32 "GoldHeapsModel" "game" "I", .fieldLink RX9 138 "GoldHeapsModel" "misere" "Z", .fieldLink RX9 141 "GoldHeapsModel" "t" "I", .fieldLink RX9 144 "GoldHeapsModel" "moves" "I", .fieldLink RX9 36 "GoldHeapsModel" "heaps" "[J", .fieldLink RX9 39 "GoldHeapsModel" "bounds" "[J", .fieldLink RX9 42 "GoldHeapsModel" "faults" "[I", .methodLink RX9 50 yX9_in, .static yX9_in, .initialized RX9, .code yX9_in cX9_in 6 (some .boolean)] ++ wsX90)
def wsX9_heap : List Cond := .code yX9_heap cX9_heap 2 (some .long) :: ([.fieldLink RX9 36 "GoldHeapsModel" "heaps" "[J", .fieldLink RX9 144 "GoldHeapsModel" "moves" "I"] ++ wsX90)
def wsX9_canMove : List Cond := .code yX9_canMove cX9_canMove 1 (some .boolean) :: ([.fieldLink RX9 32 "GoldHeapsModel" "game" "I", .fieldLink RX9 39 "GoldHeapsModel" "bounds" "[J", .fieldLink RX9 144 "GoldHeapsModel" "moves" "I", .methodLink RX9 147 yX9_heap, .instanceMethod yX9_heap, .selects RX9 yX9_heap yX9_heap, .initialized RX9, .code yX9_heap cX9_heap 2 (some .long), .fieldLink RX9 36 "GoldHeapsModel" "heaps" "[J"] ++ wsX90)
def wsX9_isWon_r1 : List Cond := [Cond.fieldLink RX9 32 "GoldHeapsModel" "game" "I", Cond.fieldLink RX9 138 "GoldHeapsModel" "misere" "Z", Cond.fieldLink RX9 141 "GoldHeapsModel" "t" "I", Cond.fieldLink RX9 39 "GoldHeapsModel" "bounds" "[J", Cond.fieldLink RX9 144 "GoldHeapsModel" "moves" "I", Cond.methodLink RX9 147 yX9_heap, Cond.instanceMethod yX9_heap, Cond.selects RX9 yX9_heap yX9_heap, Cond.initialized RX9, Cond.code yX9_heap cX9_heap 2 (some .long), Cond.fieldLink RX9 36 "GoldHeapsModel" "heaps" "[J", Cond.methodLink RX9 127 yX9_wonAt, Cond.instanceMethod yX9_wonAt, Cond.selects RX9 yX9_wonAt yX9_wonAt, Cond.code yX9_wonAt cX9_wonAt 8 (some .boolean), Cond.fieldLink RX9 20 "GoldHeapsModel" "isOver" "[Z", Cond.fieldLink RX9 16 "GoldHeapsModel" "won" "[Z", Cond.methodLink RX9 114 yX9_goShares, Cond.instanceMethod yX9_goShares, Cond.selects RX9 yX9_goShares yX9_goShares, Cond.code yX9_goShares cX9_goShares 7 (some .boolean), Cond.methodLink RX9 118 yX9_goBoth, Cond.instanceMethod yX9_goBoth, Cond.selects RX9 yX9_goBoth yX9_goBoth]
def wsX9_isWon_r2 : List Cond := [Cond.code yX9_goBoth cX9_goBoth 7 (some .boolean), Cond.methodLink RX9 58 yX9_isShares, Cond.static yX9_isShares, Cond.code yX9_isShares cX9_isShares 11 (some .boolean), Cond.constantLong RX9 46 (2), Cond.methodLink RX9 68 yX9_isBoth, Cond.instanceMethod yX9_isBoth, Cond.selects RX9 yX9_isBoth yX9_isBoth, Cond.code yX9_isBoth cX9_isBoth 5 (some .boolean), Cond.methodLink RX9 64 yX9_lesser, Cond.instanceMethod yX9_lesser, Cond.selects RX9 yX9_lesser yX9_lesser, Cond.code yX9_lesser cX9_lesser 8 (some .long), Cond.fieldLink RX9 7 "GoldHeapsModel" "fib" "[J", Cond.methodLink RX9 110 yX9_isTimes, Cond.instanceMethod yX9_isTimes, Cond.selects RX9 yX9_isTimes yX9_isTimes, Cond.code yX9_isTimes cX9_isTimes 6 (some .boolean), Cond.methodLink RX9 106 yX9_lastOf, Cond.instanceMethod yX9_lastOf, Cond.selects RX9 yX9_lastOf yX9_lastOf, Cond.code yX9_lastOf cX9_lastOf 9 (some .long), Cond.fieldLink RX9 103 "GoldHeapsModel" "digitMany" "I", Cond.fieldLink RX9 90 "GoldHeapsModel" "rowMany" "I"]
def wsX9_isWon_r3 : List Cond := [Cond.fieldLink RX9 13 "GoldHeapsModel" "row" "[J", Cond.methodLink RX9 99 yX9_findRow, Cond.instanceMethod yX9_findRow, Cond.selects RX9 yX9_findRow yX9_findRow, Cond.code yX9_findRow cX9_findRow 5 none, Cond.constantLong RX9 48 (1000000000000), Cond.methodLink RX9 132 yX9_threeAt, Cond.instanceMethod yX9_threeAt, Cond.selects RX9 yX9_threeAt yX9_threeAt, Cond.code yX9_threeAt cX9_threeAt 7 (some .boolean), Cond.fieldLink RX9 26 "GoldHeapsModel" "isThree" "[Z", Cond.fieldLink RX9 23 "GoldHeapsModel" "three" "[Z", Cond.methodLink RX9 121 yX9_goThree, Cond.instanceMethod yX9_goThree, Cond.selects RX9 yX9_goThree yX9_goThree, Cond.code yX9_goThree cX9_goThree 9 (some .boolean)]
def wsX9_isWon : List Cond := .code yX9_isWon cX9_isWon 1 (some .boolean) :: ((wsX9_isWon_r1 ++ (wsX9_isWon_r2 ++ wsX9_isWon_r3)) ++ wsX90)
def wsX9_mayMove : List Cond := .code yX9_mayMove cX9_mayMove 5 (some .boolean) :: ([.fieldLink RX9 144 "GoldHeapsModel" "moves" "I", .fieldLink RX9 32 "GoldHeapsModel" "game" "I", .fieldLink RX9 39 "GoldHeapsModel" "bounds" "[J", .methodLink RX9 151 yX9_canMove, .instanceMethod yX9_canMove, .selects RX9 yX9_canMove yX9_canMove, .initialized RX9, .code yX9_canMove cX9_canMove 1 (some .boolean), .methodLink RX9 147 yX9_heap, .instanceMethod yX9_heap, .selects RX9 yX9_heap yX9_heap, .code yX9_heap cX9_heap 2 (some .long), .fieldLink RX9 36 "GoldHeapsModel" "heaps" "[J"] ++ wsX90)
def wsX9_move_r1 : List Cond := [Cond.fieldLink RX9 32 "GoldHeapsModel" "game" "I", Cond.constantLong RX9 46 (2), Cond.constantLong RX9 136 (3), Cond.fieldLink RX9 36 "GoldHeapsModel" "heaps" "[J", Cond.fieldLink RX9 144 "GoldHeapsModel" "moves" "I", Cond.constantLong RX9 48 (1000000000000), Cond.fieldLink RX9 141 "GoldHeapsModel" "t" "I", Cond.fieldLink RX9 39 "GoldHeapsModel" "bounds" "[J", Cond.fieldLink RX9 42 "GoldHeapsModel" "faults" "[I", Cond.methodLink RX9 50 yX9_in, Cond.static yX9_in, Cond.initialized RX9, Cond.code yX9_in cX9_in 6 (some .boolean), Cond.methodLink RX9 155 yX9_mayMove, Cond.instanceMethod yX9_mayMove, Cond.selects RX9 yX9_mayMove yX9_mayMove, Cond.code yX9_mayMove cX9_mayMove 5 (some .boolean), Cond.methodLink RX9 151 yX9_canMove, Cond.instanceMethod yX9_canMove, Cond.selects RX9 yX9_canMove yX9_canMove, Cond.code yX9_canMove cX9_canMove 1 (some .boolean), Cond.methodLink RX9 147 yX9_heap, Cond.instanceMethod yX9_heap, Cond.selects RX9 yX9_heap yX9_heap]
def wsX9_move_r2 : List Cond := [Cond.code yX9_heap cX9_heap 2 (some .long), Cond.methodLink RX9 159 yX9_isWon, Cond.instanceMethod yX9_isWon, Cond.selects RX9 yX9_isWon yX9_isWon, Cond.code yX9_isWon cX9_isWon 1 (some .boolean), Cond.fieldLink RX9 138 "GoldHeapsModel" "misere" "Z", Cond.methodLink RX9 127 yX9_wonAt, Cond.instanceMethod yX9_wonAt, Cond.selects RX9 yX9_wonAt yX9_wonAt, Cond.code yX9_wonAt cX9_wonAt 8 (some .boolean), Cond.fieldLink RX9 20 "GoldHeapsModel" "isOver" "[Z", Cond.fieldLink RX9 16 "GoldHeapsModel" "won" "[Z", Cond.methodLink RX9 114 yX9_goShares, Cond.instanceMethod yX9_goShares, Cond.selects RX9 yX9_goShares yX9_goShares, Cond.code yX9_goShares cX9_goShares 7 (some .boolean), Cond.methodLink RX9 118 yX9_goBoth, Cond.instanceMethod yX9_goBoth, Cond.selects RX9 yX9_goBoth yX9_goBoth, Cond.code yX9_goBoth cX9_goBoth 7 (some .boolean), Cond.methodLink RX9 58 yX9_isShares, Cond.static yX9_isShares, Cond.code yX9_isShares cX9_isShares 11 (some .boolean), Cond.methodLink RX9 68 yX9_isBoth]
def wsX9_move_r3 : List Cond := [Cond.instanceMethod yX9_isBoth, Cond.selects RX9 yX9_isBoth yX9_isBoth, Cond.code yX9_isBoth cX9_isBoth 5 (some .boolean), Cond.methodLink RX9 64 yX9_lesser, Cond.instanceMethod yX9_lesser, Cond.selects RX9 yX9_lesser yX9_lesser, Cond.code yX9_lesser cX9_lesser 8 (some .long), Cond.fieldLink RX9 7 "GoldHeapsModel" "fib" "[J", Cond.methodLink RX9 110 yX9_isTimes, Cond.instanceMethod yX9_isTimes, Cond.selects RX9 yX9_isTimes yX9_isTimes, Cond.code yX9_isTimes cX9_isTimes 6 (some .boolean), Cond.methodLink RX9 106 yX9_lastOf, Cond.instanceMethod yX9_lastOf, Cond.selects RX9 yX9_lastOf yX9_lastOf, Cond.code yX9_lastOf cX9_lastOf 9 (some .long), Cond.fieldLink RX9 103 "GoldHeapsModel" "digitMany" "I", Cond.fieldLink RX9 90 "GoldHeapsModel" "rowMany" "I", Cond.fieldLink RX9 13 "GoldHeapsModel" "row" "[J", Cond.methodLink RX9 99 yX9_findRow, Cond.instanceMethod yX9_findRow, Cond.selects RX9 yX9_findRow yX9_findRow, Cond.code yX9_findRow cX9_findRow 5 none, Cond.methodLink RX9 132 yX9_threeAt]
def wsX9_move_r4 : List Cond := [Cond.instanceMethod yX9_threeAt, Cond.selects RX9 yX9_threeAt yX9_threeAt, Cond.code yX9_threeAt cX9_threeAt 7 (some .boolean), Cond.fieldLink RX9 26 "GoldHeapsModel" "isThree" "[Z", Cond.fieldLink RX9 23 "GoldHeapsModel" "three" "[Z", Cond.methodLink RX9 121 yX9_goThree, Cond.instanceMethod yX9_goThree, Cond.selects RX9 yX9_goThree yX9_goThree, Cond.code yX9_goThree cX9_goThree 9 (some .boolean)]
def wsX9_move : List Cond := .code yX9_move cX9_move 8 (some .int) :: ((wsX9_move_r1 ++ (wsX9_move_r2 ++ (wsX9_move_r3 ++ wsX9_move_r4))) ++ wsX90)
def wsX9_undo : List Cond := .code yX9_undo cX9_undo 1 (some .int) :: ([.fieldLink RX9 144 "GoldHeapsModel" "moves" "I"] ++ wsX90)
def wsX9_about_r1 : List Cond := [Cond.fieldLink RX9 39 "GoldHeapsModel" "bounds" "[J", Cond.fieldLink RX9 144 "GoldHeapsModel" "moves" "I", Cond.fieldLink RX9 42 "GoldHeapsModel" "faults" "[I", Cond.fieldLink RX9 32 "GoldHeapsModel" "game" "I", Cond.constantLong RX9 62 (-2), Cond.methodLink RX9 147 yX9_heap, Cond.instanceMethod yX9_heap, Cond.selects RX9 yX9_heap yX9_heap, Cond.initialized RX9, Cond.code yX9_heap cX9_heap 2 (some .long), Cond.fieldLink RX9 36 "GoldHeapsModel" "heaps" "[J", Cond.methodLink RX9 159 yX9_isWon, Cond.instanceMethod yX9_isWon, Cond.selects RX9 yX9_isWon yX9_isWon, Cond.code yX9_isWon cX9_isWon 1 (some .boolean), Cond.fieldLink RX9 138 "GoldHeapsModel" "misere" "Z", Cond.fieldLink RX9 141 "GoldHeapsModel" "t" "I", Cond.methodLink RX9 127 yX9_wonAt, Cond.instanceMethod yX9_wonAt, Cond.selects RX9 yX9_wonAt yX9_wonAt, Cond.code yX9_wonAt cX9_wonAt 8 (some .boolean), Cond.fieldLink RX9 20 "GoldHeapsModel" "isOver" "[Z", Cond.fieldLink RX9 16 "GoldHeapsModel" "won" "[Z", Cond.methodLink RX9 114 yX9_goShares]
def wsX9_about_r2 : List Cond := [Cond.instanceMethod yX9_goShares, Cond.selects RX9 yX9_goShares yX9_goShares, Cond.code yX9_goShares cX9_goShares 7 (some .boolean), Cond.methodLink RX9 118 yX9_goBoth, Cond.instanceMethod yX9_goBoth, Cond.selects RX9 yX9_goBoth yX9_goBoth, Cond.code yX9_goBoth cX9_goBoth 7 (some .boolean), Cond.methodLink RX9 58 yX9_isShares, Cond.static yX9_isShares, Cond.code yX9_isShares cX9_isShares 11 (some .boolean), Cond.constantLong RX9 46 (2), Cond.methodLink RX9 68 yX9_isBoth, Cond.instanceMethod yX9_isBoth, Cond.selects RX9 yX9_isBoth yX9_isBoth, Cond.code yX9_isBoth cX9_isBoth 5 (some .boolean), Cond.methodLink RX9 64 yX9_lesser, Cond.instanceMethod yX9_lesser, Cond.selects RX9 yX9_lesser yX9_lesser, Cond.code yX9_lesser cX9_lesser 8 (some .long), Cond.fieldLink RX9 7 "GoldHeapsModel" "fib" "[J", Cond.methodLink RX9 110 yX9_isTimes, Cond.instanceMethod yX9_isTimes, Cond.selects RX9 yX9_isTimes yX9_isTimes, Cond.code yX9_isTimes cX9_isTimes 6 (some .boolean)]
def wsX9_about_r3 : List Cond := [Cond.methodLink RX9 106 yX9_lastOf, Cond.instanceMethod yX9_lastOf, Cond.selects RX9 yX9_lastOf yX9_lastOf, Cond.code yX9_lastOf cX9_lastOf 9 (some .long), Cond.fieldLink RX9 103 "GoldHeapsModel" "digitMany" "I", Cond.fieldLink RX9 90 "GoldHeapsModel" "rowMany" "I", Cond.fieldLink RX9 13 "GoldHeapsModel" "row" "[J", Cond.methodLink RX9 99 yX9_findRow, Cond.instanceMethod yX9_findRow, Cond.selects RX9 yX9_findRow yX9_findRow, Cond.code yX9_findRow cX9_findRow 5 none, Cond.constantLong RX9 48 (1000000000000), Cond.methodLink RX9 132 yX9_threeAt, Cond.instanceMethod yX9_threeAt, Cond.selects RX9 yX9_threeAt yX9_threeAt, Cond.code yX9_threeAt cX9_threeAt 7 (some .boolean), Cond.fieldLink RX9 26 "GoldHeapsModel" "isThree" "[Z", Cond.fieldLink RX9 23 "GoldHeapsModel" "three" "[Z", Cond.methodLink RX9 121 yX9_goThree, Cond.instanceMethod yX9_goThree, Cond.selects RX9 yX9_goThree yX9_goThree, Cond.code yX9_goThree cX9_goThree 9 (some .boolean)]
def wsX9_about : List Cond := .code yX9_about cX9_about 2 (some .long) :: ((wsX9_about_r1 ++ (wsX9_about_r2 ++ wsX9_about_r3)) ++ wsX90)
def wsX9_digest_r1 : List Cond := [Cond.constantLong RX9 162 (227), Cond.constantLong RX9 164 (31), Cond.methodLink RX9 166 yX9_about, Cond.instanceMethod yX9_about, Cond.selects RX9 yX9_about yX9_about, Cond.initialized RX9, Cond.code yX9_about cX9_about 2 (some .long), Cond.fieldLink RX9 39 "GoldHeapsModel" "bounds" "[J", Cond.fieldLink RX9 144 "GoldHeapsModel" "moves" "I", Cond.fieldLink RX9 42 "GoldHeapsModel" "faults" "[I", Cond.fieldLink RX9 32 "GoldHeapsModel" "game" "I", Cond.constantLong RX9 62 (-2), Cond.methodLink RX9 147 yX9_heap, Cond.instanceMethod yX9_heap, Cond.selects RX9 yX9_heap yX9_heap, Cond.code yX9_heap cX9_heap 2 (some .long), Cond.fieldLink RX9 36 "GoldHeapsModel" "heaps" "[J", Cond.methodLink RX9 159 yX9_isWon, Cond.instanceMethod yX9_isWon, Cond.selects RX9 yX9_isWon yX9_isWon, Cond.code yX9_isWon cX9_isWon 1 (some .boolean), Cond.fieldLink RX9 138 "GoldHeapsModel" "misere" "Z", Cond.fieldLink RX9 141 "GoldHeapsModel" "t" "I", Cond.methodLink RX9 127 yX9_wonAt]
def wsX9_digest_r2 : List Cond := [Cond.instanceMethod yX9_wonAt, Cond.selects RX9 yX9_wonAt yX9_wonAt, Cond.code yX9_wonAt cX9_wonAt 8 (some .boolean), Cond.fieldLink RX9 20 "GoldHeapsModel" "isOver" "[Z", Cond.fieldLink RX9 16 "GoldHeapsModel" "won" "[Z", Cond.methodLink RX9 114 yX9_goShares, Cond.instanceMethod yX9_goShares, Cond.selects RX9 yX9_goShares yX9_goShares, Cond.code yX9_goShares cX9_goShares 7 (some .boolean), Cond.methodLink RX9 118 yX9_goBoth, Cond.instanceMethod yX9_goBoth, Cond.selects RX9 yX9_goBoth yX9_goBoth, Cond.code yX9_goBoth cX9_goBoth 7 (some .boolean), Cond.methodLink RX9 58 yX9_isShares, Cond.static yX9_isShares, Cond.code yX9_isShares cX9_isShares 11 (some .boolean), Cond.constantLong RX9 46 (2), Cond.methodLink RX9 68 yX9_isBoth, Cond.instanceMethod yX9_isBoth, Cond.selects RX9 yX9_isBoth yX9_isBoth, Cond.code yX9_isBoth cX9_isBoth 5 (some .boolean), Cond.methodLink RX9 64 yX9_lesser, Cond.instanceMethod yX9_lesser, Cond.selects RX9 yX9_lesser yX9_lesser]
def wsX9_digest_r3 : List Cond := [Cond.code yX9_lesser cX9_lesser 8 (some .long), Cond.fieldLink RX9 7 "GoldHeapsModel" "fib" "[J", Cond.methodLink RX9 110 yX9_isTimes, Cond.instanceMethod yX9_isTimes, Cond.selects RX9 yX9_isTimes yX9_isTimes, Cond.code yX9_isTimes cX9_isTimes 6 (some .boolean), Cond.methodLink RX9 106 yX9_lastOf, Cond.instanceMethod yX9_lastOf, Cond.selects RX9 yX9_lastOf yX9_lastOf, Cond.code yX9_lastOf cX9_lastOf 9 (some .long), Cond.fieldLink RX9 103 "GoldHeapsModel" "digitMany" "I", Cond.fieldLink RX9 90 "GoldHeapsModel" "rowMany" "I", Cond.fieldLink RX9 13 "GoldHeapsModel" "row" "[J", Cond.methodLink RX9 99 yX9_findRow, Cond.instanceMethod yX9_findRow, Cond.selects RX9 yX9_findRow yX9_findRow, Cond.code yX9_findRow cX9_findRow 5 none, Cond.constantLong RX9 48 (1000000000000), Cond.methodLink RX9 132 yX9_threeAt, Cond.instanceMethod yX9_threeAt, Cond.selects RX9 yX9_threeAt yX9_threeAt, Cond.code yX9_threeAt cX9_threeAt 7 (some .boolean), Cond.fieldLink RX9 26 "GoldHeapsModel" "isThree" "[Z", Cond.fieldLink RX9 23 "GoldHeapsModel" "three" "[Z"]
def wsX9_digest_r4 : List Cond := [Cond.methodLink RX9 121 yX9_goThree, Cond.instanceMethod yX9_goThree, Cond.selects RX9 yX9_goThree yX9_goThree, Cond.code yX9_goThree cX9_goThree 9 (some .boolean)]
def wsX9_digest : List Cond := .code yX9_digest cX9_digest 4 (some .long) :: ((wsX9_digest_r1 ++ (wsX9_digest_r2 ++ (wsX9_digest_r3 ++ wsX9_digest_r4))) ++ wsX90)
def wsJ9_abs_067f4 : List Cond := .code yJ9_abs_067f4 cJ9_abs_067f4 2 (some .long) :: ([])
def wsJ9_max_7cf53 : List Cond := .code yJ9_max_7cf53 cJ9_max_7cf53 2 (some .int) :: ([])
def wsJ9_max_f86c9 : List Cond := .code yJ9_max_f86c9 cJ9_max_f86c9 4 (some .long) :: ([])
def wsJ9_min_7cf53 : List Cond := .code yJ9_min_7cf53 cJ9_min_7cf53 2 (some .int) :: ([])
def wsJ9_min_f86c9 : List Cond := .code yJ9_min_f86c9 cJ9_min_f86c9 4 (some .long) :: ([])
def wsL_law_r1 : List Cond := [Cond.classLink RL 7 RX8, Cond.instantiable RX8 2, Cond.initialized RX8, Cond.classLink RL 10 RX9, Cond.instantiable RX9 18, Cond.initialized RX9, Cond.constantLong RL 13 (4294967295), Cond.methodLink RL 9 yX8_init, Cond.instanceMethod yX8_init, Cond.code yX8_init cX8_init 1 none, Cond.methodLink RX8 1 objectInit, Cond.instanceMethod objectInit, Cond.code objectInit ⟨#[0xb1]⟩ 1 none, Cond.classLink RX8 7 RX2, Cond.instantiable RX2 5, Cond.initialized RX2, Cond.fieldLink RX8 10 "GoldHeaps" "judge" "LGoldHeaps$Judge;", Cond.classLink RX8 16 RX4, Cond.instantiable RX4 9, Cond.initialized RX4, Cond.fieldLink RX8 21 "GoldHeaps" "play" "LGoldHeaps$Play;", Cond.methodLink RX8 9 yX2_init, Cond.instanceMethod yX2_init, Cond.code yX2_init cX2_init 1 none]
def wsL_law_r2 : List Cond := [Cond.methodLink RX2 3 objectInit, Cond.classLink RX2 9 RX3, Cond.fieldLink RX2 11 "GoldHeaps$Judge" "tablesMade" "[LGoldHeaps$LostTable;", Cond.classLink RX2 17 RX7, Cond.instantiable RX7 1, Cond.initialized RX7, Cond.fieldLink RX2 20 "GoldHeaps$Judge" "timesGame" "LGoldHeaps$TimesGame;", Cond.classLink RX2 24 RX1, Cond.instantiable RX1 1, Cond.initialized RX1, Cond.fieldLink RX2 33 "GoldHeaps$Judge" "golden" "LGoldHeaps$Golden;", Cond.classLink RX2 37 RX5, Cond.instantiable RX5 1, Cond.initialized RX5, Cond.fieldLink RX2 42 "GoldHeaps$Judge" "sharesGame" "LGoldHeaps$SharesGame;", Cond.classLink RX2 46 RX0, Cond.instantiable RX0 1, Cond.initialized RX0, Cond.fieldLink RX2 49 "GoldHeaps$Judge" "bothGame" "LGoldHeaps$BothGame;", Cond.instanceMethod yX7_init, Cond.code yX7_init cX7_init 1 none, Cond.methodLink RX7 3 objectInit, Cond.classLink RX7 9 RX6, Cond.fieldLink RX7 11 "GoldHeaps$TimesGame" "sumsMade" "[LGoldHeaps$Sums;"]
def wsL_law_r3 : List Cond := [Cond.methodLink RX2 26 yX7_sumsBy, Cond.instanceMethod yX7_sumsBy, Cond.selects RX7 yX7_sumsBy yX7_sumsBy, Cond.code yX7_sumsBy cX7_sumsBy 4 (some (.object "GoldHeaps$Sums")), Cond.instantiable RX6 2, Cond.initialized RX6, Cond.methodLink RX7 17 yX6_init, Cond.instanceMethod yX6_init, Cond.code yX6_init cX6_init 6 none, Cond.methodLink RX6 3 objectInit, Cond.arrayClass .long, Cond.fieldLink RX6 11 "GoldHeaps$Sums" "numbers" "[J", Cond.constantLong RX6 15 (1000000000000), Cond.fieldLink RX6 17 "GoldHeaps$Sums" "size" "I", Cond.methodLink RX2 30 yX1_init, Cond.instanceMethod yX1_init, Cond.code yX1_init cX1_init 2 none, Cond.methodLink RX1 1 objectInit, Cond.fieldLink RX1 7 "GoldHeaps$Golden" "fibonacci" "LGoldHeaps$Sums;", Cond.methodLink RX2 39 yX5_init, Cond.instanceMethod yX5_init, Cond.code yX5_init cX5_init 2 none, Cond.methodLink RX5 1 objectInit, Cond.fieldLink RX5 7 "GoldHeaps$SharesGame" "golden" "LGoldHeaps$Golden;"]
def wsL_law_r4 : List Cond := [Cond.methodLink RX2 48 yX0_init, Cond.instanceMethod yX0_init, Cond.code yX0_init cX0_init 2 none, Cond.methodLink RX0 3 objectInit, Cond.fieldLink RX0 9 "GoldHeaps$BothGame" "golden" "LGoldHeaps$Golden;", Cond.methodLink RX8 18 yX4_init, Cond.instanceMethod yX4_init, Cond.code yX4_init cX4_init 2 none, Cond.methodLink RX4 3 objectInit, Cond.fieldLink RX4 11 "GoldHeaps$Play" "heaps" "[J", Cond.arrayClass .int, Cond.fieldLink RX4 15 "GoldHeaps$Play" "whichMoved" "[I", Cond.fieldLink RX4 19 "GoldHeaps$Play" "manyTaken" "[J", Cond.arrayClass .boolean, Cond.fieldLink RX4 22 "GoldHeaps$Play" "wasFault" "[Z", Cond.fieldLink RX4 26 "GoldHeaps$Play" "game" "I", Cond.fieldLink RX4 30 "GoldHeaps$Play" "judge" "LGoldHeaps$Judge;", Cond.methodLink RL 12 yX9_init, Cond.instanceMethod yX9_init, Cond.code yX9_init cX9_init 2 none, Cond.methodLink RX9 1 objectInit, Cond.fieldLink RX9 7 "GoldHeapsModel" "fib" "[J", Cond.fieldLink RX9 13 "GoldHeapsModel" "row" "[J", Cond.fieldLink RX9 16 "GoldHeapsModel" "won" "[Z"]
def wsL_law_r5 : List Cond := [Cond.fieldLink RX9 20 "GoldHeapsModel" "isOver" "[Z", Cond.fieldLink RX9 23 "GoldHeapsModel" "three" "[Z", Cond.fieldLink RX9 26 "GoldHeapsModel" "isThree" "[Z", Cond.fieldLink RX9 29 "GoldHeapsModel" "timed" "[Z", Cond.fieldLink RX9 32 "GoldHeapsModel" "game" "I", Cond.fieldLink RX9 36 "GoldHeapsModel" "heaps" "[J", Cond.fieldLink RX9 39 "GoldHeapsModel" "bounds" "[J", Cond.fieldLink RX9 42 "GoldHeapsModel" "faults" "[I", Cond.constantLong RX9 46 (2), Cond.methodLink RL 15 yX8_shares, Cond.instanceMethod yX8_shares, Cond.selects RX8 yX8_shares yX8_shares, Cond.code yX8_shares cX8_shares 5 (some .int), Cond.methodLink RX8 25 yX8_isHeap, Cond.static yX8_isHeap, Cond.code yX8_isHeap cX8_isHeap 2 (some .boolean), Cond.constantLong RX8 109 (1000000000000), Cond.methodLink RX8 56 yX8_isWithin, Cond.static yX8_isWithin, Cond.code yX8_isWithin cX8_isWithin 6 (some .boolean), Cond.methodLink RX8 33 yX5_isWon, Cond.instanceMethod yX5_isWon, Cond.selects RX5 yX5_isWon yX5_isWon, Cond.code yX5_isWon cX5_isWon 9 (some .boolean)]
def wsL_law_r6 : List Cond := [Cond.methodLink RX5 13 Lib.MathLoose.max_long.x, Cond.static Lib.MathLoose.max_long.x, Cond.initialized "java/lang/Math", Cond.code Lib.MathLoose.max_long.x Lib.MathLoose.max_long.code 4 (some .long), Cond.methodLink RX5 19 Lib.MathLoose.min_long.x, Cond.static Lib.MathLoose.min_long.x, Cond.code Lib.MathLoose.min_long.x Lib.MathLoose.min_long.code 4 (some .long), Cond.methodLink RX5 22 yX1_cut, Cond.instanceMethod yX1_cut, Cond.selects RX1 yX1_cut yX1_cut, Cond.code yX1_cut cX1_cut 3 (some .long), Cond.methodLink RX1 13 yX6_raised, Cond.instanceMethod yX6_raised, Cond.selects RX6 yX6_raised yX6_raised, Cond.code yX6_raised cX6_raised 8 (some .long), Cond.methodLink RX8 39 yX8_oneIf, Cond.static yX8_oneIf, Cond.code yX8_oneIf cX8_oneIf 1 (some .int), Cond.methodLink RL 19 yX9_shares, Cond.instanceMethod yX9_shares, Cond.selects RX9 yX9_shares yX9_shares, Cond.code yX9_shares cX9_shares 5 (some .int), Cond.methodLink RX9 54 yX9_isHeap, Cond.static yX9_isHeap]
def wsL_law_r7 : List Cond := [Cond.code yX9_isHeap cX9_isHeap 2 (some .boolean), Cond.constantLong RX9 48 (1000000000000), Cond.methodLink RX9 50 yX9_in, Cond.static yX9_in, Cond.code yX9_in cX9_in 6 (some .boolean), Cond.methodLink RX9 58 yX9_isShares, Cond.static yX9_isShares, Cond.code yX9_isShares cX9_isShares 11 (some .boolean), Cond.methodLink RL 20 yX8_sharesMove, Cond.instanceMethod yX8_sharesMove, Cond.selects RX8 yX8_sharesMove yX8_sharesMove, Cond.code yX8_sharesMove cX8_sharesMove 5 (some .long), Cond.constantLong RX8 43 (-2), Cond.methodLink RX8 45 yX5_leastTimes, Cond.instanceMethod yX5_leastTimes, Cond.selects RX5 yX5_leastTimes yX5_leastTimes, Cond.code yX5_leastTimes cX5_leastTimes 13 (some .long), Cond.methodLink RX5 28 yX5_isWon, Cond.methodLink RL 24 yX9_sharesMove, Cond.instanceMethod yX9_sharesMove, Cond.selects RX9 yX9_sharesMove yX9_sharesMove, Cond.code yX9_sharesMove cX9_sharesMove 11 (some .long), Cond.constantLong RX9 62 (-2), Cond.methodLink RL 25 yX8_both]
def wsL_law_r8 : List Cond := [Cond.instanceMethod yX8_both, Cond.selects RX8 yX8_both yX8_both, Cond.code yX8_both cX8_both 5 (some .int), Cond.methodLink RX8 53 yX0_isWon, Cond.instanceMethod yX0_isWon, Cond.selects RX0 yX0_isWon yX0_isWon, Cond.code yX0_isWon cX0_isWon 5 (some .boolean), Cond.methodLink RX0 19 Lib.MathLoose.min_long.x, Cond.methodLink RX0 15 yX0_lesserLostAlong, Cond.instanceMethod yX0_lesserLostAlong, Cond.selects RX0 yX0_lesserLostAlong yX0_lesserLostAlong, Cond.code yX0_lesserLostAlong cX0_lesserLostAlong 5 (some .long), Cond.methodLink RX0 30 Lib.MathLoose.abs_long.x, Cond.static Lib.MathLoose.abs_long.x, Cond.code Lib.MathLoose.abs_long.x Lib.MathLoose.abs_long.code 2 (some .long), Cond.methodLink RX0 33 yX1_cut, Cond.methodLink RL 28 yX9_both, Cond.instanceMethod yX9_both, Cond.selects RX9 yX9_both yX9_both, Cond.code yX9_both cX9_both 5 (some .int), Cond.methodLink RX9 68 yX9_isBoth, Cond.instanceMethod yX9_isBoth, Cond.selects RX9 yX9_isBoth yX9_isBoth, Cond.code yX9_isBoth cX9_isBoth 5 (some .boolean)]
def wsL_law_r9 : List Cond := [Cond.methodLink RX9 64 yX9_lesser, Cond.instanceMethod yX9_lesser, Cond.selects RX9 yX9_lesser yX9_lesser, Cond.code yX9_lesser cX9_lesser 8 (some .long), Cond.methodLink RL 29 yX8_bothMove, Cond.instanceMethod yX8_bothMove, Cond.selects RX8 yX8_bothMove yX8_bothMove, Cond.code yX8_bothMove cX8_bothMove 7 (some .long), Cond.methodLink RX8 60 yX0_whichWins, Cond.instanceMethod yX0_whichWins, Cond.selects RX0 yX0_whichWins yX0_whichWins, Cond.code yX0_whichWins cX0_whichWins 5 (some .int), Cond.methodLink RX0 24 yX1_partnerOf, Cond.instanceMethod yX1_partnerOf, Cond.selects RX1 yX1_partnerOf yX1_partnerOf, Cond.code yX1_partnerOf cX1_partnerOf 3 (some .long), Cond.methodLink RX1 25 yX1_isLesser, Cond.instanceMethod yX1_isLesser, Cond.selects RX1 yX1_isLesser yX1_isLesser, Cond.code yX1_isLesser cX1_isLesser 3 (some .boolean), Cond.methodLink RX1 19 yX1_indexIfLesser, Cond.instanceMethod yX1_indexIfLesser, Cond.selects RX1 yX1_indexIfLesser yX1_indexIfLesser, Cond.code yX1_indexIfLesser cX1_indexIfLesser 3 (some .long)]
def wsL_law_r10 : List Cond := [Cond.methodLink RX1 22 yX1_cut, Cond.methodLink RX8 64 yX0_howMany, Cond.instanceMethod yX0_howMany, Cond.selects RX0 yX0_howMany yX0_howMany, Cond.code yX0_howMany cX0_howMany 6 (some .long), Cond.methodLink RL 33 yX9_bothMove, Cond.instanceMethod yX9_bothMove, Cond.selects RX9 yX9_bothMove yX9_bothMove, Cond.code yX9_bothMove cX9_bothMove 12 (some .long), Cond.constantLong RX9 86 (-1), Cond.methodLink RX9 83 yX9_partner, Cond.instanceMethod yX9_partner, Cond.selects RX9 yX9_partner yX9_partner, Cond.code yX9_partner cX9_partner 3 (some .long), Cond.fieldLink RX9 75 "GoldHeapsModel" "foundLesser" "Z", Cond.fieldLink RX9 71 "GoldHeapsModel" "foundK" "J", Cond.methodLink RX9 79 yX9_find, Cond.instanceMethod yX9_find, Cond.selects RX9 yX9_find yX9_find, Cond.code yX9_find cX9_find 9 none, Cond.methodLink RL 34 yX8_lost, Cond.instanceMethod yX8_lost, Cond.selects RX8 yX8_lost yX8_lost, Cond.code yX8_lost cX8_lost 6 (some .long)]
def wsL_law_r11 : List Cond := [Cond.constantLong RX8 68 (300000000000), Cond.methodLink RX8 74 yX1_cut, Cond.methodLink RL 38 yX9_lost, Cond.instanceMethod yX9_lost, Cond.selects RX9 yX9_lost yX9_lost, Cond.code yX9_lost cX9_lost 4 (some .long), Cond.constantLong RX9 88 (300000000000), Cond.methodLink RL 39 yX8_lostOf, Cond.instanceMethod yX8_lostOf, Cond.selects RX8 yX8_lostOf yX8_lostOf, Cond.code yX8_lostOf cX8_lostOf 4 (some .long), Cond.methodLink RX8 80 yX1_indexOf, Cond.instanceMethod yX1_indexOf, Cond.selects RX1 yX1_indexOf yX1_indexOf, Cond.code yX1_indexOf cX1_indexOf 3 (some .long), Cond.constantLong RX1 29 (2), Cond.methodLink RX8 83 yX1_isLesser, Cond.methodLink RL 42 yX9_lostOf, Cond.instanceMethod yX9_lostOf, Cond.selects RX9 yX9_lostOf yX9_lostOf, Cond.code yX9_lostOf cX9_lostOf 4 (some .long), Cond.methodLink RL 43 yX8_row, Cond.instanceMethod yX8_row, Cond.selects RX8 yX8_row yX8_row]
def wsL_law_r12 : List Cond := [Cond.code yX8_row cX8_row 3 (some .long), Cond.methodLink RX8 86 yX8_isFactor, Cond.static yX8_isFactor, Cond.code yX8_isFactor cX8_isFactor 2 (some .boolean), Cond.constantLong RX8 180 (9), Cond.methodLink RX8 93 yX7_sumsBy, Cond.methodLink RX8 99 yX6_numberAt, Cond.instanceMethod yX6_numberAt, Cond.selects RX6 yX6_numberAt yX6_numberAt, Cond.code yX6_numberAt cX6_numberAt 2 (some .long), Cond.constantLong RX6 21 (-1), Cond.methodLink RL 47 yX9_row, Cond.instanceMethod yX9_row, Cond.selects RX9 yX9_row yX9_row, Cond.code yX9_row cX9_row 3 (some .long), Cond.fieldLink RX9 90 "GoldHeapsModel" "rowMany" "I", Cond.methodLink RX9 95 yX9_isBy, Cond.static yX9_isBy, Cond.code yX9_isBy cX9_isBy 1 (some .boolean), Cond.constantLong RX9 93 (9), Cond.methodLink RX9 99 yX9_findRow, Cond.instanceMethod yX9_findRow, Cond.selects RX9 yX9_findRow yX9_findRow, Cond.code yX9_findRow cX9_findRow 5 none]
def wsL_law_r13 : List Cond := [Cond.methodLink RL 48 yX8_digits, Cond.instanceMethod yX8_digits, Cond.selects RX8 yX8_digits yX8_digits, Cond.code yX8_digits cX8_digits 4 (some .int), Cond.methodLink RX8 105 yX6_countOf, Cond.instanceMethod yX6_countOf, Cond.selects RX6 yX6_countOf yX6_countOf, Cond.code yX6_countOf cX6_countOf 7 (some .int), Cond.methodLink RL 52 yX9_digits, Cond.instanceMethod yX9_digits, Cond.selects RX9 yX9_digits yX9_digits, Cond.code yX9_digits cX9_digits 6 (some .int), Cond.fieldLink RX9 103 "GoldHeapsModel" "digitMany" "I", Cond.methodLink RX9 106 yX9_lastOf, Cond.instanceMethod yX9_lastOf, Cond.selects RX9 yX9_lastOf yX9_lastOf, Cond.code yX9_lastOf cX9_lastOf 9 (some .long), Cond.methodLink RL 53 yX8_last, Cond.instanceMethod yX8_last, Cond.selects RX8 yX8_last yX8_last, Cond.code yX8_last cX8_last 4 (some .long), Cond.methodLink RX8 111 yX6_endOf, Cond.instanceMethod yX6_endOf, Cond.selects RX6 yX6_endOf yX6_endOf]
def wsL_law_r14 : List Cond := [Cond.code yX6_endOf cX6_endOf 8 (some .long), Cond.methodLink RL 57 yX9_last, Cond.instanceMethod yX9_last, Cond.selects RX9 yX9_last yX9_last, Cond.code yX9_last cX9_last 4 (some .long), Cond.methodLink RL 58 yX8_times, Cond.instanceMethod yX8_times, Cond.selects RX8 yX8_times yX8_times, Cond.code yX8_times cX8_times 6 (some .int), Cond.methodLink RX8 114 yX7_isWon, Cond.instanceMethod yX7_isWon, Cond.selects RX7 yX7_isWon yX7_isWon, Cond.code yX7_isWon cX7_isWon 6 (some .boolean), Cond.methodLink RX7 20 yX7_leastTaken, Cond.instanceMethod yX7_leastTaken, Cond.selects RX7 yX7_leastTaken yX7_leastTaken, Cond.code yX7_leastTaken cX7_leastTaken 8 (some .long), Cond.methodLink RX7 24 yX7_sumsBy, Cond.methodLink RX7 28 yX6_endOf, Cond.methodLink RL 62 yX9_times, Cond.instanceMethod yX9_times, Cond.selects RX9 yX9_times yX9_times, Cond.code yX9_times cX9_times 6 (some .int), Cond.methodLink RX9 110 yX9_isTimes]
def wsL_law_r15 : List Cond := [Cond.instanceMethod yX9_isTimes, Cond.selects RX9 yX9_isTimes yX9_isTimes, Cond.code yX9_isTimes cX9_isTimes 6 (some .boolean), Cond.methodLink RL 63 yX8_timesMove, Cond.instanceMethod yX8_timesMove, Cond.selects RX8 yX8_timesMove yX8_timesMove, Cond.code yX8_timesMove cX8_timesMove 6 (some .long), Cond.methodLink RX8 117 yX7_leastTaken, Cond.methodLink RL 67 yX9_timesMove, Cond.instanceMethod yX9_timesMove, Cond.selects RX9 yX9_timesMove yX9_timesMove, Cond.code yX9_timesMove cX9_timesMove 6 (some .long), Cond.methodLink RL 68 yX8_byAll, Cond.instanceMethod yX8_byAll, Cond.selects RX8 yX8_byAll yX8_byAll, Cond.code yX8_byAll cX8_byAll 6 (some .int), Cond.methodLink RX8 121 yX8_areHeapsOf, Cond.static yX8_areHeapsOf, Cond.code yX8_areHeapsOf cX8_areHeapsOf 10 (some .boolean), Cond.constantLong RX8 142 (60), Cond.constantLong RX8 182 (10), Cond.methodLink RX8 125 yX2_tableOf, Cond.instanceMethod yX2_tableOf, Cond.selects RX2 yX2_tableOf yX2_tableOf]
def wsL_law_r16 : List Cond := [Cond.code yX2_tableOf cX2_tableOf 5 (some (.object "GoldHeaps$LostTable")), Cond.constantLong RX2 53 (3), Cond.instantiable RX3 2, Cond.initialized RX3, Cond.methodLink RX2 63 yX3_init, Cond.instanceMethod yX3_init, Cond.code yX3_init cX3_init 3 none, Cond.methodLink RX3 3 objectInit, Cond.fieldLink RX3 9 "GoldHeaps$LostTable" "ofThree" "Z", Cond.fieldLink RX3 15 "GoldHeaps$LostTable" "lines" "[J", Cond.methodLink RX3 19 yX3_fillThree, Cond.static yX3_fillThree, Cond.code yX3_fillThree cX3_fillThree 5 none, Cond.methodLink RX3 52 yX3_wonByTaking, Cond.static yX3_wonByTaking, Cond.code yX3_wonByTaking cX3_wonByTaking 7 (some .long), Cond.methodLink RX3 48 yX3_lostInLine, Cond.static yX3_lostInLine, Cond.code yX3_lostInLine cX3_lostInLine 8 (some .long), Cond.constantLong RX3 56 (-1), Cond.methodLink RX3 23 yX3_fillBoth, Cond.static yX3_fillBoth, Cond.code yX3_fillBoth cX3_fillBoth 7 none, Cond.methodLink RX3 26 yX3_fillShares]
def wsL_law_r17 : List Cond := [Cond.static yX3_fillShares, Cond.code yX3_fillShares cX3_fillShares 6 none, Cond.methodLink RX3 35 Lib.Math.min.name, Cond.static Lib.Math.min.name, Cond.code Lib.Math.min.name Lib.Math.min.code 2 (some .int), Cond.methodLink RX3 41 Lib.Math.max.name, Cond.static Lib.Math.max.name, Cond.code Lib.Math.max.name Lib.Math.max.code 2 (some .int), Cond.methodLink RX3 44 yX3_sharesReach, Cond.static yX3_sharesReach, Cond.code yX3_sharesReach cX3_sharesReach 5 (some .boolean), Cond.methodLink RX8 129 yX3_has, Cond.instanceMethod yX3_has, Cond.selects RX3 yX3_has yX3_has, Cond.code yX3_has cX3_has 6 (some .boolean), Cond.methodLink RL 72 yX9_byAll, Cond.instanceMethod yX9_byAll, Cond.selects RX9 yX9_byAll yX9_byAll, Cond.code yX9_byAll cX9_byAll 6 (some .int), Cond.constantLong RX9 125 (60), Cond.constantLong RX9 130 (10), Cond.methodLink RX9 127 yX9_wonAt, Cond.instanceMethod yX9_wonAt, Cond.selects RX9 yX9_wonAt yX9_wonAt]
def wsL_law_r18 : List Cond := [Cond.code yX9_wonAt cX9_wonAt 8 (some .boolean), Cond.methodLink RX9 114 yX9_goShares, Cond.instanceMethod yX9_goShares, Cond.selects RX9 yX9_goShares yX9_goShares, Cond.code yX9_goShares cX9_goShares 7 (some .boolean), Cond.methodLink RX9 118 yX9_goBoth, Cond.instanceMethod yX9_goBoth, Cond.selects RX9 yX9_goBoth yX9_goBoth, Cond.code yX9_goBoth cX9_goBoth 7 (some .boolean), Cond.methodLink RX9 132 yX9_threeAt, Cond.instanceMethod yX9_threeAt, Cond.selects RX9 yX9_threeAt yX9_threeAt, Cond.code yX9_threeAt cX9_threeAt 7 (some .boolean), Cond.methodLink RX9 121 yX9_goThree, Cond.instanceMethod yX9_goThree, Cond.selects RX9 yX9_goThree yX9_goThree, Cond.code yX9_goThree cX9_goThree 9 (some .boolean), Cond.methodLink RL 73 yX8_lostUpTo, Cond.instanceMethod yX8_lostUpTo, Cond.selects RX8 yX8_lostUpTo yX8_lostUpTo, Cond.code yX8_lostUpTo cX8_lostUpTo 4 (some .int), Cond.methodLink RX8 135 yX8_mostByAll, Cond.static yX8_mostByAll, Cond.code yX8_mostByAll cX8_mostByAll 1 (some .int)]
def wsL_law_r19 : List Cond := [Cond.methodLink RX8 139 yX3_countUpTo, Cond.instanceMethod yX3_countUpTo, Cond.selects RX3 yX3_countUpTo yX3_countUpTo, Cond.code yX3_countUpTo cX3_countUpTo 8 (some .int), Cond.methodLink RX3 29 yJ13_bitCount_95d88, Cond.static yJ13_bitCount_95d88, Cond.initialized RJ13, Cond.code yJ13_bitCount_95d88 cJ13_bitCount_95d88 2 (some .int), Cond.constantLong RJ13 314 (6148914691236517205), Cond.constantLong RJ13 316 (3689348814741910323), Cond.constantLong RJ13 318 (1085102592571150095), Cond.methodLink RL 77 yX9_lostUpTo, Cond.instanceMethod yX9_lostUpTo, Cond.selects RX9 yX9_lostUpTo yX9_lostUpTo, Cond.code yX9_lostUpTo cX9_lostUpTo 8 (some .int), Cond.methodLink RL 78 yX8_timesByAll, Cond.instanceMethod yX8_timesByAll, Cond.selects RX8 yX8_timesByAll yX8_timesByAll, Cond.code yX8_timesByAll cX8_timesByAll 4 (some .int), Cond.methodLink RX8 144 yX7_isWonByAll, Cond.static yX7_isWonByAll, Cond.code yX7_isWonByAll cX7_isWonByAll 6 (some .boolean), Cond.constant RX7 34 (2147483647), Cond.constantLong RX7 35 (60)]
def wsL_law_r20 : List Cond := [Cond.methodLink RL 82 yX9_timesByAll, Cond.instanceMethod yX9_timesByAll, Cond.selects RX9 yX9_timesByAll yX9_timesByAll, Cond.code yX9_timesByAll cX9_timesByAll 9 (some .int), Cond.methodLink RL 83 yX8_board, Cond.instanceMethod yX8_board, Cond.selects RX8 yX8_board yX8_board, Cond.code yX8_board cX8_board 9 (some .int), Cond.methodLink RX8 147 yX4_begin, Cond.instanceMethod yX4_begin, Cond.selects RX4 yX4_begin yX4_begin, Cond.code yX4_begin cX4_begin 9 none, Cond.fieldLink RX4 34 "GoldHeaps$Play" "misere" "Z", Cond.fieldLink RX4 38 "GoldHeaps$Play" "t" "I", Cond.fieldLink RX4 41 "GoldHeaps$Play" "made" "I", Cond.methodLink RL 87 yX9_board, Cond.instanceMethod yX9_board, Cond.selects RX9 yX9_board yX9_board, Cond.code yX9_board cX9_board 12 (some .int), Cond.constantLong RX9 136 (3), Cond.fieldLink RX9 138 "GoldHeapsModel" "misere" "Z", Cond.fieldLink RX9 141 "GoldHeapsModel" "t" "I", Cond.fieldLink RX9 144 "GoldHeapsModel" "moves" "I", Cond.methodLink RL 88 yX8_move]
def wsL_law_r21 : List Cond := [Cond.instanceMethod yX8_move, Cond.selects RX8 yX8_move yX8_move, Cond.code yX8_move cX8_move 4 (some .int), Cond.methodLink RX8 151 yX4_ways, Cond.instanceMethod yX4_ways, Cond.selects RX4 yX4_ways yX4_ways, Cond.code yX4_ways cX4_ways 1 (some .int), Cond.methodLink RX4 44 yX4_heapCount, Cond.instanceMethod yX4_heapCount, Cond.selects RX4 yX4_heapCount yX4_heapCount, Cond.code yX4_heapCount cX4_heapCount 1 (some .int), Cond.methodLink RX8 155 yX4_mayTake, Cond.instanceMethod yX4_mayTake, Cond.selects RX4 yX4_mayTake yX4_mayTake, Cond.code yX4_mayTake cX4_mayTake 6 (some .boolean), Cond.methodLink RX4 48 yX4_takesFrom, Cond.instanceMethod yX4_takesFrom, Cond.selects RX4 yX4_takesFrom yX4_takesFrom, Cond.code yX4_takesFrom cX4_takesFrom 3 (some .boolean), Cond.methodLink RX4 52 yX4_bound, Cond.instanceMethod yX4_bound, Cond.selects RX4 yX4_bound yX4_bound, Cond.code yX4_bound cX4_bound 1 (some .long), Cond.methodLink RX4 73 Lib.MathLoose.max_long.x]
def wsL_law_r22 : List Cond := [Cond.constantLong RX4 79 (1000000000000), Cond.methodLink RX4 81 Lib.MathLoose.min_long.x, Cond.methodLink RX8 159 yX4_take, Cond.instanceMethod yX4_take, Cond.selects RX4 yX4_take yX4_take, Cond.code yX4_take cX4_take 5 none, Cond.methodLink RX4 56 yX4_isWon, Cond.instanceMethod yX4_isWon, Cond.selects RX4 yX4_isWon yX4_isWon, Cond.code yX4_isWon cX4_isWon 1 (some .boolean), Cond.methodLink RX4 90 yX7_isWon, Cond.methodLink RX4 95 yX2_tableOf, Cond.methodLink RX4 99 yX3_has, Cond.methodLink RX4 109 yX5_isWon, Cond.methodLink RX4 118 yX0_isWon, Cond.methodLink RX4 60 yX4_addToHeaps, Cond.instanceMethod yX4_addToHeaps, Cond.selects RX4 yX4_addToHeaps yX4_addToHeaps, Cond.code yX4_addToHeaps cX4_addToHeaps 5 none, Cond.methodLink RX8 163 yX4_isOver, Cond.instanceMethod yX4_isOver, Cond.selects RX4 yX4_isOver yX4_isOver, Cond.code yX4_isOver cX4_isOver 1 (some .boolean), Cond.methodLink RL 91 yX9_move]
def wsL_law_r23 : List Cond := [Cond.instanceMethod yX9_move, Cond.selects RX9 yX9_move yX9_move, Cond.code yX9_move cX9_move 8 (some .int), Cond.methodLink RX9 155 yX9_mayMove, Cond.instanceMethod yX9_mayMove, Cond.selects RX9 yX9_mayMove yX9_mayMove, Cond.code yX9_mayMove cX9_mayMove 5 (some .boolean), Cond.methodLink RX9 151 yX9_canMove, Cond.instanceMethod yX9_canMove, Cond.selects RX9 yX9_canMove yX9_canMove, Cond.code yX9_canMove cX9_canMove 1 (some .boolean), Cond.methodLink RX9 147 yX9_heap, Cond.instanceMethod yX9_heap, Cond.selects RX9 yX9_heap yX9_heap, Cond.code yX9_heap cX9_heap 2 (some .long), Cond.methodLink RX9 159 yX9_isWon, Cond.instanceMethod yX9_isWon, Cond.selects RX9 yX9_isWon yX9_isWon, Cond.code yX9_isWon cX9_isWon 1 (some .boolean), Cond.methodLink RL 92 yX8_undo, Cond.instanceMethod yX8_undo, Cond.selects RX8 yX8_undo yX8_undo, Cond.code yX8_undo cX8_undo 1 (some .int), Cond.methodLink RX8 167 yX4_takeBack]
def wsL_law_r24 : List Cond := [Cond.instanceMethod yX4_takeBack, Cond.selects RX4 yX4_takeBack yX4_takeBack, Cond.code yX4_takeBack cX4_takeBack 1 (some .boolean), Cond.methodLink RX8 170 yX4_movesMade, Cond.instanceMethod yX4_movesMade, Cond.selects RX4 yX4_movesMade yX4_movesMade, Cond.code yX4_movesMade cX4_movesMade 1 (some .int), Cond.methodLink RL 96 yX9_undo, Cond.instanceMethod yX9_undo, Cond.selects RX9 yX9_undo yX9_undo, Cond.code yX9_undo cX9_undo 1 (some .int), Cond.methodLink RL 97 yX8_about, Cond.instanceMethod yX8_about, Cond.selects RX8 yX8_about yX8_about, Cond.code yX8_about cX8_about 2 (some .long), Cond.methodLink RX8 173 yX4_tell, Cond.instanceMethod yX4_tell, Cond.selects RX4 yX4_tell yX4_tell, Cond.code yX4_tell cX4_tell 2 (some .long), Cond.constantLong RX4 71 (-2), Cond.methodLink RX4 68 yX4_faults, Cond.instanceMethod yX4_faults, Cond.selects RX4 yX4_faults yX4_faults, Cond.code yX4_faults cX4_faults 3 (some .int)]
def wsL_law_r25 : List Cond := [Cond.methodLink RL 101 yX9_about, Cond.instanceMethod yX9_about, Cond.selects RX9 yX9_about yX9_about, Cond.code yX9_about cX9_about 2 (some .long), Cond.methodLink RL 102 yX8_digest, Cond.instanceMethod yX8_digest, Cond.selects RX8 yX8_digest yX8_digest, Cond.code yX8_digest cX8_digest 4 (some .long), Cond.constantLong RX8 176 (227), Cond.constantLong RX8 178 (31), Cond.methodLink RL 106 yX9_digest, Cond.instanceMethod yX9_digest, Cond.selects RX9 yX9_digest yX9_digest, Cond.code yX9_digest cX9_digest 4 (some .long), Cond.constantLong RX9 162 (227), Cond.constantLong RX9 164 (31), Cond.methodLink RX9 166 yX9_about]
def wsL_law : List Cond := (wsL_law_r1 ++ (wsL_law_r2 ++ (wsL_law_r3 ++ (wsL_law_r4 ++ (wsL_law_r5 ++ (wsL_law_r6 ++ (wsL_law_r7 ++ (wsL_law_r8 ++ (wsL_law_r9 ++ (wsL_law_r10 ++ (wsL_law_r11 ++ (wsL_law_r12 ++ (wsL_law_r13 ++ (wsL_law_r14 ++ (wsL_law_r15 ++ (wsL_law_r16 ++ (wsL_law_r17 ++ (wsL_law_r18 ++ (wsL_law_r19 ++ (wsL_law_r20 ++ (wsL_law_r21 ++ (wsL_law_r22 ++ (wsL_law_r23 ++ (wsL_law_r24 ++ wsL_law_r25)))))))))))))))))))))))) ++ wsX80 ++ wsX90 ++ wsX20 ++ wsX40 ++ wsX70 ++ wsX10 ++ wsX50 ++ wsX00 ++ wsX60 ++ wsX30 ++ ([] : List Cond)
abbrev vwCl : List vw_C := [(RX0, TX0, 1), (RX1, TX1, 1), (RX2, TX2, 5), (RX3, TX3, 2), (RX4, TX4, 9), (RX5, TX5, 1), (RX6, TX6, 2), (RX7, TX7, 1), (RX8, TX8, 2), (RX9, TX9, 18)]
end
section
theorem dX0_init_0 : decode cX0_init 0 = .ok (.aload_n 0, 1) := by decide +kernel
theorem dX0_init_1 : decode cX0_init 1 = .ok (.invokespecial 3, 3) := by decide +kernel
theorem dX0_init_4 : decode cX0_init 4 = .ok (.aload_n 0, 1) := by decide +kernel
theorem dX0_init_5 : decode cX0_init 5 = .ok (.aload_n 1, 1) := by decide +kernel
theorem dX0_init_6 : decode cX0_init 6 = .ok (.putfield 9, 3) := by decide +kernel
theorem dX0_init_9 : decode cX0_init 9 = .ok (.return_, 1) := by decide +kernel
set_option maxRecDepth 20000 in
theorem ggX0_isWon_X0_lesserLostAlong : GoodIn wsX0_isWon wsX0_lesserLostAlong := goodIn_r _ [9, 10, 11, 12, 3, 13, 14, 15, 16, 17, 18, 19, 20, 21, 22, 23, 24, 25, 26, 27, 28, 29, 30] (by decide +kernel) (by decide +kernel)
set_option maxRecDepth 20000 in
theorem gX0_isWon_X0_lesserLostAlong : GoodIn wsX0_isWon (wsV RX0 15 RX0 yX0_lesserLostAlong wsX0_lesserLostAlong) := goodIn_app (goodIn_of _ (by decide +kernel)) ggX0_isWon_X0_lesserLostAlong
theorem dX0_isWon_0 : decode cX0_isWon 0 = .ok (.aload_n 0, 1) := by decide +kernel
theorem dX0_isWon_1 : decode cX0_isWon 1 = .ok (.lload_n 1, 1) := by decide +kernel
theorem dX0_isWon_2 : decode cX0_isWon 2 = .ok (.lload_n 3, 1) := by decide +kernel
theorem dX0_isWon_3 : decode cX0_isWon 3 = .ok (.invokevirtual 15, 3) := by decide +kernel
theorem dX0_isWon_6 : decode cX0_isWon 6 = .ok (.lload_n 1, 1) := by decide +kernel
theorem dX0_isWon_7 : decode cX0_isWon 7 = .ok (.lload_n 3, 1) := by decide +kernel
theorem dX0_isWon_8 : decode cX0_isWon 8 = .ok (.invokestatic 19, 3) := by decide +kernel
theorem dX0_isWon_11 : decode cX0_isWon 11 = .ok (.lcmp, 1) := by decide +kernel
theorem dX0_isWon_12 : decode cX0_isWon 12 = .ok (.ifCond .eq 7, 3) := by decide +kernel
theorem dX0_isWon_15 : decode cX0_isWon 15 = .ok (.iconst 1, 1) := by decide +kernel
theorem dX0_isWon_16 : decode cX0_isWon 16 = .ok (.goto 4, 3) := by decide +kernel
theorem dX0_isWon_19 : decode cX0_isWon 19 = .ok (.iconst 0, 1) := by decide +kernel
theorem dX0_isWon_20 : decode cX0_isWon 20 = .ok (.ireturn, 1) := by decide +kernel
set_option maxRecDepth 20000 in
theorem ggX0_whichWins_X1_partnerOf : GoodIn wsX0_whichWins wsX1_partnerOf := goodIn_r _ [10, 11, 12, 13, 9, 14, 15, 16, 17, 18, 19, 20, 21, 22, 23, 24, 25, 26, 27, 28, 29, 30, 41, 42, 43] (by decide +kernel) (by decide +kernel)
set_option maxRecDepth 20000 in
theorem gX0_whichWins_X1_partnerOf : GoodIn wsX0_whichWins (wsV RX0 24 RX1 yX1_partnerOf wsX1_partnerOf) := goodIn_app (goodIn_of _ (by decide +kernel)) ggX0_whichWins_X1_partnerOf
set_option maxRecDepth 20000 in
theorem ggX0_whichWins_X0_lesserLostAlong : GoodIn wsX0_whichWins wsX0_lesserLostAlong := goodIn_r _ [35, 1, 36, 37, 4, 38, 39, 20, 21, 9, 22, 23, 24, 25, 26, 27, 28, 29, 30, 40, 41, 42, 43] (by decide +kernel) (by decide +kernel)
set_option maxRecDepth 20000 in
theorem gX0_whichWins_X0_lesserLostAlong : GoodIn wsX0_whichWins (wsV RX0 15 RX0 yX0_lesserLostAlong wsX0_lesserLostAlong) := goodIn_app (goodIn_of _ (by decide +kernel)) ggX0_whichWins_X0_lesserLostAlong
theorem dX0_whichWins_0 : decode cX0_whichWins 0 = .ok (.aload_n 0, 1) := by decide +kernel
theorem dX0_whichWins_1 : decode cX0_whichWins 1 = .ok (.getfield 9, 3) := by decide +kernel
theorem dX0_whichWins_4 : decode cX0_whichWins 4 = .ok (.lload_n 3, 1) := by decide +kernel
theorem dX0_whichWins_5 : decode cX0_whichWins 5 = .ok (.invokevirtual 24, 3) := by decide +kernel
theorem dX0_whichWins_8 : decode cX0_whichWins 8 = .ok (.lload_n 1, 1) := by decide +kernel
theorem dX0_whichWins_9 : decode cX0_whichWins 9 = .ok (.lcmp, 1) := by decide +kernel
theorem dX0_whichWins_10 : decode cX0_whichWins 10 = .ok (.ifCond .ge 5, 3) := by decide +kernel
theorem dX0_whichWins_13 : decode cX0_whichWins 13 = .ok (.iconst 0, 1) := by decide +kernel
theorem dX0_whichWins_14 : decode cX0_whichWins 14 = .ok (.ireturn, 1) := by decide +kernel
theorem dX0_whichWins_15 : decode cX0_whichWins 15 = .ok (.aload_n 0, 1) := by decide +kernel
theorem dX0_whichWins_16 : decode cX0_whichWins 16 = .ok (.getfield 9, 3) := by decide +kernel
theorem dX0_whichWins_19 : decode cX0_whichWins 19 = .ok (.lload_n 1, 1) := by decide +kernel
theorem dX0_whichWins_20 : decode cX0_whichWins 20 = .ok (.invokevirtual 24, 3) := by decide +kernel
theorem dX0_whichWins_23 : decode cX0_whichWins 23 = .ok (.lload_n 3, 1) := by decide +kernel
theorem dX0_whichWins_24 : decode cX0_whichWins 24 = .ok (.lcmp, 1) := by decide +kernel
theorem dX0_whichWins_25 : decode cX0_whichWins 25 = .ok (.ifCond .ge 5, 3) := by decide +kernel
theorem dX0_whichWins_28 : decode cX0_whichWins 28 = .ok (.iconst 1, 1) := by decide +kernel
theorem dX0_whichWins_29 : decode cX0_whichWins 29 = .ok (.ireturn, 1) := by decide +kernel
theorem dX0_whichWins_30 : decode cX0_whichWins 30 = .ok (.aload_n 0, 1) := by decide +kernel
theorem dX0_whichWins_31 : decode cX0_whichWins 31 = .ok (.lload_n 1, 1) := by decide +kernel
theorem dX0_whichWins_32 : decode cX0_whichWins 32 = .ok (.lload_n 3, 1) := by decide +kernel
theorem dX0_whichWins_33 : decode cX0_whichWins 33 = .ok (.invokevirtual 15, 3) := by decide +kernel
theorem dX0_whichWins_36 : decode cX0_whichWins 36 = .ok (.lload_n 1, 1) := by decide +kernel
theorem dX0_whichWins_37 : decode cX0_whichWins 37 = .ok (.lload_n 3, 1) := by decide +kernel
theorem dX0_whichWins_38 : decode cX0_whichWins 38 = .ok (.invokestatic 19, 3) := by decide +kernel
theorem dX0_whichWins_41 : decode cX0_whichWins 41 = .ok (.lcmp, 1) := by decide +kernel
theorem dX0_whichWins_42 : decode cX0_whichWins 42 = .ok (.ifCond .ge 7, 3) := by decide +kernel
theorem dX0_whichWins_45 : decode cX0_whichWins 45 = .ok (.iconst 2, 1) := by decide +kernel
theorem dX0_whichWins_46 : decode cX0_whichWins 46 = .ok (.goto 4, 3) := by decide +kernel
theorem dX0_whichWins_49 : decode cX0_whichWins 49 = .ok (.iconst (-1), 1) := by decide +kernel
theorem dX0_whichWins_50 : decode cX0_whichWins 50 = .ok (.ireturn, 1) := by decide +kernel
set_option maxRecDepth 20000 in
theorem ggX0_howMany_X1_partnerOf : GoodIn wsX0_howMany wsX1_partnerOf := goodIn_r _ [10, 11, 12, 13, 9, 14, 15, 16, 17, 18, 19, 20, 21, 22, 23, 24, 25, 26, 27, 28, 29, 30, 41, 42, 43] (by decide +kernel) (by decide +kernel)
set_option maxRecDepth 20000 in
theorem gX0_howMany_X1_partnerOf : GoodIn wsX0_howMany (wsV RX0 24 RX1 yX1_partnerOf wsX1_partnerOf) := goodIn_app (goodIn_of _ (by decide +kernel)) ggX0_howMany_X1_partnerOf
set_option maxRecDepth 20000 in
theorem ggX0_howMany_X0_lesserLostAlong : GoodIn wsX0_howMany wsX0_lesserLostAlong := goodIn_r _ [35, 1, 36, 37, 4, 38, 39, 20, 21, 9, 22, 23, 24, 25, 26, 27, 28, 29, 30, 40, 41, 42, 43] (by decide +kernel) (by decide +kernel)
set_option maxRecDepth 20000 in
theorem gX0_howMany_X0_lesserLostAlong : GoodIn wsX0_howMany (wsV RX0 15 RX0 yX0_lesserLostAlong wsX0_lesserLostAlong) := goodIn_app (goodIn_of _ (by decide +kernel)) ggX0_howMany_X0_lesserLostAlong
theorem dX0_howMany_0 : decode cX0_howMany 0 = .ok (.iload 5, 2) := by decide +kernel
theorem dX0_howMany_2 : decode cX0_howMany 2 = .ok (.tableswitch 61 0 2 #[26, 37, 48], 26) := by decide +kernel
theorem dX0_howMany_28 : decode cX0_howMany 28 = .ok (.lload_n 1, 1) := by decide +kernel
theorem dX0_howMany_29 : decode cX0_howMany 29 = .ok (.aload_n 0, 1) := by decide +kernel
theorem dX0_howMany_30 : decode cX0_howMany 30 = .ok (.getfield 9, 3) := by decide +kernel
theorem dX0_howMany_33 : decode cX0_howMany 33 = .ok (.lload_n 3, 1) := by decide +kernel
theorem dX0_howMany_34 : decode cX0_howMany 34 = .ok (.invokevirtual 24, 3) := by decide +kernel
theorem dX0_howMany_37 : decode cX0_howMany 37 = .ok (.lsub, 1) := by decide +kernel
theorem dX0_howMany_38 : decode cX0_howMany 38 = .ok (.lreturn, 1) := by decide +kernel
theorem dX0_howMany_39 : decode cX0_howMany 39 = .ok (.lload_n 3, 1) := by decide +kernel
theorem dX0_howMany_40 : decode cX0_howMany 40 = .ok (.aload_n 0, 1) := by decide +kernel
theorem dX0_howMany_41 : decode cX0_howMany 41 = .ok (.getfield 9, 3) := by decide +kernel
theorem dX0_howMany_44 : decode cX0_howMany 44 = .ok (.lload_n 1, 1) := by decide +kernel
theorem dX0_howMany_45 : decode cX0_howMany 45 = .ok (.invokevirtual 24, 3) := by decide +kernel
theorem dX0_howMany_48 : decode cX0_howMany 48 = .ok (.lsub, 1) := by decide +kernel
theorem dX0_howMany_49 : decode cX0_howMany 49 = .ok (.lreturn, 1) := by decide +kernel
theorem dX0_howMany_50 : decode cX0_howMany 50 = .ok (.lload_n 1, 1) := by decide +kernel
theorem dX0_howMany_51 : decode cX0_howMany 51 = .ok (.lload_n 3, 1) := by decide +kernel
theorem dX0_howMany_52 : decode cX0_howMany 52 = .ok (.invokestatic 19, 3) := by decide +kernel
theorem dX0_howMany_55 : decode cX0_howMany 55 = .ok (.aload_n 0, 1) := by decide +kernel
theorem dX0_howMany_56 : decode cX0_howMany 56 = .ok (.lload_n 1, 1) := by decide +kernel
theorem dX0_howMany_57 : decode cX0_howMany 57 = .ok (.lload_n 3, 1) := by decide +kernel
theorem dX0_howMany_58 : decode cX0_howMany 58 = .ok (.invokevirtual 15, 3) := by decide +kernel
theorem dX0_howMany_61 : decode cX0_howMany 61 = .ok (.lsub, 1) := by decide +kernel
theorem dX0_howMany_62 : decode cX0_howMany 62 = .ok (.lreturn, 1) := by decide +kernel
theorem dX0_howMany_63 : decode cX0_howMany 63 = .ok (.lconst 0, 1) := by decide +kernel
theorem dX0_howMany_64 : decode cX0_howMany 64 = .ok (.lreturn, 1) := by decide +kernel
set_option maxRecDepth 20000 in
theorem ggX0_lesserLostAlong_X1_cut : GoodIn wsX0_lesserLostAlong wsX1_cut := goodIn_r _ [10, 11, 12, 13, 14, 15, 16, 17, 18, 20, 21, 22] (by decide +kernel) (by decide +kernel)
set_option maxRecDepth 20000 in
theorem gX0_lesserLostAlong_X1_cut : GoodIn wsX0_lesserLostAlong (wsV RX0 33 RX1 yX1_cut wsX1_cut) := goodIn_app (goodIn_of _ (by decide +kernel)) ggX0_lesserLostAlong_X1_cut
theorem dX0_lesserLostAlong_0 : decode cX0_lesserLostAlong 0 = .ok (.aload_n 0, 1) := by decide +kernel
theorem dX0_lesserLostAlong_1 : decode cX0_lesserLostAlong 1 = .ok (.getfield 9, 3) := by decide +kernel
theorem dX0_lesserLostAlong_4 : decode cX0_lesserLostAlong 4 = .ok (.lload_n 1, 1) := by decide +kernel
theorem dX0_lesserLostAlong_5 : decode cX0_lesserLostAlong 5 = .ok (.lload_n 3, 1) := by decide +kernel
theorem dX0_lesserLostAlong_6 : decode cX0_lesserLostAlong 6 = .ok (.lsub, 1) := by decide +kernel
theorem dX0_lesserLostAlong_7 : decode cX0_lesserLostAlong 7 = .ok (.invokestatic 30, 3) := by decide +kernel
theorem dX0_lesserLostAlong_10 : decode cX0_lesserLostAlong 10 = .ok (.invokevirtual 33, 3) := by decide +kernel
theorem dX0_lesserLostAlong_13 : decode cX0_lesserLostAlong 13 = .ok (.lreturn, 1) := by decide +kernel
theorem dX1_init_0 : decode cX1_init 0 = .ok (.aload_n 0, 1) := by decide +kernel
theorem dX1_init_1 : decode cX1_init 1 = .ok (.invokespecial 1, 3) := by decide +kernel
theorem dX1_init_4 : decode cX1_init 4 = .ok (.aload_n 0, 1) := by decide +kernel
theorem dX1_init_5 : decode cX1_init 5 = .ok (.aload_n 1, 1) := by decide +kernel
theorem dX1_init_6 : decode cX1_init 6 = .ok (.putfield 7, 3) := by decide +kernel
theorem dX1_init_9 : decode cX1_init 9 = .ok (.return_, 1) := by decide +kernel
set_option maxRecDepth 20000 in
theorem ggX1_cut_X6_raised : GoodIn wsX1_cut wsX6_raised := goodIn_r _ [6, 7, 8, 10, 11] (by decide +kernel) (by decide +kernel)
set_option maxRecDepth 20000 in
theorem gX1_cut_X6_raised : GoodIn wsX1_cut (wsV RX1 13 RX6 yX6_raised wsX6_raised) := goodIn_app (goodIn_of _ (by decide +kernel)) ggX1_cut_X6_raised
theorem dX1_cut_0 : decode cX1_cut 0 = .ok (.lload_n 1, 1) := by decide +kernel
theorem dX1_cut_1 : decode cX1_cut 1 = .ok (.lconst 0, 1) := by decide +kernel
theorem dX1_cut_2 : decode cX1_cut 2 = .ok (.lcmp, 1) := by decide +kernel
theorem dX1_cut_3 : decode cX1_cut 3 = .ok (.ifCond .gt 7, 3) := by decide +kernel
theorem dX1_cut_6 : decode cX1_cut 6 = .ok (.lconst 0, 1) := by decide +kernel
theorem dX1_cut_7 : decode cX1_cut 7 = .ok (.goto 15, 3) := by decide +kernel
theorem dX1_cut_10 : decode cX1_cut 10 = .ok (.lconst 1, 1) := by decide +kernel
theorem dX1_cut_11 : decode cX1_cut 11 = .ok (.aload_n 0, 1) := by decide +kernel
theorem dX1_cut_12 : decode cX1_cut 12 = .ok (.getfield 7, 3) := by decide +kernel
theorem dX1_cut_15 : decode cX1_cut 15 = .ok (.lload_n 1, 1) := by decide +kernel
theorem dX1_cut_16 : decode cX1_cut 16 = .ok (.lconst 1, 1) := by decide +kernel
theorem dX1_cut_17 : decode cX1_cut 17 = .ok (.lsub, 1) := by decide +kernel
theorem dX1_cut_18 : decode cX1_cut 18 = .ok (.invokevirtual 13, 3) := by decide +kernel
theorem dX1_cut_21 : decode cX1_cut 21 = .ok (.ladd, 1) := by decide +kernel
theorem dX1_cut_22 : decode cX1_cut 22 = .ok (.lreturn, 1) := by decide +kernel
set_option maxRecDepth 20000 in
theorem ggX1_isLesser_X1_indexIfLesser : GoodIn wsX1_isLesser wsX1_indexIfLesser := goodIn_r _ [5, 6, 7, 8, 4, 9, 10, 11, 12, 13, 14, 15, 16, 17, 18, 19, 20] (by decide +kernel) (by decide +kernel)
set_option maxRecDepth 20000 in
theorem gX1_isLesser_X1_indexIfLesser : GoodIn wsX1_isLesser (wsV RX1 19 RX1 yX1_indexIfLesser wsX1_indexIfLesser) := goodIn_app (goodIn_of _ (by decide +kernel)) ggX1_isLesser_X1_indexIfLesser
set_option maxRecDepth 20000 in
theorem ggX1_isLesser_X1_cut : GoodIn wsX1_isLesser wsX1_cut := goodIn_r _ [9, 10, 11, 12, 13, 14, 15, 16, 17, 18, 19, 20] (by decide +kernel) (by decide +kernel)
set_option maxRecDepth 20000 in
theorem gX1_isLesser_X1_cut : GoodIn wsX1_isLesser (wsV RX1 22 RX1 yX1_cut wsX1_cut) := goodIn_app (goodIn_of _ (by decide +kernel)) ggX1_isLesser_X1_cut
theorem dX1_isLesser_0 : decode cX1_isLesser 0 = .ok (.aload_n 0, 1) := by decide +kernel
theorem dX1_isLesser_1 : decode cX1_isLesser 1 = .ok (.aload_n 0, 1) := by decide +kernel
theorem dX1_isLesser_2 : decode cX1_isLesser 2 = .ok (.lload_n 1, 1) := by decide +kernel
theorem dX1_isLesser_3 : decode cX1_isLesser 3 = .ok (.invokevirtual 19, 3) := by decide +kernel
theorem dX1_isLesser_6 : decode cX1_isLesser 6 = .ok (.invokevirtual 22, 3) := by decide +kernel
theorem dX1_isLesser_9 : decode cX1_isLesser 9 = .ok (.lload_n 1, 1) := by decide +kernel
theorem dX1_isLesser_10 : decode cX1_isLesser 10 = .ok (.lcmp, 1) := by decide +kernel
theorem dX1_isLesser_11 : decode cX1_isLesser 11 = .ok (.ifCond .ne 7, 3) := by decide +kernel
theorem dX1_isLesser_14 : decode cX1_isLesser 14 = .ok (.iconst 1, 1) := by decide +kernel
theorem dX1_isLesser_15 : decode cX1_isLesser 15 = .ok (.goto 4, 3) := by decide +kernel
theorem dX1_isLesser_18 : decode cX1_isLesser 18 = .ok (.iconst 0, 1) := by decide +kernel
theorem dX1_isLesser_19 : decode cX1_isLesser 19 = .ok (.ireturn, 1) := by decide +kernel
set_option maxRecDepth 20000 in
theorem ggX1_indexOf_X1_isLesser : GoodIn wsX1_indexOf wsX1_isLesser := goodIn_r _ [6, 7, 8, 9, 5, 10, 11, 12, 13, 14, 15, 16, 17, 18, 19, 20, 21, 22, 23, 24, 25] (by decide +kernel) (by decide +kernel)
set_option maxRecDepth 20000 in
theorem gX1_indexOf_X1_isLesser : GoodIn wsX1_indexOf (wsV RX1 25 RX1 yX1_isLesser wsX1_isLesser) := goodIn_app (goodIn_of _ (by decide +kernel)) ggX1_indexOf_X1_isLesser
set_option maxRecDepth 20000 in
theorem ggX1_indexOf_X1_indexIfLesser : GoodIn wsX1_indexOf wsX1_indexIfLesser := goodIn_r _ [10, 11, 12, 13, 5, 14, 15, 16, 17, 18, 19, 20, 21, 22, 23, 24, 25] (by decide +kernel) (by decide +kernel)
set_option maxRecDepth 20000 in
theorem gX1_indexOf_X1_indexIfLesser : GoodIn wsX1_indexOf (wsV RX1 19 RX1 yX1_indexIfLesser wsX1_indexIfLesser) := goodIn_app (goodIn_of _ (by decide +kernel)) ggX1_indexOf_X1_indexIfLesser
set_option maxRecDepth 20000 in
theorem ggX1_indexOf_X1_cut : GoodIn wsX1_indexOf wsX1_cut := goodIn_r _ [14, 15, 16, 17, 18, 19, 20, 21, 22, 23, 24, 25] (by decide +kernel) (by decide +kernel)
set_option maxRecDepth 20000 in
theorem gX1_indexOf_X1_cut : GoodIn wsX1_indexOf (wsV RX1 22 RX1 yX1_cut wsX1_cut) := goodIn_app (goodIn_of _ (by decide +kernel)) ggX1_indexOf_X1_cut
theorem dX1_indexOf_0 : decode cX1_indexOf 0 = .ok (.aload_n 0, 1) := by decide +kernel
theorem dX1_indexOf_1 : decode cX1_indexOf 1 = .ok (.lload_n 1, 1) := by decide +kernel
theorem dX1_indexOf_2 : decode cX1_indexOf 2 = .ok (.invokevirtual 25, 3) := by decide +kernel
theorem dX1_indexOf_5 : decode cX1_indexOf 5 = .ok (.ifCond .eq 11, 3) := by decide +kernel
theorem dX1_indexOf_8 : decode cX1_indexOf 8 = .ok (.aload_n 0, 1) := by decide +kernel
theorem dX1_indexOf_9 : decode cX1_indexOf 9 = .ok (.lload_n 1, 1) := by decide +kernel
theorem dX1_indexOf_10 : decode cX1_indexOf 10 = .ok (.invokevirtual 19, 3) := by decide +kernel
theorem dX1_indexOf_13 : decode cX1_indexOf 13 = .ok (.goto 14, 3) := by decide +kernel
theorem dX1_indexOf_16 : decode cX1_indexOf 16 = .ok (.ldc2_w 29, 3) := by decide +kernel
theorem dX1_indexOf_19 : decode cX1_indexOf 19 = .ok (.lload_n 1, 1) := by decide +kernel
theorem dX1_indexOf_20 : decode cX1_indexOf 20 = .ok (.lmul, 1) := by decide +kernel
theorem dX1_indexOf_21 : decode cX1_indexOf 21 = .ok (.aload_n 0, 1) := by decide +kernel
theorem dX1_indexOf_22 : decode cX1_indexOf 22 = .ok (.lload_n 1, 1) := by decide +kernel
theorem dX1_indexOf_23 : decode cX1_indexOf 23 = .ok (.invokevirtual 22, 3) := by decide +kernel
theorem dX1_indexOf_26 : decode cX1_indexOf 26 = .ok (.lsub, 1) := by decide +kernel
theorem dX1_indexOf_27 : decode cX1_indexOf 27 = .ok (.lreturn, 1) := by decide +kernel
set_option maxRecDepth 20000 in
theorem ggX1_partnerOf_X1_isLesser : GoodIn wsX1_partnerOf wsX1_isLesser := goodIn_r _ [5, 6, 7, 8, 4, 9, 10, 11, 12, 13, 14, 15, 16, 17, 18, 19, 20, 21, 22, 23, 24] (by decide +kernel) (by decide +kernel)
set_option maxRecDepth 20000 in
theorem gX1_partnerOf_X1_isLesser : GoodIn wsX1_partnerOf (wsV RX1 25 RX1 yX1_isLesser wsX1_isLesser) := goodIn_app (goodIn_of _ (by decide +kernel)) ggX1_partnerOf_X1_isLesser
set_option maxRecDepth 20000 in
theorem ggX1_partnerOf_X1_indexIfLesser : GoodIn wsX1_partnerOf wsX1_indexIfLesser := goodIn_r _ [9, 10, 11, 12, 4, 13, 14, 15, 16, 17, 18, 19, 20, 21, 22, 23, 24] (by decide +kernel) (by decide +kernel)
set_option maxRecDepth 20000 in
theorem gX1_partnerOf_X1_indexIfLesser : GoodIn wsX1_partnerOf (wsV RX1 19 RX1 yX1_indexIfLesser wsX1_indexIfLesser) := goodIn_app (goodIn_of _ (by decide +kernel)) ggX1_partnerOf_X1_indexIfLesser
set_option maxRecDepth 20000 in
theorem ggX1_partnerOf_X1_cut : GoodIn wsX1_partnerOf wsX1_cut := goodIn_r _ [13, 14, 15, 16, 17, 18, 19, 20, 21, 22, 23, 24] (by decide +kernel) (by decide +kernel)
set_option maxRecDepth 20000 in
theorem gX1_partnerOf_X1_cut : GoodIn wsX1_partnerOf (wsV RX1 22 RX1 yX1_cut wsX1_cut) := goodIn_app (goodIn_of _ (by decide +kernel)) ggX1_partnerOf_X1_cut
theorem dX1_partnerOf_0 : decode cX1_partnerOf 0 = .ok (.aload_n 0, 1) := by decide +kernel
theorem dX1_partnerOf_1 : decode cX1_partnerOf 1 = .ok (.lload_n 1, 1) := by decide +kernel
theorem dX1_partnerOf_2 : decode cX1_partnerOf 2 = .ok (.invokevirtual 25, 3) := by decide +kernel
theorem dX1_partnerOf_5 : decode cX1_partnerOf 5 = .ok (.ifCond .eq 13, 3) := by decide +kernel
theorem dX1_partnerOf_8 : decode cX1_partnerOf 8 = .ok (.lload_n 1, 1) := by decide +kernel
theorem dX1_partnerOf_9 : decode cX1_partnerOf 9 = .ok (.aload_n 0, 1) := by decide +kernel
theorem dX1_partnerOf_10 : decode cX1_partnerOf 10 = .ok (.lload_n 1, 1) := by decide +kernel
theorem dX1_partnerOf_11 : decode cX1_partnerOf 11 = .ok (.invokevirtual 19, 3) := by decide +kernel
theorem dX1_partnerOf_14 : decode cX1_partnerOf 14 = .ok (.ladd, 1) := by decide +kernel
theorem dX1_partnerOf_15 : decode cX1_partnerOf 15 = .ok (.goto 10, 3) := by decide +kernel
theorem dX1_partnerOf_18 : decode cX1_partnerOf 18 = .ok (.aload_n 0, 1) := by decide +kernel
theorem dX1_partnerOf_19 : decode cX1_partnerOf 19 = .ok (.lload_n 1, 1) := by decide +kernel
theorem dX1_partnerOf_20 : decode cX1_partnerOf 20 = .ok (.invokevirtual 22, 3) := by decide +kernel
theorem dX1_partnerOf_23 : decode cX1_partnerOf 23 = .ok (.lload_n 1, 1) := by decide +kernel
theorem dX1_partnerOf_24 : decode cX1_partnerOf 24 = .ok (.lsub, 1) := by decide +kernel
theorem dX1_partnerOf_25 : decode cX1_partnerOf 25 = .ok (.lreturn, 1) := by decide +kernel
set_option maxRecDepth 20000 in
theorem ggX1_indexIfLesser_X1_cut : GoodIn wsX1_indexIfLesser wsX1_cut := goodIn_r _ [5, 6, 7, 8, 9, 10, 11, 12, 13, 14, 15, 16] (by decide +kernel) (by decide +kernel)
set_option maxRecDepth 20000 in
theorem gX1_indexIfLesser_X1_cut : GoodIn wsX1_indexIfLesser (wsV RX1 22 RX1 yX1_cut wsX1_cut) := goodIn_app (goodIn_of _ (by decide +kernel)) ggX1_indexIfLesser_X1_cut
theorem dX1_indexIfLesser_0 : decode cX1_indexIfLesser 0 = .ok (.lload_n 1, 1) := by decide +kernel
theorem dX1_indexIfLesser_1 : decode cX1_indexIfLesser 1 = .ok (.lconst 0, 1) := by decide +kernel
theorem dX1_indexIfLesser_2 : decode cX1_indexIfLesser 2 = .ok (.lcmp, 1) := by decide +kernel
theorem dX1_indexIfLesser_3 : decode cX1_indexIfLesser 3 = .ok (.ifCond .gt 7, 3) := by decide +kernel
theorem dX1_indexIfLesser_6 : decode cX1_indexIfLesser 6 = .ok (.lconst 0, 1) := by decide +kernel
theorem dX1_indexIfLesser_7 : decode cX1_indexIfLesser 7 = .ok (.goto 12, 3) := by decide +kernel
theorem dX1_indexIfLesser_10 : decode cX1_indexIfLesser 10 = .ok (.aload_n 0, 1) := by decide +kernel
theorem dX1_indexIfLesser_11 : decode cX1_indexIfLesser 11 = .ok (.lload_n 1, 1) := by decide +kernel
theorem dX1_indexIfLesser_12 : decode cX1_indexIfLesser 12 = .ok (.invokevirtual 22, 3) := by decide +kernel
theorem dX1_indexIfLesser_15 : decode cX1_indexIfLesser 15 = .ok (.lload_n 1, 1) := by decide +kernel
theorem dX1_indexIfLesser_16 : decode cX1_indexIfLesser 16 = .ok (.lsub, 1) := by decide +kernel
theorem dX1_indexIfLesser_17 : decode cX1_indexIfLesser 17 = .ok (.lconst 1, 1) := by decide +kernel
theorem dX1_indexIfLesser_18 : decode cX1_indexIfLesser 18 = .ok (.ladd, 1) := by decide +kernel
theorem dX1_indexIfLesser_19 : decode cX1_indexIfLesser 19 = .ok (.lreturn, 1) := by decide +kernel
set_option maxRecDepth 20000 in
theorem ggX2_init_X7_init : GoodIn wsX2_init wsX7_init := goodIn_r _ [23, 24, 2, 3, 25, 26, 61] (by decide +kernel) (by decide +kernel)
set_option maxRecDepth 20000 in
theorem gX2_init_X7_init_n19 : GoodIn wsX2_init (wsX7_init) := ggX2_init_X7_init
set_option maxRecDepth 20000 in
theorem ggX2_init_X7_sumsBy : GoodIn wsX2_init wsX7_sumsBy := goodIn_r _ [30, 26, 25, 31, 32, 33, 34, 35, 36, 2, 3, 37, 38, 39, 40, 61, 65, 66] (by decide +kernel) (by decide +kernel)
set_option maxRecDepth 20000 in
theorem gX2_init_X7_sumsBy : GoodIn wsX2_init (wsV RX2 26 RX7 yX7_sumsBy wsX7_sumsBy) := goodIn_app (goodIn_of _ (by decide +kernel)) ggX2_init_X7_sumsBy
set_option maxRecDepth 20000 in
theorem ggX2_init_X1_init : GoodIn wsX2_init wsX1_init := goodIn_r _ [43, 44, 2, 3, 45, 62] (by decide +kernel) (by decide +kernel)
set_option maxRecDepth 20000 in
theorem gX2_init_X1_init : GoodIn wsX2_init (wsX1_init) := ggX2_init_X1_init
set_option maxRecDepth 20000 in
theorem ggX2_init_X5_init : GoodIn wsX2_init wsX5_init := goodIn_r _ [48, 49, 2, 3, 50, 63] (by decide +kernel) (by decide +kernel)
set_option maxRecDepth 20000 in
theorem gX2_init_X5_init : GoodIn wsX2_init (wsX5_init) := ggX2_init_X5_init
set_option maxRecDepth 20000 in
theorem ggX2_init_X0_init : GoodIn wsX2_init wsX0_init := goodIn_r _ [53, 54, 2, 3, 55, 64] (by decide +kernel) (by decide +kernel)
set_option maxRecDepth 20000 in
theorem gX2_init_X0_init : GoodIn wsX2_init (wsX0_init) := ggX2_init_X0_init
theorem dX2_init_0 : decode cX2_init 0 = .ok (.aload_n 0, 1) := by decide +kernel
theorem dX2_init_1 : decode cX2_init 1 = .ok (.invokespecial 3, 3) := by decide +kernel
theorem dX2_init_4 : decode cX2_init 4 = .ok (.aload_n 0, 1) := by decide +kernel
theorem dX2_init_5 : decode cX2_init 5 = .ok (.bipush 8, 2) := by decide +kernel
theorem dX2_init_7 : decode cX2_init 7 = .ok (.anewarray 9, 3) := by decide +kernel
theorem dX2_init_10 : decode cX2_init 10 = .ok (.putfield 11, 3) := by decide +kernel
theorem dX2_init_13 : decode cX2_init 13 = .ok (.aload_n 0, 1) := by decide +kernel
theorem dX2_init_14 : decode cX2_init 14 = .ok (.new 17, 3) := by decide +kernel
theorem dX2_init_17 : decode cX2_init 17 = .ok (.dup, 1) := by decide +kernel
theorem dX2_init_18 : decode cX2_init 18 = .ok (.invokespecial 19, 3) := by decide +kernel
theorem dX2_init_21 : decode cX2_init 21 = .ok (.putfield 20, 3) := by decide +kernel
theorem dX2_init_24 : decode cX2_init 24 = .ok (.aload_n 0, 1) := by decide +kernel
theorem dX2_init_25 : decode cX2_init 25 = .ok (.new 24, 3) := by decide +kernel
theorem dX2_init_28 : decode cX2_init 28 = .ok (.dup, 1) := by decide +kernel
theorem dX2_init_29 : decode cX2_init 29 = .ok (.aload_n 0, 1) := by decide +kernel
theorem dX2_init_30 : decode cX2_init 30 = .ok (.getfield 20, 3) := by decide +kernel
theorem dX2_init_33 : decode cX2_init 33 = .ok (.iconst 2, 1) := by decide +kernel
theorem dX2_init_34 : decode cX2_init 34 = .ok (.invokevirtual 26, 3) := by decide +kernel
theorem dX2_init_37 : decode cX2_init 37 = .ok (.invokespecial 30, 3) := by decide +kernel
theorem dX2_init_40 : decode cX2_init 40 = .ok (.putfield 33, 3) := by decide +kernel
theorem dX2_init_43 : decode cX2_init 43 = .ok (.aload_n 0, 1) := by decide +kernel
theorem dX2_init_44 : decode cX2_init 44 = .ok (.new 37, 3) := by decide +kernel
theorem dX2_init_47 : decode cX2_init 47 = .ok (.dup, 1) := by decide +kernel
theorem dX2_init_48 : decode cX2_init 48 = .ok (.aload_n 0, 1) := by decide +kernel
theorem dX2_init_49 : decode cX2_init 49 = .ok (.getfield 33, 3) := by decide +kernel
theorem dX2_init_52 : decode cX2_init 52 = .ok (.invokespecial 39, 3) := by decide +kernel
theorem dX2_init_55 : decode cX2_init 55 = .ok (.putfield 42, 3) := by decide +kernel
theorem dX2_init_58 : decode cX2_init 58 = .ok (.aload_n 0, 1) := by decide +kernel
theorem dX2_init_59 : decode cX2_init 59 = .ok (.new 46, 3) := by decide +kernel
theorem dX2_init_62 : decode cX2_init 62 = .ok (.dup, 1) := by decide +kernel
theorem dX2_init_63 : decode cX2_init 63 = .ok (.aload_n 0, 1) := by decide +kernel
theorem dX2_init_64 : decode cX2_init 64 = .ok (.getfield 33, 3) := by decide +kernel
theorem dX2_init_67 : decode cX2_init 67 = .ok (.invokespecial 48, 3) := by decide +kernel
theorem dX2_init_70 : decode cX2_init 70 = .ok (.putfield 49, 3) := by decide +kernel
theorem dX2_init_73 : decode cX2_init 73 = .ok (.return_, 1) := by decide +kernel
set_option maxRecDepth 20000 in
theorem ggX2_tableOf_X8_isWithin : GoodIn wsX2_tableOf wsX8_isWithin := goodIn_r _ [8] (by decide +kernel) (by decide +kernel)
set_option maxRecDepth 20000 in
theorem gX2_tableOf_X8_isWithin_n55 : GoodIn wsX2_tableOf (wsX8_isWithin) := ggX2_tableOf_X8_isWithin
set_option maxRecDepth 20000 in
theorem ggX2_tableOf_X8_oneIf : GoodIn wsX2_tableOf wsX8_oneIf := goodIn_r _ [10] (by decide +kernel) (by decide +kernel)
set_option maxRecDepth 20000 in
theorem gX2_tableOf_X8_oneIf_n59 : GoodIn wsX2_tableOf (wsX8_oneIf) := ggX2_tableOf_X8_oneIf
set_option maxRecDepth 20000 in
theorem ggX2_tableOf_X3_init : GoodIn wsX2_tableOf wsX3_init := goodIn_r _ [13, 14, 15, 16, 17, 18, 19, 20, 21, 5, 22, 23, 24, 25, 26, 27, 28, 29, 30, 31, 32, 33, 34, 35, 36, 37, 38, 39, 40, 41, 42, 43, 44, 45, 51, 52] (by decide +kernel) (by decide +kernel)
set_option maxRecDepth 20000 in
theorem gX2_tableOf_X3_init : GoodIn wsX2_tableOf (wsX3_init) := ggX2_tableOf_X3_init
theorem dX2_tableOf_0 : decode cX2_tableOf 0 = .ok (.iconst 2, 1) := by decide +kernel
theorem dX2_tableOf_1 : decode cX2_tableOf 1 = .ok (.iload_n 1, 1) := by decide +kernel
theorem dX2_tableOf_2 : decode cX2_tableOf 2 = .ok (.i2l, 1) := by decide +kernel
theorem dX2_tableOf_3 : decode cX2_tableOf 3 = .ok (.lconst 0, 1) := by decide +kernel
theorem dX2_tableOf_4 : decode cX2_tableOf 4 = .ok (.ldc2_w 53, 3) := by decide +kernel
theorem dX2_tableOf_7 : decode cX2_tableOf 7 = .ok (.invokestatic 55, 3) := by decide +kernel
theorem dX2_tableOf_10 : decode cX2_tableOf 10 = .ok (.ifCond .eq 7, 3) := by decide +kernel
theorem dX2_tableOf_13 : decode cX2_tableOf 13 = .ok (.iload_n 1, 1) := by decide +kernel
theorem dX2_tableOf_14 : decode cX2_tableOf 14 = .ok (.goto 4, 3) := by decide +kernel
theorem dX2_tableOf_17 : decode cX2_tableOf 17 = .ok (.iconst 1, 1) := by decide +kernel
theorem dX2_tableOf_18 : decode cX2_tableOf 18 = .ok (.imul, 1) := by decide +kernel
theorem dX2_tableOf_19 : decode cX2_tableOf 19 = .ok (.iload_n 2, 1) := by decide +kernel
theorem dX2_tableOf_20 : decode cX2_tableOf 20 = .ok (.invokestatic 59, 3) := by decide +kernel
theorem dX2_tableOf_23 : decode cX2_tableOf 23 = .ok (.iadd, 1) := by decide +kernel
theorem dX2_tableOf_24 : decode cX2_tableOf 24 = .ok (.istore_n 3, 1) := by decide +kernel
theorem dX2_tableOf_25 : decode cX2_tableOf 25 = .ok (.aload_n 0, 1) := by decide +kernel
theorem dX2_tableOf_26 : decode cX2_tableOf 26 = .ok (.getfield 11, 3) := by decide +kernel
theorem dX2_tableOf_29 : decode cX2_tableOf 29 = .ok (.iload_n 3, 1) := by decide +kernel
theorem dX2_tableOf_30 : decode cX2_tableOf 30 = .ok (.aaload, 1) := by decide +kernel
theorem dX2_tableOf_31 : decode cX2_tableOf 31 = .ok (.astore 4, 2) := by decide +kernel
theorem dX2_tableOf_33 : decode cX2_tableOf 33 = .ok (.aload 4, 2) := by decide +kernel
theorem dX2_tableOf_35 : decode cX2_tableOf 35 = .ok (.ifnonnull 22, 3) := by decide +kernel
theorem dX2_tableOf_38 : decode cX2_tableOf 38 = .ok (.new 9, 3) := by decide +kernel
theorem dX2_tableOf_41 : decode cX2_tableOf 41 = .ok (.dup, 1) := by decide +kernel
theorem dX2_tableOf_42 : decode cX2_tableOf 42 = .ok (.iload_n 1, 1) := by decide +kernel
theorem dX2_tableOf_43 : decode cX2_tableOf 43 = .ok (.iload_n 2, 1) := by decide +kernel
theorem dX2_tableOf_44 : decode cX2_tableOf 44 = .ok (.invokespecial 63, 3) := by decide +kernel
theorem dX2_tableOf_47 : decode cX2_tableOf 47 = .ok (.astore 4, 2) := by decide +kernel
theorem dX2_tableOf_49 : decode cX2_tableOf 49 = .ok (.aload_n 0, 1) := by decide +kernel
theorem dX2_tableOf_50 : decode cX2_tableOf 50 = .ok (.getfield 11, 3) := by decide +kernel
theorem dX2_tableOf_53 : decode cX2_tableOf 53 = .ok (.iload_n 3, 1) := by decide +kernel
theorem dX2_tableOf_54 : decode cX2_tableOf 54 = .ok (.aload 4, 2) := by decide +kernel
theorem dX2_tableOf_56 : decode cX2_tableOf 56 = .ok (.aastore, 1) := by decide +kernel
theorem dX2_tableOf_57 : decode cX2_tableOf 57 = .ok (.aload 4, 2) := by decide +kernel
theorem dX2_tableOf_59 : decode cX2_tableOf 59 = .ok (.areturn, 1) := by decide +kernel
set_option maxRecDepth 20000 in
theorem ggX3_init_X3_fillThree : GoodIn wsX3_init wsX3_fillThree := goodIn_r _ [10, 11, 12, 9, 13, 14, 15, 16, 17] (by decide +kernel) (by decide +kernel)
set_option maxRecDepth 20000 in
theorem gX3_init_X3_fillThree : GoodIn wsX3_init (va_wsS RX3 19 yX3_fillThree wsX3_fillThree) := goodIn_app (goodIn_of _ (by decide +kernel)) ggX3_init_X3_fillThree
set_option maxRecDepth 20000 in
theorem ggX3_init_X3_fillBoth : GoodIn wsX3_init wsX3_fillBoth := goodIn_r _ [20, 14, 15, 9, 16, 17] (by decide +kernel) (by decide +kernel)
set_option maxRecDepth 20000 in
theorem gX3_init_X3_fillBoth : GoodIn wsX3_init (va_wsS RX3 23 yX3_fillBoth wsX3_fillBoth) := goodIn_app (goodIn_of _ (by decide +kernel)) ggX3_init_X3_fillBoth
set_option maxRecDepth 20000 in
theorem ggX3_init_X3_fillShares : GoodIn wsX3_init wsX3_fillShares := goodIn_r _ [23, 24, 25, 26, 27, 28, 29, 30, 31, 32, 9, 33] (by decide +kernel) (by decide +kernel)
set_option maxRecDepth 20000 in
theorem gX3_init_X3_fillShares : GoodIn wsX3_init (va_wsS RX3 26 yX3_fillShares wsX3_fillShares) := goodIn_app (goodIn_of _ (by decide +kernel)) ggX3_init_X3_fillShares
theorem dX3_init_0 : decode cX3_init 0 = .ok (.aload_n 0, 1) := by decide +kernel
theorem dX3_init_1 : decode cX3_init 1 = .ok (.invokespecial 3, 3) := by decide +kernel
theorem dX3_init_4 : decode cX3_init 4 = .ok (.aload_n 0, 1) := by decide +kernel
theorem dX3_init_5 : decode cX3_init 5 = .ok (.iload_n 1, 1) := by decide +kernel
theorem dX3_init_6 : decode cX3_init 6 = .ok (.iconst 3, 1) := by decide +kernel
theorem dX3_init_7 : decode cX3_init 7 = .ok (.if_icmp .ne 7, 3) := by decide +kernel
theorem dX3_init_10 : decode cX3_init 10 = .ok (.iconst 1, 1) := by decide +kernel
theorem dX3_init_11 : decode cX3_init 11 = .ok (.goto 4, 3) := by decide +kernel
theorem dX3_init_14 : decode cX3_init 14 = .ok (.iconst 0, 1) := by decide +kernel
theorem dX3_init_15 : decode cX3_init 15 = .ok (.putfield 9, 3) := by decide +kernel
theorem dX3_init_18 : decode cX3_init 18 = .ok (.aload_n 0, 1) := by decide +kernel
theorem dX3_init_19 : decode cX3_init 19 = .ok (.aload_n 0, 1) := by decide +kernel
theorem dX3_init_20 : decode cX3_init 20 = .ok (.getfield 9, 3) := by decide +kernel
theorem dX3_init_23 : decode cX3_init 23 = .ok (.ifCond .eq 8, 3) := by decide +kernel
theorem dX3_init_26 : decode cX3_init 26 = .ok (.bipush 121, 2) := by decide +kernel
theorem dX3_init_28 : decode cX3_init 28 = .ok (.goto 5, 3) := by decide +kernel
theorem dX3_init_31 : decode cX3_init 31 = .ok (.bipush 61, 2) := by decide +kernel
theorem dX3_init_33 : decode cX3_init 33 = .ok (.newarray .long, 2) := by decide +kernel
theorem dX3_init_35 : decode cX3_init 35 = .ok (.putfield 15, 3) := by decide +kernel
theorem dX3_init_38 : decode cX3_init 38 = .ok (.aload_n 0, 1) := by decide +kernel
theorem dX3_init_39 : decode cX3_init 39 = .ok (.getfield 9, 3) := by decide +kernel
theorem dX3_init_42 : decode cX3_init 42 = .ok (.ifCond .eq 14, 3) := by decide +kernel
theorem dX3_init_45 : decode cX3_init 45 = .ok (.aload_n 0, 1) := by decide +kernel
theorem dX3_init_46 : decode cX3_init 46 = .ok (.getfield 15, 3) := by decide +kernel
theorem dX3_init_49 : decode cX3_init 49 = .ok (.iload_n 2, 1) := by decide +kernel
theorem dX3_init_50 : decode cX3_init 50 = .ok (.invokestatic 19, 3) := by decide +kernel
theorem dX3_init_53 : decode cX3_init 53 = .ok (.goto 27, 3) := by decide +kernel
theorem dX3_init_56 : decode cX3_init 56 = .ok (.iload_n 1, 1) := by decide +kernel
theorem dX3_init_57 : decode cX3_init 57 = .ok (.iconst 1, 1) := by decide +kernel
theorem dX3_init_58 : decode cX3_init 58 = .ok (.if_icmp .ne 14, 3) := by decide +kernel
theorem dX3_init_61 : decode cX3_init 61 = .ok (.aload_n 0, 1) := by decide +kernel
theorem dX3_init_62 : decode cX3_init 62 = .ok (.getfield 15, 3) := by decide +kernel
theorem dX3_init_65 : decode cX3_init 65 = .ok (.iload_n 2, 1) := by decide +kernel
theorem dX3_init_66 : decode cX3_init 66 = .ok (.invokestatic 23, 3) := by decide +kernel
theorem dX3_init_69 : decode cX3_init 69 = .ok (.goto 11, 3) := by decide +kernel
theorem dX3_init_72 : decode cX3_init 72 = .ok (.aload_n 0, 1) := by decide +kernel
theorem dX3_init_73 : decode cX3_init 73 = .ok (.getfield 15, 3) := by decide +kernel
theorem dX3_init_76 : decode cX3_init 76 = .ok (.iload_n 2, 1) := by decide +kernel
theorem dX3_init_77 : decode cX3_init 77 = .ok (.invokestatic 26, 3) := by decide +kernel
theorem dX3_init_80 : decode cX3_init 80 = .ok (.return_, 1) := by decide +kernel
theorem dX3_has_0 : decode cX3_has 0 = .ok (.aload_n 0, 1) := by decide +kernel
theorem dX3_has_1 : decode cX3_has 1 = .ok (.getfield 9, 3) := by decide +kernel
theorem dX3_has_4 : decode cX3_has 4 = .ok (.ifCond .eq 12, 3) := by decide +kernel
theorem dX3_has_7 : decode cX3_has 7 = .ok (.iload_n 1, 1) := by decide +kernel
theorem dX3_has_8 : decode cX3_has 8 = .ok (.bipush 11, 2) := by decide +kernel
theorem dX3_has_10 : decode cX3_has 10 = .ok (.imul, 1) := by decide +kernel
theorem dX3_has_11 : decode cX3_has 11 = .ok (.iload_n 2, 1) := by decide +kernel
theorem dX3_has_12 : decode cX3_has 12 = .ok (.iadd, 1) := by decide +kernel
theorem dX3_has_13 : decode cX3_has 13 = .ok (.goto 4, 3) := by decide +kernel
theorem dX3_has_16 : decode cX3_has 16 = .ok (.iload_n 1, 1) := by decide +kernel
theorem dX3_has_17 : decode cX3_has 17 = .ok (.istore 4, 2) := by decide +kernel
theorem dX3_has_19 : decode cX3_has 19 = .ok (.aload_n 0, 1) := by decide +kernel
theorem dX3_has_20 : decode cX3_has 20 = .ok (.getfield 9, 3) := by decide +kernel
theorem dX3_has_23 : decode cX3_has 23 = .ok (.ifCond .eq 7, 3) := by decide +kernel
theorem dX3_has_26 : decode cX3_has 26 = .ok (.iload_n 3, 1) := by decide +kernel
theorem dX3_has_27 : decode cX3_has 27 = .ok (.goto 4, 3) := by decide +kernel
theorem dX3_has_30 : decode cX3_has 30 = .ok (.iload_n 2, 1) := by decide +kernel
theorem dX3_has_31 : decode cX3_has 31 = .ok (.istore 5, 2) := by decide +kernel
theorem dX3_has_33 : decode cX3_has 33 = .ok (.iload 4, 2) := by decide +kernel
theorem dX3_has_35 : decode cX3_has 35 = .ok (.ifCond .lt 34, 3) := by decide +kernel
theorem dX3_has_38 : decode cX3_has 38 = .ok (.iload 4, 2) := by decide +kernel
theorem dX3_has_40 : decode cX3_has 40 = .ok (.aload_n 0, 1) := by decide +kernel
theorem dX3_has_41 : decode cX3_has 41 = .ok (.getfield 15, 3) := by decide +kernel
theorem dX3_has_44 : decode cX3_has 44 = .ok (.arraylength, 1) := by decide +kernel
theorem dX3_has_45 : decode cX3_has 45 = .ok (.if_icmp .ge 24, 3) := by decide +kernel
theorem dX3_has_48 : decode cX3_has 48 = .ok (.aload_n 0, 1) := by decide +kernel
theorem dX3_has_49 : decode cX3_has 49 = .ok (.getfield 15, 3) := by decide +kernel
theorem dX3_has_52 : decode cX3_has 52 = .ok (.iload 4, 2) := by decide +kernel
theorem dX3_has_54 : decode cX3_has 54 = .ok (.laload, 1) := by decide +kernel
theorem dX3_has_55 : decode cX3_has 55 = .ok (.iload 5, 2) := by decide +kernel
theorem dX3_has_57 : decode cX3_has 57 = .ok (.lushr, 1) := by decide +kernel
theorem dX3_has_58 : decode cX3_has 58 = .ok (.lconst 1, 1) := by decide +kernel
theorem dX3_has_59 : decode cX3_has 59 = .ok (.land, 1) := by decide +kernel
theorem dX3_has_60 : decode cX3_has 60 = .ok (.lconst 1, 1) := by decide +kernel
theorem dX3_has_61 : decode cX3_has 61 = .ok (.lcmp, 1) := by decide +kernel
theorem dX3_has_62 : decode cX3_has 62 = .ok (.ifCond .ne 7, 3) := by decide +kernel
theorem dX3_has_65 : decode cX3_has 65 = .ok (.iconst 1, 1) := by decide +kernel
theorem dX3_has_66 : decode cX3_has 66 = .ok (.goto 4, 3) := by decide +kernel
theorem dX3_has_69 : decode cX3_has 69 = .ok (.iconst 0, 1) := by decide +kernel
theorem dX3_has_70 : decode cX3_has 70 = .ok (.ireturn, 1) := by decide +kernel
set_option maxRecDepth 20000 in
theorem ggX3_countUpTo_J13_bitCount_95d88 : GoodIn wsX3_countUpTo wsJ13_bitCount_95d88 := goodIn_r _ [6, 7, 8, 9] (by decide +kernel) (by decide +kernel)
set_option maxRecDepth 20000 in
theorem gX3_countUpTo_J13_bitCount_95d88 : GoodIn wsX3_countUpTo (va_wsS RX3 29 yJ13_bitCount_95d88 wsJ13_bitCount_95d88) := goodIn_app (goodIn_of _ (by decide +kernel)) ggX3_countUpTo_J13_bitCount_95d88
theorem dX3_countUpTo_0 : decode cX3_countUpTo 0 = .ok (.lconst 1, 1) := by decide +kernel
theorem dX3_countUpTo_1 : decode cX3_countUpTo 1 = .ok (.iload_n 1, 1) := by decide +kernel
theorem dX3_countUpTo_2 : decode cX3_countUpTo 2 = .ok (.iconst 1, 1) := by decide +kernel
theorem dX3_countUpTo_3 : decode cX3_countUpTo 3 = .ok (.iadd, 1) := by decide +kernel
theorem dX3_countUpTo_4 : decode cX3_countUpTo 4 = .ok (.lshl, 1) := by decide +kernel
theorem dX3_countUpTo_5 : decode cX3_countUpTo 5 = .ok (.lconst 1, 1) := by decide +kernel
theorem dX3_countUpTo_6 : decode cX3_countUpTo 6 = .ok (.lsub, 1) := by decide +kernel
theorem dX3_countUpTo_7 : decode cX3_countUpTo 7 = .ok (.lstore_n 2, 1) := by decide +kernel
theorem dX3_countUpTo_8 : decode cX3_countUpTo 8 = .ok (.iconst 0, 1) := by decide +kernel
theorem dX3_countUpTo_9 : decode cX3_countUpTo 9 = .ok (.istore 4, 2) := by decide +kernel
theorem dX3_countUpTo_11 : decode cX3_countUpTo 11 = .ok (.iconst 0, 1) := by decide +kernel
theorem dX3_countUpTo_12 : decode cX3_countUpTo 12 = .ok (.istore 5, 2) := by decide +kernel
theorem dX3_countUpTo_14 : decode cX3_countUpTo 14 = .ok (.iload 5, 2) := by decide +kernel
theorem dX3_countUpTo_16 : decode cX3_countUpTo 16 = .ok (.aload_n 0, 1) := by decide +kernel
theorem dX3_countUpTo_17 : decode cX3_countUpTo 17 = .ok (.getfield 15, 3) := by decide +kernel
theorem dX3_countUpTo_20 : decode cX3_countUpTo 20 = .ok (.arraylength, 1) := by decide +kernel
theorem dX3_countUpTo_21 : decode cX3_countUpTo 21 = .ok (.if_icmp .ge 75, 3) := by decide +kernel
theorem dX3_countUpTo_24 : decode cX3_countUpTo 24 = .ok (.aload_n 0, 1) := by decide +kernel
theorem dX3_countUpTo_25 : decode cX3_countUpTo 25 = .ok (.getfield 9, 3) := by decide +kernel
theorem dX3_countUpTo_28 : decode cX3_countUpTo 28 = .ok (.ifCond .eq 11, 3) := by decide +kernel
theorem dX3_countUpTo_31 : decode cX3_countUpTo 31 = .ok (.iload 5, 2) := by decide +kernel
theorem dX3_countUpTo_33 : decode cX3_countUpTo 33 = .ok (.bipush 11, 2) := by decide +kernel
theorem dX3_countUpTo_35 : decode cX3_countUpTo 35 = .ok (.idiv, 1) := by decide +kernel
theorem dX3_countUpTo_36 : decode cX3_countUpTo 36 = .ok (.goto 5, 3) := by decide +kernel
theorem dX3_countUpTo_39 : decode cX3_countUpTo 39 = .ok (.iload 5, 2) := by decide +kernel
theorem dX3_countUpTo_41 : decode cX3_countUpTo 41 = .ok (.istore 6, 2) := by decide +kernel
theorem dX3_countUpTo_43 : decode cX3_countUpTo 43 = .ok (.aload_n 0, 1) := by decide +kernel
theorem dX3_countUpTo_44 : decode cX3_countUpTo 44 = .ok (.getfield 9, 3) := by decide +kernel
theorem dX3_countUpTo_47 : decode cX3_countUpTo 47 = .ok (.ifCond .eq 11, 3) := by decide +kernel
theorem dX3_countUpTo_50 : decode cX3_countUpTo 50 = .ok (.iload 5, 2) := by decide +kernel
theorem dX3_countUpTo_52 : decode cX3_countUpTo 52 = .ok (.bipush 11, 2) := by decide +kernel
theorem dX3_countUpTo_54 : decode cX3_countUpTo 54 = .ok (.irem, 1) := by decide +kernel
theorem dX3_countUpTo_55 : decode cX3_countUpTo 55 = .ok (.goto 4, 3) := by decide +kernel
theorem dX3_countUpTo_58 : decode cX3_countUpTo 58 = .ok (.iconst 0, 1) := by decide +kernel
theorem dX3_countUpTo_59 : decode cX3_countUpTo 59 = .ok (.istore 7, 2) := by decide +kernel
theorem dX3_countUpTo_61 : decode cX3_countUpTo 61 = .ok (.iload 6, 2) := by decide +kernel
theorem dX3_countUpTo_63 : decode cX3_countUpTo 63 = .ok (.iload_n 1, 1) := by decide +kernel
theorem dX3_countUpTo_64 : decode cX3_countUpTo 64 = .ok (.if_icmp .gt 26, 3) := by decide +kernel
theorem dX3_countUpTo_67 : decode cX3_countUpTo 67 = .ok (.iload 7, 2) := by decide +kernel
theorem dX3_countUpTo_69 : decode cX3_countUpTo 69 = .ok (.iload_n 1, 1) := by decide +kernel
theorem dX3_countUpTo_70 : decode cX3_countUpTo 70 = .ok (.if_icmp .gt 20, 3) := by decide +kernel
theorem dX3_countUpTo_73 : decode cX3_countUpTo 73 = .ok (.iload 4, 2) := by decide +kernel
theorem dX3_countUpTo_75 : decode cX3_countUpTo 75 = .ok (.aload_n 0, 1) := by decide +kernel
theorem dX3_countUpTo_76 : decode cX3_countUpTo 76 = .ok (.getfield 15, 3) := by decide +kernel
theorem dX3_countUpTo_79 : decode cX3_countUpTo 79 = .ok (.iload 5, 2) := by decide +kernel
theorem dX3_countUpTo_81 : decode cX3_countUpTo 81 = .ok (.laload, 1) := by decide +kernel
theorem dX3_countUpTo_82 : decode cX3_countUpTo 82 = .ok (.lload_n 2, 1) := by decide +kernel
theorem dX3_countUpTo_83 : decode cX3_countUpTo 83 = .ok (.land, 1) := by decide +kernel
theorem dX3_countUpTo_84 : decode cX3_countUpTo 84 = .ok (.invokestatic 29, 3) := by decide +kernel
theorem dX3_countUpTo_87 : decode cX3_countUpTo 87 = .ok (.iadd, 1) := by decide +kernel
theorem dX3_countUpTo_88 : decode cX3_countUpTo 88 = .ok (.istore 4, 2) := by decide +kernel
theorem dX3_countUpTo_90 : decode cX3_countUpTo 90 = .ok (.iinc 5 1, 3) := by decide +kernel
theorem dX3_countUpTo_93 : decode cX3_countUpTo 93 = .ok (.goto (-79), 3) := by decide +kernel
theorem dX3_countUpTo_96 : decode cX3_countUpTo 96 = .ok (.iload 4, 2) := by decide +kernel
theorem dX3_countUpTo_98 : decode cX3_countUpTo 98 = .ok (.ireturn, 1) := by decide +kernel
set_option maxRecDepth 20000 in
theorem ggX3_fillShares_X3_sharesReach : GoodIn wsX3_fillShares wsX3_sharesReach := goodIn_r _ [11] (by decide +kernel) (by decide +kernel)
set_option maxRecDepth 20000 in
theorem gX3_fillShares_X3_sharesReach : GoodIn wsX3_fillShares (va_wsS RX3 44 yX3_sharesReach wsX3_sharesReach) := goodIn_app (goodIn_of _ (by decide +kernel)) ggX3_fillShares_X3_sharesReach
theorem dX3_fillShares_0 : decode cX3_fillShares 0 = .ok (.iconst 0, 1) := by decide +kernel
theorem dX3_fillShares_1 : decode cX3_fillShares 1 = .ok (.istore_n 2, 1) := by decide +kernel
theorem dX3_fillShares_2 : decode cX3_fillShares 2 = .ok (.iload_n 2, 1) := by decide +kernel
theorem dX3_fillShares_3 : decode cX3_fillShares 3 = .ok (.bipush 61, 2) := by decide +kernel
theorem dX3_fillShares_5 : decode cX3_fillShares 5 = .ok (.if_icmp .ge 69, 3) := by decide +kernel
theorem dX3_fillShares_8 : decode cX3_fillShares 8 = .ok (.iconst 0, 1) := by decide +kernel
theorem dX3_fillShares_9 : decode cX3_fillShares 9 = .ok (.istore_n 3, 1) := by decide +kernel
theorem dX3_fillShares_10 : decode cX3_fillShares 10 = .ok (.iload_n 3, 1) := by decide +kernel
theorem dX3_fillShares_11 : decode cX3_fillShares 11 = .ok (.bipush 61, 2) := by decide +kernel
theorem dX3_fillShares_13 : decode cX3_fillShares 13 = .ok (.if_icmp .ge 55, 3) := by decide +kernel
theorem dX3_fillShares_16 : decode cX3_fillShares 16 = .ok (.iload_n 2, 1) := by decide +kernel
theorem dX3_fillShares_17 : decode cX3_fillShares 17 = .ok (.iload_n 3, 1) := by decide +kernel
theorem dX3_fillShares_18 : decode cX3_fillShares 18 = .ok (.invokestatic 35, 3) := by decide +kernel
theorem dX3_fillShares_21 : decode cX3_fillShares 21 = .ok (.istore 4, 2) := by decide +kernel
theorem dX3_fillShares_23 : decode cX3_fillShares 23 = .ok (.iload 4, 2) := by decide +kernel
theorem dX3_fillShares_25 : decode cX3_fillShares 25 = .ok (.ifCond .ne 7, 3) := by decide +kernel
theorem dX3_fillShares_28 : decode cX3_fillShares 28 = .ok (.iload_n 1, 1) := by decide +kernel
theorem dX3_fillShares_29 : decode cX3_fillShares 29 = .ok (.goto 17, 3) := by decide +kernel
theorem dX3_fillShares_32 : decode cX3_fillShares 32 = .ok (.aload_n 0, 1) := by decide +kernel
theorem dX3_fillShares_33 : decode cX3_fillShares 33 = .ok (.iload 4, 2) := by decide +kernel
theorem dX3_fillShares_35 : decode cX3_fillShares 35 = .ok (.laload, 1) := by decide +kernel
theorem dX3_fillShares_36 : decode cX3_fillShares 36 = .ok (.iload_n 2, 1) := by decide +kernel
theorem dX3_fillShares_37 : decode cX3_fillShares 37 = .ok (.iload_n 3, 1) := by decide +kernel
theorem dX3_fillShares_38 : decode cX3_fillShares 38 = .ok (.invokestatic 41, 3) := by decide +kernel
theorem dX3_fillShares_41 : decode cX3_fillShares 41 = .ok (.iload 4, 2) := by decide +kernel
theorem dX3_fillShares_43 : decode cX3_fillShares 43 = .ok (.invokestatic 44, 3) := by decide +kernel
theorem dX3_fillShares_46 : decode cX3_fillShares 46 = .ok (.istore 5, 2) := by decide +kernel
theorem dX3_fillShares_48 : decode cX3_fillShares 48 = .ok (.iload 5, 2) := by decide +kernel
theorem dX3_fillShares_50 : decode cX3_fillShares 50 = .ok (.ifCond .ne 12, 3) := by decide +kernel
theorem dX3_fillShares_53 : decode cX3_fillShares 53 = .ok (.aload_n 0, 1) := by decide +kernel
theorem dX3_fillShares_54 : decode cX3_fillShares 54 = .ok (.iload_n 2, 1) := by decide +kernel
theorem dX3_fillShares_55 : decode cX3_fillShares 55 = .ok (.dup2, 1) := by decide +kernel
theorem dX3_fillShares_56 : decode cX3_fillShares 56 = .ok (.laload, 1) := by decide +kernel
theorem dX3_fillShares_57 : decode cX3_fillShares 57 = .ok (.lconst 1, 1) := by decide +kernel
theorem dX3_fillShares_58 : decode cX3_fillShares 58 = .ok (.iload_n 3, 1) := by decide +kernel
theorem dX3_fillShares_59 : decode cX3_fillShares 59 = .ok (.lshl, 1) := by decide +kernel
theorem dX3_fillShares_60 : decode cX3_fillShares 60 = .ok (.lor, 1) := by decide +kernel
theorem dX3_fillShares_61 : decode cX3_fillShares 61 = .ok (.lastore, 1) := by decide +kernel
theorem dX3_fillShares_62 : decode cX3_fillShares 62 = .ok (.iinc 3 1, 3) := by decide +kernel
theorem dX3_fillShares_65 : decode cX3_fillShares 65 = .ok (.goto (-55), 3) := by decide +kernel
theorem dX3_fillShares_68 : decode cX3_fillShares 68 = .ok (.iinc 2 1, 3) := by decide +kernel
theorem dX3_fillShares_71 : decode cX3_fillShares 71 = .ok (.goto (-69), 3) := by decide +kernel
theorem dX3_fillShares_74 : decode cX3_fillShares 74 = .ok (.return_, 1) := by decide +kernel
theorem dX3_sharesReach_0 : decode cX3_sharesReach 0 = .ok (.iload_n 2, 1) := by decide +kernel
theorem dX3_sharesReach_1 : decode cX3_sharesReach 1 = .ok (.iload_n 3, 1) := by decide +kernel
theorem dX3_sharesReach_2 : decode cX3_sharesReach 2 = .ok (.isub, 1) := by decide +kernel
theorem dX3_sharesReach_3 : decode cX3_sharesReach 3 = .ok (.istore 4, 2) := by decide +kernel
theorem dX3_sharesReach_5 : decode cX3_sharesReach 5 = .ok (.iload_n 3, 1) := by decide +kernel
theorem dX3_sharesReach_6 : decode cX3_sharesReach 6 = .ok (.ifCond .le 30, 3) := by decide +kernel
theorem dX3_sharesReach_9 : decode cX3_sharesReach 9 = .ok (.iload 4, 2) := by decide +kernel
theorem dX3_sharesReach_11 : decode cX3_sharesReach 11 = .ok (.ifCond .lt 25, 3) := by decide +kernel
theorem dX3_sharesReach_14 : decode cX3_sharesReach 14 = .ok (.lload_n 0, 1) := by decide +kernel
theorem dX3_sharesReach_15 : decode cX3_sharesReach 15 = .ok (.iload 4, 2) := by decide +kernel
theorem dX3_sharesReach_17 : decode cX3_sharesReach 17 = .ok (.lushr, 1) := by decide +kernel
theorem dX3_sharesReach_18 : decode cX3_sharesReach 18 = .ok (.lconst 1, 1) := by decide +kernel
theorem dX3_sharesReach_19 : decode cX3_sharesReach 19 = .ok (.land, 1) := by decide +kernel
theorem dX3_sharesReach_20 : decode cX3_sharesReach 20 = .ok (.lconst 1, 1) := by decide +kernel
theorem dX3_sharesReach_21 : decode cX3_sharesReach 21 = .ok (.lcmp, 1) := by decide +kernel
theorem dX3_sharesReach_22 : decode cX3_sharesReach 22 = .ok (.ifCond .ne 5, 3) := by decide +kernel
theorem dX3_sharesReach_25 : decode cX3_sharesReach 25 = .ok (.iconst 1, 1) := by decide +kernel
theorem dX3_sharesReach_26 : decode cX3_sharesReach 26 = .ok (.ireturn, 1) := by decide +kernel
theorem dX3_sharesReach_27 : decode cX3_sharesReach 27 = .ok (.iload 4, 2) := by decide +kernel
theorem dX3_sharesReach_29 : decode cX3_sharesReach 29 = .ok (.iload_n 3, 1) := by decide +kernel
theorem dX3_sharesReach_30 : decode cX3_sharesReach 30 = .ok (.isub, 1) := by decide +kernel
theorem dX3_sharesReach_31 : decode cX3_sharesReach 31 = .ok (.istore 4, 2) := by decide +kernel
theorem dX3_sharesReach_33 : decode cX3_sharesReach 33 = .ok (.goto (-28), 3) := by decide +kernel
theorem dX3_sharesReach_36 : decode cX3_sharesReach 36 = .ok (.iconst 0, 1) := by decide +kernel
theorem dX3_sharesReach_37 : decode cX3_sharesReach 37 = .ok (.ireturn, 1) := by decide +kernel
set_option maxRecDepth 20000 in
theorem ggX3_fillBoth_X3_lostInLine : GoodIn wsX3_fillBoth wsX3_lostInLine := goodIn_r _ [4, 5] (by decide +kernel) (by decide +kernel)
set_option maxRecDepth 20000 in
theorem gX3_fillBoth_X3_lostInLine : GoodIn wsX3_fillBoth (va_wsS RX3 48 yX3_lostInLine wsX3_lostInLine) := goodIn_app (goodIn_of _ (by decide +kernel)) ggX3_fillBoth_X3_lostInLine
theorem dX3_fillBoth_0 : decode cX3_fillBoth 0 = .ok (.lconst 0, 1) := by decide +kernel
theorem dX3_fillBoth_1 : decode cX3_fillBoth 1 = .ok (.lstore_n 2, 1) := by decide +kernel
theorem dX3_fillBoth_2 : decode cX3_fillBoth 2 = .ok (.lconst 0, 1) := by decide +kernel
theorem dX3_fillBoth_3 : decode cX3_fillBoth 3 = .ok (.lstore 4, 2) := by decide +kernel
theorem dX3_fillBoth_5 : decode cX3_fillBoth 5 = .ok (.iconst 0, 1) := by decide +kernel
theorem dX3_fillBoth_6 : decode cX3_fillBoth 6 = .ok (.istore 6, 2) := by decide +kernel
theorem dX3_fillBoth_8 : decode cX3_fillBoth 8 = .ok (.iload 6, 2) := by decide +kernel
theorem dX3_fillBoth_10 : decode cX3_fillBoth 10 = .ok (.bipush 61, 2) := by decide +kernel
theorem dX3_fillBoth_12 : decode cX3_fillBoth 12 = .ok (.if_icmp .ge 54, 3) := by decide +kernel
theorem dX3_fillBoth_15 : decode cX3_fillBoth 15 = .ok (.aload_n 0, 1) := by decide +kernel
theorem dX3_fillBoth_16 : decode cX3_fillBoth 16 = .ok (.iload 6, 2) := by decide +kernel
theorem dX3_fillBoth_18 : decode cX3_fillBoth 18 = .ok (.lload_n 2, 1) := by decide +kernel
theorem dX3_fillBoth_19 : decode cX3_fillBoth 19 = .ok (.lload 4, 2) := by decide +kernel
theorem dX3_fillBoth_21 : decode cX3_fillBoth 21 = .ok (.lor, 1) := by decide +kernel
theorem dX3_fillBoth_22 : decode cX3_fillBoth 22 = .ok (.bipush 61, 2) := by decide +kernel
theorem dX3_fillBoth_24 : decode cX3_fillBoth 24 = .ok (.iload_n 1, 1) := by decide +kernel
theorem dX3_fillBoth_25 : decode cX3_fillBoth 25 = .ok (.ifCond .eq 12, 3) := by decide +kernel
theorem dX3_fillBoth_28 : decode cX3_fillBoth 28 = .ok (.iload 6, 2) := by decide +kernel
theorem dX3_fillBoth_30 : decode cX3_fillBoth 30 = .ok (.ifCond .ne 7, 3) := by decide +kernel
theorem dX3_fillBoth_33 : decode cX3_fillBoth 33 = .ok (.iconst 1, 1) := by decide +kernel
theorem dX3_fillBoth_34 : decode cX3_fillBoth 34 = .ok (.goto 4, 3) := by decide +kernel
theorem dX3_fillBoth_37 : decode cX3_fillBoth 37 = .ok (.iconst 0, 1) := by decide +kernel
theorem dX3_fillBoth_38 : decode cX3_fillBoth 38 = .ok (.invokestatic 48, 3) := by decide +kernel
theorem dX3_fillBoth_41 : decode cX3_fillBoth 41 = .ok (.lastore, 1) := by decide +kernel
theorem dX3_fillBoth_42 : decode cX3_fillBoth 42 = .ok (.lload_n 2, 1) := by decide +kernel
theorem dX3_fillBoth_43 : decode cX3_fillBoth 43 = .ok (.aload_n 0, 1) := by decide +kernel
theorem dX3_fillBoth_44 : decode cX3_fillBoth 44 = .ok (.iload 6, 2) := by decide +kernel
theorem dX3_fillBoth_46 : decode cX3_fillBoth 46 = .ok (.laload, 1) := by decide +kernel
theorem dX3_fillBoth_47 : decode cX3_fillBoth 47 = .ok (.lor, 1) := by decide +kernel
theorem dX3_fillBoth_48 : decode cX3_fillBoth 48 = .ok (.lstore_n 2, 1) := by decide +kernel
theorem dX3_fillBoth_49 : decode cX3_fillBoth 49 = .ok (.lload 4, 2) := by decide +kernel
theorem dX3_fillBoth_51 : decode cX3_fillBoth 51 = .ok (.aload_n 0, 1) := by decide +kernel
theorem dX3_fillBoth_52 : decode cX3_fillBoth 52 = .ok (.iload 6, 2) := by decide +kernel
theorem dX3_fillBoth_54 : decode cX3_fillBoth 54 = .ok (.laload, 1) := by decide +kernel
theorem dX3_fillBoth_55 : decode cX3_fillBoth 55 = .ok (.lor, 1) := by decide +kernel
theorem dX3_fillBoth_56 : decode cX3_fillBoth 56 = .ok (.iconst 1, 1) := by decide +kernel
theorem dX3_fillBoth_57 : decode cX3_fillBoth 57 = .ok (.lshl, 1) := by decide +kernel
theorem dX3_fillBoth_58 : decode cX3_fillBoth 58 = .ok (.lstore 4, 2) := by decide +kernel
theorem dX3_fillBoth_60 : decode cX3_fillBoth 60 = .ok (.iinc 6 1, 3) := by decide +kernel
theorem dX3_fillBoth_63 : decode cX3_fillBoth 63 = .ok (.goto (-55), 3) := by decide +kernel
theorem dX3_fillBoth_66 : decode cX3_fillBoth 66 = .ok (.return_, 1) := by decide +kernel
set_option maxRecDepth 20000 in
theorem ggX3_fillThree_X3_wonByTaking : GoodIn wsX3_fillThree wsX3_wonByTaking := goodIn_r _ [4] (by decide +kernel) (by decide +kernel)
set_option maxRecDepth 20000 in
theorem gX3_fillThree_X3_wonByTaking : GoodIn wsX3_fillThree (va_wsS RX3 52 yX3_wonByTaking wsX3_wonByTaking) := goodIn_app (goodIn_of _ (by decide +kernel)) ggX3_fillThree_X3_wonByTaking
set_option maxRecDepth 20000 in
theorem ggX3_fillThree_X3_lostInLine : GoodIn wsX3_fillThree wsX3_lostInLine := goodIn_r _ [7, 8] (by decide +kernel) (by decide +kernel)
set_option maxRecDepth 20000 in
theorem gX3_fillThree_X3_lostInLine : GoodIn wsX3_fillThree (va_wsS RX3 48 yX3_lostInLine wsX3_lostInLine) := goodIn_app (goodIn_of _ (by decide +kernel)) ggX3_fillThree_X3_lostInLine
theorem dX3_fillThree_0 : decode cX3_fillThree 0 = .ok (.iconst 0, 1) := by decide +kernel
theorem dX3_fillThree_1 : decode cX3_fillThree 1 = .ok (.istore_n 2, 1) := by decide +kernel
theorem dX3_fillThree_2 : decode cX3_fillThree 2 = .ok (.iload_n 2, 1) := by decide +kernel
theorem dX3_fillThree_3 : decode cX3_fillThree 3 = .ok (.bipush 11, 2) := by decide +kernel
theorem dX3_fillThree_5 : decode cX3_fillThree 5 = .ok (.if_icmp .ge 60, 3) := by decide +kernel
theorem dX3_fillThree_8 : decode cX3_fillThree 8 = .ok (.iconst 0, 1) := by decide +kernel
theorem dX3_fillThree_9 : decode cX3_fillThree 9 = .ok (.istore_n 3, 1) := by decide +kernel
theorem dX3_fillThree_10 : decode cX3_fillThree 10 = .ok (.iload_n 3, 1) := by decide +kernel
theorem dX3_fillThree_11 : decode cX3_fillThree 11 = .ok (.bipush 11, 2) := by decide +kernel
theorem dX3_fillThree_13 : decode cX3_fillThree 13 = .ok (.if_icmp .ge 46, 3) := by decide +kernel
theorem dX3_fillThree_16 : decode cX3_fillThree 16 = .ok (.iload_n 2, 1) := by decide +kernel
theorem dX3_fillThree_17 : decode cX3_fillThree 17 = .ok (.bipush 11, 2) := by decide +kernel
theorem dX3_fillThree_19 : decode cX3_fillThree 19 = .ok (.imul, 1) := by decide +kernel
theorem dX3_fillThree_20 : decode cX3_fillThree 20 = .ok (.iload_n 3, 1) := by decide +kernel
theorem dX3_fillThree_21 : decode cX3_fillThree 21 = .ok (.iadd, 1) := by decide +kernel
theorem dX3_fillThree_22 : decode cX3_fillThree 22 = .ok (.istore 4, 2) := by decide +kernel
theorem dX3_fillThree_24 : decode cX3_fillThree 24 = .ok (.aload_n 0, 1) := by decide +kernel
theorem dX3_fillThree_25 : decode cX3_fillThree 25 = .ok (.iload 4, 2) := by decide +kernel
theorem dX3_fillThree_27 : decode cX3_fillThree 27 = .ok (.aload_n 0, 1) := by decide +kernel
theorem dX3_fillThree_28 : decode cX3_fillThree 28 = .ok (.iload_n 2, 1) := by decide +kernel
theorem dX3_fillThree_29 : decode cX3_fillThree 29 = .ok (.iload_n 3, 1) := by decide +kernel
theorem dX3_fillThree_30 : decode cX3_fillThree 30 = .ok (.invokestatic 52, 3) := by decide +kernel
theorem dX3_fillThree_33 : decode cX3_fillThree 33 = .ok (.bipush 11, 2) := by decide +kernel
theorem dX3_fillThree_35 : decode cX3_fillThree 35 = .ok (.iload_n 1, 1) := by decide +kernel
theorem dX3_fillThree_36 : decode cX3_fillThree 36 = .ok (.ifCond .eq 12, 3) := by decide +kernel
theorem dX3_fillThree_39 : decode cX3_fillThree 39 = .ok (.iload 4, 2) := by decide +kernel
theorem dX3_fillThree_41 : decode cX3_fillThree 41 = .ok (.ifCond .ne 7, 3) := by decide +kernel
theorem dX3_fillThree_44 : decode cX3_fillThree 44 = .ok (.iconst 1, 1) := by decide +kernel
theorem dX3_fillThree_45 : decode cX3_fillThree 45 = .ok (.goto 4, 3) := by decide +kernel
theorem dX3_fillThree_48 : decode cX3_fillThree 48 = .ok (.iconst 0, 1) := by decide +kernel
theorem dX3_fillThree_49 : decode cX3_fillThree 49 = .ok (.invokestatic 48, 3) := by decide +kernel
theorem dX3_fillThree_52 : decode cX3_fillThree 52 = .ok (.lastore, 1) := by decide +kernel
theorem dX3_fillThree_53 : decode cX3_fillThree 53 = .ok (.iinc 3 1, 3) := by decide +kernel
theorem dX3_fillThree_56 : decode cX3_fillThree 56 = .ok (.goto (-46), 3) := by decide +kernel
theorem dX3_fillThree_59 : decode cX3_fillThree 59 = .ok (.iinc 2 1, 3) := by decide +kernel
theorem dX3_fillThree_62 : decode cX3_fillThree 62 = .ok (.goto (-60), 3) := by decide +kernel
theorem dX3_fillThree_65 : decode cX3_fillThree 65 = .ok (.return_, 1) := by decide +kernel
theorem dX3_wonByTaking_0 : decode cX3_wonByTaking 0 = .ok (.iload_n 1, 1) := by decide +kernel
theorem dX3_wonByTaking_1 : decode cX3_wonByTaking 1 = .ok (.bipush 11, 2) := by decide +kernel
theorem dX3_wonByTaking_3 : decode cX3_wonByTaking 3 = .ok (.imul, 1) := by decide +kernel
theorem dX3_wonByTaking_4 : decode cX3_wonByTaking 4 = .ok (.iload_n 2, 1) := by decide +kernel
theorem dX3_wonByTaking_5 : decode cX3_wonByTaking 5 = .ok (.iadd, 1) := by decide +kernel
theorem dX3_wonByTaking_6 : decode cX3_wonByTaking 6 = .ok (.istore_n 3, 1) := by decide +kernel
theorem dX3_wonByTaking_7 : decode cX3_wonByTaking 7 = .ok (.lconst 0, 1) := by decide +kernel
theorem dX3_wonByTaking_8 : decode cX3_wonByTaking 8 = .ok (.lstore 4, 2) := by decide +kernel
theorem dX3_wonByTaking_10 : decode cX3_wonByTaking 10 = .ok (.iconst 1, 1) := by decide +kernel
theorem dX3_wonByTaking_11 : decode cX3_wonByTaking 11 = .ok (.istore 6, 2) := by decide +kernel
theorem dX3_wonByTaking_13 : decode cX3_wonByTaking 13 = .ok (.iload 6, 2) := by decide +kernel
theorem dX3_wonByTaking_15 : decode cX3_wonByTaking 15 = .ok (.iload_n 1, 1) := by decide +kernel
theorem dX3_wonByTaking_16 : decode cX3_wonByTaking 16 = .ok (.if_icmp .gt 23, 3) := by decide +kernel
theorem dX3_wonByTaking_19 : decode cX3_wonByTaking 19 = .ok (.lload 4, 2) := by decide +kernel
theorem dX3_wonByTaking_21 : decode cX3_wonByTaking 21 = .ok (.aload_n 0, 1) := by decide +kernel
theorem dX3_wonByTaking_22 : decode cX3_wonByTaking 22 = .ok (.iload_n 3, 1) := by decide +kernel
theorem dX3_wonByTaking_23 : decode cX3_wonByTaking 23 = .ok (.iload 6, 2) := by decide +kernel
theorem dX3_wonByTaking_25 : decode cX3_wonByTaking 25 = .ok (.bipush 11, 2) := by decide +kernel
theorem dX3_wonByTaking_27 : decode cX3_wonByTaking 27 = .ok (.imul, 1) := by decide +kernel
theorem dX3_wonByTaking_28 : decode cX3_wonByTaking 28 = .ok (.isub, 1) := by decide +kernel
theorem dX3_wonByTaking_29 : decode cX3_wonByTaking 29 = .ok (.laload, 1) := by decide +kernel
theorem dX3_wonByTaking_30 : decode cX3_wonByTaking 30 = .ok (.lor, 1) := by decide +kernel
theorem dX3_wonByTaking_31 : decode cX3_wonByTaking 31 = .ok (.lstore 4, 2) := by decide +kernel
theorem dX3_wonByTaking_33 : decode cX3_wonByTaking 33 = .ok (.iinc 6 1, 3) := by decide +kernel
theorem dX3_wonByTaking_36 : decode cX3_wonByTaking 36 = .ok (.goto (-23), 3) := by decide +kernel
theorem dX3_wonByTaking_39 : decode cX3_wonByTaking 39 = .ok (.iconst 1, 1) := by decide +kernel
theorem dX3_wonByTaking_40 : decode cX3_wonByTaking 40 = .ok (.istore 6, 2) := by decide +kernel
theorem dX3_wonByTaking_42 : decode cX3_wonByTaking 42 = .ok (.iload 6, 2) := by decide +kernel
theorem dX3_wonByTaking_44 : decode cX3_wonByTaking 44 = .ok (.iload_n 2, 1) := by decide +kernel
theorem dX3_wonByTaking_45 : decode cX3_wonByTaking 45 = .ok (.if_icmp .gt 20, 3) := by decide +kernel
theorem dX3_wonByTaking_48 : decode cX3_wonByTaking 48 = .ok (.lload 4, 2) := by decide +kernel
theorem dX3_wonByTaking_50 : decode cX3_wonByTaking 50 = .ok (.aload_n 0, 1) := by decide +kernel
theorem dX3_wonByTaking_51 : decode cX3_wonByTaking 51 = .ok (.iload_n 3, 1) := by decide +kernel
theorem dX3_wonByTaking_52 : decode cX3_wonByTaking 52 = .ok (.iload 6, 2) := by decide +kernel
theorem dX3_wonByTaking_54 : decode cX3_wonByTaking 54 = .ok (.isub, 1) := by decide +kernel
theorem dX3_wonByTaking_55 : decode cX3_wonByTaking 55 = .ok (.laload, 1) := by decide +kernel
theorem dX3_wonByTaking_56 : decode cX3_wonByTaking 56 = .ok (.lor, 1) := by decide +kernel
theorem dX3_wonByTaking_57 : decode cX3_wonByTaking 57 = .ok (.lstore 4, 2) := by decide +kernel
theorem dX3_wonByTaking_59 : decode cX3_wonByTaking 59 = .ok (.iinc 6 1, 3) := by decide +kernel
theorem dX3_wonByTaking_62 : decode cX3_wonByTaking 62 = .ok (.goto (-20), 3) := by decide +kernel
theorem dX3_wonByTaking_65 : decode cX3_wonByTaking 65 = .ok (.iconst 1, 1) := by decide +kernel
theorem dX3_wonByTaking_66 : decode cX3_wonByTaking 66 = .ok (.istore 6, 2) := by decide +kernel
theorem dX3_wonByTaking_68 : decode cX3_wonByTaking 68 = .ok (.iload 6, 2) := by decide +kernel
theorem dX3_wonByTaking_70 : decode cX3_wonByTaking 70 = .ok (.iload_n 1, 1) := by decide +kernel
theorem dX3_wonByTaking_71 : decode cX3_wonByTaking 71 = .ok (.if_icmp .gt 35, 3) := by decide +kernel
theorem dX3_wonByTaking_74 : decode cX3_wonByTaking 74 = .ok (.iload 6, 2) := by decide +kernel
theorem dX3_wonByTaking_76 : decode cX3_wonByTaking 76 = .ok (.iload_n 2, 1) := by decide +kernel
theorem dX3_wonByTaking_77 : decode cX3_wonByTaking 77 = .ok (.if_icmp .gt 29, 3) := by decide +kernel
theorem dX3_wonByTaking_80 : decode cX3_wonByTaking 80 = .ok (.lload 4, 2) := by decide +kernel
theorem dX3_wonByTaking_82 : decode cX3_wonByTaking 82 = .ok (.aload_n 0, 1) := by decide +kernel
theorem dX3_wonByTaking_83 : decode cX3_wonByTaking 83 = .ok (.iload_n 3, 1) := by decide +kernel
theorem dX3_wonByTaking_84 : decode cX3_wonByTaking 84 = .ok (.iload 6, 2) := by decide +kernel
theorem dX3_wonByTaking_86 : decode cX3_wonByTaking 86 = .ok (.bipush 11, 2) := by decide +kernel
theorem dX3_wonByTaking_88 : decode cX3_wonByTaking 88 = .ok (.imul, 1) := by decide +kernel
theorem dX3_wonByTaking_89 : decode cX3_wonByTaking 89 = .ok (.isub, 1) := by decide +kernel
theorem dX3_wonByTaking_90 : decode cX3_wonByTaking 90 = .ok (.iload 6, 2) := by decide +kernel
theorem dX3_wonByTaking_92 : decode cX3_wonByTaking 92 = .ok (.isub, 1) := by decide +kernel
theorem dX3_wonByTaking_93 : decode cX3_wonByTaking 93 = .ok (.laload, 1) := by decide +kernel
theorem dX3_wonByTaking_94 : decode cX3_wonByTaking 94 = .ok (.iload 6, 2) := by decide +kernel
theorem dX3_wonByTaking_96 : decode cX3_wonByTaking 96 = .ok (.lshl, 1) := by decide +kernel
theorem dX3_wonByTaking_97 : decode cX3_wonByTaking 97 = .ok (.lor, 1) := by decide +kernel
theorem dX3_wonByTaking_98 : decode cX3_wonByTaking 98 = .ok (.lstore 4, 2) := by decide +kernel
theorem dX3_wonByTaking_100 : decode cX3_wonByTaking 100 = .ok (.iinc 6 1, 3) := by decide +kernel
theorem dX3_wonByTaking_103 : decode cX3_wonByTaking 103 = .ok (.goto (-35), 3) := by decide +kernel
theorem dX3_wonByTaking_106 : decode cX3_wonByTaking 106 = .ok (.lload 4, 2) := by decide +kernel
theorem dX3_wonByTaking_108 : decode cX3_wonByTaking 108 = .ok (.lreturn, 1) := by decide +kernel
theorem dX3_lostInLine_0 : decode cX3_lostInLine 0 = .ok (.iload_n 3, 1) := by decide +kernel
theorem dX3_lostInLine_1 : decode cX3_lostInLine 1 = .ok (.ifCond .eq 9, 3) := by decide +kernel
theorem dX3_lostInLine_4 : decode cX3_lostInLine 4 = .ok (.lload_n 0, 1) := by decide +kernel
theorem dX3_lostInLine_5 : decode cX3_lostInLine 5 = .ok (.lconst 1, 1) := by decide +kernel
theorem dX3_lostInLine_6 : decode cX3_lostInLine 6 = .ok (.lor, 1) := by decide +kernel
theorem dX3_lostInLine_7 : decode cX3_lostInLine 7 = .ok (.goto 4, 3) := by decide +kernel
theorem dX3_lostInLine_10 : decode cX3_lostInLine 10 = .ok (.lload_n 0, 1) := by decide +kernel
theorem dX3_lostInLine_11 : decode cX3_lostInLine 11 = .ok (.lstore 4, 2) := by decide +kernel
theorem dX3_lostInLine_13 : decode cX3_lostInLine 13 = .ok (.lload 4, 2) := by decide +kernel
theorem dX3_lostInLine_15 : decode cX3_lostInLine 15 = .ok (.ldc2_w 56, 3) := by decide +kernel
theorem dX3_lostInLine_18 : decode cX3_lostInLine 18 = .ok (.lxor, 1) := by decide +kernel
theorem dX3_lostInLine_19 : decode cX3_lostInLine 19 = .ok (.lconst 1, 1) := by decide +kernel
theorem dX3_lostInLine_20 : decode cX3_lostInLine 20 = .ok (.iload_n 2, 1) := by decide +kernel
theorem dX3_lostInLine_21 : decode cX3_lostInLine 21 = .ok (.lshl, 1) := by decide +kernel
theorem dX3_lostInLine_22 : decode cX3_lostInLine 22 = .ok (.lconst 1, 1) := by decide +kernel
theorem dX3_lostInLine_23 : decode cX3_lostInLine 23 = .ok (.lsub, 1) := by decide +kernel
theorem dX3_lostInLine_24 : decode cX3_lostInLine 24 = .ok (.land, 1) := by decide +kernel
theorem dX3_lostInLine_25 : decode cX3_lostInLine 25 = .ok (.lstore 6, 2) := by decide +kernel
theorem dX3_lostInLine_27 : decode cX3_lostInLine 27 = .ok (.lload 6, 2) := by decide +kernel
theorem dX3_lostInLine_29 : decode cX3_lostInLine 29 = .ok (.lload 6, 2) := by decide +kernel
theorem dX3_lostInLine_31 : decode cX3_lostInLine 31 = .ok (.lneg, 1) := by decide +kernel
theorem dX3_lostInLine_32 : decode cX3_lostInLine 32 = .ok (.land, 1) := by decide +kernel
theorem dX3_lostInLine_33 : decode cX3_lostInLine 33 = .ok (.lreturn, 1) := by decide +kernel
theorem dX4_init_0 : decode cX4_init 0 = .ok (.aload_n 0, 1) := by decide +kernel
theorem dX4_init_1 : decode cX4_init 1 = .ok (.invokespecial 3, 3) := by decide +kernel
theorem dX4_init_4 : decode cX4_init 4 = .ok (.aload_n 0, 1) := by decide +kernel
theorem dX4_init_5 : decode cX4_init 5 = .ok (.iconst 3, 1) := by decide +kernel
theorem dX4_init_6 : decode cX4_init 6 = .ok (.newarray .long, 2) := by decide +kernel
theorem dX4_init_8 : decode cX4_init 8 = .ok (.putfield 11, 3) := by decide +kernel
theorem dX4_init_11 : decode cX4_init 11 = .ok (.aload_n 0, 1) := by decide +kernel
theorem dX4_init_12 : decode cX4_init 12 = .ok (.sipush 200, 3) := by decide +kernel
theorem dX4_init_15 : decode cX4_init 15 = .ok (.newarray .int, 2) := by decide +kernel
theorem dX4_init_17 : decode cX4_init 17 = .ok (.putfield 15, 3) := by decide +kernel
theorem dX4_init_20 : decode cX4_init 20 = .ok (.aload_n 0, 1) := by decide +kernel
theorem dX4_init_21 : decode cX4_init 21 = .ok (.sipush 200, 3) := by decide +kernel
theorem dX4_init_24 : decode cX4_init 24 = .ok (.newarray .long, 2) := by decide +kernel
theorem dX4_init_26 : decode cX4_init 26 = .ok (.putfield 19, 3) := by decide +kernel
theorem dX4_init_29 : decode cX4_init 29 = .ok (.aload_n 0, 1) := by decide +kernel
theorem dX4_init_30 : decode cX4_init 30 = .ok (.sipush 200, 3) := by decide +kernel
theorem dX4_init_33 : decode cX4_init 33 = .ok (.newarray .boolean, 2) := by decide +kernel
theorem dX4_init_35 : decode cX4_init 35 = .ok (.putfield 22, 3) := by decide +kernel
theorem dX4_init_38 : decode cX4_init 38 = .ok (.aload_n 0, 1) := by decide +kernel
theorem dX4_init_39 : decode cX4_init 39 = .ok (.iconst 1, 1) := by decide +kernel
theorem dX4_init_40 : decode cX4_init 40 = .ok (.putfield 26, 3) := by decide +kernel
theorem dX4_init_43 : decode cX4_init 43 = .ok (.aload_n 0, 1) := by decide +kernel
theorem dX4_init_44 : decode cX4_init 44 = .ok (.aload_n 1, 1) := by decide +kernel
theorem dX4_init_45 : decode cX4_init 45 = .ok (.putfield 30, 3) := by decide +kernel
theorem dX4_init_48 : decode cX4_init 48 = .ok (.return_, 1) := by decide +kernel
theorem dX4_begin_0 : decode cX4_begin 0 = .ok (.aload_n 0, 1) := by decide +kernel
theorem dX4_begin_1 : decode cX4_begin 1 = .ok (.iload_n 1, 1) := by decide +kernel
theorem dX4_begin_2 : decode cX4_begin 2 = .ok (.putfield 26, 3) := by decide +kernel
theorem dX4_begin_5 : decode cX4_begin 5 = .ok (.aload_n 0, 1) := by decide +kernel
theorem dX4_begin_6 : decode cX4_begin 6 = .ok (.iload_n 2, 1) := by decide +kernel
theorem dX4_begin_7 : decode cX4_begin 7 = .ok (.putfield 34, 3) := by decide +kernel
theorem dX4_begin_10 : decode cX4_begin 10 = .ok (.aload_n 0, 1) := by decide +kernel
theorem dX4_begin_11 : decode cX4_begin 11 = .ok (.aload_n 0, 1) := by decide +kernel
theorem dX4_begin_12 : decode cX4_begin 12 = .ok (.getfield 26, 3) := by decide +kernel
theorem dX4_begin_15 : decode cX4_begin 15 = .ok (.iconst 2, 1) := by decide +kernel
theorem dX4_begin_16 : decode cX4_begin 16 = .ok (.if_icmp .ne 9, 3) := by decide +kernel
theorem dX4_begin_19 : decode cX4_begin 19 = .ok (.lload 5, 2) := by decide +kernel
theorem dX4_begin_21 : decode cX4_begin 21 = .ok (.l2i, 1) := by decide +kernel
theorem dX4_begin_22 : decode cX4_begin 22 = .ok (.goto 4, 3) := by decide +kernel
theorem dX4_begin_25 : decode cX4_begin 25 = .ok (.iconst 0, 1) := by decide +kernel
theorem dX4_begin_26 : decode cX4_begin 26 = .ok (.putfield 38, 3) := by decide +kernel
theorem dX4_begin_29 : decode cX4_begin 29 = .ok (.aload_n 0, 1) := by decide +kernel
theorem dX4_begin_30 : decode cX4_begin 30 = .ok (.getfield 11, 3) := by decide +kernel
theorem dX4_begin_33 : decode cX4_begin 33 = .ok (.iconst 0, 1) := by decide +kernel
theorem dX4_begin_34 : decode cX4_begin 34 = .ok (.lload_n 3, 1) := by decide +kernel
theorem dX4_begin_35 : decode cX4_begin 35 = .ok (.lastore, 1) := by decide +kernel
theorem dX4_begin_36 : decode cX4_begin 36 = .ok (.aload_n 0, 1) := by decide +kernel
theorem dX4_begin_37 : decode cX4_begin 37 = .ok (.getfield 11, 3) := by decide +kernel
theorem dX4_begin_40 : decode cX4_begin 40 = .ok (.iconst 1, 1) := by decide +kernel
theorem dX4_begin_41 : decode cX4_begin 41 = .ok (.aload_n 0, 1) := by decide +kernel
theorem dX4_begin_42 : decode cX4_begin 42 = .ok (.getfield 26, 3) := by decide +kernel
theorem dX4_begin_45 : decode cX4_begin 45 = .ok (.iconst 2, 1) := by decide +kernel
theorem dX4_begin_46 : decode cX4_begin 46 = .ok (.if_icmp .ne 7, 3) := by decide +kernel
theorem dX4_begin_49 : decode cX4_begin 49 = .ok (.lconst 0, 1) := by decide +kernel
theorem dX4_begin_50 : decode cX4_begin 50 = .ok (.goto 5, 3) := by decide +kernel
theorem dX4_begin_53 : decode cX4_begin 53 = .ok (.lload 5, 2) := by decide +kernel
theorem dX4_begin_55 : decode cX4_begin 55 = .ok (.lastore, 1) := by decide +kernel
theorem dX4_begin_56 : decode cX4_begin 56 = .ok (.aload_n 0, 1) := by decide +kernel
theorem dX4_begin_57 : decode cX4_begin 57 = .ok (.getfield 11, 3) := by decide +kernel
theorem dX4_begin_60 : decode cX4_begin 60 = .ok (.iconst 2, 1) := by decide +kernel
theorem dX4_begin_61 : decode cX4_begin 61 = .ok (.aload_n 0, 1) := by decide +kernel
theorem dX4_begin_62 : decode cX4_begin 62 = .ok (.getfield 26, 3) := by decide +kernel
theorem dX4_begin_65 : decode cX4_begin 65 = .ok (.iconst 3, 1) := by decide +kernel
theorem dX4_begin_66 : decode cX4_begin 66 = .ok (.if_icmp .ne 8, 3) := by decide +kernel
theorem dX4_begin_69 : decode cX4_begin 69 = .ok (.lload 7, 2) := by decide +kernel
theorem dX4_begin_71 : decode cX4_begin 71 = .ok (.goto 4, 3) := by decide +kernel
theorem dX4_begin_74 : decode cX4_begin 74 = .ok (.lconst 0, 1) := by decide +kernel
theorem dX4_begin_75 : decode cX4_begin 75 = .ok (.lastore, 1) := by decide +kernel
theorem dX4_begin_76 : decode cX4_begin 76 = .ok (.aload_n 0, 1) := by decide +kernel
theorem dX4_begin_77 : decode cX4_begin 77 = .ok (.iconst 0, 1) := by decide +kernel
theorem dX4_begin_78 : decode cX4_begin 78 = .ok (.putfield 41, 3) := by decide +kernel
theorem dX4_begin_81 : decode cX4_begin 81 = .ok (.return_, 1) := by decide +kernel
theorem dX4_movesMade_0 : decode cX4_movesMade 0 = .ok (.aload_n 0, 1) := by decide +kernel
theorem dX4_movesMade_1 : decode cX4_movesMade 1 = .ok (.getfield 41, 3) := by decide +kernel
theorem dX4_movesMade_4 : decode cX4_movesMade 4 = .ok (.ireturn, 1) := by decide +kernel
set_option maxRecDepth 20000 in
theorem ggX4_ways_X4_heapCount : GoodIn wsX4_ways wsX4_heapCount := goodIn_r _ [6, 1, 7, 8, 9, 10, 11, 12, 13, 14, 15] (by decide +kernel) (by decide +kernel)
set_option maxRecDepth 20000 in
theorem gX4_ways_X4_heapCount : GoodIn wsX4_ways (wsV RX4 44 RX4 yX4_heapCount wsX4_heapCount) := goodIn_app (goodIn_of _ (by decide +kernel)) ggX4_ways_X4_heapCount
theorem dX4_ways_0 : decode cX4_ways 0 = .ok (.aload_n 0, 1) := by decide +kernel
theorem dX4_ways_1 : decode cX4_ways 1 = .ok (.getfield 26, 3) := by decide +kernel
theorem dX4_ways_4 : decode cX4_ways 4 = .ok (.iconst 1, 1) := by decide +kernel
theorem dX4_ways_5 : decode cX4_ways 5 = .ok (.if_icmp .eq 11, 3) := by decide +kernel
theorem dX4_ways_8 : decode cX4_ways 8 = .ok (.aload_n 0, 1) := by decide +kernel
theorem dX4_ways_9 : decode cX4_ways 9 = .ok (.getfield 26, 3) := by decide +kernel
theorem dX4_ways_12 : decode cX4_ways 12 = .ok (.iconst 3, 1) := by decide +kernel
theorem dX4_ways_13 : decode cX4_ways 13 = .ok (.if_icmp .ne 12, 3) := by decide +kernel
theorem dX4_ways_16 : decode cX4_ways 16 = .ok (.aload_n 0, 1) := by decide +kernel
theorem dX4_ways_17 : decode cX4_ways 17 = .ok (.invokevirtual 44, 3) := by decide +kernel
theorem dX4_ways_20 : decode cX4_ways 20 = .ok (.iconst 1, 1) := by decide +kernel
theorem dX4_ways_21 : decode cX4_ways 21 = .ok (.iadd, 1) := by decide +kernel
theorem dX4_ways_22 : decode cX4_ways 22 = .ok (.goto 7, 3) := by decide +kernel
theorem dX4_ways_25 : decode cX4_ways 25 = .ok (.aload_n 0, 1) := by decide +kernel
theorem dX4_ways_26 : decode cX4_ways 26 = .ok (.invokevirtual 44, 3) := by decide +kernel
theorem dX4_ways_29 : decode cX4_ways 29 = .ok (.ireturn, 1) := by decide +kernel
set_option maxRecDepth 20000 in
theorem ggX4_mayTake_X4_heapCount : GoodIn wsX4_mayTake wsX4_heapCount := goodIn_r _ [8, 3, 27, 28, 29, 30, 31, 32, 33, 34, 35] (by decide +kernel) (by decide +kernel)
set_option maxRecDepth 20000 in
theorem gX4_mayTake_X4_heapCount : GoodIn wsX4_mayTake (wsV RX4 44 RX4 yX4_heapCount wsX4_heapCount) := goodIn_app (goodIn_of _ (by decide +kernel)) ggX4_mayTake_X4_heapCount
set_option maxRecDepth 20000 in
theorem ggX4_mayTake_X4_takesFrom : GoodIn wsX4_mayTake wsX4_takesFrom := goodIn_r _ [12, 4, 5, 6, 7, 8, 3, 27, 28, 29, 30, 31, 32, 33, 34, 35] (by decide +kernel) (by decide +kernel)
set_option maxRecDepth 20000 in
theorem gX4_mayTake_X4_takesFrom : GoodIn wsX4_mayTake (wsV RX4 48 RX4 yX4_takesFrom wsX4_takesFrom) := goodIn_app (goodIn_of _ (by decide +kernel)) ggX4_mayTake_X4_takesFrom
set_option maxRecDepth 20000 in
theorem ggX4_mayTake_X4_bound : GoodIn wsX4_mayTake wsX4_bound := goodIn_r _ [16, 3, 1, 2, 17, 18, 19, 20, 21, 22, 23, 24, 25, 26, 27, 28, 29, 30, 31, 32, 33, 34, 35] (by decide +kernel) (by decide +kernel)
set_option maxRecDepth 20000 in
theorem gX4_mayTake_X4_bound : GoodIn wsX4_mayTake (wsV RX4 52 RX4 yX4_bound wsX4_bound) := goodIn_app (goodIn_of _ (by decide +kernel)) ggX4_mayTake_X4_bound
theorem dX4_mayTake_0 : decode cX4_mayTake 0 = .ok (.aload_n 0, 1) := by decide +kernel
theorem dX4_mayTake_1 : decode cX4_mayTake 1 = .ok (.getfield 41, 3) := by decide +kernel
theorem dX4_mayTake_4 : decode cX4_mayTake 4 = .ok (.sipush 200, 3) := by decide +kernel
theorem dX4_mayTake_7 : decode cX4_mayTake 7 = .ok (.if_icmp .ge 9, 3) := by decide +kernel
theorem dX4_mayTake_10 : decode cX4_mayTake 10 = .ok (.lload_n 2, 1) := by decide +kernel
theorem dX4_mayTake_11 : decode cX4_mayTake 11 = .ok (.lconst 1, 1) := by decide +kernel
theorem dX4_mayTake_12 : decode cX4_mayTake 12 = .ok (.lcmp, 1) := by decide +kernel
theorem dX4_mayTake_13 : decode cX4_mayTake 13 = .ok (.ifCond .ge 5, 3) := by decide +kernel
theorem dX4_mayTake_16 : decode cX4_mayTake 16 = .ok (.iconst 0, 1) := by decide +kernel
theorem dX4_mayTake_17 : decode cX4_mayTake 17 = .ok (.ireturn, 1) := by decide +kernel
theorem dX4_mayTake_18 : decode cX4_mayTake 18 = .ok (.iconst 0, 1) := by decide +kernel
theorem dX4_mayTake_19 : decode cX4_mayTake 19 = .ok (.istore 4, 2) := by decide +kernel
theorem dX4_mayTake_21 : decode cX4_mayTake 21 = .ok (.iload 4, 2) := by decide +kernel
theorem dX4_mayTake_23 : decode cX4_mayTake 23 = .ok (.aload_n 0, 1) := by decide +kernel
theorem dX4_mayTake_24 : decode cX4_mayTake 24 = .ok (.invokevirtual 44, 3) := by decide +kernel
theorem dX4_mayTake_27 : decode cX4_mayTake 27 = .ok (.if_icmp .ge 33, 3) := by decide +kernel
theorem dX4_mayTake_30 : decode cX4_mayTake 30 = .ok (.aload_n 0, 1) := by decide +kernel
theorem dX4_mayTake_31 : decode cX4_mayTake 31 = .ok (.iload_n 1, 1) := by decide +kernel
theorem dX4_mayTake_32 : decode cX4_mayTake 32 = .ok (.iload 4, 2) := by decide +kernel
theorem dX4_mayTake_34 : decode cX4_mayTake 34 = .ok (.invokevirtual 48, 3) := by decide +kernel
theorem dX4_mayTake_37 : decode cX4_mayTake 37 = .ok (.ifCond .eq 17, 3) := by decide +kernel
theorem dX4_mayTake_40 : decode cX4_mayTake 40 = .ok (.lload_n 2, 1) := by decide +kernel
theorem dX4_mayTake_41 : decode cX4_mayTake 41 = .ok (.aload_n 0, 1) := by decide +kernel
theorem dX4_mayTake_42 : decode cX4_mayTake 42 = .ok (.getfield 11, 3) := by decide +kernel
theorem dX4_mayTake_45 : decode cX4_mayTake 45 = .ok (.iload 4, 2) := by decide +kernel
theorem dX4_mayTake_47 : decode cX4_mayTake 47 = .ok (.laload, 1) := by decide +kernel
theorem dX4_mayTake_48 : decode cX4_mayTake 48 = .ok (.lcmp, 1) := by decide +kernel
theorem dX4_mayTake_49 : decode cX4_mayTake 49 = .ok (.ifCond .le 5, 3) := by decide +kernel
theorem dX4_mayTake_52 : decode cX4_mayTake 52 = .ok (.iconst 0, 1) := by decide +kernel
theorem dX4_mayTake_53 : decode cX4_mayTake 53 = .ok (.ireturn, 1) := by decide +kernel
theorem dX4_mayTake_54 : decode cX4_mayTake 54 = .ok (.iinc 4 1, 3) := by decide +kernel
theorem dX4_mayTake_57 : decode cX4_mayTake 57 = .ok (.goto (-36), 3) := by decide +kernel
theorem dX4_mayTake_60 : decode cX4_mayTake 60 = .ok (.aload_n 0, 1) := by decide +kernel
theorem dX4_mayTake_61 : decode cX4_mayTake 61 = .ok (.getfield 26, 3) := by decide +kernel
theorem dX4_mayTake_64 : decode cX4_mayTake 64 = .ok (.ifCond .ne 41, 3) := by decide +kernel
theorem dX4_mayTake_67 : decode cX4_mayTake 67 = .ok (.aload_n 0, 1) := by decide +kernel
theorem dX4_mayTake_68 : decode cX4_mayTake 68 = .ok (.getfield 11, 3) := by decide +kernel
theorem dX4_mayTake_71 : decode cX4_mayTake 71 = .ok (.iload_n 1, 1) := by decide +kernel
theorem dX4_mayTake_72 : decode cX4_mayTake 72 = .ok (.ifCond .ne 7, 3) := by decide +kernel
theorem dX4_mayTake_75 : decode cX4_mayTake 75 = .ok (.iconst 1, 1) := by decide +kernel
theorem dX4_mayTake_76 : decode cX4_mayTake 76 = .ok (.goto 4, 3) := by decide +kernel
theorem dX4_mayTake_79 : decode cX4_mayTake 79 = .ok (.iconst 0, 1) := by decide +kernel
theorem dX4_mayTake_80 : decode cX4_mayTake 80 = .ok (.laload, 1) := by decide +kernel
theorem dX4_mayTake_81 : decode cX4_mayTake 81 = .ok (.lstore 4, 2) := by decide +kernel
theorem dX4_mayTake_83 : decode cX4_mayTake 83 = .ok (.lload 4, 2) := by decide +kernel
theorem dX4_mayTake_85 : decode cX4_mayTake 85 = .ok (.lconst 0, 1) := by decide +kernel
theorem dX4_mayTake_86 : decode cX4_mayTake 86 = .ok (.lcmp, 1) := by decide +kernel
theorem dX4_mayTake_87 : decode cX4_mayTake 87 = .ok (.ifCond .le 16, 3) := by decide +kernel
theorem dX4_mayTake_90 : decode cX4_mayTake 90 = .ok (.lload_n 2, 1) := by decide +kernel
theorem dX4_mayTake_91 : decode cX4_mayTake 91 = .ok (.lload 4, 2) := by decide +kernel
theorem dX4_mayTake_93 : decode cX4_mayTake 93 = .ok (.lrem, 1) := by decide +kernel
theorem dX4_mayTake_94 : decode cX4_mayTake 94 = .ok (.lconst 0, 1) := by decide +kernel
theorem dX4_mayTake_95 : decode cX4_mayTake 95 = .ok (.lcmp, 1) := by decide +kernel
theorem dX4_mayTake_96 : decode cX4_mayTake 96 = .ok (.ifCond .ne 7, 3) := by decide +kernel
theorem dX4_mayTake_99 : decode cX4_mayTake 99 = .ok (.iconst 1, 1) := by decide +kernel
theorem dX4_mayTake_100 : decode cX4_mayTake 100 = .ok (.goto 4, 3) := by decide +kernel
theorem dX4_mayTake_103 : decode cX4_mayTake 103 = .ok (.iconst 0, 1) := by decide +kernel
theorem dX4_mayTake_104 : decode cX4_mayTake 104 = .ok (.ireturn, 1) := by decide +kernel
theorem dX4_mayTake_105 : decode cX4_mayTake 105 = .ok (.aload_n 0, 1) := by decide +kernel
theorem dX4_mayTake_106 : decode cX4_mayTake 106 = .ok (.getfield 26, 3) := by decide +kernel
theorem dX4_mayTake_109 : decode cX4_mayTake 109 = .ok (.iconst 2, 1) := by decide +kernel
theorem dX4_mayTake_110 : decode cX4_mayTake 110 = .ok (.if_icmp .ne 12, 3) := by decide +kernel
theorem dX4_mayTake_113 : decode cX4_mayTake 113 = .ok (.lload_n 2, 1) := by decide +kernel
theorem dX4_mayTake_114 : decode cX4_mayTake 114 = .ok (.aload_n 0, 1) := by decide +kernel
theorem dX4_mayTake_115 : decode cX4_mayTake 115 = .ok (.invokevirtual 52, 3) := by decide +kernel
theorem dX4_mayTake_118 : decode cX4_mayTake 118 = .ok (.lcmp, 1) := by decide +kernel
theorem dX4_mayTake_119 : decode cX4_mayTake 119 = .ok (.ifCond .gt 7, 3) := by decide +kernel
theorem dX4_mayTake_122 : decode cX4_mayTake 122 = .ok (.iconst 1, 1) := by decide +kernel
theorem dX4_mayTake_123 : decode cX4_mayTake 123 = .ok (.goto 4, 3) := by decide +kernel
theorem dX4_mayTake_126 : decode cX4_mayTake 126 = .ok (.iconst 0, 1) := by decide +kernel
theorem dX4_mayTake_127 : decode cX4_mayTake 127 = .ok (.ireturn, 1) := by decide +kernel
set_option maxRecDepth 20000 in
theorem ggX4_take_X4_isWon : GoodIn wsX4_take wsX4_isWon := goodIn_r _ [9, 10, 11, 12, 13, 14, 15, 16, 17, 8, 18, 1, 19, 20, 21, 22, 23, 3, 24, 25, 26, 27, 28, 29, 30, 31, 32, 33, 34, 35, 36, 37, 38, 39, 40, 41, 42, 43, 44, 45, 46, 47, 48, 49, 50, 51, 52, 53, 54, 55, 56, 57, 58, 59, 60, 61, 62, 63, 64, 65, 66, 67, 68, 69, 70, 71, 72, 73, 74, 75, 76, 77, 78, 79, 80, 81, 82, 83, 84, 85, 86, 87, 88, 89, 90, 91, 92, 93, 94, 95, 96, 97, 98, 99, 100, 101, 102, 103, 104, 105, 106, 107, 108, 109, 110, 111, 112, 113, 114, 115, 116, 117, 118, 119, 120, 121, 122, 123, 124, 125, 126, 127, 128, 129, 130, 131, 132, 133, 134, 135, 136, 137, 138, 139, 140, 153, 154, 155, 156, 157, 158, 159, 160, 161, 162, 163, 164, 165, 166, 167, 168, 169, 170, 171, 172, 173, 174] (by decide +kernel) (by decide +kernel)
set_option maxRecDepth 20000 in
theorem gX4_take_X4_isWon : GoodIn wsX4_take (wsV RX4 56 RX4 yX4_isWon wsX4_isWon) := goodIn_app (goodIn_of _ (by decide +kernel)) ggX4_take_X4_isWon
set_option maxRecDepth 20000 in
theorem ggX4_take_X4_addToHeaps : GoodIn wsX4_take wsX4_addToHeaps := goodIn_r _ [144, 13, 145, 146, 147, 8, 148, 10, 149, 150, 151, 152, 153, 154, 155, 156, 157, 158, 159, 160, 161] (by decide +kernel) (by decide +kernel)
set_option maxRecDepth 20000 in
theorem gX4_take_X4_addToHeaps : GoodIn wsX4_take (wsV RX4 60 RX4 yX4_addToHeaps wsX4_addToHeaps) := goodIn_app (goodIn_of _ (by decide +kernel)) ggX4_take_X4_addToHeaps
theorem dX4_take_0 : decode cX4_take 0 = .ok (.aload_n 0, 1) := by decide +kernel
theorem dX4_take_1 : decode cX4_take 1 = .ok (.getfield 41, 3) := by decide +kernel
theorem dX4_take_4 : decode cX4_take 4 = .ok (.sipush 200, 3) := by decide +kernel
theorem dX4_take_7 : decode cX4_take 7 = .ok (.if_icmp .lt 4, 3) := by decide +kernel
theorem dX4_take_10 : decode cX4_take 10 = .ok (.return_, 1) := by decide +kernel
theorem dX4_take_11 : decode cX4_take 11 = .ok (.aload_n 0, 1) := by decide +kernel
theorem dX4_take_12 : decode cX4_take 12 = .ok (.invokevirtual 56, 3) := by decide +kernel
theorem dX4_take_15 : decode cX4_take 15 = .ok (.istore 4, 2) := by decide +kernel
theorem dX4_take_17 : decode cX4_take 17 = .ok (.aload_n 0, 1) := by decide +kernel
theorem dX4_take_18 : decode cX4_take 18 = .ok (.getfield 15, 3) := by decide +kernel
theorem dX4_take_21 : decode cX4_take 21 = .ok (.aload_n 0, 1) := by decide +kernel
theorem dX4_take_22 : decode cX4_take 22 = .ok (.getfield 41, 3) := by decide +kernel
theorem dX4_take_25 : decode cX4_take 25 = .ok (.iload_n 1, 1) := by decide +kernel
theorem dX4_take_26 : decode cX4_take 26 = .ok (.iastore, 1) := by decide +kernel
theorem dX4_take_27 : decode cX4_take 27 = .ok (.aload_n 0, 1) := by decide +kernel
theorem dX4_take_28 : decode cX4_take 28 = .ok (.getfield 19, 3) := by decide +kernel
theorem dX4_take_31 : decode cX4_take 31 = .ok (.aload_n 0, 1) := by decide +kernel
theorem dX4_take_32 : decode cX4_take 32 = .ok (.getfield 41, 3) := by decide +kernel
theorem dX4_take_35 : decode cX4_take 35 = .ok (.lload_n 2, 1) := by decide +kernel
theorem dX4_take_36 : decode cX4_take 36 = .ok (.lastore, 1) := by decide +kernel
theorem dX4_take_37 : decode cX4_take 37 = .ok (.aload_n 0, 1) := by decide +kernel
theorem dX4_take_38 : decode cX4_take 38 = .ok (.iload_n 1, 1) := by decide +kernel
theorem dX4_take_39 : decode cX4_take 39 = .ok (.lload_n 2, 1) := by decide +kernel
theorem dX4_take_40 : decode cX4_take 40 = .ok (.lneg, 1) := by decide +kernel
theorem dX4_take_41 : decode cX4_take 41 = .ok (.invokevirtual 60, 3) := by decide +kernel
theorem dX4_take_44 : decode cX4_take 44 = .ok (.aload_n 0, 1) := by decide +kernel
theorem dX4_take_45 : decode cX4_take 45 = .ok (.dup, 1) := by decide +kernel
theorem dX4_take_46 : decode cX4_take 46 = .ok (.getfield 41, 3) := by decide +kernel
theorem dX4_take_49 : decode cX4_take 49 = .ok (.iconst 1, 1) := by decide +kernel
theorem dX4_take_50 : decode cX4_take 50 = .ok (.iadd, 1) := by decide +kernel
theorem dX4_take_51 : decode cX4_take 51 = .ok (.putfield 41, 3) := by decide +kernel
theorem dX4_take_54 : decode cX4_take 54 = .ok (.aload_n 0, 1) := by decide +kernel
theorem dX4_take_55 : decode cX4_take 55 = .ok (.getfield 22, 3) := by decide +kernel
theorem dX4_take_58 : decode cX4_take 58 = .ok (.aload_n 0, 1) := by decide +kernel
theorem dX4_take_59 : decode cX4_take 59 = .ok (.getfield 41, 3) := by decide +kernel
theorem dX4_take_62 : decode cX4_take 62 = .ok (.iconst 1, 1) := by decide +kernel
theorem dX4_take_63 : decode cX4_take 63 = .ok (.isub, 1) := by decide +kernel
theorem dX4_take_64 : decode cX4_take 64 = .ok (.iload 4, 2) := by decide +kernel
theorem dX4_take_66 : decode cX4_take 66 = .ok (.ifCond .eq 14, 3) := by decide +kernel
theorem dX4_take_69 : decode cX4_take 69 = .ok (.aload_n 0, 1) := by decide +kernel
theorem dX4_take_70 : decode cX4_take 70 = .ok (.invokevirtual 56, 3) := by decide +kernel
theorem dX4_take_73 : decode cX4_take 73 = .ok (.ifCond .eq 7, 3) := by decide +kernel
theorem dX4_take_76 : decode cX4_take 76 = .ok (.iconst 1, 1) := by decide +kernel
theorem dX4_take_77 : decode cX4_take 77 = .ok (.goto 4, 3) := by decide +kernel
theorem dX4_take_80 : decode cX4_take 80 = .ok (.iconst 0, 1) := by decide +kernel
theorem dX4_take_81 : decode cX4_take 81 = .ok (.bastore, 1) := by decide +kernel
theorem dX4_take_82 : decode cX4_take 82 = .ok (.return_, 1) := by decide +kernel
set_option maxRecDepth 20000 in
theorem ggX4_takeBack_X4_addToHeaps : GoodIn wsX4_takeBack wsX4_addToHeaps := goodIn_r _ [8, 9, 10, 11, 12, 7, 13, 14, 15, 16, 17, 18, 19, 20, 21, 22, 23, 24, 25, 26, 27] (by decide +kernel) (by decide +kernel)
set_option maxRecDepth 20000 in
theorem gX4_takeBack_X4_addToHeaps : GoodIn wsX4_takeBack (wsV RX4 60 RX4 yX4_addToHeaps wsX4_addToHeaps) := goodIn_app (goodIn_of _ (by decide +kernel)) ggX4_takeBack_X4_addToHeaps
theorem dX4_takeBack_0 : decode cX4_takeBack 0 = .ok (.aload_n 0, 1) := by decide +kernel
theorem dX4_takeBack_1 : decode cX4_takeBack 1 = .ok (.getfield 41, 3) := by decide +kernel
theorem dX4_takeBack_4 : decode cX4_takeBack 4 = .ok (.ifCond .gt 5, 3) := by decide +kernel
theorem dX4_takeBack_7 : decode cX4_takeBack 7 = .ok (.iconst 0, 1) := by decide +kernel
theorem dX4_takeBack_8 : decode cX4_takeBack 8 = .ok (.ireturn, 1) := by decide +kernel
theorem dX4_takeBack_9 : decode cX4_takeBack 9 = .ok (.aload_n 0, 1) := by decide +kernel
theorem dX4_takeBack_10 : decode cX4_takeBack 10 = .ok (.dup, 1) := by decide +kernel
theorem dX4_takeBack_11 : decode cX4_takeBack 11 = .ok (.getfield 41, 3) := by decide +kernel
theorem dX4_takeBack_14 : decode cX4_takeBack 14 = .ok (.iconst 1, 1) := by decide +kernel
theorem dX4_takeBack_15 : decode cX4_takeBack 15 = .ok (.isub, 1) := by decide +kernel
theorem dX4_takeBack_16 : decode cX4_takeBack 16 = .ok (.putfield 41, 3) := by decide +kernel
theorem dX4_takeBack_19 : decode cX4_takeBack 19 = .ok (.aload_n 0, 1) := by decide +kernel
theorem dX4_takeBack_20 : decode cX4_takeBack 20 = .ok (.aload_n 0, 1) := by decide +kernel
theorem dX4_takeBack_21 : decode cX4_takeBack 21 = .ok (.getfield 15, 3) := by decide +kernel
theorem dX4_takeBack_24 : decode cX4_takeBack 24 = .ok (.aload_n 0, 1) := by decide +kernel
theorem dX4_takeBack_25 : decode cX4_takeBack 25 = .ok (.getfield 41, 3) := by decide +kernel
theorem dX4_takeBack_28 : decode cX4_takeBack 28 = .ok (.iaload, 1) := by decide +kernel
theorem dX4_takeBack_29 : decode cX4_takeBack 29 = .ok (.aload_n 0, 1) := by decide +kernel
theorem dX4_takeBack_30 : decode cX4_takeBack 30 = .ok (.getfield 19, 3) := by decide +kernel
theorem dX4_takeBack_33 : decode cX4_takeBack 33 = .ok (.aload_n 0, 1) := by decide +kernel
theorem dX4_takeBack_34 : decode cX4_takeBack 34 = .ok (.getfield 41, 3) := by decide +kernel
theorem dX4_takeBack_37 : decode cX4_takeBack 37 = .ok (.laload, 1) := by decide +kernel
theorem dX4_takeBack_38 : decode cX4_takeBack 38 = .ok (.invokevirtual 60, 3) := by decide +kernel
theorem dX4_takeBack_41 : decode cX4_takeBack 41 = .ok (.iconst 1, 1) := by decide +kernel
theorem dX4_takeBack_42 : decode cX4_takeBack 42 = .ok (.ireturn, 1) := by decide +kernel
set_option maxRecDepth 20000 in
theorem ggX4_isOver_X4_bound : GoodIn wsX4_isOver wsX4_bound := goodIn_r _ [7, 1, 8, 2, 9, 10, 11, 12, 13, 14, 15, 16, 17, 18, 19, 20, 21, 22, 23, 24, 25, 26, 27] (by decide +kernel) (by decide +kernel)
set_option maxRecDepth 20000 in
theorem gX4_isOver_X4_bound : GoodIn wsX4_isOver (wsV RX4 52 RX4 yX4_bound wsX4_bound) := goodIn_app (goodIn_of _ (by decide +kernel)) ggX4_isOver_X4_bound
theorem dX4_isOver_0 : decode cX4_isOver 0 = .ok (.aload_n 0, 1) := by decide +kernel
theorem dX4_isOver_1 : decode cX4_isOver 1 = .ok (.getfield 26, 3) := by decide +kernel
theorem dX4_isOver_4 : decode cX4_isOver 4 = .ok (.ifCond .ne 31, 3) := by decide +kernel
theorem dX4_isOver_7 : decode cX4_isOver 7 = .ok (.aload_n 0, 1) := by decide +kernel
theorem dX4_isOver_8 : decode cX4_isOver 8 = .ok (.getfield 11, 3) := by decide +kernel
theorem dX4_isOver_11 : decode cX4_isOver 11 = .ok (.iconst 0, 1) := by decide +kernel
theorem dX4_isOver_12 : decode cX4_isOver 12 = .ok (.laload, 1) := by decide +kernel
theorem dX4_isOver_13 : decode cX4_isOver 13 = .ok (.lconst 0, 1) := by decide +kernel
theorem dX4_isOver_14 : decode cX4_isOver 14 = .ok (.lcmp, 1) := by decide +kernel
theorem dX4_isOver_15 : decode cX4_isOver 15 = .ok (.ifCond .eq 14, 3) := by decide +kernel
theorem dX4_isOver_18 : decode cX4_isOver 18 = .ok (.aload_n 0, 1) := by decide +kernel
theorem dX4_isOver_19 : decode cX4_isOver 19 = .ok (.getfield 11, 3) := by decide +kernel
theorem dX4_isOver_22 : decode cX4_isOver 22 = .ok (.iconst 1, 1) := by decide +kernel
theorem dX4_isOver_23 : decode cX4_isOver 23 = .ok (.laload, 1) := by decide +kernel
theorem dX4_isOver_24 : decode cX4_isOver 24 = .ok (.lconst 0, 1) := by decide +kernel
theorem dX4_isOver_25 : decode cX4_isOver 25 = .ok (.lcmp, 1) := by decide +kernel
theorem dX4_isOver_26 : decode cX4_isOver 26 = .ok (.ifCond .ne 7, 3) := by decide +kernel
theorem dX4_isOver_29 : decode cX4_isOver 29 = .ok (.iconst 1, 1) := by decide +kernel
theorem dX4_isOver_30 : decode cX4_isOver 30 = .ok (.goto 4, 3) := by decide +kernel
theorem dX4_isOver_33 : decode cX4_isOver 33 = .ok (.iconst 0, 1) := by decide +kernel
theorem dX4_isOver_34 : decode cX4_isOver 34 = .ok (.ireturn, 1) := by decide +kernel
theorem dX4_isOver_35 : decode cX4_isOver 35 = .ok (.aload_n 0, 1) := by decide +kernel
theorem dX4_isOver_36 : decode cX4_isOver 36 = .ok (.getfield 26, 3) := by decide +kernel
theorem dX4_isOver_39 : decode cX4_isOver 39 = .ok (.iconst 2, 1) := by decide +kernel
theorem dX4_isOver_40 : decode cX4_isOver 40 = .ok (.if_icmp .ne 29, 3) := by decide +kernel
theorem dX4_isOver_43 : decode cX4_isOver 43 = .ok (.aload_n 0, 1) := by decide +kernel
theorem dX4_isOver_44 : decode cX4_isOver 44 = .ok (.getfield 11, 3) := by decide +kernel
theorem dX4_isOver_47 : decode cX4_isOver 47 = .ok (.iconst 0, 1) := by decide +kernel
theorem dX4_isOver_48 : decode cX4_isOver 48 = .ok (.laload, 1) := by decide +kernel
theorem dX4_isOver_49 : decode cX4_isOver 49 = .ok (.lconst 0, 1) := by decide +kernel
theorem dX4_isOver_50 : decode cX4_isOver 50 = .ok (.lcmp, 1) := by decide +kernel
theorem dX4_isOver_51 : decode cX4_isOver 51 = .ok (.ifCond .eq 12, 3) := by decide +kernel
theorem dX4_isOver_54 : decode cX4_isOver 54 = .ok (.aload_n 0, 1) := by decide +kernel
theorem dX4_isOver_55 : decode cX4_isOver 55 = .ok (.invokevirtual 52, 3) := by decide +kernel
theorem dX4_isOver_58 : decode cX4_isOver 58 = .ok (.lconst 0, 1) := by decide +kernel
theorem dX4_isOver_59 : decode cX4_isOver 59 = .ok (.lcmp, 1) := by decide +kernel
theorem dX4_isOver_60 : decode cX4_isOver 60 = .ok (.ifCond .ne 7, 3) := by decide +kernel
theorem dX4_isOver_63 : decode cX4_isOver 63 = .ok (.iconst 1, 1) := by decide +kernel
theorem dX4_isOver_64 : decode cX4_isOver 64 = .ok (.goto 4, 3) := by decide +kernel
theorem dX4_isOver_67 : decode cX4_isOver 67 = .ok (.iconst 0, 1) := by decide +kernel
theorem dX4_isOver_68 : decode cX4_isOver 68 = .ok (.ireturn, 1) := by decide +kernel
theorem dX4_isOver_69 : decode cX4_isOver 69 = .ok (.aload_n 0, 1) := by decide +kernel
theorem dX4_isOver_70 : decode cX4_isOver 70 = .ok (.getfield 11, 3) := by decide +kernel
theorem dX4_isOver_73 : decode cX4_isOver 73 = .ok (.iconst 0, 1) := by decide +kernel
theorem dX4_isOver_74 : decode cX4_isOver 74 = .ok (.laload, 1) := by decide +kernel
theorem dX4_isOver_75 : decode cX4_isOver 75 = .ok (.lconst 0, 1) := by decide +kernel
theorem dX4_isOver_76 : decode cX4_isOver 76 = .ok (.lcmp, 1) := by decide +kernel
theorem dX4_isOver_77 : decode cX4_isOver 77 = .ok (.ifCond .ne 29, 3) := by decide +kernel
theorem dX4_isOver_80 : decode cX4_isOver 80 = .ok (.aload_n 0, 1) := by decide +kernel
theorem dX4_isOver_81 : decode cX4_isOver 81 = .ok (.getfield 11, 3) := by decide +kernel
theorem dX4_isOver_84 : decode cX4_isOver 84 = .ok (.iconst 1, 1) := by decide +kernel
theorem dX4_isOver_85 : decode cX4_isOver 85 = .ok (.laload, 1) := by decide +kernel
theorem dX4_isOver_86 : decode cX4_isOver 86 = .ok (.lconst 0, 1) := by decide +kernel
theorem dX4_isOver_87 : decode cX4_isOver 87 = .ok (.lcmp, 1) := by decide +kernel
theorem dX4_isOver_88 : decode cX4_isOver 88 = .ok (.ifCond .ne 18, 3) := by decide +kernel
theorem dX4_isOver_91 : decode cX4_isOver 91 = .ok (.aload_n 0, 1) := by decide +kernel
theorem dX4_isOver_92 : decode cX4_isOver 92 = .ok (.getfield 11, 3) := by decide +kernel
theorem dX4_isOver_95 : decode cX4_isOver 95 = .ok (.iconst 2, 1) := by decide +kernel
theorem dX4_isOver_96 : decode cX4_isOver 96 = .ok (.laload, 1) := by decide +kernel
theorem dX4_isOver_97 : decode cX4_isOver 97 = .ok (.lconst 0, 1) := by decide +kernel
theorem dX4_isOver_98 : decode cX4_isOver 98 = .ok (.lcmp, 1) := by decide +kernel
theorem dX4_isOver_99 : decode cX4_isOver 99 = .ok (.ifCond .ne 7, 3) := by decide +kernel
theorem dX4_isOver_102 : decode cX4_isOver 102 = .ok (.iconst 1, 1) := by decide +kernel
theorem dX4_isOver_103 : decode cX4_isOver 103 = .ok (.goto 4, 3) := by decide +kernel
theorem dX4_isOver_106 : decode cX4_isOver 106 = .ok (.iconst 0, 1) := by decide +kernel
theorem dX4_isOver_107 : decode cX4_isOver 107 = .ok (.ireturn, 1) := by decide +kernel
set_option maxRecDepth 20000 in
theorem ggX4_tell_X4_bound : GoodIn wsX4_tell wsX4_bound := goodIn_r _ [9, 3, 2, 1, 10, 11, 12, 13, 14, 15, 16, 17, 18, 19, 145, 146, 147, 148, 149, 150, 151, 152, 153] (by decide +kernel) (by decide +kernel)
set_option maxRecDepth 20000 in
theorem gX4_tell_X4_bound : GoodIn wsX4_tell (wsV RX4 52 RX4 yX4_bound wsX4_bound) := goodIn_app (goodIn_of _ (by decide +kernel)) ggX4_tell_X4_bound
set_option maxRecDepth 20000 in
theorem ggX4_tell_X4_isWon : GoodIn wsX4_tell wsX4_isWon := goodIn_r _ [23, 3, 24, 15, 1, 25, 5, 6, 7, 8, 9, 2, 10, 11, 12, 13, 14, 16, 17, 18, 19, 26, 27, 28, 29, 30, 31, 32, 33, 34, 35, 36, 37, 38, 39, 40, 41, 42, 43, 44, 45, 46, 47, 48, 49, 50, 51, 52, 53, 54, 55, 56, 57, 58, 59, 60, 61, 62, 63, 64, 65, 66, 67, 68, 69, 70, 71, 72, 73, 74, 75, 76, 77, 78, 79, 80, 81, 82, 83, 84, 85, 86, 87, 88, 89, 90, 91, 92, 93, 94, 95, 96, 97, 98, 99, 100, 101, 102, 103, 104, 105, 106, 107, 108, 109, 110, 111, 112, 113, 114, 115, 116, 117, 118, 119, 120, 121, 122, 123, 124, 125, 126, 127, 128, 129, 130, 131, 132, 133, 134, 135, 136, 137, 138, 139, 145, 146, 147, 148, 149, 150, 151, 152, 153, 154, 155, 156, 157, 158, 159, 160, 161, 162, 163, 164, 165, 166] (by decide +kernel) (by decide +kernel)
set_option maxRecDepth 20000 in
theorem gX4_tell_X4_isWon : GoodIn wsX4_tell (wsV RX4 56 RX4 yX4_isWon wsX4_isWon) := goodIn_app (goodIn_of _ (by decide +kernel)) ggX4_tell_X4_isWon
set_option maxRecDepth 20000 in
theorem ggX4_tell_X8_oneIf : GoodIn wsX4_tell wsX8_oneIf := goodIn_r _ [71] (by decide +kernel) (by decide +kernel)
set_option maxRecDepth 20000 in
theorem gX4_tell_X8_oneIf_n64 : GoodIn wsX4_tell (wsX8_oneIf) := ggX4_tell_X8_oneIf
set_option maxRecDepth 20000 in
theorem ggX4_tell_X4_faults : GoodIn wsX4_tell wsX4_faults := goodIn_r _ [143, 2, 144, 145, 146, 147, 148, 149, 150, 151, 152, 153] (by decide +kernel) (by decide +kernel)
set_option maxRecDepth 20000 in
theorem gX4_tell_X4_faults : GoodIn wsX4_tell (wsV RX4 68 RX4 yX4_faults wsX4_faults) := goodIn_app (goodIn_of _ (by decide +kernel)) ggX4_tell_X4_faults
theorem dX4_tell_0 : decode cX4_tell 0 = .ok (.iload_n 1, 1) := by decide +kernel
theorem dX4_tell_1 : decode cX4_tell 1 = .ok (.tableswitch 98 0 8 #[51, 51, 51, 58, 63, 69, 78, 86, 92], 51) := by decide +kernel
theorem dX4_tell_52 : decode cX4_tell 52 = .ok (.aload_n 0, 1) := by decide +kernel
theorem dX4_tell_53 : decode cX4_tell 53 = .ok (.getfield 11, 3) := by decide +kernel
theorem dX4_tell_56 : decode cX4_tell 56 = .ok (.iload_n 1, 1) := by decide +kernel
theorem dX4_tell_57 : decode cX4_tell 57 = .ok (.laload, 1) := by decide +kernel
theorem dX4_tell_58 : decode cX4_tell 58 = .ok (.lreturn, 1) := by decide +kernel
theorem dX4_tell_59 : decode cX4_tell 59 = .ok (.aload_n 0, 1) := by decide +kernel
theorem dX4_tell_60 : decode cX4_tell 60 = .ok (.invokevirtual 52, 3) := by decide +kernel
theorem dX4_tell_63 : decode cX4_tell 63 = .ok (.lreturn, 1) := by decide +kernel
theorem dX4_tell_64 : decode cX4_tell 64 = .ok (.aload_n 0, 1) := by decide +kernel
theorem dX4_tell_65 : decode cX4_tell 65 = .ok (.getfield 41, 3) := by decide +kernel
theorem dX4_tell_68 : decode cX4_tell 68 = .ok (.i2l, 1) := by decide +kernel
theorem dX4_tell_69 : decode cX4_tell 69 = .ok (.lreturn, 1) := by decide +kernel
theorem dX4_tell_70 : decode cX4_tell 70 = .ok (.aload_n 0, 1) := by decide +kernel
theorem dX4_tell_71 : decode cX4_tell 71 = .ok (.invokevirtual 56, 3) := by decide +kernel
theorem dX4_tell_74 : decode cX4_tell 74 = .ok (.invokestatic 64, 3) := by decide +kernel
theorem dX4_tell_77 : decode cX4_tell 77 = .ok (.i2l, 1) := by decide +kernel
theorem dX4_tell_78 : decode cX4_tell 78 = .ok (.lreturn, 1) := by decide +kernel
theorem dX4_tell_79 : decode cX4_tell 79 = .ok (.aload_n 0, 1) := by decide +kernel
theorem dX4_tell_80 : decode cX4_tell 80 = .ok (.getfield 41, 3) := by decide +kernel
theorem dX4_tell_83 : decode cX4_tell 83 = .ok (.iconst 2, 1) := by decide +kernel
theorem dX4_tell_84 : decode cX4_tell 84 = .ok (.irem, 1) := by decide +kernel
theorem dX4_tell_85 : decode cX4_tell 85 = .ok (.i2l, 1) := by decide +kernel
theorem dX4_tell_86 : decode cX4_tell 86 = .ok (.lreturn, 1) := by decide +kernel
theorem dX4_tell_87 : decode cX4_tell 87 = .ok (.aload_n 0, 1) := by decide +kernel
theorem dX4_tell_88 : decode cX4_tell 88 = .ok (.invokevirtual 68, 3) := by decide +kernel
theorem dX4_tell_91 : decode cX4_tell 91 = .ok (.i2l, 1) := by decide +kernel
theorem dX4_tell_92 : decode cX4_tell 92 = .ok (.lreturn, 1) := by decide +kernel
theorem dX4_tell_93 : decode cX4_tell 93 = .ok (.aload_n 0, 1) := by decide +kernel
theorem dX4_tell_94 : decode cX4_tell 94 = .ok (.getfield 26, 3) := by decide +kernel
theorem dX4_tell_97 : decode cX4_tell 97 = .ok (.i2l, 1) := by decide +kernel
theorem dX4_tell_98 : decode cX4_tell 98 = .ok (.lreturn, 1) := by decide +kernel
theorem dX4_tell_99 : decode cX4_tell 99 = .ok (.ldc2_w 71, 3) := by decide +kernel
theorem dX4_tell_102 : decode cX4_tell 102 = .ok (.lreturn, 1) := by decide +kernel
theorem dX4_heapCount_0 : decode cX4_heapCount 0 = .ok (.aload_n 0, 1) := by decide +kernel
theorem dX4_heapCount_1 : decode cX4_heapCount 1 = .ok (.getfield 26, 3) := by decide +kernel
theorem dX4_heapCount_4 : decode cX4_heapCount 4 = .ok (.iconst 3, 1) := by decide +kernel
theorem dX4_heapCount_5 : decode cX4_heapCount 5 = .ok (.if_icmp .ne 5, 3) := by decide +kernel
theorem dX4_heapCount_8 : decode cX4_heapCount 8 = .ok (.iconst 3, 1) := by decide +kernel
theorem dX4_heapCount_9 : decode cX4_heapCount 9 = .ok (.ireturn, 1) := by decide +kernel
theorem dX4_heapCount_10 : decode cX4_heapCount 10 = .ok (.aload_n 0, 1) := by decide +kernel
theorem dX4_heapCount_11 : decode cX4_heapCount 11 = .ok (.getfield 26, 3) := by decide +kernel
theorem dX4_heapCount_14 : decode cX4_heapCount 14 = .ok (.iconst 2, 1) := by decide +kernel
theorem dX4_heapCount_15 : decode cX4_heapCount 15 = .ok (.if_icmp .ne 7, 3) := by decide +kernel
theorem dX4_heapCount_18 : decode cX4_heapCount 18 = .ok (.iconst 1, 1) := by decide +kernel
theorem dX4_heapCount_19 : decode cX4_heapCount 19 = .ok (.goto 4, 3) := by decide +kernel
theorem dX4_heapCount_22 : decode cX4_heapCount 22 = .ok (.iconst 2, 1) := by decide +kernel
theorem dX4_heapCount_23 : decode cX4_heapCount 23 = .ok (.ireturn, 1) := by decide +kernel
set_option maxRecDepth 20000 in
theorem ggX4_takesFrom_X4_heapCount : GoodIn wsX4_takesFrom wsX4_heapCount := goodIn_r _ [5, 6, 7, 8, 9, 10, 11, 12, 13, 14, 15] (by decide +kernel) (by decide +kernel)
set_option maxRecDepth 20000 in
theorem gX4_takesFrom_X4_heapCount : GoodIn wsX4_takesFrom (wsV RX4 44 RX4 yX4_heapCount wsX4_heapCount) := goodIn_app (goodIn_of _ (by decide +kernel)) ggX4_takesFrom_X4_heapCount
theorem dX4_takesFrom_0 : decode cX4_takesFrom 0 = .ok (.iload_n 1, 1) := by decide +kernel
theorem dX4_takesFrom_1 : decode cX4_takesFrom 1 = .ok (.iload_n 2, 1) := by decide +kernel
theorem dX4_takesFrom_2 : decode cX4_takesFrom 2 = .ok (.if_icmp .eq 11, 3) := by decide +kernel
theorem dX4_takesFrom_5 : decode cX4_takesFrom 5 = .ok (.iload_n 1, 1) := by decide +kernel
theorem dX4_takesFrom_6 : decode cX4_takesFrom 6 = .ok (.aload_n 0, 1) := by decide +kernel
theorem dX4_takesFrom_7 : decode cX4_takesFrom 7 = .ok (.invokevirtual 44, 3) := by decide +kernel
theorem dX4_takesFrom_10 : decode cX4_takesFrom 10 = .ok (.if_icmp .ne 7, 3) := by decide +kernel
theorem dX4_takesFrom_13 : decode cX4_takesFrom 13 = .ok (.iconst 1, 1) := by decide +kernel
theorem dX4_takesFrom_14 : decode cX4_takesFrom 14 = .ok (.goto 4, 3) := by decide +kernel
theorem dX4_takesFrom_17 : decode cX4_takesFrom 17 = .ok (.iconst 0, 1) := by decide +kernel
theorem dX4_takesFrom_18 : decode cX4_takesFrom 18 = .ok (.ireturn, 1) := by decide +kernel
set_option maxRecDepth 20000 in
theorem ggX4_addToHeaps_X4_heapCount : GoodIn wsX4_addToHeaps wsX4_heapCount := goodIn_r _ [6, 7, 12, 13, 14, 15, 16, 17, 18, 19, 20] (by decide +kernel) (by decide +kernel)
set_option maxRecDepth 20000 in
theorem gX4_addToHeaps_X4_heapCount : GoodIn wsX4_addToHeaps (wsV RX4 44 RX4 yX4_heapCount wsX4_heapCount) := goodIn_app (goodIn_of _ (by decide +kernel)) ggX4_addToHeaps_X4_heapCount
set_option maxRecDepth 20000 in
theorem ggX4_addToHeaps_X4_takesFrom : GoodIn wsX4_addToHeaps wsX4_takesFrom := goodIn_r _ [11, 2, 3, 4, 5, 6, 7, 12, 13, 14, 15, 16, 17, 18, 19, 20] (by decide +kernel) (by decide +kernel)
set_option maxRecDepth 20000 in
theorem gX4_addToHeaps_X4_takesFrom : GoodIn wsX4_addToHeaps (wsV RX4 48 RX4 yX4_takesFrom wsX4_takesFrom) := goodIn_app (goodIn_of _ (by decide +kernel)) ggX4_addToHeaps_X4_takesFrom
theorem dX4_addToHeaps_0 : decode cX4_addToHeaps 0 = .ok (.iconst 0, 1) := by decide +kernel
theorem dX4_addToHeaps_1 : decode cX4_addToHeaps 1 = .ok (.istore 4, 2) := by decide +kernel
theorem dX4_addToHeaps_3 : decode cX4_addToHeaps 3 = .ok (.iload 4, 2) := by decide +kernel
theorem dX4_addToHeaps_5 : decode cX4_addToHeaps 5 = .ok (.aload_n 0, 1) := by decide +kernel
theorem dX4_addToHeaps_6 : decode cX4_addToHeaps 6 = .ok (.invokevirtual 44, 3) := by decide +kernel
theorem dX4_addToHeaps_9 : decode cX4_addToHeaps 9 = .ok (.if_icmp .ge 30, 3) := by decide +kernel
theorem dX4_addToHeaps_12 : decode cX4_addToHeaps 12 = .ok (.aload_n 0, 1) := by decide +kernel
theorem dX4_addToHeaps_13 : decode cX4_addToHeaps 13 = .ok (.iload_n 1, 1) := by decide +kernel
theorem dX4_addToHeaps_14 : decode cX4_addToHeaps 14 = .ok (.iload 4, 2) := by decide +kernel
theorem dX4_addToHeaps_16 : decode cX4_addToHeaps 16 = .ok (.invokevirtual 48, 3) := by decide +kernel
theorem dX4_addToHeaps_19 : decode cX4_addToHeaps 19 = .ok (.ifCond .eq 14, 3) := by decide +kernel
theorem dX4_addToHeaps_22 : decode cX4_addToHeaps 22 = .ok (.aload_n 0, 1) := by decide +kernel
theorem dX4_addToHeaps_23 : decode cX4_addToHeaps 23 = .ok (.getfield 11, 3) := by decide +kernel
theorem dX4_addToHeaps_26 : decode cX4_addToHeaps 26 = .ok (.iload 4, 2) := by decide +kernel
theorem dX4_addToHeaps_28 : decode cX4_addToHeaps 28 = .ok (.dup2, 1) := by decide +kernel
theorem dX4_addToHeaps_29 : decode cX4_addToHeaps 29 = .ok (.laload, 1) := by decide +kernel
theorem dX4_addToHeaps_30 : decode cX4_addToHeaps 30 = .ok (.lload_n 2, 1) := by decide +kernel
theorem dX4_addToHeaps_31 : decode cX4_addToHeaps 31 = .ok (.ladd, 1) := by decide +kernel
theorem dX4_addToHeaps_32 : decode cX4_addToHeaps 32 = .ok (.lastore, 1) := by decide +kernel
theorem dX4_addToHeaps_33 : decode cX4_addToHeaps 33 = .ok (.iinc 4 1, 3) := by decide +kernel
theorem dX4_addToHeaps_36 : decode cX4_addToHeaps 36 = .ok (.goto (-33), 3) := by decide +kernel
theorem dX4_addToHeaps_39 : decode cX4_addToHeaps 39 = .ok (.return_, 1) := by decide +kernel
theorem dX4_bound_0 : decode cX4_bound 0 = .ok (.aload_n 0, 1) := by decide +kernel
theorem dX4_bound_1 : decode cX4_bound 1 = .ok (.getfield 26, 3) := by decide +kernel
theorem dX4_bound_4 : decode cX4_bound 4 = .ok (.iconst 2, 1) := by decide +kernel
theorem dX4_bound_5 : decode cX4_bound 5 = .ok (.if_icmp .eq 5, 3) := by decide +kernel
theorem dX4_bound_8 : decode cX4_bound 8 = .ok (.lconst 0, 1) := by decide +kernel
theorem dX4_bound_9 : decode cX4_bound 9 = .ok (.lreturn, 1) := by decide +kernel
theorem dX4_bound_10 : decode cX4_bound 10 = .ok (.aload_n 0, 1) := by decide +kernel
theorem dX4_bound_11 : decode cX4_bound 11 = .ok (.getfield 41, 3) := by decide +kernel
theorem dX4_bound_14 : decode cX4_bound 14 = .ok (.ifCond .ne 18, 3) := by decide +kernel
theorem dX4_bound_17 : decode cX4_bound 17 = .ok (.lconst 0, 1) := by decide +kernel
theorem dX4_bound_18 : decode cX4_bound 18 = .ok (.aload_n 0, 1) := by decide +kernel
theorem dX4_bound_19 : decode cX4_bound 19 = .ok (.getfield 11, 3) := by decide +kernel
theorem dX4_bound_22 : decode cX4_bound 22 = .ok (.iconst 0, 1) := by decide +kernel
theorem dX4_bound_23 : decode cX4_bound 23 = .ok (.laload, 1) := by decide +kernel
theorem dX4_bound_24 : decode cX4_bound 24 = .ok (.lconst 1, 1) := by decide +kernel
theorem dX4_bound_25 : decode cX4_bound 25 = .ok (.lsub, 1) := by decide +kernel
theorem dX4_bound_26 : decode cX4_bound 26 = .ok (.invokestatic 73, 3) := by decide +kernel
theorem dX4_bound_29 : decode cX4_bound 29 = .ok (.goto 26, 3) := by decide +kernel
theorem dX4_bound_32 : decode cX4_bound 32 = .ok (.ldc2_w 79, 3) := by decide +kernel
theorem dX4_bound_35 : decode cX4_bound 35 = .ok (.aload_n 0, 1) := by decide +kernel
theorem dX4_bound_36 : decode cX4_bound 36 = .ok (.getfield 38, 3) := by decide +kernel
theorem dX4_bound_39 : decode cX4_bound 39 = .ok (.i2l, 1) := by decide +kernel
theorem dX4_bound_40 : decode cX4_bound 40 = .ok (.aload_n 0, 1) := by decide +kernel
theorem dX4_bound_41 : decode cX4_bound 41 = .ok (.getfield 19, 3) := by decide +kernel
theorem dX4_bound_44 : decode cX4_bound 44 = .ok (.aload_n 0, 1) := by decide +kernel
theorem dX4_bound_45 : decode cX4_bound 45 = .ok (.getfield 41, 3) := by decide +kernel
theorem dX4_bound_48 : decode cX4_bound 48 = .ok (.iconst 1, 1) := by decide +kernel
theorem dX4_bound_49 : decode cX4_bound 49 = .ok (.isub, 1) := by decide +kernel
theorem dX4_bound_50 : decode cX4_bound 50 = .ok (.laload, 1) := by decide +kernel
theorem dX4_bound_51 : decode cX4_bound 51 = .ok (.lmul, 1) := by decide +kernel
theorem dX4_bound_52 : decode cX4_bound 52 = .ok (.invokestatic 81, 3) := by decide +kernel
theorem dX4_bound_55 : decode cX4_bound 55 = .ok (.lreturn, 1) := by decide +kernel
set_option maxRecDepth 20000 in
theorem ggX4_isWon_X4_bound : GoodIn wsX4_isWon wsX4_bound := goodIn_r _ [10, 1, 11, 4, 12, 13, 14, 15, 16, 3, 17, 18, 19, 20, 135, 136, 137, 138, 139, 140, 141, 142, 143] (by decide +kernel) (by decide +kernel)
set_option maxRecDepth 20000 in
theorem gX4_isWon_X4_bound : GoodIn wsX4_isWon (wsV RX4 52 RX4 yX4_bound wsX4_bound) := goodIn_app (goodIn_of _ (by decide +kernel)) ggX4_isWon_X4_bound
set_option maxRecDepth 20000 in
theorem ggX4_isWon_X7_isWon : GoodIn wsX4_isWon wsX7_isWon := goodIn_r _ [25, 26, 27, 28, 24, 29, 30, 31, 32, 33, 34, 35, 36, 37, 38, 39, 40, 41, 42, 43, 44, 45, 46, 47, 48, 49, 50, 51, 149, 150, 151] (by decide +kernel) (by decide +kernel)
set_option maxRecDepth 20000 in
theorem gX4_isWon_X7_isWon : GoodIn wsX4_isWon (wsV RX4 90 RX7 yX7_isWon wsX7_isWon) := goodIn_app (goodIn_of _ (by decide +kernel)) ggX4_isWon_X7_isWon
set_option maxRecDepth 20000 in
theorem ggX4_isWon_X2_tableOf : GoodIn wsX4_isWon wsX2_tableOf := goodIn_r _ [56, 57, 58, 59, 60, 61, 62, 63, 64, 65, 66, 67, 68, 69, 70, 42, 43, 71, 44, 72, 73, 74, 75, 76, 77, 78, 79, 80, 81, 82, 83, 84, 85, 86, 87, 88, 89, 90, 14, 91, 92, 93, 94, 95, 96, 97, 144, 145, 146, 147, 148, 152, 153] (by decide +kernel) (by decide +kernel)
set_option maxRecDepth 20000 in
theorem gX4_isWon_X2_tableOf : GoodIn wsX4_isWon (wsV RX4 95 RX2 yX2_tableOf wsX2_tableOf) := goodIn_app (goodIn_of _ (by decide +kernel)) ggX4_isWon_X2_tableOf
set_option maxRecDepth 20000 in
theorem ggX4_isWon_X3_has : GoodIn wsX4_isWon wsX3_has := goodIn_r _ [101, 71, 72, 152, 153] (by decide +kernel) (by decide +kernel)
set_option maxRecDepth 20000 in
theorem gX4_isWon_X3_has : GoodIn wsX4_isWon (wsV RX4 99 RX3 yX3_has wsX3_has) := goodIn_app (goodIn_of _ (by decide +kernel)) ggX4_isWon_X3_has
set_option maxRecDepth 20000 in
theorem ggX4_isWon_X5_isWon : GoodIn wsX4_isWon wsX5_isWon := goodIn_r _ [106, 107, 13, 14, 15, 108, 19, 20, 109, 110, 111, 112, 113, 114, 115, 116, 117, 118, 37, 119, 47, 45, 154, 155, 150, 151] (by decide +kernel) (by decide +kernel)
set_option maxRecDepth 20000 in
theorem gX4_isWon_X5_isWon : GoodIn wsX4_isWon (wsV RX4 109 RX5 yX5_isWon wsX5_isWon) := goodIn_app (goodIn_of _ (by decide +kernel)) ggX4_isWon_X5_isWon
set_option maxRecDepth 20000 in
theorem ggX4_isWon_X0_isWon : GoodIn wsX4_isWon wsX0_isWon := goodIn_r _ [124, 125, 19, 14, 20, 126, 127, 128, 123, 129, 130, 131, 132, 133, 134, 111, 112, 113, 114, 115, 116, 117, 118, 37, 119, 47, 45, 156, 155, 150, 151] (by decide +kernel) (by decide +kernel)
set_option maxRecDepth 20000 in
theorem gX4_isWon_X0_isWon : GoodIn wsX4_isWon (wsV RX4 118 RX0 yX0_isWon wsX0_isWon) := goodIn_app (goodIn_of _ (by decide +kernel)) ggX4_isWon_X0_isWon
theorem dX4_isWon_0 : decode cX4_isWon 0 = .ok (.aload_n 0, 1) := by decide +kernel
theorem dX4_isWon_1 : decode cX4_isWon 1 = .ok (.getfield 26, 3) := by decide +kernel
theorem dX4_isWon_4 : decode cX4_isWon 4 = .ok (.iconst 2, 1) := by decide +kernel
theorem dX4_isWon_5 : decode cX4_isWon 5 = .ok (.if_icmp .ne 28, 3) := by decide +kernel
theorem dX4_isWon_8 : decode cX4_isWon 8 = .ok (.aload_n 0, 1) := by decide +kernel
theorem dX4_isWon_9 : decode cX4_isWon 9 = .ok (.getfield 30, 3) := by decide +kernel
theorem dX4_isWon_12 : decode cX4_isWon 12 = .ok (.getfield 84, 3) := by decide +kernel
theorem dX4_isWon_15 : decode cX4_isWon 15 = .ok (.aload_n 0, 1) := by decide +kernel
theorem dX4_isWon_16 : decode cX4_isWon 16 = .ok (.getfield 38, 3) := by decide +kernel
theorem dX4_isWon_19 : decode cX4_isWon 19 = .ok (.aload_n 0, 1) := by decide +kernel
theorem dX4_isWon_20 : decode cX4_isWon 20 = .ok (.getfield 11, 3) := by decide +kernel
theorem dX4_isWon_23 : decode cX4_isWon 23 = .ok (.iconst 0, 1) := by decide +kernel
theorem dX4_isWon_24 : decode cX4_isWon 24 = .ok (.laload, 1) := by decide +kernel
theorem dX4_isWon_25 : decode cX4_isWon 25 = .ok (.aload_n 0, 1) := by decide +kernel
theorem dX4_isWon_26 : decode cX4_isWon 26 = .ok (.invokevirtual 52, 3) := by decide +kernel
theorem dX4_isWon_29 : decode cX4_isWon 29 = .ok (.invokevirtual 90, 3) := by decide +kernel
theorem dX4_isWon_32 : decode cX4_isWon 32 = .ok (.ireturn, 1) := by decide +kernel
theorem dX4_isWon_33 : decode cX4_isWon 33 = .ok (.aload_n 0, 1) := by decide +kernel
theorem dX4_isWon_34 : decode cX4_isWon 34 = .ok (.getfield 34, 3) := by decide +kernel
theorem dX4_isWon_37 : decode cX4_isWon 37 = .ok (.ifCond .ne 11, 3) := by decide +kernel
theorem dX4_isWon_40 : decode cX4_isWon 40 = .ok (.aload_n 0, 1) := by decide +kernel
theorem dX4_isWon_41 : decode cX4_isWon 41 = .ok (.getfield 26, 3) := by decide +kernel
theorem dX4_isWon_44 : decode cX4_isWon 44 = .ok (.iconst 3, 1) := by decide +kernel
theorem dX4_isWon_45 : decode cX4_isWon 45 = .ok (.if_icmp .ne 51, 3) := by decide +kernel
theorem dX4_isWon_48 : decode cX4_isWon 48 = .ok (.aload_n 0, 1) := by decide +kernel
theorem dX4_isWon_49 : decode cX4_isWon 49 = .ok (.getfield 30, 3) := by decide +kernel
theorem dX4_isWon_52 : decode cX4_isWon 52 = .ok (.aload_n 0, 1) := by decide +kernel
theorem dX4_isWon_53 : decode cX4_isWon 53 = .ok (.getfield 26, 3) := by decide +kernel
theorem dX4_isWon_56 : decode cX4_isWon 56 = .ok (.aload_n 0, 1) := by decide +kernel
theorem dX4_isWon_57 : decode cX4_isWon 57 = .ok (.getfield 34, 3) := by decide +kernel
theorem dX4_isWon_60 : decode cX4_isWon 60 = .ok (.invokevirtual 95, 3) := by decide +kernel
theorem dX4_isWon_63 : decode cX4_isWon 63 = .ok (.aload_n 0, 1) := by decide +kernel
theorem dX4_isWon_64 : decode cX4_isWon 64 = .ok (.getfield 11, 3) := by decide +kernel
theorem dX4_isWon_67 : decode cX4_isWon 67 = .ok (.iconst 0, 1) := by decide +kernel
theorem dX4_isWon_68 : decode cX4_isWon 68 = .ok (.laload, 1) := by decide +kernel
theorem dX4_isWon_69 : decode cX4_isWon 69 = .ok (.l2i, 1) := by decide +kernel
theorem dX4_isWon_70 : decode cX4_isWon 70 = .ok (.aload_n 0, 1) := by decide +kernel
theorem dX4_isWon_71 : decode cX4_isWon 71 = .ok (.getfield 11, 3) := by decide +kernel
theorem dX4_isWon_74 : decode cX4_isWon 74 = .ok (.iconst 1, 1) := by decide +kernel
theorem dX4_isWon_75 : decode cX4_isWon 75 = .ok (.laload, 1) := by decide +kernel
theorem dX4_isWon_76 : decode cX4_isWon 76 = .ok (.l2i, 1) := by decide +kernel
theorem dX4_isWon_77 : decode cX4_isWon 77 = .ok (.aload_n 0, 1) := by decide +kernel
theorem dX4_isWon_78 : decode cX4_isWon 78 = .ok (.getfield 11, 3) := by decide +kernel
theorem dX4_isWon_81 : decode cX4_isWon 81 = .ok (.iconst 2, 1) := by decide +kernel
theorem dX4_isWon_82 : decode cX4_isWon 82 = .ok (.laload, 1) := by decide +kernel
theorem dX4_isWon_83 : decode cX4_isWon 83 = .ok (.l2i, 1) := by decide +kernel
theorem dX4_isWon_84 : decode cX4_isWon 84 = .ok (.invokevirtual 99, 3) := by decide +kernel
theorem dX4_isWon_87 : decode cX4_isWon 87 = .ok (.ifCond .ne 7, 3) := by decide +kernel
theorem dX4_isWon_90 : decode cX4_isWon 90 = .ok (.iconst 1, 1) := by decide +kernel
theorem dX4_isWon_91 : decode cX4_isWon 91 = .ok (.goto 4, 3) := by decide +kernel
theorem dX4_isWon_94 : decode cX4_isWon 94 = .ok (.iconst 0, 1) := by decide +kernel
theorem dX4_isWon_95 : decode cX4_isWon 95 = .ok (.ireturn, 1) := by decide +kernel
theorem dX4_isWon_96 : decode cX4_isWon 96 = .ok (.aload_n 0, 1) := by decide +kernel
theorem dX4_isWon_97 : decode cX4_isWon 97 = .ok (.getfield 26, 3) := by decide +kernel
theorem dX4_isWon_100 : decode cX4_isWon 100 = .ok (.ifCond .ne 28, 3) := by decide +kernel
theorem dX4_isWon_103 : decode cX4_isWon 103 = .ok (.aload_n 0, 1) := by decide +kernel
theorem dX4_isWon_104 : decode cX4_isWon 104 = .ok (.getfield 30, 3) := by decide +kernel
theorem dX4_isWon_107 : decode cX4_isWon 107 = .ok (.getfield 105, 3) := by decide +kernel
theorem dX4_isWon_110 : decode cX4_isWon 110 = .ok (.aload_n 0, 1) := by decide +kernel
theorem dX4_isWon_111 : decode cX4_isWon 111 = .ok (.getfield 11, 3) := by decide +kernel
theorem dX4_isWon_114 : decode cX4_isWon 114 = .ok (.iconst 0, 1) := by decide +kernel
theorem dX4_isWon_115 : decode cX4_isWon 115 = .ok (.laload, 1) := by decide +kernel
theorem dX4_isWon_116 : decode cX4_isWon 116 = .ok (.aload_n 0, 1) := by decide +kernel
theorem dX4_isWon_117 : decode cX4_isWon 117 = .ok (.getfield 11, 3) := by decide +kernel
theorem dX4_isWon_120 : decode cX4_isWon 120 = .ok (.iconst 1, 1) := by decide +kernel
theorem dX4_isWon_121 : decode cX4_isWon 121 = .ok (.laload, 1) := by decide +kernel
theorem dX4_isWon_122 : decode cX4_isWon 122 = .ok (.invokevirtual 109, 3) := by decide +kernel
theorem dX4_isWon_125 : decode cX4_isWon 125 = .ok (.goto 25, 3) := by decide +kernel
theorem dX4_isWon_128 : decode cX4_isWon 128 = .ok (.aload_n 0, 1) := by decide +kernel
theorem dX4_isWon_129 : decode cX4_isWon 129 = .ok (.getfield 30, 3) := by decide +kernel
theorem dX4_isWon_132 : decode cX4_isWon 132 = .ok (.getfield 114, 3) := by decide +kernel
theorem dX4_isWon_135 : decode cX4_isWon 135 = .ok (.aload_n 0, 1) := by decide +kernel
theorem dX4_isWon_136 : decode cX4_isWon 136 = .ok (.getfield 11, 3) := by decide +kernel
theorem dX4_isWon_139 : decode cX4_isWon 139 = .ok (.iconst 0, 1) := by decide +kernel
theorem dX4_isWon_140 : decode cX4_isWon 140 = .ok (.laload, 1) := by decide +kernel
theorem dX4_isWon_141 : decode cX4_isWon 141 = .ok (.aload_n 0, 1) := by decide +kernel
theorem dX4_isWon_142 : decode cX4_isWon 142 = .ok (.getfield 11, 3) := by decide +kernel
theorem dX4_isWon_145 : decode cX4_isWon 145 = .ok (.iconst 1, 1) := by decide +kernel
theorem dX4_isWon_146 : decode cX4_isWon 146 = .ok (.laload, 1) := by decide +kernel
theorem dX4_isWon_147 : decode cX4_isWon 147 = .ok (.invokevirtual 118, 3) := by decide +kernel
theorem dX4_isWon_150 : decode cX4_isWon 150 = .ok (.ireturn, 1) := by decide +kernel
theorem dX4_faults_0 : decode cX4_faults 0 = .ok (.iconst 0, 1) := by decide +kernel
theorem dX4_faults_1 : decode cX4_faults 1 = .ok (.istore_n 1, 1) := by decide +kernel
theorem dX4_faults_2 : decode cX4_faults 2 = .ok (.iconst 0, 1) := by decide +kernel
theorem dX4_faults_3 : decode cX4_faults 3 = .ok (.istore_n 2, 1) := by decide +kernel
theorem dX4_faults_4 : decode cX4_faults 4 = .ok (.iload_n 2, 1) := by decide +kernel
theorem dX4_faults_5 : decode cX4_faults 5 = .ok (.aload_n 0, 1) := by decide +kernel
theorem dX4_faults_6 : decode cX4_faults 6 = .ok (.getfield 41, 3) := by decide +kernel
theorem dX4_faults_9 : decode cX4_faults 9 = .ok (.if_icmp .ge 21, 3) := by decide +kernel
theorem dX4_faults_12 : decode cX4_faults 12 = .ok (.aload_n 0, 1) := by decide +kernel
theorem dX4_faults_13 : decode cX4_faults 13 = .ok (.getfield 22, 3) := by decide +kernel
theorem dX4_faults_16 : decode cX4_faults 16 = .ok (.iload_n 2, 1) := by decide +kernel
theorem dX4_faults_17 : decode cX4_faults 17 = .ok (.baload, 1) := by decide +kernel
theorem dX4_faults_18 : decode cX4_faults 18 = .ok (.ifCond .eq 6, 3) := by decide +kernel
theorem dX4_faults_21 : decode cX4_faults 21 = .ok (.iinc 1 1, 3) := by decide +kernel
theorem dX4_faults_24 : decode cX4_faults 24 = .ok (.iinc 2 1, 3) := by decide +kernel
theorem dX4_faults_27 : decode cX4_faults 27 = .ok (.goto (-23), 3) := by decide +kernel
theorem dX4_faults_30 : decode cX4_faults 30 = .ok (.iload_n 1, 1) := by decide +kernel
theorem dX4_faults_31 : decode cX4_faults 31 = .ok (.ireturn, 1) := by decide +kernel
theorem dX5_init_0 : decode cX5_init 0 = .ok (.aload_n 0, 1) := by decide +kernel
theorem dX5_init_1 : decode cX5_init 1 = .ok (.invokespecial 1, 3) := by decide +kernel
theorem dX5_init_4 : decode cX5_init 4 = .ok (.aload_n 0, 1) := by decide +kernel
theorem dX5_init_5 : decode cX5_init 5 = .ok (.aload_n 1, 1) := by decide +kernel
theorem dX5_init_6 : decode cX5_init 6 = .ok (.putfield 7, 3) := by decide +kernel
theorem dX5_init_9 : decode cX5_init 9 = .ok (.return_, 1) := by decide +kernel
set_option maxRecDepth 20000 in
theorem ggX5_isWon_X1_cut : GoodIn wsX5_isWon wsX1_cut := goodIn_r _ [13, 14, 15, 16, 17, 18, 19, 20, 21, 23, 24, 25] (by decide +kernel) (by decide +kernel)
set_option maxRecDepth 20000 in
theorem gX5_isWon_X1_cut : GoodIn wsX5_isWon (wsV RX5 22 RX1 yX1_cut wsX1_cut) := goodIn_app (goodIn_of _ (by decide +kernel)) ggX5_isWon_X1_cut
theorem dX5_isWon_0 : decode cX5_isWon 0 = .ok (.lload_n 1, 1) := by decide +kernel
theorem dX5_isWon_1 : decode cX5_isWon 1 = .ok (.lload_n 3, 1) := by decide +kernel
theorem dX5_isWon_2 : decode cX5_isWon 2 = .ok (.invokestatic 13, 3) := by decide +kernel
theorem dX5_isWon_5 : decode cX5_isWon 5 = .ok (.lstore 5, 2) := by decide +kernel
theorem dX5_isWon_7 : decode cX5_isWon 7 = .ok (.lload_n 1, 1) := by decide +kernel
theorem dX5_isWon_8 : decode cX5_isWon 8 = .ok (.lload_n 3, 1) := by decide +kernel
theorem dX5_isWon_9 : decode cX5_isWon 9 = .ok (.invokestatic 19, 3) := by decide +kernel
theorem dX5_isWon_12 : decode cX5_isWon 12 = .ok (.lstore 7, 2) := by decide +kernel
theorem dX5_isWon_14 : decode cX5_isWon 14 = .ok (.lload 7, 2) := by decide +kernel
theorem dX5_isWon_16 : decode cX5_isWon 16 = .ok (.lconst 0, 1) := by decide +kernel
theorem dX5_isWon_17 : decode cX5_isWon 17 = .ok (.lcmp, 1) := by decide +kernel
theorem dX5_isWon_18 : decode cX5_isWon 18 = .ok (.ifCond .le 30, 3) := by decide +kernel
theorem dX5_isWon_21 : decode cX5_isWon 21 = .ok (.lload 5, 2) := by decide +kernel
theorem dX5_isWon_23 : decode cX5_isWon 23 = .ok (.lload 7, 2) := by decide +kernel
theorem dX5_isWon_25 : decode cX5_isWon 25 = .ok (.lcmp, 1) := by decide +kernel
theorem dX5_isWon_26 : decode cX5_isWon 26 = .ok (.ifCond .eq 18, 3) := by decide +kernel
theorem dX5_isWon_29 : decode cX5_isWon 29 = .ok (.lload 5, 2) := by decide +kernel
theorem dX5_isWon_31 : decode cX5_isWon 31 = .ok (.aload_n 0, 1) := by decide +kernel
theorem dX5_isWon_32 : decode cX5_isWon 32 = .ok (.getfield 7, 3) := by decide +kernel
theorem dX5_isWon_35 : decode cX5_isWon 35 = .ok (.lload 7, 2) := by decide +kernel
theorem dX5_isWon_37 : decode cX5_isWon 37 = .ok (.invokevirtual 22, 3) := by decide +kernel
theorem dX5_isWon_40 : decode cX5_isWon 40 = .ok (.lcmp, 1) := by decide +kernel
theorem dX5_isWon_41 : decode cX5_isWon 41 = .ok (.ifCond .le 7, 3) := by decide +kernel
theorem dX5_isWon_44 : decode cX5_isWon 44 = .ok (.iconst 1, 1) := by decide +kernel
theorem dX5_isWon_45 : decode cX5_isWon 45 = .ok (.goto 4, 3) := by decide +kernel
theorem dX5_isWon_48 : decode cX5_isWon 48 = .ok (.iconst 0, 1) := by decide +kernel
theorem dX5_isWon_49 : decode cX5_isWon 49 = .ok (.ireturn, 1) := by decide +kernel
set_option maxRecDepth 20000 in
theorem ggX5_leastTimes_X5_isWon : GoodIn wsX5_leastTimes wsX5_isWon := goodIn_r _ [12, 1, 2, 3, 4, 5, 6, 7, 13, 14, 15, 16, 17, 18, 19, 20, 21, 22, 23, 24, 25, 26, 27, 28, 29, 30] (by decide +kernel) (by decide +kernel)
set_option maxRecDepth 20000 in
theorem gX5_leastTimes_X5_isWon : GoodIn wsX5_leastTimes (wsV RX5 28 RX5 yX5_isWon wsX5_isWon) := goodIn_app (goodIn_of _ (by decide +kernel)) ggX5_leastTimes_X5_isWon
theorem dX5_leastTimes_0 : decode cX5_leastTimes 0 = .ok (.lload_n 1, 1) := by decide +kernel
theorem dX5_leastTimes_1 : decode cX5_leastTimes 1 = .ok (.lload_n 3, 1) := by decide +kernel
theorem dX5_leastTimes_2 : decode cX5_leastTimes 2 = .ok (.invokestatic 13, 3) := by decide +kernel
theorem dX5_leastTimes_5 : decode cX5_leastTimes 5 = .ok (.lstore 5, 2) := by decide +kernel
theorem dX5_leastTimes_7 : decode cX5_leastTimes 7 = .ok (.lload_n 1, 1) := by decide +kernel
theorem dX5_leastTimes_8 : decode cX5_leastTimes 8 = .ok (.lload_n 3, 1) := by decide +kernel
theorem dX5_leastTimes_9 : decode cX5_leastTimes 9 = .ok (.invokestatic 19, 3) := by decide +kernel
theorem dX5_leastTimes_12 : decode cX5_leastTimes 12 = .ok (.lstore 7, 2) := by decide +kernel
theorem dX5_leastTimes_14 : decode cX5_leastTimes 14 = .ok (.lload 7, 2) := by decide +kernel
theorem dX5_leastTimes_16 : decode cX5_leastTimes 16 = .ok (.lconst 0, 1) := by decide +kernel
theorem dX5_leastTimes_17 : decode cX5_leastTimes 17 = .ok (.lcmp, 1) := by decide +kernel
theorem dX5_leastTimes_18 : decode cX5_leastTimes 18 = .ok (.ifCond .gt 5, 3) := by decide +kernel
theorem dX5_leastTimes_21 : decode cX5_leastTimes 21 = .ok (.lconst 0, 1) := by decide +kernel
theorem dX5_leastTimes_22 : decode cX5_leastTimes 22 = .ok (.lreturn, 1) := by decide +kernel
theorem dX5_leastTimes_23 : decode cX5_leastTimes 23 = .ok (.lload 5, 2) := by decide +kernel
theorem dX5_leastTimes_25 : decode cX5_leastTimes 25 = .ok (.lload 7, 2) := by decide +kernel
theorem dX5_leastTimes_27 : decode cX5_leastTimes 27 = .ok (.ldiv, 1) := by decide +kernel
theorem dX5_leastTimes_28 : decode cX5_leastTimes 28 = .ok (.lstore 9, 2) := by decide +kernel
theorem dX5_leastTimes_30 : decode cX5_leastTimes 30 = .ok (.lconst 1, 1) := by decide +kernel
theorem dX5_leastTimes_31 : decode cX5_leastTimes 31 = .ok (.lload 9, 2) := by decide +kernel
theorem dX5_leastTimes_33 : decode cX5_leastTimes 33 = .ok (.lconst 1, 1) := by decide +kernel
theorem dX5_leastTimes_34 : decode cX5_leastTimes 34 = .ok (.lsub, 1) := by decide +kernel
theorem dX5_leastTimes_35 : decode cX5_leastTimes 35 = .ok (.invokestatic 13, 3) := by decide +kernel
theorem dX5_leastTimes_38 : decode cX5_leastTimes 38 = .ok (.lstore 11, 2) := by decide +kernel
theorem dX5_leastTimes_40 : decode cX5_leastTimes 40 = .ok (.lload 11, 2) := by decide +kernel
theorem dX5_leastTimes_42 : decode cX5_leastTimes 42 = .ok (.lload 9, 2) := by decide +kernel
theorem dX5_leastTimes_44 : decode cX5_leastTimes 44 = .ok (.lcmp, 1) := by decide +kernel
theorem dX5_leastTimes_45 : decode cX5_leastTimes 45 = .ok (.ifCond .gt 32, 3) := by decide +kernel
theorem dX5_leastTimes_48 : decode cX5_leastTimes 48 = .ok (.aload_n 0, 1) := by decide +kernel
theorem dX5_leastTimes_49 : decode cX5_leastTimes 49 = .ok (.lload 5, 2) := by decide +kernel
theorem dX5_leastTimes_51 : decode cX5_leastTimes 51 = .ok (.lload 11, 2) := by decide +kernel
theorem dX5_leastTimes_53 : decode cX5_leastTimes 53 = .ok (.lload 7, 2) := by decide +kernel
theorem dX5_leastTimes_55 : decode cX5_leastTimes 55 = .ok (.lmul, 1) := by decide +kernel
theorem dX5_leastTimes_56 : decode cX5_leastTimes 56 = .ok (.lsub, 1) := by decide +kernel
theorem dX5_leastTimes_57 : decode cX5_leastTimes 57 = .ok (.lload 7, 2) := by decide +kernel
theorem dX5_leastTimes_59 : decode cX5_leastTimes 59 = .ok (.invokevirtual 28, 3) := by decide +kernel
theorem dX5_leastTimes_62 : decode cX5_leastTimes 62 = .ok (.ifCond .ne 6, 3) := by decide +kernel
theorem dX5_leastTimes_65 : decode cX5_leastTimes 65 = .ok (.lload 11, 2) := by decide +kernel
theorem dX5_leastTimes_67 : decode cX5_leastTimes 67 = .ok (.lreturn, 1) := by decide +kernel
theorem dX5_leastTimes_68 : decode cX5_leastTimes 68 = .ok (.lload 11, 2) := by decide +kernel
theorem dX5_leastTimes_70 : decode cX5_leastTimes 70 = .ok (.lconst 1, 1) := by decide +kernel
theorem dX5_leastTimes_71 : decode cX5_leastTimes 71 = .ok (.ladd, 1) := by decide +kernel
theorem dX5_leastTimes_72 : decode cX5_leastTimes 72 = .ok (.lstore 11, 2) := by decide +kernel
theorem dX5_leastTimes_74 : decode cX5_leastTimes 74 = .ok (.goto (-34), 3) := by decide +kernel
theorem dX5_leastTimes_77 : decode cX5_leastTimes 77 = .ok (.lconst 0, 1) := by decide +kernel
theorem dX5_leastTimes_78 : decode cX5_leastTimes 78 = .ok (.lreturn, 1) := by decide +kernel
theorem dX6_init_0 : decode cX6_init 0 = .ok (.aload_n 0, 1) := by decide +kernel
theorem dX6_init_1 : decode cX6_init 1 = .ok (.invokespecial 3, 3) := by decide +kernel
theorem dX6_init_4 : decode cX6_init 4 = .ok (.aload_n 0, 1) := by decide +kernel
theorem dX6_init_5 : decode cX6_init 5 = .ok (.sipush 240, 3) := by decide +kernel
theorem dX6_init_8 : decode cX6_init 8 = .ok (.newarray .long, 2) := by decide +kernel
theorem dX6_init_10 : decode cX6_init 10 = .ok (.putfield 11, 3) := by decide +kernel
theorem dX6_init_13 : decode cX6_init 13 = .ok (.aload_n 0, 1) := by decide +kernel
theorem dX6_init_14 : decode cX6_init 14 = .ok (.getfield 11, 3) := by decide +kernel
theorem dX6_init_17 : decode cX6_init 17 = .ok (.iconst 0, 1) := by decide +kernel
theorem dX6_init_18 : decode cX6_init 18 = .ok (.lconst 1, 1) := by decide +kernel
theorem dX6_init_19 : decode cX6_init 19 = .ok (.lastore, 1) := by decide +kernel
theorem dX6_init_20 : decode cX6_init 20 = .ok (.iconst 1, 1) := by decide +kernel
theorem dX6_init_21 : decode cX6_init 21 = .ok (.istore_n 2, 1) := by decide +kernel
theorem dX6_init_22 : decode cX6_init 22 = .ok (.iconst 0, 1) := by decide +kernel
theorem dX6_init_23 : decode cX6_init 23 = .ok (.istore_n 3, 1) := by decide +kernel
theorem dX6_init_24 : decode cX6_init 24 = .ok (.iload_n 2, 1) := by decide +kernel
theorem dX6_init_25 : decode cX6_init 25 = .ok (.sipush 240, 3) := by decide +kernel
theorem dX6_init_28 : decode cX6_init 28 = .ok (.if_icmp .ge 77, 3) := by decide +kernel
theorem dX6_init_31 : decode cX6_init 31 = .ok (.aload_n 0, 1) := by decide +kernel
theorem dX6_init_32 : decode cX6_init 32 = .ok (.getfield 11, 3) := by decide +kernel
theorem dX6_init_35 : decode cX6_init 35 = .ok (.iload_n 2, 1) := by decide +kernel
theorem dX6_init_36 : decode cX6_init 36 = .ok (.iconst 1, 1) := by decide +kernel
theorem dX6_init_37 : decode cX6_init 37 = .ok (.isub, 1) := by decide +kernel
theorem dX6_init_38 : decode cX6_init 38 = .ok (.laload, 1) := by decide +kernel
theorem dX6_init_39 : decode cX6_init 39 = .ok (.ldc2_w 15, 3) := by decide +kernel
theorem dX6_init_42 : decode cX6_init 42 = .ok (.lcmp, 1) := by decide +kernel
theorem dX6_init_43 : decode cX6_init 43 = .ok (.ifCond .gt 62, 3) := by decide +kernel
theorem dX6_init_46 : decode cX6_init 46 = .ok (.aload_n 0, 1) := by decide +kernel
theorem dX6_init_47 : decode cX6_init 47 = .ok (.getfield 11, 3) := by decide +kernel
theorem dX6_init_50 : decode cX6_init 50 = .ok (.iload_n 2, 1) := by decide +kernel
theorem dX6_init_51 : decode cX6_init 51 = .ok (.iconst 1, 1) := by decide +kernel
theorem dX6_init_52 : decode cX6_init 52 = .ok (.isub, 1) := by decide +kernel
theorem dX6_init_53 : decode cX6_init 53 = .ok (.laload, 1) := by decide +kernel
theorem dX6_init_54 : decode cX6_init 54 = .ok (.lstore 4, 2) := by decide +kernel
theorem dX6_init_56 : decode cX6_init 56 = .ok (.iload_n 3, 1) := by decide +kernel
theorem dX6_init_57 : decode cX6_init 57 = .ok (.iload_n 2, 1) := by decide +kernel
theorem dX6_init_58 : decode cX6_init 58 = .ok (.iconst 1, 1) := by decide +kernel
theorem dX6_init_59 : decode cX6_init 59 = .ok (.isub, 1) := by decide +kernel
theorem dX6_init_60 : decode cX6_init 60 = .ok (.if_icmp .ge 24, 3) := by decide +kernel
theorem dX6_init_63 : decode cX6_init 63 = .ok (.iload_n 1, 1) := by decide +kernel
theorem dX6_init_64 : decode cX6_init 64 = .ok (.i2l, 1) := by decide +kernel
theorem dX6_init_65 : decode cX6_init 65 = .ok (.aload_n 0, 1) := by decide +kernel
theorem dX6_init_66 : decode cX6_init 66 = .ok (.getfield 11, 3) := by decide +kernel
theorem dX6_init_69 : decode cX6_init 69 = .ok (.iload_n 3, 1) := by decide +kernel
theorem dX6_init_70 : decode cX6_init 70 = .ok (.laload, 1) := by decide +kernel
theorem dX6_init_71 : decode cX6_init 71 = .ok (.lmul, 1) := by decide +kernel
theorem dX6_init_72 : decode cX6_init 72 = .ok (.lload 4, 2) := by decide +kernel
theorem dX6_init_74 : decode cX6_init 74 = .ok (.lcmp, 1) := by decide +kernel
theorem dX6_init_75 : decode cX6_init 75 = .ok (.ifCond .ge 9, 3) := by decide +kernel
theorem dX6_init_78 : decode cX6_init 78 = .ok (.iinc 3 1, 3) := by decide +kernel
theorem dX6_init_81 : decode cX6_init 81 = .ok (.goto (-25), 3) := by decide +kernel
theorem dX6_init_84 : decode cX6_init 84 = .ok (.aload_n 0, 1) := by decide +kernel
theorem dX6_init_85 : decode cX6_init 85 = .ok (.getfield 11, 3) := by decide +kernel
theorem dX6_init_88 : decode cX6_init 88 = .ok (.iload_n 2, 1) := by decide +kernel
theorem dX6_init_89 : decode cX6_init 89 = .ok (.lload 4, 2) := by decide +kernel
theorem dX6_init_91 : decode cX6_init 91 = .ok (.aload_n 0, 1) := by decide +kernel
theorem dX6_init_92 : decode cX6_init 92 = .ok (.getfield 11, 3) := by decide +kernel
theorem dX6_init_95 : decode cX6_init 95 = .ok (.iload_n 3, 1) := by decide +kernel
theorem dX6_init_96 : decode cX6_init 96 = .ok (.laload, 1) := by decide +kernel
theorem dX6_init_97 : decode cX6_init 97 = .ok (.ladd, 1) := by decide +kernel
theorem dX6_init_98 : decode cX6_init 98 = .ok (.lastore, 1) := by decide +kernel
theorem dX6_init_99 : decode cX6_init 99 = .ok (.iinc 2 1, 3) := by decide +kernel
theorem dX6_init_102 : decode cX6_init 102 = .ok (.goto (-78), 3) := by decide +kernel
theorem dX6_init_105 : decode cX6_init 105 = .ok (.aload_n 0, 1) := by decide +kernel
theorem dX6_init_106 : decode cX6_init 106 = .ok (.iload_n 2, 1) := by decide +kernel
theorem dX6_init_107 : decode cX6_init 107 = .ok (.putfield 17, 3) := by decide +kernel
theorem dX6_init_110 : decode cX6_init 110 = .ok (.return_, 1) := by decide +kernel
theorem dX6_numberAt_0 : decode cX6_numberAt 0 = .ok (.iload_n 1, 1) := by decide +kernel
theorem dX6_numberAt_1 : decode cX6_numberAt 1 = .ok (.ifCond .lt 33, 3) := by decide +kernel
theorem dX6_numberAt_4 : decode cX6_numberAt 4 = .ok (.iload_n 1, 1) := by decide +kernel
theorem dX6_numberAt_5 : decode cX6_numberAt 5 = .ok (.aload_n 0, 1) := by decide +kernel
theorem dX6_numberAt_6 : decode cX6_numberAt 6 = .ok (.getfield 17, 3) := by decide +kernel
theorem dX6_numberAt_9 : decode cX6_numberAt 9 = .ok (.if_icmp .ge 25, 3) := by decide +kernel
theorem dX6_numberAt_12 : decode cX6_numberAt 12 = .ok (.aload_n 0, 1) := by decide +kernel
theorem dX6_numberAt_13 : decode cX6_numberAt 13 = .ok (.getfield 11, 3) := by decide +kernel
theorem dX6_numberAt_16 : decode cX6_numberAt 16 = .ok (.iload_n 1, 1) := by decide +kernel
theorem dX6_numberAt_17 : decode cX6_numberAt 17 = .ok (.laload, 1) := by decide +kernel
theorem dX6_numberAt_18 : decode cX6_numberAt 18 = .ok (.ldc2_w 15, 3) := by decide +kernel
theorem dX6_numberAt_21 : decode cX6_numberAt 21 = .ok (.lcmp, 1) := by decide +kernel
theorem dX6_numberAt_22 : decode cX6_numberAt 22 = .ok (.ifCond .gt 12, 3) := by decide +kernel
theorem dX6_numberAt_25 : decode cX6_numberAt 25 = .ok (.aload_n 0, 1) := by decide +kernel
theorem dX6_numberAt_26 : decode cX6_numberAt 26 = .ok (.getfield 11, 3) := by decide +kernel
theorem dX6_numberAt_29 : decode cX6_numberAt 29 = .ok (.iload_n 1, 1) := by decide +kernel
theorem dX6_numberAt_30 : decode cX6_numberAt 30 = .ok (.laload, 1) := by decide +kernel
theorem dX6_numberAt_31 : decode cX6_numberAt 31 = .ok (.goto 6, 3) := by decide +kernel
theorem dX6_numberAt_34 : decode cX6_numberAt 34 = .ok (.ldc2_w 21, 3) := by decide +kernel
theorem dX6_numberAt_37 : decode cX6_numberAt 37 = .ok (.lreturn, 1) := by decide +kernel
theorem dX6_countOf_0 : decode cX6_countOf 0 = .ok (.lload_n 1, 1) := by decide +kernel
theorem dX6_countOf_1 : decode cX6_countOf 1 = .ok (.lstore_n 3, 1) := by decide +kernel
theorem dX6_countOf_2 : decode cX6_countOf 2 = .ok (.iconst 0, 1) := by decide +kernel
theorem dX6_countOf_3 : decode cX6_countOf 3 = .ok (.istore 5, 2) := by decide +kernel
theorem dX6_countOf_5 : decode cX6_countOf 5 = .ok (.aload_n 0, 1) := by decide +kernel
theorem dX6_countOf_6 : decode cX6_countOf 6 = .ok (.getfield 17, 3) := by decide +kernel
theorem dX6_countOf_9 : decode cX6_countOf 9 = .ok (.iconst 1, 1) := by decide +kernel
theorem dX6_countOf_10 : decode cX6_countOf 10 = .ok (.isub, 1) := by decide +kernel
theorem dX6_countOf_11 : decode cX6_countOf 11 = .ok (.istore 6, 2) := by decide +kernel
theorem dX6_countOf_13 : decode cX6_countOf 13 = .ok (.iload 6, 2) := by decide +kernel
theorem dX6_countOf_15 : decode cX6_countOf 15 = .ok (.ifCond .lt 34, 3) := by decide +kernel
theorem dX6_countOf_18 : decode cX6_countOf 18 = .ok (.aload_n 0, 1) := by decide +kernel
theorem dX6_countOf_19 : decode cX6_countOf 19 = .ok (.getfield 11, 3) := by decide +kernel
theorem dX6_countOf_22 : decode cX6_countOf 22 = .ok (.iload 6, 2) := by decide +kernel
theorem dX6_countOf_24 : decode cX6_countOf 24 = .ok (.laload, 1) := by decide +kernel
theorem dX6_countOf_25 : decode cX6_countOf 25 = .ok (.lload_n 3, 1) := by decide +kernel
theorem dX6_countOf_26 : decode cX6_countOf 26 = .ok (.lcmp, 1) := by decide +kernel
theorem dX6_countOf_27 : decode cX6_countOf 27 = .ok (.ifCond .gt 16, 3) := by decide +kernel
theorem dX6_countOf_30 : decode cX6_countOf 30 = .ok (.lload_n 3, 1) := by decide +kernel
theorem dX6_countOf_31 : decode cX6_countOf 31 = .ok (.aload_n 0, 1) := by decide +kernel
theorem dX6_countOf_32 : decode cX6_countOf 32 = .ok (.getfield 11, 3) := by decide +kernel
theorem dX6_countOf_35 : decode cX6_countOf 35 = .ok (.iload 6, 2) := by decide +kernel
theorem dX6_countOf_37 : decode cX6_countOf 37 = .ok (.laload, 1) := by decide +kernel
theorem dX6_countOf_38 : decode cX6_countOf 38 = .ok (.lsub, 1) := by decide +kernel
theorem dX6_countOf_39 : decode cX6_countOf 39 = .ok (.lstore_n 3, 1) := by decide +kernel
theorem dX6_countOf_40 : decode cX6_countOf 40 = .ok (.iinc 5 1, 3) := by decide +kernel
theorem dX6_countOf_43 : decode cX6_countOf 43 = .ok (.iinc 6 (-1), 3) := by decide +kernel
theorem dX6_countOf_46 : decode cX6_countOf 46 = .ok (.goto (-33), 3) := by decide +kernel
theorem dX6_countOf_49 : decode cX6_countOf 49 = .ok (.iload 5, 2) := by decide +kernel
theorem dX6_countOf_51 : decode cX6_countOf 51 = .ok (.ireturn, 1) := by decide +kernel
theorem dX6_endOf_0 : decode cX6_endOf 0 = .ok (.lload_n 1, 1) := by decide +kernel
theorem dX6_endOf_1 : decode cX6_endOf 1 = .ok (.lstore_n 3, 1) := by decide +kernel
theorem dX6_endOf_2 : decode cX6_endOf 2 = .ok (.lconst 0, 1) := by decide +kernel
theorem dX6_endOf_3 : decode cX6_endOf 3 = .ok (.lstore 5, 2) := by decide +kernel
theorem dX6_endOf_5 : decode cX6_endOf 5 = .ok (.aload_n 0, 1) := by decide +kernel
theorem dX6_endOf_6 : decode cX6_endOf 6 = .ok (.getfield 17, 3) := by decide +kernel
theorem dX6_endOf_9 : decode cX6_endOf 9 = .ok (.iconst 1, 1) := by decide +kernel
theorem dX6_endOf_10 : decode cX6_endOf 10 = .ok (.isub, 1) := by decide +kernel
theorem dX6_endOf_11 : decode cX6_endOf 11 = .ok (.istore 7, 2) := by decide +kernel
theorem dX6_endOf_13 : decode cX6_endOf 13 = .ok (.iload 7, 2) := by decide +kernel
theorem dX6_endOf_15 : decode cX6_endOf 15 = .ok (.ifCond .lt 40, 3) := by decide +kernel
theorem dX6_endOf_18 : decode cX6_endOf 18 = .ok (.aload_n 0, 1) := by decide +kernel
theorem dX6_endOf_19 : decode cX6_endOf 19 = .ok (.getfield 11, 3) := by decide +kernel
theorem dX6_endOf_22 : decode cX6_endOf 22 = .ok (.iload 7, 2) := by decide +kernel
theorem dX6_endOf_24 : decode cX6_endOf 24 = .ok (.laload, 1) := by decide +kernel
theorem dX6_endOf_25 : decode cX6_endOf 25 = .ok (.lload_n 3, 1) := by decide +kernel
theorem dX6_endOf_26 : decode cX6_endOf 26 = .ok (.lcmp, 1) := by decide +kernel
theorem dX6_endOf_27 : decode cX6_endOf 27 = .ok (.ifCond .gt 22, 3) := by decide +kernel
theorem dX6_endOf_30 : decode cX6_endOf 30 = .ok (.lload_n 3, 1) := by decide +kernel
theorem dX6_endOf_31 : decode cX6_endOf 31 = .ok (.aload_n 0, 1) := by decide +kernel
theorem dX6_endOf_32 : decode cX6_endOf 32 = .ok (.getfield 11, 3) := by decide +kernel
theorem dX6_endOf_35 : decode cX6_endOf 35 = .ok (.iload 7, 2) := by decide +kernel
theorem dX6_endOf_37 : decode cX6_endOf 37 = .ok (.laload, 1) := by decide +kernel
theorem dX6_endOf_38 : decode cX6_endOf 38 = .ok (.lsub, 1) := by decide +kernel
theorem dX6_endOf_39 : decode cX6_endOf 39 = .ok (.lstore_n 3, 1) := by decide +kernel
theorem dX6_endOf_40 : decode cX6_endOf 40 = .ok (.aload_n 0, 1) := by decide +kernel
theorem dX6_endOf_41 : decode cX6_endOf 41 = .ok (.getfield 11, 3) := by decide +kernel
theorem dX6_endOf_44 : decode cX6_endOf 44 = .ok (.iload 7, 2) := by decide +kernel
theorem dX6_endOf_46 : decode cX6_endOf 46 = .ok (.laload, 1) := by decide +kernel
theorem dX6_endOf_47 : decode cX6_endOf 47 = .ok (.lstore 5, 2) := by decide +kernel
theorem dX6_endOf_49 : decode cX6_endOf 49 = .ok (.iinc 7 (-1), 3) := by decide +kernel
theorem dX6_endOf_52 : decode cX6_endOf 52 = .ok (.goto (-39), 3) := by decide +kernel
theorem dX6_endOf_55 : decode cX6_endOf 55 = .ok (.lload 5, 2) := by decide +kernel
theorem dX6_endOf_57 : decode cX6_endOf 57 = .ok (.lreturn, 1) := by decide +kernel
theorem dX6_raised_0 : decode cX6_raised 0 = .ok (.lload_n 1, 1) := by decide +kernel
theorem dX6_raised_1 : decode cX6_raised 1 = .ok (.lstore_n 3, 1) := by decide +kernel
theorem dX6_raised_2 : decode cX6_raised 2 = .ok (.lconst 0, 1) := by decide +kernel
theorem dX6_raised_3 : decode cX6_raised 3 = .ok (.lstore 5, 2) := by decide +kernel
theorem dX6_raised_5 : decode cX6_raised 5 = .ok (.aload_n 0, 1) := by decide +kernel
theorem dX6_raised_6 : decode cX6_raised 6 = .ok (.getfield 17, 3) := by decide +kernel
theorem dX6_raised_9 : decode cX6_raised 9 = .ok (.iconst 2, 1) := by decide +kernel
theorem dX6_raised_10 : decode cX6_raised 10 = .ok (.isub, 1) := by decide +kernel
theorem dX6_raised_11 : decode cX6_raised 11 = .ok (.istore 7, 2) := by decide +kernel
theorem dX6_raised_13 : decode cX6_raised 13 = .ok (.iload 7, 2) := by decide +kernel
theorem dX6_raised_15 : decode cX6_raised 15 = .ok (.ifCond .lt 45, 3) := by decide +kernel
theorem dX6_raised_18 : decode cX6_raised 18 = .ok (.aload_n 0, 1) := by decide +kernel
theorem dX6_raised_19 : decode cX6_raised 19 = .ok (.getfield 11, 3) := by decide +kernel
theorem dX6_raised_22 : decode cX6_raised 22 = .ok (.iload 7, 2) := by decide +kernel
theorem dX6_raised_24 : decode cX6_raised 24 = .ok (.laload, 1) := by decide +kernel
theorem dX6_raised_25 : decode cX6_raised 25 = .ok (.lload_n 3, 1) := by decide +kernel
theorem dX6_raised_26 : decode cX6_raised 26 = .ok (.lcmp, 1) := by decide +kernel
theorem dX6_raised_27 : decode cX6_raised 27 = .ok (.ifCond .gt 27, 3) := by decide +kernel
theorem dX6_raised_30 : decode cX6_raised 30 = .ok (.lload_n 3, 1) := by decide +kernel
theorem dX6_raised_31 : decode cX6_raised 31 = .ok (.aload_n 0, 1) := by decide +kernel
theorem dX6_raised_32 : decode cX6_raised 32 = .ok (.getfield 11, 3) := by decide +kernel
theorem dX6_raised_35 : decode cX6_raised 35 = .ok (.iload 7, 2) := by decide +kernel
theorem dX6_raised_37 : decode cX6_raised 37 = .ok (.laload, 1) := by decide +kernel
theorem dX6_raised_38 : decode cX6_raised 38 = .ok (.lsub, 1) := by decide +kernel
theorem dX6_raised_39 : decode cX6_raised 39 = .ok (.lstore_n 3, 1) := by decide +kernel
theorem dX6_raised_40 : decode cX6_raised 40 = .ok (.lload 5, 2) := by decide +kernel
theorem dX6_raised_42 : decode cX6_raised 42 = .ok (.aload_n 0, 1) := by decide +kernel
theorem dX6_raised_43 : decode cX6_raised 43 = .ok (.getfield 11, 3) := by decide +kernel
theorem dX6_raised_46 : decode cX6_raised 46 = .ok (.iload 7, 2) := by decide +kernel
theorem dX6_raised_48 : decode cX6_raised 48 = .ok (.iconst 1, 1) := by decide +kernel
theorem dX6_raised_49 : decode cX6_raised 49 = .ok (.iadd, 1) := by decide +kernel
theorem dX6_raised_50 : decode cX6_raised 50 = .ok (.laload, 1) := by decide +kernel
theorem dX6_raised_51 : decode cX6_raised 51 = .ok (.ladd, 1) := by decide +kernel
theorem dX6_raised_52 : decode cX6_raised 52 = .ok (.lstore 5, 2) := by decide +kernel
theorem dX6_raised_54 : decode cX6_raised 54 = .ok (.iinc 7 (-1), 3) := by decide +kernel
theorem dX6_raised_57 : decode cX6_raised 57 = .ok (.goto (-44), 3) := by decide +kernel
theorem dX6_raised_60 : decode cX6_raised 60 = .ok (.lload 5, 2) := by decide +kernel
theorem dX6_raised_62 : decode cX6_raised 62 = .ok (.lreturn, 1) := by decide +kernel
theorem dX7_init_0 : decode cX7_init 0 = .ok (.aload_n 0, 1) := by decide +kernel
theorem dX7_init_1 : decode cX7_init 1 = .ok (.invokespecial 3, 3) := by decide +kernel
theorem dX7_init_4 : decode cX7_init 4 = .ok (.aload_n 0, 1) := by decide +kernel
theorem dX7_init_5 : decode cX7_init 5 = .ok (.bipush 10, 2) := by decide +kernel
theorem dX7_init_7 : decode cX7_init 7 = .ok (.anewarray 9, 3) := by decide +kernel
theorem dX7_init_10 : decode cX7_init 10 = .ok (.putfield 11, 3) := by decide +kernel
theorem dX7_init_13 : decode cX7_init 13 = .ok (.return_, 1) := by decide +kernel
set_option maxRecDepth 20000 in
theorem ggX7_sumsBy_X6_init : GoodIn wsX7_sumsBy wsX6_init := goodIn_r _ [7, 8, 9, 10, 11, 12, 13, 14, 16, 17] (by decide +kernel) (by decide +kernel)
set_option maxRecDepth 20000 in
theorem gX7_sumsBy_X6_init : GoodIn wsX7_sumsBy (wsX6_init) := ggX7_sumsBy_X6_init
theorem dX7_sumsBy_0 : decode cX7_sumsBy 0 = .ok (.iload_n 1, 1) := by decide +kernel
theorem dX7_sumsBy_1 : decode cX7_sumsBy 1 = .ok (.iconst 1, 1) := by decide +kernel
theorem dX7_sumsBy_2 : decode cX7_sumsBy 2 = .ok (.if_icmp .lt 13, 3) := by decide +kernel
theorem dX7_sumsBy_5 : decode cX7_sumsBy 5 = .ok (.iload_n 1, 1) := by decide +kernel
theorem dX7_sumsBy_6 : decode cX7_sumsBy 6 = .ok (.bipush 9, 2) := by decide +kernel
theorem dX7_sumsBy_8 : decode cX7_sumsBy 8 = .ok (.if_icmp .gt 7, 3) := by decide +kernel
theorem dX7_sumsBy_11 : decode cX7_sumsBy 11 = .ok (.iload_n 1, 1) := by decide +kernel
end
section
theorem dX7_sumsBy_12 : decode cX7_sumsBy 12 = .ok (.goto 4, 3) := by decide +kernel
theorem dX7_sumsBy_15 : decode cX7_sumsBy 15 = .ok (.iconst 1, 1) := by decide +kernel
theorem dX7_sumsBy_16 : decode cX7_sumsBy 16 = .ok (.istore_n 2, 1) := by decide +kernel
theorem dX7_sumsBy_17 : decode cX7_sumsBy 17 = .ok (.aload_n 0, 1) := by decide +kernel
theorem dX7_sumsBy_18 : decode cX7_sumsBy 18 = .ok (.getfield 11, 3) := by decide +kernel
theorem dX7_sumsBy_21 : decode cX7_sumsBy 21 = .ok (.iload_n 2, 1) := by decide +kernel
theorem dX7_sumsBy_22 : decode cX7_sumsBy 22 = .ok (.aaload, 1) := by decide +kernel
theorem dX7_sumsBy_23 : decode cX7_sumsBy 23 = .ok (.astore_n 3, 1) := by decide +kernel
theorem dX7_sumsBy_24 : decode cX7_sumsBy 24 = .ok (.aload_n 3, 1) := by decide +kernel
theorem dX7_sumsBy_25 : decode cX7_sumsBy 25 = .ok (.ifnonnull 19, 3) := by decide +kernel
theorem dX7_sumsBy_28 : decode cX7_sumsBy 28 = .ok (.new 9, 3) := by decide +kernel
theorem dX7_sumsBy_31 : decode cX7_sumsBy 31 = .ok (.dup, 1) := by decide +kernel
theorem dX7_sumsBy_32 : decode cX7_sumsBy 32 = .ok (.iload_n 2, 1) := by decide +kernel
theorem dX7_sumsBy_33 : decode cX7_sumsBy 33 = .ok (.invokespecial 17, 3) := by decide +kernel
theorem dX7_sumsBy_36 : decode cX7_sumsBy 36 = .ok (.astore_n 3, 1) := by decide +kernel
theorem dX7_sumsBy_37 : decode cX7_sumsBy 37 = .ok (.aload_n 0, 1) := by decide +kernel
theorem dX7_sumsBy_38 : decode cX7_sumsBy 38 = .ok (.getfield 11, 3) := by decide +kernel
theorem dX7_sumsBy_41 : decode cX7_sumsBy 41 = .ok (.iload_n 2, 1) := by decide +kernel
theorem dX7_sumsBy_42 : decode cX7_sumsBy 42 = .ok (.aload_n 3, 1) := by decide +kernel
theorem dX7_sumsBy_43 : decode cX7_sumsBy 43 = .ok (.aastore, 1) := by decide +kernel
theorem dX7_sumsBy_44 : decode cX7_sumsBy 44 = .ok (.aload_n 3, 1) := by decide +kernel
theorem dX7_sumsBy_45 : decode cX7_sumsBy 45 = .ok (.areturn, 1) := by decide +kernel
set_option maxRecDepth 20000 in
theorem ggX7_isWon_X7_leastTaken : GoodIn wsX7_isWon wsX7_leastTaken := goodIn_r _ [5, 6, 7, 8, 4, 9, 10, 11, 12, 13, 14, 15, 16, 17, 18, 19, 20, 21, 22, 23, 24, 25, 26, 27, 28, 29, 30] (by decide +kernel) (by decide +kernel)
set_option maxRecDepth 20000 in
theorem gX7_isWon_X7_leastTaken : GoodIn wsX7_isWon (wsV RX7 20 RX7 yX7_leastTaken wsX7_leastTaken) := goodIn_app (goodIn_of _ (by decide +kernel)) ggX7_isWon_X7_leastTaken
theorem dX7_isWon_0 : decode cX7_isWon 0 = .ok (.aload_n 0, 1) := by decide +kernel
theorem dX7_isWon_1 : decode cX7_isWon 1 = .ok (.iload_n 1, 1) := by decide +kernel
theorem dX7_isWon_2 : decode cX7_isWon 2 = .ok (.lload_n 2, 1) := by decide +kernel
theorem dX7_isWon_3 : decode cX7_isWon 3 = .ok (.lload 4, 2) := by decide +kernel
theorem dX7_isWon_5 : decode cX7_isWon 5 = .ok (.invokevirtual 20, 3) := by decide +kernel
theorem dX7_isWon_8 : decode cX7_isWon 8 = .ok (.lconst 0, 1) := by decide +kernel
theorem dX7_isWon_9 : decode cX7_isWon 9 = .ok (.lcmp, 1) := by decide +kernel
theorem dX7_isWon_10 : decode cX7_isWon 10 = .ok (.ifCond .le 7, 3) := by decide +kernel
theorem dX7_isWon_13 : decode cX7_isWon 13 = .ok (.iconst 1, 1) := by decide +kernel
theorem dX7_isWon_14 : decode cX7_isWon 14 = .ok (.goto 4, 3) := by decide +kernel
theorem dX7_isWon_17 : decode cX7_isWon 17 = .ok (.iconst 0, 1) := by decide +kernel
theorem dX7_isWon_18 : decode cX7_isWon 18 = .ok (.ireturn, 1) := by decide +kernel
set_option maxRecDepth 20000 in
theorem ggX7_leastTaken_X7_sumsBy : GoodIn wsX7_leastTaken wsX7_sumsBy := goodIn_r _ [5, 6, 7, 8, 9, 10, 11, 12, 13, 14, 15, 16, 17, 18, 19, 24, 25, 26] (by decide +kernel) (by decide +kernel)
set_option maxRecDepth 20000 in
theorem gX7_leastTaken_X7_sumsBy : GoodIn wsX7_leastTaken (wsV RX7 24 RX7 yX7_sumsBy wsX7_sumsBy) := goodIn_app (goodIn_of _ (by decide +kernel)) ggX7_leastTaken_X7_sumsBy
set_option maxRecDepth 20000 in
theorem ggX7_leastTaken_X6_endOf : GoodIn wsX7_leastTaken wsX6_endOf := goodIn_r _ [23, 19, 17, 25, 26] (by decide +kernel) (by decide +kernel)
set_option maxRecDepth 20000 in
theorem gX7_leastTaken_X6_endOf : GoodIn wsX7_leastTaken (wsV RX7 28 RX6 yX6_endOf wsX6_endOf) := goodIn_app (goodIn_of _ (by decide +kernel)) ggX7_leastTaken_X6_endOf
theorem dX7_leastTaken_0 : decode cX7_leastTaken 0 = .ok (.aload_n 0, 1) := by decide +kernel
theorem dX7_leastTaken_1 : decode cX7_leastTaken 1 = .ok (.iload_n 1, 1) := by decide +kernel
theorem dX7_leastTaken_2 : decode cX7_leastTaken 2 = .ok (.invokevirtual 24, 3) := by decide +kernel
theorem dX7_leastTaken_5 : decode cX7_leastTaken 5 = .ok (.lload_n 2, 1) := by decide +kernel
theorem dX7_leastTaken_6 : decode cX7_leastTaken 6 = .ok (.invokevirtual 28, 3) := by decide +kernel
theorem dX7_leastTaken_9 : decode cX7_leastTaken 9 = .ok (.lstore 6, 2) := by decide +kernel
theorem dX7_leastTaken_11 : decode cX7_leastTaken 11 = .ok (.lload 6, 2) := by decide +kernel
theorem dX7_leastTaken_13 : decode cX7_leastTaken 13 = .ok (.lload 4, 2) := by decide +kernel
theorem dX7_leastTaken_15 : decode cX7_leastTaken 15 = .ok (.lcmp, 1) := by decide +kernel
theorem dX7_leastTaken_16 : decode cX7_leastTaken 16 = .ok (.ifCond .gt 8, 3) := by decide +kernel
theorem dX7_leastTaken_19 : decode cX7_leastTaken 19 = .ok (.lload 6, 2) := by decide +kernel
theorem dX7_leastTaken_21 : decode cX7_leastTaken 21 = .ok (.goto 4, 3) := by decide +kernel
theorem dX7_leastTaken_24 : decode cX7_leastTaken 24 = .ok (.lconst 0, 1) := by decide +kernel
theorem dX7_leastTaken_25 : decode cX7_leastTaken 25 = .ok (.lreturn, 1) := by decide +kernel
set_option maxRecDepth 20000 in
theorem ggX7_isWonByAll_X8_isWithin : GoodIn wsX7_isWonByAll wsX8_isWithin := goodIn_r _ [6] (by decide +kernel) (by decide +kernel)
set_option maxRecDepth 20000 in
theorem gX7_isWonByAll_X8_isWithin_n37 : GoodIn wsX7_isWonByAll (wsX8_isWithin) := ggX7_isWonByAll_X8_isWithin
theorem dX7_isWonByAll_0 : decode cX7_isWonByAll 0 = .ok (.bipush 61, 2) := by decide +kernel
theorem dX7_isWonByAll_2 : decode cX7_isWonByAll 2 = .ok (.newarray .int, 2) := by decide +kernel
theorem dX7_isWonByAll_4 : decode cX7_isWonByAll 4 = .ok (.astore_n 3, 1) := by decide +kernel
theorem dX7_isWonByAll_5 : decode cX7_isWonByAll 5 = .ok (.aload_n 3, 1) := by decide +kernel
theorem dX7_isWonByAll_6 : decode cX7_isWonByAll 6 = .ok (.iconst 0, 1) := by decide +kernel
theorem dX7_isWonByAll_7 : decode cX7_isWonByAll 7 = .ok (.ldc 34, 2) := by decide +kernel
theorem dX7_isWonByAll_9 : decode cX7_isWonByAll 9 = .ok (.iastore, 1) := by decide +kernel
theorem dX7_isWonByAll_10 : decode cX7_isWonByAll 10 = .ok (.iconst 1, 1) := by decide +kernel
theorem dX7_isWonByAll_11 : decode cX7_isWonByAll 11 = .ok (.istore 4, 2) := by decide +kernel
theorem dX7_isWonByAll_13 : decode cX7_isWonByAll 13 = .ok (.iload 4, 2) := by decide +kernel
theorem dX7_isWonByAll_15 : decode cX7_isWonByAll 15 = .ok (.iload_n 1, 1) := by decide +kernel
theorem dX7_isWonByAll_16 : decode cX7_isWonByAll 16 = .ok (.if_icmp .gt 52, 3) := by decide +kernel
theorem dX7_isWonByAll_19 : decode cX7_isWonByAll 19 = .ok (.iload 4, 2) := by decide +kernel
theorem dX7_isWonByAll_21 : decode cX7_isWonByAll 21 = .ok (.bipush 60, 2) := by decide +kernel
theorem dX7_isWonByAll_23 : decode cX7_isWonByAll 23 = .ok (.if_icmp .gt 45, 3) := by decide +kernel
theorem dX7_isWonByAll_26 : decode cX7_isWonByAll 26 = .ok (.iconst 1, 1) := by decide +kernel
theorem dX7_isWonByAll_27 : decode cX7_isWonByAll 27 = .ok (.istore 5, 2) := by decide +kernel
theorem dX7_isWonByAll_29 : decode cX7_isWonByAll 29 = .ok (.iload 5, 2) := by decide +kernel
theorem dX7_isWonByAll_31 : decode cX7_isWonByAll 31 = .ok (.iload 4, 2) := by decide +kernel
theorem dX7_isWonByAll_33 : decode cX7_isWonByAll 33 = .ok (.if_icmp .ge 23, 3) := by decide +kernel
theorem dX7_isWonByAll_36 : decode cX7_isWonByAll 36 = .ok (.aload_n 3, 1) := by decide +kernel
theorem dX7_isWonByAll_37 : decode cX7_isWonByAll 37 = .ok (.iload 4, 2) := by decide +kernel
theorem dX7_isWonByAll_39 : decode cX7_isWonByAll 39 = .ok (.iload 5, 2) := by decide +kernel
theorem dX7_isWonByAll_41 : decode cX7_isWonByAll 41 = .ok (.isub, 1) := by decide +kernel
theorem dX7_isWonByAll_42 : decode cX7_isWonByAll 42 = .ok (.iaload, 1) := by decide +kernel
theorem dX7_isWonByAll_43 : decode cX7_isWonByAll 43 = .ok (.iload_n 0, 1) := by decide +kernel
theorem dX7_isWonByAll_44 : decode cX7_isWonByAll 44 = .ok (.iload 5, 2) := by decide +kernel
theorem dX7_isWonByAll_46 : decode cX7_isWonByAll 46 = .ok (.imul, 1) := by decide +kernel
theorem dX7_isWonByAll_47 : decode cX7_isWonByAll 47 = .ok (.if_icmp .gt 9, 3) := by decide +kernel
theorem dX7_isWonByAll_50 : decode cX7_isWonByAll 50 = .ok (.iinc 5 1, 3) := by decide +kernel
theorem dX7_isWonByAll_53 : decode cX7_isWonByAll 53 = .ok (.goto (-24), 3) := by decide +kernel
theorem dX7_isWonByAll_56 : decode cX7_isWonByAll 56 = .ok (.aload_n 3, 1) := by decide +kernel
theorem dX7_isWonByAll_57 : decode cX7_isWonByAll 57 = .ok (.iload 4, 2) := by decide +kernel
theorem dX7_isWonByAll_59 : decode cX7_isWonByAll 59 = .ok (.iload 5, 2) := by decide +kernel
theorem dX7_isWonByAll_61 : decode cX7_isWonByAll 61 = .ok (.iastore, 1) := by decide +kernel
theorem dX7_isWonByAll_62 : decode cX7_isWonByAll 62 = .ok (.iinc 4 1, 3) := by decide +kernel
theorem dX7_isWonByAll_65 : decode cX7_isWonByAll 65 = .ok (.goto (-52), 3) := by decide +kernel
theorem dX7_isWonByAll_68 : decode cX7_isWonByAll 68 = .ok (.iload_n 1, 1) := by decide +kernel
theorem dX7_isWonByAll_69 : decode cX7_isWonByAll 69 = .ok (.i2l, 1) := by decide +kernel
theorem dX7_isWonByAll_70 : decode cX7_isWonByAll 70 = .ok (.lconst 0, 1) := by decide +kernel
theorem dX7_isWonByAll_71 : decode cX7_isWonByAll 71 = .ok (.ldc2_w 35, 3) := by decide +kernel
theorem dX7_isWonByAll_74 : decode cX7_isWonByAll 74 = .ok (.invokestatic 37, 3) := by decide +kernel
theorem dX7_isWonByAll_77 : decode cX7_isWonByAll 77 = .ok (.ifCond .eq 14, 3) := by decide +kernel
theorem dX7_isWonByAll_80 : decode cX7_isWonByAll 80 = .ok (.iload_n 2, 1) := by decide +kernel
theorem dX7_isWonByAll_81 : decode cX7_isWonByAll 81 = .ok (.aload_n 3, 1) := by decide +kernel
theorem dX7_isWonByAll_82 : decode cX7_isWonByAll 82 = .ok (.iload_n 1, 1) := by decide +kernel
theorem dX7_isWonByAll_83 : decode cX7_isWonByAll 83 = .ok (.iaload, 1) := by decide +kernel
theorem dX7_isWonByAll_84 : decode cX7_isWonByAll 84 = .ok (.if_icmp .lt 7, 3) := by decide +kernel
theorem dX7_isWonByAll_87 : decode cX7_isWonByAll 87 = .ok (.iconst 1, 1) := by decide +kernel
theorem dX7_isWonByAll_88 : decode cX7_isWonByAll 88 = .ok (.goto 4, 3) := by decide +kernel
theorem dX7_isWonByAll_91 : decode cX7_isWonByAll 91 = .ok (.iconst 0, 1) := by decide +kernel
theorem dX7_isWonByAll_92 : decode cX7_isWonByAll 92 = .ok (.ireturn, 1) := by decide +kernel
set_option maxRecDepth 20000 in
theorem ggX8_init_X2_init : GoodIn wsX8_init wsX2_init := goodIn_r _ [14, 15, 2, 3, 16, 17, 18, 19, 20, 21, 22, 23, 24, 25, 26, 27, 28, 29, 30, 31, 32, 33, 34, 35, 36, 37, 38, 39, 40, 41, 42, 43, 44, 45, 46, 47, 48, 49, 50, 51, 52, 53, 54, 55, 56, 57, 58, 59, 60, 61, 62, 63, 64, 65, 66, 67, 80, 81, 82, 83, 84, 96, 97, 98, 99, 100, 101] (by decide +kernel) (by decide +kernel)
set_option maxRecDepth 20000 in
theorem gX8_init_X2_init : GoodIn wsX8_init (wsX2_init) := ggX8_init_X2_init
set_option maxRecDepth 20000 in
theorem ggX8_init_X4_init : GoodIn wsX8_init wsX4_init := goodIn_r _ [70, 71, 2, 3, 49, 72, 73, 74, 75, 76, 77, 78, 79, 87, 88, 89, 90, 91, 92, 93, 94, 95] (by decide +kernel) (by decide +kernel)
set_option maxRecDepth 20000 in
theorem gX8_init_X4_init : GoodIn wsX8_init (wsX4_init) := ggX8_init_X4_init
theorem dX8_init_0 : decode cX8_init 0 = .ok (.aload_n 0, 1) := by decide +kernel
theorem dX8_init_1 : decode cX8_init 1 = .ok (.invokespecial 1, 3) := by decide +kernel
theorem dX8_init_4 : decode cX8_init 4 = .ok (.aload_n 0, 1) := by decide +kernel
theorem dX8_init_5 : decode cX8_init 5 = .ok (.new 7, 3) := by decide +kernel
theorem dX8_init_8 : decode cX8_init 8 = .ok (.dup, 1) := by decide +kernel
theorem dX8_init_9 : decode cX8_init 9 = .ok (.invokespecial 9, 3) := by decide +kernel
theorem dX8_init_12 : decode cX8_init 12 = .ok (.putfield 10, 3) := by decide +kernel
theorem dX8_init_15 : decode cX8_init 15 = .ok (.aload_n 0, 1) := by decide +kernel
theorem dX8_init_16 : decode cX8_init 16 = .ok (.new 16, 3) := by decide +kernel
theorem dX8_init_19 : decode cX8_init 19 = .ok (.dup, 1) := by decide +kernel
theorem dX8_init_20 : decode cX8_init 20 = .ok (.aload_n 0, 1) := by decide +kernel
theorem dX8_init_21 : decode cX8_init 21 = .ok (.getfield 10, 3) := by decide +kernel
theorem dX8_init_24 : decode cX8_init 24 = .ok (.invokespecial 18, 3) := by decide +kernel
theorem dX8_init_27 : decode cX8_init 27 = .ok (.putfield 21, 3) := by decide +kernel
theorem dX8_init_30 : decode cX8_init 30 = .ok (.return_, 1) := by decide +kernel
set_option maxRecDepth 20000 in
theorem ggX8_shares_X8_isHeap : GoodIn wsX8_shares wsX8_isHeap := goodIn_r _ [5, 6, 7, 8, 4, 9] (by decide +kernel) (by decide +kernel)
set_option maxRecDepth 20000 in
theorem gX8_shares_X8_isHeap : GoodIn wsX8_shares (va_wsS RX8 25 yX8_isHeap wsX8_isHeap) := goodIn_app (goodIn_of _ (by decide +kernel)) ggX8_shares_X8_isHeap
set_option maxRecDepth 20000 in
theorem ggX8_shares_X5_isWon : GoodIn wsX8_shares wsX5_isWon := goodIn_r _ [14, 15, 16, 17, 18, 19, 20, 21, 22, 23, 24, 25, 26, 27, 28, 29, 30, 31, 32, 33, 34, 35, 46, 47, 48, 49] (by decide +kernel) (by decide +kernel)
set_option maxRecDepth 20000 in
theorem gX8_shares_X5_isWon : GoodIn wsX8_shares (wsV RX8 33 RX5 yX5_isWon wsX5_isWon) := goodIn_app (goodIn_of _ (by decide +kernel)) ggX8_shares_X5_isWon
set_option maxRecDepth 20000 in
theorem ggX8_shares_X8_oneIf : GoodIn wsX8_shares wsX8_oneIf := goodIn_r _ [38] (by decide +kernel) (by decide +kernel)
set_option maxRecDepth 20000 in
theorem gX8_shares_X8_oneIf : GoodIn wsX8_shares (va_wsS RX8 39 yX8_oneIf wsX8_oneIf) := goodIn_app (goodIn_of _ (by decide +kernel)) ggX8_shares_X8_oneIf
theorem dX8_shares_0 : decode cX8_shares 0 = .ok (.lload_n 1, 1) := by decide +kernel
theorem dX8_shares_1 : decode cX8_shares 1 = .ok (.invokestatic 25, 3) := by decide +kernel
theorem dX8_shares_4 : decode cX8_shares 4 = .ok (.ifCond .eq 10, 3) := by decide +kernel
theorem dX8_shares_7 : decode cX8_shares 7 = .ok (.lload_n 3, 1) := by decide +kernel
theorem dX8_shares_8 : decode cX8_shares 8 = .ok (.invokestatic 25, 3) := by decide +kernel
theorem dX8_shares_11 : decode cX8_shares 11 = .ok (.ifCond .ne 6, 3) := by decide +kernel
theorem dX8_shares_14 : decode cX8_shares 14 = .ok (.bipush (-2), 2) := by decide +kernel
theorem dX8_shares_16 : decode cX8_shares 16 = .ok (.ireturn, 1) := by decide +kernel
theorem dX8_shares_17 : decode cX8_shares 17 = .ok (.aload_n 0, 1) := by decide +kernel
theorem dX8_shares_18 : decode cX8_shares 18 = .ok (.getfield 10, 3) := by decide +kernel
theorem dX8_shares_21 : decode cX8_shares 21 = .ok (.getfield 29, 3) := by decide +kernel
theorem dX8_shares_24 : decode cX8_shares 24 = .ok (.lload_n 1, 1) := by decide +kernel
theorem dX8_shares_25 : decode cX8_shares 25 = .ok (.lload_n 3, 1) := by decide +kernel
theorem dX8_shares_26 : decode cX8_shares 26 = .ok (.invokevirtual 33, 3) := by decide +kernel
theorem dX8_shares_29 : decode cX8_shares 29 = .ok (.invokestatic 39, 3) := by decide +kernel
theorem dX8_shares_32 : decode cX8_shares 32 = .ok (.ireturn, 1) := by decide +kernel
set_option maxRecDepth 20000 in
theorem ggX8_sharesMove_X8_isHeap : GoodIn wsX8_sharesMove wsX8_isHeap := goodIn_r _ [6, 7, 8, 9, 5, 10] (by decide +kernel) (by decide +kernel)
set_option maxRecDepth 20000 in
theorem gX8_sharesMove_X8_isHeap : GoodIn wsX8_sharesMove (va_wsS RX8 25 yX8_isHeap wsX8_isHeap) := goodIn_app (goodIn_of _ (by decide +kernel)) ggX8_sharesMove_X8_isHeap
set_option maxRecDepth 20000 in
theorem ggX8_sharesMove_X5_leastTimes : GoodIn wsX8_sharesMove wsX5_leastTimes := goodIn_r _ [15, 16, 17, 18, 19, 20, 21, 22, 23, 24, 25, 14, 26, 27, 28, 29, 30, 31, 32, 33, 34, 35, 36, 37, 38, 39, 40, 48, 49, 50, 51] (by decide +kernel) (by decide +kernel)
set_option maxRecDepth 20000 in
theorem gX8_sharesMove_X5_leastTimes : GoodIn wsX8_sharesMove (wsV RX8 45 RX5 yX5_leastTimes wsX5_leastTimes) := goodIn_app (goodIn_of _ (by decide +kernel)) ggX8_sharesMove_X5_leastTimes
theorem dX8_sharesMove_0 : decode cX8_sharesMove 0 = .ok (.lload_n 1, 1) := by decide +kernel
theorem dX8_sharesMove_1 : decode cX8_sharesMove 1 = .ok (.invokestatic 25, 3) := by decide +kernel
theorem dX8_sharesMove_4 : decode cX8_sharesMove 4 = .ok (.ifCond .eq 10, 3) := by decide +kernel
theorem dX8_sharesMove_7 : decode cX8_sharesMove 7 = .ok (.lload_n 3, 1) := by decide +kernel
theorem dX8_sharesMove_8 : decode cX8_sharesMove 8 = .ok (.invokestatic 25, 3) := by decide +kernel
theorem dX8_sharesMove_11 : decode cX8_sharesMove 11 = .ok (.ifCond .ne 7, 3) := by decide +kernel
theorem dX8_sharesMove_14 : decode cX8_sharesMove 14 = .ok (.ldc2_w 43, 3) := by decide +kernel
theorem dX8_sharesMove_17 : decode cX8_sharesMove 17 = .ok (.lreturn, 1) := by decide +kernel
theorem dX8_sharesMove_18 : decode cX8_sharesMove 18 = .ok (.aload_n 0, 1) := by decide +kernel
theorem dX8_sharesMove_19 : decode cX8_sharesMove 19 = .ok (.getfield 10, 3) := by decide +kernel
theorem dX8_sharesMove_22 : decode cX8_sharesMove 22 = .ok (.getfield 29, 3) := by decide +kernel
theorem dX8_sharesMove_25 : decode cX8_sharesMove 25 = .ok (.lload_n 1, 1) := by decide +kernel
theorem dX8_sharesMove_26 : decode cX8_sharesMove 26 = .ok (.lload_n 3, 1) := by decide +kernel
theorem dX8_sharesMove_27 : decode cX8_sharesMove 27 = .ok (.invokevirtual 45, 3) := by decide +kernel
theorem dX8_sharesMove_30 : decode cX8_sharesMove 30 = .ok (.lreturn, 1) := by decide +kernel
set_option maxRecDepth 20000 in
theorem ggX8_both_X8_isHeap : GoodIn wsX8_both wsX8_isHeap := goodIn_r _ [5, 6, 7, 8, 4, 9] (by decide +kernel) (by decide +kernel)
set_option maxRecDepth 20000 in
theorem gX8_both_X8_isHeap : GoodIn wsX8_both (va_wsS RX8 25 yX8_isHeap wsX8_isHeap) := goodIn_app (goodIn_of _ (by decide +kernel)) ggX8_both_X8_isHeap
set_option maxRecDepth 20000 in
theorem ggX8_both_X0_isWon : GoodIn wsX8_both wsX0_isWon := goodIn_r _ [14, 15, 16, 17, 18, 19, 20, 21, 13, 22, 23, 24, 25, 26, 27, 28, 29, 30, 31, 32, 33, 34, 35, 36, 37, 38, 39, 50, 51, 52, 53] (by decide +kernel) (by decide +kernel)
set_option maxRecDepth 20000 in
theorem gX8_both_X0_isWon : GoodIn wsX8_both (wsV RX8 53 RX0 yX0_isWon wsX0_isWon) := goodIn_app (goodIn_of _ (by decide +kernel)) ggX8_both_X0_isWon
set_option maxRecDepth 20000 in
theorem ggX8_both_X8_oneIf : GoodIn wsX8_both wsX8_oneIf := goodIn_r _ [42] (by decide +kernel) (by decide +kernel)
set_option maxRecDepth 20000 in
theorem gX8_both_X8_oneIf : GoodIn wsX8_both (va_wsS RX8 39 yX8_oneIf wsX8_oneIf) := goodIn_app (goodIn_of _ (by decide +kernel)) ggX8_both_X8_oneIf
theorem dX8_both_0 : decode cX8_both 0 = .ok (.lload_n 1, 1) := by decide +kernel
theorem dX8_both_1 : decode cX8_both 1 = .ok (.invokestatic 25, 3) := by decide +kernel
theorem dX8_both_4 : decode cX8_both 4 = .ok (.ifCond .eq 10, 3) := by decide +kernel
theorem dX8_both_7 : decode cX8_both 7 = .ok (.lload_n 3, 1) := by decide +kernel
theorem dX8_both_8 : decode cX8_both 8 = .ok (.invokestatic 25, 3) := by decide +kernel
theorem dX8_both_11 : decode cX8_both 11 = .ok (.ifCond .ne 6, 3) := by decide +kernel
theorem dX8_both_14 : decode cX8_both 14 = .ok (.bipush (-2), 2) := by decide +kernel
theorem dX8_both_16 : decode cX8_both 16 = .ok (.ireturn, 1) := by decide +kernel
theorem dX8_both_17 : decode cX8_both 17 = .ok (.aload_n 0, 1) := by decide +kernel
theorem dX8_both_18 : decode cX8_both 18 = .ok (.getfield 10, 3) := by decide +kernel
theorem dX8_both_21 : decode cX8_both 21 = .ok (.getfield 49, 3) := by decide +kernel
theorem dX8_both_24 : decode cX8_both 24 = .ok (.lload_n 1, 1) := by decide +kernel
theorem dX8_both_25 : decode cX8_both 25 = .ok (.lload_n 3, 1) := by decide +kernel
theorem dX8_both_26 : decode cX8_both 26 = .ok (.invokevirtual 53, 3) := by decide +kernel
theorem dX8_both_29 : decode cX8_both 29 = .ok (.invokestatic 39, 3) := by decide +kernel
theorem dX8_both_32 : decode cX8_both 32 = .ok (.ireturn, 1) := by decide +kernel
set_option maxRecDepth 20000 in
theorem ggX8_bothMove_X8_isHeap : GoodIn wsX8_bothMove wsX8_isHeap := goodIn_r _ [6, 7, 8, 9, 5, 10] (by decide +kernel) (by decide +kernel)
set_option maxRecDepth 20000 in
theorem gX8_bothMove_X8_isHeap : GoodIn wsX8_bothMove (va_wsS RX8 25 yX8_isHeap wsX8_isHeap) := goodIn_app (goodIn_of _ (by decide +kernel)) ggX8_bothMove_X8_isHeap
set_option maxRecDepth 20000 in
theorem ggX8_bothMove_X8_isWithin : GoodIn wsX8_bothMove wsX8_isWithin := goodIn_r _ [10] (by decide +kernel) (by decide +kernel)
set_option maxRecDepth 20000 in
theorem gX8_bothMove_X8_isWithin : GoodIn wsX8_bothMove (va_wsS RX8 56 yX8_isWithin wsX8_isWithin) := goodIn_app (goodIn_of _ (by decide +kernel)) ggX8_bothMove_X8_isWithin
set_option maxRecDepth 20000 in
theorem ggX8_bothMove_X0_whichWins : GoodIn wsX8_bothMove wsX0_whichWins := goodIn_r _ [15, 16, 17, 18, 19, 20, 21, 22, 23, 24, 25, 26, 27, 28, 29, 30, 31, 32, 33, 34, 35, 36, 37, 38, 39, 40, 41, 42, 43, 44, 45, 46, 47, 48, 14, 49, 50, 51, 52, 53, 65, 66, 67, 68] (by decide +kernel) (by decide +kernel)
set_option maxRecDepth 20000 in
theorem gX8_bothMove_X0_whichWins : GoodIn wsX8_bothMove (wsV RX8 60 RX0 yX0_whichWins wsX0_whichWins) := goodIn_app (goodIn_of _ (by decide +kernel)) ggX8_bothMove_X0_whichWins
set_option maxRecDepth 20000 in
theorem ggX8_bothMove_X0_howMany : GoodIn wsX8_bothMove wsX0_howMany := goodIn_r _ [57, 16, 17, 18, 19, 20, 21, 22, 23, 24, 25, 26, 27, 28, 29, 30, 31, 32, 33, 34, 35, 36, 37, 38, 39, 40, 41, 42, 43, 44, 45, 46, 47, 48, 14, 49, 50, 51, 52, 53, 65, 66, 67, 68] (by decide +kernel) (by decide +kernel)
set_option maxRecDepth 20000 in
theorem gX8_bothMove_X0_howMany : GoodIn wsX8_bothMove (wsV RX8 64 RX0 yX0_howMany wsX0_howMany) := goodIn_app (goodIn_of _ (by decide +kernel)) ggX8_bothMove_X0_howMany
theorem dX8_bothMove_0 : decode cX8_bothMove 0 = .ok (.lload_n 1, 1) := by decide +kernel
theorem dX8_bothMove_1 : decode cX8_bothMove 1 = .ok (.invokestatic 25, 3) := by decide +kernel
theorem dX8_bothMove_4 : decode cX8_bothMove 4 = .ok (.ifCond .eq 21, 3) := by decide +kernel
theorem dX8_bothMove_7 : decode cX8_bothMove 7 = .ok (.lload_n 3, 1) := by decide +kernel
theorem dX8_bothMove_8 : decode cX8_bothMove 8 = .ok (.invokestatic 25, 3) := by decide +kernel
theorem dX8_bothMove_11 : decode cX8_bothMove 11 = .ok (.ifCond .eq 14, 3) := by decide +kernel
theorem dX8_bothMove_14 : decode cX8_bothMove 14 = .ok (.iload 5, 2) := by decide +kernel
theorem dX8_bothMove_16 : decode cX8_bothMove 16 = .ok (.i2l, 1) := by decide +kernel
theorem dX8_bothMove_17 : decode cX8_bothMove 17 = .ok (.lconst 0, 1) := by decide +kernel
theorem dX8_bothMove_18 : decode cX8_bothMove 18 = .ok (.lconst 1, 1) := by decide +kernel
theorem dX8_bothMove_19 : decode cX8_bothMove 19 = .ok (.invokestatic 56, 3) := by decide +kernel
theorem dX8_bothMove_22 : decode cX8_bothMove 22 = .ok (.ifCond .ne 7, 3) := by decide +kernel
theorem dX8_bothMove_25 : decode cX8_bothMove 25 = .ok (.ldc2_w 43, 3) := by decide +kernel
theorem dX8_bothMove_28 : decode cX8_bothMove 28 = .ok (.lreturn, 1) := by decide +kernel
theorem dX8_bothMove_29 : decode cX8_bothMove 29 = .ok (.aload_n 0, 1) := by decide +kernel
theorem dX8_bothMove_30 : decode cX8_bothMove 30 = .ok (.getfield 10, 3) := by decide +kernel
theorem dX8_bothMove_33 : decode cX8_bothMove 33 = .ok (.getfield 49, 3) := by decide +kernel
theorem dX8_bothMove_36 : decode cX8_bothMove 36 = .ok (.lload_n 1, 1) := by decide +kernel
theorem dX8_bothMove_37 : decode cX8_bothMove 37 = .ok (.lload_n 3, 1) := by decide +kernel
theorem dX8_bothMove_38 : decode cX8_bothMove 38 = .ok (.invokevirtual 60, 3) := by decide +kernel
theorem dX8_bothMove_41 : decode cX8_bothMove 41 = .ok (.istore 6, 2) := by decide +kernel
theorem dX8_bothMove_43 : decode cX8_bothMove 43 = .ok (.iload 5, 2) := by decide +kernel
theorem dX8_bothMove_45 : decode cX8_bothMove 45 = .ok (.ifCond .ne 9, 3) := by decide +kernel
theorem dX8_bothMove_48 : decode cX8_bothMove 48 = .ok (.iload 6, 2) := by decide +kernel
theorem dX8_bothMove_50 : decode cX8_bothMove 50 = .ok (.i2l, 1) := by decide +kernel
theorem dX8_bothMove_51 : decode cX8_bothMove 51 = .ok (.goto 17, 3) := by decide +kernel
theorem dX8_bothMove_54 : decode cX8_bothMove 54 = .ok (.aload_n 0, 1) := by decide +kernel
theorem dX8_bothMove_55 : decode cX8_bothMove 55 = .ok (.getfield 10, 3) := by decide +kernel
theorem dX8_bothMove_58 : decode cX8_bothMove 58 = .ok (.getfield 49, 3) := by decide +kernel
theorem dX8_bothMove_61 : decode cX8_bothMove 61 = .ok (.lload_n 1, 1) := by decide +kernel
theorem dX8_bothMove_62 : decode cX8_bothMove 62 = .ok (.lload_n 3, 1) := by decide +kernel
theorem dX8_bothMove_63 : decode cX8_bothMove 63 = .ok (.iload 6, 2) := by decide +kernel
theorem dX8_bothMove_65 : decode cX8_bothMove 65 = .ok (.invokevirtual 64, 3) := by decide +kernel
theorem dX8_bothMove_68 : decode cX8_bothMove 68 = .ok (.lreturn, 1) := by decide +kernel
set_option maxRecDepth 20000 in
theorem ggX8_lost_X8_isWithin : GoodIn wsX8_lost wsX8_isWithin := goodIn_r _ [7] (by decide +kernel) (by decide +kernel)
set_option maxRecDepth 20000 in
theorem gX8_lost_X8_isWithin : GoodIn wsX8_lost (va_wsS RX8 56 yX8_isWithin wsX8_isWithin) := goodIn_app (goodIn_of _ (by decide +kernel)) ggX8_lost_X8_isWithin
set_option maxRecDepth 20000 in
theorem ggX8_lost_X1_cut : GoodIn wsX8_lost wsX1_cut := goodIn_r _ [12, 13, 14, 15, 16, 17, 18, 19, 20, 28, 29, 30] (by decide +kernel) (by decide +kernel)
set_option maxRecDepth 20000 in
theorem gX8_lost_X1_cut : GoodIn wsX8_lost (wsV RX8 74 RX1 yX1_cut wsX1_cut) := goodIn_app (goodIn_of _ (by decide +kernel)) ggX8_lost_X1_cut
theorem dX8_lost_0 : decode cX8_lost 0 = .ok (.lload_n 1, 1) := by decide +kernel
theorem dX8_lost_1 : decode cX8_lost 1 = .ok (.lconst 0, 1) := by decide +kernel
theorem dX8_lost_2 : decode cX8_lost 2 = .ok (.ldc2_w 68, 3) := by decide +kernel
theorem dX8_lost_5 : decode cX8_lost 5 = .ok (.invokestatic 56, 3) := by decide +kernel
theorem dX8_lost_8 : decode cX8_lost 8 = .ok (.ifCond .eq 13, 3) := by decide +kernel
theorem dX8_lost_11 : decode cX8_lost 11 = .ok (.iload_n 3, 1) := by decide +kernel
theorem dX8_lost_12 : decode cX8_lost 12 = .ok (.i2l, 1) := by decide +kernel
theorem dX8_lost_13 : decode cX8_lost 13 = .ok (.lconst 0, 1) := by decide +kernel
theorem dX8_lost_14 : decode cX8_lost 14 = .ok (.lconst 1, 1) := by decide +kernel
theorem dX8_lost_15 : decode cX8_lost 15 = .ok (.invokestatic 56, 3) := by decide +kernel
theorem dX8_lost_18 : decode cX8_lost 18 = .ok (.ifCond .ne 7, 3) := by decide +kernel
theorem dX8_lost_21 : decode cX8_lost 21 = .ok (.ldc2_w 43, 3) := by decide +kernel
theorem dX8_lost_24 : decode cX8_lost 24 = .ok (.lreturn, 1) := by decide +kernel
theorem dX8_lost_25 : decode cX8_lost 25 = .ok (.aload_n 0, 1) := by decide +kernel
theorem dX8_lost_26 : decode cX8_lost 26 = .ok (.getfield 10, 3) := by decide +kernel
theorem dX8_lost_29 : decode cX8_lost 29 = .ok (.getfield 70, 3) := by decide +kernel
theorem dX8_lost_32 : decode cX8_lost 32 = .ok (.lload_n 1, 1) := by decide +kernel
theorem dX8_lost_33 : decode cX8_lost 33 = .ok (.invokevirtual 74, 3) := by decide +kernel
theorem dX8_lost_36 : decode cX8_lost 36 = .ok (.lstore 4, 2) := by decide +kernel
theorem dX8_lost_38 : decode cX8_lost 38 = .ok (.iload_n 3, 1) := by decide +kernel
theorem dX8_lost_39 : decode cX8_lost 39 = .ok (.ifCond .ne 8, 3) := by decide +kernel
theorem dX8_lost_42 : decode cX8_lost 42 = .ok (.lload 4, 2) := by decide +kernel
theorem dX8_lost_44 : decode cX8_lost 44 = .ok (.goto 7, 3) := by decide +kernel
theorem dX8_lost_47 : decode cX8_lost 47 = .ok (.lload 4, 2) := by decide +kernel
theorem dX8_lost_49 : decode cX8_lost 49 = .ok (.lload_n 1, 1) := by decide +kernel
theorem dX8_lost_50 : decode cX8_lost 50 = .ok (.ladd, 1) := by decide +kernel
theorem dX8_lost_51 : decode cX8_lost 51 = .ok (.lreturn, 1) := by decide +kernel
set_option maxRecDepth 20000 in
theorem ggX8_lostOf_X8_isHeap : GoodIn wsX8_lostOf wsX8_isHeap := goodIn_r _ [6, 7, 8, 9, 5, 10] (by decide +kernel) (by decide +kernel)
set_option maxRecDepth 20000 in
theorem gX8_lostOf_X8_isHeap : GoodIn wsX8_lostOf (va_wsS RX8 25 yX8_isHeap wsX8_isHeap) := goodIn_app (goodIn_of _ (by decide +kernel)) ggX8_lostOf_X8_isHeap
set_option maxRecDepth 20000 in
theorem ggX8_lostOf_X8_isWithin : GoodIn wsX8_lostOf wsX8_isWithin := goodIn_r _ [10] (by decide +kernel) (by decide +kernel)
set_option maxRecDepth 20000 in
theorem gX8_lostOf_X8_isWithin : GoodIn wsX8_lostOf (va_wsS RX8 56 yX8_isWithin wsX8_isWithin) := goodIn_app (goodIn_of _ (by decide +kernel)) ggX8_lostOf_X8_isWithin
set_option maxRecDepth 20000 in
theorem ggX8_lostOf_X1_indexOf : GoodIn wsX8_lostOf wsX1_indexOf := goodIn_r _ [15, 16, 17, 18, 19, 14, 20, 21, 22, 23, 24, 25, 26, 27, 28, 29, 30, 31, 32, 33, 34, 35, 36, 48, 49, 50] (by decide +kernel) (by decide +kernel)
set_option maxRecDepth 20000 in
theorem gX8_lostOf_X1_indexOf : GoodIn wsX8_lostOf (wsV RX8 80 RX1 yX1_indexOf wsX1_indexOf) := goodIn_app (goodIn_of _ (by decide +kernel)) ggX8_lostOf_X1_indexOf
set_option maxRecDepth 20000 in
theorem ggX8_lostOf_X1_isLesser : GoodIn wsX8_lostOf wsX1_isLesser := goodIn_r _ [20, 21, 22, 23, 14, 24, 25, 26, 27, 28, 29, 30, 31, 32, 33, 34, 35, 36, 48, 49, 50] (by decide +kernel) (by decide +kernel)
set_option maxRecDepth 20000 in
theorem gX8_lostOf_X1_isLesser : GoodIn wsX8_lostOf (wsV RX8 83 RX1 yX1_isLesser wsX1_isLesser) := goodIn_app (goodIn_of _ (by decide +kernel)) ggX8_lostOf_X1_isLesser
set_option maxRecDepth 20000 in
theorem ggX8_lostOf_X8_oneIf : GoodIn wsX8_lostOf wsX8_oneIf := goodIn_r _ [40] (by decide +kernel) (by decide +kernel)
set_option maxRecDepth 20000 in
theorem gX8_lostOf_X8_oneIf : GoodIn wsX8_lostOf (va_wsS RX8 39 yX8_oneIf wsX8_oneIf) := goodIn_app (goodIn_of _ (by decide +kernel)) ggX8_lostOf_X8_oneIf
theorem dX8_lostOf_0 : decode cX8_lostOf 0 = .ok (.lload_n 1, 1) := by decide +kernel
theorem dX8_lostOf_1 : decode cX8_lostOf 1 = .ok (.invokestatic 25, 3) := by decide +kernel
theorem dX8_lostOf_4 : decode cX8_lostOf 4 = .ok (.ifCond .eq 13, 3) := by decide +kernel
theorem dX8_lostOf_7 : decode cX8_lostOf 7 = .ok (.iload_n 3, 1) := by decide +kernel
theorem dX8_lostOf_8 : decode cX8_lostOf 8 = .ok (.i2l, 1) := by decide +kernel
theorem dX8_lostOf_9 : decode cX8_lostOf 9 = .ok (.lconst 0, 1) := by decide +kernel
theorem dX8_lostOf_10 : decode cX8_lostOf 10 = .ok (.lconst 1, 1) := by decide +kernel
theorem dX8_lostOf_11 : decode cX8_lostOf 11 = .ok (.invokestatic 56, 3) := by decide +kernel
theorem dX8_lostOf_14 : decode cX8_lostOf 14 = .ok (.ifCond .ne 7, 3) := by decide +kernel
theorem dX8_lostOf_17 : decode cX8_lostOf 17 = .ok (.ldc2_w 43, 3) := by decide +kernel
theorem dX8_lostOf_20 : decode cX8_lostOf 20 = .ok (.lreturn, 1) := by decide +kernel
theorem dX8_lostOf_21 : decode cX8_lostOf 21 = .ok (.iload_n 3, 1) := by decide +kernel
theorem dX8_lostOf_22 : decode cX8_lostOf 22 = .ok (.ifCond .ne 17, 3) := by decide +kernel
theorem dX8_lostOf_25 : decode cX8_lostOf 25 = .ok (.aload_n 0, 1) := by decide +kernel
theorem dX8_lostOf_26 : decode cX8_lostOf 26 = .ok (.getfield 10, 3) := by decide +kernel
theorem dX8_lostOf_29 : decode cX8_lostOf 29 = .ok (.getfield 70, 3) := by decide +kernel
theorem dX8_lostOf_32 : decode cX8_lostOf 32 = .ok (.lload_n 1, 1) := by decide +kernel
theorem dX8_lostOf_33 : decode cX8_lostOf 33 = .ok (.invokevirtual 80, 3) := by decide +kernel
theorem dX8_lostOf_36 : decode cX8_lostOf 36 = .ok (.goto 18, 3) := by decide +kernel
theorem dX8_lostOf_39 : decode cX8_lostOf 39 = .ok (.aload_n 0, 1) := by decide +kernel
theorem dX8_lostOf_40 : decode cX8_lostOf 40 = .ok (.getfield 10, 3) := by decide +kernel
theorem dX8_lostOf_43 : decode cX8_lostOf 43 = .ok (.getfield 70, 3) := by decide +kernel
theorem dX8_lostOf_46 : decode cX8_lostOf 46 = .ok (.lload_n 1, 1) := by decide +kernel
theorem dX8_lostOf_47 : decode cX8_lostOf 47 = .ok (.invokevirtual 83, 3) := by decide +kernel
theorem dX8_lostOf_50 : decode cX8_lostOf 50 = .ok (.invokestatic 39, 3) := by decide +kernel
theorem dX8_lostOf_53 : decode cX8_lostOf 53 = .ok (.i2l, 1) := by decide +kernel
theorem dX8_lostOf_54 : decode cX8_lostOf 54 = .ok (.lreturn, 1) := by decide +kernel
set_option maxRecDepth 20000 in
theorem ggX8_row_X8_isFactor : GoodIn wsX8_row wsX8_isFactor := goodIn_r _ [6, 7, 8, 9, 5, 10] (by decide +kernel) (by decide +kernel)
set_option maxRecDepth 20000 in
theorem gX8_row_X8_isFactor : GoodIn wsX8_row (va_wsS RX8 86 yX8_isFactor wsX8_isFactor) := goodIn_app (goodIn_of _ (by decide +kernel)) ggX8_row_X8_isFactor
set_option maxRecDepth 20000 in
theorem ggX8_row_X7_sumsBy : GoodIn wsX8_row wsX7_sumsBy := goodIn_r _ [15, 16, 17, 18, 19, 20, 21, 22, 23, 24, 25, 26, 27, 28, 29, 42, 43, 44] (by decide +kernel) (by decide +kernel)
set_option maxRecDepth 20000 in
theorem gX8_row_X7_sumsBy : GoodIn wsX8_row (wsV RX8 93 RX7 yX7_sumsBy wsX7_sumsBy) := goodIn_app (goodIn_of _ (by decide +kernel)) ggX8_row_X7_sumsBy
set_option maxRecDepth 20000 in
theorem ggX8_row_X6_numberAt : GoodIn wsX8_row wsX6_numberAt := goodIn_r _ [33, 29, 27, 28, 34, 43, 44] (by decide +kernel) (by decide +kernel)
set_option maxRecDepth 20000 in
theorem gX8_row_X6_numberAt : GoodIn wsX8_row (wsV RX8 99 RX6 yX6_numberAt wsX6_numberAt) := goodIn_app (goodIn_of _ (by decide +kernel)) ggX8_row_X6_numberAt
theorem dX8_row_0 : decode cX8_row 0 = .ok (.iload_n 1, 1) := by decide +kernel
theorem dX8_row_1 : decode cX8_row 1 = .ok (.i2l, 1) := by decide +kernel
theorem dX8_row_2 : decode cX8_row 2 = .ok (.invokestatic 86, 3) := by decide +kernel
theorem dX8_row_5 : decode cX8_row 5 = .ok (.ifCond .eq 7, 3) := by decide +kernel
theorem dX8_row_8 : decode cX8_row 8 = .ok (.iload_n 2, 1) := by decide +kernel
theorem dX8_row_9 : decode cX8_row 9 = .ok (.ifCond .ge 7, 3) := by decide +kernel
theorem dX8_row_12 : decode cX8_row 12 = .ok (.ldc2_w 43, 3) := by decide +kernel
theorem dX8_row_15 : decode cX8_row 15 = .ok (.lreturn, 1) := by decide +kernel
theorem dX8_row_16 : decode cX8_row 16 = .ok (.aload_n 0, 1) := by decide +kernel
theorem dX8_row_17 : decode cX8_row 17 = .ok (.getfield 10, 3) := by decide +kernel
theorem dX8_row_20 : decode cX8_row 20 = .ok (.getfield 89, 3) := by decide +kernel
theorem dX8_row_23 : decode cX8_row 23 = .ok (.iload_n 1, 1) := by decide +kernel
theorem dX8_row_24 : decode cX8_row 24 = .ok (.invokevirtual 93, 3) := by decide +kernel
theorem dX8_row_27 : decode cX8_row 27 = .ok (.iload_n 2, 1) := by decide +kernel
theorem dX8_row_28 : decode cX8_row 28 = .ok (.invokevirtual 99, 3) := by decide +kernel
theorem dX8_row_31 : decode cX8_row 31 = .ok (.lreturn, 1) := by decide +kernel
set_option maxRecDepth 20000 in
theorem ggX8_digits_X8_isFactor : GoodIn wsX8_digits wsX8_isFactor := goodIn_r _ [5, 6, 7, 8, 4, 9] (by decide +kernel) (by decide +kernel)
set_option maxRecDepth 20000 in
theorem gX8_digits_X8_isFactor : GoodIn wsX8_digits (va_wsS RX8 86 yX8_isFactor wsX8_isFactor) := goodIn_app (goodIn_of _ (by decide +kernel)) ggX8_digits_X8_isFactor
set_option maxRecDepth 20000 in
theorem ggX8_digits_X8_isHeap : GoodIn wsX8_digits wsX8_isHeap := goodIn_r _ [12, 13, 7, 8, 4, 9] (by decide +kernel) (by decide +kernel)
set_option maxRecDepth 20000 in
theorem gX8_digits_X8_isHeap : GoodIn wsX8_digits (va_wsS RX8 25 yX8_isHeap wsX8_isHeap) := goodIn_app (goodIn_of _ (by decide +kernel)) ggX8_digits_X8_isHeap
set_option maxRecDepth 20000 in
theorem ggX8_digits_X7_sumsBy : GoodIn wsX8_digits wsX7_sumsBy := goodIn_r _ [18, 19, 20, 21, 22, 23, 24, 25, 26, 27, 28, 29, 30, 31, 32, 44, 45, 46] (by decide +kernel) (by decide +kernel)
set_option maxRecDepth 20000 in
theorem gX8_digits_X7_sumsBy : GoodIn wsX8_digits (wsV RX8 93 RX7 yX7_sumsBy wsX7_sumsBy) := goodIn_app (goodIn_of _ (by decide +kernel)) ggX8_digits_X7_sumsBy
set_option maxRecDepth 20000 in
theorem ggX8_digits_X6_countOf : GoodIn wsX8_digits wsX6_countOf := goodIn_r _ [36, 32, 30, 45, 46] (by decide +kernel) (by decide +kernel)
set_option maxRecDepth 20000 in
theorem gX8_digits_X6_countOf : GoodIn wsX8_digits (wsV RX8 105 RX6 yX6_countOf wsX6_countOf) := goodIn_app (goodIn_of _ (by decide +kernel)) ggX8_digits_X6_countOf
theorem dX8_digits_0 : decode cX8_digits 0 = .ok (.iload_n 1, 1) := by decide +kernel
theorem dX8_digits_1 : decode cX8_digits 1 = .ok (.i2l, 1) := by decide +kernel
theorem dX8_digits_2 : decode cX8_digits 2 = .ok (.invokestatic 86, 3) := by decide +kernel
theorem dX8_digits_5 : decode cX8_digits 5 = .ok (.ifCond .eq 10, 3) := by decide +kernel
theorem dX8_digits_8 : decode cX8_digits 8 = .ok (.lload_n 2, 1) := by decide +kernel
theorem dX8_digits_9 : decode cX8_digits 9 = .ok (.invokestatic 25, 3) := by decide +kernel
theorem dX8_digits_12 : decode cX8_digits 12 = .ok (.ifCond .ne 6, 3) := by decide +kernel
theorem dX8_digits_15 : decode cX8_digits 15 = .ok (.bipush (-2), 2) := by decide +kernel
theorem dX8_digits_17 : decode cX8_digits 17 = .ok (.ireturn, 1) := by decide +kernel
theorem dX8_digits_18 : decode cX8_digits 18 = .ok (.aload_n 0, 1) := by decide +kernel
theorem dX8_digits_19 : decode cX8_digits 19 = .ok (.getfield 10, 3) := by decide +kernel
theorem dX8_digits_22 : decode cX8_digits 22 = .ok (.getfield 89, 3) := by decide +kernel
theorem dX8_digits_25 : decode cX8_digits 25 = .ok (.iload_n 1, 1) := by decide +kernel
theorem dX8_digits_26 : decode cX8_digits 26 = .ok (.invokevirtual 93, 3) := by decide +kernel
theorem dX8_digits_29 : decode cX8_digits 29 = .ok (.lload_n 2, 1) := by decide +kernel
theorem dX8_digits_30 : decode cX8_digits 30 = .ok (.invokevirtual 105, 3) := by decide +kernel
theorem dX8_digits_33 : decode cX8_digits 33 = .ok (.ireturn, 1) := by decide +kernel
set_option maxRecDepth 20000 in
theorem ggX8_last_X8_isFactor : GoodIn wsX8_last wsX8_isFactor := goodIn_r _ [7, 8, 9, 10, 6, 11] (by decide +kernel) (by decide +kernel)
set_option maxRecDepth 20000 in
theorem gX8_last_X8_isFactor : GoodIn wsX8_last (va_wsS RX8 86 yX8_isFactor wsX8_isFactor) := goodIn_app (goodIn_of _ (by decide +kernel)) ggX8_last_X8_isFactor
set_option maxRecDepth 20000 in
theorem ggX8_last_X8_isWithin : GoodIn wsX8_last wsX8_isWithin := goodIn_r _ [11] (by decide +kernel) (by decide +kernel)
set_option maxRecDepth 20000 in
theorem gX8_last_X8_isWithin : GoodIn wsX8_last (va_wsS RX8 56 yX8_isWithin wsX8_isWithin) := goodIn_app (goodIn_of _ (by decide +kernel)) ggX8_last_X8_isWithin
set_option maxRecDepth 20000 in
theorem ggX8_last_X7_sumsBy : GoodIn wsX8_last wsX7_sumsBy := goodIn_r _ [16, 17, 18, 19, 20, 21, 22, 23, 24, 25, 26, 27, 28, 29, 30, 42, 43, 44] (by decide +kernel) (by decide +kernel)
set_option maxRecDepth 20000 in
theorem gX8_last_X7_sumsBy : GoodIn wsX8_last (wsV RX8 93 RX7 yX7_sumsBy wsX7_sumsBy) := goodIn_app (goodIn_of _ (by decide +kernel)) ggX8_last_X7_sumsBy
set_option maxRecDepth 20000 in
theorem ggX8_last_X6_endOf : GoodIn wsX8_last wsX6_endOf := goodIn_r _ [34, 30, 28, 43, 44] (by decide +kernel) (by decide +kernel)
set_option maxRecDepth 20000 in
theorem gX8_last_X6_endOf : GoodIn wsX8_last (wsV RX8 111 RX6 yX6_endOf wsX6_endOf) := goodIn_app (goodIn_of _ (by decide +kernel)) ggX8_last_X6_endOf
theorem dX8_last_0 : decode cX8_last 0 = .ok (.iload_n 1, 1) := by decide +kernel
theorem dX8_last_1 : decode cX8_last 1 = .ok (.i2l, 1) := by decide +kernel
theorem dX8_last_2 : decode cX8_last 2 = .ok (.invokestatic 86, 3) := by decide +kernel
theorem dX8_last_5 : decode cX8_last 5 = .ok (.ifCond .eq 14, 3) := by decide +kernel
theorem dX8_last_8 : decode cX8_last 8 = .ok (.lload_n 2, 1) := by decide +kernel
theorem dX8_last_9 : decode cX8_last 9 = .ok (.lconst 1, 1) := by decide +kernel
theorem dX8_last_10 : decode cX8_last 10 = .ok (.ldc2_w 109, 3) := by decide +kernel
theorem dX8_last_13 : decode cX8_last 13 = .ok (.invokestatic 56, 3) := by decide +kernel
theorem dX8_last_16 : decode cX8_last 16 = .ok (.ifCond .ne 7, 3) := by decide +kernel
theorem dX8_last_19 : decode cX8_last 19 = .ok (.ldc2_w 43, 3) := by decide +kernel
theorem dX8_last_22 : decode cX8_last 22 = .ok (.lreturn, 1) := by decide +kernel
theorem dX8_last_23 : decode cX8_last 23 = .ok (.aload_n 0, 1) := by decide +kernel
theorem dX8_last_24 : decode cX8_last 24 = .ok (.getfield 10, 3) := by decide +kernel
theorem dX8_last_27 : decode cX8_last 27 = .ok (.getfield 89, 3) := by decide +kernel
theorem dX8_last_30 : decode cX8_last 30 = .ok (.iload_n 1, 1) := by decide +kernel
theorem dX8_last_31 : decode cX8_last 31 = .ok (.invokevirtual 93, 3) := by decide +kernel
theorem dX8_last_34 : decode cX8_last 34 = .ok (.lload_n 2, 1) := by decide +kernel
theorem dX8_last_35 : decode cX8_last 35 = .ok (.invokevirtual 111, 3) := by decide +kernel
theorem dX8_last_38 : decode cX8_last 38 = .ok (.lreturn, 1) := by decide +kernel
set_option maxRecDepth 20000 in
theorem ggX8_times_X8_isFactor : GoodIn wsX8_times wsX8_isFactor := goodIn_r _ [5, 6, 7, 8, 4, 9] (by decide +kernel) (by decide +kernel)
set_option maxRecDepth 20000 in
theorem gX8_times_X8_isFactor : GoodIn wsX8_times (va_wsS RX8 86 yX8_isFactor wsX8_isFactor) := goodIn_app (goodIn_of _ (by decide +kernel)) ggX8_times_X8_isFactor
set_option maxRecDepth 20000 in
theorem ggX8_times_X8_isHeap : GoodIn wsX8_times wsX8_isHeap := goodIn_r _ [12, 13, 7, 8, 4, 9] (by decide +kernel) (by decide +kernel)
set_option maxRecDepth 20000 in
theorem gX8_times_X8_isHeap : GoodIn wsX8_times (va_wsS RX8 25 yX8_isHeap wsX8_isHeap) := goodIn_app (goodIn_of _ (by decide +kernel)) ggX8_times_X8_isHeap
set_option maxRecDepth 20000 in
theorem ggX8_times_X7_isWon : GoodIn wsX8_times wsX7_isWon := goodIn_r _ [18, 19, 20, 21, 17, 22, 23, 24, 25, 26, 27, 28, 29, 30, 31, 32, 33, 34, 35, 36, 37, 38, 39, 40, 41, 42, 43, 44, 55, 56, 57] (by decide +kernel) (by decide +kernel)
set_option maxRecDepth 20000 in
theorem gX8_times_X7_isWon : GoodIn wsX8_times (wsV RX8 114 RX7 yX7_isWon wsX7_isWon) := goodIn_app (goodIn_of _ (by decide +kernel)) ggX8_times_X7_isWon
set_option maxRecDepth 20000 in
theorem ggX8_times_X8_oneIf : GoodIn wsX8_times wsX8_oneIf := goodIn_r _ [47] (by decide +kernel) (by decide +kernel)
set_option maxRecDepth 20000 in
theorem gX8_times_X8_oneIf : GoodIn wsX8_times (va_wsS RX8 39 yX8_oneIf wsX8_oneIf) := goodIn_app (goodIn_of _ (by decide +kernel)) ggX8_times_X8_oneIf
theorem dX8_times_0 : decode cX8_times 0 = .ok (.iload_n 1, 1) := by decide +kernel
theorem dX8_times_1 : decode cX8_times 1 = .ok (.i2l, 1) := by decide +kernel
theorem dX8_times_2 : decode cX8_times 2 = .ok (.invokestatic 86, 3) := by decide +kernel
theorem dX8_times_5 : decode cX8_times 5 = .ok (.ifCond .eq 18, 3) := by decide +kernel
theorem dX8_times_8 : decode cX8_times 8 = .ok (.lload_n 2, 1) := by decide +kernel
theorem dX8_times_9 : decode cX8_times 9 = .ok (.invokestatic 25, 3) := by decide +kernel
theorem dX8_times_12 : decode cX8_times 12 = .ok (.ifCond .eq 11, 3) := by decide +kernel
theorem dX8_times_15 : decode cX8_times 15 = .ok (.lload 4, 2) := by decide +kernel
theorem dX8_times_17 : decode cX8_times 17 = .ok (.invokestatic 25, 3) := by decide +kernel
theorem dX8_times_20 : decode cX8_times 20 = .ok (.ifCond .ne 6, 3) := by decide +kernel
theorem dX8_times_23 : decode cX8_times 23 = .ok (.bipush (-2), 2) := by decide +kernel
theorem dX8_times_25 : decode cX8_times 25 = .ok (.ireturn, 1) := by decide +kernel
theorem dX8_times_26 : decode cX8_times 26 = .ok (.aload_n 0, 1) := by decide +kernel
theorem dX8_times_27 : decode cX8_times 27 = .ok (.getfield 10, 3) := by decide +kernel
theorem dX8_times_30 : decode cX8_times 30 = .ok (.getfield 89, 3) := by decide +kernel
theorem dX8_times_33 : decode cX8_times 33 = .ok (.iload_n 1, 1) := by decide +kernel
theorem dX8_times_34 : decode cX8_times 34 = .ok (.lload_n 2, 1) := by decide +kernel
theorem dX8_times_35 : decode cX8_times 35 = .ok (.lload 4, 2) := by decide +kernel
theorem dX8_times_37 : decode cX8_times 37 = .ok (.invokevirtual 114, 3) := by decide +kernel
theorem dX8_times_40 : decode cX8_times 40 = .ok (.invokestatic 39, 3) := by decide +kernel
theorem dX8_times_43 : decode cX8_times 43 = .ok (.ireturn, 1) := by decide +kernel
set_option maxRecDepth 20000 in
theorem ggX8_timesMove_X8_isFactor : GoodIn wsX8_timesMove wsX8_isFactor := goodIn_r _ [6, 7, 8, 9, 5, 10] (by decide +kernel) (by decide +kernel)
set_option maxRecDepth 20000 in
theorem gX8_timesMove_X8_isFactor : GoodIn wsX8_timesMove (va_wsS RX8 86 yX8_isFactor wsX8_isFactor) := goodIn_app (goodIn_of _ (by decide +kernel)) ggX8_timesMove_X8_isFactor
set_option maxRecDepth 20000 in
theorem ggX8_timesMove_X8_isHeap : GoodIn wsX8_timesMove wsX8_isHeap := goodIn_r _ [13, 14, 8, 9, 5, 10] (by decide +kernel) (by decide +kernel)
set_option maxRecDepth 20000 in
theorem gX8_timesMove_X8_isHeap : GoodIn wsX8_timesMove (va_wsS RX8 25 yX8_isHeap wsX8_isHeap) := goodIn_app (goodIn_of _ (by decide +kernel)) ggX8_timesMove_X8_isHeap
set_option maxRecDepth 20000 in
theorem ggX8_timesMove_X7_leastTaken : GoodIn wsX8_timesMove wsX7_leastTaken := goodIn_r _ [19, 20, 21, 22, 18, 23, 24, 25, 26, 27, 28, 29, 30, 31, 32, 33, 34, 35, 36, 37, 38, 39, 40, 41, 49, 50, 51] (by decide +kernel) (by decide +kernel)
set_option maxRecDepth 20000 in
theorem gX8_timesMove_X7_leastTaken : GoodIn wsX8_timesMove (wsV RX8 117 RX7 yX7_leastTaken wsX7_leastTaken) := goodIn_app (goodIn_of _ (by decide +kernel)) ggX8_timesMove_X7_leastTaken
theorem dX8_timesMove_0 : decode cX8_timesMove 0 = .ok (.iload_n 1, 1) := by decide +kernel
theorem dX8_timesMove_1 : decode cX8_timesMove 1 = .ok (.i2l, 1) := by decide +kernel
theorem dX8_timesMove_2 : decode cX8_timesMove 2 = .ok (.invokestatic 86, 3) := by decide +kernel
theorem dX8_timesMove_5 : decode cX8_timesMove 5 = .ok (.ifCond .eq 18, 3) := by decide +kernel
theorem dX8_timesMove_8 : decode cX8_timesMove 8 = .ok (.lload_n 2, 1) := by decide +kernel
theorem dX8_timesMove_9 : decode cX8_timesMove 9 = .ok (.invokestatic 25, 3) := by decide +kernel
theorem dX8_timesMove_12 : decode cX8_timesMove 12 = .ok (.ifCond .eq 11, 3) := by decide +kernel
theorem dX8_timesMove_15 : decode cX8_timesMove 15 = .ok (.lload 4, 2) := by decide +kernel
theorem dX8_timesMove_17 : decode cX8_timesMove 17 = .ok (.invokestatic 25, 3) := by decide +kernel
theorem dX8_timesMove_20 : decode cX8_timesMove 20 = .ok (.ifCond .ne 7, 3) := by decide +kernel
theorem dX8_timesMove_23 : decode cX8_timesMove 23 = .ok (.ldc2_w 43, 3) := by decide +kernel
theorem dX8_timesMove_26 : decode cX8_timesMove 26 = .ok (.lreturn, 1) := by decide +kernel
theorem dX8_timesMove_27 : decode cX8_timesMove 27 = .ok (.aload_n 0, 1) := by decide +kernel
theorem dX8_timesMove_28 : decode cX8_timesMove 28 = .ok (.getfield 10, 3) := by decide +kernel
theorem dX8_timesMove_31 : decode cX8_timesMove 31 = .ok (.getfield 89, 3) := by decide +kernel
theorem dX8_timesMove_34 : decode cX8_timesMove 34 = .ok (.iload_n 1, 1) := by decide +kernel
theorem dX8_timesMove_35 : decode cX8_timesMove 35 = .ok (.lload_n 2, 1) := by decide +kernel
theorem dX8_timesMove_36 : decode cX8_timesMove 36 = .ok (.lload 4, 2) := by decide +kernel
theorem dX8_timesMove_38 : decode cX8_timesMove 38 = .ok (.invokevirtual 117, 3) := by decide +kernel
theorem dX8_timesMove_41 : decode cX8_timesMove 41 = .ok (.lreturn, 1) := by decide +kernel
set_option maxRecDepth 20000 in
theorem ggX8_byAll_X8_areHeapsOf : GoodIn wsX8_byAll wsX8_areHeapsOf := goodIn_r _ [5, 6, 7, 8, 9, 10, 4, 11, 12, 13, 14, 15, 16, 17, 18] (by decide +kernel) (by decide +kernel)
set_option maxRecDepth 20000 in
theorem gX8_byAll_X8_areHeapsOf : GoodIn wsX8_byAll (va_wsS RX8 121 yX8_areHeapsOf wsX8_areHeapsOf) := goodIn_app (goodIn_of _ (by decide +kernel)) ggX8_byAll_X8_areHeapsOf
set_option maxRecDepth 20000 in
theorem ggX8_byAll_X2_tableOf : GoodIn wsX8_byAll wsX2_tableOf := goodIn_r _ [23, 24, 25, 26, 27, 28, 10, 4, 11, 29, 30, 31, 32, 33, 34, 35, 36, 37, 38, 39, 40, 41, 42, 43, 44, 45, 46, 47, 48, 49, 50, 51, 52, 53, 54, 55, 56, 57, 58, 59, 60, 61, 62, 63, 64, 65, 73, 74, 75, 76, 77, 78, 79] (by decide +kernel) (by decide +kernel)
set_option maxRecDepth 20000 in
theorem gX8_byAll_X2_tableOf : GoodIn wsX8_byAll (wsV RX8 125 RX2 yX2_tableOf wsX2_tableOf) := goodIn_app (goodIn_of _ (by decide +kernel)) ggX8_byAll_X2_tableOf
set_option maxRecDepth 20000 in
theorem ggX8_byAll_X3_has : GoodIn wsX8_byAll wsX3_has := goodIn_r _ [69, 37, 39, 78, 79] (by decide +kernel) (by decide +kernel)
set_option maxRecDepth 20000 in
theorem gX8_byAll_X3_has : GoodIn wsX8_byAll (wsV RX8 129 RX3 yX3_has wsX3_has) := goodIn_app (goodIn_of _ (by decide +kernel)) ggX8_byAll_X3_has
set_option maxRecDepth 20000 in
theorem ggX8_byAll_X8_oneIf : GoodIn wsX8_byAll wsX8_oneIf := goodIn_r _ [30] (by decide +kernel) (by decide +kernel)
set_option maxRecDepth 20000 in
theorem gX8_byAll_X8_oneIf : GoodIn wsX8_byAll (va_wsS RX8 39 yX8_oneIf wsX8_oneIf) := goodIn_app (goodIn_of _ (by decide +kernel)) ggX8_byAll_X8_oneIf
theorem dX8_byAll_0 : decode cX8_byAll 0 = .ok (.iload_n 1, 1) := by decide +kernel
theorem dX8_byAll_1 : decode cX8_byAll 1 = .ok (.iconst 1, 1) := by decide +kernel
theorem dX8_byAll_2 : decode cX8_byAll 2 = .ok (.iload_n 3, 1) := by decide +kernel
theorem dX8_byAll_3 : decode cX8_byAll 3 = .ok (.i2l, 1) := by decide +kernel
theorem dX8_byAll_4 : decode cX8_byAll 4 = .ok (.iload 4, 2) := by decide +kernel
theorem dX8_byAll_6 : decode cX8_byAll 6 = .ok (.i2l, 1) := by decide +kernel
theorem dX8_byAll_7 : decode cX8_byAll 7 = .ok (.iload 5, 2) := by decide +kernel
theorem dX8_byAll_9 : decode cX8_byAll 9 = .ok (.i2l, 1) := by decide +kernel
theorem dX8_byAll_10 : decode cX8_byAll 10 = .ok (.invokestatic 121, 3) := by decide +kernel
theorem dX8_byAll_13 : decode cX8_byAll 13 = .ok (.ifCond .ne 6, 3) := by decide +kernel
theorem dX8_byAll_16 : decode cX8_byAll 16 = .ok (.bipush (-2), 2) := by decide +kernel
theorem dX8_byAll_18 : decode cX8_byAll 18 = .ok (.ireturn, 1) := by decide +kernel
theorem dX8_byAll_19 : decode cX8_byAll 19 = .ok (.aload_n 0, 1) := by decide +kernel
theorem dX8_byAll_20 : decode cX8_byAll 20 = .ok (.getfield 10, 3) := by decide +kernel
theorem dX8_byAll_23 : decode cX8_byAll 23 = .ok (.iload_n 1, 1) := by decide +kernel
theorem dX8_byAll_24 : decode cX8_byAll 24 = .ok (.iload_n 2, 1) := by decide +kernel
theorem dX8_byAll_25 : decode cX8_byAll 25 = .ok (.invokevirtual 125, 3) := by decide +kernel
theorem dX8_byAll_28 : decode cX8_byAll 28 = .ok (.iload_n 3, 1) := by decide +kernel
theorem dX8_byAll_29 : decode cX8_byAll 29 = .ok (.iload 4, 2) := by decide +kernel
theorem dX8_byAll_31 : decode cX8_byAll 31 = .ok (.iload 5, 2) := by decide +kernel
theorem dX8_byAll_33 : decode cX8_byAll 33 = .ok (.invokevirtual 129, 3) := by decide +kernel
theorem dX8_byAll_36 : decode cX8_byAll 36 = .ok (.ifCond .ne 7, 3) := by decide +kernel
theorem dX8_byAll_39 : decode cX8_byAll 39 = .ok (.iconst 1, 1) := by decide +kernel
theorem dX8_byAll_40 : decode cX8_byAll 40 = .ok (.goto 4, 3) := by decide +kernel
theorem dX8_byAll_43 : decode cX8_byAll 43 = .ok (.iconst 0, 1) := by decide +kernel
theorem dX8_byAll_44 : decode cX8_byAll 44 = .ok (.invokestatic 39, 3) := by decide +kernel
theorem dX8_byAll_47 : decode cX8_byAll 47 = .ok (.ireturn, 1) := by decide +kernel
set_option maxRecDepth 20000 in
theorem ggX8_lostUpTo_X8_mostByAll : GoodIn wsX8_lostUpTo wsX8_mostByAll := goodIn_r _ [5] (by decide +kernel) (by decide +kernel)
set_option maxRecDepth 20000 in
theorem gX8_lostUpTo_X8_mostByAll : GoodIn wsX8_lostUpTo (va_wsS RX8 135 yX8_mostByAll wsX8_mostByAll) := goodIn_app (goodIn_of _ (by decide +kernel)) ggX8_lostUpTo_X8_mostByAll
set_option maxRecDepth 20000 in
theorem ggX8_lostUpTo_X8_isWithin : GoodIn wsX8_lostUpTo wsX8_isWithin := goodIn_r _ [8] (by decide +kernel) (by decide +kernel)
set_option maxRecDepth 20000 in
theorem gX8_lostUpTo_X8_isWithin : GoodIn wsX8_lostUpTo (va_wsS RX8 56 yX8_isWithin wsX8_isWithin) := goodIn_app (goodIn_of _ (by decide +kernel)) ggX8_lostUpTo_X8_isWithin
set_option maxRecDepth 20000 in
theorem ggX8_lostUpTo_X2_tableOf : GoodIn wsX8_lostUpTo wsX2_tableOf := goodIn_r _ [13, 14, 15, 16, 17, 18, 7, 4, 8, 19, 20, 21, 22, 23, 24, 25, 26, 27, 28, 29, 30, 31, 32, 33, 34, 35, 36, 37, 38, 39, 40, 41, 42, 43, 44, 45, 46, 47, 48, 49, 50, 51, 52, 53, 54, 55, 69, 70, 71, 72, 73, 74, 75] (by decide +kernel) (by decide +kernel)
set_option maxRecDepth 20000 in
theorem gX8_lostUpTo_X2_tableOf : GoodIn wsX8_lostUpTo (wsV RX8 125 RX2 yX2_tableOf wsX2_tableOf) := goodIn_app (goodIn_of _ (by decide +kernel)) ggX8_lostUpTo_X2_tableOf
set_option maxRecDepth 20000 in
theorem ggX8_lostUpTo_X3_countUpTo : GoodIn wsX8_lostUpTo wsX3_countUpTo := goodIn_r _ [59, 29, 27, 60, 61, 62, 63, 64, 65, 66, 74, 75] (by decide +kernel) (by decide +kernel)
set_option maxRecDepth 20000 in
theorem gX8_lostUpTo_X3_countUpTo : GoodIn wsX8_lostUpTo (wsV RX8 139 RX3 yX3_countUpTo wsX3_countUpTo) := goodIn_app (goodIn_of _ (by decide +kernel)) ggX8_lostUpTo_X3_countUpTo
theorem dX8_lostUpTo_0 : decode cX8_lostUpTo 0 = .ok (.iload_n 3, 1) := by decide +kernel
theorem dX8_lostUpTo_1 : decode cX8_lostUpTo 1 = .ok (.i2l, 1) := by decide +kernel
theorem dX8_lostUpTo_2 : decode cX8_lostUpTo 2 = .ok (.lconst 1, 1) := by decide +kernel
theorem dX8_lostUpTo_3 : decode cX8_lostUpTo 3 = .ok (.iload_n 1, 1) := by decide +kernel
theorem dX8_lostUpTo_4 : decode cX8_lostUpTo 4 = .ok (.invokestatic 135, 3) := by decide +kernel
theorem dX8_lostUpTo_7 : decode cX8_lostUpTo 7 = .ok (.i2l, 1) := by decide +kernel
theorem dX8_lostUpTo_8 : decode cX8_lostUpTo 8 = .ok (.invokestatic 56, 3) := by decide +kernel
theorem dX8_lostUpTo_11 : decode cX8_lostUpTo 11 = .ok (.ifCond .ne 6, 3) := by decide +kernel
theorem dX8_lostUpTo_14 : decode cX8_lostUpTo 14 = .ok (.bipush (-2), 2) := by decide +kernel
theorem dX8_lostUpTo_16 : decode cX8_lostUpTo 16 = .ok (.ireturn, 1) := by decide +kernel
theorem dX8_lostUpTo_17 : decode cX8_lostUpTo 17 = .ok (.aload_n 0, 1) := by decide +kernel
theorem dX8_lostUpTo_18 : decode cX8_lostUpTo 18 = .ok (.getfield 10, 3) := by decide +kernel
theorem dX8_lostUpTo_21 : decode cX8_lostUpTo 21 = .ok (.iload_n 1, 1) := by decide +kernel
theorem dX8_lostUpTo_22 : decode cX8_lostUpTo 22 = .ok (.iload_n 2, 1) := by decide +kernel
theorem dX8_lostUpTo_23 : decode cX8_lostUpTo 23 = .ok (.invokevirtual 125, 3) := by decide +kernel
theorem dX8_lostUpTo_26 : decode cX8_lostUpTo 26 = .ok (.iload_n 3, 1) := by decide +kernel
theorem dX8_lostUpTo_27 : decode cX8_lostUpTo 27 = .ok (.invokevirtual 139, 3) := by decide +kernel
theorem dX8_lostUpTo_30 : decode cX8_lostUpTo 30 = .ok (.ireturn, 1) := by decide +kernel
set_option maxRecDepth 20000 in
theorem ggX8_timesByAll_X8_isFactor : GoodIn wsX8_timesByAll wsX8_isFactor := goodIn_r _ [5, 6, 7, 8, 4, 9] (by decide +kernel) (by decide +kernel)
set_option maxRecDepth 20000 in
theorem gX8_timesByAll_X8_isFactor : GoodIn wsX8_timesByAll (va_wsS RX8 86 yX8_isFactor wsX8_isFactor) := goodIn_app (goodIn_of _ (by decide +kernel)) ggX8_timesByAll_X8_isFactor
set_option maxRecDepth 20000 in
theorem ggX8_timesByAll_X8_isWithin : GoodIn wsX8_timesByAll wsX8_isWithin := goodIn_r _ [9] (by decide +kernel) (by decide +kernel)
set_option maxRecDepth 20000 in
theorem gX8_timesByAll_X8_isWithin : GoodIn wsX8_timesByAll (va_wsS RX8 56 yX8_isWithin wsX8_isWithin) := goodIn_app (goodIn_of _ (by decide +kernel)) ggX8_timesByAll_X8_isWithin
set_option maxRecDepth 20000 in
theorem ggX8_timesByAll_X7_isWonByAll : GoodIn wsX8_timesByAll wsX7_isWonByAll := goodIn_r _ [13, 14, 15, 16, 8, 4, 9] (by decide +kernel) (by decide +kernel)
set_option maxRecDepth 20000 in
theorem gX8_timesByAll_X7_isWonByAll : GoodIn wsX8_timesByAll (va_wsS RX8 144 yX7_isWonByAll wsX7_isWonByAll) := goodIn_app (goodIn_of _ (by decide +kernel)) ggX8_timesByAll_X7_isWonByAll
set_option maxRecDepth 20000 in
theorem ggX8_timesByAll_X8_oneIf : GoodIn wsX8_timesByAll wsX8_oneIf := goodIn_r _ [19] (by decide +kernel) (by decide +kernel)
set_option maxRecDepth 20000 in
theorem gX8_timesByAll_X8_oneIf : GoodIn wsX8_timesByAll (va_wsS RX8 39 yX8_oneIf wsX8_oneIf) := goodIn_app (goodIn_of _ (by decide +kernel)) ggX8_timesByAll_X8_oneIf
theorem dX8_timesByAll_0 : decode cX8_timesByAll 0 = .ok (.iload_n 1, 1) := by decide +kernel
theorem dX8_timesByAll_1 : decode cX8_timesByAll 1 = .ok (.i2l, 1) := by decide +kernel
theorem dX8_timesByAll_2 : decode cX8_timesByAll 2 = .ok (.invokestatic 86, 3) := by decide +kernel
theorem dX8_timesByAll_5 : decode cX8_timesByAll 5 = .ok (.ifCond .eq 27, 3) := by decide +kernel
theorem dX8_timesByAll_8 : decode cX8_timesByAll 8 = .ok (.iload_n 2, 1) := by decide +kernel
theorem dX8_timesByAll_9 : decode cX8_timesByAll 9 = .ok (.i2l, 1) := by decide +kernel
theorem dX8_timesByAll_10 : decode cX8_timesByAll 10 = .ok (.lconst 0, 1) := by decide +kernel
theorem dX8_timesByAll_11 : decode cX8_timesByAll 11 = .ok (.ldc2_w 142, 3) := by decide +kernel
theorem dX8_timesByAll_14 : decode cX8_timesByAll 14 = .ok (.invokestatic 56, 3) := by decide +kernel
theorem dX8_timesByAll_17 : decode cX8_timesByAll 17 = .ok (.ifCond .eq 15, 3) := by decide +kernel
theorem dX8_timesByAll_20 : decode cX8_timesByAll 20 = .ok (.iload_n 3, 1) := by decide +kernel
theorem dX8_timesByAll_21 : decode cX8_timesByAll 21 = .ok (.i2l, 1) := by decide +kernel
theorem dX8_timesByAll_22 : decode cX8_timesByAll 22 = .ok (.lconst 0, 1) := by decide +kernel
theorem dX8_timesByAll_23 : decode cX8_timesByAll 23 = .ok (.ldc2_w 142, 3) := by decide +kernel
theorem dX8_timesByAll_26 : decode cX8_timesByAll 26 = .ok (.invokestatic 56, 3) := by decide +kernel
theorem dX8_timesByAll_29 : decode cX8_timesByAll 29 = .ok (.ifCond .ne 6, 3) := by decide +kernel
theorem dX8_timesByAll_32 : decode cX8_timesByAll 32 = .ok (.bipush (-2), 2) := by decide +kernel
theorem dX8_timesByAll_34 : decode cX8_timesByAll 34 = .ok (.ireturn, 1) := by decide +kernel
theorem dX8_timesByAll_35 : decode cX8_timesByAll 35 = .ok (.iload_n 1, 1) := by decide +kernel
theorem dX8_timesByAll_36 : decode cX8_timesByAll 36 = .ok (.iload_n 2, 1) := by decide +kernel
theorem dX8_timesByAll_37 : decode cX8_timesByAll 37 = .ok (.iload_n 3, 1) := by decide +kernel
theorem dX8_timesByAll_38 : decode cX8_timesByAll 38 = .ok (.invokestatic 144, 3) := by decide +kernel
theorem dX8_timesByAll_41 : decode cX8_timesByAll 41 = .ok (.invokestatic 39, 3) := by decide +kernel
theorem dX8_timesByAll_44 : decode cX8_timesByAll 44 = .ok (.ireturn, 1) := by decide +kernel
set_option maxRecDepth 20000 in
theorem ggX8_board_X8_areHeapsOf : GoodIn wsX8_board wsX8_areHeapsOf := goodIn_r _ [5, 6, 7, 8, 9, 10, 4, 11, 12, 13, 14, 15, 16, 17, 18] (by decide +kernel) (by decide +kernel)
set_option maxRecDepth 20000 in
theorem gX8_board_X8_areHeapsOf : GoodIn wsX8_board (va_wsS RX8 121 yX8_areHeapsOf wsX8_areHeapsOf) := goodIn_app (goodIn_of _ (by decide +kernel)) ggX8_board_X8_areHeapsOf
set_option maxRecDepth 20000 in
theorem ggX8_board_X4_begin : GoodIn wsX8_board wsX4_begin := goodIn_r _ [23, 24, 25, 26, 27, 28, 31, 32, 33, 34, 35, 36, 37, 38, 39] (by decide +kernel) (by decide +kernel)
set_option maxRecDepth 20000 in
theorem gX8_board_X4_begin : GoodIn wsX8_board (wsV RX8 147 RX4 yX4_begin wsX4_begin) := goodIn_app (goodIn_of _ (by decide +kernel)) ggX8_board_X4_begin
theorem dX8_board_0 : decode cX8_board 0 = .ok (.iload_n 1, 1) := by decide +kernel
theorem dX8_board_1 : decode cX8_board 1 = .ok (.iload_n 2, 1) := by decide +kernel
theorem dX8_board_2 : decode cX8_board 2 = .ok (.lload_n 3, 1) := by decide +kernel
theorem dX8_board_3 : decode cX8_board 3 = .ok (.lload 5, 2) := by decide +kernel
theorem dX8_board_5 : decode cX8_board 5 = .ok (.lload 7, 2) := by decide +kernel
theorem dX8_board_7 : decode cX8_board 7 = .ok (.invokestatic 121, 3) := by decide +kernel
theorem dX8_board_10 : decode cX8_board 10 = .ok (.ifCond .ne 6, 3) := by decide +kernel
theorem dX8_board_13 : decode cX8_board 13 = .ok (.bipush (-2), 2) := by decide +kernel
theorem dX8_board_15 : decode cX8_board 15 = .ok (.ireturn, 1) := by decide +kernel
theorem dX8_board_16 : decode cX8_board 16 = .ok (.aload_n 0, 1) := by decide +kernel
theorem dX8_board_17 : decode cX8_board 17 = .ok (.getfield 21, 3) := by decide +kernel
theorem dX8_board_20 : decode cX8_board 20 = .ok (.iload_n 1, 1) := by decide +kernel
theorem dX8_board_21 : decode cX8_board 21 = .ok (.iload_n 2, 1) := by decide +kernel
theorem dX8_board_22 : decode cX8_board 22 = .ok (.lload_n 3, 1) := by decide +kernel
theorem dX8_board_23 : decode cX8_board 23 = .ok (.lload 5, 2) := by decide +kernel
theorem dX8_board_25 : decode cX8_board 25 = .ok (.lload 7, 2) := by decide +kernel
theorem dX8_board_27 : decode cX8_board 27 = .ok (.invokevirtual 147, 3) := by decide +kernel
theorem dX8_board_30 : decode cX8_board 30 = .ok (.iconst 1, 1) := by decide +kernel
theorem dX8_board_31 : decode cX8_board 31 = .ok (.ireturn, 1) := by decide +kernel
set_option maxRecDepth 20000 in
theorem ggX8_move_X4_ways : GoodIn wsX8_move wsX4_ways := goodIn_r _ [6, 7, 8, 9, 10, 5, 11, 173, 174, 175, 176, 177, 178, 179, 180, 181] (by decide +kernel) (by decide +kernel)
set_option maxRecDepth 20000 in
theorem gX8_move_X4_ways : GoodIn wsX8_move (wsV RX8 151 RX4 yX4_ways wsX4_ways) := goodIn_app (goodIn_of _ (by decide +kernel)) ggX8_move_X4_ways
set_option maxRecDepth 20000 in
theorem ggX8_move_X8_isWithin : GoodIn wsX8_move wsX8_isWithin := goodIn_r _ [15] (by decide +kernel) (by decide +kernel)
set_option maxRecDepth 20000 in
theorem gX8_move_X8_isWithin : GoodIn wsX8_move (va_wsS RX8 56 yX8_isWithin wsX8_isWithin) := goodIn_app (goodIn_of _ (by decide +kernel)) ggX8_move_X8_isWithin
set_option maxRecDepth 20000 in
theorem ggX8_move_X4_mayTake : GoodIn wsX8_move wsX4_mayTake := goodIn_r _ [19, 20, 21, 7, 8, 9, 10, 5, 11, 22, 23, 24, 25, 26, 27, 28, 29, 30, 31, 32, 33, 34, 35, 36, 37, 38, 39, 173, 174, 175, 176, 177, 178, 179, 180, 181] (by decide +kernel) (by decide +kernel)
set_option maxRecDepth 20000 in
theorem gX8_move_X4_mayTake : GoodIn wsX8_move (wsV RX8 155 RX4 yX4_mayTake wsX4_mayTake) := goodIn_app (goodIn_of _ (by decide +kernel)) ggX8_move_X4_mayTake
set_option maxRecDepth 20000 in
theorem ggX8_move_X4_take : GoodIn wsX8_move wsX4_take := goodIn_r _ [43, 20, 44, 36, 45, 46, 47, 48, 5, 49, 7, 50, 35, 21, 51, 26, 27, 28, 29, 30, 31, 32, 33, 34, 37, 38, 39, 52, 53, 54, 55, 56, 57, 58, 59, 60, 61, 62, 63, 64, 65, 66, 67, 68, 69, 70, 71, 72, 73, 74, 75, 76, 77, 78, 79, 80, 81, 82, 83, 84, 85, 86, 87, 88, 89, 90, 91, 92, 13, 14, 15, 93, 94, 95, 96, 97, 98, 99, 100, 101, 102, 103, 104, 105, 106, 107, 108, 109, 110, 111, 112, 113, 114, 115, 116, 117, 118, 119, 120, 121, 122, 123, 124, 125, 126, 127, 128, 129, 130, 131, 132, 133, 134, 135, 136, 137, 138, 139, 140, 141, 142, 143, 144, 145, 146, 147, 148, 149, 150, 151, 152, 153, 154, 155, 156, 157, 158, 159, 160, 161, 162, 163, 164, 165, 166, 8, 9, 10, 11, 22, 23, 24, 25, 173, 174, 175, 176, 177, 178, 179, 180, 181, 182, 183, 184, 185, 186, 187, 188, 189, 190, 191, 192, 193, 194] (by decide +kernel) (by decide +kernel)
set_option maxRecDepth 20000 in
theorem gX8_move_X4_take : GoodIn wsX8_move (wsV RX8 159 RX4 yX4_take wsX4_take) := goodIn_app (goodIn_of _ (by decide +kernel)) ggX8_move_X4_take
set_option maxRecDepth 20000 in
theorem ggX8_move_X4_isOver : GoodIn wsX8_move wsX4_isOver := goodIn_r _ [170, 7, 21, 26, 27, 28, 5, 29, 20, 30, 31, 32, 33, 34, 35, 36, 37, 38, 39, 173, 174, 175, 176, 177, 178, 179, 180, 181] (by decide +kernel) (by decide +kernel)
set_option maxRecDepth 20000 in
theorem gX8_move_X4_isOver : GoodIn wsX8_move (wsV RX8 163 RX4 yX4_isOver wsX4_isOver) := goodIn_app (goodIn_of _ (by decide +kernel)) ggX8_move_X4_isOver
theorem dX8_move_0 : decode cX8_move 0 = .ok (.iload_n 1, 1) := by decide +kernel
theorem dX8_move_1 : decode cX8_move 1 = .ok (.i2l, 1) := by decide +kernel
theorem dX8_move_2 : decode cX8_move 2 = .ok (.lconst 0, 1) := by decide +kernel
theorem dX8_move_3 : decode cX8_move 3 = .ok (.aload_n 0, 1) := by decide +kernel
theorem dX8_move_4 : decode cX8_move 4 = .ok (.getfield 21, 3) := by decide +kernel
theorem dX8_move_7 : decode cX8_move 7 = .ok (.invokevirtual 151, 3) := by decide +kernel
theorem dX8_move_10 : decode cX8_move 10 = .ok (.iconst 1, 1) := by decide +kernel
theorem dX8_move_11 : decode cX8_move 11 = .ok (.isub, 1) := by decide +kernel
theorem dX8_move_12 : decode cX8_move 12 = .ok (.i2l, 1) := by decide +kernel
theorem dX8_move_13 : decode cX8_move 13 = .ok (.invokestatic 56, 3) := by decide +kernel
theorem dX8_move_16 : decode cX8_move 16 = .ok (.ifCond .ne 6, 3) := by decide +kernel
theorem dX8_move_19 : decode cX8_move 19 = .ok (.bipush (-2), 2) := by decide +kernel
theorem dX8_move_21 : decode cX8_move 21 = .ok (.ireturn, 1) := by decide +kernel
theorem dX8_move_22 : decode cX8_move 22 = .ok (.aload_n 0, 1) := by decide +kernel
theorem dX8_move_23 : decode cX8_move 23 = .ok (.getfield 21, 3) := by decide +kernel
theorem dX8_move_26 : decode cX8_move 26 = .ok (.iload_n 1, 1) := by decide +kernel
theorem dX8_move_27 : decode cX8_move 27 = .ok (.lload_n 2, 1) := by decide +kernel
theorem dX8_move_28 : decode cX8_move 28 = .ok (.invokevirtual 155, 3) := by decide +kernel
theorem dX8_move_31 : decode cX8_move 31 = .ok (.ifCond .ne 6, 3) := by decide +kernel
theorem dX8_move_34 : decode cX8_move 34 = .ok (.bipush (-3), 2) := by decide +kernel
theorem dX8_move_36 : decode cX8_move 36 = .ok (.ireturn, 1) := by decide +kernel
theorem dX8_move_37 : decode cX8_move 37 = .ok (.aload_n 0, 1) := by decide +kernel
theorem dX8_move_38 : decode cX8_move 38 = .ok (.getfield 21, 3) := by decide +kernel
theorem dX8_move_41 : decode cX8_move 41 = .ok (.iload_n 1, 1) := by decide +kernel
theorem dX8_move_42 : decode cX8_move 42 = .ok (.lload_n 2, 1) := by decide +kernel
theorem dX8_move_43 : decode cX8_move 43 = .ok (.invokevirtual 159, 3) := by decide +kernel
theorem dX8_move_46 : decode cX8_move 46 = .ok (.aload_n 0, 1) := by decide +kernel
theorem dX8_move_47 : decode cX8_move 47 = .ok (.getfield 21, 3) := by decide +kernel
theorem dX8_move_50 : decode cX8_move 50 = .ok (.invokevirtual 163, 3) := by decide +kernel
theorem dX8_move_53 : decode cX8_move 53 = .ok (.ifCond .eq 7, 3) := by decide +kernel
theorem dX8_move_56 : decode cX8_move 56 = .ok (.iconst 2, 1) := by decide +kernel
theorem dX8_move_57 : decode cX8_move 57 = .ok (.goto 4, 3) := by decide +kernel
theorem dX8_move_60 : decode cX8_move 60 = .ok (.iconst 1, 1) := by decide +kernel
theorem dX8_move_61 : decode cX8_move 61 = .ok (.ireturn, 1) := by decide +kernel
set_option maxRecDepth 20000 in
theorem ggX8_undo_X4_takeBack : GoodIn wsX8_undo wsX4_takeBack := goodIn_r _ [6, 7, 8, 9, 10, 11, 12, 5, 13, 14, 15, 16, 17, 18, 19, 20, 21, 22, 23, 30, 31, 32, 33, 34, 35, 36, 37, 38] (by decide +kernel) (by decide +kernel)
set_option maxRecDepth 20000 in
theorem gX8_undo_X4_takeBack : GoodIn wsX8_undo (wsV RX8 167 RX4 yX4_takeBack wsX4_takeBack) := goodIn_app (goodIn_of _ (by decide +kernel)) ggX8_undo_X4_takeBack
set_option maxRecDepth 20000 in
theorem ggX8_undo_X4_movesMade : GoodIn wsX8_undo wsX4_movesMade := goodIn_r _ [27, 7, 30, 31, 32, 33, 34, 35, 36, 37, 38] (by decide +kernel) (by decide +kernel)
set_option maxRecDepth 20000 in
theorem gX8_undo_X4_movesMade : GoodIn wsX8_undo (wsV RX8 170 RX4 yX4_movesMade wsX4_movesMade) := goodIn_app (goodIn_of _ (by decide +kernel)) ggX8_undo_X4_movesMade
theorem dX8_undo_0 : decode cX8_undo 0 = .ok (.aload_n 0, 1) := by decide +kernel
theorem dX8_undo_1 : decode cX8_undo 1 = .ok (.getfield 21, 3) := by decide +kernel
theorem dX8_undo_4 : decode cX8_undo 4 = .ok (.invokevirtual 167, 3) := by decide +kernel
theorem dX8_undo_7 : decode cX8_undo 7 = .ok (.ifCond .eq 13, 3) := by decide +kernel
theorem dX8_undo_10 : decode cX8_undo 10 = .ok (.aload_n 0, 1) := by decide +kernel
theorem dX8_undo_11 : decode cX8_undo 11 = .ok (.getfield 21, 3) := by decide +kernel
theorem dX8_undo_14 : decode cX8_undo 14 = .ok (.invokevirtual 170, 3) := by decide +kernel
theorem dX8_undo_17 : decode cX8_undo 17 = .ok (.goto 5, 3) := by decide +kernel
theorem dX8_undo_20 : decode cX8_undo 20 = .ok (.bipush (-3), 2) := by decide +kernel
theorem dX8_undo_22 : decode cX8_undo 22 = .ok (.ireturn, 1) := by decide +kernel
set_option maxRecDepth 20000 in
theorem ggX8_about_X4_tell : GoodIn wsX8_about wsX4_tell := goodIn_r _ [6, 7, 8, 9, 10, 11, 12, 13, 5, 14, 15, 16, 17, 18, 19, 20, 21, 22, 23, 24, 25, 26, 27, 28, 29, 30, 31, 32, 33, 34, 35, 36, 37, 38, 39, 40, 41, 42, 43, 44, 45, 46, 47, 48, 49, 50, 51, 52, 53, 54, 55, 56, 57, 58, 59, 60, 61, 62, 63, 64, 65, 66, 67, 68, 69, 70, 71, 72, 73, 74, 75, 76, 77, 78, 79, 80, 81, 82, 83, 84, 85, 86, 87, 88, 89, 90, 91, 92, 93, 94, 95, 96, 97, 98, 99, 100, 101, 102, 103, 104, 105, 106, 107, 108, 109, 110, 111, 112, 113, 114, 115, 116, 117, 118, 119, 120, 121, 122, 123, 124, 125, 126, 127, 128, 129, 130, 131, 132, 133, 134, 135, 136, 137, 138, 139, 140, 141, 142, 143, 144, 145, 146, 147, 148, 149, 152, 153, 154, 155, 156, 157, 158, 159, 160, 161, 162, 163, 164, 165, 166, 167, 168, 169, 170, 171, 172, 173] (by decide +kernel) (by decide +kernel)
set_option maxRecDepth 20000 in
theorem gX8_about_X4_tell : GoodIn wsX8_about (wsV RX8 173 RX4 yX4_tell wsX4_tell) := goodIn_app (goodIn_of _ (by decide +kernel)) ggX8_about_X4_tell
theorem dX8_about_0 : decode cX8_about 0 = .ok (.aload_n 0, 1) := by decide +kernel
theorem dX8_about_1 : decode cX8_about 1 = .ok (.getfield 21, 3) := by decide +kernel
theorem dX8_about_4 : decode cX8_about 4 = .ok (.iload_n 1, 1) := by decide +kernel
theorem dX8_about_5 : decode cX8_about 5 = .ok (.invokevirtual 173, 3) := by decide +kernel
theorem dX8_about_8 : decode cX8_about 8 = .ok (.lreturn, 1) := by decide +kernel
set_option maxRecDepth 20000 in
theorem ggX8_digest_X4_tell : GoodIn wsX8_digest wsX4_tell := goodIn_r _ [8, 9, 10, 11, 12, 13, 14, 15, 7, 16, 17, 18, 19, 20, 21, 22, 23, 24, 25, 26, 27, 28, 29, 30, 31, 32, 33, 34, 35, 36, 37, 38, 39, 40, 41, 42, 43, 44, 45, 46, 47, 48, 49, 50, 51, 52, 53, 54, 55, 56, 57, 58, 59, 60, 61, 62, 63, 64, 65, 66, 67, 68, 69, 70, 71, 72, 73, 74, 75, 76, 77, 78, 79, 80, 81, 82, 83, 84, 85, 86, 87, 88, 89, 90, 91, 92, 93, 94, 95, 96, 97, 98, 99, 100, 101, 102, 103, 104, 105, 106, 107, 108, 109, 110, 111, 112, 113, 114, 115, 116, 117, 118, 119, 120, 121, 122, 123, 124, 125, 126, 127, 128, 129, 130, 131, 132, 133, 134, 135, 136, 137, 138, 139, 140, 141, 142, 143, 144, 145, 146, 147, 148, 149, 150, 151, 154, 155, 156, 157, 158, 159, 160, 161, 162, 163, 164, 165, 166, 167, 168, 169, 170, 171, 172, 173, 174, 175] (by decide +kernel) (by decide +kernel)
set_option maxRecDepth 20000 in
theorem gX8_digest_X4_tell : GoodIn wsX8_digest (wsV RX8 173 RX4 yX4_tell wsX4_tell) := goodIn_app (goodIn_of _ (by decide +kernel)) ggX8_digest_X4_tell
theorem dX8_digest_0 : decode cX8_digest 0 = .ok (.ldc2_w 176, 3) := by decide +kernel
theorem dX8_digest_3 : decode cX8_digest 3 = .ok (.lstore_n 1, 1) := by decide +kernel
theorem dX8_digest_4 : decode cX8_digest 4 = .ok (.iconst 0, 1) := by decide +kernel
theorem dX8_digest_5 : decode cX8_digest 5 = .ok (.istore_n 3, 1) := by decide +kernel
theorem dX8_digest_6 : decode cX8_digest 6 = .ok (.iload_n 3, 1) := by decide +kernel
theorem dX8_digest_7 : decode cX8_digest 7 = .ok (.bipush 9, 2) := by decide +kernel
theorem dX8_digest_9 : decode cX8_digest 9 = .ok (.if_icmp .ge 24, 3) := by decide +kernel
theorem dX8_digest_12 : decode cX8_digest 12 = .ok (.ldc2_w 178, 3) := by decide +kernel
theorem dX8_digest_15 : decode cX8_digest 15 = .ok (.lload_n 1, 1) := by decide +kernel
theorem dX8_digest_16 : decode cX8_digest 16 = .ok (.lmul, 1) := by decide +kernel
theorem dX8_digest_17 : decode cX8_digest 17 = .ok (.aload_n 0, 1) := by decide +kernel
theorem dX8_digest_18 : decode cX8_digest 18 = .ok (.getfield 21, 3) := by decide +kernel
theorem dX8_digest_21 : decode cX8_digest 21 = .ok (.iload_n 3, 1) := by decide +kernel
theorem dX8_digest_22 : decode cX8_digest 22 = .ok (.invokevirtual 173, 3) := by decide +kernel
theorem dX8_digest_25 : decode cX8_digest 25 = .ok (.ladd, 1) := by decide +kernel
theorem dX8_digest_26 : decode cX8_digest 26 = .ok (.lstore_n 1, 1) := by decide +kernel
theorem dX8_digest_27 : decode cX8_digest 27 = .ok (.iinc 3 1, 3) := by decide +kernel
theorem dX8_digest_30 : decode cX8_digest 30 = .ok (.goto (-24), 3) := by decide +kernel
theorem dX8_digest_33 : decode cX8_digest 33 = .ok (.lload_n 1, 1) := by decide +kernel
theorem dX8_digest_34 : decode cX8_digest 34 = .ok (.lreturn, 1) := by decide +kernel
theorem dX8_isWithin_0 : decode cX8_isWithin 0 = .ok (.lload_n 0, 1) := by decide +kernel
theorem dX8_isWithin_1 : decode cX8_isWithin 1 = .ok (.lload_n 2, 1) := by decide +kernel
theorem dX8_isWithin_2 : decode cX8_isWithin 2 = .ok (.lcmp, 1) := by decide +kernel
theorem dX8_isWithin_3 : decode cX8_isWithin 3 = .ok (.ifCond .lt 14, 3) := by decide +kernel
theorem dX8_isWithin_6 : decode cX8_isWithin 6 = .ok (.lload_n 0, 1) := by decide +kernel
theorem dX8_isWithin_7 : decode cX8_isWithin 7 = .ok (.lload 4, 2) := by decide +kernel
theorem dX8_isWithin_9 : decode cX8_isWithin 9 = .ok (.lcmp, 1) := by decide +kernel
theorem dX8_isWithin_10 : decode cX8_isWithin 10 = .ok (.ifCond .gt 7, 3) := by decide +kernel
theorem dX8_isWithin_13 : decode cX8_isWithin 13 = .ok (.iconst 1, 1) := by decide +kernel
theorem dX8_isWithin_14 : decode cX8_isWithin 14 = .ok (.goto 4, 3) := by decide +kernel
theorem dX8_isWithin_17 : decode cX8_isWithin 17 = .ok (.iconst 0, 1) := by decide +kernel
theorem dX8_isWithin_18 : decode cX8_isWithin 18 = .ok (.ireturn, 1) := by decide +kernel
set_option maxRecDepth 20000 in
theorem ggX8_isHeap_X8_isWithin : GoodIn wsX8_isHeap wsX8_isWithin := goodIn_r _ [5] (by decide +kernel) (by decide +kernel)
set_option maxRecDepth 20000 in
theorem gX8_isHeap_X8_isWithin : GoodIn wsX8_isHeap (va_wsS RX8 56 yX8_isWithin wsX8_isWithin) := goodIn_app (goodIn_of _ (by decide +kernel)) ggX8_isHeap_X8_isWithin
theorem dX8_isHeap_0 : decode cX8_isHeap 0 = .ok (.lload_n 0, 1) := by decide +kernel
theorem dX8_isHeap_1 : decode cX8_isHeap 1 = .ok (.lconst 0, 1) := by decide +kernel
theorem dX8_isHeap_2 : decode cX8_isHeap 2 = .ok (.ldc2_w 109, 3) := by decide +kernel
theorem dX8_isHeap_5 : decode cX8_isHeap 5 = .ok (.invokestatic 56, 3) := by decide +kernel
theorem dX8_isHeap_8 : decode cX8_isHeap 8 = .ok (.ireturn, 1) := by decide +kernel
set_option maxRecDepth 20000 in
theorem ggX8_isFactor_X8_isWithin : GoodIn wsX8_isFactor wsX8_isWithin := goodIn_r _ [5] (by decide +kernel) (by decide +kernel)
set_option maxRecDepth 20000 in
theorem gX8_isFactor_X8_isWithin : GoodIn wsX8_isFactor (va_wsS RX8 56 yX8_isWithin wsX8_isWithin) := goodIn_app (goodIn_of _ (by decide +kernel)) ggX8_isFactor_X8_isWithin
theorem dX8_isFactor_0 : decode cX8_isFactor 0 = .ok (.lload_n 0, 1) := by decide +kernel
theorem dX8_isFactor_1 : decode cX8_isFactor 1 = .ok (.lconst 1, 1) := by decide +kernel
theorem dX8_isFactor_2 : decode cX8_isFactor 2 = .ok (.ldc2_w 180, 3) := by decide +kernel
theorem dX8_isFactor_5 : decode cX8_isFactor 5 = .ok (.invokestatic 56, 3) := by decide +kernel
theorem dX8_isFactor_8 : decode cX8_isFactor 8 = .ok (.ireturn, 1) := by decide +kernel
theorem dX8_mostByAll_0 : decode cX8_mostByAll 0 = .ok (.iload_n 0, 1) := by decide +kernel
theorem dX8_mostByAll_1 : decode cX8_mostByAll 1 = .ok (.ifCond .eq 8, 3) := by decide +kernel
theorem dX8_mostByAll_4 : decode cX8_mostByAll 4 = .ok (.iload_n 0, 1) := by decide +kernel
theorem dX8_mostByAll_5 : decode cX8_mostByAll 5 = .ok (.iconst 1, 1) := by decide +kernel
theorem dX8_mostByAll_6 : decode cX8_mostByAll 6 = .ok (.if_icmp .ne 6, 3) := by decide +kernel
theorem dX8_mostByAll_9 : decode cX8_mostByAll 9 = .ok (.bipush 60, 2) := by decide +kernel
theorem dX8_mostByAll_11 : decode cX8_mostByAll 11 = .ok (.ireturn, 1) := by decide +kernel
theorem dX8_mostByAll_12 : decode cX8_mostByAll 12 = .ok (.iload_n 0, 1) := by decide +kernel
theorem dX8_mostByAll_13 : decode cX8_mostByAll 13 = .ok (.iconst 3, 1) := by decide +kernel
theorem dX8_mostByAll_14 : decode cX8_mostByAll 14 = .ok (.if_icmp .ne 8, 3) := by decide +kernel
theorem dX8_mostByAll_17 : decode cX8_mostByAll 17 = .ok (.bipush 10, 2) := by decide +kernel
theorem dX8_mostByAll_19 : decode cX8_mostByAll 19 = .ok (.goto 4, 3) := by decide +kernel
theorem dX8_mostByAll_22 : decode cX8_mostByAll 22 = .ok (.iconst (-1), 1) := by decide +kernel
theorem dX8_mostByAll_23 : decode cX8_mostByAll 23 = .ok (.ireturn, 1) := by decide +kernel
set_option maxRecDepth 20000 in
theorem ggX8_areHeapsOf_X8_isWithin : GoodIn wsX8_areHeapsOf wsX8_isWithin := goodIn_r _ [7] (by decide +kernel) (by decide +kernel)
set_option maxRecDepth 20000 in
theorem gX8_areHeapsOf_X8_isWithin : GoodIn wsX8_areHeapsOf (va_wsS RX8 56 yX8_isWithin wsX8_isWithin) := goodIn_app (goodIn_of _ (by decide +kernel)) ggX8_areHeapsOf_X8_isWithin
set_option maxRecDepth 20000 in
theorem ggX8_areHeapsOf_X8_isHeap : GoodIn wsX8_areHeapsOf wsX8_isHeap := goodIn_r _ [10, 2, 4, 5, 6, 7] (by decide +kernel) (by decide +kernel)
set_option maxRecDepth 20000 in
theorem gX8_areHeapsOf_X8_isHeap : GoodIn wsX8_areHeapsOf (va_wsS RX8 25 yX8_isHeap wsX8_isHeap) := goodIn_app (goodIn_of _ (by decide +kernel)) ggX8_areHeapsOf_X8_isHeap
set_option maxRecDepth 20000 in
theorem ggX8_areHeapsOf_X8_isFactor : GoodIn wsX8_areHeapsOf wsX8_isFactor := goodIn_r _ [13, 14, 4, 5, 6, 7] (by decide +kernel) (by decide +kernel)
set_option maxRecDepth 20000 in
theorem gX8_areHeapsOf_X8_isFactor : GoodIn wsX8_areHeapsOf (va_wsS RX8 86 yX8_isFactor wsX8_isFactor) := goodIn_app (goodIn_of _ (by decide +kernel)) ggX8_areHeapsOf_X8_isFactor
theorem dX8_areHeapsOf_0 : decode cX8_areHeapsOf 0 = .ok (.iload_n 0, 1) := by decide +kernel
theorem dX8_areHeapsOf_1 : decode cX8_areHeapsOf 1 = .ok (.tableswitch 139 0 3 #[31, 31, 73, 98], 31) := by decide +kernel
theorem dX8_areHeapsOf_32 : decode cX8_areHeapsOf 32 = .ok (.iload_n 1, 1) := by decide +kernel
theorem dX8_areHeapsOf_33 : decode cX8_areHeapsOf 33 = .ok (.ifCond .eq 9, 3) := by decide +kernel
theorem dX8_areHeapsOf_36 : decode cX8_areHeapsOf 36 = .ok (.ldc2_w 142, 3) := by decide +kernel
theorem dX8_areHeapsOf_39 : decode cX8_areHeapsOf 39 = .ok (.goto 6, 3) := by decide +kernel
theorem dX8_areHeapsOf_42 : decode cX8_areHeapsOf 42 = .ok (.ldc2_w 109, 3) := by decide +kernel
theorem dX8_areHeapsOf_45 : decode cX8_areHeapsOf 45 = .ok (.lstore 8, 2) := by decide +kernel
theorem dX8_areHeapsOf_47 : decode cX8_areHeapsOf 47 = .ok (.lload_n 2, 1) := by decide +kernel
theorem dX8_areHeapsOf_48 : decode cX8_areHeapsOf 48 = .ok (.lconst 0, 1) := by decide +kernel
theorem dX8_areHeapsOf_49 : decode cX8_areHeapsOf 49 = .ok (.lload 8, 2) := by decide +kernel
theorem dX8_areHeapsOf_51 : decode cX8_areHeapsOf 51 = .ok (.invokestatic 56, 3) := by decide +kernel
theorem dX8_areHeapsOf_54 : decode cX8_areHeapsOf 54 = .ok (.ifCond .eq 18, 3) := by decide +kernel
theorem dX8_areHeapsOf_57 : decode cX8_areHeapsOf 57 = .ok (.lload 4, 2) := by decide +kernel
theorem dX8_areHeapsOf_59 : decode cX8_areHeapsOf 59 = .ok (.lconst 0, 1) := by decide +kernel
theorem dX8_areHeapsOf_60 : decode cX8_areHeapsOf 60 = .ok (.lload 8, 2) := by decide +kernel
theorem dX8_areHeapsOf_62 : decode cX8_areHeapsOf 62 = .ok (.invokestatic 56, 3) := by decide +kernel
theorem dX8_areHeapsOf_65 : decode cX8_areHeapsOf 65 = .ok (.ifCond .eq 7, 3) := by decide +kernel
theorem dX8_areHeapsOf_68 : decode cX8_areHeapsOf 68 = .ok (.iconst 1, 1) := by decide +kernel
theorem dX8_areHeapsOf_69 : decode cX8_areHeapsOf 69 = .ok (.goto 4, 3) := by decide +kernel
theorem dX8_areHeapsOf_72 : decode cX8_areHeapsOf 72 = .ok (.iconst 0, 1) := by decide +kernel
theorem dX8_areHeapsOf_73 : decode cX8_areHeapsOf 73 = .ok (.ireturn, 1) := by decide +kernel
theorem dX8_areHeapsOf_74 : decode cX8_areHeapsOf 74 = .ok (.iload_n 1, 1) := by decide +kernel
theorem dX8_areHeapsOf_75 : decode cX8_areHeapsOf 75 = .ok (.ifCond .ne 22, 3) := by decide +kernel
theorem dX8_areHeapsOf_78 : decode cX8_areHeapsOf 78 = .ok (.lload_n 2, 1) := by decide +kernel
theorem dX8_areHeapsOf_79 : decode cX8_areHeapsOf 79 = .ok (.invokestatic 25, 3) := by decide +kernel
theorem dX8_areHeapsOf_82 : decode cX8_areHeapsOf 82 = .ok (.ifCond .eq 15, 3) := by decide +kernel
theorem dX8_areHeapsOf_85 : decode cX8_areHeapsOf 85 = .ok (.lload 4, 2) := by decide +kernel
theorem dX8_areHeapsOf_87 : decode cX8_areHeapsOf 87 = .ok (.invokestatic 86, 3) := by decide +kernel
theorem dX8_areHeapsOf_90 : decode cX8_areHeapsOf 90 = .ok (.ifCond .eq 7, 3) := by decide +kernel
theorem dX8_areHeapsOf_93 : decode cX8_areHeapsOf 93 = .ok (.iconst 1, 1) := by decide +kernel
theorem dX8_areHeapsOf_94 : decode cX8_areHeapsOf 94 = .ok (.goto 4, 3) := by decide +kernel
theorem dX8_areHeapsOf_97 : decode cX8_areHeapsOf 97 = .ok (.iconst 0, 1) := by decide +kernel
theorem dX8_areHeapsOf_98 : decode cX8_areHeapsOf 98 = .ok (.ireturn, 1) := by decide +kernel
theorem dX8_areHeapsOf_99 : decode cX8_areHeapsOf 99 = .ok (.lload_n 2, 1) := by decide +kernel
theorem dX8_areHeapsOf_100 : decode cX8_areHeapsOf 100 = .ok (.lconst 0, 1) := by decide +kernel
theorem dX8_areHeapsOf_101 : decode cX8_areHeapsOf 101 = .ok (.ldc2_w 182, 3) := by decide +kernel
theorem dX8_areHeapsOf_104 : decode cX8_areHeapsOf 104 = .ok (.invokestatic 56, 3) := by decide +kernel
theorem dX8_areHeapsOf_107 : decode cX8_areHeapsOf 107 = .ok (.ifCond .eq 31, 3) := by decide +kernel
theorem dX8_areHeapsOf_110 : decode cX8_areHeapsOf 110 = .ok (.lload 4, 2) := by decide +kernel
theorem dX8_areHeapsOf_112 : decode cX8_areHeapsOf 112 = .ok (.lconst 0, 1) := by decide +kernel
theorem dX8_areHeapsOf_113 : decode cX8_areHeapsOf 113 = .ok (.ldc2_w 182, 3) := by decide +kernel
theorem dX8_areHeapsOf_116 : decode cX8_areHeapsOf 116 = .ok (.invokestatic 56, 3) := by decide +kernel
theorem dX8_areHeapsOf_119 : decode cX8_areHeapsOf 119 = .ok (.ifCond .eq 19, 3) := by decide +kernel
theorem dX8_areHeapsOf_122 : decode cX8_areHeapsOf 122 = .ok (.lload 6, 2) := by decide +kernel
theorem dX8_areHeapsOf_124 : decode cX8_areHeapsOf 124 = .ok (.lconst 0, 1) := by decide +kernel
theorem dX8_areHeapsOf_125 : decode cX8_areHeapsOf 125 = .ok (.ldc2_w 182, 3) := by decide +kernel
theorem dX8_areHeapsOf_128 : decode cX8_areHeapsOf 128 = .ok (.invokestatic 56, 3) := by decide +kernel
theorem dX8_areHeapsOf_131 : decode cX8_areHeapsOf 131 = .ok (.ifCond .eq 7, 3) := by decide +kernel
theorem dX8_areHeapsOf_134 : decode cX8_areHeapsOf 134 = .ok (.iconst 1, 1) := by decide +kernel
theorem dX8_areHeapsOf_135 : decode cX8_areHeapsOf 135 = .ok (.goto 4, 3) := by decide +kernel
theorem dX8_areHeapsOf_138 : decode cX8_areHeapsOf 138 = .ok (.iconst 0, 1) := by decide +kernel
theorem dX8_areHeapsOf_139 : decode cX8_areHeapsOf 139 = .ok (.ireturn, 1) := by decide +kernel
theorem dX8_areHeapsOf_140 : decode cX8_areHeapsOf 140 = .ok (.iconst 0, 1) := by decide +kernel
theorem dX8_areHeapsOf_141 : decode cX8_areHeapsOf 141 = .ok (.ireturn, 1) := by decide +kernel
theorem dX8_oneIf_0 : decode cX8_oneIf 0 = .ok (.iload_n 0, 1) := by decide +kernel
theorem dX8_oneIf_1 : decode cX8_oneIf 1 = .ok (.ifCond .eq 7, 3) := by decide +kernel
theorem dX8_oneIf_4 : decode cX8_oneIf 4 = .ok (.iconst 1, 1) := by decide +kernel
theorem dX8_oneIf_5 : decode cX8_oneIf 5 = .ok (.goto 4, 3) := by decide +kernel
theorem dX8_oneIf_8 : decode cX8_oneIf 8 = .ok (.iconst 0, 1) := by decide +kernel
theorem dX8_oneIf_9 : decode cX8_oneIf 9 = .ok (.ireturn, 1) := by decide +kernel
theorem dX9_init_0 : decode cX9_init 0 = .ok (.aload_n 0, 1) := by decide +kernel
theorem dX9_init_1 : decode cX9_init 1 = .ok (.invokespecial 1, 3) := by decide +kernel
theorem dX9_init_4 : decode cX9_init 4 = .ok (.aload_n 0, 1) := by decide +kernel
theorem dX9_init_5 : decode cX9_init 5 = .ok (.bipush 64, 2) := by decide +kernel
theorem dX9_init_7 : decode cX9_init 7 = .ok (.newarray .long, 2) := by decide +kernel
theorem dX9_init_9 : decode cX9_init 9 = .ok (.putfield 7, 3) := by decide +kernel
theorem dX9_init_12 : decode cX9_init 12 = .ok (.aload_n 0, 1) := by decide +kernel
theorem dX9_init_13 : decode cX9_init 13 = .ok (.sipush 500, 3) := by decide +kernel
theorem dX9_init_16 : decode cX9_init 16 = .ok (.newarray .long, 2) := by decide +kernel
theorem dX9_init_18 : decode cX9_init 18 = .ok (.putfield 13, 3) := by decide +kernel
theorem dX9_init_21 : decode cX9_init 21 = .ok (.aload_n 0, 1) := by decide +kernel
theorem dX9_init_22 : decode cX9_init 22 = .ok (.sipush 14884, 3) := by decide +kernel
theorem dX9_init_25 : decode cX9_init 25 = .ok (.newarray .boolean, 2) := by decide +kernel
theorem dX9_init_27 : decode cX9_init 27 = .ok (.putfield 16, 3) := by decide +kernel
theorem dX9_init_30 : decode cX9_init 30 = .ok (.aload_n 0, 1) := by decide +kernel
theorem dX9_init_31 : decode cX9_init 31 = .ok (.iconst 4, 1) := by decide +kernel
theorem dX9_init_32 : decode cX9_init 32 = .ok (.newarray .boolean, 2) := by decide +kernel
theorem dX9_init_34 : decode cX9_init 34 = .ok (.putfield 20, 3) := by decide +kernel
theorem dX9_init_37 : decode cX9_init 37 = .ok (.aload_n 0, 1) := by decide +kernel
theorem dX9_init_38 : decode cX9_init 38 = .ok (.sipush 2662, 3) := by decide +kernel
theorem dX9_init_41 : decode cX9_init 41 = .ok (.newarray .boolean, 2) := by decide +kernel
theorem dX9_init_43 : decode cX9_init 43 = .ok (.putfield 23, 3) := by decide +kernel
theorem dX9_init_46 : decode cX9_init 46 = .ok (.aload_n 0, 1) := by decide +kernel
theorem dX9_init_47 : decode cX9_init 47 = .ok (.iconst 2, 1) := by decide +kernel
theorem dX9_init_48 : decode cX9_init 48 = .ok (.newarray .boolean, 2) := by decide +kernel
theorem dX9_init_50 : decode cX9_init 50 = .ok (.putfield 26, 3) := by decide +kernel
theorem dX9_init_53 : decode cX9_init 53 = .ok (.aload_n 0, 1) := by decide +kernel
theorem dX9_init_54 : decode cX9_init 54 = .ok (.sipush 3721, 3) := by decide +kernel
theorem dX9_init_57 : decode cX9_init 57 = .ok (.newarray .boolean, 2) := by decide +kernel
theorem dX9_init_59 : decode cX9_init 59 = .ok (.putfield 29, 3) := by decide +kernel
theorem dX9_init_62 : decode cX9_init 62 = .ok (.aload_n 0, 1) := by decide +kernel
theorem dX9_init_63 : decode cX9_init 63 = .ok (.iconst 1, 1) := by decide +kernel
theorem dX9_init_64 : decode cX9_init 64 = .ok (.putfield 32, 3) := by decide +kernel
theorem dX9_init_67 : decode cX9_init 67 = .ok (.aload_n 0, 1) := by decide +kernel
theorem dX9_init_68 : decode cX9_init 68 = .ok (.sipush 603, 3) := by decide +kernel
theorem dX9_init_71 : decode cX9_init 71 = .ok (.newarray .long, 2) := by decide +kernel
theorem dX9_init_73 : decode cX9_init 73 = .ok (.putfield 36, 3) := by decide +kernel
theorem dX9_init_76 : decode cX9_init 76 = .ok (.aload_n 0, 1) := by decide +kernel
theorem dX9_init_77 : decode cX9_init 77 = .ok (.sipush 201, 3) := by decide +kernel
theorem dX9_init_80 : decode cX9_init 80 = .ok (.newarray .long, 2) := by decide +kernel
theorem dX9_init_82 : decode cX9_init 82 = .ok (.putfield 39, 3) := by decide +kernel
theorem dX9_init_85 : decode cX9_init 85 = .ok (.aload_n 0, 1) := by decide +kernel
theorem dX9_init_86 : decode cX9_init 86 = .ok (.sipush 201, 3) := by decide +kernel
theorem dX9_init_89 : decode cX9_init 89 = .ok (.newarray .int, 2) := by decide +kernel
theorem dX9_init_91 : decode cX9_init 91 = .ok (.putfield 42, 3) := by decide +kernel
theorem dX9_init_94 : decode cX9_init 94 = .ok (.aload_n 0, 1) := by decide +kernel
theorem dX9_init_95 : decode cX9_init 95 = .ok (.getfield 7, 3) := by decide +kernel
theorem dX9_init_98 : decode cX9_init 98 = .ok (.iconst 0, 1) := by decide +kernel
theorem dX9_init_99 : decode cX9_init 99 = .ok (.lconst 1, 1) := by decide +kernel
theorem dX9_init_100 : decode cX9_init 100 = .ok (.lastore, 1) := by decide +kernel
theorem dX9_init_101 : decode cX9_init 101 = .ok (.aload_n 0, 1) := by decide +kernel
theorem dX9_init_102 : decode cX9_init 102 = .ok (.getfield 7, 3) := by decide +kernel
theorem dX9_init_105 : decode cX9_init 105 = .ok (.iconst 1, 1) := by decide +kernel
theorem dX9_init_106 : decode cX9_init 106 = .ok (.ldc2_w 46, 3) := by decide +kernel
theorem dX9_init_109 : decode cX9_init 109 = .ok (.lastore, 1) := by decide +kernel
theorem dX9_init_110 : decode cX9_init 110 = .ok (.iconst 2, 1) := by decide +kernel
theorem dX9_init_111 : decode cX9_init 111 = .ok (.istore_n 1, 1) := by decide +kernel
theorem dX9_init_112 : decode cX9_init 112 = .ok (.iload_n 1, 1) := by decide +kernel
theorem dX9_init_113 : decode cX9_init 113 = .ok (.bipush 64, 2) := by decide +kernel
theorem dX9_init_115 : decode cX9_init 115 = .ok (.if_icmp .ge 32, 3) := by decide +kernel
theorem dX9_init_118 : decode cX9_init 118 = .ok (.aload_n 0, 1) := by decide +kernel
theorem dX9_init_119 : decode cX9_init 119 = .ok (.getfield 7, 3) := by decide +kernel
theorem dX9_init_122 : decode cX9_init 122 = .ok (.iload_n 1, 1) := by decide +kernel
theorem dX9_init_123 : decode cX9_init 123 = .ok (.aload_n 0, 1) := by decide +kernel
theorem dX9_init_124 : decode cX9_init 124 = .ok (.getfield 7, 3) := by decide +kernel
theorem dX9_init_127 : decode cX9_init 127 = .ok (.iload_n 1, 1) := by decide +kernel
theorem dX9_init_128 : decode cX9_init 128 = .ok (.iconst 1, 1) := by decide +kernel
theorem dX9_init_129 : decode cX9_init 129 = .ok (.isub, 1) := by decide +kernel
theorem dX9_init_130 : decode cX9_init 130 = .ok (.laload, 1) := by decide +kernel
theorem dX9_init_131 : decode cX9_init 131 = .ok (.aload_n 0, 1) := by decide +kernel
theorem dX9_init_132 : decode cX9_init 132 = .ok (.getfield 7, 3) := by decide +kernel
theorem dX9_init_135 : decode cX9_init 135 = .ok (.iload_n 1, 1) := by decide +kernel
theorem dX9_init_136 : decode cX9_init 136 = .ok (.iconst 2, 1) := by decide +kernel
theorem dX9_init_137 : decode cX9_init 137 = .ok (.isub, 1) := by decide +kernel
theorem dX9_init_138 : decode cX9_init 138 = .ok (.laload, 1) := by decide +kernel
theorem dX9_init_139 : decode cX9_init 139 = .ok (.ladd, 1) := by decide +kernel
theorem dX9_init_140 : decode cX9_init 140 = .ok (.lastore, 1) := by decide +kernel
theorem dX9_init_141 : decode cX9_init 141 = .ok (.iinc 1 1, 3) := by decide +kernel
theorem dX9_init_144 : decode cX9_init 144 = .ok (.goto (-32), 3) := by decide +kernel
theorem dX9_init_147 : decode cX9_init 147 = .ok (.return_, 1) := by decide +kernel
theorem dX9_in_0 : decode cX9_in 0 = .ok (.lload_n 0, 1) := by decide +kernel
theorem dX9_in_1 : decode cX9_in 1 = .ok (.lload_n 2, 1) := by decide +kernel
theorem dX9_in_2 : decode cX9_in 2 = .ok (.lcmp, 1) := by decide +kernel
theorem dX9_in_3 : decode cX9_in 3 = .ok (.ifCond .lt 14, 3) := by decide +kernel
theorem dX9_in_6 : decode cX9_in 6 = .ok (.lload_n 0, 1) := by decide +kernel
theorem dX9_in_7 : decode cX9_in 7 = .ok (.lload 4, 2) := by decide +kernel
theorem dX9_in_9 : decode cX9_in 9 = .ok (.lcmp, 1) := by decide +kernel
theorem dX9_in_10 : decode cX9_in 10 = .ok (.ifCond .gt 7, 3) := by decide +kernel
theorem dX9_in_13 : decode cX9_in 13 = .ok (.iconst 1, 1) := by decide +kernel
theorem dX9_in_14 : decode cX9_in 14 = .ok (.goto 4, 3) := by decide +kernel
theorem dX9_in_17 : decode cX9_in 17 = .ok (.iconst 0, 1) := by decide +kernel
theorem dX9_in_18 : decode cX9_in 18 = .ok (.ireturn, 1) := by decide +kernel
set_option maxRecDepth 20000 in
theorem ggX9_isHeap_X9_in : GoodIn wsX9_isHeap wsX9_in := goodIn_r _ [5] (by decide +kernel) (by decide +kernel)
set_option maxRecDepth 20000 in
theorem gX9_isHeap_X9_in : GoodIn wsX9_isHeap (va_wsS RX9 50 yX9_in wsX9_in) := goodIn_app (goodIn_of _ (by decide +kernel)) ggX9_isHeap_X9_in
theorem dX9_isHeap_0 : decode cX9_isHeap 0 = .ok (.lload_n 0, 1) := by decide +kernel
theorem dX9_isHeap_1 : decode cX9_isHeap 1 = .ok (.lconst 0, 1) := by decide +kernel
theorem dX9_isHeap_2 : decode cX9_isHeap 2 = .ok (.ldc2_w 48, 3) := by decide +kernel
theorem dX9_isHeap_5 : decode cX9_isHeap 5 = .ok (.invokestatic 50, 3) := by decide +kernel
theorem dX9_isHeap_8 : decode cX9_isHeap 8 = .ok (.ireturn, 1) := by decide +kernel
theorem dX9_isShares_0 : decode cX9_isShares 0 = .ok (.lload_n 0, 1) := by decide +kernel
theorem dX9_isShares_1 : decode cX9_isShares 1 = .ok (.lload_n 2, 1) := by decide +kernel
theorem dX9_isShares_2 : decode cX9_isShares 2 = .ok (.lcmp, 1) := by decide +kernel
theorem dX9_isShares_3 : decode cX9_isShares 3 = .ok (.ifCond .le 7, 3) := by decide +kernel
theorem dX9_isShares_6 : decode cX9_isShares 6 = .ok (.lload_n 0, 1) := by decide +kernel
theorem dX9_isShares_7 : decode cX9_isShares 7 = .ok (.goto 4, 3) := by decide +kernel
theorem dX9_isShares_10 : decode cX9_isShares 10 = .ok (.lload_n 2, 1) := by decide +kernel
theorem dX9_isShares_11 : decode cX9_isShares 11 = .ok (.lstore 4, 2) := by decide +kernel
theorem dX9_isShares_13 : decode cX9_isShares 13 = .ok (.lload_n 0, 1) := by decide +kernel
theorem dX9_isShares_14 : decode cX9_isShares 14 = .ok (.lload_n 2, 1) := by decide +kernel
theorem dX9_isShares_15 : decode cX9_isShares 15 = .ok (.lcmp, 1) := by decide +kernel
theorem dX9_isShares_16 : decode cX9_isShares 16 = .ok (.ifCond .le 7, 3) := by decide +kernel
theorem dX9_isShares_19 : decode cX9_isShares 19 = .ok (.lload_n 2, 1) := by decide +kernel
theorem dX9_isShares_20 : decode cX9_isShares 20 = .ok (.goto 4, 3) := by decide +kernel
theorem dX9_isShares_23 : decode cX9_isShares 23 = .ok (.lload_n 0, 1) := by decide +kernel
theorem dX9_isShares_24 : decode cX9_isShares 24 = .ok (.lstore 6, 2) := by decide +kernel
theorem dX9_isShares_26 : decode cX9_isShares 26 = .ok (.iconst 0, 1) := by decide +kernel
theorem dX9_isShares_27 : decode cX9_isShares 27 = .ok (.istore 8, 2) := by decide +kernel
theorem dX9_isShares_29 : decode cX9_isShares 29 = .ok (.lload 6, 2) := by decide +kernel
theorem dX9_isShares_31 : decode cX9_isShares 31 = .ok (.lconst 0, 1) := by decide +kernel
theorem dX9_isShares_32 : decode cX9_isShares 32 = .ok (.lcmp, 1) := by decide +kernel
theorem dX9_isShares_33 : decode cX9_isShares 33 = .ok (.ifCond .eq 64, 3) := by decide +kernel
theorem dX9_isShares_36 : decode cX9_isShares 36 = .ok (.lload 4, 2) := by decide +kernel
theorem dX9_isShares_38 : decode cX9_isShares 38 = .ok (.lload 6, 2) := by decide +kernel
theorem dX9_isShares_40 : decode cX9_isShares 40 = .ok (.lcmp, 1) := by decide +kernel
theorem dX9_isShares_41 : decode cX9_isShares 41 = .ok (.ifCond .eq 15, 3) := by decide +kernel
theorem dX9_isShares_44 : decode cX9_isShares 44 = .ok (.lload 4, 2) := by decide +kernel
theorem dX9_isShares_46 : decode cX9_isShares 46 = .ok (.ldc2_w 46, 3) := by decide +kernel
theorem dX9_isShares_49 : decode cX9_isShares 49 = .ok (.lload 6, 2) := by decide +kernel
theorem dX9_isShares_51 : decode cX9_isShares 51 = .ok (.lmul, 1) := by decide +kernel
theorem dX9_isShares_52 : decode cX9_isShares 52 = .ok (.lcmp, 1) := by decide +kernel
theorem dX9_isShares_53 : decode cX9_isShares 53 = .ok (.ifCond .lt 14, 3) := by decide +kernel
theorem dX9_isShares_56 : decode cX9_isShares 56 = .ok (.iload 8, 2) := by decide +kernel
theorem dX9_isShares_58 : decode cX9_isShares 58 = .ok (.ifCond .ne 7, 3) := by decide +kernel
theorem dX9_isShares_61 : decode cX9_isShares 61 = .ok (.iconst 1, 1) := by decide +kernel
theorem dX9_isShares_62 : decode cX9_isShares 62 = .ok (.goto 4, 3) := by decide +kernel
theorem dX9_isShares_65 : decode cX9_isShares 65 = .ok (.iconst 0, 1) := by decide +kernel
theorem dX9_isShares_66 : decode cX9_isShares 66 = .ok (.ireturn, 1) := by decide +kernel
theorem dX9_isShares_67 : decode cX9_isShares 67 = .ok (.lload 4, 2) := by decide +kernel
theorem dX9_isShares_69 : decode cX9_isShares 69 = .ok (.lload 6, 2) := by decide +kernel
theorem dX9_isShares_71 : decode cX9_isShares 71 = .ok (.lsub, 1) := by decide +kernel
theorem dX9_isShares_72 : decode cX9_isShares 72 = .ok (.lstore 9, 2) := by decide +kernel
theorem dX9_isShares_74 : decode cX9_isShares 74 = .ok (.lload 6, 2) := by decide +kernel
theorem dX9_isShares_76 : decode cX9_isShares 76 = .ok (.lstore 4, 2) := by decide +kernel
theorem dX9_isShares_78 : decode cX9_isShares 78 = .ok (.lload 9, 2) := by decide +kernel
theorem dX9_isShares_80 : decode cX9_isShares 80 = .ok (.lstore 6, 2) := by decide +kernel
theorem dX9_isShares_82 : decode cX9_isShares 82 = .ok (.iload 8, 2) := by decide +kernel
theorem dX9_isShares_84 : decode cX9_isShares 84 = .ok (.ifCond .ne 7, 3) := by decide +kernel
theorem dX9_isShares_87 : decode cX9_isShares 87 = .ok (.iconst 1, 1) := by decide +kernel
theorem dX9_isShares_88 : decode cX9_isShares 88 = .ok (.goto 4, 3) := by decide +kernel
theorem dX9_isShares_91 : decode cX9_isShares 91 = .ok (.iconst 0, 1) := by decide +kernel
theorem dX9_isShares_92 : decode cX9_isShares 92 = .ok (.istore 8, 2) := by decide +kernel
theorem dX9_isShares_94 : decode cX9_isShares 94 = .ok (.goto (-65), 3) := by decide +kernel
theorem dX9_isShares_97 : decode cX9_isShares 97 = .ok (.iload 8, 2) := by decide +kernel
theorem dX9_isShares_99 : decode cX9_isShares 99 = .ok (.ireturn, 1) := by decide +kernel
set_option maxRecDepth 20000 in
theorem ggX9_shares_X9_isHeap : GoodIn wsX9_shares wsX9_isHeap := goodIn_r _ [4, 5, 6, 7, 3, 8] (by decide +kernel) (by decide +kernel)
set_option maxRecDepth 20000 in
theorem gX9_shares_X9_isHeap : GoodIn wsX9_shares (va_wsS RX9 54 yX9_isHeap wsX9_isHeap) := goodIn_app (goodIn_of _ (by decide +kernel)) ggX9_shares_X9_isHeap
set_option maxRecDepth 20000 in
theorem ggX9_shares_X9_isShares : GoodIn wsX9_shares wsX9_isShares := goodIn_r _ [11, 12] (by decide +kernel) (by decide +kernel)
set_option maxRecDepth 20000 in
theorem gX9_shares_X9_isShares : GoodIn wsX9_shares (va_wsS RX9 58 yX9_isShares wsX9_isShares) := goodIn_app (goodIn_of _ (by decide +kernel)) ggX9_shares_X9_isShares
theorem dX9_shares_0 : decode cX9_shares 0 = .ok (.lload_n 1, 1) := by decide +kernel
theorem dX9_shares_1 : decode cX9_shares 1 = .ok (.invokestatic 54, 3) := by decide +kernel
theorem dX9_shares_4 : decode cX9_shares 4 = .ok (.ifCond .eq 10, 3) := by decide +kernel
theorem dX9_shares_7 : decode cX9_shares 7 = .ok (.lload_n 3, 1) := by decide +kernel
theorem dX9_shares_8 : decode cX9_shares 8 = .ok (.invokestatic 54, 3) := by decide +kernel
theorem dX9_shares_11 : decode cX9_shares 11 = .ok (.ifCond .ne 8, 3) := by decide +kernel
theorem dX9_shares_14 : decode cX9_shares 14 = .ok (.bipush (-2), 2) := by decide +kernel
theorem dX9_shares_16 : decode cX9_shares 16 = .ok (.goto 16, 3) := by decide +kernel
theorem dX9_shares_19 : decode cX9_shares 19 = .ok (.lload_n 1, 1) := by decide +kernel
theorem dX9_shares_20 : decode cX9_shares 20 = .ok (.lload_n 3, 1) := by decide +kernel
theorem dX9_shares_21 : decode cX9_shares 21 = .ok (.invokestatic 58, 3) := by decide +kernel
theorem dX9_shares_24 : decode cX9_shares 24 = .ok (.ifCond .eq 7, 3) := by decide +kernel
theorem dX9_shares_27 : decode cX9_shares 27 = .ok (.iconst 1, 1) := by decide +kernel
theorem dX9_shares_28 : decode cX9_shares 28 = .ok (.goto 4, 3) := by decide +kernel
theorem dX9_shares_31 : decode cX9_shares 31 = .ok (.iconst 0, 1) := by decide +kernel
theorem dX9_shares_32 : decode cX9_shares 32 = .ok (.ireturn, 1) := by decide +kernel
set_option maxRecDepth 20000 in
theorem ggX9_sharesMove_X9_isHeap : GoodIn wsX9_sharesMove wsX9_isHeap := goodIn_r _ [5, 6, 7, 8, 4, 9] (by decide +kernel) (by decide +kernel)
set_option maxRecDepth 20000 in
theorem gX9_sharesMove_X9_isHeap : GoodIn wsX9_sharesMove (va_wsS RX9 54 yX9_isHeap wsX9_isHeap) := goodIn_app (goodIn_of _ (by decide +kernel)) ggX9_sharesMove_X9_isHeap
set_option maxRecDepth 20000 in
theorem ggX9_sharesMove_X9_isShares : GoodIn wsX9_sharesMove wsX9_isShares := goodIn_r _ [12, 13] (by decide +kernel) (by decide +kernel)
set_option maxRecDepth 20000 in
theorem gX9_sharesMove_X9_isShares : GoodIn wsX9_sharesMove (va_wsS RX9 58 yX9_isShares wsX9_isShares) := goodIn_app (goodIn_of _ (by decide +kernel)) ggX9_sharesMove_X9_isShares
theorem dX9_sharesMove_0 : decode cX9_sharesMove 0 = .ok (.lload_n 1, 1) := by decide +kernel
theorem dX9_sharesMove_1 : decode cX9_sharesMove 1 = .ok (.invokestatic 54, 3) := by decide +kernel
theorem dX9_sharesMove_4 : decode cX9_sharesMove 4 = .ok (.ifCond .eq 10, 3) := by decide +kernel
theorem dX9_sharesMove_7 : decode cX9_sharesMove 7 = .ok (.lload_n 3, 1) := by decide +kernel
theorem dX9_sharesMove_8 : decode cX9_sharesMove 8 = .ok (.invokestatic 54, 3) := by decide +kernel
theorem dX9_sharesMove_11 : decode cX9_sharesMove 11 = .ok (.ifCond .ne 7, 3) := by decide +kernel
theorem dX9_sharesMove_14 : decode cX9_sharesMove 14 = .ok (.ldc2_w 62, 3) := by decide +kernel
theorem dX9_sharesMove_17 : decode cX9_sharesMove 17 = .ok (.lreturn, 1) := by decide +kernel
theorem dX9_sharesMove_18 : decode cX9_sharesMove 18 = .ok (.lload_n 1, 1) := by decide +kernel
theorem dX9_sharesMove_19 : decode cX9_sharesMove 19 = .ok (.lload_n 3, 1) := by decide +kernel
theorem dX9_sharesMove_20 : decode cX9_sharesMove 20 = .ok (.lcmp, 1) := by decide +kernel
theorem dX9_sharesMove_21 : decode cX9_sharesMove 21 = .ok (.ifCond .le 7, 3) := by decide +kernel
theorem dX9_sharesMove_24 : decode cX9_sharesMove 24 = .ok (.lload_n 1, 1) := by decide +kernel
theorem dX9_sharesMove_25 : decode cX9_sharesMove 25 = .ok (.goto 4, 3) := by decide +kernel
theorem dX9_sharesMove_28 : decode cX9_sharesMove 28 = .ok (.lload_n 3, 1) := by decide +kernel
theorem dX9_sharesMove_29 : decode cX9_sharesMove 29 = .ok (.lstore 5, 2) := by decide +kernel
theorem dX9_sharesMove_31 : decode cX9_sharesMove 31 = .ok (.lload_n 1, 1) := by decide +kernel
theorem dX9_sharesMove_32 : decode cX9_sharesMove 32 = .ok (.lload_n 3, 1) := by decide +kernel
theorem dX9_sharesMove_33 : decode cX9_sharesMove 33 = .ok (.lcmp, 1) := by decide +kernel
theorem dX9_sharesMove_34 : decode cX9_sharesMove 34 = .ok (.ifCond .le 7, 3) := by decide +kernel
theorem dX9_sharesMove_37 : decode cX9_sharesMove 37 = .ok (.lload_n 3, 1) := by decide +kernel
theorem dX9_sharesMove_38 : decode cX9_sharesMove 38 = .ok (.goto 4, 3) := by decide +kernel
theorem dX9_sharesMove_41 : decode cX9_sharesMove 41 = .ok (.lload_n 1, 1) := by decide +kernel
theorem dX9_sharesMove_42 : decode cX9_sharesMove 42 = .ok (.lstore 7, 2) := by decide +kernel
theorem dX9_sharesMove_44 : decode cX9_sharesMove 44 = .ok (.lload 5, 2) := by decide +kernel
theorem dX9_sharesMove_46 : decode cX9_sharesMove 46 = .ok (.lload 7, 2) := by decide +kernel
theorem dX9_sharesMove_48 : decode cX9_sharesMove 48 = .ok (.invokestatic 58, 3) := by decide +kernel
theorem dX9_sharesMove_51 : decode cX9_sharesMove 51 = .ok (.ifCond .ne 5, 3) := by decide +kernel
theorem dX9_sharesMove_54 : decode cX9_sharesMove 54 = .ok (.lconst 0, 1) := by decide +kernel
theorem dX9_sharesMove_55 : decode cX9_sharesMove 55 = .ok (.lreturn, 1) := by decide +kernel
theorem dX9_sharesMove_56 : decode cX9_sharesMove 56 = .ok (.lload 5, 2) := by decide +kernel
theorem dX9_sharesMove_58 : decode cX9_sharesMove 58 = .ok (.lload 7, 2) := by decide +kernel
theorem dX9_sharesMove_60 : decode cX9_sharesMove 60 = .ok (.ldiv, 1) := by decide +kernel
theorem dX9_sharesMove_61 : decode cX9_sharesMove 61 = .ok (.lstore 9, 2) := by decide +kernel
theorem dX9_sharesMove_63 : decode cX9_sharesMove 63 = .ok (.lload 9, 2) := by decide +kernel
theorem dX9_sharesMove_65 : decode cX9_sharesMove 65 = .ok (.lconst 1, 1) := by decide +kernel
theorem dX9_sharesMove_66 : decode cX9_sharesMove 66 = .ok (.lcmp, 1) := by decide +kernel
theorem dX9_sharesMove_67 : decode cX9_sharesMove 67 = .ok (.ifCond .le 28, 3) := by decide +kernel
theorem dX9_sharesMove_70 : decode cX9_sharesMove 70 = .ok (.lload 5, 2) := by decide +kernel
theorem dX9_sharesMove_72 : decode cX9_sharesMove 72 = .ok (.lload 9, 2) := by decide +kernel
theorem dX9_sharesMove_74 : decode cX9_sharesMove 74 = .ok (.lconst 1, 1) := by decide +kernel
theorem dX9_sharesMove_75 : decode cX9_sharesMove 75 = .ok (.lsub, 1) := by decide +kernel
theorem dX9_sharesMove_76 : decode cX9_sharesMove 76 = .ok (.lload 7, 2) := by decide +kernel
theorem dX9_sharesMove_78 : decode cX9_sharesMove 78 = .ok (.lmul, 1) := by decide +kernel
theorem dX9_sharesMove_79 : decode cX9_sharesMove 79 = .ok (.lsub, 1) := by decide +kernel
theorem dX9_sharesMove_80 : decode cX9_sharesMove 80 = .ok (.lload 7, 2) := by decide +kernel
theorem dX9_sharesMove_82 : decode cX9_sharesMove 82 = .ok (.invokestatic 58, 3) := by decide +kernel
theorem dX9_sharesMove_85 : decode cX9_sharesMove 85 = .ok (.ifCond .ne 10, 3) := by decide +kernel
theorem dX9_sharesMove_88 : decode cX9_sharesMove 88 = .ok (.lload 9, 2) := by decide +kernel
theorem dX9_sharesMove_90 : decode cX9_sharesMove 90 = .ok (.lconst 1, 1) := by decide +kernel
theorem dX9_sharesMove_91 : decode cX9_sharesMove 91 = .ok (.lsub, 1) := by decide +kernel
theorem dX9_sharesMove_92 : decode cX9_sharesMove 92 = .ok (.goto 5, 3) := by decide +kernel
theorem dX9_sharesMove_95 : decode cX9_sharesMove 95 = .ok (.lload 9, 2) := by decide +kernel
theorem dX9_sharesMove_97 : decode cX9_sharesMove 97 = .ok (.lreturn, 1) := by decide +kernel
theorem dX9_lesser_0 : decode cX9_lesser 0 = .ok (.lload_n 1, 1) := by decide +kernel
theorem dX9_lesser_1 : decode cX9_lesser 1 = .ok (.lconst 0, 1) := by decide +kernel
theorem dX9_lesser_2 : decode cX9_lesser 2 = .ok (.lcmp, 1) := by decide +kernel
theorem dX9_lesser_3 : decode cX9_lesser 3 = .ok (.ifCond .ne 5, 3) := by decide +kernel
theorem dX9_lesser_6 : decode cX9_lesser 6 = .ok (.lconst 0, 1) := by decide +kernel
theorem dX9_lesser_7 : decode cX9_lesser 7 = .ok (.lreturn, 1) := by decide +kernel
theorem dX9_lesser_8 : decode cX9_lesser 8 = .ok (.lload_n 1, 1) := by decide +kernel
theorem dX9_lesser_9 : decode cX9_lesser 9 = .ok (.lconst 1, 1) := by decide +kernel
theorem dX9_lesser_10 : decode cX9_lesser 10 = .ok (.lsub, 1) := by decide +kernel
theorem dX9_lesser_11 : decode cX9_lesser 11 = .ok (.lstore_n 3, 1) := by decide +kernel
theorem dX9_lesser_12 : decode cX9_lesser 12 = .ok (.lconst 1, 1) := by decide +kernel
theorem dX9_lesser_13 : decode cX9_lesser 13 = .ok (.lstore 5, 2) := by decide +kernel
theorem dX9_lesser_15 : decode cX9_lesser 15 = .ok (.bipush 62, 2) := by decide +kernel
theorem dX9_lesser_17 : decode cX9_lesser 17 = .ok (.istore 7, 2) := by decide +kernel
theorem dX9_lesser_19 : decode cX9_lesser 19 = .ok (.iload 7, 2) := by decide +kernel
theorem dX9_lesser_21 : decode cX9_lesser 21 = .ok (.ifCond .lt 45, 3) := by decide +kernel
theorem dX9_lesser_24 : decode cX9_lesser 24 = .ok (.aload_n 0, 1) := by decide +kernel
theorem dX9_lesser_25 : decode cX9_lesser 25 = .ok (.getfield 7, 3) := by decide +kernel
theorem dX9_lesser_28 : decode cX9_lesser 28 = .ok (.iload 7, 2) := by decide +kernel
theorem dX9_lesser_30 : decode cX9_lesser 30 = .ok (.laload, 1) := by decide +kernel
theorem dX9_lesser_31 : decode cX9_lesser 31 = .ok (.lload_n 3, 1) := by decide +kernel
theorem dX9_lesser_32 : decode cX9_lesser 32 = .ok (.lcmp, 1) := by decide +kernel
theorem dX9_lesser_33 : decode cX9_lesser 33 = .ok (.ifCond .gt 27, 3) := by decide +kernel
theorem dX9_lesser_36 : decode cX9_lesser 36 = .ok (.lload_n 3, 1) := by decide +kernel
theorem dX9_lesser_37 : decode cX9_lesser 37 = .ok (.aload_n 0, 1) := by decide +kernel
theorem dX9_lesser_38 : decode cX9_lesser 38 = .ok (.getfield 7, 3) := by decide +kernel
theorem dX9_lesser_41 : decode cX9_lesser 41 = .ok (.iload 7, 2) := by decide +kernel
theorem dX9_lesser_43 : decode cX9_lesser 43 = .ok (.laload, 1) := by decide +kernel
theorem dX9_lesser_44 : decode cX9_lesser 44 = .ok (.lsub, 1) := by decide +kernel
theorem dX9_lesser_45 : decode cX9_lesser 45 = .ok (.lstore_n 3, 1) := by decide +kernel
theorem dX9_lesser_46 : decode cX9_lesser 46 = .ok (.lload 5, 2) := by decide +kernel
theorem dX9_lesser_48 : decode cX9_lesser 48 = .ok (.aload_n 0, 1) := by decide +kernel
theorem dX9_lesser_49 : decode cX9_lesser 49 = .ok (.getfield 7, 3) := by decide +kernel
theorem dX9_lesser_52 : decode cX9_lesser 52 = .ok (.iload 7, 2) := by decide +kernel
theorem dX9_lesser_54 : decode cX9_lesser 54 = .ok (.iconst 1, 1) := by decide +kernel
theorem dX9_lesser_55 : decode cX9_lesser 55 = .ok (.iadd, 1) := by decide +kernel
theorem dX9_lesser_56 : decode cX9_lesser 56 = .ok (.laload, 1) := by decide +kernel
theorem dX9_lesser_57 : decode cX9_lesser 57 = .ok (.ladd, 1) := by decide +kernel
theorem dX9_lesser_58 : decode cX9_lesser 58 = .ok (.lstore 5, 2) := by decide +kernel
theorem dX9_lesser_60 : decode cX9_lesser 60 = .ok (.iinc 7 (-1), 3) := by decide +kernel
theorem dX9_lesser_63 : decode cX9_lesser 63 = .ok (.goto (-44), 3) := by decide +kernel
theorem dX9_lesser_66 : decode cX9_lesser 66 = .ok (.lload 5, 2) := by decide +kernel
theorem dX9_lesser_68 : decode cX9_lesser 68 = .ok (.lreturn, 1) := by decide +kernel
set_option maxRecDepth 20000 in
theorem ggX9_isBoth_X9_lesser : GoodIn wsX9_isBoth wsX9_lesser := goodIn_r _ [5, 6, 7, 8, 9, 10, 11, 12, 13, 14, 15, 16, 17, 18, 19, 20, 21, 22, 23, 24] (by decide +kernel) (by decide +kernel)
set_option maxRecDepth 20000 in
theorem gX9_isBoth_X9_lesser : GoodIn wsX9_isBoth (wsV RX9 64 RX9 yX9_lesser wsX9_lesser) := goodIn_app (goodIn_of _ (by decide +kernel)) ggX9_isBoth_X9_lesser
theorem dX9_isBoth_0 : decode cX9_isBoth 0 = .ok (.lload_n 1, 1) := by decide +kernel
theorem dX9_isBoth_1 : decode cX9_isBoth 1 = .ok (.lload_n 3, 1) := by decide +kernel
theorem dX9_isBoth_2 : decode cX9_isBoth 2 = .ok (.lcmp, 1) := by decide +kernel
theorem dX9_isBoth_3 : decode cX9_isBoth 3 = .ok (.ifCond .ge 23, 3) := by decide +kernel
theorem dX9_isBoth_6 : decode cX9_isBoth 6 = .ok (.lload_n 1, 1) := by decide +kernel
theorem dX9_isBoth_7 : decode cX9_isBoth 7 = .ok (.aload_n 0, 1) := by decide +kernel
theorem dX9_isBoth_8 : decode cX9_isBoth 8 = .ok (.lload_n 3, 1) := by decide +kernel
theorem dX9_isBoth_9 : decode cX9_isBoth 9 = .ok (.lload_n 1, 1) := by decide +kernel
theorem dX9_isBoth_10 : decode cX9_isBoth 10 = .ok (.lsub, 1) := by decide +kernel
theorem dX9_isBoth_11 : decode cX9_isBoth 11 = .ok (.invokevirtual 64, 3) := by decide +kernel
theorem dX9_isBoth_14 : decode cX9_isBoth 14 = .ok (.lcmp, 1) := by decide +kernel
theorem dX9_isBoth_15 : decode cX9_isBoth 15 = .ok (.ifCond .eq 7, 3) := by decide +kernel
theorem dX9_isBoth_18 : decode cX9_isBoth 18 = .ok (.iconst 1, 1) := by decide +kernel
theorem dX9_isBoth_19 : decode cX9_isBoth 19 = .ok (.goto 24, 3) := by decide +kernel
theorem dX9_isBoth_22 : decode cX9_isBoth 22 = .ok (.iconst 0, 1) := by decide +kernel
theorem dX9_isBoth_23 : decode cX9_isBoth 23 = .ok (.goto 20, 3) := by decide +kernel
theorem dX9_isBoth_26 : decode cX9_isBoth 26 = .ok (.lload_n 3, 1) := by decide +kernel
theorem dX9_isBoth_27 : decode cX9_isBoth 27 = .ok (.aload_n 0, 1) := by decide +kernel
theorem dX9_isBoth_28 : decode cX9_isBoth 28 = .ok (.lload_n 1, 1) := by decide +kernel
theorem dX9_isBoth_29 : decode cX9_isBoth 29 = .ok (.lload_n 3, 1) := by decide +kernel
theorem dX9_isBoth_30 : decode cX9_isBoth 30 = .ok (.lsub, 1) := by decide +kernel
theorem dX9_isBoth_31 : decode cX9_isBoth 31 = .ok (.invokevirtual 64, 3) := by decide +kernel
theorem dX9_isBoth_34 : decode cX9_isBoth 34 = .ok (.lcmp, 1) := by decide +kernel
theorem dX9_isBoth_35 : decode cX9_isBoth 35 = .ok (.ifCond .eq 7, 3) := by decide +kernel
theorem dX9_isBoth_38 : decode cX9_isBoth 38 = .ok (.iconst 1, 1) := by decide +kernel
theorem dX9_isBoth_39 : decode cX9_isBoth 39 = .ok (.goto 4, 3) := by decide +kernel
theorem dX9_isBoth_42 : decode cX9_isBoth 42 = .ok (.iconst 0, 1) := by decide +kernel
theorem dX9_isBoth_43 : decode cX9_isBoth 43 = .ok (.ireturn, 1) := by decide +kernel
set_option maxRecDepth 20000 in
theorem ggX9_both_X9_isHeap : GoodIn wsX9_both wsX9_isHeap := goodIn_r _ [4, 5, 6, 7, 3, 8] (by decide +kernel) (by decide +kernel)
set_option maxRecDepth 20000 in
theorem gX9_both_X9_isHeap : GoodIn wsX9_both (va_wsS RX9 54 yX9_isHeap wsX9_isHeap) := goodIn_app (goodIn_of _ (by decide +kernel)) ggX9_both_X9_isHeap
set_option maxRecDepth 20000 in
theorem ggX9_both_X9_isBoth : GoodIn wsX9_both wsX9_isBoth := goodIn_r _ [12, 13, 14, 15, 3, 16, 17, 18, 19, 20, 21, 22, 23, 24, 25, 26, 27, 28, 29, 30, 31, 32, 33, 34, 35] (by decide +kernel) (by decide +kernel)
set_option maxRecDepth 20000 in
theorem gX9_both_X9_isBoth : GoodIn wsX9_both (wsV RX9 68 RX9 yX9_isBoth wsX9_isBoth) := goodIn_app (goodIn_of _ (by decide +kernel)) ggX9_both_X9_isBoth
theorem dX9_both_0 : decode cX9_both 0 = .ok (.lload_n 1, 1) := by decide +kernel
theorem dX9_both_1 : decode cX9_both 1 = .ok (.invokestatic 54, 3) := by decide +kernel
theorem dX9_both_4 : decode cX9_both 4 = .ok (.ifCond .eq 10, 3) := by decide +kernel
theorem dX9_both_7 : decode cX9_both 7 = .ok (.lload_n 3, 1) := by decide +kernel
theorem dX9_both_8 : decode cX9_both 8 = .ok (.invokestatic 54, 3) := by decide +kernel
theorem dX9_both_11 : decode cX9_both 11 = .ok (.ifCond .ne 8, 3) := by decide +kernel
theorem dX9_both_14 : decode cX9_both 14 = .ok (.bipush (-2), 2) := by decide +kernel
theorem dX9_both_16 : decode cX9_both 16 = .ok (.goto 17, 3) := by decide +kernel
theorem dX9_both_19 : decode cX9_both 19 = .ok (.aload_n 0, 1) := by decide +kernel
theorem dX9_both_20 : decode cX9_both 20 = .ok (.lload_n 1, 1) := by decide +kernel
theorem dX9_both_21 : decode cX9_both 21 = .ok (.lload_n 3, 1) := by decide +kernel
theorem dX9_both_22 : decode cX9_both 22 = .ok (.invokevirtual 68, 3) := by decide +kernel
theorem dX9_both_25 : decode cX9_both 25 = .ok (.ifCond .eq 7, 3) := by decide +kernel
theorem dX9_both_28 : decode cX9_both 28 = .ok (.iconst 1, 1) := by decide +kernel
theorem dX9_both_29 : decode cX9_both 29 = .ok (.goto 4, 3) := by decide +kernel
theorem dX9_both_32 : decode cX9_both 32 = .ok (.iconst 0, 1) := by decide +kernel
theorem dX9_both_33 : decode cX9_both 33 = .ok (.ireturn, 1) := by decide +kernel
set_option maxRecDepth 20000 in
theorem ggX9_find_X9_lesser : GoodIn wsX9_find wsX9_lesser := goodIn_r _ [8, 9, 10, 11, 12, 13, 14, 15, 16, 17, 18, 19, 20, 21, 22, 23, 24, 25, 26, 27] (by decide +kernel) (by decide +kernel)
set_option maxRecDepth 20000 in
theorem gX9_find_X9_lesser : GoodIn wsX9_find (wsV RX9 64 RX9 yX9_lesser wsX9_lesser) := goodIn_app (goodIn_of _ (by decide +kernel)) ggX9_find_X9_lesser
theorem dX9_find_0 : decode cX9_find 0 = .ok (.lconst 0, 1) := by decide +kernel
theorem dX9_find_1 : decode cX9_find 1 = .ok (.lstore_n 3, 1) := by decide +kernel
theorem dX9_find_2 : decode cX9_find 2 = .ok (.lload_n 1, 1) := by decide +kernel
theorem dX9_find_3 : decode cX9_find 3 = .ok (.lstore 5, 2) := by decide +kernel
theorem dX9_find_5 : decode cX9_find 5 = .ok (.lload_n 3, 1) := by decide +kernel
theorem dX9_find_6 : decode cX9_find 6 = .ok (.lload 5, 2) := by decide +kernel
theorem dX9_find_8 : decode cX9_find 8 = .ok (.lcmp, 1) := by decide +kernel
theorem dX9_find_9 : decode cX9_find 9 = .ok (.ifCond .ge 41, 3) := by decide +kernel
theorem dX9_find_12 : decode cX9_find 12 = .ok (.lload_n 3, 1) := by decide +kernel
theorem dX9_find_13 : decode cX9_find 13 = .ok (.lload 5, 2) := by decide +kernel
theorem dX9_find_15 : decode cX9_find 15 = .ok (.lload_n 3, 1) := by decide +kernel
theorem dX9_find_16 : decode cX9_find 16 = .ok (.lsub, 1) := by decide +kernel
theorem dX9_find_17 : decode cX9_find 17 = .ok (.ldc2_w 46, 3) := by decide +kernel
theorem dX9_find_20 : decode cX9_find 20 = .ok (.ldiv, 1) := by decide +kernel
theorem dX9_find_21 : decode cX9_find 21 = .ok (.ladd, 1) := by decide +kernel
theorem dX9_find_22 : decode cX9_find 22 = .ok (.lstore 7, 2) := by decide +kernel
theorem dX9_find_24 : decode cX9_find 24 = .ok (.aload_n 0, 1) := by decide +kernel
theorem dX9_find_25 : decode cX9_find 25 = .ok (.lload 7, 2) := by decide +kernel
theorem dX9_find_27 : decode cX9_find 27 = .ok (.invokevirtual 64, 3) := by decide +kernel
theorem dX9_find_30 : decode cX9_find 30 = .ok (.lload_n 1, 1) := by decide +kernel
theorem dX9_find_31 : decode cX9_find 31 = .ok (.lcmp, 1) := by decide +kernel
theorem dX9_find_32 : decode cX9_find 32 = .ok (.ifCond .ge 11, 3) := by decide +kernel
theorem dX9_find_35 : decode cX9_find 35 = .ok (.lload 7, 2) := by decide +kernel
theorem dX9_find_37 : decode cX9_find 37 = .ok (.lconst 1, 1) := by decide +kernel
theorem dX9_find_38 : decode cX9_find 38 = .ok (.ladd, 1) := by decide +kernel
theorem dX9_find_39 : decode cX9_find 39 = .ok (.lstore_n 3, 1) := by decide +kernel
theorem dX9_find_40 : decode cX9_find 40 = .ok (.goto 7, 3) := by decide +kernel
theorem dX9_find_43 : decode cX9_find 43 = .ok (.lload 7, 2) := by decide +kernel
theorem dX9_find_45 : decode cX9_find 45 = .ok (.lstore 5, 2) := by decide +kernel
theorem dX9_find_47 : decode cX9_find 47 = .ok (.goto (-42), 3) := by decide +kernel
theorem dX9_find_50 : decode cX9_find 50 = .ok (.aload_n 0, 1) := by decide +kernel
theorem dX9_find_51 : decode cX9_find 51 = .ok (.lload_n 3, 1) := by decide +kernel
theorem dX9_find_52 : decode cX9_find 52 = .ok (.putfield 71, 3) := by decide +kernel
theorem dX9_find_55 : decode cX9_find 55 = .ok (.aload_n 0, 1) := by decide +kernel
theorem dX9_find_56 : decode cX9_find 56 = .ok (.aload_n 0, 1) := by decide +kernel
theorem dX9_find_57 : decode cX9_find 57 = .ok (.lload_n 3, 1) := by decide +kernel
theorem dX9_find_58 : decode cX9_find 58 = .ok (.invokevirtual 64, 3) := by decide +kernel
theorem dX9_find_61 : decode cX9_find 61 = .ok (.lload_n 1, 1) := by decide +kernel
theorem dX9_find_62 : decode cX9_find 62 = .ok (.lcmp, 1) := by decide +kernel
theorem dX9_find_63 : decode cX9_find 63 = .ok (.ifCond .ne 7, 3) := by decide +kernel
theorem dX9_find_66 : decode cX9_find 66 = .ok (.iconst 1, 1) := by decide +kernel
theorem dX9_find_67 : decode cX9_find 67 = .ok (.goto 4, 3) := by decide +kernel
theorem dX9_find_70 : decode cX9_find 70 = .ok (.iconst 0, 1) := by decide +kernel
theorem dX9_find_71 : decode cX9_find 71 = .ok (.putfield 75, 3) := by decide +kernel
theorem dX9_find_74 : decode cX9_find 74 = .ok (.aload_n 0, 1) := by decide +kernel
theorem dX9_find_75 : decode cX9_find 75 = .ok (.getfield 75, 3) := by decide +kernel
theorem dX9_find_78 : decode cX9_find 78 = .ok (.ifCond .eq 4, 3) := by decide +kernel
theorem dX9_find_81 : decode cX9_find 81 = .ok (.return_, 1) := by decide +kernel
theorem dX9_find_82 : decode cX9_find 82 = .ok (.lconst 0, 1) := by decide +kernel
theorem dX9_find_83 : decode cX9_find 83 = .ok (.lstore_n 3, 1) := by decide +kernel
theorem dX9_find_84 : decode cX9_find 84 = .ok (.lload_n 1, 1) := by decide +kernel
theorem dX9_find_85 : decode cX9_find 85 = .ok (.lstore 5, 2) := by decide +kernel
theorem dX9_find_87 : decode cX9_find 87 = .ok (.lload_n 3, 1) := by decide +kernel
theorem dX9_find_88 : decode cX9_find 88 = .ok (.lload 5, 2) := by decide +kernel
theorem dX9_find_90 : decode cX9_find 90 = .ok (.lcmp, 1) := by decide +kernel
theorem dX9_find_91 : decode cX9_find 91 = .ok (.ifCond .ge 44, 3) := by decide +kernel
theorem dX9_find_94 : decode cX9_find 94 = .ok (.lload_n 3, 1) := by decide +kernel
theorem dX9_find_95 : decode cX9_find 95 = .ok (.lload 5, 2) := by decide +kernel
theorem dX9_find_97 : decode cX9_find 97 = .ok (.lload_n 3, 1) := by decide +kernel
theorem dX9_find_98 : decode cX9_find 98 = .ok (.lsub, 1) := by decide +kernel
theorem dX9_find_99 : decode cX9_find 99 = .ok (.ldc2_w 46, 3) := by decide +kernel
theorem dX9_find_102 : decode cX9_find 102 = .ok (.ldiv, 1) := by decide +kernel
theorem dX9_find_103 : decode cX9_find 103 = .ok (.ladd, 1) := by decide +kernel
theorem dX9_find_104 : decode cX9_find 104 = .ok (.lstore 7, 2) := by decide +kernel
theorem dX9_find_106 : decode cX9_find 106 = .ok (.aload_n 0, 1) := by decide +kernel
theorem dX9_find_107 : decode cX9_find 107 = .ok (.lload 7, 2) := by decide +kernel
theorem dX9_find_109 : decode cX9_find 109 = .ok (.invokevirtual 64, 3) := by decide +kernel
theorem dX9_find_112 : decode cX9_find 112 = .ok (.lload 7, 2) := by decide +kernel
theorem dX9_find_114 : decode cX9_find 114 = .ok (.ladd, 1) := by decide +kernel
theorem dX9_find_115 : decode cX9_find 115 = .ok (.lload_n 1, 1) := by decide +kernel
theorem dX9_find_116 : decode cX9_find 116 = .ok (.lcmp, 1) := by decide +kernel
theorem dX9_find_117 : decode cX9_find 117 = .ok (.ifCond .ge 11, 3) := by decide +kernel
theorem dX9_find_120 : decode cX9_find 120 = .ok (.lload 7, 2) := by decide +kernel
theorem dX9_find_122 : decode cX9_find 122 = .ok (.lconst 1, 1) := by decide +kernel
theorem dX9_find_123 : decode cX9_find 123 = .ok (.ladd, 1) := by decide +kernel
theorem dX9_find_124 : decode cX9_find 124 = .ok (.lstore_n 3, 1) := by decide +kernel
theorem dX9_find_125 : decode cX9_find 125 = .ok (.goto 7, 3) := by decide +kernel
theorem dX9_find_128 : decode cX9_find 128 = .ok (.lload 7, 2) := by decide +kernel
theorem dX9_find_130 : decode cX9_find 130 = .ok (.lstore 5, 2) := by decide +kernel
theorem dX9_find_132 : decode cX9_find 132 = .ok (.goto (-45), 3) := by decide +kernel
theorem dX9_find_135 : decode cX9_find 135 = .ok (.aload_n 0, 1) := by decide +kernel
theorem dX9_find_136 : decode cX9_find 136 = .ok (.lload_n 3, 1) := by decide +kernel
theorem dX9_find_137 : decode cX9_find 137 = .ok (.putfield 71, 3) := by decide +kernel
theorem dX9_find_140 : decode cX9_find 140 = .ok (.return_, 1) := by decide +kernel
set_option maxRecDepth 20000 in
theorem ggX9_partner_X9_find : GoodIn wsX9_partner wsX9_find := goodIn_r _ [7, 8, 2, 1, 9, 10, 11, 6, 12, 13, 14, 15, 16, 17, 18, 19, 20, 21, 22, 23, 24, 25, 26, 27, 28, 29, 30, 31] (by decide +kernel) (by decide +kernel)
set_option maxRecDepth 20000 in
theorem gX9_partner_X9_find : GoodIn wsX9_partner (wsV RX9 79 RX9 yX9_find wsX9_find) := goodIn_app (goodIn_of _ (by decide +kernel)) ggX9_partner_X9_find
theorem dX9_partner_0 : decode cX9_partner 0 = .ok (.aload_n 0, 1) := by decide +kernel
theorem dX9_partner_1 : decode cX9_partner 1 = .ok (.lload_n 1, 1) := by decide +kernel
theorem dX9_partner_2 : decode cX9_partner 2 = .ok (.invokevirtual 79, 3) := by decide +kernel
theorem dX9_partner_5 : decode cX9_partner 5 = .ok (.aload_n 0, 1) := by decide +kernel
theorem dX9_partner_6 : decode cX9_partner 6 = .ok (.getfield 75, 3) := by decide +kernel
theorem dX9_partner_9 : decode cX9_partner 9 = .ok (.ifCond .eq 12, 3) := by decide +kernel
theorem dX9_partner_12 : decode cX9_partner 12 = .ok (.lload_n 1, 1) := by decide +kernel
theorem dX9_partner_13 : decode cX9_partner 13 = .ok (.aload_n 0, 1) := by decide +kernel
theorem dX9_partner_14 : decode cX9_partner 14 = .ok (.getfield 71, 3) := by decide +kernel
theorem dX9_partner_17 : decode cX9_partner 17 = .ok (.ladd, 1) := by decide +kernel
theorem dX9_partner_18 : decode cX9_partner 18 = .ok (.goto 9, 3) := by decide +kernel
theorem dX9_partner_21 : decode cX9_partner 21 = .ok (.lload_n 1, 1) := by decide +kernel
theorem dX9_partner_22 : decode cX9_partner 22 = .ok (.aload_n 0, 1) := by decide +kernel
theorem dX9_partner_23 : decode cX9_partner 23 = .ok (.getfield 71, 3) := by decide +kernel
theorem dX9_partner_26 : decode cX9_partner 26 = .ok (.lsub, 1) := by decide +kernel
theorem dX9_partner_27 : decode cX9_partner 27 = .ok (.lreturn, 1) := by decide +kernel
set_option maxRecDepth 20000 in
theorem ggX9_bothMove_X9_isHeap : GoodIn wsX9_bothMove wsX9_isHeap := goodIn_r _ [7, 8, 9, 10, 6, 11] (by decide +kernel) (by decide +kernel)
set_option maxRecDepth 20000 in
theorem gX9_bothMove_X9_isHeap : GoodIn wsX9_bothMove (va_wsS RX9 54 yX9_isHeap wsX9_isHeap) := goodIn_app (goodIn_of _ (by decide +kernel)) ggX9_bothMove_X9_isHeap
set_option maxRecDepth 20000 in
theorem ggX9_bothMove_X9_in : GoodIn wsX9_bothMove wsX9_in := goodIn_r _ [11] (by decide +kernel) (by decide +kernel)
set_option maxRecDepth 20000 in
theorem gX9_bothMove_X9_in : GoodIn wsX9_bothMove (va_wsS RX9 50 yX9_in wsX9_in) := goodIn_app (goodIn_of _ (by decide +kernel)) ggX9_bothMove_X9_in
set_option maxRecDepth 20000 in
theorem ggX9_bothMove_X9_partner : GoodIn wsX9_bothMove wsX9_partner := goodIn_r _ [15, 16, 17, 18, 19, 20, 6, 21, 2, 22, 23, 24, 25, 26, 27, 28, 29, 30, 31, 32, 33, 34, 35, 36, 37, 38, 39, 40, 41, 42, 43, 44] (by decide +kernel) (by decide +kernel)
set_option maxRecDepth 20000 in
theorem gX9_bothMove_X9_partner : GoodIn wsX9_bothMove (wsV RX9 83 RX9 yX9_partner wsX9_partner) := goodIn_app (goodIn_of _ (by decide +kernel)) ggX9_bothMove_X9_partner
set_option maxRecDepth 20000 in
theorem ggX9_bothMove_X9_lesser : GoodIn wsX9_bothMove wsX9_lesser := goodIn_r _ [25, 26, 27, 28, 29, 30, 31, 32, 33, 34, 35, 36, 37, 38, 39, 40, 41, 42, 43, 44] (by decide +kernel) (by decide +kernel)
set_option maxRecDepth 20000 in
theorem gX9_bothMove_X9_lesser : GoodIn wsX9_bothMove (wsV RX9 64 RX9 yX9_lesser wsX9_lesser) := goodIn_app (goodIn_of _ (by decide +kernel)) ggX9_bothMove_X9_lesser
theorem dX9_bothMove_0 : decode cX9_bothMove 0 = .ok (.lload_n 1, 1) := by decide +kernel
theorem dX9_bothMove_1 : decode cX9_bothMove 1 = .ok (.invokestatic 54, 3) := by decide +kernel
theorem dX9_bothMove_4 : decode cX9_bothMove 4 = .ok (.ifCond .eq 21, 3) := by decide +kernel
theorem dX9_bothMove_7 : decode cX9_bothMove 7 = .ok (.lload_n 3, 1) := by decide +kernel
theorem dX9_bothMove_8 : decode cX9_bothMove 8 = .ok (.invokestatic 54, 3) := by decide +kernel
theorem dX9_bothMove_11 : decode cX9_bothMove 11 = .ok (.ifCond .eq 14, 3) := by decide +kernel
theorem dX9_bothMove_14 : decode cX9_bothMove 14 = .ok (.iload 5, 2) := by decide +kernel
theorem dX9_bothMove_16 : decode cX9_bothMove 16 = .ok (.i2l, 1) := by decide +kernel
theorem dX9_bothMove_17 : decode cX9_bothMove 17 = .ok (.lconst 0, 1) := by decide +kernel
theorem dX9_bothMove_18 : decode cX9_bothMove 18 = .ok (.lconst 1, 1) := by decide +kernel
theorem dX9_bothMove_19 : decode cX9_bothMove 19 = .ok (.invokestatic 50, 3) := by decide +kernel
theorem dX9_bothMove_22 : decode cX9_bothMove 22 = .ok (.ifCond .ne 7, 3) := by decide +kernel
theorem dX9_bothMove_25 : decode cX9_bothMove 25 = .ok (.ldc2_w 62, 3) := by decide +kernel
theorem dX9_bothMove_28 : decode cX9_bothMove 28 = .ok (.lreturn, 1) := by decide +kernel
theorem dX9_bothMove_29 : decode cX9_bothMove 29 = .ok (.aload_n 0, 1) := by decide +kernel
theorem dX9_bothMove_30 : decode cX9_bothMove 30 = .ok (.lload_n 3, 1) := by decide +kernel
theorem dX9_bothMove_31 : decode cX9_bothMove 31 = .ok (.invokevirtual 83, 3) := by decide +kernel
theorem dX9_bothMove_34 : decode cX9_bothMove 34 = .ok (.lstore 6, 2) := by decide +kernel
theorem dX9_bothMove_36 : decode cX9_bothMove 36 = .ok (.lload 6, 2) := by decide +kernel
theorem dX9_bothMove_38 : decode cX9_bothMove 38 = .ok (.lload_n 1, 1) := by decide +kernel
theorem dX9_bothMove_39 : decode cX9_bothMove 39 = .ok (.lcmp, 1) := by decide +kernel
theorem dX9_bothMove_40 : decode cX9_bothMove 40 = .ok (.ifCond .ge 17, 3) := by decide +kernel
theorem dX9_bothMove_43 : decode cX9_bothMove 43 = .ok (.iload 5, 2) := by decide +kernel
theorem dX9_bothMove_45 : decode cX9_bothMove 45 = .ok (.ifCond .ne 7, 3) := by decide +kernel
theorem dX9_bothMove_48 : decode cX9_bothMove 48 = .ok (.lconst 0, 1) := by decide +kernel
theorem dX9_bothMove_49 : decode cX9_bothMove 49 = .ok (.goto 7, 3) := by decide +kernel
theorem dX9_bothMove_52 : decode cX9_bothMove 52 = .ok (.lload_n 1, 1) := by decide +kernel
theorem dX9_bothMove_53 : decode cX9_bothMove 53 = .ok (.lload 6, 2) := by decide +kernel
theorem dX9_bothMove_55 : decode cX9_bothMove 55 = .ok (.lsub, 1) := by decide +kernel
theorem dX9_bothMove_56 : decode cX9_bothMove 56 = .ok (.lreturn, 1) := by decide +kernel
theorem dX9_bothMove_57 : decode cX9_bothMove 57 = .ok (.aload_n 0, 1) := by decide +kernel
theorem dX9_bothMove_58 : decode cX9_bothMove 58 = .ok (.lload_n 1, 1) := by decide +kernel
theorem dX9_bothMove_59 : decode cX9_bothMove 59 = .ok (.invokevirtual 83, 3) := by decide +kernel
theorem dX9_bothMove_62 : decode cX9_bothMove 62 = .ok (.lstore 6, 2) := by decide +kernel
theorem dX9_bothMove_64 : decode cX9_bothMove 64 = .ok (.lload 6, 2) := by decide +kernel
theorem dX9_bothMove_66 : decode cX9_bothMove 66 = .ok (.lload_n 3, 1) := by decide +kernel
theorem dX9_bothMove_67 : decode cX9_bothMove 67 = .ok (.lcmp, 1) := by decide +kernel
theorem dX9_bothMove_68 : decode cX9_bothMove 68 = .ok (.ifCond .ge 17, 3) := by decide +kernel
theorem dX9_bothMove_71 : decode cX9_bothMove 71 = .ok (.iload 5, 2) := by decide +kernel
theorem dX9_bothMove_73 : decode cX9_bothMove 73 = .ok (.ifCond .ne 7, 3) := by decide +kernel
theorem dX9_bothMove_76 : decode cX9_bothMove 76 = .ok (.lconst 1, 1) := by decide +kernel
theorem dX9_bothMove_77 : decode cX9_bothMove 77 = .ok (.goto 7, 3) := by decide +kernel
theorem dX9_bothMove_80 : decode cX9_bothMove 80 = .ok (.lload_n 3, 1) := by decide +kernel
theorem dX9_bothMove_81 : decode cX9_bothMove 81 = .ok (.lload 6, 2) := by decide +kernel
theorem dX9_bothMove_83 : decode cX9_bothMove 83 = .ok (.lsub, 1) := by decide +kernel
theorem dX9_bothMove_84 : decode cX9_bothMove 84 = .ok (.lreturn, 1) := by decide +kernel
theorem dX9_bothMove_85 : decode cX9_bothMove 85 = .ok (.lload_n 1, 1) := by decide +kernel
theorem dX9_bothMove_86 : decode cX9_bothMove 86 = .ok (.lload_n 3, 1) := by decide +kernel
theorem dX9_bothMove_87 : decode cX9_bothMove 87 = .ok (.lcmp, 1) := by decide +kernel
theorem dX9_bothMove_88 : decode cX9_bothMove 88 = .ok (.ifCond .ge 7, 3) := by decide +kernel
theorem dX9_bothMove_91 : decode cX9_bothMove 91 = .ok (.lload_n 1, 1) := by decide +kernel
theorem dX9_bothMove_92 : decode cX9_bothMove 92 = .ok (.goto 4, 3) := by decide +kernel
theorem dX9_bothMove_95 : decode cX9_bothMove 95 = .ok (.lload_n 3, 1) := by decide +kernel
theorem dX9_bothMove_96 : decode cX9_bothMove 96 = .ok (.lstore 8, 2) := by decide +kernel
theorem dX9_bothMove_98 : decode cX9_bothMove 98 = .ok (.lload_n 1, 1) := by decide +kernel
theorem dX9_bothMove_99 : decode cX9_bothMove 99 = .ok (.lload_n 3, 1) := by decide +kernel
theorem dX9_bothMove_100 : decode cX9_bothMove 100 = .ok (.lcmp, 1) := by decide +kernel
theorem dX9_bothMove_101 : decode cX9_bothMove 101 = .ok (.ifCond .ge 9, 3) := by decide +kernel
theorem dX9_bothMove_104 : decode cX9_bothMove 104 = .ok (.lload_n 3, 1) := by decide +kernel
theorem dX9_bothMove_105 : decode cX9_bothMove 105 = .ok (.lload_n 1, 1) := by decide +kernel
theorem dX9_bothMove_106 : decode cX9_bothMove 106 = .ok (.lsub, 1) := by decide +kernel
theorem dX9_bothMove_107 : decode cX9_bothMove 107 = .ok (.goto 6, 3) := by decide +kernel
theorem dX9_bothMove_110 : decode cX9_bothMove 110 = .ok (.lload_n 1, 1) := by decide +kernel
theorem dX9_bothMove_111 : decode cX9_bothMove 111 = .ok (.lload_n 3, 1) := by decide +kernel
theorem dX9_bothMove_112 : decode cX9_bothMove 112 = .ok (.lsub, 1) := by decide +kernel
theorem dX9_bothMove_113 : decode cX9_bothMove 113 = .ok (.lstore 10, 2) := by decide +kernel
theorem dX9_bothMove_115 : decode cX9_bothMove 115 = .ok (.aload_n 0, 1) := by decide +kernel
theorem dX9_bothMove_116 : decode cX9_bothMove 116 = .ok (.lload 10, 2) := by decide +kernel
theorem dX9_bothMove_118 : decode cX9_bothMove 118 = .ok (.invokevirtual 64, 3) := by decide +kernel
theorem dX9_bothMove_121 : decode cX9_bothMove 121 = .ok (.lload 8, 2) := by decide +kernel
theorem dX9_bothMove_123 : decode cX9_bothMove 123 = .ok (.lcmp, 1) := by decide +kernel
theorem dX9_bothMove_124 : decode cX9_bothMove 124 = .ok (.ifCond .ge 24, 3) := by decide +kernel
theorem dX9_bothMove_127 : decode cX9_bothMove 127 = .ok (.iload 5, 2) := by decide +kernel
theorem dX9_bothMove_129 : decode cX9_bothMove 129 = .ok (.ifCond .ne 9, 3) := by decide +kernel
theorem dX9_bothMove_132 : decode cX9_bothMove 132 = .ok (.ldc2_w 46, 3) := by decide +kernel
theorem dX9_bothMove_135 : decode cX9_bothMove 135 = .ok (.goto 12, 3) := by decide +kernel
theorem dX9_bothMove_138 : decode cX9_bothMove 138 = .ok (.lload 8, 2) := by decide +kernel
theorem dX9_bothMove_140 : decode cX9_bothMove 140 = .ok (.aload_n 0, 1) := by decide +kernel
theorem dX9_bothMove_141 : decode cX9_bothMove 141 = .ok (.lload 10, 2) := by decide +kernel
theorem dX9_bothMove_143 : decode cX9_bothMove 143 = .ok (.invokevirtual 64, 3) := by decide +kernel
theorem dX9_bothMove_146 : decode cX9_bothMove 146 = .ok (.lsub, 1) := by decide +kernel
theorem dX9_bothMove_147 : decode cX9_bothMove 147 = .ok (.lreturn, 1) := by decide +kernel
theorem dX9_bothMove_148 : decode cX9_bothMove 148 = .ok (.iload 5, 2) := by decide +kernel
theorem dX9_bothMove_150 : decode cX9_bothMove 150 = .ok (.ifCond .ne 9, 3) := by decide +kernel
theorem dX9_bothMove_153 : decode cX9_bothMove 153 = .ok (.ldc2_w 86, 3) := by decide +kernel
theorem dX9_bothMove_156 : decode cX9_bothMove 156 = .ok (.goto 4, 3) := by decide +kernel
theorem dX9_bothMove_159 : decode cX9_bothMove 159 = .ok (.lconst 0, 1) := by decide +kernel
theorem dX9_bothMove_160 : decode cX9_bothMove 160 = .ok (.lreturn, 1) := by decide +kernel
set_option maxRecDepth 20000 in
theorem ggX9_lost_X9_in : GoodIn wsX9_lost wsX9_in := goodIn_r _ [6] (by decide +kernel) (by decide +kernel)
set_option maxRecDepth 20000 in
theorem gX9_lost_X9_in : GoodIn wsX9_lost (va_wsS RX9 50 yX9_in wsX9_in) := goodIn_app (goodIn_of _ (by decide +kernel)) ggX9_lost_X9_in
set_option maxRecDepth 20000 in
theorem ggX9_lost_X9_lesser : GoodIn wsX9_lost wsX9_lesser := goodIn_r _ [10, 11, 12, 13, 14, 15, 16, 17, 18, 19, 20, 21, 22, 23, 24, 25, 26, 27, 28, 29] (by decide +kernel) (by decide +kernel)
set_option maxRecDepth 20000 in
theorem gX9_lost_X9_lesser : GoodIn wsX9_lost (wsV RX9 64 RX9 yX9_lesser wsX9_lesser) := goodIn_app (goodIn_of _ (by decide +kernel)) ggX9_lost_X9_lesser
theorem dX9_lost_0 : decode cX9_lost 0 = .ok (.lload_n 1, 1) := by decide +kernel
theorem dX9_lost_1 : decode cX9_lost 1 = .ok (.lconst 0, 1) := by decide +kernel
theorem dX9_lost_2 : decode cX9_lost 2 = .ok (.ldc2_w 88, 3) := by decide +kernel
theorem dX9_lost_5 : decode cX9_lost 5 = .ok (.invokestatic 50, 3) := by decide +kernel
theorem dX9_lost_8 : decode cX9_lost 8 = .ok (.ifCond .eq 13, 3) := by decide +kernel
theorem dX9_lost_11 : decode cX9_lost 11 = .ok (.iload_n 3, 1) := by decide +kernel
theorem dX9_lost_12 : decode cX9_lost 12 = .ok (.i2l, 1) := by decide +kernel
theorem dX9_lost_13 : decode cX9_lost 13 = .ok (.lconst 0, 1) := by decide +kernel
theorem dX9_lost_14 : decode cX9_lost 14 = .ok (.lconst 1, 1) := by decide +kernel
theorem dX9_lost_15 : decode cX9_lost 15 = .ok (.invokestatic 50, 3) := by decide +kernel
theorem dX9_lost_18 : decode cX9_lost 18 = .ok (.ifCond .ne 7, 3) := by decide +kernel
theorem dX9_lost_21 : decode cX9_lost 21 = .ok (.ldc2_w 62, 3) := by decide +kernel
theorem dX9_lost_24 : decode cX9_lost 24 = .ok (.lreturn, 1) := by decide +kernel
theorem dX9_lost_25 : decode cX9_lost 25 = .ok (.iload_n 3, 1) := by decide +kernel
theorem dX9_lost_26 : decode cX9_lost 26 = .ok (.ifCond .ne 11, 3) := by decide +kernel
theorem dX9_lost_29 : decode cX9_lost 29 = .ok (.aload_n 0, 1) := by decide +kernel
theorem dX9_lost_30 : decode cX9_lost 30 = .ok (.lload_n 1, 1) := by decide +kernel
theorem dX9_lost_31 : decode cX9_lost 31 = .ok (.invokevirtual 64, 3) := by decide +kernel
theorem dX9_lost_34 : decode cX9_lost 34 = .ok (.goto 10, 3) := by decide +kernel
theorem dX9_lost_37 : decode cX9_lost 37 = .ok (.aload_n 0, 1) := by decide +kernel
theorem dX9_lost_38 : decode cX9_lost 38 = .ok (.lload_n 1, 1) := by decide +kernel
theorem dX9_lost_39 : decode cX9_lost 39 = .ok (.invokevirtual 64, 3) := by decide +kernel
theorem dX9_lost_42 : decode cX9_lost 42 = .ok (.lload_n 1, 1) := by decide +kernel
theorem dX9_lost_43 : decode cX9_lost 43 = .ok (.ladd, 1) := by decide +kernel
theorem dX9_lost_44 : decode cX9_lost 44 = .ok (.lreturn, 1) := by decide +kernel
set_option maxRecDepth 20000 in
theorem ggX9_lostOf_X9_isHeap : GoodIn wsX9_lostOf wsX9_isHeap := goodIn_r _ [7, 8, 9, 10, 6, 11] (by decide +kernel) (by decide +kernel)
set_option maxRecDepth 20000 in
theorem gX9_lostOf_X9_isHeap : GoodIn wsX9_lostOf (va_wsS RX9 54 yX9_isHeap wsX9_isHeap) := goodIn_app (goodIn_of _ (by decide +kernel)) ggX9_lostOf_X9_isHeap
set_option maxRecDepth 20000 in
theorem ggX9_lostOf_X9_in : GoodIn wsX9_lostOf wsX9_in := goodIn_r _ [11] (by decide +kernel) (by decide +kernel)
set_option maxRecDepth 20000 in
theorem gX9_lostOf_X9_in : GoodIn wsX9_lostOf (va_wsS RX9 50 yX9_in wsX9_in) := goodIn_app (goodIn_of _ (by decide +kernel)) ggX9_lostOf_X9_in
set_option maxRecDepth 20000 in
theorem ggX9_lostOf_X9_find : GoodIn wsX9_lostOf wsX9_find := goodIn_r _ [15, 16, 2, 3, 17, 18, 19, 6, 20, 21, 22, 23, 24, 25, 26, 27, 28, 29, 30, 31, 32, 33, 34, 35, 36, 37, 38, 39] (by decide +kernel) (by decide +kernel)
set_option maxRecDepth 20000 in
theorem gX9_lostOf_X9_find : GoodIn wsX9_lostOf (wsV RX9 79 RX9 yX9_find wsX9_find) := goodIn_app (goodIn_of _ (by decide +kernel)) ggX9_lostOf_X9_find
theorem dX9_lostOf_0 : decode cX9_lostOf 0 = .ok (.lload_n 1, 1) := by decide +kernel
theorem dX9_lostOf_1 : decode cX9_lostOf 1 = .ok (.invokestatic 54, 3) := by decide +kernel
theorem dX9_lostOf_4 : decode cX9_lostOf 4 = .ok (.ifCond .eq 13, 3) := by decide +kernel
theorem dX9_lostOf_7 : decode cX9_lostOf 7 = .ok (.iload_n 3, 1) := by decide +kernel
theorem dX9_lostOf_8 : decode cX9_lostOf 8 = .ok (.i2l, 1) := by decide +kernel
theorem dX9_lostOf_9 : decode cX9_lostOf 9 = .ok (.lconst 0, 1) := by decide +kernel
theorem dX9_lostOf_10 : decode cX9_lostOf 10 = .ok (.lconst 1, 1) := by decide +kernel
theorem dX9_lostOf_11 : decode cX9_lostOf 11 = .ok (.invokestatic 50, 3) := by decide +kernel
theorem dX9_lostOf_14 : decode cX9_lostOf 14 = .ok (.ifCond .ne 7, 3) := by decide +kernel
theorem dX9_lostOf_17 : decode cX9_lostOf 17 = .ok (.ldc2_w 62, 3) := by decide +kernel
theorem dX9_lostOf_20 : decode cX9_lostOf 20 = .ok (.lreturn, 1) := by decide +kernel
theorem dX9_lostOf_21 : decode cX9_lostOf 21 = .ok (.aload_n 0, 1) := by decide +kernel
theorem dX9_lostOf_22 : decode cX9_lostOf 22 = .ok (.lload_n 1, 1) := by decide +kernel
theorem dX9_lostOf_23 : decode cX9_lostOf 23 = .ok (.invokevirtual 79, 3) := by decide +kernel
theorem dX9_lostOf_26 : decode cX9_lostOf 26 = .ok (.iload_n 3, 1) := by decide +kernel
theorem dX9_lostOf_27 : decode cX9_lostOf 27 = .ok (.ifCond .ne 10, 3) := by decide +kernel
theorem dX9_lostOf_30 : decode cX9_lostOf 30 = .ok (.aload_n 0, 1) := by decide +kernel
theorem dX9_lostOf_31 : decode cX9_lostOf 31 = .ok (.getfield 71, 3) := by decide +kernel
theorem dX9_lostOf_34 : decode cX9_lostOf 34 = .ok (.goto 15, 3) := by decide +kernel
theorem dX9_lostOf_37 : decode cX9_lostOf 37 = .ok (.aload_n 0, 1) := by decide +kernel
theorem dX9_lostOf_38 : decode cX9_lostOf 38 = .ok (.getfield 75, 3) := by decide +kernel
theorem dX9_lostOf_41 : decode cX9_lostOf 41 = .ok (.ifCond .eq 7, 3) := by decide +kernel
theorem dX9_lostOf_44 : decode cX9_lostOf 44 = .ok (.lconst 1, 1) := by decide +kernel
theorem dX9_lostOf_45 : decode cX9_lostOf 45 = .ok (.goto 4, 3) := by decide +kernel
theorem dX9_lostOf_48 : decode cX9_lostOf 48 = .ok (.lconst 0, 1) := by decide +kernel
theorem dX9_lostOf_49 : decode cX9_lostOf 49 = .ok (.lreturn, 1) := by decide +kernel
theorem dX9_findRow_0 : decode cX9_findRow 0 = .ok (.aload_n 0, 1) := by decide +kernel
theorem dX9_findRow_1 : decode cX9_findRow 1 = .ok (.getfield 13, 3) := by decide +kernel
theorem dX9_findRow_4 : decode cX9_findRow 4 = .ok (.iconst 0, 1) := by decide +kernel
theorem dX9_findRow_5 : decode cX9_findRow 5 = .ok (.lconst 1, 1) := by decide +kernel
theorem dX9_findRow_6 : decode cX9_findRow 6 = .ok (.lastore, 1) := by decide +kernel
theorem dX9_findRow_7 : decode cX9_findRow 7 = .ok (.aload_n 0, 1) := by decide +kernel
theorem dX9_findRow_8 : decode cX9_findRow 8 = .ok (.iconst 1, 1) := by decide +kernel
theorem dX9_findRow_9 : decode cX9_findRow 9 = .ok (.putfield 90, 3) := by decide +kernel
theorem dX9_findRow_12 : decode cX9_findRow 12 = .ok (.iconst 0, 1) := by decide +kernel
theorem dX9_findRow_13 : decode cX9_findRow 13 = .ok (.istore_n 2, 1) := by decide +kernel
theorem dX9_findRow_14 : decode cX9_findRow 14 = .ok (.lconst 1, 1) := by decide +kernel
theorem dX9_findRow_15 : decode cX9_findRow 15 = .ok (.lstore_n 3, 1) := by decide +kernel
theorem dX9_findRow_16 : decode cX9_findRow 16 = .ok (.iload_n 1, 1) := by decide +kernel
theorem dX9_findRow_17 : decode cX9_findRow 17 = .ok (.i2l, 1) := by decide +kernel
theorem dX9_findRow_18 : decode cX9_findRow 18 = .ok (.aload_n 0, 1) := by decide +kernel
theorem dX9_findRow_19 : decode cX9_findRow 19 = .ok (.getfield 13, 3) := by decide +kernel
theorem dX9_findRow_22 : decode cX9_findRow 22 = .ok (.iload_n 2, 1) := by decide +kernel
theorem dX9_findRow_23 : decode cX9_findRow 23 = .ok (.laload, 1) := by decide +kernel
theorem dX9_findRow_24 : decode cX9_findRow 24 = .ok (.lmul, 1) := by decide +kernel
theorem dX9_findRow_25 : decode cX9_findRow 25 = .ok (.lload_n 3, 1) := by decide +kernel
theorem dX9_findRow_26 : decode cX9_findRow 26 = .ok (.lcmp, 1) := by decide +kernel
theorem dX9_findRow_27 : decode cX9_findRow 27 = .ok (.ifCond .ge 9, 3) := by decide +kernel
theorem dX9_findRow_30 : decode cX9_findRow 30 = .ok (.iinc 2 1, 3) := by decide +kernel
theorem dX9_findRow_33 : decode cX9_findRow 33 = .ok (.goto (-17), 3) := by decide +kernel
theorem dX9_findRow_36 : decode cX9_findRow 36 = .ok (.lload_n 3, 1) := by decide +kernel
theorem dX9_findRow_37 : decode cX9_findRow 37 = .ok (.aload_n 0, 1) := by decide +kernel
theorem dX9_findRow_38 : decode cX9_findRow 38 = .ok (.getfield 13, 3) := by decide +kernel
theorem dX9_findRow_41 : decode cX9_findRow 41 = .ok (.iload_n 2, 1) := by decide +kernel
theorem dX9_findRow_42 : decode cX9_findRow 42 = .ok (.laload, 1) := by decide +kernel
theorem dX9_findRow_43 : decode cX9_findRow 43 = .ok (.ladd, 1) := by decide +kernel
theorem dX9_findRow_44 : decode cX9_findRow 44 = .ok (.lstore_n 3, 1) := by decide +kernel
theorem dX9_findRow_45 : decode cX9_findRow 45 = .ok (.lload_n 3, 1) := by decide +kernel
theorem dX9_findRow_46 : decode cX9_findRow 46 = .ok (.ldc2_w 48, 3) := by decide +kernel
theorem dX9_findRow_49 : decode cX9_findRow 49 = .ok (.lcmp, 1) := by decide +kernel
theorem dX9_findRow_50 : decode cX9_findRow 50 = .ok (.ifCond .le 4, 3) := by decide +kernel
theorem dX9_findRow_53 : decode cX9_findRow 53 = .ok (.return_, 1) := by decide +kernel
theorem dX9_findRow_54 : decode cX9_findRow 54 = .ok (.aload_n 0, 1) := by decide +kernel
theorem dX9_findRow_55 : decode cX9_findRow 55 = .ok (.getfield 13, 3) := by decide +kernel
theorem dX9_findRow_58 : decode cX9_findRow 58 = .ok (.aload_n 0, 1) := by decide +kernel
theorem dX9_findRow_59 : decode cX9_findRow 59 = .ok (.getfield 90, 3) := by decide +kernel
theorem dX9_findRow_62 : decode cX9_findRow 62 = .ok (.lload_n 3, 1) := by decide +kernel
theorem dX9_findRow_63 : decode cX9_findRow 63 = .ok (.lastore, 1) := by decide +kernel
theorem dX9_findRow_64 : decode cX9_findRow 64 = .ok (.aload_n 0, 1) := by decide +kernel
theorem dX9_findRow_65 : decode cX9_findRow 65 = .ok (.dup, 1) := by decide +kernel
theorem dX9_findRow_66 : decode cX9_findRow 66 = .ok (.getfield 90, 3) := by decide +kernel
theorem dX9_findRow_69 : decode cX9_findRow 69 = .ok (.iconst 1, 1) := by decide +kernel
theorem dX9_findRow_70 : decode cX9_findRow 70 = .ok (.iadd, 1) := by decide +kernel
theorem dX9_findRow_71 : decode cX9_findRow 71 = .ok (.putfield 90, 3) := by decide +kernel
theorem dX9_findRow_74 : decode cX9_findRow 74 = .ok (.goto (-58), 3) := by decide +kernel
set_option maxRecDepth 20000 in
theorem ggX9_isBy_X9_in : GoodIn wsX9_isBy wsX9_in := goodIn_r _ [5] (by decide +kernel) (by decide +kernel)
set_option maxRecDepth 20000 in
theorem gX9_isBy_X9_in : GoodIn wsX9_isBy (va_wsS RX9 50 yX9_in wsX9_in) := goodIn_app (goodIn_of _ (by decide +kernel)) ggX9_isBy_X9_in
theorem dX9_isBy_0 : decode cX9_isBy 0 = .ok (.iload_n 0, 1) := by decide +kernel
theorem dX9_isBy_1 : decode cX9_isBy 1 = .ok (.i2l, 1) := by decide +kernel
theorem dX9_isBy_2 : decode cX9_isBy 2 = .ok (.lconst 1, 1) := by decide +kernel
theorem dX9_isBy_3 : decode cX9_isBy 3 = .ok (.ldc2_w 93, 3) := by decide +kernel
theorem dX9_isBy_6 : decode cX9_isBy 6 = .ok (.invokestatic 50, 3) := by decide +kernel
theorem dX9_isBy_9 : decode cX9_isBy 9 = .ok (.ireturn, 1) := by decide +kernel
set_option maxRecDepth 20000 in
theorem ggX9_row_X9_isBy : GoodIn wsX9_row wsX9_isBy := goodIn_r _ [8, 9, 10, 11, 7, 12] (by decide +kernel) (by decide +kernel)
set_option maxRecDepth 20000 in
theorem gX9_row_X9_isBy : GoodIn wsX9_row (va_wsS RX9 95 yX9_isBy wsX9_isBy) := goodIn_app (goodIn_of _ (by decide +kernel)) ggX9_row_X9_isBy
set_option maxRecDepth 20000 in
theorem ggX9_row_X9_findRow : GoodIn wsX9_row wsX9_findRow := goodIn_r _ [16, 3, 2, 17, 18, 19, 20, 21, 22, 23, 24, 25, 26, 27, 28, 29, 30, 31, 32, 33, 34, 35] (by decide +kernel) (by decide +kernel)
set_option maxRecDepth 20000 in
theorem gX9_row_X9_findRow : GoodIn wsX9_row (wsV RX9 99 RX9 yX9_findRow wsX9_findRow) := goodIn_app (goodIn_of _ (by decide +kernel)) ggX9_row_X9_findRow
theorem dX9_row_0 : decode cX9_row 0 = .ok (.iload_n 1, 1) := by decide +kernel
theorem dX9_row_1 : decode cX9_row 1 = .ok (.invokestatic 95, 3) := by decide +kernel
theorem dX9_row_4 : decode cX9_row 4 = .ok (.ifCond .eq 7, 3) := by decide +kernel
theorem dX9_row_7 : decode cX9_row 7 = .ok (.iload_n 2, 1) := by decide +kernel
theorem dX9_row_8 : decode cX9_row 8 = .ok (.ifCond .ge 7, 3) := by decide +kernel
theorem dX9_row_11 : decode cX9_row 11 = .ok (.ldc2_w 62, 3) := by decide +kernel
theorem dX9_row_14 : decode cX9_row 14 = .ok (.lreturn, 1) := by decide +kernel
theorem dX9_row_15 : decode cX9_row 15 = .ok (.aload_n 0, 1) := by decide +kernel
theorem dX9_row_16 : decode cX9_row 16 = .ok (.iload_n 1, 1) := by decide +kernel
theorem dX9_row_17 : decode cX9_row 17 = .ok (.invokevirtual 99, 3) := by decide +kernel
theorem dX9_row_20 : decode cX9_row 20 = .ok (.iload_n 2, 1) := by decide +kernel
theorem dX9_row_21 : decode cX9_row 21 = .ok (.aload_n 0, 1) := by decide +kernel
theorem dX9_row_22 : decode cX9_row 22 = .ok (.getfield 90, 3) := by decide +kernel
theorem dX9_row_25 : decode cX9_row 25 = .ok (.if_icmp .ge 12, 3) := by decide +kernel
theorem dX9_row_28 : decode cX9_row 28 = .ok (.aload_n 0, 1) := by decide +kernel
theorem dX9_row_29 : decode cX9_row 29 = .ok (.getfield 13, 3) := by decide +kernel
theorem dX9_row_32 : decode cX9_row 32 = .ok (.iload_n 2, 1) := by decide +kernel
theorem dX9_row_33 : decode cX9_row 33 = .ok (.laload, 1) := by decide +kernel
theorem dX9_row_34 : decode cX9_row 34 = .ok (.goto 6, 3) := by decide +kernel
theorem dX9_row_37 : decode cX9_row 37 = .ok (.ldc2_w 86, 3) := by decide +kernel
theorem dX9_row_40 : decode cX9_row 40 = .ok (.lreturn, 1) := by decide +kernel
set_option maxRecDepth 20000 in
theorem ggX9_lastOf_X9_findRow : GoodIn wsX9_lastOf wsX9_findRow := goodIn_r _ [8, 3, 2, 9, 10, 11, 12, 13, 14, 15, 16, 17, 18, 19, 20, 21, 22, 23, 24, 25, 26, 27] (by decide +kernel) (by decide +kernel)
set_option maxRecDepth 20000 in
theorem gX9_lastOf_X9_findRow : GoodIn wsX9_lastOf (wsV RX9 99 RX9 yX9_findRow wsX9_findRow) := goodIn_app (goodIn_of _ (by decide +kernel)) ggX9_lastOf_X9_findRow
theorem dX9_lastOf_0 : decode cX9_lastOf 0 = .ok (.aload_n 0, 1) := by decide +kernel
theorem dX9_lastOf_1 : decode cX9_lastOf 1 = .ok (.iload_n 1, 1) := by decide +kernel
theorem dX9_lastOf_2 : decode cX9_lastOf 2 = .ok (.invokevirtual 99, 3) := by decide +kernel
theorem dX9_lastOf_5 : decode cX9_lastOf 5 = .ok (.lload_n 2, 1) := by decide +kernel
theorem dX9_lastOf_6 : decode cX9_lastOf 6 = .ok (.lstore 4, 2) := by decide +kernel
theorem dX9_lastOf_8 : decode cX9_lastOf 8 = .ok (.lconst 0, 1) := by decide +kernel
theorem dX9_lastOf_9 : decode cX9_lastOf 9 = .ok (.lstore 6, 2) := by decide +kernel
theorem dX9_lastOf_11 : decode cX9_lastOf 11 = .ok (.aload_n 0, 1) := by decide +kernel
theorem dX9_lastOf_12 : decode cX9_lastOf 12 = .ok (.iconst 0, 1) := by decide +kernel
theorem dX9_lastOf_13 : decode cX9_lastOf 13 = .ok (.putfield 103, 3) := by decide +kernel
theorem dX9_lastOf_16 : decode cX9_lastOf 16 = .ok (.aload_n 0, 1) := by decide +kernel
theorem dX9_lastOf_17 : decode cX9_lastOf 17 = .ok (.getfield 90, 3) := by decide +kernel
theorem dX9_lastOf_20 : decode cX9_lastOf 20 = .ok (.iconst 1, 1) := by decide +kernel
theorem dX9_lastOf_21 : decode cX9_lastOf 21 = .ok (.isub, 1) := by decide +kernel
theorem dX9_lastOf_22 : decode cX9_lastOf 22 = .ok (.istore 8, 2) := by decide +kernel
theorem dX9_lastOf_24 : decode cX9_lastOf 24 = .ok (.iload 8, 2) := by decide +kernel
theorem dX9_lastOf_26 : decode cX9_lastOf 26 = .ok (.ifCond .lt 60, 3) := by decide +kernel
theorem dX9_lastOf_29 : decode cX9_lastOf 29 = .ok (.lload 4, 2) := by decide +kernel
theorem dX9_lastOf_31 : decode cX9_lastOf 31 = .ok (.lconst 0, 1) := by decide +kernel
theorem dX9_lastOf_32 : decode cX9_lastOf 32 = .ok (.lcmp, 1) := by decide +kernel
theorem dX9_lastOf_33 : decode cX9_lastOf 33 = .ok (.ifCond .le 53, 3) := by decide +kernel
theorem dX9_lastOf_36 : decode cX9_lastOf 36 = .ok (.aload_n 0, 1) := by decide +kernel
theorem dX9_lastOf_37 : decode cX9_lastOf 37 = .ok (.getfield 13, 3) := by decide +kernel
theorem dX9_lastOf_40 : decode cX9_lastOf 40 = .ok (.iload 8, 2) := by decide +kernel
theorem dX9_lastOf_42 : decode cX9_lastOf 42 = .ok (.laload, 1) := by decide +kernel
theorem dX9_lastOf_43 : decode cX9_lastOf 43 = .ok (.lload 4, 2) := by decide +kernel
theorem dX9_lastOf_45 : decode cX9_lastOf 45 = .ok (.lcmp, 1) := by decide +kernel
theorem dX9_lastOf_46 : decode cX9_lastOf 46 = .ok (.ifCond .gt 34, 3) := by decide +kernel
theorem dX9_lastOf_49 : decode cX9_lastOf 49 = .ok (.lload 4, 2) := by decide +kernel
theorem dX9_lastOf_51 : decode cX9_lastOf 51 = .ok (.aload_n 0, 1) := by decide +kernel
theorem dX9_lastOf_52 : decode cX9_lastOf 52 = .ok (.getfield 13, 3) := by decide +kernel
theorem dX9_lastOf_55 : decode cX9_lastOf 55 = .ok (.iload 8, 2) := by decide +kernel
theorem dX9_lastOf_57 : decode cX9_lastOf 57 = .ok (.laload, 1) := by decide +kernel
theorem dX9_lastOf_58 : decode cX9_lastOf 58 = .ok (.lsub, 1) := by decide +kernel
theorem dX9_lastOf_59 : decode cX9_lastOf 59 = .ok (.lstore 4, 2) := by decide +kernel
theorem dX9_lastOf_61 : decode cX9_lastOf 61 = .ok (.aload_n 0, 1) := by decide +kernel
theorem dX9_lastOf_62 : decode cX9_lastOf 62 = .ok (.getfield 13, 3) := by decide +kernel
theorem dX9_lastOf_65 : decode cX9_lastOf 65 = .ok (.iload 8, 2) := by decide +kernel
theorem dX9_lastOf_67 : decode cX9_lastOf 67 = .ok (.laload, 1) := by decide +kernel
theorem dX9_lastOf_68 : decode cX9_lastOf 68 = .ok (.lstore 6, 2) := by decide +kernel
theorem dX9_lastOf_70 : decode cX9_lastOf 70 = .ok (.aload_n 0, 1) := by decide +kernel
theorem dX9_lastOf_71 : decode cX9_lastOf 71 = .ok (.dup, 1) := by decide +kernel
theorem dX9_lastOf_72 : decode cX9_lastOf 72 = .ok (.getfield 103, 3) := by decide +kernel
theorem dX9_lastOf_75 : decode cX9_lastOf 75 = .ok (.iconst 1, 1) := by decide +kernel
theorem dX9_lastOf_76 : decode cX9_lastOf 76 = .ok (.iadd, 1) := by decide +kernel
theorem dX9_lastOf_77 : decode cX9_lastOf 77 = .ok (.putfield 103, 3) := by decide +kernel
theorem dX9_lastOf_80 : decode cX9_lastOf 80 = .ok (.iinc 8 (-1), 3) := by decide +kernel
theorem dX9_lastOf_83 : decode cX9_lastOf 83 = .ok (.goto (-59), 3) := by decide +kernel
theorem dX9_lastOf_86 : decode cX9_lastOf 86 = .ok (.lload 6, 2) := by decide +kernel
theorem dX9_lastOf_88 : decode cX9_lastOf 88 = .ok (.lreturn, 1) := by decide +kernel
set_option maxRecDepth 20000 in
theorem ggX9_digits_X9_isBy : GoodIn wsX9_digits wsX9_isBy := goodIn_r _ [5, 6, 7, 8, 4, 9] (by decide +kernel) (by decide +kernel)
set_option maxRecDepth 20000 in
theorem gX9_digits_X9_isBy : GoodIn wsX9_digits (va_wsS RX9 95 yX9_isBy wsX9_isBy) := goodIn_app (goodIn_of _ (by decide +kernel)) ggX9_digits_X9_isBy
set_option maxRecDepth 20000 in
theorem ggX9_digits_X9_isHeap : GoodIn wsX9_digits wsX9_isHeap := goodIn_r _ [12, 13, 7, 8, 4, 9] (by decide +kernel) (by decide +kernel)
set_option maxRecDepth 20000 in
theorem gX9_digits_X9_isHeap : GoodIn wsX9_digits (va_wsS RX9 54 yX9_isHeap wsX9_isHeap) := goodIn_app (goodIn_of _ (by decide +kernel)) ggX9_digits_X9_isHeap
set_option maxRecDepth 20000 in
theorem ggX9_digits_X9_lastOf : GoodIn wsX9_digits wsX9_lastOf := goodIn_r _ [17, 1, 18, 19, 20, 21, 22, 4, 23, 13, 24, 25, 26, 27, 28, 29, 30, 31, 32, 33, 34, 35, 36, 37, 38, 39, 40, 41] (by decide +kernel) (by decide +kernel)
set_option maxRecDepth 20000 in
theorem gX9_digits_X9_lastOf : GoodIn wsX9_digits (wsV RX9 106 RX9 yX9_lastOf wsX9_lastOf) := goodIn_app (goodIn_of _ (by decide +kernel)) ggX9_digits_X9_lastOf
theorem dX9_digits_0 : decode cX9_digits 0 = .ok (.iload_n 1, 1) := by decide +kernel
theorem dX9_digits_1 : decode cX9_digits 1 = .ok (.invokestatic 95, 3) := by decide +kernel
theorem dX9_digits_4 : decode cX9_digits 4 = .ok (.ifCond .eq 10, 3) := by decide +kernel
theorem dX9_digits_7 : decode cX9_digits 7 = .ok (.lload_n 2, 1) := by decide +kernel
theorem dX9_digits_8 : decode cX9_digits 8 = .ok (.invokestatic 54, 3) := by decide +kernel
theorem dX9_digits_11 : decode cX9_digits 11 = .ok (.ifCond .ne 6, 3) := by decide +kernel
theorem dX9_digits_14 : decode cX9_digits 14 = .ok (.bipush (-2), 2) := by decide +kernel
theorem dX9_digits_16 : decode cX9_digits 16 = .ok (.ireturn, 1) := by decide +kernel
theorem dX9_digits_17 : decode cX9_digits 17 = .ok (.aload_n 0, 1) := by decide +kernel
theorem dX9_digits_18 : decode cX9_digits 18 = .ok (.iload_n 1, 1) := by decide +kernel
theorem dX9_digits_19 : decode cX9_digits 19 = .ok (.lload_n 2, 1) := by decide +kernel
theorem dX9_digits_20 : decode cX9_digits 20 = .ok (.invokevirtual 106, 3) := by decide +kernel
theorem dX9_digits_23 : decode cX9_digits 23 = .ok (.lstore 4, 2) := by decide +kernel
theorem dX9_digits_25 : decode cX9_digits 25 = .ok (.aload_n 0, 1) := by decide +kernel
theorem dX9_digits_26 : decode cX9_digits 26 = .ok (.getfield 103, 3) := by decide +kernel
theorem dX9_digits_29 : decode cX9_digits 29 = .ok (.ireturn, 1) := by decide +kernel
set_option maxRecDepth 20000 in
theorem ggX9_last_X9_isBy : GoodIn wsX9_last wsX9_isBy := goodIn_r _ [6, 7, 8, 9, 5, 10] (by decide +kernel) (by decide +kernel)
set_option maxRecDepth 20000 in
theorem gX9_last_X9_isBy : GoodIn wsX9_last (va_wsS RX9 95 yX9_isBy wsX9_isBy) := goodIn_app (goodIn_of _ (by decide +kernel)) ggX9_last_X9_isBy
set_option maxRecDepth 20000 in
theorem ggX9_last_X9_in : GoodIn wsX9_last wsX9_in := goodIn_r _ [10] (by decide +kernel) (by decide +kernel)
set_option maxRecDepth 20000 in
theorem gX9_last_X9_in : GoodIn wsX9_last (va_wsS RX9 50 yX9_in wsX9_in) := goodIn_app (goodIn_of _ (by decide +kernel)) ggX9_last_X9_in
set_option maxRecDepth 20000 in
theorem ggX9_last_X9_lastOf : GoodIn wsX9_last wsX9_lastOf := goodIn_r _ [14, 15, 16, 17, 18, 19, 20, 5, 21, 1, 22, 23, 24, 25, 26, 27, 28, 29, 30, 31, 32, 33, 34, 35, 36, 37, 38, 39] (by decide +kernel) (by decide +kernel)
set_option maxRecDepth 20000 in
theorem gX9_last_X9_lastOf : GoodIn wsX9_last (wsV RX9 106 RX9 yX9_lastOf wsX9_lastOf) := goodIn_app (goodIn_of _ (by decide +kernel)) ggX9_last_X9_lastOf
theorem dX9_last_0 : decode cX9_last 0 = .ok (.iload_n 1, 1) := by decide +kernel
theorem dX9_last_1 : decode cX9_last 1 = .ok (.invokestatic 95, 3) := by decide +kernel
theorem dX9_last_4 : decode cX9_last 4 = .ok (.ifCond .eq 23, 3) := by decide +kernel
theorem dX9_last_7 : decode cX9_last 7 = .ok (.lload_n 2, 1) := by decide +kernel
theorem dX9_last_8 : decode cX9_last 8 = .ok (.lconst 1, 1) := by decide +kernel
theorem dX9_last_9 : decode cX9_last 9 = .ok (.ldc2_w 48, 3) := by decide +kernel
theorem dX9_last_12 : decode cX9_last 12 = .ok (.invokestatic 50, 3) := by decide +kernel
theorem dX9_last_15 : decode cX9_last 15 = .ok (.ifCond .eq 12, 3) := by decide +kernel
theorem dX9_last_18 : decode cX9_last 18 = .ok (.aload_n 0, 1) := by decide +kernel
theorem dX9_last_19 : decode cX9_last 19 = .ok (.iload_n 1, 1) := by decide +kernel
theorem dX9_last_20 : decode cX9_last 20 = .ok (.lload_n 2, 1) := by decide +kernel
theorem dX9_last_21 : decode cX9_last 21 = .ok (.invokevirtual 106, 3) := by decide +kernel
theorem dX9_last_24 : decode cX9_last 24 = .ok (.goto 6, 3) := by decide +kernel
theorem dX9_last_27 : decode cX9_last 27 = .ok (.ldc2_w 62, 3) := by decide +kernel
theorem dX9_last_30 : decode cX9_last 30 = .ok (.lreturn, 1) := by decide +kernel
set_option maxRecDepth 20000 in
theorem ggX9_isTimes_X9_lastOf : GoodIn wsX9_isTimes wsX9_lastOf := goodIn_r _ [5, 6, 7, 8, 9, 10, 11, 4, 12, 13, 14, 15, 16, 17, 18, 19, 20, 21, 22, 23, 24, 25, 26, 27, 28, 29, 30, 31] (by decide +kernel) (by decide +kernel)
set_option maxRecDepth 20000 in
theorem gX9_isTimes_X9_lastOf : GoodIn wsX9_isTimes (wsV RX9 106 RX9 yX9_lastOf wsX9_lastOf) := goodIn_app (goodIn_of _ (by decide +kernel)) ggX9_isTimes_X9_lastOf
theorem dX9_isTimes_0 : decode cX9_isTimes 0 = .ok (.lload_n 2, 1) := by decide +kernel
theorem dX9_isTimes_1 : decode cX9_isTimes 1 = .ok (.lconst 0, 1) := by decide +kernel
theorem dX9_isTimes_2 : decode cX9_isTimes 2 = .ok (.lcmp, 1) := by decide +kernel
theorem dX9_isTimes_3 : decode cX9_isTimes 3 = .ok (.ifCond .le 19, 3) := by decide +kernel
theorem dX9_isTimes_6 : decode cX9_isTimes 6 = .ok (.lload 4, 2) := by decide +kernel
theorem dX9_isTimes_8 : decode cX9_isTimes 8 = .ok (.aload_n 0, 1) := by decide +kernel
theorem dX9_isTimes_9 : decode cX9_isTimes 9 = .ok (.iload_n 1, 1) := by decide +kernel
theorem dX9_isTimes_10 : decode cX9_isTimes 10 = .ok (.lload_n 2, 1) := by decide +kernel
theorem dX9_isTimes_11 : decode cX9_isTimes 11 = .ok (.invokevirtual 106, 3) := by decide +kernel
theorem dX9_isTimes_14 : decode cX9_isTimes 14 = .ok (.lcmp, 1) := by decide +kernel
theorem dX9_isTimes_15 : decode cX9_isTimes 15 = .ok (.ifCond .lt 7, 3) := by decide +kernel
theorem dX9_isTimes_18 : decode cX9_isTimes 18 = .ok (.iconst 1, 1) := by decide +kernel
theorem dX9_isTimes_19 : decode cX9_isTimes 19 = .ok (.goto 4, 3) := by decide +kernel
theorem dX9_isTimes_22 : decode cX9_isTimes 22 = .ok (.iconst 0, 1) := by decide +kernel
theorem dX9_isTimes_23 : decode cX9_isTimes 23 = .ok (.ireturn, 1) := by decide +kernel
set_option maxRecDepth 20000 in
theorem ggX9_times_X9_isBy : GoodIn wsX9_times wsX9_isBy := goodIn_r _ [4, 5, 6, 7, 3, 8] (by decide +kernel) (by decide +kernel)
set_option maxRecDepth 20000 in
theorem gX9_times_X9_isBy : GoodIn wsX9_times (va_wsS RX9 95 yX9_isBy wsX9_isBy) := goodIn_app (goodIn_of _ (by decide +kernel)) ggX9_times_X9_isBy
set_option maxRecDepth 20000 in
theorem ggX9_times_X9_isHeap : GoodIn wsX9_times wsX9_isHeap := goodIn_r _ [11, 12, 6, 7, 3, 8] (by decide +kernel) (by decide +kernel)
set_option maxRecDepth 20000 in
theorem gX9_times_X9_isHeap : GoodIn wsX9_times (va_wsS RX9 54 yX9_isHeap wsX9_isHeap) := goodIn_app (goodIn_of _ (by decide +kernel)) ggX9_times_X9_isHeap
set_option maxRecDepth 20000 in
theorem ggX9_times_X9_isTimes : GoodIn wsX9_times wsX9_isTimes := goodIn_r _ [16, 17, 18, 19, 3, 20, 21, 22, 23, 24, 25, 26, 27, 12, 28, 29, 30, 31, 32, 33, 34, 35, 36, 37, 38, 39, 40, 41, 42, 43, 44, 45] (by decide +kernel) (by decide +kernel)
set_option maxRecDepth 20000 in
theorem gX9_times_X9_isTimes : GoodIn wsX9_times (wsV RX9 110 RX9 yX9_isTimes wsX9_isTimes) := goodIn_app (goodIn_of _ (by decide +kernel)) ggX9_times_X9_isTimes
theorem dX9_times_0 : decode cX9_times 0 = .ok (.iload_n 1, 1) := by decide +kernel
theorem dX9_times_1 : decode cX9_times 1 = .ok (.invokestatic 95, 3) := by decide +kernel
theorem dX9_times_4 : decode cX9_times 4 = .ok (.ifCond .eq 18, 3) := by decide +kernel
theorem dX9_times_7 : decode cX9_times 7 = .ok (.lload_n 2, 1) := by decide +kernel
theorem dX9_times_8 : decode cX9_times 8 = .ok (.invokestatic 54, 3) := by decide +kernel
theorem dX9_times_11 : decode cX9_times 11 = .ok (.ifCond .eq 11, 3) := by decide +kernel
theorem dX9_times_14 : decode cX9_times 14 = .ok (.lload 4, 2) := by decide +kernel
theorem dX9_times_16 : decode cX9_times 16 = .ok (.invokestatic 54, 3) := by decide +kernel
theorem dX9_times_19 : decode cX9_times 19 = .ok (.ifCond .ne 8, 3) := by decide +kernel
theorem dX9_times_22 : decode cX9_times 22 = .ok (.bipush (-2), 2) := by decide +kernel
theorem dX9_times_24 : decode cX9_times 24 = .ok (.goto 19, 3) := by decide +kernel
theorem dX9_times_27 : decode cX9_times 27 = .ok (.aload_n 0, 1) := by decide +kernel
theorem dX9_times_28 : decode cX9_times 28 = .ok (.iload_n 1, 1) := by decide +kernel
theorem dX9_times_29 : decode cX9_times 29 = .ok (.lload_n 2, 1) := by decide +kernel
theorem dX9_times_30 : decode cX9_times 30 = .ok (.lload 4, 2) := by decide +kernel
theorem dX9_times_32 : decode cX9_times 32 = .ok (.invokevirtual 110, 3) := by decide +kernel
theorem dX9_times_35 : decode cX9_times 35 = .ok (.ifCond .eq 7, 3) := by decide +kernel
theorem dX9_times_38 : decode cX9_times 38 = .ok (.iconst 1, 1) := by decide +kernel
theorem dX9_times_39 : decode cX9_times 39 = .ok (.goto 4, 3) := by decide +kernel
theorem dX9_times_42 : decode cX9_times 42 = .ok (.iconst 0, 1) := by decide +kernel
theorem dX9_times_43 : decode cX9_times 43 = .ok (.ireturn, 1) := by decide +kernel
set_option maxRecDepth 20000 in
theorem ggX9_timesMove_X9_isBy : GoodIn wsX9_timesMove wsX9_isBy := goodIn_r _ [5, 6, 7, 8, 4, 9] (by decide +kernel) (by decide +kernel)
set_option maxRecDepth 20000 in
theorem gX9_timesMove_X9_isBy : GoodIn wsX9_timesMove (va_wsS RX9 95 yX9_isBy wsX9_isBy) := goodIn_app (goodIn_of _ (by decide +kernel)) ggX9_timesMove_X9_isBy
set_option maxRecDepth 20000 in
theorem ggX9_timesMove_X9_isHeap : GoodIn wsX9_timesMove wsX9_isHeap := goodIn_r _ [12, 13, 7, 8, 4, 9] (by decide +kernel) (by decide +kernel)
set_option maxRecDepth 20000 in
theorem gX9_timesMove_X9_isHeap : GoodIn wsX9_timesMove (va_wsS RX9 54 yX9_isHeap wsX9_isHeap) := goodIn_app (goodIn_of _ (by decide +kernel)) ggX9_timesMove_X9_isHeap
set_option maxRecDepth 20000 in
theorem ggX9_timesMove_X9_isTimes : GoodIn wsX9_timesMove wsX9_isTimes := goodIn_r _ [17, 18, 19, 20, 4, 21, 22, 23, 24, 25, 26, 27, 28, 13, 29, 30, 31, 32, 33, 34, 35, 36, 37, 38, 39, 40, 41, 42, 43, 44, 45, 46] (by decide +kernel) (by decide +kernel)
set_option maxRecDepth 20000 in
theorem gX9_timesMove_X9_isTimes : GoodIn wsX9_timesMove (wsV RX9 110 RX9 yX9_isTimes wsX9_isTimes) := goodIn_app (goodIn_of _ (by decide +kernel)) ggX9_timesMove_X9_isTimes
set_option maxRecDepth 20000 in
theorem ggX9_timesMove_X9_lastOf : GoodIn wsX9_timesMove wsX9_lastOf := goodIn_r _ [21, 22, 23, 24, 25, 26, 27, 4, 28, 13, 29, 30, 31, 32, 33, 34, 35, 36, 37, 38, 39, 40, 41, 42, 43, 44, 45, 46] (by decide +kernel) (by decide +kernel)
set_option maxRecDepth 20000 in
theorem gX9_timesMove_X9_lastOf : GoodIn wsX9_timesMove (wsV RX9 106 RX9 yX9_lastOf wsX9_lastOf) := goodIn_app (goodIn_of _ (by decide +kernel)) ggX9_timesMove_X9_lastOf
theorem dX9_timesMove_0 : decode cX9_timesMove 0 = .ok (.iload_n 1, 1) := by decide +kernel
theorem dX9_timesMove_1 : decode cX9_timesMove 1 = .ok (.invokestatic 95, 3) := by decide +kernel
theorem dX9_timesMove_4 : decode cX9_timesMove 4 = .ok (.ifCond .eq 18, 3) := by decide +kernel
theorem dX9_timesMove_7 : decode cX9_timesMove 7 = .ok (.lload_n 2, 1) := by decide +kernel
theorem dX9_timesMove_8 : decode cX9_timesMove 8 = .ok (.invokestatic 54, 3) := by decide +kernel
theorem dX9_timesMove_11 : decode cX9_timesMove 11 = .ok (.ifCond .eq 11, 3) := by decide +kernel
theorem dX9_timesMove_14 : decode cX9_timesMove 14 = .ok (.lload 4, 2) := by decide +kernel
theorem dX9_timesMove_16 : decode cX9_timesMove 16 = .ok (.invokestatic 54, 3) := by decide +kernel
theorem dX9_timesMove_19 : decode cX9_timesMove 19 = .ok (.ifCond .ne 7, 3) := by decide +kernel
theorem dX9_timesMove_22 : decode cX9_timesMove 22 = .ok (.ldc2_w 62, 3) := by decide +kernel
theorem dX9_timesMove_25 : decode cX9_timesMove 25 = .ok (.lreturn, 1) := by decide +kernel
theorem dX9_timesMove_26 : decode cX9_timesMove 26 = .ok (.aload_n 0, 1) := by decide +kernel
theorem dX9_timesMove_27 : decode cX9_timesMove 27 = .ok (.iload_n 1, 1) := by decide +kernel
theorem dX9_timesMove_28 : decode cX9_timesMove 28 = .ok (.lload_n 2, 1) := by decide +kernel
theorem dX9_timesMove_29 : decode cX9_timesMove 29 = .ok (.lload 4, 2) := by decide +kernel
theorem dX9_timesMove_31 : decode cX9_timesMove 31 = .ok (.invokevirtual 110, 3) := by decide +kernel
theorem dX9_timesMove_34 : decode cX9_timesMove 34 = .ok (.ifCond .eq 12, 3) := by decide +kernel
theorem dX9_timesMove_37 : decode cX9_timesMove 37 = .ok (.aload_n 0, 1) := by decide +kernel
theorem dX9_timesMove_38 : decode cX9_timesMove 38 = .ok (.iload_n 1, 1) := by decide +kernel
theorem dX9_timesMove_39 : decode cX9_timesMove 39 = .ok (.lload_n 2, 1) := by decide +kernel
theorem dX9_timesMove_40 : decode cX9_timesMove 40 = .ok (.invokevirtual 106, 3) := by decide +kernel
theorem dX9_timesMove_43 : decode cX9_timesMove 43 = .ok (.goto 4, 3) := by decide +kernel
theorem dX9_timesMove_46 : decode cX9_timesMove 46 = .ok (.lconst 0, 1) := by decide +kernel
theorem dX9_timesMove_47 : decode cX9_timesMove 47 = .ok (.lreturn, 1) := by decide +kernel
set_option maxRecDepth 20000 in
theorem ggX9_wonAt_X9_goShares : GoodIn wsX9_wonAt wsX9_goShares := goodIn_r _ [7, 2, 12, 13, 14, 15, 16, 17, 18, 19, 20, 21, 22, 23, 24, 25, 26, 27, 28, 29] (by decide +kernel) (by decide +kernel)
set_option maxRecDepth 20000 in
theorem gX9_wonAt_X9_goShares : GoodIn wsX9_wonAt (wsV RX9 114 RX9 yX9_goShares wsX9_goShares) := goodIn_app (goodIn_of _ (by decide +kernel)) ggX9_wonAt_X9_goShares
set_option maxRecDepth 20000 in
theorem ggX9_wonAt_X9_goBoth : GoodIn wsX9_wonAt wsX9_goBoth := goodIn_r _ [11, 2, 12, 13, 14, 15, 16, 17, 18, 19, 20, 21, 22, 23, 24, 25, 26, 27, 28, 29] (by decide +kernel) (by decide +kernel)
set_option maxRecDepth 20000 in
theorem gX9_wonAt_X9_goBoth : GoodIn wsX9_wonAt (wsV RX9 118 RX9 yX9_goBoth wsX9_goBoth) := goodIn_app (goodIn_of _ (by decide +kernel)) ggX9_wonAt_X9_goBoth
theorem dX9_wonAt_0 : decode cX9_wonAt 0 = .ok (.iconst 2, 1) := by decide +kernel
theorem dX9_wonAt_1 : decode cX9_wonAt 1 = .ok (.iload_n 1, 1) := by decide +kernel
theorem dX9_wonAt_2 : decode cX9_wonAt 2 = .ok (.imul, 1) := by decide +kernel
theorem dX9_wonAt_3 : decode cX9_wonAt 3 = .ok (.iload_n 2, 1) := by decide +kernel
theorem dX9_wonAt_4 : decode cX9_wonAt 4 = .ok (.ifCond .eq 7, 3) := by decide +kernel
theorem dX9_wonAt_7 : decode cX9_wonAt 7 = .ok (.iconst 1, 1) := by decide +kernel
theorem dX9_wonAt_8 : decode cX9_wonAt 8 = .ok (.goto 4, 3) := by decide +kernel
theorem dX9_wonAt_11 : decode cX9_wonAt 11 = .ok (.iconst 0, 1) := by decide +kernel
theorem dX9_wonAt_12 : decode cX9_wonAt 12 = .ok (.iadd, 1) := by decide +kernel
theorem dX9_wonAt_13 : decode cX9_wonAt 13 = .ok (.istore 5, 2) := by decide +kernel
theorem dX9_wonAt_15 : decode cX9_wonAt 15 = .ok (.aload_n 0, 1) := by decide +kernel
theorem dX9_wonAt_16 : decode cX9_wonAt 16 = .ok (.getfield 20, 3) := by decide +kernel
theorem dX9_wonAt_19 : decode cX9_wonAt 19 = .ok (.iload 5, 2) := by decide +kernel
theorem dX9_wonAt_21 : decode cX9_wonAt 21 = .ok (.baload, 1) := by decide +kernel
theorem dX9_wonAt_22 : decode cX9_wonAt 22 = .ok (.ifCond .ne 92, 3) := by decide +kernel
theorem dX9_wonAt_25 : decode cX9_wonAt 25 = .ok (.aload_n 0, 1) := by decide +kernel
theorem dX9_wonAt_26 : decode cX9_wonAt 26 = .ok (.getfield 20, 3) := by decide +kernel
theorem dX9_wonAt_29 : decode cX9_wonAt 29 = .ok (.iload 5, 2) := by decide +kernel
theorem dX9_wonAt_31 : decode cX9_wonAt 31 = .ok (.iconst 1, 1) := by decide +kernel
theorem dX9_wonAt_32 : decode cX9_wonAt 32 = .ok (.bastore, 1) := by decide +kernel
theorem dX9_wonAt_33 : decode cX9_wonAt 33 = .ok (.iconst 0, 1) := by decide +kernel
theorem dX9_wonAt_34 : decode cX9_wonAt 34 = .ok (.istore 6, 2) := by decide +kernel
theorem dX9_wonAt_36 : decode cX9_wonAt 36 = .ok (.iload 6, 2) := by decide +kernel
theorem dX9_wonAt_38 : decode cX9_wonAt 38 = .ok (.bipush 60, 2) := by decide +kernel
theorem dX9_wonAt_40 : decode cX9_wonAt 40 = .ok (.if_icmp .gt 74, 3) := by decide +kernel
theorem dX9_wonAt_43 : decode cX9_wonAt 43 = .ok (.iconst 0, 1) := by decide +kernel
theorem dX9_wonAt_44 : decode cX9_wonAt 44 = .ok (.istore 7, 2) := by decide +kernel
theorem dX9_wonAt_46 : decode cX9_wonAt 46 = .ok (.iload 7, 2) := by decide +kernel
theorem dX9_wonAt_48 : decode cX9_wonAt 48 = .ok (.bipush 60, 2) := by decide +kernel
theorem dX9_wonAt_50 : decode cX9_wonAt 50 = .ok (.if_icmp .gt 58, 3) := by decide +kernel
theorem dX9_wonAt_53 : decode cX9_wonAt 53 = .ok (.aload_n 0, 1) := by decide +kernel
theorem dX9_wonAt_54 : decode cX9_wonAt 54 = .ok (.getfield 16, 3) := by decide +kernel
theorem dX9_wonAt_57 : decode cX9_wonAt 57 = .ok (.sipush 3721, 3) := by decide +kernel
theorem dX9_wonAt_60 : decode cX9_wonAt 60 = .ok (.iload 5, 2) := by decide +kernel
theorem dX9_wonAt_62 : decode cX9_wonAt 62 = .ok (.imul, 1) := by decide +kernel
theorem dX9_wonAt_63 : decode cX9_wonAt 63 = .ok (.bipush 61, 2) := by decide +kernel
theorem dX9_wonAt_65 : decode cX9_wonAt 65 = .ok (.iload 6, 2) := by decide +kernel
end
section
theorem dX9_wonAt_67 : decode cX9_wonAt 67 = .ok (.imul, 1) := by decide +kernel
theorem dX9_wonAt_68 : decode cX9_wonAt 68 = .ok (.iadd, 1) := by decide +kernel
theorem dX9_wonAt_69 : decode cX9_wonAt 69 = .ok (.iload 7, 2) := by decide +kernel
theorem dX9_wonAt_71 : decode cX9_wonAt 71 = .ok (.iadd, 1) := by decide +kernel
theorem dX9_wonAt_72 : decode cX9_wonAt 72 = .ok (.iload_n 1, 1) := by decide +kernel
theorem dX9_wonAt_73 : decode cX9_wonAt 73 = .ok (.ifCond .ne 17, 3) := by decide +kernel
theorem dX9_wonAt_76 : decode cX9_wonAt 76 = .ok (.aload_n 0, 1) := by decide +kernel
theorem dX9_wonAt_77 : decode cX9_wonAt 77 = .ok (.iload 5, 2) := by decide +kernel
theorem dX9_wonAt_79 : decode cX9_wonAt 79 = .ok (.iload_n 2, 1) := by decide +kernel
theorem dX9_wonAt_80 : decode cX9_wonAt 80 = .ok (.iload 6, 2) := by decide +kernel
theorem dX9_wonAt_82 : decode cX9_wonAt 82 = .ok (.iload 7, 2) := by decide +kernel
theorem dX9_wonAt_84 : decode cX9_wonAt 84 = .ok (.invokevirtual 114, 3) := by decide +kernel
theorem dX9_wonAt_87 : decode cX9_wonAt 87 = .ok (.goto 14, 3) := by decide +kernel
theorem dX9_wonAt_90 : decode cX9_wonAt 90 = .ok (.aload_n 0, 1) := by decide +kernel
theorem dX9_wonAt_91 : decode cX9_wonAt 91 = .ok (.iload 5, 2) := by decide +kernel
theorem dX9_wonAt_93 : decode cX9_wonAt 93 = .ok (.iload_n 2, 1) := by decide +kernel
theorem dX9_wonAt_94 : decode cX9_wonAt 94 = .ok (.iload 6, 2) := by decide +kernel
theorem dX9_wonAt_96 : decode cX9_wonAt 96 = .ok (.iload 7, 2) := by decide +kernel
theorem dX9_wonAt_98 : decode cX9_wonAt 98 = .ok (.invokevirtual 118, 3) := by decide +kernel
theorem dX9_wonAt_101 : decode cX9_wonAt 101 = .ok (.bastore, 1) := by decide +kernel
theorem dX9_wonAt_102 : decode cX9_wonAt 102 = .ok (.iinc 7 1, 3) := by decide +kernel
theorem dX9_wonAt_105 : decode cX9_wonAt 105 = .ok (.goto (-59), 3) := by decide +kernel
theorem dX9_wonAt_108 : decode cX9_wonAt 108 = .ok (.iinc 6 1, 3) := by decide +kernel
theorem dX9_wonAt_111 : decode cX9_wonAt 111 = .ok (.goto (-75), 3) := by decide +kernel
theorem dX9_wonAt_114 : decode cX9_wonAt 114 = .ok (.aload_n 0, 1) := by decide +kernel
theorem dX9_wonAt_115 : decode cX9_wonAt 115 = .ok (.getfield 16, 3) := by decide +kernel
theorem dX9_wonAt_118 : decode cX9_wonAt 118 = .ok (.sipush 3721, 3) := by decide +kernel
theorem dX9_wonAt_121 : decode cX9_wonAt 121 = .ok (.iload 5, 2) := by decide +kernel
theorem dX9_wonAt_123 : decode cX9_wonAt 123 = .ok (.imul, 1) := by decide +kernel
theorem dX9_wonAt_124 : decode cX9_wonAt 124 = .ok (.bipush 61, 2) := by decide +kernel
theorem dX9_wonAt_126 : decode cX9_wonAt 126 = .ok (.iload_n 3, 1) := by decide +kernel
theorem dX9_wonAt_127 : decode cX9_wonAt 127 = .ok (.imul, 1) := by decide +kernel
theorem dX9_wonAt_128 : decode cX9_wonAt 128 = .ok (.iadd, 1) := by decide +kernel
theorem dX9_wonAt_129 : decode cX9_wonAt 129 = .ok (.iload 4, 2) := by decide +kernel
theorem dX9_wonAt_131 : decode cX9_wonAt 131 = .ok (.iadd, 1) := by decide +kernel
theorem dX9_wonAt_132 : decode cX9_wonAt 132 = .ok (.baload, 1) := by decide +kernel
theorem dX9_wonAt_133 : decode cX9_wonAt 133 = .ok (.ireturn, 1) := by decide +kernel
theorem dX9_goShares_0 : decode cX9_goShares 0 = .ok (.iload_n 3, 1) := by decide +kernel
theorem dX9_goShares_1 : decode cX9_goShares 1 = .ok (.ifCond .eq 8, 3) := by decide +kernel
theorem dX9_goShares_4 : decode cX9_goShares 4 = .ok (.iload 4, 2) := by decide +kernel
theorem dX9_goShares_6 : decode cX9_goShares 6 = .ok (.ifCond .ne 5, 3) := by decide +kernel
theorem dX9_goShares_9 : decode cX9_goShares 9 = .ok (.iload_n 2, 1) := by decide +kernel
theorem dX9_goShares_10 : decode cX9_goShares 10 = .ok (.ireturn, 1) := by decide +kernel
theorem dX9_goShares_11 : decode cX9_goShares 11 = .ok (.iconst 0, 1) := by decide +kernel
theorem dX9_goShares_12 : decode cX9_goShares 12 = .ok (.istore 5, 2) := by decide +kernel
theorem dX9_goShares_14 : decode cX9_goShares 14 = .ok (.iload_n 3, 1) := by decide +kernel
theorem dX9_goShares_15 : decode cX9_goShares 15 = .ok (.iload 4, 2) := by decide +kernel
theorem dX9_goShares_17 : decode cX9_goShares 17 = .ok (.isub, 1) := by decide +kernel
theorem dX9_goShares_18 : decode cX9_goShares 18 = .ok (.istore 6, 2) := by decide +kernel
theorem dX9_goShares_20 : decode cX9_goShares 20 = .ok (.iload 6, 2) := by decide +kernel
theorem dX9_goShares_22 : decode cX9_goShares 22 = .ok (.ifCond .lt 47, 3) := by decide +kernel
theorem dX9_goShares_25 : decode cX9_goShares 25 = .ok (.iload 5, 2) := by decide +kernel
theorem dX9_goShares_27 : decode cX9_goShares 27 = .ok (.ifCond .ne 25, 3) := by decide +kernel
theorem dX9_goShares_30 : decode cX9_goShares 30 = .ok (.aload_n 0, 1) := by decide +kernel
theorem dX9_goShares_31 : decode cX9_goShares 31 = .ok (.getfield 16, 3) := by decide +kernel
theorem dX9_goShares_34 : decode cX9_goShares 34 = .ok (.sipush 3721, 3) := by decide +kernel
theorem dX9_goShares_37 : decode cX9_goShares 37 = .ok (.iload_n 1, 1) := by decide +kernel
theorem dX9_goShares_38 : decode cX9_goShares 38 = .ok (.imul, 1) := by decide +kernel
theorem dX9_goShares_39 : decode cX9_goShares 39 = .ok (.bipush 61, 2) := by decide +kernel
theorem dX9_goShares_41 : decode cX9_goShares 41 = .ok (.iload 6, 2) := by decide +kernel
theorem dX9_goShares_43 : decode cX9_goShares 43 = .ok (.imul, 1) := by decide +kernel
theorem dX9_goShares_44 : decode cX9_goShares 44 = .ok (.iadd, 1) := by decide +kernel
theorem dX9_goShares_45 : decode cX9_goShares 45 = .ok (.iload 4, 2) := by decide +kernel
theorem dX9_goShares_47 : decode cX9_goShares 47 = .ok (.iadd, 1) := by decide +kernel
theorem dX9_goShares_48 : decode cX9_goShares 48 = .ok (.baload, 1) := by decide +kernel
theorem dX9_goShares_49 : decode cX9_goShares 49 = .ok (.ifCond .ne 7, 3) := by decide +kernel
theorem dX9_goShares_52 : decode cX9_goShares 52 = .ok (.iconst 1, 1) := by decide +kernel
theorem dX9_goShares_53 : decode cX9_goShares 53 = .ok (.goto 4, 3) := by decide +kernel
theorem dX9_goShares_56 : decode cX9_goShares 56 = .ok (.iconst 0, 1) := by decide +kernel
theorem dX9_goShares_57 : decode cX9_goShares 57 = .ok (.istore 5, 2) := by decide +kernel
theorem dX9_goShares_59 : decode cX9_goShares 59 = .ok (.iload 6, 2) := by decide +kernel
theorem dX9_goShares_61 : decode cX9_goShares 61 = .ok (.iload 4, 2) := by decide +kernel
theorem dX9_goShares_63 : decode cX9_goShares 63 = .ok (.isub, 1) := by decide +kernel
theorem dX9_goShares_64 : decode cX9_goShares 64 = .ok (.istore 6, 2) := by decide +kernel
theorem dX9_goShares_66 : decode cX9_goShares 66 = .ok (.goto (-46), 3) := by decide +kernel
theorem dX9_goShares_69 : decode cX9_goShares 69 = .ok (.iload 4, 2) := by decide +kernel
theorem dX9_goShares_71 : decode cX9_goShares 71 = .ok (.iload_n 3, 1) := by decide +kernel
theorem dX9_goShares_72 : decode cX9_goShares 72 = .ok (.isub, 1) := by decide +kernel
theorem dX9_goShares_73 : decode cX9_goShares 73 = .ok (.istore 6, 2) := by decide +kernel
theorem dX9_goShares_75 : decode cX9_goShares 75 = .ok (.iload 6, 2) := by decide +kernel
theorem dX9_goShares_77 : decode cX9_goShares 77 = .ok (.ifCond .lt 45, 3) := by decide +kernel
theorem dX9_goShares_80 : decode cX9_goShares 80 = .ok (.iload 5, 2) := by decide +kernel
theorem dX9_goShares_82 : decode cX9_goShares 82 = .ok (.ifCond .ne 24, 3) := by decide +kernel
theorem dX9_goShares_85 : decode cX9_goShares 85 = .ok (.aload_n 0, 1) := by decide +kernel
theorem dX9_goShares_86 : decode cX9_goShares 86 = .ok (.getfield 16, 3) := by decide +kernel
theorem dX9_goShares_89 : decode cX9_goShares 89 = .ok (.sipush 3721, 3) := by decide +kernel
theorem dX9_goShares_92 : decode cX9_goShares 92 = .ok (.iload_n 1, 1) := by decide +kernel
theorem dX9_goShares_93 : decode cX9_goShares 93 = .ok (.imul, 1) := by decide +kernel
theorem dX9_goShares_94 : decode cX9_goShares 94 = .ok (.bipush 61, 2) := by decide +kernel
theorem dX9_goShares_96 : decode cX9_goShares 96 = .ok (.iload_n 3, 1) := by decide +kernel
theorem dX9_goShares_97 : decode cX9_goShares 97 = .ok (.imul, 1) := by decide +kernel
theorem dX9_goShares_98 : decode cX9_goShares 98 = .ok (.iadd, 1) := by decide +kernel
theorem dX9_goShares_99 : decode cX9_goShares 99 = .ok (.iload 6, 2) := by decide +kernel
theorem dX9_goShares_101 : decode cX9_goShares 101 = .ok (.iadd, 1) := by decide +kernel
theorem dX9_goShares_102 : decode cX9_goShares 102 = .ok (.baload, 1) := by decide +kernel
theorem dX9_goShares_103 : decode cX9_goShares 103 = .ok (.ifCond .ne 7, 3) := by decide +kernel
theorem dX9_goShares_106 : decode cX9_goShares 106 = .ok (.iconst 1, 1) := by decide +kernel
theorem dX9_goShares_107 : decode cX9_goShares 107 = .ok (.goto 4, 3) := by decide +kernel
theorem dX9_goShares_110 : decode cX9_goShares 110 = .ok (.iconst 0, 1) := by decide +kernel
theorem dX9_goShares_111 : decode cX9_goShares 111 = .ok (.istore 5, 2) := by decide +kernel
theorem dX9_goShares_113 : decode cX9_goShares 113 = .ok (.iload 6, 2) := by decide +kernel
theorem dX9_goShares_115 : decode cX9_goShares 115 = .ok (.iload_n 3, 1) := by decide +kernel
theorem dX9_goShares_116 : decode cX9_goShares 116 = .ok (.isub, 1) := by decide +kernel
theorem dX9_goShares_117 : decode cX9_goShares 117 = .ok (.istore 6, 2) := by decide +kernel
theorem dX9_goShares_119 : decode cX9_goShares 119 = .ok (.goto (-44), 3) := by decide +kernel
theorem dX9_goShares_122 : decode cX9_goShares 122 = .ok (.iload 5, 2) := by decide +kernel
theorem dX9_goShares_124 : decode cX9_goShares 124 = .ok (.ireturn, 1) := by decide +kernel
theorem dX9_goBoth_0 : decode cX9_goBoth 0 = .ok (.iload_n 3, 1) := by decide +kernel
theorem dX9_goBoth_1 : decode cX9_goBoth 1 = .ok (.ifCond .ne 10, 3) := by decide +kernel
theorem dX9_goBoth_4 : decode cX9_goBoth 4 = .ok (.iload 4, 2) := by decide +kernel
theorem dX9_goBoth_6 : decode cX9_goBoth 6 = .ok (.ifCond .ne 5, 3) := by decide +kernel
theorem dX9_goBoth_9 : decode cX9_goBoth 9 = .ok (.iload_n 2, 1) := by decide +kernel
theorem dX9_goBoth_10 : decode cX9_goBoth 10 = .ok (.ireturn, 1) := by decide +kernel
theorem dX9_goBoth_11 : decode cX9_goBoth 11 = .ok (.iconst 0, 1) := by decide +kernel
theorem dX9_goBoth_12 : decode cX9_goBoth 12 = .ok (.istore 5, 2) := by decide +kernel
theorem dX9_goBoth_14 : decode cX9_goBoth 14 = .ok (.iconst 1, 1) := by decide +kernel
theorem dX9_goBoth_15 : decode cX9_goBoth 15 = .ok (.istore 6, 2) := by decide +kernel
theorem dX9_goBoth_17 : decode cX9_goBoth 17 = .ok (.iload 6, 2) := by decide +kernel
theorem dX9_goBoth_19 : decode cX9_goBoth 19 = .ok (.bipush 60, 2) := by decide +kernel
theorem dX9_goBoth_21 : decode cX9_goBoth 21 = .ok (.if_icmp .gt 122, 3) := by decide +kernel
theorem dX9_goBoth_24 : decode cX9_goBoth 24 = .ok (.iload 5, 2) := by decide +kernel
theorem dX9_goBoth_26 : decode cX9_goBoth 26 = .ok (.ifCond .ne 104, 3) := by decide +kernel
theorem dX9_goBoth_29 : decode cX9_goBoth 29 = .ok (.iload 6, 2) := by decide +kernel
theorem dX9_goBoth_31 : decode cX9_goBoth 31 = .ok (.iload_n 3, 1) := by decide +kernel
theorem dX9_goBoth_32 : decode cX9_goBoth 32 = .ok (.if_icmp .gt 27, 3) := by decide +kernel
theorem dX9_goBoth_35 : decode cX9_goBoth 35 = .ok (.aload_n 0, 1) := by decide +kernel
theorem dX9_goBoth_36 : decode cX9_goBoth 36 = .ok (.getfield 16, 3) := by decide +kernel
theorem dX9_goBoth_39 : decode cX9_goBoth 39 = .ok (.sipush 3721, 3) := by decide +kernel
theorem dX9_goBoth_42 : decode cX9_goBoth 42 = .ok (.iload_n 1, 1) := by decide +kernel
theorem dX9_goBoth_43 : decode cX9_goBoth 43 = .ok (.imul, 1) := by decide +kernel
theorem dX9_goBoth_44 : decode cX9_goBoth 44 = .ok (.bipush 61, 2) := by decide +kernel
theorem dX9_goBoth_46 : decode cX9_goBoth 46 = .ok (.iload_n 3, 1) := by decide +kernel
theorem dX9_goBoth_47 : decode cX9_goBoth 47 = .ok (.iload 6, 2) := by decide +kernel
theorem dX9_goBoth_49 : decode cX9_goBoth 49 = .ok (.isub, 1) := by decide +kernel
theorem dX9_goBoth_50 : decode cX9_goBoth 50 = .ok (.imul, 1) := by decide +kernel
theorem dX9_goBoth_51 : decode cX9_goBoth 51 = .ok (.iadd, 1) := by decide +kernel
theorem dX9_goBoth_52 : decode cX9_goBoth 52 = .ok (.iload 4, 2) := by decide +kernel
theorem dX9_goBoth_54 : decode cX9_goBoth 54 = .ok (.iadd, 1) := by decide +kernel
theorem dX9_goBoth_55 : decode cX9_goBoth 55 = .ok (.baload, 1) := by decide +kernel
theorem dX9_goBoth_56 : decode cX9_goBoth 56 = .ok (.ifCond .eq 74, 3) := by decide +kernel
theorem dX9_goBoth_59 : decode cX9_goBoth 59 = .ok (.iload 6, 2) := by decide +kernel
theorem dX9_goBoth_61 : decode cX9_goBoth 61 = .ok (.iload 4, 2) := by decide +kernel
theorem dX9_goBoth_63 : decode cX9_goBoth 63 = .ok (.if_icmp .gt 27, 3) := by decide +kernel
theorem dX9_goBoth_66 : decode cX9_goBoth 66 = .ok (.aload_n 0, 1) := by decide +kernel
theorem dX9_goBoth_67 : decode cX9_goBoth 67 = .ok (.getfield 16, 3) := by decide +kernel
theorem dX9_goBoth_70 : decode cX9_goBoth 70 = .ok (.sipush 3721, 3) := by decide +kernel
theorem dX9_goBoth_73 : decode cX9_goBoth 73 = .ok (.iload_n 1, 1) := by decide +kernel
theorem dX9_goBoth_74 : decode cX9_goBoth 74 = .ok (.imul, 1) := by decide +kernel
theorem dX9_goBoth_75 : decode cX9_goBoth 75 = .ok (.bipush 61, 2) := by decide +kernel
theorem dX9_goBoth_77 : decode cX9_goBoth 77 = .ok (.iload_n 3, 1) := by decide +kernel
theorem dX9_goBoth_78 : decode cX9_goBoth 78 = .ok (.imul, 1) := by decide +kernel
theorem dX9_goBoth_79 : decode cX9_goBoth 79 = .ok (.iadd, 1) := by decide +kernel
theorem dX9_goBoth_80 : decode cX9_goBoth 80 = .ok (.iload 4, 2) := by decide +kernel
theorem dX9_goBoth_82 : decode cX9_goBoth 82 = .ok (.iadd, 1) := by decide +kernel
theorem dX9_goBoth_83 : decode cX9_goBoth 83 = .ok (.iload 6, 2) := by decide +kernel
theorem dX9_goBoth_85 : decode cX9_goBoth 85 = .ok (.isub, 1) := by decide +kernel
theorem dX9_goBoth_86 : decode cX9_goBoth 86 = .ok (.baload, 1) := by decide +kernel
theorem dX9_goBoth_87 : decode cX9_goBoth 87 = .ok (.ifCond .eq 43, 3) := by decide +kernel
theorem dX9_goBoth_90 : decode cX9_goBoth 90 = .ok (.iload 6, 2) := by decide +kernel
theorem dX9_goBoth_92 : decode cX9_goBoth 92 = .ok (.iload_n 3, 1) := by decide +kernel
theorem dX9_goBoth_93 : decode cX9_goBoth 93 = .ok (.if_icmp .gt 41, 3) := by decide +kernel
theorem dX9_goBoth_96 : decode cX9_goBoth 96 = .ok (.iload 6, 2) := by decide +kernel
theorem dX9_goBoth_98 : decode cX9_goBoth 98 = .ok (.iload 4, 2) := by decide +kernel
theorem dX9_goBoth_100 : decode cX9_goBoth 100 = .ok (.if_icmp .gt 34, 3) := by decide +kernel
theorem dX9_goBoth_103 : decode cX9_goBoth 103 = .ok (.aload_n 0, 1) := by decide +kernel
theorem dX9_goBoth_104 : decode cX9_goBoth 104 = .ok (.getfield 16, 3) := by decide +kernel
theorem dX9_goBoth_107 : decode cX9_goBoth 107 = .ok (.sipush 3721, 3) := by decide +kernel
theorem dX9_goBoth_110 : decode cX9_goBoth 110 = .ok (.iload_n 1, 1) := by decide +kernel
theorem dX9_goBoth_111 : decode cX9_goBoth 111 = .ok (.imul, 1) := by decide +kernel
theorem dX9_goBoth_112 : decode cX9_goBoth 112 = .ok (.bipush 61, 2) := by decide +kernel
theorem dX9_goBoth_114 : decode cX9_goBoth 114 = .ok (.iload_n 3, 1) := by decide +kernel
theorem dX9_goBoth_115 : decode cX9_goBoth 115 = .ok (.iload 6, 2) := by decide +kernel
theorem dX9_goBoth_117 : decode cX9_goBoth 117 = .ok (.isub, 1) := by decide +kernel
theorem dX9_goBoth_118 : decode cX9_goBoth 118 = .ok (.imul, 1) := by decide +kernel
theorem dX9_goBoth_119 : decode cX9_goBoth 119 = .ok (.iadd, 1) := by decide +kernel
theorem dX9_goBoth_120 : decode cX9_goBoth 120 = .ok (.iload 4, 2) := by decide +kernel
theorem dX9_goBoth_122 : decode cX9_goBoth 122 = .ok (.iadd, 1) := by decide +kernel
theorem dX9_goBoth_123 : decode cX9_goBoth 123 = .ok (.iload 6, 2) := by decide +kernel
theorem dX9_goBoth_125 : decode cX9_goBoth 125 = .ok (.isub, 1) := by decide +kernel
theorem dX9_goBoth_126 : decode cX9_goBoth 126 = .ok (.baload, 1) := by decide +kernel
theorem dX9_goBoth_127 : decode cX9_goBoth 127 = .ok (.ifCond .ne 7, 3) := by decide +kernel
theorem dX9_goBoth_130 : decode cX9_goBoth 130 = .ok (.iconst 1, 1) := by decide +kernel
theorem dX9_goBoth_131 : decode cX9_goBoth 131 = .ok (.goto 4, 3) := by decide +kernel
theorem dX9_goBoth_134 : decode cX9_goBoth 134 = .ok (.iconst 0, 1) := by decide +kernel
theorem dX9_goBoth_135 : decode cX9_goBoth 135 = .ok (.istore 5, 2) := by decide +kernel
theorem dX9_goBoth_137 : decode cX9_goBoth 137 = .ok (.iinc 6 1, 3) := by decide +kernel
theorem dX9_goBoth_140 : decode cX9_goBoth 140 = .ok (.goto (-123), 3) := by decide +kernel
theorem dX9_goBoth_143 : decode cX9_goBoth 143 = .ok (.iload 5, 2) := by decide +kernel
theorem dX9_goBoth_145 : decode cX9_goBoth 145 = .ok (.ireturn, 1) := by decide +kernel
set_option maxRecDepth 20000 in
theorem ggX9_threeAt_X9_goThree : GoodIn wsX9_threeAt wsX9_goThree := goodIn_r _ [7, 2, 8, 9, 10, 11, 12, 13, 14, 15, 16, 17, 18, 19, 20, 21, 22, 23, 24, 25] (by decide +kernel) (by decide +kernel)
set_option maxRecDepth 20000 in
theorem gX9_threeAt_X9_goThree : GoodIn wsX9_threeAt (wsV RX9 121 RX9 yX9_goThree wsX9_goThree) := goodIn_app (goodIn_of _ (by decide +kernel)) ggX9_threeAt_X9_goThree
theorem dX9_threeAt_0 : decode cX9_threeAt 0 = .ok (.iload_n 1, 1) := by decide +kernel
theorem dX9_threeAt_1 : decode cX9_threeAt 1 = .ok (.ifCond .eq 7, 3) := by decide +kernel
theorem dX9_threeAt_4 : decode cX9_threeAt 4 = .ok (.iconst 1, 1) := by decide +kernel
theorem dX9_threeAt_5 : decode cX9_threeAt 5 = .ok (.goto 4, 3) := by decide +kernel
theorem dX9_threeAt_8 : decode cX9_threeAt 8 = .ok (.iconst 0, 1) := by decide +kernel
theorem dX9_threeAt_9 : decode cX9_threeAt 9 = .ok (.istore 5, 2) := by decide +kernel
theorem dX9_threeAt_11 : decode cX9_threeAt 11 = .ok (.aload_n 0, 1) := by decide +kernel
theorem dX9_threeAt_12 : decode cX9_threeAt 12 = .ok (.getfield 26, 3) := by decide +kernel
theorem dX9_threeAt_15 : decode cX9_threeAt 15 = .ok (.iload 5, 2) := by decide +kernel
theorem dX9_threeAt_17 : decode cX9_threeAt 17 = .ok (.baload, 1) := by decide +kernel
theorem dX9_threeAt_18 : decode cX9_threeAt 18 = .ok (.ifCond .ne 67, 3) := by decide +kernel
theorem dX9_threeAt_21 : decode cX9_threeAt 21 = .ok (.aload_n 0, 1) := by decide +kernel
theorem dX9_threeAt_22 : decode cX9_threeAt 22 = .ok (.getfield 26, 3) := by decide +kernel
theorem dX9_threeAt_25 : decode cX9_threeAt 25 = .ok (.iload 5, 2) := by decide +kernel
theorem dX9_threeAt_27 : decode cX9_threeAt 27 = .ok (.iconst 1, 1) := by decide +kernel
theorem dX9_threeAt_28 : decode cX9_threeAt 28 = .ok (.bastore, 1) := by decide +kernel
theorem dX9_threeAt_29 : decode cX9_threeAt 29 = .ok (.iconst 0, 1) := by decide +kernel
theorem dX9_threeAt_30 : decode cX9_threeAt 30 = .ok (.istore 6, 2) := by decide +kernel
theorem dX9_threeAt_32 : decode cX9_threeAt 32 = .ok (.iload 6, 2) := by decide +kernel
theorem dX9_threeAt_34 : decode cX9_threeAt 34 = .ok (.sipush 1331, 3) := by decide +kernel
theorem dX9_threeAt_37 : decode cX9_threeAt 37 = .ok (.if_icmp .ge 48, 3) := by decide +kernel
theorem dX9_threeAt_40 : decode cX9_threeAt 40 = .ok (.aload_n 0, 1) := by decide +kernel
theorem dX9_threeAt_41 : decode cX9_threeAt 41 = .ok (.getfield 23, 3) := by decide +kernel
theorem dX9_threeAt_44 : decode cX9_threeAt 44 = .ok (.sipush 1331, 3) := by decide +kernel
theorem dX9_threeAt_47 : decode cX9_threeAt 47 = .ok (.iload 5, 2) := by decide +kernel
theorem dX9_threeAt_49 : decode cX9_threeAt 49 = .ok (.imul, 1) := by decide +kernel
theorem dX9_threeAt_50 : decode cX9_threeAt 50 = .ok (.iload 6, 2) := by decide +kernel
theorem dX9_threeAt_52 : decode cX9_threeAt 52 = .ok (.iadd, 1) := by decide +kernel
theorem dX9_threeAt_53 : decode cX9_threeAt 53 = .ok (.aload_n 0, 1) := by decide +kernel
theorem dX9_threeAt_54 : decode cX9_threeAt 54 = .ok (.iload 5, 2) := by decide +kernel
theorem dX9_threeAt_56 : decode cX9_threeAt 56 = .ok (.iload_n 1, 1) := by decide +kernel
theorem dX9_threeAt_57 : decode cX9_threeAt 57 = .ok (.iload 6, 2) := by decide +kernel
theorem dX9_threeAt_59 : decode cX9_threeAt 59 = .ok (.bipush 121, 2) := by decide +kernel
theorem dX9_threeAt_61 : decode cX9_threeAt 61 = .ok (.idiv, 1) := by decide +kernel
theorem dX9_threeAt_62 : decode cX9_threeAt 62 = .ok (.iload 6, 2) := by decide +kernel
theorem dX9_threeAt_64 : decode cX9_threeAt 64 = .ok (.bipush 11, 2) := by decide +kernel
theorem dX9_threeAt_66 : decode cX9_threeAt 66 = .ok (.idiv, 1) := by decide +kernel
theorem dX9_threeAt_67 : decode cX9_threeAt 67 = .ok (.bipush 11, 2) := by decide +kernel
theorem dX9_threeAt_69 : decode cX9_threeAt 69 = .ok (.irem, 1) := by decide +kernel
theorem dX9_threeAt_70 : decode cX9_threeAt 70 = .ok (.iload 6, 2) := by decide +kernel
theorem dX9_threeAt_72 : decode cX9_threeAt 72 = .ok (.bipush 11, 2) := by decide +kernel
theorem dX9_threeAt_74 : decode cX9_threeAt 74 = .ok (.irem, 1) := by decide +kernel
theorem dX9_threeAt_75 : decode cX9_threeAt 75 = .ok (.invokevirtual 121, 3) := by decide +kernel
theorem dX9_threeAt_78 : decode cX9_threeAt 78 = .ok (.bastore, 1) := by decide +kernel
theorem dX9_threeAt_79 : decode cX9_threeAt 79 = .ok (.iinc 6 1, 3) := by decide +kernel
theorem dX9_threeAt_82 : decode cX9_threeAt 82 = .ok (.goto (-50), 3) := by decide +kernel
theorem dX9_threeAt_85 : decode cX9_threeAt 85 = .ok (.aload_n 0, 1) := by decide +kernel
theorem dX9_threeAt_86 : decode cX9_threeAt 86 = .ok (.getfield 23, 3) := by decide +kernel
theorem dX9_threeAt_89 : decode cX9_threeAt 89 = .ok (.sipush 1331, 3) := by decide +kernel
theorem dX9_threeAt_92 : decode cX9_threeAt 92 = .ok (.iload 5, 2) := by decide +kernel
theorem dX9_threeAt_94 : decode cX9_threeAt 94 = .ok (.imul, 1) := by decide +kernel
theorem dX9_threeAt_95 : decode cX9_threeAt 95 = .ok (.bipush 121, 2) := by decide +kernel
theorem dX9_threeAt_97 : decode cX9_threeAt 97 = .ok (.iload_n 2, 1) := by decide +kernel
theorem dX9_threeAt_98 : decode cX9_threeAt 98 = .ok (.imul, 1) := by decide +kernel
theorem dX9_threeAt_99 : decode cX9_threeAt 99 = .ok (.iadd, 1) := by decide +kernel
theorem dX9_threeAt_100 : decode cX9_threeAt 100 = .ok (.bipush 11, 2) := by decide +kernel
theorem dX9_threeAt_102 : decode cX9_threeAt 102 = .ok (.iload_n 3, 1) := by decide +kernel
theorem dX9_threeAt_103 : decode cX9_threeAt 103 = .ok (.imul, 1) := by decide +kernel
theorem dX9_threeAt_104 : decode cX9_threeAt 104 = .ok (.iadd, 1) := by decide +kernel
theorem dX9_threeAt_105 : decode cX9_threeAt 105 = .ok (.iload 4, 2) := by decide +kernel
theorem dX9_threeAt_107 : decode cX9_threeAt 107 = .ok (.iadd, 1) := by decide +kernel
theorem dX9_threeAt_108 : decode cX9_threeAt 108 = .ok (.baload, 1) := by decide +kernel
theorem dX9_threeAt_109 : decode cX9_threeAt 109 = .ok (.ireturn, 1) := by decide +kernel
theorem dX9_goThree_0 : decode cX9_goThree 0 = .ok (.iload_n 3, 1) := by decide +kernel
theorem dX9_goThree_1 : decode cX9_goThree 1 = .ok (.iload 4, 2) := by decide +kernel
theorem dX9_goThree_3 : decode cX9_goThree 3 = .ok (.iadd, 1) := by decide +kernel
theorem dX9_goThree_4 : decode cX9_goThree 4 = .ok (.iload 5, 2) := by decide +kernel
theorem dX9_goThree_6 : decode cX9_goThree 6 = .ok (.iadd, 1) := by decide +kernel
theorem dX9_goThree_7 : decode cX9_goThree 7 = .ok (.ifCond .ne 5, 3) := by decide +kernel
theorem dX9_goThree_10 : decode cX9_goThree 10 = .ok (.iload_n 2, 1) := by decide +kernel
theorem dX9_goThree_11 : decode cX9_goThree 11 = .ok (.ireturn, 1) := by decide +kernel
theorem dX9_goThree_12 : decode cX9_goThree 12 = .ok (.sipush 1331, 3) := by decide +kernel
theorem dX9_goThree_15 : decode cX9_goThree 15 = .ok (.iload_n 1, 1) := by decide +kernel
theorem dX9_goThree_16 : decode cX9_goThree 16 = .ok (.imul, 1) := by decide +kernel
theorem dX9_goThree_17 : decode cX9_goThree 17 = .ok (.bipush 121, 2) := by decide +kernel
theorem dX9_goThree_19 : decode cX9_goThree 19 = .ok (.iload_n 3, 1) := by decide +kernel
theorem dX9_goThree_20 : decode cX9_goThree 20 = .ok (.imul, 1) := by decide +kernel
theorem dX9_goThree_21 : decode cX9_goThree 21 = .ok (.iadd, 1) := by decide +kernel
theorem dX9_goThree_22 : decode cX9_goThree 22 = .ok (.bipush 11, 2) := by decide +kernel
theorem dX9_goThree_24 : decode cX9_goThree 24 = .ok (.iload 4, 2) := by decide +kernel
theorem dX9_goThree_26 : decode cX9_goThree 26 = .ok (.imul, 1) := by decide +kernel
theorem dX9_goThree_27 : decode cX9_goThree 27 = .ok (.iadd, 1) := by decide +kernel
theorem dX9_goThree_28 : decode cX9_goThree 28 = .ok (.iload 5, 2) := by decide +kernel
theorem dX9_goThree_30 : decode cX9_goThree 30 = .ok (.iadd, 1) := by decide +kernel
theorem dX9_goThree_31 : decode cX9_goThree 31 = .ok (.istore 6, 2) := by decide +kernel
theorem dX9_goThree_33 : decode cX9_goThree 33 = .ok (.iconst 0, 1) := by decide +kernel
theorem dX9_goThree_34 : decode cX9_goThree 34 = .ok (.istore 7, 2) := by decide +kernel
theorem dX9_goThree_36 : decode cX9_goThree 36 = .ok (.iconst 1, 1) := by decide +kernel
theorem dX9_goThree_37 : decode cX9_goThree 37 = .ok (.istore 8, 2) := by decide +kernel
theorem dX9_goThree_39 : decode cX9_goThree 39 = .ok (.iload 8, 2) := by decide +kernel
theorem dX9_goThree_41 : decode cX9_goThree 41 = .ok (.bipush 10, 2) := by decide +kernel
theorem dX9_goThree_43 : decode cX9_goThree 43 = .ok (.if_icmp .gt 123, 3) := by decide +kernel
theorem dX9_goThree_46 : decode cX9_goThree 46 = .ok (.iload 7, 2) := by decide +kernel
theorem dX9_goThree_48 : decode cX9_goThree 48 = .ok (.ifCond .ne 105, 3) := by decide +kernel
theorem dX9_goThree_51 : decode cX9_goThree 51 = .ok (.iload 8, 2) := by decide +kernel
theorem dX9_goThree_53 : decode cX9_goThree 53 = .ok (.iload_n 3, 1) := by decide +kernel
theorem dX9_goThree_54 : decode cX9_goThree 54 = .ok (.if_icmp .gt 19, 3) := by decide +kernel
theorem dX9_goThree_57 : decode cX9_goThree 57 = .ok (.aload_n 0, 1) := by decide +kernel
theorem dX9_goThree_58 : decode cX9_goThree 58 = .ok (.getfield 23, 3) := by decide +kernel
theorem dX9_goThree_61 : decode cX9_goThree 61 = .ok (.iload 6, 2) := by decide +kernel
theorem dX9_goThree_63 : decode cX9_goThree 63 = .ok (.bipush 121, 2) := by decide +kernel
theorem dX9_goThree_65 : decode cX9_goThree 65 = .ok (.iload 8, 2) := by decide +kernel
theorem dX9_goThree_67 : decode cX9_goThree 67 = .ok (.imul, 1) := by decide +kernel
theorem dX9_goThree_68 : decode cX9_goThree 68 = .ok (.isub, 1) := by decide +kernel
theorem dX9_goThree_69 : decode cX9_goThree 69 = .ok (.baload, 1) := by decide +kernel
theorem dX9_goThree_70 : decode cX9_goThree 70 = .ok (.ifCond .eq 83, 3) := by decide +kernel
theorem dX9_goThree_73 : decode cX9_goThree 73 = .ok (.iload 8, 2) := by decide +kernel
theorem dX9_goThree_75 : decode cX9_goThree 75 = .ok (.iload 4, 2) := by decide +kernel
theorem dX9_goThree_77 : decode cX9_goThree 77 = .ok (.if_icmp .gt 19, 3) := by decide +kernel
theorem dX9_goThree_80 : decode cX9_goThree 80 = .ok (.aload_n 0, 1) := by decide +kernel
theorem dX9_goThree_81 : decode cX9_goThree 81 = .ok (.getfield 23, 3) := by decide +kernel
theorem dX9_goThree_84 : decode cX9_goThree 84 = .ok (.iload 6, 2) := by decide +kernel
theorem dX9_goThree_86 : decode cX9_goThree 86 = .ok (.bipush 11, 2) := by decide +kernel
theorem dX9_goThree_88 : decode cX9_goThree 88 = .ok (.iload 8, 2) := by decide +kernel
theorem dX9_goThree_90 : decode cX9_goThree 90 = .ok (.imul, 1) := by decide +kernel
theorem dX9_goThree_91 : decode cX9_goThree 91 = .ok (.isub, 1) := by decide +kernel
theorem dX9_goThree_92 : decode cX9_goThree 92 = .ok (.baload, 1) := by decide +kernel
theorem dX9_goThree_93 : decode cX9_goThree 93 = .ok (.ifCond .eq 60, 3) := by decide +kernel
theorem dX9_goThree_96 : decode cX9_goThree 96 = .ok (.iload 8, 2) := by decide +kernel
theorem dX9_goThree_98 : decode cX9_goThree 98 = .ok (.iload 5, 2) := by decide +kernel
theorem dX9_goThree_100 : decode cX9_goThree 100 = .ok (.if_icmp .gt 16, 3) := by decide +kernel
theorem dX9_goThree_103 : decode cX9_goThree 103 = .ok (.aload_n 0, 1) := by decide +kernel
theorem dX9_goThree_104 : decode cX9_goThree 104 = .ok (.getfield 23, 3) := by decide +kernel
theorem dX9_goThree_107 : decode cX9_goThree 107 = .ok (.iload 6, 2) := by decide +kernel
theorem dX9_goThree_109 : decode cX9_goThree 109 = .ok (.iload 8, 2) := by decide +kernel
theorem dX9_goThree_111 : decode cX9_goThree 111 = .ok (.isub, 1) := by decide +kernel
theorem dX9_goThree_112 : decode cX9_goThree 112 = .ok (.baload, 1) := by decide +kernel
theorem dX9_goThree_113 : decode cX9_goThree 113 = .ok (.ifCond .eq 40, 3) := by decide +kernel
theorem dX9_goThree_116 : decode cX9_goThree 116 = .ok (.iload 8, 2) := by decide +kernel
theorem dX9_goThree_118 : decode cX9_goThree 118 = .ok (.iload_n 3, 1) := by decide +kernel
theorem dX9_goThree_119 : decode cX9_goThree 119 = .ok (.if_icmp .gt 38, 3) := by decide +kernel
theorem dX9_goThree_122 : decode cX9_goThree 122 = .ok (.iload 8, 2) := by decide +kernel
theorem dX9_goThree_124 : decode cX9_goThree 124 = .ok (.iload 4, 2) := by decide +kernel
theorem dX9_goThree_126 : decode cX9_goThree 126 = .ok (.if_icmp .gt 31, 3) := by decide +kernel
theorem dX9_goThree_129 : decode cX9_goThree 129 = .ok (.iload 8, 2) := by decide +kernel
theorem dX9_goThree_131 : decode cX9_goThree 131 = .ok (.iload 5, 2) := by decide +kernel
theorem dX9_goThree_133 : decode cX9_goThree 133 = .ok (.if_icmp .gt 24, 3) := by decide +kernel
theorem dX9_goThree_136 : decode cX9_goThree 136 = .ok (.aload_n 0, 1) := by decide +kernel
theorem dX9_goThree_137 : decode cX9_goThree 137 = .ok (.getfield 23, 3) := by decide +kernel
theorem dX9_goThree_140 : decode cX9_goThree 140 = .ok (.iload 6, 2) := by decide +kernel
theorem dX9_goThree_142 : decode cX9_goThree 142 = .ok (.sipush 133, 3) := by decide +kernel
theorem dX9_goThree_145 : decode cX9_goThree 145 = .ok (.iload 8, 2) := by decide +kernel
theorem dX9_goThree_147 : decode cX9_goThree 147 = .ok (.imul, 1) := by decide +kernel
theorem dX9_goThree_148 : decode cX9_goThree 148 = .ok (.isub, 1) := by decide +kernel
theorem dX9_goThree_149 : decode cX9_goThree 149 = .ok (.baload, 1) := by decide +kernel
theorem dX9_goThree_150 : decode cX9_goThree 150 = .ok (.ifCond .ne 7, 3) := by decide +kernel
theorem dX9_goThree_153 : decode cX9_goThree 153 = .ok (.iconst 1, 1) := by decide +kernel
theorem dX9_goThree_154 : decode cX9_goThree 154 = .ok (.goto 4, 3) := by decide +kernel
theorem dX9_goThree_157 : decode cX9_goThree 157 = .ok (.iconst 0, 1) := by decide +kernel
theorem dX9_goThree_158 : decode cX9_goThree 158 = .ok (.istore 7, 2) := by decide +kernel
theorem dX9_goThree_160 : decode cX9_goThree 160 = .ok (.iinc 8 1, 3) := by decide +kernel
theorem dX9_goThree_163 : decode cX9_goThree 163 = .ok (.goto (-124), 3) := by decide +kernel
theorem dX9_goThree_166 : decode cX9_goThree 166 = .ok (.iload 7, 2) := by decide +kernel
theorem dX9_goThree_168 : decode cX9_goThree 168 = .ok (.ireturn, 1) := by decide +kernel
set_option maxRecDepth 20000 in
theorem ggX9_byAll_X9_in : GoodIn wsX9_byAll wsX9_in := goodIn_r _ [6] (by decide +kernel) (by decide +kernel)
set_option maxRecDepth 20000 in
theorem gX9_byAll_X9_in : GoodIn wsX9_byAll (va_wsS RX9 50 yX9_in wsX9_in) := goodIn_app (goodIn_of _ (by decide +kernel)) ggX9_byAll_X9_in
set_option maxRecDepth 20000 in
theorem ggX9_byAll_X9_wonAt : GoodIn wsX9_byAll wsX9_wonAt := goodIn_r _ [10, 11, 12, 13, 14, 15, 5, 16, 17, 18, 19, 20, 31, 32, 33, 34, 35, 36, 37, 38, 39, 40, 41, 42, 43, 44, 45, 46, 47, 48] (by decide +kernel) (by decide +kernel)
set_option maxRecDepth 20000 in
theorem gX9_byAll_X9_wonAt : GoodIn wsX9_byAll (wsV RX9 127 RX9 yX9_wonAt wsX9_wonAt) := goodIn_app (goodIn_of _ (by decide +kernel)) ggX9_byAll_X9_wonAt
set_option maxRecDepth 20000 in
theorem ggX9_byAll_X9_threeAt : GoodIn wsX9_byAll wsX9_threeAt := goodIn_r _ [24, 25, 26, 27, 28, 29, 5, 30, 31, 32, 33, 34, 35, 36, 37, 38, 39, 40, 41, 42, 43, 44, 45, 46, 47, 48] (by decide +kernel) (by decide +kernel)
set_option maxRecDepth 20000 in
theorem gX9_byAll_X9_threeAt : GoodIn wsX9_byAll (wsV RX9 132 RX9 yX9_threeAt wsX9_threeAt) := goodIn_app (goodIn_of _ (by decide +kernel)) ggX9_byAll_X9_threeAt
theorem dX9_byAll_0 : decode cX9_byAll 0 = .ok (.iload_n 1, 1) := by decide +kernel
theorem dX9_byAll_1 : decode cX9_byAll 1 = .ok (.ifCond .eq 8, 3) := by decide +kernel
theorem dX9_byAll_4 : decode cX9_byAll 4 = .ok (.iload_n 1, 1) := by decide +kernel
theorem dX9_byAll_5 : decode cX9_byAll 5 = .ok (.iconst 1, 1) := by decide +kernel
theorem dX9_byAll_6 : decode cX9_byAll 6 = .ok (.if_icmp .ne 51, 3) := by decide +kernel
theorem dX9_byAll_9 : decode cX9_byAll 9 = .ok (.iload_n 3, 1) := by decide +kernel
theorem dX9_byAll_10 : decode cX9_byAll 10 = .ok (.i2l, 1) := by decide +kernel
theorem dX9_byAll_11 : decode cX9_byAll 11 = .ok (.lconst 0, 1) := by decide +kernel
theorem dX9_byAll_12 : decode cX9_byAll 12 = .ok (.ldc2_w 125, 3) := by decide +kernel
theorem dX9_byAll_15 : decode cX9_byAll 15 = .ok (.invokestatic 50, 3) := by decide +kernel
theorem dX9_byAll_18 : decode cX9_byAll 18 = .ok (.ifCond .eq 16, 3) := by decide +kernel
theorem dX9_byAll_21 : decode cX9_byAll 21 = .ok (.iload 4, 2) := by decide +kernel
theorem dX9_byAll_23 : decode cX9_byAll 23 = .ok (.i2l, 1) := by decide +kernel
theorem dX9_byAll_24 : decode cX9_byAll 24 = .ok (.lconst 0, 1) := by decide +kernel
theorem dX9_byAll_25 : decode cX9_byAll 25 = .ok (.ldc2_w 125, 3) := by decide +kernel
theorem dX9_byAll_28 : decode cX9_byAll 28 = .ok (.invokestatic 50, 3) := by decide +kernel
theorem dX9_byAll_31 : decode cX9_byAll 31 = .ok (.ifCond .ne 8, 3) := by decide +kernel
theorem dX9_byAll_34 : decode cX9_byAll 34 = .ok (.bipush (-2), 2) := by decide +kernel
theorem dX9_byAll_36 : decode cX9_byAll 36 = .ok (.goto 20, 3) := by decide +kernel
theorem dX9_byAll_39 : decode cX9_byAll 39 = .ok (.aload_n 0, 1) := by decide +kernel
theorem dX9_byAll_40 : decode cX9_byAll 40 = .ok (.iload_n 1, 1) := by decide +kernel
theorem dX9_byAll_41 : decode cX9_byAll 41 = .ok (.iload_n 2, 1) := by decide +kernel
theorem dX9_byAll_42 : decode cX9_byAll 42 = .ok (.iload_n 3, 1) := by decide +kernel
theorem dX9_byAll_43 : decode cX9_byAll 43 = .ok (.iload 4, 2) := by decide +kernel
theorem dX9_byAll_45 : decode cX9_byAll 45 = .ok (.invokevirtual 127, 3) := by decide +kernel
theorem dX9_byAll_48 : decode cX9_byAll 48 = .ok (.ifCond .eq 7, 3) := by decide +kernel
theorem dX9_byAll_51 : decode cX9_byAll 51 = .ok (.iconst 1, 1) := by decide +kernel
theorem dX9_byAll_52 : decode cX9_byAll 52 = .ok (.goto 4, 3) := by decide +kernel
theorem dX9_byAll_55 : decode cX9_byAll 55 = .ok (.iconst 0, 1) := by decide +kernel
theorem dX9_byAll_56 : decode cX9_byAll 56 = .ok (.ireturn, 1) := by decide +kernel
theorem dX9_byAll_57 : decode cX9_byAll 57 = .ok (.iload_n 1, 1) := by decide +kernel
theorem dX9_byAll_58 : decode cX9_byAll 58 = .ok (.iconst 3, 1) := by decide +kernel
theorem dX9_byAll_59 : decode cX9_byAll 59 = .ok (.if_icmp .ne 41, 3) := by decide +kernel
theorem dX9_byAll_62 : decode cX9_byAll 62 = .ok (.iload_n 3, 1) := by decide +kernel
theorem dX9_byAll_63 : decode cX9_byAll 63 = .ok (.i2l, 1) := by decide +kernel
theorem dX9_byAll_64 : decode cX9_byAll 64 = .ok (.lconst 0, 1) := by decide +kernel
theorem dX9_byAll_65 : decode cX9_byAll 65 = .ok (.ldc2_w 130, 3) := by decide +kernel
theorem dX9_byAll_68 : decode cX9_byAll 68 = .ok (.invokestatic 50, 3) := by decide +kernel
theorem dX9_byAll_71 : decode cX9_byAll 71 = .ok (.ifCond .eq 29, 3) := by decide +kernel
theorem dX9_byAll_74 : decode cX9_byAll 74 = .ok (.iload 4, 2) := by decide +kernel
theorem dX9_byAll_76 : decode cX9_byAll 76 = .ok (.i2l, 1) := by decide +kernel
theorem dX9_byAll_77 : decode cX9_byAll 77 = .ok (.lconst 0, 1) := by decide +kernel
theorem dX9_byAll_78 : decode cX9_byAll 78 = .ok (.ldc2_w 130, 3) := by decide +kernel
theorem dX9_byAll_81 : decode cX9_byAll 81 = .ok (.invokestatic 50, 3) := by decide +kernel
theorem dX9_byAll_84 : decode cX9_byAll 84 = .ok (.ifCond .eq 16, 3) := by decide +kernel
theorem dX9_byAll_87 : decode cX9_byAll 87 = .ok (.iload 5, 2) := by decide +kernel
theorem dX9_byAll_89 : decode cX9_byAll 89 = .ok (.i2l, 1) := by decide +kernel
theorem dX9_byAll_90 : decode cX9_byAll 90 = .ok (.lconst 0, 1) := by decide +kernel
theorem dX9_byAll_91 : decode cX9_byAll 91 = .ok (.ldc2_w 130, 3) := by decide +kernel
theorem dX9_byAll_94 : decode cX9_byAll 94 = .ok (.invokestatic 50, 3) := by decide +kernel
theorem dX9_byAll_97 : decode cX9_byAll 97 = .ok (.ifCond .ne 8, 3) := by decide +kernel
theorem dX9_byAll_100 : decode cX9_byAll 100 = .ok (.bipush (-2), 2) := by decide +kernel
theorem dX9_byAll_102 : decode cX9_byAll 102 = .ok (.goto 21, 3) := by decide +kernel
theorem dX9_byAll_105 : decode cX9_byAll 105 = .ok (.aload_n 0, 1) := by decide +kernel
theorem dX9_byAll_106 : decode cX9_byAll 106 = .ok (.iload_n 2, 1) := by decide +kernel
theorem dX9_byAll_107 : decode cX9_byAll 107 = .ok (.iload_n 3, 1) := by decide +kernel
theorem dX9_byAll_108 : decode cX9_byAll 108 = .ok (.iload 4, 2) := by decide +kernel
theorem dX9_byAll_110 : decode cX9_byAll 110 = .ok (.iload 5, 2) := by decide +kernel
theorem dX9_byAll_112 : decode cX9_byAll 112 = .ok (.invokevirtual 132, 3) := by decide +kernel
theorem dX9_byAll_115 : decode cX9_byAll 115 = .ok (.ifCond .eq 7, 3) := by decide +kernel
theorem dX9_byAll_118 : decode cX9_byAll 118 = .ok (.iconst 1, 1) := by decide +kernel
theorem dX9_byAll_119 : decode cX9_byAll 119 = .ok (.goto 4, 3) := by decide +kernel
theorem dX9_byAll_122 : decode cX9_byAll 122 = .ok (.iconst 0, 1) := by decide +kernel
theorem dX9_byAll_123 : decode cX9_byAll 123 = .ok (.ireturn, 1) := by decide +kernel
set_option maxRecDepth 20000 in
theorem ggX9_lostUpTo_X9_in : GoodIn wsX9_lostUpTo wsX9_in := goodIn_r _ [6] (by decide +kernel) (by decide +kernel)
set_option maxRecDepth 20000 in
theorem gX9_lostUpTo_X9_in : GoodIn wsX9_lostUpTo (va_wsS RX9 50 yX9_in wsX9_in) := goodIn_app (goodIn_of _ (by decide +kernel)) ggX9_lostUpTo_X9_in
set_option maxRecDepth 20000 in
theorem ggX9_lostUpTo_X9_threeAt : GoodIn wsX9_lostUpTo wsX9_threeAt := goodIn_r _ [10, 11, 12, 13, 14, 15, 5, 16, 31, 32, 33, 34, 35, 36, 37, 38, 39, 40, 41, 42, 43, 44, 45, 46, 47, 48] (by decide +kernel) (by decide +kernel)
set_option maxRecDepth 20000 in
theorem gX9_lostUpTo_X9_threeAt : GoodIn wsX9_lostUpTo (wsV RX9 132 RX9 yX9_threeAt wsX9_threeAt) := goodIn_app (goodIn_of _ (by decide +kernel)) ggX9_lostUpTo_X9_threeAt
set_option maxRecDepth 20000 in
theorem ggX9_lostUpTo_X9_wonAt : GoodIn wsX9_lostUpTo wsX9_wonAt := goodIn_r _ [20, 21, 22, 23, 24, 25, 5, 26, 27, 28, 29, 30, 31, 32, 33, 34, 35, 36, 37, 38, 39, 40, 41, 42, 43, 44, 45, 46, 47, 48] (by decide +kernel) (by decide +kernel)
set_option maxRecDepth 20000 in
theorem gX9_lostUpTo_X9_wonAt : GoodIn wsX9_lostUpTo (wsV RX9 127 RX9 yX9_wonAt wsX9_wonAt) := goodIn_app (goodIn_of _ (by decide +kernel)) ggX9_lostUpTo_X9_wonAt
theorem dX9_lostUpTo_0 : decode cX9_lostUpTo 0 = .ok (.iload_n 1, 1) := by decide +kernel
theorem dX9_lostUpTo_1 : decode cX9_lostUpTo 1 = .ok (.ifCond .eq 13, 3) := by decide +kernel
theorem dX9_lostUpTo_4 : decode cX9_lostUpTo 4 = .ok (.iload_n 1, 1) := by decide +kernel
theorem dX9_lostUpTo_5 : decode cX9_lostUpTo 5 = .ok (.iconst 1, 1) := by decide +kernel
theorem dX9_lostUpTo_6 : decode cX9_lostUpTo 6 = .ok (.if_icmp .eq 8, 3) := by decide +kernel
theorem dX9_lostUpTo_9 : decode cX9_lostUpTo 9 = .ok (.iload_n 1, 1) := by decide +kernel
theorem dX9_lostUpTo_10 : decode cX9_lostUpTo 10 = .ok (.iconst 3, 1) := by decide +kernel
theorem dX9_lostUpTo_11 : decode cX9_lostUpTo 11 = .ok (.if_icmp .ne 26, 3) := by decide +kernel
theorem dX9_lostUpTo_14 : decode cX9_lostUpTo 14 = .ok (.iload_n 3, 1) := by decide +kernel
theorem dX9_lostUpTo_15 : decode cX9_lostUpTo 15 = .ok (.i2l, 1) := by decide +kernel
theorem dX9_lostUpTo_16 : decode cX9_lostUpTo 16 = .ok (.lconst 1, 1) := by decide +kernel
theorem dX9_lostUpTo_17 : decode cX9_lostUpTo 17 = .ok (.iload_n 1, 1) := by decide +kernel
theorem dX9_lostUpTo_18 : decode cX9_lostUpTo 18 = .ok (.iconst 3, 1) := by decide +kernel
theorem dX9_lostUpTo_19 : decode cX9_lostUpTo 19 = .ok (.if_icmp .ne 9, 3) := by decide +kernel
theorem dX9_lostUpTo_22 : decode cX9_lostUpTo 22 = .ok (.ldc2_w 130, 3) := by decide +kernel
theorem dX9_lostUpTo_25 : decode cX9_lostUpTo 25 = .ok (.goto 6, 3) := by decide +kernel
theorem dX9_lostUpTo_28 : decode cX9_lostUpTo 28 = .ok (.ldc2_w 125, 3) := by decide +kernel
theorem dX9_lostUpTo_31 : decode cX9_lostUpTo 31 = .ok (.invokestatic 50, 3) := by decide +kernel
theorem dX9_lostUpTo_34 : decode cX9_lostUpTo 34 = .ok (.ifCond .ne 6, 3) := by decide +kernel
theorem dX9_lostUpTo_37 : decode cX9_lostUpTo 37 = .ok (.bipush (-2), 2) := by decide +kernel
theorem dX9_lostUpTo_39 : decode cX9_lostUpTo 39 = .ok (.ireturn, 1) := by decide +kernel
theorem dX9_lostUpTo_40 : decode cX9_lostUpTo 40 = .ok (.iconst 0, 1) := by decide +kernel
theorem dX9_lostUpTo_41 : decode cX9_lostUpTo 41 = .ok (.istore 4, 2) := by decide +kernel
theorem dX9_lostUpTo_43 : decode cX9_lostUpTo 43 = .ok (.iconst 0, 1) := by decide +kernel
theorem dX9_lostUpTo_44 : decode cX9_lostUpTo 44 = .ok (.istore 5, 2) := by decide +kernel
theorem dX9_lostUpTo_46 : decode cX9_lostUpTo 46 = .ok (.iload 5, 2) := by decide +kernel
theorem dX9_lostUpTo_48 : decode cX9_lostUpTo 48 = .ok (.iload_n 3, 1) := by decide +kernel
theorem dX9_lostUpTo_49 : decode cX9_lostUpTo 49 = .ok (.if_icmp .gt 93, 3) := by decide +kernel
theorem dX9_lostUpTo_52 : decode cX9_lostUpTo 52 = .ok (.iconst 0, 1) := by decide +kernel
theorem dX9_lostUpTo_53 : decode cX9_lostUpTo 53 = .ok (.istore 6, 2) := by decide +kernel
theorem dX9_lostUpTo_55 : decode cX9_lostUpTo 55 = .ok (.iload 6, 2) := by decide +kernel
theorem dX9_lostUpTo_57 : decode cX9_lostUpTo 57 = .ok (.iload_n 3, 1) := by decide +kernel
theorem dX9_lostUpTo_58 : decode cX9_lostUpTo 58 = .ok (.if_icmp .gt 78, 3) := by decide +kernel
theorem dX9_lostUpTo_61 : decode cX9_lostUpTo 61 = .ok (.iconst 0, 1) := by decide +kernel
theorem dX9_lostUpTo_62 : decode cX9_lostUpTo 62 = .ok (.istore 7, 2) := by decide +kernel
theorem dX9_lostUpTo_64 : decode cX9_lostUpTo 64 = .ok (.iload 7, 2) := by decide +kernel
theorem dX9_lostUpTo_66 : decode cX9_lostUpTo 66 = .ok (.iload_n 1, 1) := by decide +kernel
theorem dX9_lostUpTo_67 : decode cX9_lostUpTo 67 = .ok (.iconst 3, 1) := by decide +kernel
theorem dX9_lostUpTo_68 : decode cX9_lostUpTo 68 = .ok (.if_icmp .ne 7, 3) := by decide +kernel
theorem dX9_lostUpTo_71 : decode cX9_lostUpTo 71 = .ok (.iload_n 3, 1) := by decide +kernel
theorem dX9_lostUpTo_72 : decode cX9_lostUpTo 72 = .ok (.goto 4, 3) := by decide +kernel
theorem dX9_lostUpTo_75 : decode cX9_lostUpTo 75 = .ok (.iconst 0, 1) := by decide +kernel
theorem dX9_lostUpTo_76 : decode cX9_lostUpTo 76 = .ok (.if_icmp .gt 54, 3) := by decide +kernel
theorem dX9_lostUpTo_79 : decode cX9_lostUpTo 79 = .ok (.iload 4, 2) := by decide +kernel
theorem dX9_lostUpTo_81 : decode cX9_lostUpTo 81 = .ok (.iload_n 1, 1) := by decide +kernel
theorem dX9_lostUpTo_82 : decode cX9_lostUpTo 82 = .ok (.iconst 3, 1) := by decide +kernel
theorem dX9_lostUpTo_83 : decode cX9_lostUpTo 83 = .ok (.if_icmp .ne 20, 3) := by decide +kernel
theorem dX9_lostUpTo_86 : decode cX9_lostUpTo 86 = .ok (.aload_n 0, 1) := by decide +kernel
theorem dX9_lostUpTo_87 : decode cX9_lostUpTo 87 = .ok (.iload_n 2, 1) := by decide +kernel
theorem dX9_lostUpTo_88 : decode cX9_lostUpTo 88 = .ok (.iload 5, 2) := by decide +kernel
theorem dX9_lostUpTo_90 : decode cX9_lostUpTo 90 = .ok (.iload 6, 2) := by decide +kernel
theorem dX9_lostUpTo_92 : decode cX9_lostUpTo 92 = .ok (.iload 7, 2) := by decide +kernel
theorem dX9_lostUpTo_94 : decode cX9_lostUpTo 94 = .ok (.invokevirtual 132, 3) := by decide +kernel
theorem dX9_lostUpTo_97 : decode cX9_lostUpTo 97 = .ok (.ifCond .eq 23, 3) := by decide +kernel
theorem dX9_lostUpTo_100 : decode cX9_lostUpTo 100 = .ok (.goto 16, 3) := by decide +kernel
theorem dX9_lostUpTo_103 : decode cX9_lostUpTo 103 = .ok (.aload_n 0, 1) := by decide +kernel
theorem dX9_lostUpTo_104 : decode cX9_lostUpTo 104 = .ok (.iload_n 1, 1) := by decide +kernel
theorem dX9_lostUpTo_105 : decode cX9_lostUpTo 105 = .ok (.iload_n 2, 1) := by decide +kernel
theorem dX9_lostUpTo_106 : decode cX9_lostUpTo 106 = .ok (.iload 5, 2) := by decide +kernel
theorem dX9_lostUpTo_108 : decode cX9_lostUpTo 108 = .ok (.iload 6, 2) := by decide +kernel
theorem dX9_lostUpTo_110 : decode cX9_lostUpTo 110 = .ok (.invokevirtual 127, 3) := by decide +kernel
theorem dX9_lostUpTo_113 : decode cX9_lostUpTo 113 = .ok (.ifCond .eq 7, 3) := by decide +kernel
theorem dX9_lostUpTo_116 : decode cX9_lostUpTo 116 = .ok (.iconst 0, 1) := by decide +kernel
theorem dX9_lostUpTo_117 : decode cX9_lostUpTo 117 = .ok (.goto 4, 3) := by decide +kernel
theorem dX9_lostUpTo_120 : decode cX9_lostUpTo 120 = .ok (.iconst 1, 1) := by decide +kernel
theorem dX9_lostUpTo_121 : decode cX9_lostUpTo 121 = .ok (.iadd, 1) := by decide +kernel
theorem dX9_lostUpTo_122 : decode cX9_lostUpTo 122 = .ok (.istore 4, 2) := by decide +kernel
theorem dX9_lostUpTo_124 : decode cX9_lostUpTo 124 = .ok (.iinc 7 1, 3) := by decide +kernel
theorem dX9_lostUpTo_127 : decode cX9_lostUpTo 127 = .ok (.goto (-63), 3) := by decide +kernel
theorem dX9_lostUpTo_130 : decode cX9_lostUpTo 130 = .ok (.iinc 6 1, 3) := by decide +kernel
theorem dX9_lostUpTo_133 : decode cX9_lostUpTo 133 = .ok (.goto (-78), 3) := by decide +kernel
theorem dX9_lostUpTo_136 : decode cX9_lostUpTo 136 = .ok (.iinc 5 1, 3) := by decide +kernel
theorem dX9_lostUpTo_139 : decode cX9_lostUpTo 139 = .ok (.goto (-93), 3) := by decide +kernel
theorem dX9_lostUpTo_142 : decode cX9_lostUpTo 142 = .ok (.iload 4, 2) := by decide +kernel
theorem dX9_lostUpTo_144 : decode cX9_lostUpTo 144 = .ok (.ireturn, 1) := by decide +kernel
set_option maxRecDepth 20000 in
theorem ggX9_timesByAll_X9_isBy : GoodIn wsX9_timesByAll wsX9_isBy := goodIn_r _ [6, 7, 8, 9, 5, 10] (by decide +kernel) (by decide +kernel)
set_option maxRecDepth 20000 in
theorem gX9_timesByAll_X9_isBy : GoodIn wsX9_timesByAll (va_wsS RX9 95 yX9_isBy wsX9_isBy) := goodIn_app (goodIn_of _ (by decide +kernel)) ggX9_timesByAll_X9_isBy
set_option maxRecDepth 20000 in
theorem ggX9_timesByAll_X9_in : GoodIn wsX9_timesByAll wsX9_in := goodIn_r _ [10] (by decide +kernel) (by decide +kernel)
set_option maxRecDepth 20000 in
theorem gX9_timesByAll_X9_in : GoodIn wsX9_timesByAll (va_wsS RX9 50 yX9_in wsX9_in) := goodIn_app (goodIn_of _ (by decide +kernel)) ggX9_timesByAll_X9_in
theorem dX9_timesByAll_0 : decode cX9_timesByAll 0 = .ok (.iload_n 1, 1) := by decide +kernel
theorem dX9_timesByAll_1 : decode cX9_timesByAll 1 = .ok (.invokestatic 95, 3) := by decide +kernel
theorem dX9_timesByAll_4 : decode cX9_timesByAll 4 = .ok (.ifCond .eq 27, 3) := by decide +kernel
theorem dX9_timesByAll_7 : decode cX9_timesByAll 7 = .ok (.iload_n 2, 1) := by decide +kernel
theorem dX9_timesByAll_8 : decode cX9_timesByAll 8 = .ok (.i2l, 1) := by decide +kernel
theorem dX9_timesByAll_9 : decode cX9_timesByAll 9 = .ok (.lconst 0, 1) := by decide +kernel
theorem dX9_timesByAll_10 : decode cX9_timesByAll 10 = .ok (.ldc2_w 125, 3) := by decide +kernel
theorem dX9_timesByAll_13 : decode cX9_timesByAll 13 = .ok (.invokestatic 50, 3) := by decide +kernel
theorem dX9_timesByAll_16 : decode cX9_timesByAll 16 = .ok (.ifCond .eq 15, 3) := by decide +kernel
theorem dX9_timesByAll_19 : decode cX9_timesByAll 19 = .ok (.iload_n 3, 1) := by decide +kernel
theorem dX9_timesByAll_20 : decode cX9_timesByAll 20 = .ok (.i2l, 1) := by decide +kernel
theorem dX9_timesByAll_21 : decode cX9_timesByAll 21 = .ok (.lconst 0, 1) := by decide +kernel
theorem dX9_timesByAll_22 : decode cX9_timesByAll 22 = .ok (.ldc2_w 125, 3) := by decide +kernel
theorem dX9_timesByAll_25 : decode cX9_timesByAll 25 = .ok (.invokestatic 50, 3) := by decide +kernel
theorem dX9_timesByAll_28 : decode cX9_timesByAll 28 = .ok (.ifCond .ne 6, 3) := by decide +kernel
theorem dX9_timesByAll_31 : decode cX9_timesByAll 31 = .ok (.bipush (-2), 2) := by decide +kernel
theorem dX9_timesByAll_33 : decode cX9_timesByAll 33 = .ok (.ireturn, 1) := by decide +kernel
theorem dX9_timesByAll_34 : decode cX9_timesByAll 34 = .ok (.iconst 0, 1) := by decide +kernel
theorem dX9_timesByAll_35 : decode cX9_timesByAll 35 = .ok (.istore 4, 2) := by decide +kernel
theorem dX9_timesByAll_37 : decode cX9_timesByAll 37 = .ok (.iload 4, 2) := by decide +kernel
theorem dX9_timesByAll_39 : decode cX9_timesByAll 39 = .ok (.iload_n 2, 1) := by decide +kernel
theorem dX9_timesByAll_40 : decode cX9_timesByAll 40 = .ok (.if_icmp .gt 117, 3) := by decide +kernel
theorem dX9_timesByAll_43 : decode cX9_timesByAll 43 = .ok (.iconst 0, 1) := by decide +kernel
theorem dX9_timesByAll_44 : decode cX9_timesByAll 44 = .ok (.istore 5, 2) := by decide +kernel
theorem dX9_timesByAll_46 : decode cX9_timesByAll 46 = .ok (.iload 5, 2) := by decide +kernel
theorem dX9_timesByAll_48 : decode cX9_timesByAll 48 = .ok (.bipush 60, 2) := by decide +kernel
theorem dX9_timesByAll_50 : decode cX9_timesByAll 50 = .ok (.if_icmp .gt 101, 3) := by decide +kernel
theorem dX9_timesByAll_53 : decode cX9_timesByAll 53 = .ok (.iconst 0, 1) := by decide +kernel
theorem dX9_timesByAll_54 : decode cX9_timesByAll 54 = .ok (.istore 6, 2) := by decide +kernel
theorem dX9_timesByAll_56 : decode cX9_timesByAll 56 = .ok (.iconst 1, 1) := by decide +kernel
theorem dX9_timesByAll_57 : decode cX9_timesByAll 57 = .ok (.istore 7, 2) := by decide +kernel
theorem dX9_timesByAll_59 : decode cX9_timesByAll 59 = .ok (.iload 7, 2) := by decide +kernel
theorem dX9_timesByAll_61 : decode cX9_timesByAll 61 = .ok (.iload 5, 2) := by decide +kernel
theorem dX9_timesByAll_63 : decode cX9_timesByAll 63 = .ok (.if_icmp .gt 67, 3) := by decide +kernel
theorem dX9_timesByAll_66 : decode cX9_timesByAll 66 = .ok (.iload 7, 2) := by decide +kernel
theorem dX9_timesByAll_68 : decode cX9_timesByAll 68 = .ok (.iload 4, 2) := by decide +kernel
theorem dX9_timesByAll_70 : decode cX9_timesByAll 70 = .ok (.if_icmp .gt 60, 3) := by decide +kernel
theorem dX9_timesByAll_73 : decode cX9_timesByAll 73 = .ok (.iload_n 1, 1) := by decide +kernel
theorem dX9_timesByAll_74 : decode cX9_timesByAll 74 = .ok (.iload 7, 2) := by decide +kernel
theorem dX9_timesByAll_76 : decode cX9_timesByAll 76 = .ok (.imul, 1) := by decide +kernel
theorem dX9_timesByAll_77 : decode cX9_timesByAll 77 = .ok (.bipush 60, 2) := by decide +kernel
theorem dX9_timesByAll_79 : decode cX9_timesByAll 79 = .ok (.if_icmp .ge 10, 3) := by decide +kernel
theorem dX9_timesByAll_82 : decode cX9_timesByAll 82 = .ok (.iload_n 1, 1) := by decide +kernel
theorem dX9_timesByAll_83 : decode cX9_timesByAll 83 = .ok (.iload 7, 2) := by decide +kernel
theorem dX9_timesByAll_85 : decode cX9_timesByAll 85 = .ok (.imul, 1) := by decide +kernel
theorem dX9_timesByAll_86 : decode cX9_timesByAll 86 = .ok (.goto 5, 3) := by decide +kernel
theorem dX9_timesByAll_89 : decode cX9_timesByAll 89 = .ok (.bipush 60, 2) := by decide +kernel
theorem dX9_timesByAll_91 : decode cX9_timesByAll 91 = .ok (.istore 8, 2) := by decide +kernel
theorem dX9_timesByAll_93 : decode cX9_timesByAll 93 = .ok (.iload 6, 2) := by decide +kernel
theorem dX9_timesByAll_95 : decode cX9_timesByAll 95 = .ok (.ifCond .ne 22, 3) := by decide +kernel
theorem dX9_timesByAll_98 : decode cX9_timesByAll 98 = .ok (.aload_n 0, 1) := by decide +kernel
theorem dX9_timesByAll_99 : decode cX9_timesByAll 99 = .ok (.getfield 29, 3) := by decide +kernel
theorem dX9_timesByAll_102 : decode cX9_timesByAll 102 = .ok (.bipush 61, 2) := by decide +kernel
theorem dX9_timesByAll_104 : decode cX9_timesByAll 104 = .ok (.iload 4, 2) := by decide +kernel
theorem dX9_timesByAll_106 : decode cX9_timesByAll 106 = .ok (.iload 7, 2) := by decide +kernel
theorem dX9_timesByAll_108 : decode cX9_timesByAll 108 = .ok (.isub, 1) := by decide +kernel
theorem dX9_timesByAll_109 : decode cX9_timesByAll 109 = .ok (.imul, 1) := by decide +kernel
theorem dX9_timesByAll_110 : decode cX9_timesByAll 110 = .ok (.iload 8, 2) := by decide +kernel
theorem dX9_timesByAll_112 : decode cX9_timesByAll 112 = .ok (.iadd, 1) := by decide +kernel
theorem dX9_timesByAll_113 : decode cX9_timesByAll 113 = .ok (.baload, 1) := by decide +kernel
theorem dX9_timesByAll_114 : decode cX9_timesByAll 114 = .ok (.ifCond .ne 7, 3) := by decide +kernel
theorem dX9_timesByAll_117 : decode cX9_timesByAll 117 = .ok (.iconst 1, 1) := by decide +kernel
theorem dX9_timesByAll_118 : decode cX9_timesByAll 118 = .ok (.goto 4, 3) := by decide +kernel
theorem dX9_timesByAll_121 : decode cX9_timesByAll 121 = .ok (.iconst 0, 1) := by decide +kernel
theorem dX9_timesByAll_122 : decode cX9_timesByAll 122 = .ok (.istore 6, 2) := by decide +kernel
theorem dX9_timesByAll_124 : decode cX9_timesByAll 124 = .ok (.iinc 7 1, 3) := by decide +kernel
theorem dX9_timesByAll_127 : decode cX9_timesByAll 127 = .ok (.goto (-68), 3) := by decide +kernel
theorem dX9_timesByAll_130 : decode cX9_timesByAll 130 = .ok (.aload_n 0, 1) := by decide +kernel
theorem dX9_timesByAll_131 : decode cX9_timesByAll 131 = .ok (.getfield 29, 3) := by decide +kernel
theorem dX9_timesByAll_134 : decode cX9_timesByAll 134 = .ok (.bipush 61, 2) := by decide +kernel
theorem dX9_timesByAll_136 : decode cX9_timesByAll 136 = .ok (.iload 4, 2) := by decide +kernel
theorem dX9_timesByAll_138 : decode cX9_timesByAll 138 = .ok (.imul, 1) := by decide +kernel
theorem dX9_timesByAll_139 : decode cX9_timesByAll 139 = .ok (.iload 5, 2) := by decide +kernel
theorem dX9_timesByAll_141 : decode cX9_timesByAll 141 = .ok (.iadd, 1) := by decide +kernel
theorem dX9_timesByAll_142 : decode cX9_timesByAll 142 = .ok (.iload 6, 2) := by decide +kernel
theorem dX9_timesByAll_144 : decode cX9_timesByAll 144 = .ok (.bastore, 1) := by decide +kernel
theorem dX9_timesByAll_145 : decode cX9_timesByAll 145 = .ok (.iinc 5 1, 3) := by decide +kernel
theorem dX9_timesByAll_148 : decode cX9_timesByAll 148 = .ok (.goto (-102), 3) := by decide +kernel
theorem dX9_timesByAll_151 : decode cX9_timesByAll 151 = .ok (.iinc 4 1, 3) := by decide +kernel
theorem dX9_timesByAll_154 : decode cX9_timesByAll 154 = .ok (.goto (-117), 3) := by decide +kernel
theorem dX9_timesByAll_157 : decode cX9_timesByAll 157 = .ok (.aload_n 0, 1) := by decide +kernel
theorem dX9_timesByAll_158 : decode cX9_timesByAll 158 = .ok (.getfield 29, 3) := by decide +kernel
theorem dX9_timesByAll_161 : decode cX9_timesByAll 161 = .ok (.bipush 61, 2) := by decide +kernel
theorem dX9_timesByAll_163 : decode cX9_timesByAll 163 = .ok (.iload_n 2, 1) := by decide +kernel
theorem dX9_timesByAll_164 : decode cX9_timesByAll 164 = .ok (.imul, 1) := by decide +kernel
theorem dX9_timesByAll_165 : decode cX9_timesByAll 165 = .ok (.iload_n 3, 1) := by decide +kernel
theorem dX9_timesByAll_166 : decode cX9_timesByAll 166 = .ok (.iadd, 1) := by decide +kernel
theorem dX9_timesByAll_167 : decode cX9_timesByAll 167 = .ok (.baload, 1) := by decide +kernel
theorem dX9_timesByAll_168 : decode cX9_timesByAll 168 = .ok (.ifCond .eq 7, 3) := by decide +kernel
theorem dX9_timesByAll_171 : decode cX9_timesByAll 171 = .ok (.iconst 1, 1) := by decide +kernel
theorem dX9_timesByAll_172 : decode cX9_timesByAll 172 = .ok (.goto 4, 3) := by decide +kernel
theorem dX9_timesByAll_175 : decode cX9_timesByAll 175 = .ok (.iconst 0, 1) := by decide +kernel
theorem dX9_timesByAll_176 : decode cX9_timesByAll 176 = .ok (.ireturn, 1) := by decide +kernel
set_option maxRecDepth 20000 in
theorem ggX9_board_X9_in : GoodIn wsX9_board wsX9_in := goodIn_r _ [16] (by decide +kernel) (by decide +kernel)
set_option maxRecDepth 20000 in
theorem gX9_board_X9_in : GoodIn wsX9_board (va_wsS RX9 50 yX9_in wsX9_in) := goodIn_app (goodIn_of _ (by decide +kernel)) ggX9_board_X9_in
theorem dX9_board_0 : decode cX9_board 0 = .ok (.iload_n 1, 1) := by decide +kernel
theorem dX9_board_1 : decode cX9_board 1 = .ok (.iconst 3, 1) := by decide +kernel
theorem dX9_board_2 : decode cX9_board 2 = .ok (.if_icmp .ne 9, 3) := by decide +kernel
theorem dX9_board_5 : decode cX9_board 5 = .ok (.ldc2_w 130, 3) := by decide +kernel
theorem dX9_board_8 : decode cX9_board 8 = .ok (.goto 16, 3) := by decide +kernel
theorem dX9_board_11 : decode cX9_board 11 = .ok (.iload_n 2, 1) := by decide +kernel
theorem dX9_board_12 : decode cX9_board 12 = .ok (.ifCond .eq 9, 3) := by decide +kernel
theorem dX9_board_15 : decode cX9_board 15 = .ok (.ldc2_w 125, 3) := by decide +kernel
theorem dX9_board_18 : decode cX9_board 18 = .ok (.goto 6, 3) := by decide +kernel
theorem dX9_board_21 : decode cX9_board 21 = .ok (.ldc2_w 48, 3) := by decide +kernel
theorem dX9_board_24 : decode cX9_board 24 = .ok (.lstore 9, 2) := by decide +kernel
theorem dX9_board_26 : decode cX9_board 26 = .ok (.iload_n 1, 1) := by decide +kernel
theorem dX9_board_27 : decode cX9_board 27 = .ok (.i2l, 1) := by decide +kernel
theorem dX9_board_28 : decode cX9_board 28 = .ok (.lconst 0, 1) := by decide +kernel
theorem dX9_board_29 : decode cX9_board 29 = .ok (.ldc2_w 136, 3) := by decide +kernel
theorem dX9_board_32 : decode cX9_board 32 = .ok (.invokestatic 50, 3) := by decide +kernel
theorem dX9_board_35 : decode cX9_board 35 = .ok (.ifCond .eq 68, 3) := by decide +kernel
theorem dX9_board_38 : decode cX9_board 38 = .ok (.lload_n 3, 1) := by decide +kernel
theorem dX9_board_39 : decode cX9_board 39 = .ok (.lconst 0, 1) := by decide +kernel
theorem dX9_board_40 : decode cX9_board 40 = .ok (.lload 9, 2) := by decide +kernel
theorem dX9_board_42 : decode cX9_board 42 = .ok (.invokestatic 50, 3) := by decide +kernel
theorem dX9_board_45 : decode cX9_board 45 = .ok (.ifCond .eq 58, 3) := by decide +kernel
theorem dX9_board_48 : decode cX9_board 48 = .ok (.iload_n 1, 1) := by decide +kernel
theorem dX9_board_49 : decode cX9_board 49 = .ok (.iconst 2, 1) := by decide +kernel
theorem dX9_board_50 : decode cX9_board 50 = .ok (.if_icmp .ne 22, 3) := by decide +kernel
theorem dX9_board_53 : decode cX9_board 53 = .ok (.lload 5, 2) := by decide +kernel
theorem dX9_board_55 : decode cX9_board 55 = .ok (.lconst 1, 1) := by decide +kernel
theorem dX9_board_56 : decode cX9_board 56 = .ok (.ldc2_w 93, 3) := by decide +kernel
theorem dX9_board_59 : decode cX9_board 59 = .ok (.invokestatic 50, 3) := by decide +kernel
theorem dX9_board_62 : decode cX9_board 62 = .ok (.ifCond .eq 41, 3) := by decide +kernel
theorem dX9_board_65 : decode cX9_board 65 = .ok (.iload_n 2, 1) := by decide +kernel
theorem dX9_board_66 : decode cX9_board 66 = .ok (.ifCond .ne 37, 3) := by decide +kernel
theorem dX9_board_69 : decode cX9_board 69 = .ok (.goto 14, 3) := by decide +kernel
theorem dX9_board_72 : decode cX9_board 72 = .ok (.lload 5, 2) := by decide +kernel
theorem dX9_board_74 : decode cX9_board 74 = .ok (.lconst 0, 1) := by decide +kernel
theorem dX9_board_75 : decode cX9_board 75 = .ok (.lload 9, 2) := by decide +kernel
theorem dX9_board_77 : decode cX9_board 77 = .ok (.invokestatic 50, 3) := by decide +kernel
theorem dX9_board_80 : decode cX9_board 80 = .ok (.ifCond .eq 23, 3) := by decide +kernel
theorem dX9_board_83 : decode cX9_board 83 = .ok (.iload_n 1, 1) := by decide +kernel
theorem dX9_board_84 : decode cX9_board 84 = .ok (.iconst 3, 1) := by decide +kernel
theorem dX9_board_85 : decode cX9_board 85 = .ok (.if_icmp .ne 14, 3) := by decide +kernel
theorem dX9_board_88 : decode cX9_board 88 = .ok (.lload 7, 2) := by decide +kernel
theorem dX9_board_90 : decode cX9_board 90 = .ok (.lconst 0, 1) := by decide +kernel
theorem dX9_board_91 : decode cX9_board 91 = .ok (.lload 9, 2) := by decide +kernel
theorem dX9_board_93 : decode cX9_board 93 = .ok (.invokestatic 50, 3) := by decide +kernel
theorem dX9_board_96 : decode cX9_board 96 = .ok (.ifCond .eq 7, 3) := by decide +kernel
theorem dX9_board_99 : decode cX9_board 99 = .ok (.iconst 1, 1) := by decide +kernel
theorem dX9_board_100 : decode cX9_board 100 = .ok (.goto 4, 3) := by decide +kernel
theorem dX9_board_103 : decode cX9_board 103 = .ok (.iconst 0, 1) := by decide +kernel
theorem dX9_board_104 : decode cX9_board 104 = .ok (.istore 11, 2) := by decide +kernel
theorem dX9_board_106 : decode cX9_board 106 = .ok (.iload 11, 2) := by decide +kernel
theorem dX9_board_108 : decode cX9_board 108 = .ok (.ifCond .ne 6, 3) := by decide +kernel
theorem dX9_board_111 : decode cX9_board 111 = .ok (.bipush (-2), 2) := by decide +kernel
theorem dX9_board_113 : decode cX9_board 113 = .ok (.ireturn, 1) := by decide +kernel
theorem dX9_board_114 : decode cX9_board 114 = .ok (.aload_n 0, 1) := by decide +kernel
theorem dX9_board_115 : decode cX9_board 115 = .ok (.iload_n 1, 1) := by decide +kernel
theorem dX9_board_116 : decode cX9_board 116 = .ok (.putfield 32, 3) := by decide +kernel
theorem dX9_board_119 : decode cX9_board 119 = .ok (.aload_n 0, 1) := by decide +kernel
theorem dX9_board_120 : decode cX9_board 120 = .ok (.iload_n 2, 1) := by decide +kernel
theorem dX9_board_121 : decode cX9_board 121 = .ok (.putfield 138, 3) := by decide +kernel
theorem dX9_board_124 : decode cX9_board 124 = .ok (.aload_n 0, 1) := by decide +kernel
theorem dX9_board_125 : decode cX9_board 125 = .ok (.iload_n 1, 1) := by decide +kernel
theorem dX9_board_126 : decode cX9_board 126 = .ok (.iconst 2, 1) := by decide +kernel
theorem dX9_board_127 : decode cX9_board 127 = .ok (.if_icmp .ne 9, 3) := by decide +kernel
theorem dX9_board_130 : decode cX9_board 130 = .ok (.lload 5, 2) := by decide +kernel
theorem dX9_board_132 : decode cX9_board 132 = .ok (.l2i, 1) := by decide +kernel
theorem dX9_board_133 : decode cX9_board 133 = .ok (.goto 4, 3) := by decide +kernel
theorem dX9_board_136 : decode cX9_board 136 = .ok (.iconst 0, 1) := by decide +kernel
theorem dX9_board_137 : decode cX9_board 137 = .ok (.putfield 141, 3) := by decide +kernel
theorem dX9_board_140 : decode cX9_board 140 = .ok (.aload_n 0, 1) := by decide +kernel
theorem dX9_board_141 : decode cX9_board 141 = .ok (.iconst 0, 1) := by decide +kernel
theorem dX9_board_142 : decode cX9_board 142 = .ok (.putfield 144, 3) := by decide +kernel
theorem dX9_board_145 : decode cX9_board 145 = .ok (.aload_n 0, 1) := by decide +kernel
theorem dX9_board_146 : decode cX9_board 146 = .ok (.getfield 36, 3) := by decide +kernel
theorem dX9_board_149 : decode cX9_board 149 = .ok (.iconst 0, 1) := by decide +kernel
theorem dX9_board_150 : decode cX9_board 150 = .ok (.lload_n 3, 1) := by decide +kernel
theorem dX9_board_151 : decode cX9_board 151 = .ok (.lastore, 1) := by decide +kernel
theorem dX9_board_152 : decode cX9_board 152 = .ok (.aload_n 0, 1) := by decide +kernel
theorem dX9_board_153 : decode cX9_board 153 = .ok (.getfield 36, 3) := by decide +kernel
theorem dX9_board_156 : decode cX9_board 156 = .ok (.iconst 1, 1) := by decide +kernel
theorem dX9_board_157 : decode cX9_board 157 = .ok (.iload_n 1, 1) := by decide +kernel
theorem dX9_board_158 : decode cX9_board 158 = .ok (.iconst 2, 1) := by decide +kernel
theorem dX9_board_159 : decode cX9_board 159 = .ok (.if_icmp .ne 7, 3) := by decide +kernel
theorem dX9_board_162 : decode cX9_board 162 = .ok (.lconst 0, 1) := by decide +kernel
theorem dX9_board_163 : decode cX9_board 163 = .ok (.goto 5, 3) := by decide +kernel
theorem dX9_board_166 : decode cX9_board 166 = .ok (.lload 5, 2) := by decide +kernel
theorem dX9_board_168 : decode cX9_board 168 = .ok (.lastore, 1) := by decide +kernel
theorem dX9_board_169 : decode cX9_board 169 = .ok (.aload_n 0, 1) := by decide +kernel
theorem dX9_board_170 : decode cX9_board 170 = .ok (.getfield 36, 3) := by decide +kernel
theorem dX9_board_173 : decode cX9_board 173 = .ok (.iconst 2, 1) := by decide +kernel
theorem dX9_board_174 : decode cX9_board 174 = .ok (.iload_n 1, 1) := by decide +kernel
theorem dX9_board_175 : decode cX9_board 175 = .ok (.iconst 3, 1) := by decide +kernel
theorem dX9_board_176 : decode cX9_board 176 = .ok (.if_icmp .ne 8, 3) := by decide +kernel
theorem dX9_board_179 : decode cX9_board 179 = .ok (.lload 7, 2) := by decide +kernel
theorem dX9_board_181 : decode cX9_board 181 = .ok (.goto 4, 3) := by decide +kernel
theorem dX9_board_184 : decode cX9_board 184 = .ok (.lconst 0, 1) := by decide +kernel
theorem dX9_board_185 : decode cX9_board 185 = .ok (.lastore, 1) := by decide +kernel
theorem dX9_board_186 : decode cX9_board 186 = .ok (.aload_n 0, 1) := by decide +kernel
theorem dX9_board_187 : decode cX9_board 187 = .ok (.getfield 39, 3) := by decide +kernel
theorem dX9_board_190 : decode cX9_board 190 = .ok (.iconst 0, 1) := by decide +kernel
theorem dX9_board_191 : decode cX9_board 191 = .ok (.iload_n 1, 1) := by decide +kernel
theorem dX9_board_192 : decode cX9_board 192 = .ok (.iconst 2, 1) := by decide +kernel
theorem dX9_board_193 : decode cX9_board 193 = .ok (.if_icmp .ne 15, 3) := by decide +kernel
theorem dX9_board_196 : decode cX9_board 196 = .ok (.lload_n 3, 1) := by decide +kernel
theorem dX9_board_197 : decode cX9_board 197 = .ok (.lconst 0, 1) := by decide +kernel
theorem dX9_board_198 : decode cX9_board 198 = .ok (.lcmp, 1) := by decide +kernel
theorem dX9_board_199 : decode cX9_board 199 = .ok (.ifCond .le 9, 3) := by decide +kernel
theorem dX9_board_202 : decode cX9_board 202 = .ok (.lload_n 3, 1) := by decide +kernel
theorem dX9_board_203 : decode cX9_board 203 = .ok (.lconst 1, 1) := by decide +kernel
theorem dX9_board_204 : decode cX9_board 204 = .ok (.lsub, 1) := by decide +kernel
theorem dX9_board_205 : decode cX9_board 205 = .ok (.goto 4, 3) := by decide +kernel
theorem dX9_board_208 : decode cX9_board 208 = .ok (.lconst 0, 1) := by decide +kernel
theorem dX9_board_209 : decode cX9_board 209 = .ok (.lastore, 1) := by decide +kernel
theorem dX9_board_210 : decode cX9_board 210 = .ok (.aload_n 0, 1) := by decide +kernel
theorem dX9_board_211 : decode cX9_board 211 = .ok (.getfield 42, 3) := by decide +kernel
theorem dX9_board_214 : decode cX9_board 214 = .ok (.iconst 0, 1) := by decide +kernel
theorem dX9_board_215 : decode cX9_board 215 = .ok (.iconst 0, 1) := by decide +kernel
theorem dX9_board_216 : decode cX9_board 216 = .ok (.iastore, 1) := by decide +kernel
theorem dX9_board_217 : decode cX9_board 217 = .ok (.iconst 1, 1) := by decide +kernel
theorem dX9_board_218 : decode cX9_board 218 = .ok (.ireturn, 1) := by decide +kernel
theorem dX9_heap_0 : decode cX9_heap 0 = .ok (.aload_n 0, 1) := by decide +kernel
theorem dX9_heap_1 : decode cX9_heap 1 = .ok (.getfield 36, 3) := by decide +kernel
theorem dX9_heap_4 : decode cX9_heap 4 = .ok (.iconst 3, 1) := by decide +kernel
theorem dX9_heap_5 : decode cX9_heap 5 = .ok (.aload_n 0, 1) := by decide +kernel
theorem dX9_heap_6 : decode cX9_heap 6 = .ok (.getfield 144, 3) := by decide +kernel
theorem dX9_heap_9 : decode cX9_heap 9 = .ok (.imul, 1) := by decide +kernel
theorem dX9_heap_10 : decode cX9_heap 10 = .ok (.iload_n 1, 1) := by decide +kernel
theorem dX9_heap_11 : decode cX9_heap 11 = .ok (.iadd, 1) := by decide +kernel
theorem dX9_heap_12 : decode cX9_heap 12 = .ok (.laload, 1) := by decide +kernel
theorem dX9_heap_13 : decode cX9_heap 13 = .ok (.lreturn, 1) := by decide +kernel
set_option maxRecDepth 20000 in
theorem ggX9_canMove_X9_heap : GoodIn wsX9_canMove wsX9_heap := goodIn_r _ [8, 9, 3, 10, 11, 12, 13, 14, 15, 16, 17, 18, 19, 20, 21, 22, 23, 24, 25, 26, 27] (by decide +kernel) (by decide +kernel)
set_option maxRecDepth 20000 in
theorem gX9_canMove_X9_heap : GoodIn wsX9_canMove (wsV RX9 147 RX9 yX9_heap wsX9_heap) := goodIn_app (goodIn_of _ (by decide +kernel)) ggX9_canMove_X9_heap
theorem dX9_canMove_0 : decode cX9_canMove 0 = .ok (.aload_n 0, 1) := by decide +kernel
theorem dX9_canMove_1 : decode cX9_canMove 1 = .ok (.getfield 32, 3) := by decide +kernel
theorem dX9_canMove_4 : decode cX9_canMove 4 = .ok (.ifCond .ne 29, 3) := by decide +kernel
theorem dX9_canMove_7 : decode cX9_canMove 7 = .ok (.aload_n 0, 1) := by decide +kernel
theorem dX9_canMove_8 : decode cX9_canMove 8 = .ok (.iconst 0, 1) := by decide +kernel
theorem dX9_canMove_9 : decode cX9_canMove 9 = .ok (.invokevirtual 147, 3) := by decide +kernel
theorem dX9_canMove_12 : decode cX9_canMove 12 = .ok (.lconst 0, 1) := by decide +kernel
theorem dX9_canMove_13 : decode cX9_canMove 13 = .ok (.lcmp, 1) := by decide +kernel
theorem dX9_canMove_14 : decode cX9_canMove 14 = .ok (.ifCond .le 17, 3) := by decide +kernel
theorem dX9_canMove_17 : decode cX9_canMove 17 = .ok (.aload_n 0, 1) := by decide +kernel
theorem dX9_canMove_18 : decode cX9_canMove 18 = .ok (.iconst 1, 1) := by decide +kernel
theorem dX9_canMove_19 : decode cX9_canMove 19 = .ok (.invokevirtual 147, 3) := by decide +kernel
theorem dX9_canMove_22 : decode cX9_canMove 22 = .ok (.lconst 0, 1) := by decide +kernel
theorem dX9_canMove_23 : decode cX9_canMove 23 = .ok (.lcmp, 1) := by decide +kernel
theorem dX9_canMove_24 : decode cX9_canMove 24 = .ok (.ifCond .le 7, 3) := by decide +kernel
theorem dX9_canMove_27 : decode cX9_canMove 27 = .ok (.iconst 1, 1) := by decide +kernel
theorem dX9_canMove_28 : decode cX9_canMove 28 = .ok (.goto 4, 3) := by decide +kernel
theorem dX9_canMove_31 : decode cX9_canMove 31 = .ok (.iconst 0, 1) := by decide +kernel
theorem dX9_canMove_32 : decode cX9_canMove 32 = .ok (.ireturn, 1) := by decide +kernel
theorem dX9_canMove_33 : decode cX9_canMove 33 = .ok (.aload_n 0, 1) := by decide +kernel
theorem dX9_canMove_34 : decode cX9_canMove 34 = .ok (.getfield 32, 3) := by decide +kernel
theorem dX9_canMove_37 : decode cX9_canMove 37 = .ok (.iconst 2, 1) := by decide +kernel
theorem dX9_canMove_38 : decode cX9_canMove 38 = .ok (.if_icmp .ne 35, 3) := by decide +kernel
theorem dX9_canMove_41 : decode cX9_canMove 41 = .ok (.aload_n 0, 1) := by decide +kernel
theorem dX9_canMove_42 : decode cX9_canMove 42 = .ok (.iconst 0, 1) := by decide +kernel
theorem dX9_canMove_43 : decode cX9_canMove 43 = .ok (.invokevirtual 147, 3) := by decide +kernel
theorem dX9_canMove_46 : decode cX9_canMove 46 = .ok (.lconst 0, 1) := by decide +kernel
theorem dX9_canMove_47 : decode cX9_canMove 47 = .ok (.lcmp, 1) := by decide +kernel
theorem dX9_canMove_48 : decode cX9_canMove 48 = .ok (.ifCond .le 21, 3) := by decide +kernel
theorem dX9_canMove_51 : decode cX9_canMove 51 = .ok (.aload_n 0, 1) := by decide +kernel
theorem dX9_canMove_52 : decode cX9_canMove 52 = .ok (.getfield 39, 3) := by decide +kernel
theorem dX9_canMove_55 : decode cX9_canMove 55 = .ok (.aload_n 0, 1) := by decide +kernel
theorem dX9_canMove_56 : decode cX9_canMove 56 = .ok (.getfield 144, 3) := by decide +kernel
theorem dX9_canMove_59 : decode cX9_canMove 59 = .ok (.laload, 1) := by decide +kernel
theorem dX9_canMove_60 : decode cX9_canMove 60 = .ok (.lconst 0, 1) := by decide +kernel
theorem dX9_canMove_61 : decode cX9_canMove 61 = .ok (.lcmp, 1) := by decide +kernel
theorem dX9_canMove_62 : decode cX9_canMove 62 = .ok (.ifCond .le 7, 3) := by decide +kernel
theorem dX9_canMove_65 : decode cX9_canMove 65 = .ok (.iconst 1, 1) := by decide +kernel
theorem dX9_canMove_66 : decode cX9_canMove 66 = .ok (.goto 34, 3) := by decide +kernel
theorem dX9_canMove_69 : decode cX9_canMove 69 = .ok (.iconst 0, 1) := by decide +kernel
theorem dX9_canMove_70 : decode cX9_canMove 70 = .ok (.goto 30, 3) := by decide +kernel
theorem dX9_canMove_73 : decode cX9_canMove 73 = .ok (.aload_n 0, 1) := by decide +kernel
theorem dX9_canMove_74 : decode cX9_canMove 74 = .ok (.iconst 0, 1) := by decide +kernel
theorem dX9_canMove_75 : decode cX9_canMove 75 = .ok (.invokevirtual 147, 3) := by decide +kernel
theorem dX9_canMove_78 : decode cX9_canMove 78 = .ok (.aload_n 0, 1) := by decide +kernel
theorem dX9_canMove_79 : decode cX9_canMove 79 = .ok (.iconst 1, 1) := by decide +kernel
theorem dX9_canMove_80 : decode cX9_canMove 80 = .ok (.invokevirtual 147, 3) := by decide +kernel
theorem dX9_canMove_83 : decode cX9_canMove 83 = .ok (.ladd, 1) := by decide +kernel
theorem dX9_canMove_84 : decode cX9_canMove 84 = .ok (.aload_n 0, 1) := by decide +kernel
theorem dX9_canMove_85 : decode cX9_canMove 85 = .ok (.iconst 2, 1) := by decide +kernel
theorem dX9_canMove_86 : decode cX9_canMove 86 = .ok (.invokevirtual 147, 3) := by decide +kernel
theorem dX9_canMove_89 : decode cX9_canMove 89 = .ok (.ladd, 1) := by decide +kernel
theorem dX9_canMove_90 : decode cX9_canMove 90 = .ok (.lconst 0, 1) := by decide +kernel
theorem dX9_canMove_91 : decode cX9_canMove 91 = .ok (.lcmp, 1) := by decide +kernel
theorem dX9_canMove_92 : decode cX9_canMove 92 = .ok (.ifCond .le 7, 3) := by decide +kernel
theorem dX9_canMove_95 : decode cX9_canMove 95 = .ok (.iconst 1, 1) := by decide +kernel
theorem dX9_canMove_96 : decode cX9_canMove 96 = .ok (.goto 4, 3) := by decide +kernel
theorem dX9_canMove_99 : decode cX9_canMove 99 = .ok (.iconst 0, 1) := by decide +kernel
theorem dX9_canMove_100 : decode cX9_canMove 100 = .ok (.ireturn, 1) := by decide +kernel
set_option maxRecDepth 20000 in
theorem ggX9_isWon_X9_heap : GoodIn wsX9_isWon wsX9_heap := goodIn_r _ [10, 11, 5, 65, 66, 67, 68, 69, 70, 71, 72, 73, 74, 75, 76, 77, 78, 79, 80, 81, 82] (by decide +kernel) (by decide +kernel)
set_option maxRecDepth 20000 in
theorem gX9_isWon_X9_heap : GoodIn wsX9_isWon (wsV RX9 147 RX9 yX9_heap wsX9_heap) := goodIn_app (goodIn_of _ (by decide +kernel)) ggX9_isWon_X9_heap
set_option maxRecDepth 20000 in
theorem ggX9_isWon_X9_wonAt : GoodIn wsX9_isWon wsX9_wonAt := goodIn_r _ [15, 16, 17, 18, 19, 20, 9, 21, 22, 23, 24, 25, 65, 66, 67, 68, 69, 70, 71, 72, 73, 74, 75, 76, 77, 78, 79, 80, 81, 82] (by decide +kernel) (by decide +kernel)
set_option maxRecDepth 20000 in
theorem gX9_isWon_X9_wonAt : GoodIn wsX9_isWon (wsV RX9 127 RX9 yX9_wonAt wsX9_wonAt) := goodIn_app (goodIn_of _ (by decide +kernel)) ggX9_isWon_X9_wonAt
set_option maxRecDepth 20000 in
theorem ggX9_isWon_X9_isShares : GoodIn wsX9_isWon wsX9_isShares := goodIn_r _ [28, 29] (by decide +kernel) (by decide +kernel)
set_option maxRecDepth 20000 in
theorem gX9_isWon_X9_isShares : GoodIn wsX9_isWon (va_wsS RX9 58 yX9_isShares wsX9_isShares) := goodIn_app (goodIn_of _ (by decide +kernel)) ggX9_isWon_X9_isShares
set_option maxRecDepth 20000 in
theorem ggX9_isWon_X9_isBoth : GoodIn wsX9_isWon wsX9_isBoth := goodIn_r _ [33, 34, 35, 36, 9, 37, 38, 65, 66, 67, 68, 69, 70, 71, 72, 73, 74, 75, 76, 77, 78, 79, 80, 81, 82] (by decide +kernel) (by decide +kernel)
set_option maxRecDepth 20000 in
theorem gX9_isWon_X9_isBoth : GoodIn wsX9_isWon (wsV RX9 68 RX9 yX9_isBoth wsX9_isBoth) := goodIn_app (goodIn_of _ (by decide +kernel)) ggX9_isWon_X9_isBoth
set_option maxRecDepth 20000 in
theorem ggX9_isWon_X9_isTimes : GoodIn wsX9_isWon wsX9_isTimes := goodIn_r _ [42, 43, 44, 45, 9, 46, 47, 48, 49, 50, 51, 52, 53, 54, 65, 66, 67, 68, 69, 70, 71, 72, 73, 74, 75, 76, 77, 78, 79, 80, 81, 82] (by decide +kernel) (by decide +kernel)
set_option maxRecDepth 20000 in
theorem gX9_isWon_X9_isTimes : GoodIn wsX9_isWon (wsV RX9 110 RX9 yX9_isTimes wsX9_isTimes) := goodIn_app (goodIn_of _ (by decide +kernel)) ggX9_isWon_X9_isTimes
set_option maxRecDepth 20000 in
theorem ggX9_isWon_X9_threeAt : GoodIn wsX9_isWon wsX9_threeAt := goodIn_r _ [58, 59, 60, 61, 62, 63, 9, 64, 65, 66, 67, 68, 69, 70, 71, 72, 73, 74, 75, 76, 77, 78, 79, 80, 81, 82] (by decide +kernel) (by decide +kernel)
set_option maxRecDepth 20000 in
theorem gX9_isWon_X9_threeAt : GoodIn wsX9_isWon (wsV RX9 132 RX9 yX9_threeAt wsX9_threeAt) := goodIn_app (goodIn_of _ (by decide +kernel)) ggX9_isWon_X9_threeAt
theorem dX9_isWon_0 : decode cX9_isWon 0 = .ok (.aload_n 0, 1) := by decide +kernel
theorem dX9_isWon_1 : decode cX9_isWon 1 = .ok (.getfield 32, 3) := by decide +kernel
theorem dX9_isWon_4 : decode cX9_isWon 4 = .ok (.tableswitch 136 0 2 #[28, 70, 113], 28) := by decide +kernel
theorem dX9_isWon_32 : decode cX9_isWon 32 = .ok (.aload_n 0, 1) := by decide +kernel
theorem dX9_isWon_33 : decode cX9_isWon 33 = .ok (.getfield 138, 3) := by decide +kernel
theorem dX9_isWon_36 : decode cX9_isWon 36 = .ok (.ifCond .eq 24, 3) := by decide +kernel
theorem dX9_isWon_39 : decode cX9_isWon 39 = .ok (.aload_n 0, 1) := by decide +kernel
theorem dX9_isWon_40 : decode cX9_isWon 40 = .ok (.iconst 0, 1) := by decide +kernel
theorem dX9_isWon_41 : decode cX9_isWon 41 = .ok (.iconst 1, 1) := by decide +kernel
theorem dX9_isWon_42 : decode cX9_isWon 42 = .ok (.aload_n 0, 1) := by decide +kernel
theorem dX9_isWon_43 : decode cX9_isWon 43 = .ok (.iconst 0, 1) := by decide +kernel
theorem dX9_isWon_44 : decode cX9_isWon 44 = .ok (.invokevirtual 147, 3) := by decide +kernel
theorem dX9_isWon_47 : decode cX9_isWon 47 = .ok (.l2i, 1) := by decide +kernel
theorem dX9_isWon_48 : decode cX9_isWon 48 = .ok (.aload_n 0, 1) := by decide +kernel
theorem dX9_isWon_49 : decode cX9_isWon 49 = .ok (.iconst 1, 1) := by decide +kernel
theorem dX9_isWon_50 : decode cX9_isWon 50 = .ok (.invokevirtual 147, 3) := by decide +kernel
theorem dX9_isWon_53 : decode cX9_isWon 53 = .ok (.l2i, 1) := by decide +kernel
theorem dX9_isWon_54 : decode cX9_isWon 54 = .ok (.invokevirtual 127, 3) := by decide +kernel
theorem dX9_isWon_57 : decode cX9_isWon 57 = .ok (.goto 16, 3) := by decide +kernel
theorem dX9_isWon_60 : decode cX9_isWon 60 = .ok (.aload_n 0, 1) := by decide +kernel
theorem dX9_isWon_61 : decode cX9_isWon 61 = .ok (.iconst 0, 1) := by decide +kernel
theorem dX9_isWon_62 : decode cX9_isWon 62 = .ok (.invokevirtual 147, 3) := by decide +kernel
theorem dX9_isWon_65 : decode cX9_isWon 65 = .ok (.aload_n 0, 1) := by decide +kernel
theorem dX9_isWon_66 : decode cX9_isWon 66 = .ok (.iconst 1, 1) := by decide +kernel
theorem dX9_isWon_67 : decode cX9_isWon 67 = .ok (.invokevirtual 147, 3) := by decide +kernel
theorem dX9_isWon_70 : decode cX9_isWon 70 = .ok (.invokestatic 58, 3) := by decide +kernel
theorem dX9_isWon_73 : decode cX9_isWon 73 = .ok (.ireturn, 1) := by decide +kernel
theorem dX9_isWon_74 : decode cX9_isWon 74 = .ok (.aload_n 0, 1) := by decide +kernel
theorem dX9_isWon_75 : decode cX9_isWon 75 = .ok (.getfield 138, 3) := by decide +kernel
theorem dX9_isWon_78 : decode cX9_isWon 78 = .ok (.ifCond .eq 24, 3) := by decide +kernel
theorem dX9_isWon_81 : decode cX9_isWon 81 = .ok (.aload_n 0, 1) := by decide +kernel
theorem dX9_isWon_82 : decode cX9_isWon 82 = .ok (.iconst 1, 1) := by decide +kernel
theorem dX9_isWon_83 : decode cX9_isWon 83 = .ok (.iconst 1, 1) := by decide +kernel
theorem dX9_isWon_84 : decode cX9_isWon 84 = .ok (.aload_n 0, 1) := by decide +kernel
theorem dX9_isWon_85 : decode cX9_isWon 85 = .ok (.iconst 0, 1) := by decide +kernel
theorem dX9_isWon_86 : decode cX9_isWon 86 = .ok (.invokevirtual 147, 3) := by decide +kernel
theorem dX9_isWon_89 : decode cX9_isWon 89 = .ok (.l2i, 1) := by decide +kernel
theorem dX9_isWon_90 : decode cX9_isWon 90 = .ok (.aload_n 0, 1) := by decide +kernel
theorem dX9_isWon_91 : decode cX9_isWon 91 = .ok (.iconst 1, 1) := by decide +kernel
theorem dX9_isWon_92 : decode cX9_isWon 92 = .ok (.invokevirtual 147, 3) := by decide +kernel
theorem dX9_isWon_95 : decode cX9_isWon 95 = .ok (.l2i, 1) := by decide +kernel
theorem dX9_isWon_96 : decode cX9_isWon 96 = .ok (.invokevirtual 127, 3) := by decide +kernel
theorem dX9_isWon_99 : decode cX9_isWon 99 = .ok (.goto 17, 3) := by decide +kernel
theorem dX9_isWon_102 : decode cX9_isWon 102 = .ok (.aload_n 0, 1) := by decide +kernel
theorem dX9_isWon_103 : decode cX9_isWon 103 = .ok (.aload_n 0, 1) := by decide +kernel
theorem dX9_isWon_104 : decode cX9_isWon 104 = .ok (.iconst 0, 1) := by decide +kernel
theorem dX9_isWon_105 : decode cX9_isWon 105 = .ok (.invokevirtual 147, 3) := by decide +kernel
theorem dX9_isWon_108 : decode cX9_isWon 108 = .ok (.aload_n 0, 1) := by decide +kernel
theorem dX9_isWon_109 : decode cX9_isWon 109 = .ok (.iconst 1, 1) := by decide +kernel
theorem dX9_isWon_110 : decode cX9_isWon 110 = .ok (.invokevirtual 147, 3) := by decide +kernel
theorem dX9_isWon_113 : decode cX9_isWon 113 = .ok (.invokevirtual 68, 3) := by decide +kernel
theorem dX9_isWon_116 : decode cX9_isWon 116 = .ok (.ireturn, 1) := by decide +kernel
theorem dX9_isWon_117 : decode cX9_isWon 117 = .ok (.aload_n 0, 1) := by decide +kernel
theorem dX9_isWon_118 : decode cX9_isWon 118 = .ok (.aload_n 0, 1) := by decide +kernel
theorem dX9_isWon_119 : decode cX9_isWon 119 = .ok (.getfield 141, 3) := by decide +kernel
theorem dX9_isWon_122 : decode cX9_isWon 122 = .ok (.aload_n 0, 1) := by decide +kernel
theorem dX9_isWon_123 : decode cX9_isWon 123 = .ok (.iconst 0, 1) := by decide +kernel
theorem dX9_isWon_124 : decode cX9_isWon 124 = .ok (.invokevirtual 147, 3) := by decide +kernel
theorem dX9_isWon_127 : decode cX9_isWon 127 = .ok (.aload_n 0, 1) := by decide +kernel
theorem dX9_isWon_128 : decode cX9_isWon 128 = .ok (.getfield 39, 3) := by decide +kernel
theorem dX9_isWon_131 : decode cX9_isWon 131 = .ok (.aload_n 0, 1) := by decide +kernel
theorem dX9_isWon_132 : decode cX9_isWon 132 = .ok (.getfield 144, 3) := by decide +kernel
theorem dX9_isWon_135 : decode cX9_isWon 135 = .ok (.laload, 1) := by decide +kernel
theorem dX9_isWon_136 : decode cX9_isWon 136 = .ok (.invokevirtual 110, 3) := by decide +kernel
theorem dX9_isWon_139 : decode cX9_isWon 139 = .ok (.ireturn, 1) := by decide +kernel
theorem dX9_isWon_140 : decode cX9_isWon 140 = .ok (.aload_n 0, 1) := by decide +kernel
theorem dX9_isWon_141 : decode cX9_isWon 141 = .ok (.aload_n 0, 1) := by decide +kernel
theorem dX9_isWon_142 : decode cX9_isWon 142 = .ok (.getfield 138, 3) := by decide +kernel
theorem dX9_isWon_145 : decode cX9_isWon 145 = .ok (.aload_n 0, 1) := by decide +kernel
theorem dX9_isWon_146 : decode cX9_isWon 146 = .ok (.iconst 0, 1) := by decide +kernel
theorem dX9_isWon_147 : decode cX9_isWon 147 = .ok (.invokevirtual 147, 3) := by decide +kernel
theorem dX9_isWon_150 : decode cX9_isWon 150 = .ok (.l2i, 1) := by decide +kernel
theorem dX9_isWon_151 : decode cX9_isWon 151 = .ok (.aload_n 0, 1) := by decide +kernel
theorem dX9_isWon_152 : decode cX9_isWon 152 = .ok (.iconst 1, 1) := by decide +kernel
theorem dX9_isWon_153 : decode cX9_isWon 153 = .ok (.invokevirtual 147, 3) := by decide +kernel
theorem dX9_isWon_156 : decode cX9_isWon 156 = .ok (.l2i, 1) := by decide +kernel
theorem dX9_isWon_157 : decode cX9_isWon 157 = .ok (.aload_n 0, 1) := by decide +kernel
theorem dX9_isWon_158 : decode cX9_isWon 158 = .ok (.iconst 2, 1) := by decide +kernel
theorem dX9_isWon_159 : decode cX9_isWon 159 = .ok (.invokevirtual 147, 3) := by decide +kernel
theorem dX9_isWon_162 : decode cX9_isWon 162 = .ok (.l2i, 1) := by decide +kernel
theorem dX9_isWon_163 : decode cX9_isWon 163 = .ok (.invokevirtual 132, 3) := by decide +kernel
theorem dX9_isWon_166 : decode cX9_isWon 166 = .ok (.ireturn, 1) := by decide +kernel
set_option maxRecDepth 20000 in
theorem ggX9_mayMove_X9_canMove : GoodIn wsX9_mayMove wsX9_canMove := goodIn_r _ [8, 2, 3, 1, 9, 10, 11, 7, 12, 13, 14, 15, 16, 17, 18, 19, 20, 21, 22, 23, 24, 25, 26, 27, 28, 29, 30, 31] (by decide +kernel) (by decide +kernel)
set_option maxRecDepth 20000 in
theorem gX9_mayMove_X9_canMove : GoodIn wsX9_mayMove (wsV RX9 151 RX9 yX9_canMove wsX9_canMove) := goodIn_app (goodIn_of _ (by decide +kernel)) ggX9_mayMove_X9_canMove
set_option maxRecDepth 20000 in
theorem ggX9_mayMove_X9_heap : GoodIn wsX9_mayMove wsX9_heap := goodIn_r _ [12, 13, 1, 14, 15, 16, 17, 18, 19, 20, 21, 22, 23, 24, 25, 26, 27, 28, 29, 30, 31] (by decide +kernel) (by decide +kernel)
set_option maxRecDepth 20000 in
theorem gX9_mayMove_X9_heap : GoodIn wsX9_mayMove (wsV RX9 147 RX9 yX9_heap wsX9_heap) := goodIn_app (goodIn_of _ (by decide +kernel)) ggX9_mayMove_X9_heap
theorem dX9_mayMove_0 : decode cX9_mayMove 0 = .ok (.aload_n 0, 1) := by decide +kernel
theorem dX9_mayMove_1 : decode cX9_mayMove 1 = .ok (.invokevirtual 151, 3) := by decide +kernel
theorem dX9_mayMove_4 : decode cX9_mayMove 4 = .ok (.ifCond .eq 19, 3) := by decide +kernel
theorem dX9_mayMove_7 : decode cX9_mayMove 7 = .ok (.aload_n 0, 1) := by decide +kernel
theorem dX9_mayMove_8 : decode cX9_mayMove 8 = .ok (.getfield 144, 3) := by decide +kernel
theorem dX9_mayMove_11 : decode cX9_mayMove 11 = .ok (.sipush 200, 3) := by decide +kernel
theorem dX9_mayMove_14 : decode cX9_mayMove 14 = .ok (.if_icmp .eq 9, 3) := by decide +kernel
theorem dX9_mayMove_17 : decode cX9_mayMove 17 = .ok (.lload_n 2, 1) := by decide +kernel
theorem dX9_mayMove_18 : decode cX9_mayMove 18 = .ok (.lconst 1, 1) := by decide +kernel
theorem dX9_mayMove_19 : decode cX9_mayMove 19 = .ok (.lcmp, 1) := by decide +kernel
theorem dX9_mayMove_20 : decode cX9_mayMove 20 = .ok (.ifCond .ge 5, 3) := by decide +kernel
theorem dX9_mayMove_23 : decode cX9_mayMove 23 = .ok (.iconst 0, 1) := by decide +kernel
theorem dX9_mayMove_24 : decode cX9_mayMove 24 = .ok (.ireturn, 1) := by decide +kernel
theorem dX9_mayMove_25 : decode cX9_mayMove 25 = .ok (.aload_n 0, 1) := by decide +kernel
theorem dX9_mayMove_26 : decode cX9_mayMove 26 = .ok (.getfield 32, 3) := by decide +kernel
theorem dX9_mayMove_29 : decode cX9_mayMove 29 = .ok (.ifCond .ne 49, 3) := by decide +kernel
theorem dX9_mayMove_32 : decode cX9_mayMove 32 = .ok (.aload_n 0, 1) := by decide +kernel
theorem dX9_mayMove_33 : decode cX9_mayMove 33 = .ok (.iload_n 1, 1) := by decide +kernel
theorem dX9_mayMove_34 : decode cX9_mayMove 34 = .ok (.invokevirtual 147, 3) := by decide +kernel
theorem dX9_mayMove_37 : decode cX9_mayMove 37 = .ok (.aload_n 0, 1) := by decide +kernel
theorem dX9_mayMove_38 : decode cX9_mayMove 38 = .ok (.iconst 1, 1) := by decide +kernel
theorem dX9_mayMove_39 : decode cX9_mayMove 39 = .ok (.iload_n 1, 1) := by decide +kernel
theorem dX9_mayMove_40 : decode cX9_mayMove 40 = .ok (.isub, 1) := by decide +kernel
theorem dX9_mayMove_41 : decode cX9_mayMove 41 = .ok (.invokevirtual 147, 3) := by decide +kernel
theorem dX9_mayMove_44 : decode cX9_mayMove 44 = .ok (.lcmp, 1) := by decide +kernel
theorem dX9_mayMove_45 : decode cX9_mayMove 45 = .ok (.ifCond .lt 31, 3) := by decide +kernel
theorem dX9_mayMove_48 : decode cX9_mayMove 48 = .ok (.lload_n 2, 1) := by decide +kernel
theorem dX9_mayMove_49 : decode cX9_mayMove 49 = .ok (.aload_n 0, 1) := by decide +kernel
theorem dX9_mayMove_50 : decode cX9_mayMove 50 = .ok (.iload_n 1, 1) := by decide +kernel
theorem dX9_mayMove_51 : decode cX9_mayMove 51 = .ok (.invokevirtual 147, 3) := by decide +kernel
theorem dX9_mayMove_54 : decode cX9_mayMove 54 = .ok (.lcmp, 1) := by decide +kernel
theorem dX9_mayMove_55 : decode cX9_mayMove 55 = .ok (.ifCond .gt 21, 3) := by decide +kernel
theorem dX9_mayMove_58 : decode cX9_mayMove 58 = .ok (.lload_n 2, 1) := by decide +kernel
theorem dX9_mayMove_59 : decode cX9_mayMove 59 = .ok (.aload_n 0, 1) := by decide +kernel
theorem dX9_mayMove_60 : decode cX9_mayMove 60 = .ok (.iconst 1, 1) := by decide +kernel
theorem dX9_mayMove_61 : decode cX9_mayMove 61 = .ok (.iload_n 1, 1) := by decide +kernel
theorem dX9_mayMove_62 : decode cX9_mayMove 62 = .ok (.isub, 1) := by decide +kernel
theorem dX9_mayMove_63 : decode cX9_mayMove 63 = .ok (.invokevirtual 147, 3) := by decide +kernel
theorem dX9_mayMove_66 : decode cX9_mayMove 66 = .ok (.lrem, 1) := by decide +kernel
theorem dX9_mayMove_67 : decode cX9_mayMove 67 = .ok (.lconst 0, 1) := by decide +kernel
theorem dX9_mayMove_68 : decode cX9_mayMove 68 = .ok (.lcmp, 1) := by decide +kernel
theorem dX9_mayMove_69 : decode cX9_mayMove 69 = .ok (.ifCond .ne 7, 3) := by decide +kernel
theorem dX9_mayMove_72 : decode cX9_mayMove 72 = .ok (.iconst 1, 1) := by decide +kernel
theorem dX9_mayMove_73 : decode cX9_mayMove 73 = .ok (.goto 4, 3) := by decide +kernel
theorem dX9_mayMove_76 : decode cX9_mayMove 76 = .ok (.iconst 0, 1) := by decide +kernel
theorem dX9_mayMove_77 : decode cX9_mayMove 77 = .ok (.ireturn, 1) := by decide +kernel
theorem dX9_mayMove_78 : decode cX9_mayMove 78 = .ok (.aload_n 0, 1) := by decide +kernel
theorem dX9_mayMove_79 : decode cX9_mayMove 79 = .ok (.getfield 32, 3) := by decide +kernel
theorem dX9_mayMove_82 : decode cX9_mayMove 82 = .ok (.iconst 2, 1) := by decide +kernel
theorem dX9_mayMove_83 : decode cX9_mayMove 83 = .ok (.if_icmp .ne 33, 3) := by decide +kernel
theorem dX9_mayMove_86 : decode cX9_mayMove 86 = .ok (.lload_n 2, 1) := by decide +kernel
theorem dX9_mayMove_87 : decode cX9_mayMove 87 = .ok (.aload_n 0, 1) := by decide +kernel
theorem dX9_mayMove_88 : decode cX9_mayMove 88 = .ok (.iconst 0, 1) := by decide +kernel
theorem dX9_mayMove_89 : decode cX9_mayMove 89 = .ok (.invokevirtual 147, 3) := by decide +kernel
theorem dX9_mayMove_92 : decode cX9_mayMove 92 = .ok (.lcmp, 1) := by decide +kernel
theorem dX9_mayMove_93 : decode cX9_mayMove 93 = .ok (.ifCond .gt 21, 3) := by decide +kernel
theorem dX9_mayMove_96 : decode cX9_mayMove 96 = .ok (.lload_n 2, 1) := by decide +kernel
theorem dX9_mayMove_97 : decode cX9_mayMove 97 = .ok (.aload_n 0, 1) := by decide +kernel
theorem dX9_mayMove_98 : decode cX9_mayMove 98 = .ok (.getfield 39, 3) := by decide +kernel
theorem dX9_mayMove_101 : decode cX9_mayMove 101 = .ok (.aload_n 0, 1) := by decide +kernel
theorem dX9_mayMove_102 : decode cX9_mayMove 102 = .ok (.getfield 144, 3) := by decide +kernel
theorem dX9_mayMove_105 : decode cX9_mayMove 105 = .ok (.laload, 1) := by decide +kernel
theorem dX9_mayMove_106 : decode cX9_mayMove 106 = .ok (.lcmp, 1) := by decide +kernel
theorem dX9_mayMove_107 : decode cX9_mayMove 107 = .ok (.ifCond .gt 7, 3) := by decide +kernel
theorem dX9_mayMove_110 : decode cX9_mayMove 110 = .ok (.iconst 1, 1) := by decide +kernel
theorem dX9_mayMove_111 : decode cX9_mayMove 111 = .ok (.goto 4, 3) := by decide +kernel
theorem dX9_mayMove_114 : decode cX9_mayMove 114 = .ok (.iconst 0, 1) := by decide +kernel
theorem dX9_mayMove_115 : decode cX9_mayMove 115 = .ok (.ireturn, 1) := by decide +kernel
theorem dX9_mayMove_116 : decode cX9_mayMove 116 = .ok (.aload_n 0, 1) := by decide +kernel
theorem dX9_mayMove_117 : decode cX9_mayMove 117 = .ok (.getfield 32, 3) := by decide +kernel
theorem dX9_mayMove_120 : decode cX9_mayMove 120 = .ok (.iconst 1, 1) := by decide +kernel
theorem dX9_mayMove_121 : decode cX9_mayMove 121 = .ok (.if_icmp .ne 7, 3) := by decide +kernel
theorem dX9_mayMove_124 : decode cX9_mayMove 124 = .ok (.iconst 2, 1) := by decide +kernel
theorem dX9_mayMove_125 : decode cX9_mayMove 125 = .ok (.goto 4, 3) := by decide +kernel
theorem dX9_mayMove_128 : decode cX9_mayMove 128 = .ok (.iconst 3, 1) := by decide +kernel
theorem dX9_mayMove_129 : decode cX9_mayMove 129 = .ok (.istore 4, 2) := by decide +kernel
theorem dX9_mayMove_131 : decode cX9_mayMove 131 = .ok (.iload_n 1, 1) := by decide +kernel
theorem dX9_mayMove_132 : decode cX9_mayMove 132 = .ok (.iload 4, 2) := by decide +kernel
theorem dX9_mayMove_134 : decode cX9_mayMove 134 = .ok (.if_icmp .ge 19, 3) := by decide +kernel
theorem dX9_mayMove_137 : decode cX9_mayMove 137 = .ok (.lload_n 2, 1) := by decide +kernel
theorem dX9_mayMove_138 : decode cX9_mayMove 138 = .ok (.aload_n 0, 1) := by decide +kernel
theorem dX9_mayMove_139 : decode cX9_mayMove 139 = .ok (.iload_n 1, 1) := by decide +kernel
theorem dX9_mayMove_140 : decode cX9_mayMove 140 = .ok (.invokevirtual 147, 3) := by decide +kernel
theorem dX9_mayMove_143 : decode cX9_mayMove 143 = .ok (.lcmp, 1) := by decide +kernel
theorem dX9_mayMove_144 : decode cX9_mayMove 144 = .ok (.ifCond .gt 7, 3) := by decide +kernel
theorem dX9_mayMove_147 : decode cX9_mayMove 147 = .ok (.iconst 1, 1) := by decide +kernel
theorem dX9_mayMove_148 : decode cX9_mayMove 148 = .ok (.goto 4, 3) := by decide +kernel
theorem dX9_mayMove_151 : decode cX9_mayMove 151 = .ok (.iconst 0, 1) := by decide +kernel
theorem dX9_mayMove_152 : decode cX9_mayMove 152 = .ok (.ireturn, 1) := by decide +kernel
theorem dX9_mayMove_153 : decode cX9_mayMove 153 = .ok (.lload_n 2, 1) := by decide +kernel
theorem dX9_mayMove_154 : decode cX9_mayMove 154 = .ok (.aload_n 0, 1) := by decide +kernel
theorem dX9_mayMove_155 : decode cX9_mayMove 155 = .ok (.iconst 0, 1) := by decide +kernel
theorem dX9_mayMove_156 : decode cX9_mayMove 156 = .ok (.invokevirtual 147, 3) := by decide +kernel
theorem dX9_mayMove_159 : decode cX9_mayMove 159 = .ok (.lcmp, 1) := by decide +kernel
theorem dX9_mayMove_160 : decode cX9_mayMove 160 = .ok (.ifCond .gt 35, 3) := by decide +kernel
theorem dX9_mayMove_163 : decode cX9_mayMove 163 = .ok (.lload_n 2, 1) := by decide +kernel
theorem dX9_mayMove_164 : decode cX9_mayMove 164 = .ok (.aload_n 0, 1) := by decide +kernel
theorem dX9_mayMove_165 : decode cX9_mayMove 165 = .ok (.iconst 1, 1) := by decide +kernel
theorem dX9_mayMove_166 : decode cX9_mayMove 166 = .ok (.invokevirtual 147, 3) := by decide +kernel
theorem dX9_mayMove_169 : decode cX9_mayMove 169 = .ok (.lcmp, 1) := by decide +kernel
theorem dX9_mayMove_170 : decode cX9_mayMove 170 = .ok (.ifCond .gt 25, 3) := by decide +kernel
theorem dX9_mayMove_173 : decode cX9_mayMove 173 = .ok (.aload_n 0, 1) := by decide +kernel
theorem dX9_mayMove_174 : decode cX9_mayMove 174 = .ok (.getfield 32, 3) := by decide +kernel
theorem dX9_mayMove_177 : decode cX9_mayMove 177 = .ok (.iconst 1, 1) := by decide +kernel
theorem dX9_mayMove_178 : decode cX9_mayMove 178 = .ok (.if_icmp .eq 13, 3) := by decide +kernel
theorem dX9_mayMove_181 : decode cX9_mayMove 181 = .ok (.lload_n 2, 1) := by decide +kernel
theorem dX9_mayMove_182 : decode cX9_mayMove 182 = .ok (.aload_n 0, 1) := by decide +kernel
theorem dX9_mayMove_183 : decode cX9_mayMove 183 = .ok (.iconst 2, 1) := by decide +kernel
theorem dX9_mayMove_184 : decode cX9_mayMove 184 = .ok (.invokevirtual 147, 3) := by decide +kernel
theorem dX9_mayMove_187 : decode cX9_mayMove 187 = .ok (.lcmp, 1) := by decide +kernel
theorem dX9_mayMove_188 : decode cX9_mayMove 188 = .ok (.ifCond .gt 7, 3) := by decide +kernel
theorem dX9_mayMove_191 : decode cX9_mayMove 191 = .ok (.iconst 1, 1) := by decide +kernel
theorem dX9_mayMove_192 : decode cX9_mayMove 192 = .ok (.goto 4, 3) := by decide +kernel
theorem dX9_mayMove_195 : decode cX9_mayMove 195 = .ok (.iconst 0, 1) := by decide +kernel
theorem dX9_mayMove_196 : decode cX9_mayMove 196 = .ok (.ireturn, 1) := by decide +kernel
set_option maxRecDepth 20000 in
theorem ggX9_move_X9_in : GoodIn wsX9_move wsX9_in := goodIn_r _ [13] (by decide +kernel) (by decide +kernel)
set_option maxRecDepth 20000 in
theorem gX9_move_X9_in : GoodIn wsX9_move (va_wsS RX9 50 yX9_in wsX9_in) := goodIn_app (goodIn_of _ (by decide +kernel)) ggX9_move_X9_in
set_option maxRecDepth 20000 in
theorem ggX9_move_X9_mayMove : GoodIn wsX9_move wsX9_mayMove := goodIn_r _ [17, 5, 1, 8, 18, 19, 20, 12, 21, 22, 23, 24, 25, 4, 82, 83, 84, 85, 86, 87, 88, 89, 90, 91, 92, 93, 94, 95, 96, 97, 98, 99] (by decide +kernel) (by decide +kernel)
set_option maxRecDepth 20000 in
theorem gX9_move_X9_mayMove : GoodIn wsX9_move (wsV RX9 155 RX9 yX9_mayMove wsX9_mayMove) := goodIn_app (goodIn_of _ (by decide +kernel)) ggX9_move_X9_mayMove
set_option maxRecDepth 20000 in
theorem ggX9_move_X9_isWon : GoodIn wsX9_move wsX9_isWon := goodIn_r _ [29, 1, 30, 7, 8, 5, 22, 23, 24, 12, 25, 4, 31, 32, 33, 34, 35, 36, 37, 38, 39, 40, 41, 42, 43, 44, 45, 46, 47, 2, 48, 49, 50, 51, 52, 53, 54, 55, 56, 57, 58, 59, 60, 61, 62, 63, 64, 65, 66, 67, 68, 69, 70, 71, 6, 72, 73, 74, 75, 76, 77, 78, 79, 80, 81, 82, 83, 84, 85, 86, 87, 88, 89, 90, 91, 92, 93, 94, 95, 96, 97, 98, 99] (by decide +kernel) (by decide +kernel)
set_option maxRecDepth 20000 in
theorem gX9_move_X9_isWon : GoodIn wsX9_move (wsV RX9 159 RX9 yX9_isWon wsX9_isWon) := goodIn_app (goodIn_of _ (by decide +kernel)) ggX9_move_X9_isWon
set_option maxRecDepth 20000 in
theorem ggX9_move_X9_canMove : GoodIn wsX9_move wsX9_canMove := goodIn_r _ [21, 1, 8, 5, 22, 23, 24, 12, 25, 4, 82, 83, 84, 85, 86, 87, 88, 89, 90, 91, 92, 93, 94, 95, 96, 97, 98, 99] (by decide +kernel) (by decide +kernel)
set_option maxRecDepth 20000 in
theorem gX9_move_X9_canMove : GoodIn wsX9_move (wsV RX9 151 RX9 yX9_canMove wsX9_canMove) := goodIn_app (goodIn_of _ (by decide +kernel)) ggX9_move_X9_canMove
theorem dX9_move_0 : decode cX9_move 0 = .ok (.iload_n 1, 1) := by decide +kernel
theorem dX9_move_1 : decode cX9_move 1 = .ok (.i2l, 1) := by decide +kernel
theorem dX9_move_2 : decode cX9_move 2 = .ok (.lconst 0, 1) := by decide +kernel
theorem dX9_move_3 : decode cX9_move 3 = .ok (.aload_n 0, 1) := by decide +kernel
theorem dX9_move_4 : decode cX9_move 4 = .ok (.getfield 32, 3) := by decide +kernel
theorem dX9_move_7 : decode cX9_move 7 = .ok (.ifCond .ne 7, 3) := by decide +kernel
theorem dX9_move_10 : decode cX9_move 10 = .ok (.lconst 1, 1) := by decide +kernel
theorem dX9_move_11 : decode cX9_move 11 = .ok (.goto 32, 3) := by decide +kernel
theorem dX9_move_14 : decode cX9_move 14 = .ok (.aload_n 0, 1) := by decide +kernel
theorem dX9_move_15 : decode cX9_move 15 = .ok (.getfield 32, 3) := by decide +kernel
theorem dX9_move_18 : decode cX9_move 18 = .ok (.iconst 1, 1) := by decide +kernel
theorem dX9_move_19 : decode cX9_move 19 = .ok (.if_icmp .ne 9, 3) := by decide +kernel
theorem dX9_move_22 : decode cX9_move 22 = .ok (.ldc2_w 46, 3) := by decide +kernel
theorem dX9_move_25 : decode cX9_move 25 = .ok (.goto 18, 3) := by decide +kernel
theorem dX9_move_28 : decode cX9_move 28 = .ok (.aload_n 0, 1) := by decide +kernel
theorem dX9_move_29 : decode cX9_move 29 = .ok (.getfield 32, 3) := by decide +kernel
theorem dX9_move_32 : decode cX9_move 32 = .ok (.iconst 2, 1) := by decide +kernel
theorem dX9_move_33 : decode cX9_move 33 = .ok (.if_icmp .ne 7, 3) := by decide +kernel
theorem dX9_move_36 : decode cX9_move 36 = .ok (.lconst 0, 1) := by decide +kernel
theorem dX9_move_37 : decode cX9_move 37 = .ok (.goto 6, 3) := by decide +kernel
theorem dX9_move_40 : decode cX9_move 40 = .ok (.ldc2_w 136, 3) := by decide +kernel
theorem dX9_move_43 : decode cX9_move 43 = .ok (.invokestatic 50, 3) := by decide +kernel
theorem dX9_move_46 : decode cX9_move 46 = .ok (.ifCond .ne 6, 3) := by decide +kernel
theorem dX9_move_49 : decode cX9_move 49 = .ok (.bipush (-2), 2) := by decide +kernel
theorem dX9_move_51 : decode cX9_move 51 = .ok (.ireturn, 1) := by decide +kernel
theorem dX9_move_52 : decode cX9_move 52 = .ok (.aload_n 0, 1) := by decide +kernel
theorem dX9_move_53 : decode cX9_move 53 = .ok (.iload_n 1, 1) := by decide +kernel
theorem dX9_move_54 : decode cX9_move 54 = .ok (.lload_n 2, 1) := by decide +kernel
theorem dX9_move_55 : decode cX9_move 55 = .ok (.invokevirtual 155, 3) := by decide +kernel
theorem dX9_move_58 : decode cX9_move 58 = .ok (.ifCond .ne 6, 3) := by decide +kernel
theorem dX9_move_61 : decode cX9_move 61 = .ok (.bipush (-3), 2) := by decide +kernel
theorem dX9_move_63 : decode cX9_move 63 = .ok (.ireturn, 1) := by decide +kernel
theorem dX9_move_64 : decode cX9_move 64 = .ok (.aload_n 0, 1) := by decide +kernel
theorem dX9_move_65 : decode cX9_move 65 = .ok (.invokevirtual 159, 3) := by decide +kernel
theorem dX9_move_68 : decode cX9_move 68 = .ok (.istore 4, 2) := by decide +kernel
theorem dX9_move_70 : decode cX9_move 70 = .ok (.aload_n 0, 1) := by decide +kernel
theorem dX9_move_71 : decode cX9_move 71 = .ok (.getfield 32, 3) := by decide +kernel
theorem dX9_move_74 : decode cX9_move 74 = .ok (.iconst 1, 1) := by decide +kernel
theorem dX9_move_75 : decode cX9_move 75 = .ok (.if_icmp .ne 7, 3) := by decide +kernel
theorem dX9_move_78 : decode cX9_move 78 = .ok (.iconst 2, 1) := by decide +kernel
theorem dX9_move_79 : decode cX9_move 79 = .ok (.goto 4, 3) := by decide +kernel
theorem dX9_move_82 : decode cX9_move 82 = .ok (.iconst 3, 1) := by decide +kernel
theorem dX9_move_83 : decode cX9_move 83 = .ok (.istore 5, 2) := by decide +kernel
theorem dX9_move_85 : decode cX9_move 85 = .ok (.iconst 0, 1) := by decide +kernel
theorem dX9_move_86 : decode cX9_move 86 = .ok (.istore 6, 2) := by decide +kernel
theorem dX9_move_88 : decode cX9_move 88 = .ok (.iload 6, 2) := by decide +kernel
theorem dX9_move_90 : decode cX9_move 90 = .ok (.iconst 3, 1) := by decide +kernel
theorem dX9_move_91 : decode cX9_move 91 = .ok (.if_icmp .ge 84, 3) := by decide +kernel
theorem dX9_move_94 : decode cX9_move 94 = .ok (.iload_n 1, 1) := by decide +kernel
theorem dX9_move_95 : decode cX9_move 95 = .ok (.iload 5, 2) := by decide +kernel
theorem dX9_move_97 : decode cX9_move 97 = .ok (.if_icmp .ge 17, 3) := by decide +kernel
theorem dX9_move_100 : decode cX9_move 100 = .ok (.iload 6, 2) := by decide +kernel
theorem dX9_move_102 : decode cX9_move 102 = .ok (.iload_n 1, 1) := by decide +kernel
theorem dX9_move_103 : decode cX9_move 103 = .ok (.if_icmp .ne 7, 3) := by decide +kernel
theorem dX9_move_106 : decode cX9_move 106 = .ok (.iconst 1, 1) := by decide +kernel
theorem dX9_move_107 : decode cX9_move 107 = .ok (.goto 19, 3) := by decide +kernel
theorem dX9_move_110 : decode cX9_move 110 = .ok (.iconst 0, 1) := by decide +kernel
theorem dX9_move_111 : decode cX9_move 111 = .ok (.goto 15, 3) := by decide +kernel
theorem dX9_move_114 : decode cX9_move 114 = .ok (.iload 6, 2) := by decide +kernel
theorem dX9_move_116 : decode cX9_move 116 = .ok (.iload 5, 2) := by decide +kernel
theorem dX9_move_118 : decode cX9_move 118 = .ok (.if_icmp .ge 7, 3) := by decide +kernel
theorem dX9_move_121 : decode cX9_move 121 = .ok (.iconst 1, 1) := by decide +kernel
theorem dX9_move_122 : decode cX9_move 122 = .ok (.goto 4, 3) := by decide +kernel
theorem dX9_move_125 : decode cX9_move 125 = .ok (.iconst 0, 1) := by decide +kernel
theorem dX9_move_126 : decode cX9_move 126 = .ok (.istore 7, 2) := by decide +kernel
theorem dX9_move_128 : decode cX9_move 128 = .ok (.aload_n 0, 1) := by decide +kernel
theorem dX9_move_129 : decode cX9_move 129 = .ok (.getfield 36, 3) := by decide +kernel
theorem dX9_move_132 : decode cX9_move 132 = .ok (.iconst 3, 1) := by decide +kernel
theorem dX9_move_133 : decode cX9_move 133 = .ok (.aload_n 0, 1) := by decide +kernel
theorem dX9_move_134 : decode cX9_move 134 = .ok (.getfield 144, 3) := by decide +kernel
theorem dX9_move_137 : decode cX9_move 137 = .ok (.imul, 1) := by decide +kernel
theorem dX9_move_138 : decode cX9_move 138 = .ok (.iconst 3, 1) := by decide +kernel
theorem dX9_move_139 : decode cX9_move 139 = .ok (.iadd, 1) := by decide +kernel
theorem dX9_move_140 : decode cX9_move 140 = .ok (.iload 6, 2) := by decide +kernel
theorem dX9_move_142 : decode cX9_move 142 = .ok (.iadd, 1) := by decide +kernel
theorem dX9_move_143 : decode cX9_move 143 = .ok (.aload_n 0, 1) := by decide +kernel
theorem dX9_move_144 : decode cX9_move 144 = .ok (.getfield 36, 3) := by decide +kernel
theorem dX9_move_147 : decode cX9_move 147 = .ok (.iconst 3, 1) := by decide +kernel
theorem dX9_move_148 : decode cX9_move 148 = .ok (.aload_n 0, 1) := by decide +kernel
theorem dX9_move_149 : decode cX9_move 149 = .ok (.getfield 144, 3) := by decide +kernel
theorem dX9_move_152 : decode cX9_move 152 = .ok (.imul, 1) := by decide +kernel
theorem dX9_move_153 : decode cX9_move 153 = .ok (.iload 6, 2) := by decide +kernel
theorem dX9_move_155 : decode cX9_move 155 = .ok (.iadd, 1) := by decide +kernel
theorem dX9_move_156 : decode cX9_move 156 = .ok (.laload, 1) := by decide +kernel
theorem dX9_move_157 : decode cX9_move 157 = .ok (.iload 7, 2) := by decide +kernel
theorem dX9_move_159 : decode cX9_move 159 = .ok (.ifCond .eq 7, 3) := by decide +kernel
theorem dX9_move_162 : decode cX9_move 162 = .ok (.lload_n 2, 1) := by decide +kernel
theorem dX9_move_163 : decode cX9_move 163 = .ok (.goto 4, 3) := by decide +kernel
theorem dX9_move_166 : decode cX9_move 166 = .ok (.lconst 0, 1) := by decide +kernel
theorem dX9_move_167 : decode cX9_move 167 = .ok (.lsub, 1) := by decide +kernel
theorem dX9_move_168 : decode cX9_move 168 = .ok (.lastore, 1) := by decide +kernel
theorem dX9_move_169 : decode cX9_move 169 = .ok (.iinc 6 1, 3) := by decide +kernel
theorem dX9_move_172 : decode cX9_move 172 = .ok (.goto (-84), 3) := by decide +kernel
theorem dX9_move_175 : decode cX9_move 175 = .ok (.aload_n 0, 1) := by decide +kernel
theorem dX9_move_176 : decode cX9_move 176 = .ok (.getfield 32, 3) := by decide +kernel
theorem dX9_move_179 : decode cX9_move 179 = .ok (.iconst 2, 1) := by decide +kernel
theorem dX9_move_180 : decode cX9_move 180 = .ok (.if_icmp .eq 7, 3) := by decide +kernel
theorem dX9_move_183 : decode cX9_move 183 = .ok (.lconst 0, 1) := by decide +kernel
theorem dX9_move_184 : decode cX9_move 184 = .ok (.goto 30, 3) := by decide +kernel
theorem dX9_move_187 : decode cX9_move 187 = .ok (.lload_n 2, 1) := by decide +kernel
theorem dX9_move_188 : decode cX9_move 188 = .ok (.ldc2_w 48, 3) := by decide +kernel
theorem dX9_move_191 : decode cX9_move 191 = .ok (.aload_n 0, 1) := by decide +kernel
theorem dX9_move_192 : decode cX9_move 192 = .ok (.getfield 141, 3) := by decide +kernel
theorem dX9_move_195 : decode cX9_move 195 = .ok (.i2l, 1) := by decide +kernel
theorem dX9_move_196 : decode cX9_move 196 = .ok (.ldiv, 1) := by decide +kernel
theorem dX9_move_197 : decode cX9_move 197 = .ok (.lcmp, 1) := by decide +kernel
theorem dX9_move_198 : decode cX9_move 198 = .ok (.ifCond .le 9, 3) := by decide +kernel
theorem dX9_move_201 : decode cX9_move 201 = .ok (.ldc2_w 48, 3) := by decide +kernel
theorem dX9_move_204 : decode cX9_move 204 = .ok (.goto 10, 3) := by decide +kernel
theorem dX9_move_207 : decode cX9_move 207 = .ok (.aload_n 0, 1) := by decide +kernel
theorem dX9_move_208 : decode cX9_move 208 = .ok (.getfield 141, 3) := by decide +kernel
theorem dX9_move_211 : decode cX9_move 211 = .ok (.i2l, 1) := by decide +kernel
theorem dX9_move_212 : decode cX9_move 212 = .ok (.lload_n 2, 1) := by decide +kernel
theorem dX9_move_213 : decode cX9_move 213 = .ok (.lmul, 1) := by decide +kernel
theorem dX9_move_214 : decode cX9_move 214 = .ok (.lstore 6, 2) := by decide +kernel
theorem dX9_move_216 : decode cX9_move 216 = .ok (.aload_n 0, 1) := by decide +kernel
theorem dX9_move_217 : decode cX9_move 217 = .ok (.getfield 39, 3) := by decide +kernel
theorem dX9_move_220 : decode cX9_move 220 = .ok (.aload_n 0, 1) := by decide +kernel
theorem dX9_move_221 : decode cX9_move 221 = .ok (.getfield 144, 3) := by decide +kernel
theorem dX9_move_224 : decode cX9_move 224 = .ok (.iconst 1, 1) := by decide +kernel
theorem dX9_move_225 : decode cX9_move 225 = .ok (.iadd, 1) := by decide +kernel
theorem dX9_move_226 : decode cX9_move 226 = .ok (.lload 6, 2) := by decide +kernel
theorem dX9_move_228 : decode cX9_move 228 = .ok (.lastore, 1) := by decide +kernel
theorem dX9_move_229 : decode cX9_move 229 = .ok (.aload_n 0, 1) := by decide +kernel
theorem dX9_move_230 : decode cX9_move 230 = .ok (.dup, 1) := by decide +kernel
theorem dX9_move_231 : decode cX9_move 231 = .ok (.getfield 144, 3) := by decide +kernel
theorem dX9_move_234 : decode cX9_move 234 = .ok (.iconst 1, 1) := by decide +kernel
theorem dX9_move_235 : decode cX9_move 235 = .ok (.iadd, 1) := by decide +kernel
theorem dX9_move_236 : decode cX9_move 236 = .ok (.putfield 144, 3) := by decide +kernel
theorem dX9_move_239 : decode cX9_move 239 = .ok (.aload_n 0, 1) := by decide +kernel
theorem dX9_move_240 : decode cX9_move 240 = .ok (.getfield 42, 3) := by decide +kernel
theorem dX9_move_243 : decode cX9_move 243 = .ok (.aload_n 0, 1) := by decide +kernel
theorem dX9_move_244 : decode cX9_move 244 = .ok (.getfield 144, 3) := by decide +kernel
theorem dX9_move_247 : decode cX9_move 247 = .ok (.aload_n 0, 1) := by decide +kernel
theorem dX9_move_248 : decode cX9_move 248 = .ok (.getfield 42, 3) := by decide +kernel
theorem dX9_move_251 : decode cX9_move 251 = .ok (.aload_n 0, 1) := by decide +kernel
theorem dX9_move_252 : decode cX9_move 252 = .ok (.getfield 144, 3) := by decide +kernel
theorem dX9_move_255 : decode cX9_move 255 = .ok (.iconst 1, 1) := by decide +kernel
theorem dX9_move_256 : decode cX9_move 256 = .ok (.isub, 1) := by decide +kernel
theorem dX9_move_257 : decode cX9_move 257 = .ok (.iaload, 1) := by decide +kernel
theorem dX9_move_258 : decode cX9_move 258 = .ok (.iload 4, 2) := by decide +kernel
theorem dX9_move_260 : decode cX9_move 260 = .ok (.ifCond .eq 14, 3) := by decide +kernel
theorem dX9_move_263 : decode cX9_move 263 = .ok (.aload_n 0, 1) := by decide +kernel
theorem dX9_move_264 : decode cX9_move 264 = .ok (.invokevirtual 159, 3) := by decide +kernel
theorem dX9_move_267 : decode cX9_move 267 = .ok (.ifCond .eq 7, 3) := by decide +kernel
theorem dX9_move_270 : decode cX9_move 270 = .ok (.iconst 1, 1) := by decide +kernel
theorem dX9_move_271 : decode cX9_move 271 = .ok (.goto 4, 3) := by decide +kernel
theorem dX9_move_274 : decode cX9_move 274 = .ok (.iconst 0, 1) := by decide +kernel
theorem dX9_move_275 : decode cX9_move 275 = .ok (.iadd, 1) := by decide +kernel
theorem dX9_move_276 : decode cX9_move 276 = .ok (.iastore, 1) := by decide +kernel
theorem dX9_move_277 : decode cX9_move 277 = .ok (.aload_n 0, 1) := by decide +kernel
theorem dX9_move_278 : decode cX9_move 278 = .ok (.invokevirtual 151, 3) := by decide +kernel
theorem dX9_move_281 : decode cX9_move 281 = .ok (.ifCond .eq 7, 3) := by decide +kernel
theorem dX9_move_284 : decode cX9_move 284 = .ok (.iconst 1, 1) := by decide +kernel
theorem dX9_move_285 : decode cX9_move 285 = .ok (.goto 4, 3) := by decide +kernel
theorem dX9_move_288 : decode cX9_move 288 = .ok (.iconst 2, 1) := by decide +kernel
theorem dX9_move_289 : decode cX9_move 289 = .ok (.ireturn, 1) := by decide +kernel
theorem dX9_undo_0 : decode cX9_undo 0 = .ok (.aload_n 0, 1) := by decide +kernel
theorem dX9_undo_1 : decode cX9_undo 1 = .ok (.getfield 144, 3) := by decide +kernel
theorem dX9_undo_4 : decode cX9_undo 4 = .ok (.ifCond .ne 6, 3) := by decide +kernel
theorem dX9_undo_7 : decode cX9_undo 7 = .ok (.bipush (-3), 2) := by decide +kernel
theorem dX9_undo_9 : decode cX9_undo 9 = .ok (.ireturn, 1) := by decide +kernel
theorem dX9_undo_10 : decode cX9_undo 10 = .ok (.aload_n 0, 1) := by decide +kernel
theorem dX9_undo_11 : decode cX9_undo 11 = .ok (.dup, 1) := by decide +kernel
theorem dX9_undo_12 : decode cX9_undo 12 = .ok (.getfield 144, 3) := by decide +kernel
theorem dX9_undo_15 : decode cX9_undo 15 = .ok (.iconst 1, 1) := by decide +kernel
theorem dX9_undo_16 : decode cX9_undo 16 = .ok (.isub, 1) := by decide +kernel
theorem dX9_undo_17 : decode cX9_undo 17 = .ok (.putfield 144, 3) := by decide +kernel
theorem dX9_undo_20 : decode cX9_undo 20 = .ok (.aload_n 0, 1) := by decide +kernel
theorem dX9_undo_21 : decode cX9_undo 21 = .ok (.getfield 144, 3) := by decide +kernel
theorem dX9_undo_24 : decode cX9_undo 24 = .ok (.ireturn, 1) := by decide +kernel
set_option maxRecDepth 20000 in
theorem ggX9_about_X9_heap : GoodIn wsX9_about wsX9_heap := goodIn_r _ [10, 11, 2, 71, 72, 73, 74, 75, 76, 77, 78, 79, 80, 81, 82, 83, 84, 85, 86, 87, 88] (by decide +kernel) (by decide +kernel)
set_option maxRecDepth 20000 in
theorem gX9_about_X9_heap : GoodIn wsX9_about (wsV RX9 147 RX9 yX9_heap wsX9_heap) := goodIn_app (goodIn_of _ (by decide +kernel)) ggX9_about_X9_heap
set_option maxRecDepth 20000 in
theorem ggX9_about_X9_isWon : GoodIn wsX9_about wsX9_isWon := goodIn_r _ [15, 4, 16, 17, 1, 2, 6, 7, 8, 9, 10, 11, 18, 19, 20, 21, 22, 23, 24, 25, 26, 27, 28, 29, 30, 31, 32, 33, 34, 35, 36, 37, 38, 39, 40, 41, 42, 43, 44, 45, 46, 47, 48, 49, 50, 51, 52, 53, 54, 55, 56, 57, 58, 59, 60, 61, 62, 63, 64, 65, 66, 67, 68, 69, 70, 71, 72, 73, 74, 75, 76, 77, 78, 79, 80, 81, 82, 83, 84, 85, 86, 87, 88] (by decide +kernel) (by decide +kernel)
set_option maxRecDepth 20000 in
theorem gX9_about_X9_isWon : GoodIn wsX9_about (wsV RX9 159 RX9 yX9_isWon wsX9_isWon) := goodIn_app (goodIn_of _ (by decide +kernel)) ggX9_about_X9_isWon
theorem dX9_about_0 : decode cX9_about 0 = .ok (.iload_n 1, 1) := by decide +kernel
theorem dX9_about_1 : decode cX9_about 1 = .ok (.tableswitch 111 0 8 #[51, 51, 51, 57, 67, 73, 86, 94, 105], 51) := by decide +kernel
theorem dX9_about_52 : decode cX9_about 52 = .ok (.aload_n 0, 1) := by decide +kernel
theorem dX9_about_53 : decode cX9_about 53 = .ok (.iload_n 1, 1) := by decide +kernel
theorem dX9_about_54 : decode cX9_about 54 = .ok (.invokevirtual 147, 3) := by decide +kernel
theorem dX9_about_57 : decode cX9_about 57 = .ok (.lreturn, 1) := by decide +kernel
theorem dX9_about_58 : decode cX9_about 58 = .ok (.aload_n 0, 1) := by decide +kernel
theorem dX9_about_59 : decode cX9_about 59 = .ok (.getfield 39, 3) := by decide +kernel
theorem dX9_about_62 : decode cX9_about 62 = .ok (.aload_n 0, 1) := by decide +kernel
theorem dX9_about_63 : decode cX9_about 63 = .ok (.getfield 144, 3) := by decide +kernel
theorem dX9_about_66 : decode cX9_about 66 = .ok (.laload, 1) := by decide +kernel
theorem dX9_about_67 : decode cX9_about 67 = .ok (.lreturn, 1) := by decide +kernel
theorem dX9_about_68 : decode cX9_about 68 = .ok (.aload_n 0, 1) := by decide +kernel
theorem dX9_about_69 : decode cX9_about 69 = .ok (.getfield 144, 3) := by decide +kernel
theorem dX9_about_72 : decode cX9_about 72 = .ok (.i2l, 1) := by decide +kernel
theorem dX9_about_73 : decode cX9_about 73 = .ok (.lreturn, 1) := by decide +kernel
theorem dX9_about_74 : decode cX9_about 74 = .ok (.aload_n 0, 1) := by decide +kernel
theorem dX9_about_75 : decode cX9_about 75 = .ok (.invokevirtual 159, 3) := by decide +kernel
theorem dX9_about_78 : decode cX9_about 78 = .ok (.ifCond .eq 7, 3) := by decide +kernel
theorem dX9_about_81 : decode cX9_about 81 = .ok (.lconst 1, 1) := by decide +kernel
theorem dX9_about_82 : decode cX9_about 82 = .ok (.goto 4, 3) := by decide +kernel
theorem dX9_about_85 : decode cX9_about 85 = .ok (.lconst 0, 1) := by decide +kernel
theorem dX9_about_86 : decode cX9_about 86 = .ok (.lreturn, 1) := by decide +kernel
theorem dX9_about_87 : decode cX9_about 87 = .ok (.aload_n 0, 1) := by decide +kernel
theorem dX9_about_88 : decode cX9_about 88 = .ok (.getfield 144, 3) := by decide +kernel
theorem dX9_about_91 : decode cX9_about 91 = .ok (.iconst 2, 1) := by decide +kernel
theorem dX9_about_92 : decode cX9_about 92 = .ok (.irem, 1) := by decide +kernel
theorem dX9_about_93 : decode cX9_about 93 = .ok (.i2l, 1) := by decide +kernel
theorem dX9_about_94 : decode cX9_about 94 = .ok (.lreturn, 1) := by decide +kernel
theorem dX9_about_95 : decode cX9_about 95 = .ok (.aload_n 0, 1) := by decide +kernel
theorem dX9_about_96 : decode cX9_about 96 = .ok (.getfield 42, 3) := by decide +kernel
theorem dX9_about_99 : decode cX9_about 99 = .ok (.aload_n 0, 1) := by decide +kernel
theorem dX9_about_100 : decode cX9_about 100 = .ok (.getfield 144, 3) := by decide +kernel
theorem dX9_about_103 : decode cX9_about 103 = .ok (.iaload, 1) := by decide +kernel
theorem dX9_about_104 : decode cX9_about 104 = .ok (.i2l, 1) := by decide +kernel
theorem dX9_about_105 : decode cX9_about 105 = .ok (.lreturn, 1) := by decide +kernel
theorem dX9_about_106 : decode cX9_about 106 = .ok (.aload_n 0, 1) := by decide +kernel
theorem dX9_about_107 : decode cX9_about 107 = .ok (.getfield 32, 3) := by decide +kernel
theorem dX9_about_110 : decode cX9_about 110 = .ok (.i2l, 1) := by decide +kernel
theorem dX9_about_111 : decode cX9_about 111 = .ok (.lreturn, 1) := by decide +kernel
theorem dX9_about_112 : decode cX9_about 112 = .ok (.ldc2_w 62, 3) := by decide +kernel
theorem dX9_about_115 : decode cX9_about 115 = .ok (.lreturn, 1) := by decide +kernel
set_option maxRecDepth 20000 in
theorem ggX9_digest_X9_about : GoodIn wsX9_digest wsX9_about := goodIn_r _ [7, 8, 9, 10, 11, 12, 13, 14, 15, 6, 16, 17, 18, 19, 20, 21, 22, 23, 24, 25, 26, 27, 28, 29, 30, 31, 32, 33, 34, 35, 36, 37, 38, 39, 40, 41, 42, 43, 44, 45, 46, 47, 48, 49, 50, 51, 52, 53, 54, 55, 56, 57, 58, 59, 60, 61, 62, 63, 64, 65, 66, 67, 68, 69, 70, 71, 72, 73, 74, 75, 76, 77, 78, 79, 80, 81, 82, 83, 84, 85, 86, 87, 88, 89, 90, 91, 92, 93, 94] (by decide +kernel) (by decide +kernel)
set_option maxRecDepth 20000 in
theorem gX9_digest_X9_about : GoodIn wsX9_digest (wsV RX9 166 RX9 yX9_about wsX9_about) := goodIn_app (goodIn_of _ (by decide +kernel)) ggX9_digest_X9_about
theorem dX9_digest_0 : decode cX9_digest 0 = .ok (.ldc2_w 162, 3) := by decide +kernel
theorem dX9_digest_3 : decode cX9_digest 3 = .ok (.lstore_n 1, 1) := by decide +kernel
theorem dX9_digest_4 : decode cX9_digest 4 = .ok (.iconst 0, 1) := by decide +kernel
theorem dX9_digest_5 : decode cX9_digest 5 = .ok (.istore_n 3, 1) := by decide +kernel
theorem dX9_digest_6 : decode cX9_digest 6 = .ok (.iload_n 3, 1) := by decide +kernel
theorem dX9_digest_7 : decode cX9_digest 7 = .ok (.bipush 9, 2) := by decide +kernel
theorem dX9_digest_9 : decode cX9_digest 9 = .ok (.if_icmp .ge 21, 3) := by decide +kernel
theorem dX9_digest_12 : decode cX9_digest 12 = .ok (.ldc2_w 164, 3) := by decide +kernel
theorem dX9_digest_15 : decode cX9_digest 15 = .ok (.lload_n 1, 1) := by decide +kernel
theorem dX9_digest_16 : decode cX9_digest 16 = .ok (.lmul, 1) := by decide +kernel
theorem dX9_digest_17 : decode cX9_digest 17 = .ok (.aload_n 0, 1) := by decide +kernel
theorem dX9_digest_18 : decode cX9_digest 18 = .ok (.iload_n 3, 1) := by decide +kernel
theorem dX9_digest_19 : decode cX9_digest 19 = .ok (.invokevirtual 166, 3) := by decide +kernel
theorem dX9_digest_22 : decode cX9_digest 22 = .ok (.ladd, 1) := by decide +kernel
theorem dX9_digest_23 : decode cX9_digest 23 = .ok (.lstore_n 1, 1) := by decide +kernel
theorem dX9_digest_24 : decode cX9_digest 24 = .ok (.iinc 3 1, 3) := by decide +kernel
theorem dX9_digest_27 : decode cX9_digest 27 = .ok (.goto (-21), 3) := by decide +kernel
theorem dX9_digest_30 : decode cX9_digest 30 = .ok (.lload_n 1, 1) := by decide +kernel
theorem dX9_digest_31 : decode cX9_digest 31 = .ok (.lreturn, 1) := by decide +kernel
theorem dJ13_bitCount_95d88_0 : decode cJ13_bitCount_95d88 0 = .ok (.lload_n 0, 1) := by decide +kernel
theorem dJ13_bitCount_95d88_1 : decode cJ13_bitCount_95d88 1 = .ok (.lload_n 0, 1) := by decide +kernel
theorem dJ13_bitCount_95d88_2 : decode cJ13_bitCount_95d88 2 = .ok (.iconst 1, 1) := by decide +kernel
theorem dJ13_bitCount_95d88_3 : decode cJ13_bitCount_95d88 3 = .ok (.lushr, 1) := by decide +kernel
theorem dJ13_bitCount_95d88_4 : decode cJ13_bitCount_95d88 4 = .ok (.ldc2_w 314, 3) := by decide +kernel
theorem dJ13_bitCount_95d88_7 : decode cJ13_bitCount_95d88 7 = .ok (.land, 1) := by decide +kernel
theorem dJ13_bitCount_95d88_8 : decode cJ13_bitCount_95d88 8 = .ok (.lsub, 1) := by decide +kernel
theorem dJ13_bitCount_95d88_9 : decode cJ13_bitCount_95d88 9 = .ok (.lstore_n 0, 1) := by decide +kernel
theorem dJ13_bitCount_95d88_10 : decode cJ13_bitCount_95d88 10 = .ok (.lload_n 0, 1) := by decide +kernel
theorem dJ13_bitCount_95d88_11 : decode cJ13_bitCount_95d88 11 = .ok (.ldc2_w 316, 3) := by decide +kernel
theorem dJ13_bitCount_95d88_14 : decode cJ13_bitCount_95d88 14 = .ok (.land, 1) := by decide +kernel
theorem dJ13_bitCount_95d88_15 : decode cJ13_bitCount_95d88 15 = .ok (.lload_n 0, 1) := by decide +kernel
theorem dJ13_bitCount_95d88_16 : decode cJ13_bitCount_95d88 16 = .ok (.iconst 2, 1) := by decide +kernel
theorem dJ13_bitCount_95d88_17 : decode cJ13_bitCount_95d88 17 = .ok (.lushr, 1) := by decide +kernel
theorem dJ13_bitCount_95d88_18 : decode cJ13_bitCount_95d88 18 = .ok (.ldc2_w 316, 3) := by decide +kernel
theorem dJ13_bitCount_95d88_21 : decode cJ13_bitCount_95d88 21 = .ok (.land, 1) := by decide +kernel
theorem dJ13_bitCount_95d88_22 : decode cJ13_bitCount_95d88 22 = .ok (.ladd, 1) := by decide +kernel
theorem dJ13_bitCount_95d88_23 : decode cJ13_bitCount_95d88 23 = .ok (.lstore_n 0, 1) := by decide +kernel
theorem dJ13_bitCount_95d88_24 : decode cJ13_bitCount_95d88 24 = .ok (.lload_n 0, 1) := by decide +kernel
theorem dJ13_bitCount_95d88_25 : decode cJ13_bitCount_95d88 25 = .ok (.lload_n 0, 1) := by decide +kernel
theorem dJ13_bitCount_95d88_26 : decode cJ13_bitCount_95d88 26 = .ok (.iconst 4, 1) := by decide +kernel
theorem dJ13_bitCount_95d88_27 : decode cJ13_bitCount_95d88 27 = .ok (.lushr, 1) := by decide +kernel
theorem dJ13_bitCount_95d88_28 : decode cJ13_bitCount_95d88 28 = .ok (.ladd, 1) := by decide +kernel
theorem dJ13_bitCount_95d88_29 : decode cJ13_bitCount_95d88 29 = .ok (.ldc2_w 318, 3) := by decide +kernel
theorem dJ13_bitCount_95d88_32 : decode cJ13_bitCount_95d88 32 = .ok (.land, 1) := by decide +kernel
theorem dJ13_bitCount_95d88_33 : decode cJ13_bitCount_95d88 33 = .ok (.lstore_n 0, 1) := by decide +kernel
theorem dJ13_bitCount_95d88_34 : decode cJ13_bitCount_95d88 34 = .ok (.lload_n 0, 1) := by decide +kernel
theorem dJ13_bitCount_95d88_35 : decode cJ13_bitCount_95d88 35 = .ok (.lload_n 0, 1) := by decide +kernel
theorem dJ13_bitCount_95d88_36 : decode cJ13_bitCount_95d88 36 = .ok (.bipush 8, 2) := by decide +kernel
theorem dJ13_bitCount_95d88_38 : decode cJ13_bitCount_95d88 38 = .ok (.lushr, 1) := by decide +kernel
theorem dJ13_bitCount_95d88_39 : decode cJ13_bitCount_95d88 39 = .ok (.ladd, 1) := by decide +kernel
theorem dJ13_bitCount_95d88_40 : decode cJ13_bitCount_95d88 40 = .ok (.lstore_n 0, 1) := by decide +kernel
theorem dJ13_bitCount_95d88_41 : decode cJ13_bitCount_95d88 41 = .ok (.lload_n 0, 1) := by decide +kernel
theorem dJ13_bitCount_95d88_42 : decode cJ13_bitCount_95d88 42 = .ok (.lload_n 0, 1) := by decide +kernel
theorem dJ13_bitCount_95d88_43 : decode cJ13_bitCount_95d88 43 = .ok (.bipush 16, 2) := by decide +kernel
theorem dJ13_bitCount_95d88_45 : decode cJ13_bitCount_95d88 45 = .ok (.lushr, 1) := by decide +kernel
theorem dJ13_bitCount_95d88_46 : decode cJ13_bitCount_95d88 46 = .ok (.ladd, 1) := by decide +kernel
theorem dJ13_bitCount_95d88_47 : decode cJ13_bitCount_95d88 47 = .ok (.lstore_n 0, 1) := by decide +kernel
theorem dJ13_bitCount_95d88_48 : decode cJ13_bitCount_95d88 48 = .ok (.lload_n 0, 1) := by decide +kernel
theorem dJ13_bitCount_95d88_49 : decode cJ13_bitCount_95d88 49 = .ok (.lload_n 0, 1) := by decide +kernel
theorem dJ13_bitCount_95d88_50 : decode cJ13_bitCount_95d88 50 = .ok (.bipush 32, 2) := by decide +kernel
theorem dJ13_bitCount_95d88_52 : decode cJ13_bitCount_95d88 52 = .ok (.lushr, 1) := by decide +kernel
theorem dJ13_bitCount_95d88_53 : decode cJ13_bitCount_95d88 53 = .ok (.ladd, 1) := by decide +kernel
theorem dJ13_bitCount_95d88_54 : decode cJ13_bitCount_95d88 54 = .ok (.lstore_n 0, 1) := by decide +kernel
theorem dJ13_bitCount_95d88_55 : decode cJ13_bitCount_95d88 55 = .ok (.lload_n 0, 1) := by decide +kernel
theorem dJ13_bitCount_95d88_56 : decode cJ13_bitCount_95d88 56 = .ok (.l2i, 1) := by decide +kernel
theorem dJ13_bitCount_95d88_57 : decode cJ13_bitCount_95d88 57 = .ok (.bipush 127, 2) := by decide +kernel
theorem dJ13_bitCount_95d88_59 : decode cJ13_bitCount_95d88 59 = .ok (.iand, 1) := by decide +kernel
theorem dJ13_bitCount_95d88_60 : decode cJ13_bitCount_95d88 60 = .ok (.ireturn, 1) := by decide +kernel
theorem dJ9_abs_067f4_0 : decode cJ9_abs_067f4 0 = .ok (.lload_n 0, 1) := by decide +kernel
theorem dJ9_abs_067f4_1 : decode cJ9_abs_067f4 1 = .ok (.lconst 0, 1) := by decide +kernel
theorem dJ9_abs_067f4_2 : decode cJ9_abs_067f4 2 = .ok (.lcmp, 1) := by decide +kernel
theorem dJ9_abs_067f4_3 : decode cJ9_abs_067f4 3 = .ok (.ifCond .ge 8, 3) := by decide +kernel
theorem dJ9_abs_067f4_6 : decode cJ9_abs_067f4 6 = .ok (.lload_n 0, 1) := by decide +kernel
theorem dJ9_abs_067f4_7 : decode cJ9_abs_067f4 7 = .ok (.lneg, 1) := by decide +kernel
theorem dJ9_abs_067f4_8 : decode cJ9_abs_067f4 8 = .ok (.goto 4, 3) := by decide +kernel
theorem dJ9_abs_067f4_11 : decode cJ9_abs_067f4 11 = .ok (.lload_n 0, 1) := by decide +kernel
theorem dJ9_abs_067f4_12 : decode cJ9_abs_067f4 12 = .ok (.lreturn, 1) := by decide +kernel
theorem dJ9_max_7cf53_0 : decode cJ9_max_7cf53 0 = .ok (.iload_n 0, 1) := by decide +kernel
theorem dJ9_max_7cf53_1 : decode cJ9_max_7cf53 1 = .ok (.iload_n 1, 1) := by decide +kernel
theorem dJ9_max_7cf53_2 : decode cJ9_max_7cf53 2 = .ok (.if_icmp .lt 7, 3) := by decide +kernel
theorem dJ9_max_7cf53_5 : decode cJ9_max_7cf53 5 = .ok (.iload_n 0, 1) := by decide +kernel
theorem dJ9_max_7cf53_6 : decode cJ9_max_7cf53 6 = .ok (.goto 4, 3) := by decide +kernel
theorem dJ9_max_7cf53_9 : decode cJ9_max_7cf53 9 = .ok (.iload_n 1, 1) := by decide +kernel
theorem dJ9_max_7cf53_10 : decode cJ9_max_7cf53 10 = .ok (.ireturn, 1) := by decide +kernel
theorem dJ9_max_f86c9_0 : decode cJ9_max_f86c9 0 = .ok (.lload_n 0, 1) := by decide +kernel
theorem dJ9_max_f86c9_1 : decode cJ9_max_f86c9 1 = .ok (.lload_n 2, 1) := by decide +kernel
theorem dJ9_max_f86c9_2 : decode cJ9_max_f86c9 2 = .ok (.lcmp, 1) := by decide +kernel
theorem dJ9_max_f86c9_3 : decode cJ9_max_f86c9 3 = .ok (.ifCond .lt 7, 3) := by decide +kernel
theorem dJ9_max_f86c9_6 : decode cJ9_max_f86c9 6 = .ok (.lload_n 0, 1) := by decide +kernel
theorem dJ9_max_f86c9_7 : decode cJ9_max_f86c9 7 = .ok (.goto 4, 3) := by decide +kernel
theorem dJ9_max_f86c9_10 : decode cJ9_max_f86c9 10 = .ok (.lload_n 2, 1) := by decide +kernel
theorem dJ9_max_f86c9_11 : decode cJ9_max_f86c9 11 = .ok (.lreturn, 1) := by decide +kernel
theorem dJ9_min_7cf53_0 : decode cJ9_min_7cf53 0 = .ok (.iload_n 0, 1) := by decide +kernel
theorem dJ9_min_7cf53_1 : decode cJ9_min_7cf53 1 = .ok (.iload_n 1, 1) := by decide +kernel
theorem dJ9_min_7cf53_2 : decode cJ9_min_7cf53 2 = .ok (.if_icmp .gt 7, 3) := by decide +kernel
theorem dJ9_min_7cf53_5 : decode cJ9_min_7cf53 5 = .ok (.iload_n 0, 1) := by decide +kernel
theorem dJ9_min_7cf53_6 : decode cJ9_min_7cf53 6 = .ok (.goto 4, 3) := by decide +kernel
theorem dJ9_min_7cf53_9 : decode cJ9_min_7cf53 9 = .ok (.iload_n 1, 1) := by decide +kernel
theorem dJ9_min_7cf53_10 : decode cJ9_min_7cf53 10 = .ok (.ireturn, 1) := by decide +kernel
theorem dJ9_min_f86c9_0 : decode cJ9_min_f86c9 0 = .ok (.lload_n 0, 1) := by decide +kernel
theorem dJ9_min_f86c9_1 : decode cJ9_min_f86c9 1 = .ok (.lload_n 2, 1) := by decide +kernel
theorem dJ9_min_f86c9_2 : decode cJ9_min_f86c9 2 = .ok (.lcmp, 1) := by decide +kernel
theorem dJ9_min_f86c9_3 : decode cJ9_min_f86c9 3 = .ok (.ifCond .gt 7, 3) := by decide +kernel
theorem dJ9_min_f86c9_6 : decode cJ9_min_f86c9 6 = .ok (.lload_n 0, 1) := by decide +kernel
theorem dJ9_min_f86c9_7 : decode cJ9_min_f86c9 7 = .ok (.goto 4, 3) := by decide +kernel
theorem dJ9_min_f86c9_10 : decode cJ9_min_f86c9 10 = .ok (.lload_n 2, 1) := by decide +kernel
theorem dJ9_min_f86c9_11 : decode cJ9_min_f86c9 11 = .ok (.lreturn, 1) := by decide +kernel
end
section
/-! A world as a MAP: address to cell. A store changes the map at one address; what the map doesn't name is not written. -/
abbrev mp : Type := Nat → Option va_E
def mu (M : mp) (a : Nat) (e : va_E) : mp := fun q => if q = a then some e else M q
theorem mu_eq (M : mp) (a : Nat) (e : va_E) : mu M a e a = some e := if_pos rfl
theorem mu_ne {M : mp} {a q : Nat} {e : va_E} (h : q ≠ a) : mu M a e q = M q := if_neg h
theorem mp_ne {M : mp} {a b : Nat} {x y : va_E} (h1 : M a = some x) (h2 : M b = some y) (h : x ≠ y) : a ≠ b := fun e => h (Option.some.inj (by rw [← h1, ← h2, e]))
theorem mu_at {M M1 : mp} {a : Nat} {e : va_E} (h : M1 = mu M a e) : M1 a = some e := by rw [h]; exact mu_eq M a e
theorem mu_kp {M M1 : mp} {a b : Nat} {e x : va_E} (h : M1 = mu M a e) (hne : b ≠ a) (hb : M b = some x) : M1 b = some x := by rw [h, mu_ne hne]; exact hb
def mh (D : va_G) (M : mp) (H : Heap) : Prop := ∀ (a : Nat) (e : va_E), M a = some e → va_at D vwCl (a, e) H
def mS (M0 : mp) (H0 : Heap) (M : mp) (H : Heap) (locs : List Loc) : Prop :=
  H0.size ≤ H.size ∧ (∀ q, q < H0.size → M0 q = none → H[q]? = H0[q]?) ∧ (∀ q, M q ≠ none → M0 q ≠ none ∨ H0.size ≤ q) ∧ ∀ l ∈ locs, M0 l.base ≠ none ∨ H0.size ≤ l.base
def hw (D : va_G) (M0 : mp) (H0 : Heap) (M : mp) (H : Heap) (locs : List Loc) : Prop := mh D M H ∧ mS M0 H0 M H locs
theorem mh.lt {D : va_G} {M : mp} {H : Heap} (h : mh D M H) {a : Nat} {e : va_E} (ha : M a = some e) : a < H.size := (h a e ha).lt
theorem mh.fresh {D : va_G} {M : mp} {H : Heap} (h : mh D M H) : M H.size = none := by
  cases hm : M H.size with
  | none => rfl
  | some e => exact absurd (h.lt hm) (Nat.lt_irrefl _)
theorem mh.ne {D : va_G} {M : mp} {H : Heap} (h : mh D M H) {a : Nat} {e : va_E} (ha : M a = some e) : a ≠ H.size := Nat.ne_of_lt (h.lt ha)
theorem mh.P1 {D : va_G} {M : mp} {H : Heap} (h : mh D M H) {a : Nat} {e : va_E} (ha : M a = some e) : va_P D vwCl [(a, e)] H := by
  intro k q hk
  match k, hk with
  | 0, hk => cases hk; exact h _ _ ha
  | k + 1, hk => simp at hk
theorem hw.rf {D : va_G} {M : mp} {H : Heap} (h : mh D M H) : hw D M H M H [] := ⟨h, Nat.le_refl _, fun _ _ _ => rfl, fun _ hq => Or.inl hq, fun _ hl => by cases hl⟩
theorem hw.put {D : va_G} {M0 M : mp} {H0 H H1 : Heap} {locs : List Loc} {a k : Nat} {e0 e : va_E} (h : hw D M0 H0 M H locs) (ha : M a = some e0) (z : H1.size = H.size) (oq : ∀ q : Nat, q ≠ a → H1[q]? = H[q]?) (he : va_at D vwCl (a, e) H1) : hw D M0 H0 (mu M a e) H1 (locs ++ [⟨a, k⟩]) := by
  obtain ⟨h1, s1, s2, s3, s4⟩ := h
  have hma : M0 a ≠ none ∨ H0.size ≤ a := s3 a (by rw [ha]; exact fun q => by cases q)
  refine ⟨fun q x hq => ?_, by rw [z]; exact s1, fun q hq hn => ?_, fun q hq => ?_, fun x hx => ?_⟩
  · by_cases hqa : q = a
    · subst hqa
      rw [mu_eq] at hq
      cases hq
      exact he
    · rw [mu_ne hqa] at hq
      exact (h1 q x hq).kept (oq q hqa)
  · rw [oq q (fun z => by subst z; rcases hma with g | g; exact g hn; omega)]
    exact s2 q hq hn
  · by_cases hqa : q = a
    · subst hqa; exact hma
    · rw [mu_ne hqa] at hq
      exact s3 q hq
  · rcases List.mem_append.mp hx with g | g
    · exact s4 x g
    · rw [List.mem_singleton.mp g]; exact hma
theorem hw.push {D : va_G} {M0 M : mp} {H0 H H1 : Heap} {locs : List Loc} {e : va_E} (h : hw D M0 H0 M H locs) (z : H1.size = H.size + 1) (oq : ∀ q : Nat, q < H.size → H1[q]? = H[q]?) (he : va_at D vwCl (H.size, e) H1) : hw D M0 H0 (mu M H.size e) H1 locs := by
  obtain ⟨h1, s1, s2, s3, s4⟩ := h
  refine ⟨fun q x hq => ?_, by omega, fun q hq hn => ?_, fun q hq => ?_, s4⟩
  · by_cases hqa : q = H.size
    · subst hqa
      rw [mu_eq] at hq
      cases hq
      exact he
    · rw [mu_ne hqa] at hq
      exact (h1 q x hq).kept (oq q (h1.lt hq))
  · rw [oq q (by omega)]
    exact s2 q hq hn
  · by_cases hqa : q = H.size
    · exact Or.inr (by omega)
    · rw [mu_ne hqa] at hq
      exact s3 q hq
/-- the words of nest mates, and the tables' classes, that hold at every state -/
def nest : List Cond := [.fieldLinkNest "GoldHeaps" 29 "GoldHeaps$Judge" "sharesGame" "LGoldHeaps$SharesGame;" "GoldHeaps", .fieldLinkNest "GoldHeaps" 49 "GoldHeaps$Judge" "bothGame" "LGoldHeaps$BothGame;" "GoldHeaps", .fieldLinkNest "GoldHeaps" 70 "GoldHeaps$Judge" "golden" "LGoldHeaps$Golden;" "GoldHeaps", .fieldLinkNest "GoldHeaps" 89 "GoldHeaps$Judge" "timesGame" "LGoldHeaps$TimesGame;" "GoldHeaps", .fieldLinkNest "GoldHeaps$Play" 105 "GoldHeaps$Judge" "sharesGame" "LGoldHeaps$SharesGame;" "GoldHeaps", .fieldLinkNest "GoldHeaps$Play" 114 "GoldHeaps$Judge" "bothGame" "LGoldHeaps$BothGame;" "GoldHeaps", .fieldLinkNest "GoldHeaps$Play" 84 "GoldHeaps$Judge" "timesGame" "LGoldHeaps$TimesGame;" "GoldHeaps",
  .methodLinkNest RX2 19 yX7_init "GoldHeaps", .methodLinkNest RX2 55 yX8_isWithin "GoldHeaps", .methodLinkNest RX2 59 yX8_oneIf "GoldHeaps", .methodLinkNest RX4 64 yX8_oneIf "GoldHeaps", .methodLinkNest RX7 37 yX8_isWithin "GoldHeaps"]
def tysA (cA : Nat → ClassId) : List (ClassId × FieldType) := [(cA 0, .long), (cA 1, .int), (cA 2, .boolean), (cA 3, .object "GoldHeaps$Sums"), (cA 4, .object "GoldHeaps$LostTable")]
def kk (D : va_G) (cA : Nat → ClassId) (U : State) : Prop := va_K D vwCl (tysA cA) U ∧ (∀ w ∈ nest, va_Nw w U) ∧ va_AO "GoldHeaps$Sums" U ∧ va_AO "GoldHeaps$LostTable" U
theorem kk.warm {D : va_G} {cA : Nat → ClassId} {s U : State} (hW : s.WarmedH U.vm) (h : kk D cA s) : kk D cA U := by
  refine ⟨va_K.moved hW.alike h.1, ?_, va_AO.moved hW.alike h.2.2.1, va_AO.moved hW.alike h.2.2.2⟩
  have h2 := h.2.1
  unfold nest at h2 ⊢
  refine List.forall_mem_cons.mpr ⟨va_Nw.warmF hW (h2 _ (List.mem_of_getElem? (i := 0) rfl)), ?_⟩
  refine List.forall_mem_cons.mpr ⟨va_Nw.warmF hW (h2 _ (List.mem_of_getElem? (i := 1) rfl)), ?_⟩
  refine List.forall_mem_cons.mpr ⟨va_Nw.warmF hW (h2 _ (List.mem_of_getElem? (i := 2) rfl)), ?_⟩
  refine List.forall_mem_cons.mpr ⟨va_Nw.warmF hW (h2 _ (List.mem_of_getElem? (i := 3) rfl)), ?_⟩
  refine List.forall_mem_cons.mpr ⟨va_Nw.warmF hW (h2 _ (List.mem_of_getElem? (i := 4) rfl)), ?_⟩
  refine List.forall_mem_cons.mpr ⟨va_Nw.warmF hW (h2 _ (List.mem_of_getElem? (i := 5) rfl)), ?_⟩
  refine List.forall_mem_cons.mpr ⟨va_Nw.warmF hW (h2 _ (List.mem_of_getElem? (i := 6) rfl)), ?_⟩
  refine List.forall_mem_cons.mpr ⟨va_Nw.warmM hW (h2 _ (List.mem_of_getElem? (i := 7) rfl)), ?_⟩
  refine List.forall_mem_cons.mpr ⟨va_Nw.warmM hW (h2 _ (List.mem_of_getElem? (i := 8) rfl)), ?_⟩
  refine List.forall_mem_cons.mpr ⟨va_Nw.warmM hW (h2 _ (List.mem_of_getElem? (i := 9) rfl)), ?_⟩
  refine List.forall_mem_cons.mpr ⟨va_Nw.warmM hW (h2 _ (List.mem_of_getElem? (i := 10) rfl)), ?_⟩
  refine List.forall_mem_cons.mpr ⟨va_Nw.warmM hW (h2 _ (List.mem_of_getElem? (i := 11) rfl)), ?_⟩
  exact fun _ h => absurd h List.not_mem_nil
theorem kk.same {D : va_G} {cA : Nat → ClassId} {u U : State} (hv : u.vm = U.vm) (h : kk D cA u) : kk D cA U := by
  have ha : u.vm.Alike U.vm := by rw [hv]; exact Vm.Alike.refl U.vm
  refine ⟨va_K.moved ha h.1, fun w hw => ?_, va_AO.moved ha h.2.2.1, va_AO.moved ha h.2.2.2⟩
  exact va_Nw.same (by
    have hall : nest.all (fun w => w.onTables) = true := by decide +kernel
    exact List.all_eq_true.mp hall w hw) hv (h.2.1 w hw)
/-- a PURE contract: nothing is written or made, the answer is told -/
def PC (l : Launch) (D : va_G) (cA : Nat → ClassId) (y : MethodName) (ws : List Cond) (fr lo : Nat) (As : List Value) (M : mp) (v : Option Value) : Prop :=
  Met l y ws ({ frames := fr, cells := 0, slots := 0, locals := lo }) (va_Pc As (fun U => mh D M U.heap ∧ kk D cA U)) (fun _ st o t => o = .returned v ∧ t.heap = st.heap) 0 0 (fun _ => False)
/-- what a call that writes leaves -/
def MQc (D : va_G) (M : mp) (post : Option Value → mp → Prop) : State → Outcome → State → Prop := fun st o t => ∃ (v : Option Value) (M' : mp), o = .returned v ∧ post v M' ∧ mh D M' t.heap ∧ st.heap.size ≤ t.heap.size ∧ (∀ q, q < st.heap.size → M q = none → t.heap[q]? = st.heap[q]?) ∧ (∀ q, M' q ≠ none → M q ≠ none ∨ st.heap.size ≤ q)
def MC (l : Launch) (D : va_G) (cA : Nat → ClassId) (y : MethodName) (ws : List Cond) (fr lo mc ms : Nat) (As : List Value) (M : mp) (post : Option Value → mp → Prop) : Prop :=
  ∀ sz : Nat, Met l y ws ({ frames := fr, cells := mc, slots := ms, locals := lo }) (va_Pc As (fun U => U.heap.size = sz ∧ mh D M U.heap ∧ kk D cA U)) (fun _ => MQc D M post) mc ms (fun q => M q ≠ none ∨ sz ≤ q)
section MapRows
variable {p : Program} {l : Launch} {e : Env} {R : Room} {s : State} {m : MethodId} {args : Array Value} {below : List Frame} {meth : Method} {c : Code} {H : Heap} {locs : List Loc} {cells slots : Nat} {Q : State → Prop}
variable {cc : ByteArray} {pc : Nat} {ls : Array Slot} {rest : List Value} {D : va_G} {a : Nat} {H0 : Heap} {M M0 : mp} {cA : Nat → ClassId}
theorem m_get (hexec : p.tables.exec = Jvm.exec) (hb : c.code = cc) {own ref C : String} {T : u_T} {N ci index : Nat} {Ts : List Cond} (hts : ∀ w ∈ Ts, w.before args s = true) (hin : ∀ w ∈ u_ws C T N, w ∈ Ts) (hown : s.vm.findClass own = some m.cls) (hK : kk D cA s) (hM : mh D M H) {fs : List Value} (ha : M a = some (.inr (ci, fs))) (hc : vwCl[ci]? = some (C, T, N)) (k : Nat) (hk : k < N) (hlink : (Cond.fieldLink own index ref (T k).2.1 (T k).2.2.1).before args s = true) (hsame : ∀ x, s.fieldFound? (T k).1 (T k).2.1 (T k).2.2.1 = some x → s.fieldFound? ref (T k).2.1 (T k).2.2.1 = some x) {v : Value} (hv : fs[k]? = some v) (hdg : decode cc pc = .ok (.getfield index, 3))
    (kk : W p l e R s m args below meth c H locs cells slots Q (F0 m (pc + 3) ls (v :: rest))) : W p l e R s m args below meth c H locs cells slots Q (F0 m pc ls (.ref a :: rest)) :=
  va_get hexec hb hts hin hown hK.1 (hM.P1 ha) 0 rfl hc k hk hlink hsame hv hdg kk
theorem m_getN (hexec : p.tables.exec = Jvm.exec) (hb : c.code = cc) {own ref C host : String} {T : u_T} {N ci index : Nat} {Ts : List Cond} (hts : ∀ w ∈ Ts, w.before args s = true) (hin : ∀ w ∈ u_ws C T N, w ∈ Ts) (hown : s.vm.findClass own = some m.cls) (hK : kk D cA s) (hM : mh D M H) {fs : List Value} (ha : M a = some (.inr (ci, fs))) (hc : vwCl[ci]? = some (C, T, N)) (k : Nat) (hk : k < N) (hlink : (Cond.fieldLinkNest own index ref (T k).2.1 (T k).2.2.1 host).before args s = true) (hsame : ∀ x, s.fieldFound? (T k).1 (T k).2.1 (T k).2.2.1 = some x → s.fieldFound? ref (T k).2.1 (T k).2.2.1 = some x) {v : Value} (hv : fs[k]? = some v) (hdg : decode cc pc = .ok (.getfield index, 3))
    (kk : W p l e R s m args below meth c H locs cells slots Q (F0 m (pc + 3) ls (v :: rest))) : W p l e R s m args below meth c H locs cells slots Q (F0 m pc ls (.ref a :: rest)) :=
  va_getN hexec hb hts hin hown hK.1 (hM.P1 ha) 0 rfl hc k hk hlink hsame hv hdg kk
theorem m_lald (hexec : p.tables.exec = Jvm.exec) (hb : c.code = cc) (hK : kk D cA s) (hM : mh D M H) {n : Nat} {f : Nat → Int64} (ha : M a = some (.inl (cA 0, n, .inr (.inl f)))) {i : Int32} (hin : vp_in i n) (hdg : decode cc pc = .ok (.laload, 1))
    (kk : W p l e R s m args below meth c H locs cells slots Q (F0 m (pc + 1) ls (.long (f i.toNatClampNeg) :: rest))) : W p l e R s m args below meth c H locs cells slots Q (F0 m pc ls (.int i :: .ref a :: rest)) :=
  va_lald hexec hb hK.1 (hM.P1 ha) 0 0 rfl rfl hin hdg kk
theorem m_iald (hexec : p.tables.exec = Jvm.exec) (hb : c.code = cc) (hK : kk D cA s) (hM : mh D M H) {n : Nat} {f : Nat → Int32} (ha : M a = some (.inl (cA 1, n, .inl f))) {i : Int32} (hin : vp_in i n) (hdg : decode cc pc = .ok (.iaload, 1))
    (kk : W p l e R s m args below meth c H locs cells slots Q (F0 m (pc + 1) ls (.int (f i.toNatClampNeg) :: rest))) : W p l e R s m args below meth c H locs cells slots Q (F0 m pc ls (.int i :: .ref a :: rest)) :=
  va_iald hexec hb hK.1 (hM.P1 ha) 0 1 rfl rfl hin hdg kk
theorem m_zald (hexec : p.tables.exec = Jvm.exec) (hb : c.code = cc) (hK : kk D cA s) (hM : mh D M H) {n : Nat} {f : Nat → Int32} (ha : M a = some (.inl (cA 2, n, .inl f))) {i : Int32} (hin : vp_in i n) (hdg : decode cc pc = .ok (.baload, 1))
    (kk : W p l e R s m args below meth c H locs cells slots Q (F0 m (pc + 1) ls (.int (f i.toNatClampNeg) :: rest))) : W p l e R s m args below meth c H locs cells slots Q (F0 m pc ls (.int i :: .ref a :: rest)) :=
  va_zald hexec hb hK.1 (hM.P1 ha) 0 2 rfl rfl hin hdg kk
theorem m_aldS (hexec : p.tables.exec = Jvm.exec) (hb : c.code = cc) (hK : kk D cA s) (hM : mh D M H) {n : Nat} {f : Nat → Option Nat} (ha : M a = some (.inl (cA 3, n, .inr (.inr (.inr (.inr f)))))) {i : Int32} (hin : vp_in i n) (hdg : decode cc pc = .ok (.aaload, 1))
    (kk : W p l e R s m args below meth c H locs cells slots Q (F0 m (pc + 1) ls (va_rf (f i.toNatClampNeg) :: rest))) : W p l e R s m args below meth c H locs cells slots Q (F0 m pc ls (.int i :: .ref a :: rest)) :=
  va_aldq hexec hb hK.1 (hM.P1 ha) 0 3 rfl rfl hin hdg kk
theorem m_aldT (hexec : p.tables.exec = Jvm.exec) (hb : c.code = cc) (hK : kk D cA s) (hM : mh D M H) {n : Nat} {f : Nat → Option Nat} (ha : M a = some (.inl (cA 4, n, .inr (.inr (.inr (.inr f)))))) {i : Int32} (hin : vp_in i n) (hdg : decode cc pc = .ok (.aaload, 1))
    (kk : W p l e R s m args below meth c H locs cells slots Q (F0 m (pc + 1) ls (va_rf (f i.toNatClampNeg) :: rest))) : W p l e R s m args below meth c H locs cells slots Q (F0 m pc ls (.int i :: .ref a :: rest)) :=
  va_aldq hexec hb hK.1 (hM.P1 ha) 0 4 rfl rfl hin hdg kk
theorem m_alen (hexec : p.tables.exec = Jvm.exec) (hb : c.code = cc) (hK : kk D cA s) (hM : mh D M H) {x : vp_A} {t0 : Nat} (ha : M a = some (.inl (cA t0, x))) {ty : FieldType} (ht : (tysA cA)[t0]? = some (cA t0, ty)) {v : Int32} (hv : Int32.ofNat x.1 = v) (hdg : decode cc pc = .ok (.arraylength, 1))
    (kk : W p l e R s m args below meth c H locs cells slots Q (F0 m (pc + 1) ls (.int v :: rest))) : W p l e R s m args below meth c H locs cells slots Q (F0 m pc ls (.ref a :: rest)) :=
  va_alen hexec hb hK.1 (hM.P1 ha) 0 t0 rfl ht hv hdg kk
theorem m_put (hexec : p.tables.exec = Jvm.exec) (hb : c.code = cc) {own ref C : String} {T : u_T} {N ci index : Nat} {Ts : List Cond} (hts : ∀ w ∈ Ts, w.before args s = true) (hin : ∀ w ∈ u_ws C T N, w ∈ Ts) (ty0 : Nat → FieldType) (hty : ∀ k, k < N → parseFieldDescriptor (T k).2.2.1 = some (ty0 k)) (hnm : ∀ a, a < N → ∀ b, b < N → a ≠ b → (T a).2.1 ≠ (T b).2.1) (hown : s.vm.findClass own = some m.cls) (hK : kk D cA s) (hh : hw D M0 H0 M H locs) {fs : List Value} (ha : M a = some (.inr (ci, fs))) (hc : vwCl[ci]? = some (C, T, N)) (k : Nat) (hk : k < N) (hlink : (Cond.fieldLink own index ref (T k).2.1 (T k).2.2.1).before args s = true) (hsame : ∀ x, s.fieldFound? (T k).1 (T k).2.1 (T k).2.2.1 = some x → s.fieldFound? ref (T k).2.1 (T k).2.2.1 = some x) (hfin : (T k).2.2.2 = false) {ty : FieldType} {v : Value} (hd : parseFieldDescriptor (T k).2.2.1 = some ty) (hn : narrow ty v = v) (hfit : fits ty v = true) (hl : k < fs.length)
    (hdg : decode cc pc = .ok (.putfield index, 3)) (kk : ∀ (M1 : mp) (H1 : Heap) (locs1 : List Loc), M1 = mu M a (.inr (ci, fs.set k v)) → hw D M0 H0 M1 H1 locs1 → W p l e R s m args below meth c H1 locs1 cells slots Q (F0 m (pc + 3) ls rest)) : W p l e R s m args below meth c H locs cells slots Q (F0 m pc ls (v :: .ref a :: rest)) := by
  have hap := va_apart (own := own) hts hin ty0 hty hnm hK.1 hc
  obtain ⟨r, h1, cell, q1, q2, q3, q4⟩ := hh.1 a _ ha
  have hr : r = (C, T, N) := Option.some.inj (h1.symm.trans hc)
  subst hr
  obtain ⟨hS, hfc, kC, hkC, hkind⟩ := hK.1.1 ci _ hc
  obtain ⟨cf, kf, fi, f, hi, hsl⟩ := hS k hk
  have hlay := hts _ (hin _ (u_in_lay hk))
  unfold u_lay at hlay
  rw [if_neg (by rw [hfin]; decide)] at hlay
  have hst := (u_facts hfc hkC (u_lays hts hin hk) hi).1
  have h6 := u_store hfc hkC hkind hlay hi hd hn hfit
  refine W.putK hexec hb (f := f) ⟨hown, hlink, ⟨_, _, _, hsame _ hi⟩, hst⟩ (by rw [q2]; exact h6) q1 q3 (by rw [hsl]; exact k2_hasslot (q4 k hk)) rfl rfl hdg fun H' e1 e2 e3 => ?_
  rw [hsl] at e1 ⊢
  exact kk _ H' _ rfl (hh.put ha e2 e3 ⟨_, hc, t_OB.to (V := updV (vp_V fs) k v) ⟨_, e1, q2, q3, t_set q4 hap hk v⟩ (fun j _ => vp_updV_set hl v j)⟩)
theorem m_putF (hexec : p.tables.exec = Jvm.exec) (hb : c.code = cc) {own ref C : String} {T : u_T} {N ci index : Nat} {Ts : List Cond} (hts : ∀ w ∈ Ts, w.before args s = true) (hin : ∀ w ∈ u_ws C T N, w ∈ Ts) (ty0 : Nat → FieldType) (hty : ∀ k, k < N → parseFieldDescriptor (T k).2.2.1 = some (ty0 k)) (hnm : ∀ a, a < N → ∀ b, b < N → a ≠ b → (T a).2.1 ≠ (T b).2.1) (hown : s.vm.findClass own = some m.cls) (hK : kk D cA s) (hh : hw D M0 H0 M H locs) {fs : List Value} (ha : M a = some (.inr (ci, fs))) (hc : vwCl[ci]? = some (C, T, N)) (k : Nat) (hk : k < N) (hlink : (Cond.fieldLink own index ref (T k).2.1 (T k).2.2.1).before args s = true) (hsame : ∀ x, s.fieldFound? (T k).1 (T k).2.1 (T k).2.2.1 = some x → s.fieldFound? ref (T k).2.1 (T k).2.2.1 = some x) (hfin : (T k).2.2.2 = true) (hin2 : meth.name = "<init>") (hdecl : (T k).1 = own) {ty : FieldType} {v : Value} (hd : parseFieldDescriptor (T k).2.2.1 = some ty) (hn : narrow ty v = v) (hfit : fits ty v = true) (hl : k < fs.length)
    (hdg : decode cc pc = .ok (.putfield index, 3)) (kk : ∀ (M1 : mp) (H1 : Heap) (locs1 : List Loc), M1 = mu M a (.inr (ci, fs.set k v)) → hw D M0 H0 M1 H1 locs1 → W p l e R s m args below meth c H1 locs1 cells slots Q (F0 m (pc + 3) ls rest)) : W p l e R s m args below meth c H locs cells slots Q (F0 m pc ls (v :: .ref a :: rest)) := by
  have hap := va_apart (own := own) hts hin ty0 hty hnm hK.1 hc
  obtain ⟨r, h1, cell, q1, q2, q3, q4⟩ := hh.1 a _ ha
  have hr : r = (C, T, N) := Option.some.inj (h1.symm.trans hc)
  subst hr
  obtain ⟨hS, hfc, kC, hkC, hkind⟩ := hK.1.1 ci _ hc
  obtain ⟨cf, kf, fi, f, hi, hsl⟩ := hS k hk
  have hlay := hts _ (hin _ (u_in_lay hk))
  unfold u_lay at hlay
  rw [if_pos hfin] at hlay
  have hst := (u_facts hfc hkC (u_lays hts hin hk) hi).1
  have hcf : m.cls = cf := by
    obtain ⟨_, _, c', _, _, _, -, -, hf', -, -, -, hown2, -⟩ := Cond.laysFinal_spec hlay
    have e1 : c' = cf := by have := hi.symm.trans hf'; simp at this; exact this.1.symm
    rw [hdecl] at hown2
    rw [← e1]; exact Option.some.inj (hown.symm.trans hown2)
  have h6 := u_fits hfc hkC hkind (Or.inr hlay) hi hd hn hfit
  refine W.putFinK hexec hb hown hlink (hsame _ hi) hst hcf hin2 (by rw [q2]; exact h6) q1 q3 (by rw [hsl]; exact k2_hasslot (q4 k hk)) rfl rfl hdg fun H' e1 e2 e3 => ?_
  rw [hsl] at e1 ⊢
  exact kk _ H' _ rfl (hh.put ha e2 e3 ⟨_, hc, t_OB.to (V := updV (vp_V fs) k v) ⟨_, e1, q2, q3, t_set q4 hap hk v⟩ (fun j _ => vp_updV_set hl v j)⟩)
theorem m_last (hexec : p.tables.exec = Jvm.exec) (hb : c.code = cc) (hK : kk D cA s) (hh : hw D M0 H0 M H locs) {n : Nat} {f : Nat → Int64} (ha : M a = some (.inl (cA 0, n, .inr (.inl f)))) {i : Int32} {x : Int64} (hin : vp_in i n) (hdg : decode cc pc = .ok (.lastore, 1))
    (kk : ∀ (M1 : mp) (H1 : Heap) (locs1 : List Loc), M1 = mu M a (.inl (cA 0, n, .inr (.inl (vp_updL f i.toNatClampNeg x)))) → hw D M0 H0 M1 H1 locs1 → W p l e R s m args below meth c H1 locs1 cells slots Q (F0 m (pc + 1) ls rest)) : W p l e R s m args below meth c H locs cells slots Q (F0 m pc ls (.long x :: .int i :: .ref a :: rest)) := by
  refine W.last hexec hb (hh.1 a _ ha) ((hK.1.2 0 _ rfl).1 n (fun j => .long (f j))) (fun q => by cases q) (by show ¬ (i < 0 ∨ (arrV _ _ _).slots.size ≤ _); rw [arrV_size]; exact hin) rfl rfl hdg fun H1 e z oq => ?_
  refine kk _ H1 _ rfl (hh.put ha z oq ?_)
  show H1[a]? = some (vp_cell _ _)
  rw [e, vp_cell_l, vp_cell_l, arrV_store]
  congr 2
  funext q
  by_cases hq : q = i.toNatClampNeg
  · subst hq; simp [updV, vp_updL]
  · simp [updV, vp_updL, hq]
theorem m_iast (hexec : p.tables.exec = Jvm.exec) (hb : c.code = cc) (hK : kk D cA s) (hh : hw D M0 H0 M H locs) {n : Nat} {f : Nat → Int32} (ha : M a = some (.inl (cA 1, n, .inl f))) {i : Int32} {x : Int32} (hin : vp_in i n) (hdg : decode cc pc = .ok (.iastore, 1))
    (kk : ∀ (M1 : mp) (H1 : Heap) (locs1 : List Loc), M1 = mu M a (.inl (cA 1, n, .inl (upd f i.toNatClampNeg x))) → hw D M0 H0 M1 H1 locs1 → W p l e R s m args below meth c H1 locs1 cells slots Q (F0 m (pc + 1) ls rest)) : W p l e R s m args below meth c H locs cells slots Q (F0 m pc ls (.int x :: .int i :: .ref a :: rest)) := by
  refine W.iast hexec hb (hh.1 a _ ha) ((hK.1.2 1 _ rfl).1 n (fun j => .int (f j))) (fun q => by cases q) (by show ¬ (i < 0 ∨ (arrV _ _ _).slots.size ≤ _); rw [arrV_size]; exact hin) rfl rfl hdg fun H1 e z oq => ?_
  refine kk _ H1 _ rfl (hh.put ha z oq ?_)
  show H1[a]? = some (vp_cell _ _)
  rw [e, vp_cell_i, vp_cell_i, arrV_store]
  congr 2
  funext q
  by_cases hq : q = i.toNatClampNeg
  · subst hq; simp [updV, upd]
  · simp [updV, upd, hq]
theorem m_zast (hexec : p.tables.exec = Jvm.exec) (hb : c.code = cc) (hK : kk D cA s) (hh : hw D M0 H0 M H locs) {n : Nat} {f : Nat → Int32} (ha : M a = some (.inl (cA 2, n, .inl f))) {i : Int32} {x : Int32} (hx01 : x = 0 ∨ x = 1) (hin : vp_in i n) (hdg : decode cc pc = .ok (.bastore, 1))
    (kk : ∀ (M1 : mp) (H1 : Heap) (locs1 : List Loc), M1 = mu M a (.inl (cA 2, n, .inl (upd f i.toNatClampNeg x))) → hw D M0 H0 M1 H1 locs1 → W p l e R s m args below meth c H1 locs1 cells slots Q (F0 m (pc + 1) ls rest)) : W p l e R s m args below meth c H locs cells slots Q (F0 m pc ls (.int x :: .int i :: .ref a :: rest)) := by
  refine W.zast hexec hb (hh.1 a _ ha) ((hK.1.2 2 _ rfl).1 n (fun j => .int (f j))) (fun q => by cases q) (by show ¬ (i < 0 ∨ (arrV _ _ _).slots.size ≤ _); rw [arrV_size]; exact hin) rfl rfl hdg fun H1 e z oq => ?_
  refine kk _ H1 _ rfl (hh.put ha z oq ?_)
  show H1[a]? = some (vp_cell _ _)
  rw [e, vp_cell_i, vp_cell_i, arrV_store]
  congr 2
  funext q
  by_cases hq : q = i.toNatClampNeg
  · subst hq
    rcases hx01 with h | h <;> subst h <;> simp [updV, upd, narrow]
  · simp [updV, upd, hq]
end MapRows
end
section
section MapRows2
variable {p : Program} {l : Launch} {e : Env} {R : Room} {s : State} {m : MethodId} {args : Array Value} {below : List Frame} {meth : Method} {c : Code} {H : Heap} {locs : List Loc} {cells slots : Nat} {Q : State → Prop}
variable {cc : ByteArray} {pc : Nat} {ls : Array Slot} {rest : List Value} {D : va_G} {a : Nat} {H0 : Heap} {M M0 : mp} {cA : Nat → ClassId}
theorem m_astq (t0 : Nat) {r : vw_C} {ci : Nat} (ht : (tysA cA)[t0]? = some (cA t0, .object r.1)) (hexec : p.tables.exec = Jvm.exec) (hb : c.code = cc) (hK : kk D cA s) (hh : hw D M0 H0 M H locs) {n v : Nat} {vs : List Value} {f : Nat → Option Nat} (ha : M a = some (.inl (cA t0, n, .inr (.inr (.inr (.inr f)))))) (hv : M v = some (.inr (ci, vs))) (hc : vwCl[ci]? = some r) {i : Int32} (hin : vp_in i n) (hdg : decode cc pc = .ok (.aastore, 1))
    (kk : ∀ (M1 : mp) (H1 : Heap) (locs1 : List Loc), M1 = mu M a (.inl (cA t0, n, .inr (.inr (.inr (.inr (va_up f i.toNatClampNeg (some v))))))) → hw D M0 H0 M1 H1 locs1 → W p l e R s m args below meth c H1 locs1 cells slots Q (F0 m (pc + 1) ls rest)) : W p l e R s m args below meth c H locs cells slots Q (F0 m pc ls (.ref v :: .int i :: .ref a :: rest)) := by
  have hlt : i.toNatClampNeg < n := Nat.not_le.mp fun q => hin (Or.inr q)
  have h0 : ¬ i < 0 := fun q => hin (Or.inl q)
  obtain ⟨r', hr', cellV, g1, g2, g3, -⟩ := hh.1 v _ hv
  have hcls := (hK.1.1 ci r hc).2
  obtain ⟨kA, comp, k1, k2, k3, -⟩ := (hK.1.2 t0 _ ht).2
  have hcomp : comp = D.1 ci := Option.some.inj (k3.symm.trans hcls.1)
  subst hcomp
  obtain ⟨kC, hkC, -⟩ := hcls.2
  refine W.aast hexec hb (hh.1 a _ ha) (fun q h => by cases h) (fun h => by cases h) k1 k2 rfl hkC ⟨h0, by show _ < (arrV _ _ _).slots.size; rw [arrV_size]; exact hlt⟩ g1 (fun q h => by rw [g3] at h; cases h) (by rw [g2]; exact hkC) (by rw [g2]; exact va_assign hcls) rfl rfl hdg fun H1 e z oq => ?_
  refine kk _ H1 _ rfl (hh.put ha z oq ?_)
  show H1[a]? = some (vp_cell _ _)
  rw [e, vp_cell_q, vp_cell_q, arrV_store]
  congr 2
  funext q
  by_cases hq : q = i.toNatClampNeg
  · subst hq; simp [updV, va_up, va_rf]
  · simp [updV, va_up, hq]
theorem m_new (hexec : p.tables.exec = Jvm.exec) (hb : c.code = cc) {own C : String} {T : u_T} {N ci index : Nat} {Ts : List Cond} (hts : ∀ w ∈ Ts, w.before args s = true) (hin : ∀ w ∈ u_ws C T N, w ∈ Ts) (ty : Nat → FieldType) (hty : ∀ k, k < N → parseFieldDescriptor (T k).2.2.1 = some (ty k)) (hown : s.vm.findClass own = some m.cls) (hcl : (Cond.classLink own index C).before args s = true) (hinst : (Cond.instantiable C N).before args s = true) (hini : (Cond.initialized C).before args s = true)
    (hK : kk D cA s) (hh : hw D M0 H0 M H locs) (hc : vwCl[ci]? = some (C, T, N)) {fs : List Value} (hfs : ∀ j, j < N → defaultValue (ty j) = vp_V fs j) (hcells : cells + 1 ≤ R.cells) (hslots : slots + N ≤ R.slots) (hdg : decode cc pc = .ok (.new index, 3))
    (kk : ∀ (q : Nat) (M1 : mp) (H1 : Heap), q = H.size → M1 = mu M q (.inr (ci, fs)) → hw D M0 H0 M1 H1 locs → W p l e R s m args below meth c H1 locs (cells + 1) (slots + N) Q (F0 m (pc + 3) ls (.ref q :: rest))) : W p l e R s m args below meth c H locs cells slots Q (F0 m pc ls rest) := by
  have hKn := hK.1.1 ci _ hc
  refine W.newcK hexec hb hown hcl hinst hini rfl hdg hcells hslots hKn.2.1 rfl fun H1 kC hkC e1 z1 o1 => ?_
  exact kk H.size _ H1 rfl rfl (hh.push z1 o1 ⟨_, hc, (u_born ty hts hin hKn hkC e1 hty).to hfs⟩)
theorem m_newa (t0 : Nat) {ty : FieldType} (ht : (tysA cA)[t0]? = some (cA t0, ty)) (hexec : p.tables.exec = Jvm.exec) (hb : c.code = cc) {atype : ArrayType} (harr : (Cond.arrayClass (newarray.typeOf atype)).before args s = true) (hty : newarray.typeOf atype = ty) (hK : kk D cA s) (hh : hw D M0 H0 M H locs)
    {n : Int32} {N' : Nat} {a0 : vp_A} (ha : ∀ cA : ClassId, vp_cell cA a0 = arrV cA N' (fun _ => defaultValue ty)) (hn : ¬ n < 0) (hN : n.toNatClampNeg = N') (hbytes : N' * componentBytes ty ≤ 536870912) (hcells : cells + 1 ≤ R.cells) (hslots : slots + N' ≤ R.slots) (hdg : decode cc pc = .ok (.newarray atype, 2))
    (kk : ∀ (q : Nat) (M1 : mp) (H1 : Heap), q = H.size → M1 = mu M q (.inl (cA t0, a0)) → hw D M0 H0 M1 H1 locs → W p l e R s m args below meth c H1 locs (cells + 1) (slots + N') Q (F0 m (pc + 2) ls (.ref q :: rest))) : W p l e R s m args below meth c H locs cells slots Q (F0 m pc ls (.int n :: rest)) := by
  subst hty
  refine va_newaK hexec hb harr rfl hdg rfl hn hN hbytes hcells hslots rfl fun H1 cB e1 z1 o1 hAr hNm => ?_
  have hcB : cB = cA t0 := by
    have h1 := (hK.1.2 t0 _ ht).2
    have h2 : s.vm.findClass ("[" ++ (newarray.typeOf atype).toString) = some (cA t0) := by
      cases atype <;> exact h1
    exact Option.some.inj (hNm.symm.trans h2)
  subst hcB
  refine kk H.size _ H1 rfl rfl (hh.push z1 o1 ?_)
  show H1[H.size]? = some (vp_cell _ _)
  rw [ha]
  exact e1
theorem m_newq (t0 : Nat) {C : String} (ht : (tysA cA)[t0]? = some (cA t0, .object C)) (hexec : p.tables.exec = Jvm.exec) (hb : c.code = cc) {own : String} {index : Nat} (hown : s.vm.findClass own = some m.cls) (hclink : (Cond.classLink own index C).before args s = true) (hover : va_AO C s) (hK : kk D cA s) (hh : hw D M0 H0 M H locs)
    {n : Int32} {N' : Nat} (hn : ¬ n < 0) (hN : n.toNatClampNeg = N') (hbytes : N' * 4 ≤ 536870912) (hcells : cells + 1 ≤ R.cells) (hslots : slots + N' ≤ R.slots) (hdg : decode cc pc = .ok (.anewarray index, 3))
    (kk : ∀ (q : Nat) (M1 : mp) (H1 : Heap), q = H.size → M1 = mu M q (.inl (cA t0, N', .inr (.inr (.inr (.inr (fun _ => none)))))) → hw D M0 H0 M1 H1 locs → W p l e R s m args below meth c H1 locs (cells + 1) (slots + N') Q (F0 m (pc + 3) ls (.ref q :: rest))) : W p l e R s m args below meth c H locs cells slots Q (F0 m pc ls (.int n :: rest)) := by
  subst hN
  refine W.anew hexec hb hown hclink (va_AO.use hover) rfl hdg rfl hn hbytes hcells hslots fun cB kA comp f1 f2 f3 f4 => ?_
  have hcB : cB = cA t0 := by
    obtain ⟨_, _, _, _, _, h4⟩ := (hK.1.2 t0 _ ht).2
    exact Option.some.inj (f1.symm.trans h4)
  subst hcB
  generalize hH1 : H.push ({ cls := cA t0, slots := Array.replicate n.toNatClampNeg .null, vm := .none } : Cell) = H1
  have z1 : H1.size = H.size + 1 := by rw [← hH1, Array.size_push]
  have e1 : H1[H.size]? = some (arrV (cA t0) n.toNatClampNeg (fun _ => .null)) := by rw [← hH1, Array.getElem?_push_size, ← arrV_new]
  have o1 : ∀ q : Nat, q < H.size → H1[q]? = H[q]? := fun q hq => by rw [← hH1, Array.getElem?_push, if_neg (Nat.ne_of_lt hq)]
  refine kk H.size _ H1 rfl rfl (hh.push z1 o1 ?_)
  show H1[H.size]? = some (vp_cell _ _)
  rw [vp_cell_q]
  exact e1
/-! longs compared, then a branch -/
theorem lc_lt (hx : p.tables.exec = Jvm.exec) (hb : c.code = cc) {x y : Int64} {off : Int} {tgt : Nat} (d1 : decode cc pc = .ok (.lcmp, 1)) (d2 : decode cc (pc + 1) = .ok (.ifCond .lt off, 3)) (ht : ((pc + 1 : Nat) : Int) + off = (tgt : Int))
    (kt : x < y → W p l e R s m args below meth c H locs cells slots Q (F0 m tgt ls rest)) (kf : ¬ x < y → W p l e R s m args below meth c H locs cells slots Q (F0 m (pc + 4) ls rest)) : W p l e R s m args below meth c H locs cells slots Q (F0 m pc ls (.long y :: .long x :: rest)) :=
  W.lcmp hx hb d1 (lv_if_lt hx hb d2 ht (fun h => kt ((lg_cmp_lt x y).mp h)) (fun h => kf (fun g => h ((lg_cmp_lt x y).mpr g))))
theorem lc_ge (hx : p.tables.exec = Jvm.exec) (hb : c.code = cc) {x y : Int64} {off : Int} {tgt : Nat} (d1 : decode cc pc = .ok (.lcmp, 1)) (d2 : decode cc (pc + 1) = .ok (.ifCond .ge off, 3)) (ht : ((pc + 1 : Nat) : Int) + off = (tgt : Int))
    (kt : y ≤ x → W p l e R s m args below meth c H locs cells slots Q (F0 m tgt ls rest)) (kf : ¬ y ≤ x → W p l e R s m args below meth c H locs cells slots Q (F0 m (pc + 4) ls rest)) : W p l e R s m args below meth c H locs cells slots Q (F0 m pc ls (.long y :: .long x :: rest)) :=
  W.lcmp hx hb d1 (lv_if_ge hx hb d2 ht (fun h => kt ((lg_cmp_ge x y).mp h)) (fun h => kf (fun g => h ((lg_cmp_ge x y).mpr g))))
theorem lc_gt (hx : p.tables.exec = Jvm.exec) (hb : c.code = cc) {x y : Int64} {off : Int} {tgt : Nat} (d1 : decode cc pc = .ok (.lcmp, 1)) (d2 : decode cc (pc + 1) = .ok (.ifCond .gt off, 3)) (ht : ((pc + 1 : Nat) : Int) + off = (tgt : Int))
    (kt : y < x → W p l e R s m args below meth c H locs cells slots Q (F0 m tgt ls rest)) (kf : ¬ y < x → W p l e R s m args below meth c H locs cells slots Q (F0 m (pc + 4) ls rest)) : W p l e R s m args below meth c H locs cells slots Q (F0 m pc ls (.long y :: .long x :: rest)) :=
  W.lcmp hx hb d1 (lv_if_gt hx hb d2 ht (fun h => kt ((lg_cmp_gt x y).mp h)) (fun h => kf (fun g => h ((lg_cmp_gt x y).mpr g))))
theorem lc_le (hx : p.tables.exec = Jvm.exec) (hb : c.code = cc) {x y : Int64} {off : Int} {tgt : Nat} (d1 : decode cc pc = .ok (.lcmp, 1)) (d2 : decode cc (pc + 1) = .ok (.ifCond .le off, 3)) (ht : ((pc + 1 : Nat) : Int) + off = (tgt : Int))
    (kt : x ≤ y → W p l e R s m args below meth c H locs cells slots Q (F0 m tgt ls rest)) (kf : ¬ x ≤ y → W p l e R s m args below meth c H locs cells slots Q (F0 m (pc + 4) ls rest)) : W p l e R s m args below meth c H locs cells slots Q (F0 m pc ls (.long y :: .long x :: rest)) :=
  W.lcmp hx hb d1 (lv_if_le hx hb d2 ht (fun h => kt ((lg_cmp_le x y).mp h)) (fun h => kf (fun g => h ((lg_cmp_le x y).mpr g))))
theorem lc_eq (hx : p.tables.exec = Jvm.exec) (hb : c.code = cc) {x y : Int64} {off : Int} {tgt : Nat} (d1 : decode cc pc = .ok (.lcmp, 1)) (d2 : decode cc (pc + 1) = .ok (.ifCond .eq off, 3)) (ht : ((pc + 1 : Nat) : Int) + off = (tgt : Int))
    (kt : x = y → W p l e R s m args below meth c H locs cells slots Q (F0 m tgt ls rest)) (kf : ¬ x = y → W p l e R s m args below meth c H locs cells slots Q (F0 m (pc + 4) ls rest)) : W p l e R s m args below meth c H locs cells slots Q (F0 m pc ls (.long y :: .long x :: rest)) :=
  W.lcmp hx hb d1 (lv_if_eq hx hb d2 ht (fun h => kt ((lg_cmp_eq x y).mp h)) (fun h => kf (fun g => h ((lg_cmp_eq x y).mpr g))))
theorem lc_ne (hx : p.tables.exec = Jvm.exec) (hb : c.code = cc) {x y : Int64} {off : Int} {tgt : Nat} (d1 : decode cc pc = .ok (.lcmp, 1)) (d2 : decode cc (pc + 1) = .ok (.ifCond .ne off, 3)) (ht : ((pc + 1 : Nat) : Int) + off = (tgt : Int))
    (kt : ¬ x = y → W p l e R s m args below meth c H locs cells slots Q (F0 m tgt ls rest)) (kf : x = y → W p l e R s m args below meth c H locs cells slots Q (F0 m (pc + 4) ls rest)) : W p l e R s m args below meth c H locs cells slots Q (F0 m pc ls (.long y :: .long x :: rest)) :=
  W.lcmp hx hb d1 (lv_if_ne hx hb d2 ht (fun h => kt (fun g => h ((lg_cmp_eq x y).mpr g))) (fun h => kf ((lg_cmp_eq x y).mp h)))
/-! a value on top, under another name -/
theorem tpi {x x' : Int32} (h : x = x') (k : W p l e R s m args below meth c H locs cells slots Q (F0 m pc ls (.int x' :: rest))) : W p l e R s m args below meth c H locs cells slots Q (F0 m pc ls (.int x :: rest)) := by subst h; exact k
theorem tpl {x x' : Int64} (h : x = x') (k : W p l e R s m args below meth c H locs cells slots Q (F0 m pc ls (.long x' :: rest))) : W p l e R s m args below meth c H locs cells slots Q (F0 m pc ls (.long x :: rest)) := by subst h; exact k
theorem tpv {x x' : Value} (h : x = x') (k : W p l e R s m args below meth c H locs cells slots Q (F0 m pc ls (x' :: rest))) : W p l e R s m args below meth c H locs cells slots Q (F0 m pc ls (x :: rest)) := by subst h; exact k
/-! calls -/
variable {st0 : List Value} {mc ms : Nat} {y : MethodName} {bytes : ByteArray} {maxL nL n index fr lo : Nat} {ret : Option FieldType} {ws Ts : List Cond} {own C : String} {b : Addr} {As : List Value}
theorem run_pure {v : Option Value} (hr : va_Run p l e R s m args below meth c H locs cells slots 0 0 (F0 m pc ls st0) rest (fun st o t => o = .returned v ∧ t.heap = st.heap) (fun _ => False)) (k : W p l e R s m args below meth c H locs cells slots Q (F0 m (pc + 3) ls (v.toList ++ rest))) : W p l e R s m args below meth c H locs cells slots Q (F0 m pc ls st0) := by
  intro T hT X
  obtain ⟨v', st₀, t, T', L, h0, X', hL, e1, e2, ⟨hv, ht⟩, st⟩ := hr T hT X
  cases hv
  have hL0 : L = [] := by
    cases L with
    | nil => rfl
    | cons q _ => exact (hL q List.mem_cons_self).elim
  subst hL0
  rw [List.append_nil] at X'
  obtain ⟨t2, a1, b1⟩ := k T' (by rw [e1, ht, h0]) X'
  exact ⟨t2, st t2 a1, b1⟩
theorem run_mut {post : Option Value → mp → Prop} (hr : va_Run p l e R s m args below meth c H locs cells slots mc ms (F0 m pc ls st0) rest (MQc D M post) (fun q => M q ≠ none ∨ H.size ≤ q)) (hh : hw D M0 H0 M H locs)
    (k : ∀ (v : Option Value) (M1 : mp) (H1 : Heap) (locs1 : List Loc), post v M1 → hw D M0 H0 M1 H1 locs1 → H.size ≤ H1.size → (∀ q, q < H.size → M q = none → H1[q]? = H[q]?) → (∀ q, M1 q ≠ none → M q ≠ none ∨ H.size ≤ q) → W p l e R s m args below meth c H1 locs1 (cells + mc) (slots + ms) Q (F0 m (pc + 3) ls (v.toList ++ rest))) : W p l e R s m args below meth c H locs cells slots Q (F0 m pc ls st0) := by
  intro T hT X
  obtain ⟨v', st₀, t, T', L, h0, X', hL, e1, e2, ⟨v, M1, hv, hp, hm, hz, hk, hd⟩, st⟩ := hr T hT X
  cases hv
  rw [h0] at hz hk hd
  obtain ⟨h1, s1, s2, s3, s4⟩ := hh
  have hup : ∀ q, (M q ≠ none ∨ H.size ≤ q) → M0 q ≠ none ∨ H0.size ≤ q := fun q hq => by
    rcases hq with g | g
    · exact s3 q g
    · exact Or.inr (Nat.le_trans s1 g)
  obtain ⟨t2, a1, b1⟩ := k v' M1 T'.heap (locs ++ L) hp ⟨by rw [e1]; exact hm, by rw [e1]; exact Nat.le_trans s1 hz, fun q hq hn => by
      have hq' : q < H.size := Nat.lt_of_lt_of_le hq s1
      have hMq : M q = none := by
        cases hMq : M q with
        | none => rfl
        | some x => rcases s3 q (by rw [hMq]; exact fun z => by cases z) with g | g
                    · exact absurd hn g
                    · omega
      rw [e1, hk q hq' hMq]
      exact s2 q hq hn, fun q hq => hup q (hd q hq), fun x hx => by
      rcases List.mem_append.mp hx with g | g
      · exact s4 x g
      · exact hup _ (hL x g)⟩ (by rw [e1]; exact hz) (fun q h1 h2 => by rw [e1]; exact hk q h1 h2) hd T' rfl X'
  exact ⟨t2, st t2 a1, b1⟩
theorem blindP (M : mp) (As : List Value) : FrameBlind (va_Pc As (fun U => mh D M U.heap ∧ kk D cA U)) := fun a U g mk q => ⟨q.1, q.2.1, kk.same (u := U) (U := U.calling g mk a) rfl q.2.2⟩
theorem blindM (M : mp) (As : List Value) (sz : Nat) : FrameBlind (va_Pc As (fun U => U.heap.size = sz ∧ mh D M U.heap ∧ kk D cA U)) := fun a U g mk q => ⟨q.1, q.2.1, q.2.2.1, kk.same (u := U) (U := U.calling g mk a) rfl q.2.2.2⟩
theorem preP (hK : kk D cA s) (hM : mh D M H) (As : List Value) : PreS s H (va_Pc As (fun U => mh D M U.heap ∧ kk D cA U)) As := ⟨blindP M As, fun U hU hW => ⟨rfl, by rw [hU]; exact hM, hK.warm hW⟩⟩
theorem preM (hK : kk D cA s) (hM : mh D M H) (As : List Value) : PreS s H (va_Pc As (fun U => U.heap.size = H.size ∧ mh D M U.heap ∧ kk D cA U)) As := ⟨blindM M As H.size, fun U hU hW => ⟨rfl, by rw [hU], by rw [hU]; exact hM, hK.warm hW⟩⟩
theorem recvM (hK : kk D cA s) (hM : mh D M H) {ci : Nat} {fs : List Value} {q : vw_C} (hb : M b = some (.inr (ci, fs))) (hc : vwCl[ci]? = some q) : ∃ cellB : Cell, H[b]? = some cellB ∧ cellB.vm.isStatics = false ∧ s.vm.findClass q.1 = some cellB.cls := va_recv hK.1 (hM.P1 hb) hc (q0 := 0) rfl
/-- a pure call of a static method -/
theorem cpS {v : Value} (hP : PC l D cA y ws fr lo As M (some v)) (S : CallFix p m c cc nL s args Ts own) (cw : CallB R s args own index y bytes maxL ret ws ({ frames := fr, cells := 0, slots := 0, locals := lo }) 0 0 n ∧ (Cond.static y).before args s = true) (hK : kk D cA s) (hM : mh D M H) (hn : As.length = n) (hsize : ls.size = nL) (hst : st0 = As.reverse ++ rest) (hW : (rest.map fun v => v.category).sum ≤ 8) (hdg : decode cc pc = .ok (.invokestatic index, 3)) (hf : cells ≤ R.cells ∧ slots ≤ R.slots)
    (k : W p l e R s m args below meth c H locs cells slots Q (F0 m (pc + 3) ls (v :: rest))) : W p l e R s m args below meth c H locs cells slots Q (F0 m pc ls st0) :=
  run_pure (v := some v) (va_runS S hP cw (preP hK hM As) rfl hn hsize hst (lv_room (rest := st0) hW) hdg hf) k
theorem cpSN {v : Value} {host : String} (hP : PC l D cA y ws fr lo As M (some v)) (S : CallFix p m c cc nL s args Ts own) (cw : va_CN R s args own index y host bytes maxL ret ws ({ frames := fr, cells := 0, slots := 0, locals := lo }) 0 0 n ∧ (Cond.static y).before args s = true ∧ True) (hK : kk D cA s) (hM : mh D M H) (hn : As.length = n) (hsize : ls.size = nL) (hst : st0 = As.reverse ++ rest) (hW : (rest.map fun v => v.category).sum ≤ 8) (hdg : decode cc pc = .ok (.invokestatic index, 3)) (hf : cells ≤ R.cells ∧ slots ≤ R.slots)
    (k : W p l e R s m args below meth c H locs cells slots Q (F0 m (pc + 3) ls (v :: rest))) : W p l e R s m args below meth c H locs cells slots Q (F0 m pc ls st0) :=
  run_pure (v := some v) (va_runSN S hP cw (preP hK hM As) rfl hn hsize hst (lv_room (rest := st0) hW) hdg hf) k
theorem cpV {v : Value} {ci : Nat} {fs : List Value} {q : vw_C} (hP : PC l D cA y ws fr lo (.ref b :: As) M (some v)) (S : CallFix p m c cc nL s args Ts own) (cw : CallW R s args own q.1 index y bytes maxL ret ws ({ frames := fr, cells := 0, slots := 0, locals := lo }) 0 0 n) (hK : kk D cA s) (hM : mh D M H) (hb : M b = some (.inr (ci, fs))) (hc : vwCl[ci]? = some q) (hn : As.length = n) (hsize : ls.size = nL) (hst : st0 = As.reverse ++ .ref b :: rest) (hW : (rest.map fun v => v.category).sum ≤ 8) (hdg : decode cc pc = .ok (.invokevirtual index, 3)) (hf : cells ≤ R.cells ∧ slots ≤ R.slots)
    (k : W p l e R s m args below meth c H locs cells slots Q (F0 m (pc + 3) ls (v :: rest))) : W p l e R s m args below meth c H locs cells slots Q (F0 m pc ls st0) :=
  run_pure (v := some v) (va_runV S hP cw ⟨blindP M _, recvM hK hM hb hc, (preP hK hM _).2⟩ rfl hn hsize hst (lv_room (rest := st0) hW) hdg hf) k
/-- calls that write -/
theorem cmV {post : Option Value → mp → Prop} {ci : Nat} {fs : List Value} {q : vw_C} (hP : MC l D cA y ws fr lo mc ms (.ref b :: As) M post) (S : CallFix p m c cc nL s args Ts own) (cw : CallW R s args own q.1 index y bytes maxL ret ws ({ frames := fr, cells := mc, slots := ms, locals := lo }) mc ms n) (hK : kk D cA s) (hh : hw D M0 H0 M H locs) (hb : M b = some (.inr (ci, fs))) (hc : vwCl[ci]? = some q) (hn : As.length = n) (hsize : ls.size = nL) (hst : st0 = As.reverse ++ .ref b :: rest) (hW : (rest.map fun v => v.category).sum ≤ 8) (hdg : decode cc pc = .ok (.invokevirtual index, 3)) (hf : cells + mc ≤ R.cells ∧ slots + ms ≤ R.slots)
    (k : ∀ (v : Option Value) (M1 : mp) (H1 : Heap) (locs1 : List Loc), post v M1 → hw D M0 H0 M1 H1 locs1 → H.size ≤ H1.size → (∀ q, q < H.size → M q = none → H1[q]? = H[q]?) → (∀ q, M1 q ≠ none → M q ≠ none ∨ H.size ≤ q) → W p l e R s m args below meth c H1 locs1 (cells + mc) (slots + ms) Q (F0 m (pc + 3) ls (v.toList ++ rest))) : W p l e R s m args below meth c H locs cells slots Q (F0 m pc ls st0) :=
  run_mut (va_runV S (hP H.size) cw ⟨blindM M _ _, recvM hK hh.1 hb hc, (preM hK hh.1 _).2⟩ rfl hn hsize hst (lv_room (rest := st0) hW) hdg hf) hh k
theorem cmS {post : Option Value → mp → Prop} (hP : MC l D cA y ws fr lo mc ms As M post) (S : CallFix p m c cc nL s args Ts own) (cw : CallB R s args own index y bytes maxL ret ws ({ frames := fr, cells := mc, slots := ms, locals := lo }) mc ms n ∧ (Cond.static y).before args s = true) (hK : kk D cA s) (hh : hw D M0 H0 M H locs) (hn : As.length = n) (hsize : ls.size = nL) (hst : st0 = As.reverse ++ rest) (hW : (rest.map fun v => v.category).sum ≤ 8) (hdg : decode cc pc = .ok (.invokestatic index, 3)) (hf : cells + mc ≤ R.cells ∧ slots + ms ≤ R.slots)
    (k : ∀ (v : Option Value) (M1 : mp) (H1 : Heap) (locs1 : List Loc), post v M1 → hw D M0 H0 M1 H1 locs1 → H.size ≤ H1.size → (∀ q, q < H.size → M q = none → H1[q]? = H[q]?) → (∀ q, M1 q ≠ none → M q ≠ none ∨ H.size ≤ q) → W p l e R s m args below meth c H1 locs1 (cells + mc) (slots + ms) Q (F0 m (pc + 3) ls (v.toList ++ rest))) : W p l e R s m args below meth c H locs cells slots Q (F0 m pc ls st0) :=
  run_mut (va_runS S (hP H.size) cw (preM hK hh.1 As) rfl hn hsize hst (lv_room (rest := st0) hW) hdg hf) hh k
theorem cmI {post : Option Value → mp → Prop} (hP : MC l D cA y ws fr lo mc ms (.ref b :: As) M post) (S : CallFix p m c cc nL s args Ts own) (cw : CallB R s args own index y bytes maxL none ws ({ frames := fr, cells := mc, slots := ms, locals := lo }) mc ms n ∧ y.name = "<init>" ∧ (Cond.instanceMethod y).before args s = true) (hK : kk D cA s) (hh : hw D M0 H0 M H locs) (hn : As.length = n) (hsize : ls.size = nL) (hst : st0 = As.reverse ++ .ref b :: rest) (hW : (rest.map fun v => v.category).sum ≤ 8) (hdg : decode cc pc = .ok (.invokespecial index, 3)) (hf : cells + mc ≤ R.cells ∧ slots + ms ≤ R.slots)
    (k : ∀ (v : Option Value) (M1 : mp) (H1 : Heap) (locs1 : List Loc), post v M1 → hw D M0 H0 M1 H1 locs1 → H.size ≤ H1.size → (∀ q, q < H.size → M q = none → H1[q]? = H[q]?) → (∀ q, M1 q ≠ none → M q ≠ none ∨ H.size ≤ q) → W p l e R s m args below meth c H1 locs1 (cells + mc) (slots + ms) Q (F0 m (pc + 3) ls (v.toList ++ rest))) : W p l e R s m args below meth c H locs cells slots Q (F0 m pc ls st0) :=
  run_mut (va_runI S (hP H.size) cw (preM hK hh.1 _) rfl hn hsize hst (lv_room (rest := st0) hW) hdg hf) hh k
theorem cmIN {post : Option Value → mp → Prop} {host : String} (hP : MC l D cA y ws fr lo mc ms (.ref b :: As) M post) (S : CallFix p m c cc nL s args Ts own) (cw : va_CN R s args own index y host bytes maxL none ws ({ frames := fr, cells := mc, slots := ms, locals := lo }) mc ms n ∧ y.name = "<init>" ∧ (Cond.instanceMethod y).before args s = true) (hK : kk D cA s) (hh : hw D M0 H0 M H locs) (hn : As.length = n) (hsize : ls.size = nL) (hst : st0 = As.reverse ++ .ref b :: rest) (hW : (rest.map fun v => v.category).sum ≤ 8) (hdg : decode cc pc = .ok (.invokespecial index, 3)) (hf : cells + mc ≤ R.cells ∧ slots + ms ≤ R.slots)
    (k : ∀ (v : Option Value) (M1 : mp) (H1 : Heap) (locs1 : List Loc), post v M1 → hw D M0 H0 M1 H1 locs1 → H.size ≤ H1.size → (∀ q, q < H.size → M q = none → H1[q]? = H[q]?) → (∀ q, M1 q ≠ none → M q ≠ none ∨ H.size ≤ q) → W p l e R s m args below meth c H1 locs1 (cells + mc) (slots + ms) Q (F0 m (pc + 3) ls (v.toList ++ rest))) : W p l e R s m args below meth c H locs cells slots Q (F0 m pc ls st0) :=
  run_mut (va_runIN S (hP H.size) cw (preM hK hh.1 _) rfl hn hsize hst (lv_room (rest := st0) hW) hdg hf) hh k
end MapRows2
section Intro
variable {l : Launch} {D : va_G} {cA : Nat → ClassId} {y : MethodName} {ws ws' : List Cond} {fr lo mc ms maxL : Nat} {As : List Value} {M : mp} {cc : ByteArray}
/-- what a method's body begins with -/
abbrev Bg (p : Program) (s : State) (m : MethodId) (args : Array Value) (meth : Method) (c : Code) (D : va_G) (cA : Nat → ClassId) (y : MethodName) (cc : ByteArray) (ws : List Cond) (maxL : Nat) : Prop :=
  p.tables.exec = Jvm.exec ∧ c.code = cc ∧ s.vm.findClass y.cls = some m.cls ∧ (∀ w ∈ ws, w.before args s = true) ∧ c.maxLocals = maxL ∧ kk D cA s ∧ meth.name = y.name
theorem PC.of {v : Value} {ret : Option FieldType} (hy : plainName y.cls = true) (hww : ws = Cond.code y cc maxL ret :: ws') (hlen : (lg_sl As).length ≤ maxL)
    (body : ∀ (p : Program) (e : Env) (s : State) (m : MethodId) (args : Array Value) (below : List Frame) (meth : Method) (c : Code) (H : Heap) (ls : Array Slot), Bg p s m args meth c D cA y cc ws maxL → meth.sig.returnType = ret → meth.locks = false → mh D M H → lv_has ls maxL (lv_args 0 As) → s.heap = H →
      W p l e ({ frames := fr, cells := 0, slots := 0, locals := lo }) s m args below meth c H [] 0 0 (MQ below (fun _ st o t => o = .returned (some v) ∧ t.heap = st.heap) args s 0 0 (fun _ => False)) (F0 m 0 ls [])) : PC l D cA y ws fr lo As M (some v) := by
  refine Met.ofW hy hww ?_
  intro p e s m args below meth c s₁ B hml hv
  obtain ⟨rfl, hM, hK⟩ := hv
  rw [lg_entry_eq]
  exact body p e s m _ below meth c s.heap _ ⟨B.exec, B.bytes, findClass_of_methodNamed B.named, atoms_spec (ws := ws) B.pre, hml, hK, (name_of_methodNamed B.named B.method).1⟩ B.returns B.notSynchronized hM (lv_entry As hlen) rfl
/-- pure, a long -/
theorem PC.lg {r : Int64} (hy : plainName y.cls = true) (hww : ws = Cond.code y cc maxL (some .long) :: ws') (hlen : (lg_sl As).length ≤ maxL)
    (body : ∀ (p : Program) (e : Env) (s : State) (m : MethodId) (args : Array Value) (below : List Frame) (meth : Method) (c : Code) (H : Heap) (Q : State → Prop) (ls : Array Slot), Bg p s m args meth c D cA y cc ws maxL → mh D M H → lv_has ls maxL (lv_args 0 As) →
      (∀ (pc : Nat) (ls : Array Slot) (x : Int64), decode cc pc = .ok (.lreturn, 1) → x = r → W p l e ({ frames := fr, cells := 0, slots := 0, locals := lo }) s m args below meth c H [] 0 0 Q (F0 m pc ls [.long x])) →
      W p l e ({ frames := fr, cells := 0, slots := 0, locals := lo }) s m args below meth c H [] 0 0 Q (F0 m 0 ls [])) : PC l D cA y ws fr lo As M (some (.long r)) := by
  refine PC.of hy hww hlen ?_
  intro p e s m args below meth c H ls B hr hlk hM hl hH
  refine body p e s m args below meth c H _ ls B hM hl ?_
  intro pc ls x hdg hx
  subst hx
  exact W.lret B.1 B.2.1 hr (fun t ht hW => ⟨rfl, by rw [ht, hH]⟩) (fun q hq => by cases hq) hdg hlk
theorem PC.it {r : Int32} (hy : plainName y.cls = true) (hww : ws = Cond.code y cc maxL (some .int) :: ws') (hlen : (lg_sl As).length ≤ maxL)
    (body : ∀ (p : Program) (e : Env) (s : State) (m : MethodId) (args : Array Value) (below : List Frame) (meth : Method) (c : Code) (H : Heap) (Q : State → Prop) (ls : Array Slot), Bg p s m args meth c D cA y cc ws maxL → mh D M H → lv_has ls maxL (lv_args 0 As) →
      (∀ (pc : Nat) (ls : Array Slot) (x : Int32), decode cc pc = .ok (.ireturn, 1) → x = r → W p l e ({ frames := fr, cells := 0, slots := 0, locals := lo }) s m args below meth c H [] 0 0 Q (F0 m pc ls [.int x])) →
      W p l e ({ frames := fr, cells := 0, slots := 0, locals := lo }) s m args below meth c H [] 0 0 Q (F0 m 0 ls [])) : PC l D cA y ws fr lo As M (some (.int r)) := by
  refine PC.of hy hww hlen ?_
  intro p e s m args below meth c H ls B hr hlk hM hl hH
  refine body p e s m args below meth c H _ ls B hM hl ?_
  intro pc ls x hdg hx
  subst hx
  exact W.iret B.1 B.2.1 hr (fun t ht hW => ⟨rfl, by rw [ht, hH]⟩) (fun q hq => by cases hq) hdg hlk
def bI (b : Bool) : Int32 := if b then 1 else 0
theorem bI_nar (b : Bool) : narrow .boolean (.int (bI b)) = .int (bI b) := by cases b <;> rfl
theorem bI_01 (b : Bool) : bI b = 0 ∨ bI b = 1 := by cases b <;> simp [bI]
/-- pure, a boolean -/
theorem PC.zz {r : Bool} (hy : plainName y.cls = true) (hww : ws = Cond.code y cc maxL (some .boolean) :: ws') (hlen : (lg_sl As).length ≤ maxL)
    (body : ∀ (p : Program) (e : Env) (s : State) (m : MethodId) (args : Array Value) (below : List Frame) (meth : Method) (c : Code) (H : Heap) (Q : State → Prop) (ls : Array Slot), Bg p s m args meth c D cA y cc ws maxL → mh D M H → lv_has ls maxL (lv_args 0 As) →
      (∀ (pc : Nat) (ls : Array Slot) (x : Int32), decode cc pc = .ok (.ireturn, 1) → x = bI r → W p l e ({ frames := fr, cells := 0, slots := 0, locals := lo }) s m args below meth c H [] 0 0 Q (F0 m pc ls [.int x])) →
      W p l e ({ frames := fr, cells := 0, slots := 0, locals := lo }) s m args below meth c H [] 0 0 Q (F0 m 0 ls [])) : PC l D cA y ws fr lo As M (some (.int (bI r))) := by
  refine PC.of hy hww hlen ?_
  intro p e s m args below meth c H ls B hr hlk hM hl hH
  refine body p e s m args below meth c H _ ls B hM hl ?_
  intro pc ls x hdg hx
  subst hx
  exact W.zret B.1 B.2.1 hr (bI_nar r) (fun t ht hW => ⟨rfl, by rw [ht, hH]⟩) (fun q hq => by cases hq) hdg hlk
/-- a method that writes -/
theorem MC.of {post : Option Value → mp → Prop} {ret : Option FieldType} (hy : plainName y.cls = true) (hww : ws = Cond.code y cc maxL ret :: ws') (hlen : (lg_sl As).length ≤ maxL)
    (body : ∀ (p : Program) (e : Env) (s : State) (m : MethodId) (args : Array Value) (below : List Frame) (meth : Method) (c : Code) (Q : State → Prop) (ls : Array Slot), Bg p s m args meth c D cA y cc ws maxL → hw D M s.heap M s.heap [] → lv_has ls maxL (lv_args 0 As) →
      (∀ (M1 : mp) (H1 : Heap) (locs1 : List Loc) (cells slots pc : Nat) (ls : Array Slot), hw D M s.heap M1 H1 locs1 → post none M1 → cells ≤ mc → slots ≤ ms → decode cc pc = .ok (.return_, 1) → ret = none → W p l e ({ frames := fr, cells := mc, slots := ms, locals := lo }) s m args below meth c H1 locs1 cells slots Q (F0 m pc ls [])) →
      (∀ (M1 : mp) (H1 : Heap) (locs1 : List Loc) (cells slots pc : Nat) (ls : Array Slot) (x : Int32), hw D M s.heap M1 H1 locs1 → post (some (.int x)) M1 → cells ≤ mc → slots ≤ ms → decode cc pc = .ok (.ireturn, 1) → ret = some .int → W p l e ({ frames := fr, cells := mc, slots := ms, locals := lo }) s m args below meth c H1 locs1 cells slots Q (F0 m pc ls [.int x])) →
      (∀ (M1 : mp) (H1 : Heap) (locs1 : List Loc) (cells slots pc : Nat) (ls : Array Slot) (x : Int32) (b : Bool), hw D M s.heap M1 H1 locs1 → x = bI b → post (some (.int (bI b))) M1 → cells ≤ mc → slots ≤ ms → decode cc pc = .ok (.ireturn, 1) → ret = some .boolean → W p l e ({ frames := fr, cells := mc, slots := ms, locals := lo }) s m args below meth c H1 locs1 cells slots Q (F0 m pc ls [.int x])) →
      (∀ (M1 : mp) (H1 : Heap) (locs1 : List Loc) (cells slots pc : Nat) (ls : Array Slot) (x : Int64), hw D M s.heap M1 H1 locs1 → post (some (.long x)) M1 → cells ≤ mc → slots ≤ ms → decode cc pc = .ok (.lreturn, 1) → ret = some .long → W p l e ({ frames := fr, cells := mc, slots := ms, locals := lo }) s m args below meth c H1 locs1 cells slots Q (F0 m pc ls [.long x])) →
      (∀ (M1 : mp) (H1 : Heap) (locs1 : List Loc) (cells slots pc : Nat) (ls : Array Slot) (x : Nat) (C : String), hw D M s.heap M1 H1 locs1 → post (some (.ref x)) M1 → cells ≤ mc → slots ≤ ms → decode cc pc = .ok (.areturn, 1) → ret = some (.object C) → W p l e ({ frames := fr, cells := mc, slots := ms, locals := lo }) s m args below meth c H1 locs1 cells slots Q (F0 m pc ls [.ref x])) →
      W p l e ({ frames := fr, cells := mc, slots := ms, locals := lo }) s m args below meth c s.heap [] 0 0 Q (F0 m 0 ls [])) : MC l D cA y ws fr lo mc ms As M post := by
  intro sz
  refine Met.ofW hy hww ?_
  intro p e s m args below meth c s₁ B hml hv
  obtain ⟨rfl, hsz, hM, hK⟩ := hv
  subst hsz
  rw [lg_entry_eq]
  have hlk := B.notSynchronized
  have hend : ∀ (v : Option Value) (M1 : mp) (H1 : Heap) (locs1 : List Loc), hw D M s.heap M1 H1 locs1 → post v M1 → ∀ t : State, t.heap = H1 → s.WarmedH t.vm → MQc D M post s (.returned v) t := by
    intro v M1 H1 locs1 hh hp t ht hW
    obtain ⟨h1, s1, s2, s3, s4⟩ := hh
    exact ⟨v, M1, rfl, hp, by rw [ht]; exact h1, by rw [ht]; exact s1, fun q h h' => by rw [ht]; exact s2 q h h', s3⟩
  refine body p e s m _ below meth c _ _ ⟨B.exec, B.bytes, findClass_of_methodNamed B.named, atoms_spec (ws := ws) B.pre, hml, hK, (name_of_methodNamed B.named B.method).1⟩ (hw.rf hM) (lv_entry As hlen) ?_ ?_ ?_ ?_ ?_
  · intro M1 H1 locs1 cells slots pc ls hh hp hc1 hs1 hdg hret
    refine W.widen hc1 hs1 ?_
    exact W.vret B.exec B.bytes (by rw [B.returns, hret]) (hend _ _ _ _ hh hp) (fun q hq => hh.2.2.2.2 q hq) hdg hlk
  · intro M1 H1 locs1 cells slots pc ls x hh hp hc1 hs1 hdg hret
    refine W.widen hc1 hs1 ?_
    exact W.iret B.exec B.bytes (by rw [B.returns, hret]) (hend _ _ _ _ hh hp) (fun q hq => hh.2.2.2.2 q hq) hdg hlk
  · intro M1 H1 locs1 cells slots pc ls x b hh hx hp hc1 hs1 hdg hret
    subst hx
    refine W.widen hc1 hs1 ?_
    exact W.zret B.exec B.bytes (by rw [B.returns, hret]) (bI_nar b) (hend _ _ _ _ hh hp) (fun q hq => hh.2.2.2.2 q hq) hdg hlk
  · intro M1 H1 locs1 cells slots pc ls x hh hp hc1 hs1 hdg hret
    refine W.widen hc1 hs1 ?_
    exact W.lret B.exec B.bytes (by rw [B.returns, hret]) (hend _ _ _ _ hh hp) (fun q hq => hh.2.2.2.2 q hq) hdg hlk
  · intro M1 H1 locs1 cells slots pc ls x C hh hp hc1 hs1 hdg hret
    refine W.widen hc1 hs1 ?_
    exact W.aret B.exec B.bytes (by rw [B.returns, hret]) (Or.inl ⟨C, rfl⟩) (Or.inr ⟨x, rfl⟩) (hend _ _ _ _ hh hp) (fun q hq => hh.2.2.2.2 q hq) hdg hlk
end Intro
end
section
section MapRows3
variable {p : Program} {l : Launch} {e : Env} {R : Room} {s : State} {m : MethodId} {args : Array Value} {below : List Frame} {meth : Method} {c : Code} {H : Heap} {locs : List Loc} {cells slots : Nat} {Q : State → Prop}
variable {cc : ByteArray} {pc : Nat} {ls : Array Slot} {rest : List Value} {D : va_G} {a : Nat} {H0 : Heap} {M M0 : mp} {cA : Nat → ClassId}
theorem m_laldN {k n : Nat} (hx : p.tables.exec = Jvm.exec) (hb : c.code = cc) (hK : kk D cA s) (hM : mh D M H) {f : Nat → Int64} (ha : M a = some (.inl (cA 0, n, .inr (.inl f)))) {i : Int32} (hi : i = nI k) (hk : k < n) (hn : n < 2 ^ 31) (hdg : decode cc pc = .ok (.laload, 1))
    (kk : W p l e R s m args below meth c H locs cells slots Q (F0 m (pc + 1) ls (.long (f k) :: rest))) : W p l e R s m args below meth c H locs cells slots Q (F0 m pc ls (.int i :: .ref a :: rest)) := by
  subst hi
  refine m_lald hx hb hK hM ha (vp_in_nI hk hn) hdg ?_
  rw [nI_clamp (by omega)]
  exact kk
theorem m_ialdN {k n : Nat} (hx : p.tables.exec = Jvm.exec) (hb : c.code = cc) (hK : kk D cA s) (hM : mh D M H) {f : Nat → Int32} (ha : M a = some (.inl (cA 1, n, .inl f))) {i : Int32} (hi : i = nI k) (hk : k < n) (hn : n < 2 ^ 31) (hdg : decode cc pc = .ok (.iaload, 1))
    (kk : W p l e R s m args below meth c H locs cells slots Q (F0 m (pc + 1) ls (.int (f k) :: rest))) : W p l e R s m args below meth c H locs cells slots Q (F0 m pc ls (.int i :: .ref a :: rest)) := by
  subst hi
  refine m_iald hx hb hK hM ha (vp_in_nI hk hn) hdg ?_
  rw [nI_clamp (by omega)]
  exact kk
theorem m_zaldN {k n : Nat} (hx : p.tables.exec = Jvm.exec) (hb : c.code = cc) (hK : kk D cA s) (hM : mh D M H) {f : Nat → Int32} (ha : M a = some (.inl (cA 2, n, .inl f))) {i : Int32} (hi : i = nI k) (hk : k < n) (hn : n < 2 ^ 31) (hdg : decode cc pc = .ok (.baload, 1))
    (kk : W p l e R s m args below meth c H locs cells slots Q (F0 m (pc + 1) ls (.int (f k) :: rest))) : W p l e R s m args below meth c H locs cells slots Q (F0 m pc ls (.int i :: .ref a :: rest)) := by
  subst hi
  refine m_zald hx hb hK hM ha (vp_in_nI hk hn) hdg ?_
  rw [nI_clamp (by omega)]
  exact kk
theorem m_aldSN {k n : Nat} (hx : p.tables.exec = Jvm.exec) (hb : c.code = cc) (hK : kk D cA s) (hM : mh D M H) {f : Nat → Option Nat} (ha : M a = some (.inl (cA 3, n, .inr (.inr (.inr (.inr f)))))) {i : Int32} (hi : i = nI k) (hk : k < n) (hn : n < 2 ^ 31) (hdg : decode cc pc = .ok (.aaload, 1))
    (kk : W p l e R s m args below meth c H locs cells slots Q (F0 m (pc + 1) ls (va_rf (f k) :: rest))) : W p l e R s m args below meth c H locs cells slots Q (F0 m pc ls (.int i :: .ref a :: rest)) := by
  subst hi
  refine m_aldS hx hb hK hM ha (vp_in_nI hk hn) hdg ?_
  rw [nI_clamp (by omega)]
  exact kk
theorem m_aldTN {k n : Nat} (hx : p.tables.exec = Jvm.exec) (hb : c.code = cc) (hK : kk D cA s) (hM : mh D M H) {f : Nat → Option Nat} (ha : M a = some (.inl (cA 4, n, .inr (.inr (.inr (.inr f)))))) {i : Int32} (hi : i = nI k) (hk : k < n) (hn : n < 2 ^ 31) (hdg : decode cc pc = .ok (.aaload, 1))
    (kk : W p l e R s m args below meth c H locs cells slots Q (F0 m (pc + 1) ls (va_rf (f k) :: rest))) : W p l e R s m args below meth c H locs cells slots Q (F0 m pc ls (.int i :: .ref a :: rest)) := by
  subst hi
  refine m_aldT hx hb hK hM ha (vp_in_nI hk hn) hdg ?_
  rw [nI_clamp (by omega)]
  exact kk
theorem m_lastN {k n : Nat} (hx : p.tables.exec = Jvm.exec) (hb : c.code = cc) (hK : kk D cA s) (hh : hw D M0 H0 M H locs) {f : Nat → Int64} (ha : M a = some (.inl (cA 0, n, .inr (.inl f)))) {i : Int32} {x : Int64} (hi : i = nI k) (hk : k < n) (hn : n < 2 ^ 31) (hdg : decode cc pc = .ok (.lastore, 1))
    (kk : ∀ (M1 : mp) (H1 : Heap) (locs1 : List Loc), M1 = mu M a (.inl (cA 0, n, .inr (.inl (vp_updL f k x)))) → hw D M0 H0 M1 H1 locs1 → W p l e R s m args below meth c H1 locs1 cells slots Q (F0 m (pc + 1) ls rest)) : W p l e R s m args below meth c H locs cells slots Q (F0 m pc ls (.long x :: .int i :: .ref a :: rest)) := by
  subst hi
  refine m_last hx hb hK hh ha (vp_in_nI hk hn) hdg ?_
  rw [nI_clamp (by omega)]
  exact kk
theorem m_iastN {k n : Nat} (hx : p.tables.exec = Jvm.exec) (hb : c.code = cc) (hK : kk D cA s) (hh : hw D M0 H0 M H locs) {f : Nat → Int32} (ha : M a = some (.inl (cA 1, n, .inl f))) {i : Int32} {x : Int32} (hi : i = nI k) (hk : k < n) (hn : n < 2 ^ 31) (hdg : decode cc pc = .ok (.iastore, 1))
    (kk : ∀ (M1 : mp) (H1 : Heap) (locs1 : List Loc), M1 = mu M a (.inl (cA 1, n, .inl (upd f k x))) → hw D M0 H0 M1 H1 locs1 → W p l e R s m args below meth c H1 locs1 cells slots Q (F0 m (pc + 1) ls rest)) : W p l e R s m args below meth c H locs cells slots Q (F0 m pc ls (.int x :: .int i :: .ref a :: rest)) := by
  subst hi
  refine m_iast hx hb hK hh ha (vp_in_nI hk hn) hdg ?_
  rw [nI_clamp (by omega)]
  exact kk
theorem m_zastN {k n : Nat} (hx : p.tables.exec = Jvm.exec) (hb : c.code = cc) (hK : kk D cA s) (hh : hw D M0 H0 M H locs) {f : Nat → Int32} (ha : M a = some (.inl (cA 2, n, .inl f))) {i : Int32} {x : Int32} (h01 : x = 0 ∨ x = 1) (hi : i = nI k) (hk : k < n) (hn : n < 2 ^ 31) (hdg : decode cc pc = .ok (.bastore, 1))
    (kk : ∀ (M1 : mp) (H1 : Heap) (locs1 : List Loc), M1 = mu M a (.inl (cA 2, n, .inl (upd f k x))) → hw D M0 H0 M1 H1 locs1 → W p l e R s m args below meth c H1 locs1 cells slots Q (F0 m (pc + 1) ls rest)) : W p l e R s m args below meth c H locs cells slots Q (F0 m pc ls (.int x :: .int i :: .ref a :: rest)) := by
  subst hi
  refine m_zast hx hb hK hh ha h01 (vp_in_nI hk hn) hdg ?_
  rw [nI_clamp (by omega)]
  exact kk
theorem m_astqN (t0 : Nat) {k n : Nat} {r : vw_C} {ci : Nat} (ht : (tysA cA)[t0]? = some (cA t0, .object r.1)) (hx : p.tables.exec = Jvm.exec) (hb : c.code = cc) (hK : kk D cA s) (hh : hw D M0 H0 M H locs) {v : Nat} {vs : List Value} {f : Nat → Option Nat} (ha : M a = some (.inl (cA t0, n, .inr (.inr (.inr (.inr f)))))) (hv : M v = some (.inr (ci, vs))) (hc : vwCl[ci]? = some r) {i : Int32} (hi : i = nI k) (hk : k < n) (hn : n < 2 ^ 31) (hdg : decode cc pc = .ok (.aastore, 1))
    (kk : ∀ (M1 : mp) (H1 : Heap) (locs1 : List Loc), M1 = mu M a (.inl (cA t0, n, .inr (.inr (.inr (.inr (va_up f k (some v))))))) → hw D M0 H0 M1 H1 locs1 → W p l e R s m args below meth c H1 locs1 cells slots Q (F0 m (pc + 1) ls rest)) : W p l e R s m args below meth c H locs cells slots Q (F0 m pc ls (.ref v :: .int i :: .ref a :: rest)) := by
  subst hi
  refine m_astq t0 ht hx hb hK hh ha hv hc (vp_in_nI hk hn) hdg ?_
  rw [nI_clamp (by omega)]
  exact kk
end MapRows3
/-! small numbers as machine numbers -/
theorem l12 : (1000000000000 : Int64) = lN 1000000000000 := by decide
theorem l_0 : (0 : Int64) = lN 0 := by decide
theorem l_1 : (1 : Int64) = lN 1 := by decide
theorem l_2 : (2 : Int64) = lN 2 := by decide
theorem ln_le {a b : Nat} (ha : a < 2 ^ 63) (hb : b < 2 ^ 63) : lN a ≤ lN b ↔ a ≤ b := pk_lLE ha hb
theorem ln_lt {a b : Nat} (ha : a < 2 ^ 63) (hb : b < 2 ^ 63) : lN a < lN b ↔ a < b := pk_lLT ha hb
theorem ln_eq {a b : Nat} (ha : a < 2 ^ 63) (hb : b < 2 ^ 63) : lN a = lN b ↔ a = b := pk_lEQ ha hb
/-- a long that is between 0 and N is a small number -/
theorem ln_of {x : Int64} {N : Nat} (hN : N < 2 ^ 63) (h0 : 0 ≤ x) (h1 : x ≤ lN N) : ∃ n : Nat, n ≤ N ∧ x = lN n := by
  obtain ⟨k, hk, rfl⟩ := pk_lOf (x := x) (by rw [Int64.not_lt]; exact h0)
  exact ⟨k, (ln_le hk hN).mp h1, rfl⟩
theorem nI_sub {a b : Nat} (h : b ≤ a) : nI a - nI b = nI (a - b) := pk_sub h
theorem nI_dn (n : Nat) : nI (n + 1) + Int32.ofInt (-1) = nI n := by
  have := pk_m1 n
  exact this
theorem nI_up (n : Nat) : nI n + Int32.ofInt 1 = nI (n + 1) := nI_1 n
end
section
/-! numbers: Fibonacci, THE ROWs, the golden cut -/
def fibT : List Nat := [1, 2, 3, 5, 8, 13, 21, 34, 55, 89, 144, 233, 377, 610, 987, 1597, 2584, 4181, 6765, 10946, 17711, 28657, 46368, 75025, 121393, 196418, 317811, 514229, 832040, 1346269, 2178309, 3524578, 5702887, 9227465, 14930352, 24157817, 39088169, 63245986, 102334155, 165580141, 267914296, 433494437, 701408733, 1134903170, 1836311903, 2971215073, 4807526976, 7778742049, 12586269025, 20365011074, 32951280099, 53316291173, 86267571272, 139583862445, 225851433717, 365435296162, 591286729879, 956722026041, 1548008755920, 2504730781961, 4052739537881, 6557470319842, 10610209857723, 17167680177565, 27777890035288, 44945570212853]
def fibN (i : Nat) : Nat := fibT.getD i 0
def rowT1 : List Nat := [1, 2, 4, 8, 16, 32, 64, 128, 256, 512, 1024, 2048, 4096, 8192, 16384, 32768, 65536, 131072, 262144, 524288, 1048576, 2097152, 4194304, 8388608, 16777216, 33554432, 67108864, 134217728, 268435456, 536870912, 1073741824, 2147483648, 4294967296, 8589934592, 17179869184, 34359738368, 68719476736, 137438953472, 274877906944, 549755813888, 1099511627776]
def ptrT1 : List Nat := [0, 1, 2, 3, 4, 5, 6, 7, 8, 9, 10, 11, 12, 13, 14, 15, 16, 17, 18, 19, 20, 21, 22, 23, 24, 25, 26, 27, 28, 29, 30, 31, 32, 33, 34, 35, 36, 37, 38, 39]
def rowT2 : List Nat := [1, 2, 3, 5, 8, 13, 21, 34, 55, 89, 144, 233, 377, 610, 987, 1597, 2584, 4181, 6765, 10946, 17711, 28657, 46368, 75025, 121393, 196418, 317811, 514229, 832040, 1346269, 2178309, 3524578, 5702887, 9227465, 14930352, 24157817, 39088169, 63245986, 102334155, 165580141, 267914296, 433494437, 701408733, 1134903170, 1836311903, 2971215073, 4807526976, 7778742049, 12586269025, 20365011074, 32951280099, 53316291173, 86267571272, 139583862445, 225851433717, 365435296162, 591286729879, 956722026041, 1548008755920]
def ptrT2 : List Nat := [0, 0, 1, 2, 3, 4, 5, 6, 7, 8, 9, 10, 11, 12, 13, 14, 15, 16, 17, 18, 19, 20, 21, 22, 23, 24, 25, 26, 27, 28, 29, 30, 31, 32, 33, 34, 35, 36, 37, 38, 39, 40, 41, 42, 43, 44, 45, 46, 47, 48, 49, 50, 51, 52, 53, 54, 55, 56]
def rowT3 : List Nat := [1, 2, 3, 4, 6, 8, 11, 15, 21, 29, 40, 55, 76, 105, 145, 200, 276, 381, 526, 726, 1002, 1383, 1909, 2635, 3637, 5020, 6929, 9564, 13201, 18221, 25150, 34714, 47915, 66136, 91286, 126000, 173915, 240051, 331337, 457337, 631252, 871303, 1202640, 1659977, 2291229, 3162532, 4365172, 6025149, 8316378, 11478910, 15844082, 21869231, 30185609, 41664519, 57508601, 79377832, 109563441, 151227960, 208736561, 288114393, 397677834, 548905794, 757642355, 1045756748, 1443434582, 1992340376, 2749982731, 3795739479, 5239174061, 7231514437, 9981497168, 13777236647, 19016410708, 26247925145, 36229422313, 50006658960, 69023069668, 95270994813, 131500417126, 181507076086, 250530145754, 345801140567, 477301557693, 658808633779, 909338779533, 1255139920100]
def ptrT3 : List Nat := [0, 0, 0, 1, 1, 2, 3, 4, 5, 6, 7, 8, 9, 10, 11, 12, 13, 14, 15, 16, 17, 18, 19, 20, 21, 22, 23, 24, 25, 26, 27, 28, 29, 30, 31, 32, 33, 34, 35, 36, 37, 38, 39, 40, 41, 42, 43, 44, 45, 46, 47, 48, 49, 50, 51, 52, 53, 54, 55, 56, 57, 58, 59, 60, 61, 62, 63, 64, 65, 66, 67, 68, 69, 70, 71, 72, 73, 74, 75, 76, 77, 78, 79, 80, 81]
def rowT4 : List Nat := [1, 2, 3, 4, 5, 7, 9, 12, 15, 19, 24, 31, 40, 52, 67, 86, 110, 141, 181, 233, 300, 386, 496, 637, 818, 1051, 1351, 1737, 2233, 2870, 3688, 4739, 6090, 7827, 10060, 12930, 16618, 21357, 27447, 35274, 45334, 58264, 74882, 96239, 123686, 158960, 204294, 262558, 337440, 433679, 557365, 716325, 920619, 1183177, 1520617, 1954296, 2511661, 3227986, 4148605, 5331782, 6852399, 8806695, 11318356, 14546342, 18694947, 24026729, 30879128, 39685823, 51004179, 65550521, 84245468, 108272197, 139151325, 178837148, 229841327, 295391848, 379637316, 487909513, 627060838, 805897986, 1035739313, 1331131161, 1710768477, 2198677990, 2825738828, 3631636814, 4667376127, 5998507288, 7709275765, 9907953755, 12733692583, 16365329397, 21032705524, 27031212812, 34740488577, 44648442332, 57382134915, 73747464312, 94780169836, 121811382648, 156551871225, 201200313557, 258582448472, 332329912784, 427110082620, 548921465268, 705473336493, 906673650050, 1165256098522]
def ptrT4 : List Nat := [0, 0, 0, 0, 1, 1, 2, 2, 3, 4, 5, 6, 7, 8, 9, 10, 11, 12, 13, 14, 15, 16, 17, 18, 19, 20, 21, 22, 23, 24, 25, 26, 27, 28, 29, 30, 31, 32, 33, 34, 35, 36, 37, 38, 39, 40, 41, 42, 43, 44, 45, 46, 47, 48, 49, 50, 51, 52, 53, 54, 55, 56, 57, 58, 59, 60, 61, 62, 63, 64, 65, 66, 67, 68, 69, 70, 71, 72, 73, 74, 75, 76, 77, 78, 79, 80, 81, 82, 83, 84, 85, 86, 87, 88, 89, 90, 91, 92, 93, 94, 95, 96, 97, 98, 99, 100, 101, 102]
def rowT5 : List Nat := [1, 2, 3, 4, 5, 6, 8, 10, 12, 15, 18, 22, 27, 33, 41, 51, 63, 78, 96, 118, 145, 178, 219, 270, 333, 411, 507, 625, 770, 948, 1167, 1437, 1770, 2181, 2688, 3313, 4083, 5031, 6198, 7635, 9405, 11586, 14274, 17587, 21670, 26701, 32899, 40534, 49939, 61525, 75799, 93386, 115056, 141757, 174656, 215190, 265129, 326654, 402453, 495839, 610895, 752652, 927308, 1142498, 1407627, 1734281, 2136734, 2632573, 3243468, 3996120, 4923428, 6065926, 7473553, 9207834, 11344568, 13977141, 17220609, 21216729, 26140157, 32206083, 39679636, 48887470, 60232038, 74209179, 91429788, 112646517, 138786674, 170992757, 210672393, 259559863, 319791901, 394001080, 485430868, 598077385, 736864059, 907856816, 1118529209, 1378089072, 1697880973, 2091882053, 2577312921, 3175390306, 3912254365, 4820111181, 5938640390, 7316729462, 9014610435, 11106492488, 13683805409, 16859195715, 20771450080, 25591561261, 31530201651, 38846931113, 47861541548, 58968034036, 72651839445, 89511035160, 110282485240, 135874046501, 167404248152, 206251179265, 254112720813, 313080754849, 385732594294, 475243629454, 585526114694, 721400161195, 888804409347, 1095055588612]
def ptrT5 : List Nat := [0, 0, 0, 0, 0, 1, 1, 1, 2, 2, 3, 4, 5, 6, 7, 8, 9, 10, 11, 12, 13, 14, 15, 16, 17, 18, 19, 20, 21, 22, 23, 24, 25, 26, 27, 28, 29, 30, 31, 32, 33, 34, 35, 36, 37, 38, 39, 40, 41, 42, 43, 44, 45, 46, 47, 48, 49, 50, 51, 52, 53, 54, 55, 56, 57, 58, 59, 60, 61, 62, 63, 64, 65, 66, 67, 68, 69, 70, 71, 72, 73, 74, 75, 76, 77, 78, 79, 80, 81, 82, 83, 84, 85, 86, 87, 88, 89, 90, 91, 92, 93, 94, 95, 96, 97, 98, 99, 100, 101, 102, 103, 104, 105, 106, 107, 108, 109, 110, 111, 112, 113, 114, 115, 116, 117, 118, 119, 120, 121]
def rowT6 : List Nat := [1, 2, 3, 4, 5, 6, 7, 9, 11, 13, 16, 19, 23, 27, 32, 38, 45, 54, 63, 74, 87, 103, 122, 145, 172, 204, 242, 287, 341, 404, 478, 565, 668, 790, 935, 1107, 1311, 1553, 1840, 2181, 2585, 3063, 3628, 4296, 5086, 6021, 7128, 8439, 9992, 11832, 14013, 16598, 19661, 23289, 27585, 32671, 38692, 45820, 54259, 64251, 76083, 90096, 106694, 126355, 149644, 177229, 209900, 248592, 294412, 348671, 412922, 489005, 579101, 685795, 812150, 961794, 1139023, 1348923, 1597515, 1891927, 2240598, 2653520, 3142525, 3721626, 4407421, 5219571, 6181365, 7320388, 8669311, 10266826, 12158753, 14399351, 17052871, 20195396, 23917022, 28324443, 33544014, 39725379, 47045767, 55715078, 65981904, 78140657, 92540008, 109592879, 129788275, 153705297, 182029740, 215573754, 255299133, 302344900, 358059978, 424041882, 502182539, 594722547, 704315426, 834103701, 987808998, 1169838738, 1385412492, 1640711625, 1943056525, 2301116503, 2725158385, 3227340924, 3822063471, 4526378897, 5360482598, 6348291596, 7518130334, 8903542826, 10544254451, 12487310976, 14788427479, 17513585864, 20740926788, 24562990259, 29089369156, 34449851754, 40798143350, 48316273684, 57219816510, 67764070961, 80251381937, 95039809416, 112553395280, 133294322068, 157857312327, 186946681483, 221396533237, 262194676587, 310510950271, 367730766781, 435494837742, 515746219679, 610786029095, 723339424375, 856633746443, 1014491058770]
def ptrT6 : List Nat := [0, 0, 0, 0, 0, 0, 1, 1, 1, 2, 2, 3, 3, 4, 5, 6, 7, 7, 8, 9, 10, 11, 12, 13, 14, 15, 16, 17, 18, 19, 20, 21, 22, 23, 24, 25, 26, 27, 28, 29, 30, 31, 32, 33, 34, 35, 36, 37, 38, 39, 40, 41, 42, 43, 44, 45, 46, 47, 48, 49, 50, 51, 52, 53, 54, 55, 56, 57, 58, 59, 60, 61, 62, 63, 64, 65, 66, 67, 68, 69, 70, 71, 72, 73, 74, 75, 76, 77, 78, 79, 80, 81, 82, 83, 84, 85, 86, 87, 88, 89, 90, 91, 92, 93, 94, 95, 96, 97, 98, 99, 100, 101, 102, 103, 104, 105, 106, 107, 108, 109, 110, 111, 112, 113, 114, 115, 116, 117, 118, 119, 120, 121, 122, 123, 124, 125, 126, 127, 128, 129, 130, 131, 132, 133, 134, 135, 136, 137, 138, 139, 140, 141, 142, 143, 144, 145, 146]
def rowT7 : List Nat := [1, 2, 3, 4, 5, 6, 7, 8, 10, 12, 14, 16, 19, 22, 26, 30, 35, 40, 46, 53, 61, 71, 83, 95, 109, 125, 144, 166, 192, 222, 257, 297, 343, 396, 457, 528, 611, 706, 815, 940, 1084, 1250, 1442, 1664, 1921, 2218, 2561, 2957, 3414, 3942, 4553, 5259, 6074, 7014, 8098, 9348, 10790, 12454, 14375, 16593, 19154, 22111, 25525, 29467, 34020, 39279, 45353, 52367, 60465, 69813, 80603, 93057, 107432, 124025, 143179, 165290, 190815, 220282, 254302, 293581, 338934, 391301, 451766, 521579, 602182, 695239, 802671, 926696, 1069875, 1235165, 1425980, 1646262, 1900564, 2194145, 2533079, 2924380, 3376146, 3897725, 4499907, 5195146, 5997817, 6924513, 7994388, 9229553, 10655533, 12301795, 14202359, 16396504, 18929583, 21853963, 25230109, 29127834, 33627741, 38822887, 44820704, 51745217, 59739605, 68969158, 79624691, 91926486, 106128845, 122525349, 141454932, 163308895, 188539004, 217666838, 251294579, 290117466, 334938170, 386683387, 446422992, 515392150, 595016841, 686943327, 793072172, 915597521, 1057052453, 1220361348, 1408900352, 1626567190, 1877861769, 2167979235, 2502917405, 2889600792, 3336023784, 3851415934, 4446432775, 5133376102, 5926448274, 6842045795, 7899098248, 9119459596, 10528359948, 12154927138, 14032788907, 16200768142, 18703685547, 21593286339, 24929310123, 28780726057, 33227158832, 38360534934, 44286983208, 51129029003, 59028127251, 68147586847, 78675946795, 90830873933, 104863662840, 121064430982, 139768116529, 161361402868, 186290712991, 215071439048, 248298597880, 286659132814, 330946116022, 382075145025, 441103272276, 509250859123, 587926805918, 678757679851, 783621342691, 904685773673, 1044453890202]
def ptrT7 : List Nat := [0, 0, 0, 0, 0, 0, 0, 1, 1, 1, 1, 2, 2, 3, 3, 4, 4, 5, 6, 7, 8, 9, 9, 10, 11, 12, 13, 14, 15, 16, 17, 18, 19, 20, 21, 22, 23, 24, 25, 26, 27, 28, 29, 30, 31, 32, 33, 34, 35, 36, 37, 38, 39, 40, 41, 42, 43, 44, 45, 46, 47, 48, 49, 50, 51, 52, 53, 54, 55, 56, 57, 58, 59, 60, 61, 62, 63, 64, 65, 66, 67, 68, 69, 70, 71, 72, 73, 74, 75, 76, 77, 78, 79, 80, 81, 82, 83, 84, 85, 86, 87, 88, 89, 90, 91, 92, 93, 94, 95, 96, 97, 98, 99, 100, 101, 102, 103, 104, 105, 106, 107, 108, 109, 110, 111, 112, 113, 114, 115, 116, 117, 118, 119, 120, 121, 122, 123, 124, 125, 126, 127, 128, 129, 130, 131, 132, 133, 134, 135, 136, 137, 138, 139, 140, 141, 142, 143, 144, 145, 146, 147, 148, 149, 150, 151, 152, 153, 154, 155, 156, 157, 158, 159, 160, 161, 162, 163, 164, 165, 166, 167, 168, 169, 170]
def rowT8 : List Nat := [1, 2, 3, 4, 5, 6, 7, 8, 9, 11, 13, 15, 17, 20, 23, 26, 30, 34, 39, 44, 50, 57, 65, 74, 85, 96, 109, 124, 141, 161, 184, 207, 233, 263, 297, 336, 380, 430, 487, 552, 626, 711, 807, 916, 1040, 1181, 1342, 1526, 1733, 1966, 2229, 2526, 2862, 3242, 3672, 4159, 4711, 5337, 6048, 6855, 7771, 8811, 9992, 11334, 12860, 14593, 16559, 18788, 21314, 24176, 27418, 31090, 35249, 39960, 45297, 51345, 58200, 65971, 74782, 84774, 96108, 108968, 123561, 140120, 158908, 180222, 204398, 231816, 262906, 298155, 338115, 383412, 434757, 492957, 558928, 633710, 718484, 814592, 923560, 1047121, 1187241, 1346149, 1526371, 1730769, 1962585, 2225491, 2523646, 2861761, 3245173, 3679930, 4172887, 4731815, 5365525, 6084009, 6898601, 7822161, 8869282, 10056523, 11402672, 12929043, 14659812, 16622397, 18847888, 21371534, 24233295, 27478468, 31158398, 35331285, 40063100, 45428625, 51512634, 58411235, 66233396, 75102678, 85159201, 96561873, 109490916, 124150728, 140773125, 159621013, 180992547, 205225842, 232704310, 263862708, 299193993, 339257093, 384685718, 436198352, 494609587, 560842983, 635945661, 721104862, 817666735, 927157651, 1051308379, 1192081504, 1351702517, 1532695064, 1737920906, 1970625216, 2234487924, 2533681917, 2872939010, 3257624728, 3693823080, 4188432667, 4749275650, 5385221311, 6106326173, 6923992908, 7851150559, 8902458938, 10094540442, 11446242959, 12978938023, 14716858929, 16687484145, 18921972069, 21455653986, 24328592996, 27586217724, 31280040804, 35468473471, 40217749121, 45602970432, 51709296605, 58633289513, 66484440072, 75386899010, 85481439452, 96927682411, 109906620434, 124623479363, 141310963508, 160232935577, 181688589563, 206017182559, 233603400283, 264883441087, 300351914558, 340569663679, 386172634111, 437881930716, 496515220229, 562999660301, 638386559311, 723867998763, 820795681174, 930702301608, 1055325780971]
def ptrT8 : List Nat := [0, 0, 0, 0, 0, 0, 0, 0, 1, 1, 1, 1, 2, 2, 2, 3, 3, 4, 4, 5, 6, 7, 8, 9, 9, 10, 11, 12, 13, 14, 14, 15, 16, 17, 18, 19, 20, 21, 22, 23, 24, 25, 26, 27, 28, 29, 30, 31, 32, 33, 34, 35, 36, 37, 38, 39, 40, 41, 42, 43, 44, 45, 46, 47, 48, 49, 50, 51, 52, 53, 54, 55, 56, 57, 58, 59, 60, 61, 62, 63, 64, 65, 66, 67, 68, 69, 70, 71, 72, 73, 74, 75, 76, 77, 78, 79, 80, 81, 82, 83, 84, 85, 86, 87, 88, 89, 90, 91, 92, 93, 94, 95, 96, 97, 98, 99, 100, 101, 102, 103, 104, 105, 106, 107, 108, 109, 110, 111, 112, 113, 114, 115, 116, 117, 118, 119, 120, 121, 122, 123, 124, 125, 126, 127, 128, 129, 130, 131, 132, 133, 134, 135, 136, 137, 138, 139, 140, 141, 142, 143, 144, 145, 146, 147, 148, 149, 150, 151, 152, 153, 154, 155, 156, 157, 158, 159, 160, 161, 162, 163, 164, 165, 166, 167, 168, 169, 170, 171, 172, 173, 174, 175, 176, 177, 178, 179, 180, 181, 182, 183, 184, 185, 186, 187, 188, 189, 190, 191, 192]
def rowT9 : List Nat := [1, 2, 3, 4, 5, 6, 7, 8, 9, 10, 12, 14, 16, 18, 20, 23, 26, 29, 33, 37, 42, 47, 53, 59, 66, 74, 83, 93, 105, 117, 131, 147, 165, 185, 208, 234, 260, 289, 322, 359, 401, 448, 501, 560, 626, 700, 783, 876, 981, 1098, 1229, 1376, 1541, 1726, 1934, 2168, 2428, 2717, 3039, 3398, 3799, 4247, 4748, 5308, 5934, 6634, 7417, 8293, 9274, 10372, 11601, 12977, 14518, 16244, 18178, 20346, 22774, 25491, 28530, 31928, 35727, 39974, 44722, 50030, 55964, 62598, 70015, 78308, 87582, 97954, 109555, 122532, 137050, 153294, 171472, 191818, 214592, 240083, 268613, 300541, 336268, 376242, 420964, 470994, 526958, 589556, 659571, 737879, 825461, 923415, 1032970, 1155502, 1292552, 1445846, 1617318, 1809136, 2023728, 2263811, 2532424, 2832965, 3169233, 3545475, 3966439, 4437433, 4964391, 5553947, 6213518, 6951397, 7776858, 8700273, 9733243, 10888745, 12181297, 13627143, 15244461, 17053597, 19077325, 21341136, 23873560, 26706525, 29875758, 33421233, 37387672, 41825105, 46789496, 52343443, 58556961, 65508358, 73285216, 81985489, 91718732, 102607477, 114788774, 128415917, 143660378, 160713975, 179791300, 201132436, 225005996, 251712521, 281588279, 315009512, 352397184, 394222289, 441011785, 493355228, 551912189, 617420547, 690705763, 772691252, 864409984, 967017461, 1081806235, 1210222152, 1353882530, 1514596505, 1694387805, 1895520241, 2120526237, 2372238758, 2653827037, 2968836549, 3321233733, 3715456022, 4156467807, 4649823035, 5201735224, 5819155771, 6509861534, 7282552786, 8146962770, 9113980231, 10195786466, 11406008618, 12759891148, 14274487653, 15968875458, 17864395699, 19984921936, 22357160694, 25010987731, 27979824280, 31301058013, 35016514035, 39172981842, 43822804877, 49024540101, 54843695872, 61353557406, 68636110192, 76783072962, 85897053193, 96092839659, 107498848277, 120258739425, 134533227078, 150502102536, 168366498235, 188351420171, 210708580865, 235719568596, 263699392876, 295000450889, 330016964924, 369189946766, 413012751643, 462037291744, 516880987616, 578234545022, 646870655214, 723653728176, 809550781369, 905643621028, 1013142469305]
def ptrT9 : List Nat := [0, 0, 0, 0, 0, 0, 0, 0, 0, 1, 1, 1, 1, 1, 2, 2, 2, 3, 3, 4, 4, 5, 5, 6, 7, 8, 9, 10, 10, 11, 12, 13, 14, 15, 16, 16, 17, 18, 19, 20, 21, 22, 23, 24, 25, 26, 27, 28, 29, 30, 31, 32, 33, 34, 35, 36, 37, 38, 39, 40, 41, 42, 43, 44, 45, 46, 47, 48, 49, 50, 51, 52, 53, 54, 55, 56, 57, 58, 59, 60, 61, 62, 63, 64, 65, 66, 67, 68, 69, 70, 71, 72, 73, 74, 75, 76, 77, 78, 79, 80, 81, 82, 83, 84, 85, 86, 87, 88, 89, 90, 91, 92, 93, 94, 95, 96, 97, 98, 99, 100, 101, 102, 103, 104, 105, 106, 107, 108, 109, 110, 111, 112, 113, 114, 115, 116, 117, 118, 119, 120, 121, 122, 123, 124, 125, 126, 127, 128, 129, 130, 131, 132, 133, 134, 135, 136, 137, 138, 139, 140, 141, 142, 143, 144, 145, 146, 147, 148, 149, 150, 151, 152, 153, 154, 155, 156, 157, 158, 159, 160, 161, 162, 163, 164, 165, 166, 167, 168, 169, 170, 171, 172, 173, 174, 175, 176, 177, 178, 179, 180, 181, 182, 183, 184, 185, 186, 187, 188, 189, 190, 191, 192, 193, 194, 195, 196, 197, 198, 199, 200, 201, 202, 203, 204, 205, 206, 207, 208, 209, 210, 211, 212, 213]
def rowTab (t : Nat) : List Nat := match t with
  | 1 => rowT1
  | 2 => rowT2
  | 3 => rowT3
  | 4 => rowT4
  | 5 => rowT5
  | 6 => rowT6
  | 7 => rowT7
  | 8 => rowT8
  | 9 => rowT9
  | _ => []
def ptrTab (t : Nat) : List Nat := match t with
  | 1 => ptrT1
  | 2 => ptrT2
  | 3 => ptrT3
  | 4 => ptrT4
  | 5 => ptrT5
  | 6 => ptrT6
  | 7 => ptrT7
  | 8 => ptrT8
  | 9 => ptrT9
  | _ => []
def rowN (t i : Nat) : Nat := (rowTab t).getD i 0
def ptrN (t i : Nat) : Nat := (ptrTab t).getD i 0
/-- how many numbers stand in the class's row: the last one alone is above the greatest heap -/
def rsz (t : Nat) : Nat := (rowTab t).length
theorem fib_rec : ∀ i, i < 63 → fibN (i + 2) = fibN (i + 1) + fibN i := by decide +kernel
theorem fib_pos : ∀ i, i < 66 → 1 ≤ fibN i := by decide +kernel
theorem fib_lt : ∀ i, i < 66 → fibN i < 2 ^ 62 := by decide +kernel
theorem row_0 : ∀ t, t < 10 → 1 ≤ t → rowN t 0 = 1 ∧ ptrN t 0 = 0 ∧ 3 ≤ rsz t ∧ rsz t ≤ 234 ∧ 1000000000000 < rowN t (rsz t - 1) := by decide +kernel
theorem row_s1 : ∀ t, t < 10 → 1 ≤ t → ∀ i, i < 234 → i + 1 < rsz t → rowN t (i + 1) = rowN t i + rowN t (ptrN t i) ∧ ptrN t i ≤ i := by decide +kernel
theorem row_s2 : ∀ t, t < 10 → 1 ≤ t → ∀ i, i < 234 → i + 1 < rsz t → rowN t i ≤ t * rowN t (ptrN t i) ∧ rowN t i ≤ 1000000000000 := by decide +kernel
theorem row_s3 : ∀ t, t < 10 → 1 ≤ t → ∀ i, i < 234 → i + 1 < rsz t → rowN t (i + 1) ≤ 2000000000000 := by decide +kernel
theorem row_s0 (t : Nat) (ht : t < 10) (h1 : 1 ≤ t) (i : Nat) (hi : i < 234) (h : i + 1 < rsz t) : rowN t (i + 1) = rowN t i + rowN t (ptrN t i) ∧ ptrN t i ≤ i ∧ rowN t i ≤ t * rowN t (ptrN t i) ∧ rowN t i ≤ 1000000000000 ∧ rowN t (i + 1) ≤ 2000000000000 :=
  ⟨(row_s1 t ht h1 i hi h).1, (row_s1 t ht h1 i hi h).2, (row_s2 t ht h1 i hi h).1, (row_s2 t ht h1 i hi h).2, row_s3 t ht h1 i hi h⟩
theorem row_p0 : ∀ t, t < 10 → 1 ≤ t → ∀ i, i < 234 → i + 2 < rsz t → ptrN t (i + 1) = ptrN t i ∨ (ptrN t (i + 1) = ptrN t i + 1 ∧ t * rowN t (ptrN t i) < rowN t (i + 1)) := by decide +kernel
theorem row_pos0 : ∀ t, t < 10 → 1 ≤ t → ∀ i, i < 234 → i < rsz t → 1 ≤ rowN t i ∧ rowN t i ≤ 2000000000000 := by decide +kernel
theorem row_2 : ∀ i, i < 59 → rowN 2 i = fibN i := by decide +kernel
theorem row_s {t i : Nat} (h1 : 1 ≤ t) (h9 : t ≤ 9) (hi : i + 1 < rsz t) : rowN t (i + 1) = rowN t i + rowN t (ptrN t i) ∧ ptrN t i ≤ i ∧ rowN t i ≤ t * rowN t (ptrN t i) ∧ rowN t i ≤ 1000000000000 ∧ rowN t (i + 1) ≤ 2000000000000 :=
  row_s0 t (by omega) h1 i (by have := (row_0 t (by omega) h1).2.2.2.1; omega) hi
theorem row_p {t i : Nat} (h1 : 1 ≤ t) (h9 : t ≤ 9) (hi : i + 2 < rsz t) : ptrN t (i + 1) = ptrN t i ∨ (ptrN t (i + 1) = ptrN t i + 1 ∧ t * rowN t (ptrN t i) < rowN t (i + 1)) :=
  row_p0 t (by omega) h1 i (by have := (row_0 t (by omega) h1).2.2.2.1; omega) hi
theorem row_pos {t i : Nat} (h1 : 1 ≤ t) (h9 : t ≤ 9) (hi : i < rsz t) : 1 ≤ rowN t i ∧ rowN t i ≤ 2000000000000 :=
  row_pos0 t (by omega) h1 i (by have := (row_0 t (by omega) h1).2.2.2.1; omega) hi
/-- greedy sums by a row R, from place i - 1 down: what the sum is when each number is put one place on; how many; the last -/
def rsF (R : Nat → Nat) : Nat → Nat → Nat
  | 0, _ => 0
  | i + 1, n => if R i ≤ n then R (i + 1) + rsF R i (n - R i) else rsF R i n
def cnF (R : Nat → Nat) : Nat → Nat → Nat
  | 0, _ => 0
  | i + 1, n => if R i ≤ n then 1 + cnF R i (n - R i) else cnF R i n
def enF (R : Nat → Nat) : Nat → Nat → Nat → Nat
  | 0, _, x => x
  | i + 1, n, x => if R i ≤ n then enF R i (n - R i) (R i) else enF R i n x
theorem rsF_skip (R : Nat → Nat) {n i : Nat} : ∀ d, (∀ k, i ≤ k → k < i + d → n < R k) → rsF R (i + d) n = rsF R i n
  | 0, _ => rfl
  | d + 1, h => by
    show (if R (i + d) ≤ n then _ else rsF R (i + d) n) = _
    rw [if_neg (by have := h (i + d) (by omega) (by omega); omega)]
    exact rsF_skip R d (fun k h1 h2 => h k h1 (by omega))
theorem rsF_cong {R S : Nat → Nat} : ∀ (i n : Nat), (∀ k, k ≤ i → R k = S k) → rsF R i n = rsF S i n
  | 0, _, _ => rfl
  | i + 1, n, h => by
    show (if R i ≤ n then R (i + 1) + rsF R i (n - R i) else rsF R i n) = (if S i ≤ n then S (i + 1) + rsF S i (n - S i) else rsF S i n)
    rw [h i (by omega), h (i + 1) (by omega), rsF_cong i _ (fun k hk => h k (by omega)), rsF_cong i n (fun k hk => h k (by omega))]
theorem enF_pos (R : Nat → Nat) (h0 : R 0 = 1) : ∀ (i n x : Nat), (∀ k, k < i → 1 ≤ R k) → (1 ≤ x ∨ (1 ≤ n ∧ 1 ≤ i)) → 1 ≤ enF R i n x
  | 0, n, x, _, h => by
    show 1 ≤ x
    omega
  | i + 1, n, x, hp, h => by
    show 1 ≤ (if R i ≤ n then enF R i (n - R i) (R i) else enF R i n x)
    split
    · exact enF_pos R h0 i _ _ (fun k hk => hp k (by omega)) (Or.inl (hp i (by omega)))
    · rename_i hn
      refine enF_pos R h0 i _ _ (fun k hk => hp k (by omega)) ?_
      rcases h with h | ⟨h, _⟩
      · exact Or.inl h
      · refine Or.inr ⟨h, ?_⟩
        rcases Nat.eq_zero_or_pos i with hi | hi
        · subst hi; omega
        · exact hi
theorem enF_0 (R : Nat → Nat) : ∀ (i x : Nat), (∀ k, k < i → 1 ≤ R k) → enF R i 0 x = x
  | 0, _, _ => rfl
  | i + 1, x, hp => by
    show (if R i ≤ 0 then _ else enF R i 0 x) = x
    rw [if_neg (by have := hp i (by omega); omega)]
    exact enF_0 R i x (fun k hk => hp k (by omega))
theorem cnF_0 (R : Nat → Nat) : ∀ (i : Nat), (∀ k, k < i → 1 ≤ R k) → cnF R i 0 = 0
  | 0, _ => rfl
  | i + 1, hp => by
    show (if R i ≤ 0 then _ else cnF R i 0) = 0
    rw [if_neg (by have := hp i (by omega); omega)]
    exact cnF_0 R i (fun k hk => hp k (by omega))
/-- x(k): the golden cut -/
def cutF (k : Nat) : Nat := if k = 0 then 0 else 1 + rsF fibN 58 (k - 1)
/-! the error of the shifted sum against F65 / F64, by the number of places -/
def dI (i : Nat) : Int := 10610209857723 * (fibN (i + 1) : Int) - 17167680177565 * (fibN i : Int)
def hiB : Nat → Int
  | 0 => 0
  | 1 => dI 0
  | i + 2 => max (hiB (i + 1)) (dI (i + 1) + hiB i)
def loB : Nat → Int
  | 0 => 0
  | 1 => 0
  | i + 2 => min (loB (i + 1)) (dI (i + 1) + loB i)
theorem hlB : hiB 58 + 10610209857723 - 17167680177565 ≤ 0 ∧ 0 < loB 58 + 2 * 10610209857723 - 17167680177565 := by decide +kernel
theorem rs_err : ∀ (i n : Nat), i ≤ 58 → n < fibN i → loB i ≤ 10610209857723 * (rsF fibN i n : Int) - 17167680177565 * (n : Int) ∧ 10610209857723 * (rsF fibN i n : Int) - 17167680177565 * (n : Int) ≤ hiB i
  | 0, n, _, h => by
    have h1 : fibN 0 = 1 := by decide
    have : n = 0 := by omega
    subst this
    exact ⟨by decide, by decide⟩
  | 1, n, _, h => by
    have h1 : fibN 1 = 2 := by decide
    rcases (show n = 0 ∨ n = 1 by omega) with e | e
    · subst e; exact ⟨by decide, by decide⟩
    · subst e; exact ⟨by decide, by decide⟩
  | i + 2, n, hi, h => by
    have hr := fib_rec i (by omega)
    have e1 : loB (i + 2) = min (loB (i + 1)) (dI (i + 1) + loB i) := rfl
    have e2 : hiB (i + 2) = max (hiB (i + 1)) (dI (i + 1) + hiB i) := rfl
    have e3 : rsF fibN (i + 2) n = if fibN (i + 1) ≤ n then fibN (i + 2) + rsF fibN (i + 1) (n - fibN (i + 1)) else rsF fibN (i + 1) n := rfl
    by_cases hn : fibN (i + 1) ≤ n
    · have e4 : rsF fibN (i + 1) (n - fibN (i + 1)) = rsF fibN i (n - fibN (i + 1)) := by
        show (if fibN i ≤ n - fibN (i + 1) then _ else _) = _
        rw [if_neg (by omega)]
      have ih := rs_err i (n - fibN (i + 1)) (by omega) (by omega)
      rw [if_pos hn, e4] at e3
      have e5 : dI (i + 1) = 10610209857723 * (fibN (i + 2) : Int) - 17167680177565 * (fibN (i + 1) : Int) := rfl
      rw [e1, e2, e3]
      omega
    · have ih := rs_err (i + 1) n (by omega) (by omega)
      rw [if_neg hn] at e3
      rw [e1, e2, e3]
      omega
theorem cut_spec {k : Nat} (h1 : 1 ≤ k) (h2 : k ≤ 1000000000001) : cutF k * 10610209857723 ≤ k * 17167680177565 ∧ k * 17167680177565 < (cutF k + 1) * 10610209857723 := by
  have e : cutF k = 1 + rsF fibN 58 (k - 1) := by unfold cutF; rw [if_neg (by omega)]
  have h58 : fibN 58 = 1548008755920 := by decide
  have h := rs_err 58 (k - 1) (Nat.le_refl _) (by omega)
  have hb := hlB
  omega
theorem cut_0 : cutF 0 = 0 := rfl
theorem cut_le {k : Nat} (h2 : k ≤ 1000000000001) : cutF k ≤ 2 * k := by
  rcases Nat.eq_zero_or_pos k with h | h
  · subst h; decide
  · have := (cut_spec h h2).1
    omega
theorem cut_ge {k : Nat} (h2 : k ≤ 1000000000001) : k ≤ cutF k := by
  rcases Nat.eq_zero_or_pos k with h | h
  · subst h; decide
  · have := cut_spec h h2; omega
theorem cut_mono {j k : Nat} (h : j ≤ k) (h2 : k ≤ 1000000000001) : cutF j ≤ cutF k := by
  rcases Nat.eq_zero_or_pos j with hj | hj
  · subst hj; rw [cut_0]; exact Nat.zero_le _
  · have a := cut_spec hj (by omega)
    have b := cut_spec (show 1 ≤ k by omega) h2
    omega
theorem gold1 {r q : Nat} (hq : 1 ≤ q) (hq2 : q ≤ 1000000000001) : q * 10610209857723 ≤ r * 17167680177565 ↔ q * 6557470319842 < r * 10610209857723 := by
  constructor
  · intro h
    rcases Nat.lt_or_ge (q * 6557470319842) (r * 10610209857723) with g | g
    · exact g
    · obtain ⟨u, hu⟩ := Nat.le.dest h
      obtain ⟨v, hv⟩ := Nat.le.dest g
      have e : q = 17167680177565 * v + 10610209857723 * u := by clear h g hq hq2; omega
      clear hu hv h g
      rcases Nat.eq_zero_or_pos u with hu | hu
      · rcases Nat.eq_zero_or_pos v with hv | hv
        · subst hu; subst hv; omega
        · omega
      · omega
  · intro h
    rcases Nat.lt_or_ge (r * 17167680177565) (q * 10610209857723) with g | g
    · obtain ⟨u, hu⟩ := Nat.le.dest g
      obtain ⟨v, hv⟩ := Nat.le.dest h
      have e : q + 17167680177565 * (v + 1) + 10610209857723 * (u + 1) = 0 := by clear h g hq hq2; omega
      clear hu hv h g
      omega
    · exact g
theorem gold2 {r h : Nat} (hh : 1 ≤ h) (hh2 : h ≤ 1000000000001) : h * 10610209857723 ≤ r * 27777890035288 ↔ h * 4052739537881 ≤ r * 10610209857723 := by
  constructor
  · intro g
    rcases Nat.lt_or_ge (r * 10610209857723) (h * 4052739537881) with g2 | g2
    · obtain ⟨u, hu⟩ := Nat.le.dest g
      obtain ⟨v, hv⟩ := Nat.le.dest g2
      have e : h + 27777890035288 * (v + 1) + 10610209857723 * u = 0 := by clear g g2 hh hh2; omega
      clear hu hv g g2
      omega
    · exact g2
  · intro g
    rcases Nat.lt_or_ge (r * 27777890035288) (h * 10610209857723) with g2 | g2
    · obtain ⟨u, hu⟩ := Nat.le.dest g
      obtain ⟨v, hv⟩ := Nat.le.dest g2
      have e : h = 27777890035288 * u + 10610209857723 * (v + 1) := by clear g g2 hh hh2; omega
      clear hu hv g g2
      omega
    · exact g2
/-- the first pair whose lesser heap is q or more -/
theorem cut_G {r q : Nat} (hr : 1 ≤ r) (hq : 1 ≤ q) (hr2 : r ≤ 1000000000001) (hq2 : q ≤ 1000000000001) : q ≤ cutF r ↔ cutF q < r + q := by
  obtain ⟨a1, a2⟩ := cut_spec hr hr2
  obtain ⟨b1, b2⟩ := cut_spec hq hq2
  have key := gold1 (r := r) hq hq2
  generalize cutF r = A at *
  generalize cutF q = B at *
  clear hr hq hr2 hq2
  constructor
  · intro h
    have h1 := key.mp (Nat.le_trans (Nat.mul_le_mul_right _ h) a1)
    rcases Nat.lt_or_ge B (r + q) with g | g
    · exact g
    · have h2 := Nat.le_trans (Nat.mul_le_mul_right 10610209857723 g) b1
      clear key a1 a2 b1 b2 h g
      omega
  · intro h
    rcases Nat.lt_or_ge A q with g | g
    · have h1 : ¬ q * 10610209857723 ≤ r * 17167680177565 := fun z => by
        have h2 := Nat.mul_le_mul_right 10610209857723 (show A + 1 ≤ q from g)
        have h3 := Nat.le_trans h2 z
        exact absurd a2 (Nat.not_lt.mpr h3)
      have h4 : r * 10610209857723 ≤ q * 6557470319842 := Nat.not_lt.mp (fun z => h1 (key.mpr z))
      have h5 := Nat.mul_le_mul_right 10610209857723 (show B + 1 ≤ r + q from h)
      clear key a1 a2 b1 h g h1
      omega
    · exact g
set_option maxRecDepth 100000 in
/-- the first pair whose greater heap is h or more -/
theorem cut_G2 {r h : Nat} (hr : 1 ≤ r) (hh : 1 ≤ h) (hr2 : r ≤ 1000000000001) (hh2 : h ≤ 1000000000001) : h ≤ cutF r + r ↔ 2 * h ≤ r + cutF h := by
  obtain ⟨a1, a2⟩ := cut_spec hr hr2
  obtain ⟨b1, b2⟩ := cut_spec hh hh2
  have key := gold2 (r := r) hh hh2
  generalize cutF r = A at *
  generalize cutF h = B at *
  clear hr hh hr2 hh2
  constructor
  · intro g
    have h0 := Nat.mul_le_mul_right 10610209857723 g
    have h1 := key.mp (by
      refine Nat.le_trans h0 ?_
      rw [Nat.add_mul]
      refine Nat.le_trans (Nat.add_le_add_right a1 _) ?_
      rw [← Nat.mul_add]
      exact Nat.le_refl _)
    rcases Nat.lt_or_ge (r + B) (2 * h) with g2 | g2
    · have h2 := Nat.mul_le_mul_right 10610209857723 (show r + B + 1 ≤ 2 * h from g2)
      clear key a1 a2 b1 g g2 h0
      omega
    · exact g2
  · intro g
    rcases Nat.lt_or_ge (A + r) h with g2 | g2
    · have h2 := Nat.mul_le_mul_right 10610209857723 (show A + r + 1 ≤ h from g2)
      have h3 : ¬ h * 10610209857723 ≤ r * 27777890035288 := by clear key a1 b1 b2 g g2; omega
      have h4 : r * 10610209857723 < h * 4052739537881 := Nat.not_le.mp (fun z => h3 (key.mpr z))
      have h5 := Nat.mul_le_mul_right 10610209857723 g
      clear key a1 a2 b2 g g2 h2 h3
      omega
    · exact g2
end
section
section Br
variable {p : Program} {l : Launch} {e : Env} {R : Room} {s : State} {m : MethodId} {args : Array Value} {below : List Frame} {meth : Method} {c : Code} {H : Heap} {locs : List Loc} {cells slots : Nat} {Q : State → Prop}
variable {cc : ByteArray} {pc : Nat} {ls : Array Slot} {rest : List Value}

theorem bl_lt (hx : p.tables.exec = Jvm.exec) (hb : c.code = cc) {x y : Int64} {off : Int} {tgt : Nat} (d1 : decode cc pc = .ok (.lcmp, 1)) (d2 : decode cc (pc + 1) = .ok (.ifCond .lt off, 3)) (ht : ((pc + 1 : Nat) : Int) + off = (tgt : Int)) (kt : x < y → ¬ y ≤ x → W p l e R s m args below meth c H locs cells slots Q (F0 m tgt ls rest)) (kf : y ≤ x → ¬ x < y → W p l e R s m args below meth c H locs cells slots Q (F0 m (pc + 4) ls rest)) : W p l e R s m args below meth c H locs cells slots Q (F0 m pc ls (.long y :: .long x :: rest)) := lc_lt hx hb d1 d2 ht (fun h => kt h (Int64.not_le.mpr h)) (fun h => kf (Int64.not_lt.mp h) h)
theorem bi_lt (hx : p.tables.exec = Jvm.exec) (hb : c.code = cc) {x y : Int32} {off : Int} {tgt : Nat} (d1 : decode cc pc = .ok (.if_icmp .lt off, 3)) (ht : (pc : Int) + off = (tgt : Int)) (kt : x < y → ¬ y ≤ x → W p l e R s m args below meth c H locs cells slots Q (F0 m tgt ls rest)) (kf : y ≤ x → ¬ x < y → W p l e R s m args below meth c H locs cells slots Q (F0 m (pc + 3) ls rest)) : W p l e R s m args below meth c H locs cells slots Q (F0 m pc ls (.int y :: .int x :: rest)) := lv_icmp_lt hx hb d1 ht (fun h => kt h (Int32.not_le.mpr h)) (fun h => kf (Int32.not_lt.mp h) h)
theorem bz_lt (hx : p.tables.exec = Jvm.exec) (hb : c.code = cc) {x : Int32} {off : Int} {tgt : Nat} (d1 : decode cc pc = .ok (.ifCond .lt off, 3)) (ht : (pc : Int) + off = (tgt : Int)) (kt : x < 0 → ¬ 0 ≤ x → W p l e R s m args below meth c H locs cells slots Q (F0 m tgt ls rest)) (kf : 0 ≤ x → ¬ x < 0 → W p l e R s m args below meth c H locs cells slots Q (F0 m (pc + 3) ls rest)) : W p l e R s m args below meth c H locs cells slots Q (F0 m pc ls (.int x :: rest)) := lv_if_lt hx hb d1 ht (fun h => kt h (Int32.not_le.mpr h)) (fun h => kf (Int32.not_lt.mp h) h)
theorem bl_ge (hx : p.tables.exec = Jvm.exec) (hb : c.code = cc) {x y : Int64} {off : Int} {tgt : Nat} (d1 : decode cc pc = .ok (.lcmp, 1)) (d2 : decode cc (pc + 1) = .ok (.ifCond .ge off, 3)) (ht : ((pc + 1 : Nat) : Int) + off = (tgt : Int)) (kt : y ≤ x → ¬ x < y → W p l e R s m args below meth c H locs cells slots Q (F0 m tgt ls rest)) (kf : x < y → ¬ y ≤ x → W p l e R s m args below meth c H locs cells slots Q (F0 m (pc + 4) ls rest)) : W p l e R s m args below meth c H locs cells slots Q (F0 m pc ls (.long y :: .long x :: rest)) := lc_ge hx hb d1 d2 ht (fun h => kt h (Int64.not_lt.mpr h)) (fun h => kf (Int64.not_le.mp h) h)
theorem bi_ge (hx : p.tables.exec = Jvm.exec) (hb : c.code = cc) {x y : Int32} {off : Int} {tgt : Nat} (d1 : decode cc pc = .ok (.if_icmp .ge off, 3)) (ht : (pc : Int) + off = (tgt : Int)) (kt : y ≤ x → ¬ x < y → W p l e R s m args below meth c H locs cells slots Q (F0 m tgt ls rest)) (kf : x < y → ¬ y ≤ x → W p l e R s m args below meth c H locs cells slots Q (F0 m (pc + 3) ls rest)) : W p l e R s m args below meth c H locs cells slots Q (F0 m pc ls (.int y :: .int x :: rest)) := lv_icmp_ge hx hb d1 ht (fun h => kt h (Int32.not_lt.mpr h)) (fun h => kf (Int32.not_le.mp h) h)
theorem bz_ge (hx : p.tables.exec = Jvm.exec) (hb : c.code = cc) {x : Int32} {off : Int} {tgt : Nat} (d1 : decode cc pc = .ok (.ifCond .ge off, 3)) (ht : (pc : Int) + off = (tgt : Int)) (kt : 0 ≤ x → ¬ x < 0 → W p l e R s m args below meth c H locs cells slots Q (F0 m tgt ls rest)) (kf : x < 0 → ¬ 0 ≤ x → W p l e R s m args below meth c H locs cells slots Q (F0 m (pc + 3) ls rest)) : W p l e R s m args below meth c H locs cells slots Q (F0 m pc ls (.int x :: rest)) := lv_if_ge hx hb d1 ht (fun h => kt h (Int32.not_lt.mpr h)) (fun h => kf (Int32.not_le.mp h) h)
theorem bl_gt (hx : p.tables.exec = Jvm.exec) (hb : c.code = cc) {x y : Int64} {off : Int} {tgt : Nat} (d1 : decode cc pc = .ok (.lcmp, 1)) (d2 : decode cc (pc + 1) = .ok (.ifCond .gt off, 3)) (ht : ((pc + 1 : Nat) : Int) + off = (tgt : Int)) (kt : y < x → ¬ x ≤ y → W p l e R s m args below meth c H locs cells slots Q (F0 m tgt ls rest)) (kf : x ≤ y → ¬ y < x → W p l e R s m args below meth c H locs cells slots Q (F0 m (pc + 4) ls rest)) : W p l e R s m args below meth c H locs cells slots Q (F0 m pc ls (.long y :: .long x :: rest)) := lc_gt hx hb d1 d2 ht (fun h => kt h (Int64.not_le.mpr h)) (fun h => kf (Int64.not_lt.mp h) h)
theorem bi_gt (hx : p.tables.exec = Jvm.exec) (hb : c.code = cc) {x y : Int32} {off : Int} {tgt : Nat} (d1 : decode cc pc = .ok (.if_icmp .gt off, 3)) (ht : (pc : Int) + off = (tgt : Int)) (kt : y < x → ¬ x ≤ y → W p l e R s m args below meth c H locs cells slots Q (F0 m tgt ls rest)) (kf : x ≤ y → ¬ y < x → W p l e R s m args below meth c H locs cells slots Q (F0 m (pc + 3) ls rest)) : W p l e R s m args below meth c H locs cells slots Q (F0 m pc ls (.int y :: .int x :: rest)) := lv_icmp_gt hx hb d1 ht (fun h => kt h (Int32.not_le.mpr h)) (fun h => kf (Int32.not_lt.mp h) h)
theorem bz_gt (hx : p.tables.exec = Jvm.exec) (hb : c.code = cc) {x : Int32} {off : Int} {tgt : Nat} (d1 : decode cc pc = .ok (.ifCond .gt off, 3)) (ht : (pc : Int) + off = (tgt : Int)) (kt : 0 < x → ¬ x ≤ 0 → W p l e R s m args below meth c H locs cells slots Q (F0 m tgt ls rest)) (kf : x ≤ 0 → ¬ 0 < x → W p l e R s m args below meth c H locs cells slots Q (F0 m (pc + 3) ls rest)) : W p l e R s m args below meth c H locs cells slots Q (F0 m pc ls (.int x :: rest)) := lv_if_gt hx hb d1 ht (fun h => kt h (Int32.not_le.mpr h)) (fun h => kf (Int32.not_lt.mp h) h)
theorem bl_le (hx : p.tables.exec = Jvm.exec) (hb : c.code = cc) {x y : Int64} {off : Int} {tgt : Nat} (d1 : decode cc pc = .ok (.lcmp, 1)) (d2 : decode cc (pc + 1) = .ok (.ifCond .le off, 3)) (ht : ((pc + 1 : Nat) : Int) + off = (tgt : Int)) (kt : x ≤ y → ¬ y < x → W p l e R s m args below meth c H locs cells slots Q (F0 m tgt ls rest)) (kf : y < x → ¬ x ≤ y → W p l e R s m args below meth c H locs cells slots Q (F0 m (pc + 4) ls rest)) : W p l e R s m args below meth c H locs cells slots Q (F0 m pc ls (.long y :: .long x :: rest)) := lc_le hx hb d1 d2 ht (fun h => kt h (Int64.not_lt.mpr h)) (fun h => kf (Int64.not_le.mp h) h)
theorem bi_le (hx : p.tables.exec = Jvm.exec) (hb : c.code = cc) {x y : Int32} {off : Int} {tgt : Nat} (d1 : decode cc pc = .ok (.if_icmp .le off, 3)) (ht : (pc : Int) + off = (tgt : Int)) (kt : x ≤ y → ¬ y < x → W p l e R s m args below meth c H locs cells slots Q (F0 m tgt ls rest)) (kf : y < x → ¬ x ≤ y → W p l e R s m args below meth c H locs cells slots Q (F0 m (pc + 3) ls rest)) : W p l e R s m args below meth c H locs cells slots Q (F0 m pc ls (.int y :: .int x :: rest)) := lv_icmp_le hx hb d1 ht (fun h => kt h (Int32.not_lt.mpr h)) (fun h => kf (Int32.not_le.mp h) h)
theorem bz_le (hx : p.tables.exec = Jvm.exec) (hb : c.code = cc) {x : Int32} {off : Int} {tgt : Nat} (d1 : decode cc pc = .ok (.ifCond .le off, 3)) (ht : (pc : Int) + off = (tgt : Int)) (kt : x ≤ 0 → ¬ 0 < x → W p l e R s m args below meth c H locs cells slots Q (F0 m tgt ls rest)) (kf : 0 < x → ¬ x ≤ 0 → W p l e R s m args below meth c H locs cells slots Q (F0 m (pc + 3) ls rest)) : W p l e R s m args below meth c H locs cells slots Q (F0 m pc ls (.int x :: rest)) := lv_if_le hx hb d1 ht (fun h => kt h (Int32.not_lt.mpr h)) (fun h => kf (Int32.not_le.mp h) h)
theorem bl_eq (hx : p.tables.exec = Jvm.exec) (hb : c.code = cc) {x y : Int64} {off : Int} {tgt : Nat} (d1 : decode cc pc = .ok (.lcmp, 1)) (d2 : decode cc (pc + 1) = .ok (.ifCond .eq off, 3)) (ht : ((pc + 1 : Nat) : Int) + off = (tgt : Int)) (kt : x = y → y = x → W p l e R s m args below meth c H locs cells slots Q (F0 m tgt ls rest)) (kf : ¬ x = y → ¬ y = x → W p l e R s m args below meth c H locs cells slots Q (F0 m (pc + 4) ls rest)) : W p l e R s m args below meth c H locs cells slots Q (F0 m pc ls (.long y :: .long x :: rest)) := lc_eq hx hb d1 d2 ht (fun h => kt h h.symm) (fun h => kf h (fun z => h z.symm))
theorem bi_eq (hx : p.tables.exec = Jvm.exec) (hb : c.code = cc) {x y : Int32} {off : Int} {tgt : Nat} (d1 : decode cc pc = .ok (.if_icmp .eq off, 3)) (ht : (pc : Int) + off = (tgt : Int)) (kt : x = y → y = x → W p l e R s m args below meth c H locs cells slots Q (F0 m tgt ls rest)) (kf : ¬ x = y → ¬ y = x → W p l e R s m args below meth c H locs cells slots Q (F0 m (pc + 3) ls rest)) : W p l e R s m args below meth c H locs cells slots Q (F0 m pc ls (.int y :: .int x :: rest)) := lv_icmp_eq hx hb d1 ht (fun h => kt h h.symm) (fun h => kf h (fun z => h z.symm))
theorem bz_eq (hx : p.tables.exec = Jvm.exec) (hb : c.code = cc) {x : Int32} {off : Int} {tgt : Nat} (d1 : decode cc pc = .ok (.ifCond .eq off, 3)) (ht : (pc : Int) + off = (tgt : Int)) (kt : x = 0 → 0 = x → W p l e R s m args below meth c H locs cells slots Q (F0 m tgt ls rest)) (kf : ¬ x = 0 → ¬ 0 = x → W p l e R s m args below meth c H locs cells slots Q (F0 m (pc + 3) ls rest)) : W p l e R s m args below meth c H locs cells slots Q (F0 m pc ls (.int x :: rest)) := lv_if_eq hx hb d1 ht (fun h => kt h h.symm) (fun h => kf h (fun z => h z.symm))
theorem bl_ne (hx : p.tables.exec = Jvm.exec) (hb : c.code = cc) {x y : Int64} {off : Int} {tgt : Nat} (d1 : decode cc pc = .ok (.lcmp, 1)) (d2 : decode cc (pc + 1) = .ok (.ifCond .ne off, 3)) (ht : ((pc + 1 : Nat) : Int) + off = (tgt : Int)) (kt : ¬ x = y → ¬ y = x → W p l e R s m args below meth c H locs cells slots Q (F0 m tgt ls rest)) (kf : x = y → y = x → W p l e R s m args below meth c H locs cells slots Q (F0 m (pc + 4) ls rest)) : W p l e R s m args below meth c H locs cells slots Q (F0 m pc ls (.long y :: .long x :: rest)) := lc_ne hx hb d1 d2 ht (fun h => kt h (fun z => h z.symm)) (fun h => kf h h.symm)
theorem bi_ne (hx : p.tables.exec = Jvm.exec) (hb : c.code = cc) {x y : Int32} {off : Int} {tgt : Nat} (d1 : decode cc pc = .ok (.if_icmp .ne off, 3)) (ht : (pc : Int) + off = (tgt : Int)) (kt : ¬ x = y → ¬ y = x → W p l e R s m args below meth c H locs cells slots Q (F0 m tgt ls rest)) (kf : x = y → y = x → W p l e R s m args below meth c H locs cells slots Q (F0 m (pc + 3) ls rest)) : W p l e R s m args below meth c H locs cells slots Q (F0 m pc ls (.int y :: .int x :: rest)) := lv_icmp_ne hx hb d1 ht (fun h => kt h (fun z => h z.symm)) (fun h => kf h h.symm)
theorem bz_ne (hx : p.tables.exec = Jvm.exec) (hb : c.code = cc) {x : Int32} {off : Int} {tgt : Nat} (d1 : decode cc pc = .ok (.ifCond .ne off, 3)) (ht : (pc : Int) + off = (tgt : Int)) (kt : ¬ x = 0 → ¬ 0 = x → W p l e R s m args below meth c H locs cells slots Q (F0 m tgt ls rest)) (kf : x = 0 → 0 = x → W p l e R s m args below meth c H locs cells slots Q (F0 m (pc + 3) ls rest)) : W p l e R s m args below meth c H locs cells slots Q (F0 m pc ls (.int x :: rest)) := lv_if_ne hx hb d1 ht (fun h => kt h (fun z => h z.symm)) (fun h => kf h h.symm)
end Br
theorem bI_t : bI true = 1 := rfl
theorem bI_f : bI false = 0 := rfl
theorem bI_eq0 {b : Bool} (h : bI b = 0) : b = false := by cases b; rfl; exact absurd h (by decide)
theorem bI_ne0 {b : Bool} (h : ¬ bI b = 0) : b = true := by cases b; exact absurd rfl h; rfl
def inW (n a b : Int64) : Bool := decide (a ≤ n) && decide (n ≤ b)
theorem inW_t {n a b : Int64} (h : inW n a b = true) : a ≤ n ∧ n ≤ b := by
  unfold inW at h
  simp only [Bool.and_eq_true, decide_eq_true_eq] at h
  exact h
end
section
set_option maxHeartbeats 4000000 in
set_option maxRecDepth 100000 in
theorem k_X8_isWithin (l : Launch) (D : va_G) (cA : Nat → ClassId) (M : mp) (n a b : Int64)  : PC l D cA yX8_isWithin wsX8_isWithin 0 0 [.long n, .long a, .long b] M (some (.int (bI (inW n a b)))) := by
  refine PC.zz (cc := cX8_isWithin) (maxL := 6) (by decide) rfl (Nat.le_of_ble_eq_true rfl) ?_
  intro p e s m args below meth c H Q ls B hM hl hret
  obtain ⟨hx, hb, hown, hts, hml, hK, hin⟩ := B
  have hown : s.vm.findClass RX8 = some m.cls := hown
  have hl : lv_has ls 6 [(0, .long n), (2, .long a), (4, .long b)] := hl
  refine lv_lload_n hx hb dX8_isWithin_0 rfl (lv_at hl 0 rfl) ?_
  refine lv_lload_n hx hb dX8_isWithin_1 rfl (lv_at hl 1 rfl) ?_
  refine bl_lt (tgt := 17) hx hb dX8_isWithin_2 dX8_isWithin_3 (by decide) (fun c_3 n_3 => ?_) (fun c_3 n_3 => ?_)
  · skip
    refine lv_iconst (v := 0) hx hb dX8_isWithin_17 (by decide) ?_
    exact hret _ _ _ dX8_isWithin_18 (by simp [inW, bI, c_3, n_3])
  · skip
    refine lv_lload_n hx hb dX8_isWithin_6 rfl (lv_at hl 0 rfl) ?_
    refine lv_lload hx hb dX8_isWithin_7 (lv_at hl 2 rfl) ?_
    refine bl_gt (tgt := 17) hx hb dX8_isWithin_9 dX8_isWithin_10 (by decide) (fun c_10 n_10 => ?_) (fun c_10 n_10 => ?_)
    · skip
      refine lv_iconst (v := 0) hx hb dX8_isWithin_17 (by decide) ?_
      exact hret _ _ _ dX8_isWithin_18 (by simp [inW, bI, c_3, n_3, c_10, n_10])
    · skip
      refine lv_iconst (v := 1) hx hb dX8_isWithin_13 (by decide) ?_
      refine lv_goto (tgt := 18) hx hb dX8_isWithin_14 (by decide) ?_
      exact hret _ _ _ dX8_isWithin_18 (by simp [inW, bI, c_3, n_3, c_10, n_10])
set_option maxHeartbeats 4000000 in
set_option maxRecDepth 100000 in
theorem k_X9_in (l : Launch) (D : va_G) (cA : Nat → ClassId) (M : mp) (n a b : Int64)  : PC l D cA yX9_in wsX9_in 0 0 [.long n, .long a, .long b] M (some (.int (bI (inW n a b)))) := by
  refine PC.zz (cc := cX9_in) (maxL := 6) (by decide) rfl (Nat.le_of_ble_eq_true rfl) ?_
  intro p e s m args below meth c H Q ls B hM hl hret
  obtain ⟨hx, hb, hown, hts, hml, hK, hin⟩ := B
  have hown : s.vm.findClass RX9 = some m.cls := hown
  have hl : lv_has ls 6 [(0, .long n), (2, .long a), (4, .long b)] := hl
  refine lv_lload_n hx hb dX9_in_0 rfl (lv_at hl 0 rfl) ?_
  refine lv_lload_n hx hb dX9_in_1 rfl (lv_at hl 1 rfl) ?_
  refine bl_lt (tgt := 17) hx hb dX9_in_2 dX9_in_3 (by decide) (fun c_3 n_3 => ?_) (fun c_3 n_3 => ?_)
  · skip
    refine lv_iconst (v := 0) hx hb dX9_in_17 (by decide) ?_
    exact hret _ _ _ dX9_in_18 (by simp [inW, bI, c_3, n_3])
  · skip
    refine lv_lload_n hx hb dX9_in_6 rfl (lv_at hl 0 rfl) ?_
    refine lv_lload hx hb dX9_in_7 (lv_at hl 2 rfl) ?_
    refine bl_gt (tgt := 17) hx hb dX9_in_9 dX9_in_10 (by decide) (fun c_10 n_10 => ?_) (fun c_10 n_10 => ?_)
    · skip
      refine lv_iconst (v := 0) hx hb dX9_in_17 (by decide) ?_
      exact hret _ _ _ dX9_in_18 (by simp [inW, bI, c_3, n_3, c_10, n_10])
    · skip
      refine lv_iconst (v := 1) hx hb dX9_in_13 (by decide) ?_
      refine lv_goto (tgt := 18) hx hb dX9_in_14 (by decide) ?_
      exact hret _ _ _ dX9_in_18 (by simp [inW, bI, c_3, n_3, c_10, n_10])
set_option maxHeartbeats 4000000 in
set_option maxRecDepth 100000 in
theorem k_X8_isHeap (l : Launch) (D : va_G) (cA : Nat → ClassId) (M : mp) (n : Int64)  : PC l D cA yX8_isHeap wsX8_isHeap 1 25 [.long n] M (some (.int (bI (inW n 0 1000000000000)))) := by
  refine PC.zz (cc := cX8_isHeap) (maxL := 2) (by decide) rfl (Nat.le_of_ble_eq_true rfl) ?_
  intro p e s m args below meth c H Q ls B hM hl hret
  obtain ⟨hx, hb, hown, hts, hml, hK, hin⟩ := B
  have hown : s.vm.findClass RX8 = some m.cls := hown
  have hl : lv_has ls 2 [(0, .long n)] := hl
  have cst_109 := hts (.constantLong RX8 109 (1000000000000)) (by decide +kernel)
  refine lv_lload_n hx hb dX8_isHeap_0 rfl (lv_at hl 0 rfl) ?_
  refine lv_lconst (v := 0) hx hb dX8_isHeap_1 (by decide) ?_
  refine lv_ldc2 hx hb hown cst_109 dX8_isHeap_2 ?_
  refine cpS (As := [.long n, .long 0, .long 1000000000000]) (rest := []) (k_X8_isWithin l D cA M n 0 1000000000000) ⟨hx, hb, hml, hown, hts⟩ (va_cwS 3 hts gX8_isHeap_X8_isWithin rfl rfl rfl (by decide +kernel) ⟨by decide, by decide⟩) hK hM rfl hl.1 rfl (Nat.le_of_ble_eq_true rfl) dX8_isHeap_5 ⟨by decide, by decide⟩ ?_
  exact hret _ _ _ dX8_isHeap_8 (rfl)
set_option maxHeartbeats 4000000 in
set_option maxRecDepth 100000 in
theorem k_X9_isHeap (l : Launch) (D : va_G) (cA : Nat → ClassId) (M : mp) (n : Int64)  : PC l D cA yX9_isHeap wsX9_isHeap 1 25 [.long n] M (some (.int (bI (inW n 0 1000000000000)))) := by
  refine PC.zz (cc := cX9_isHeap) (maxL := 2) (by decide) rfl (Nat.le_of_ble_eq_true rfl) ?_
  intro p e s m args below meth c H Q ls B hM hl hret
  obtain ⟨hx, hb, hown, hts, hml, hK, hin⟩ := B
  have hown : s.vm.findClass RX9 = some m.cls := hown
  have hl : lv_has ls 2 [(0, .long n)] := hl
  have cst_48 := hts (.constantLong RX9 48 (1000000000000)) (by decide +kernel)
  refine lv_lload_n hx hb dX9_isHeap_0 rfl (lv_at hl 0 rfl) ?_
  refine lv_lconst (v := 0) hx hb dX9_isHeap_1 (by decide) ?_
  refine lv_ldc2 hx hb hown cst_48 dX9_isHeap_2 ?_
  refine cpS (As := [.long n, .long 0, .long 1000000000000]) (rest := []) (k_X9_in l D cA M n 0 1000000000000) ⟨hx, hb, hml, hown, hts⟩ (va_cwS 3 hts gX9_isHeap_X9_in rfl rfl rfl (by decide +kernel) ⟨by decide, by decide⟩) hK hM rfl hl.1 rfl (Nat.le_of_ble_eq_true rfl) dX9_isHeap_5 ⟨by decide, by decide⟩ ?_
  exact hret _ _ _ dX9_isHeap_8 (rfl)
set_option maxHeartbeats 4000000 in
set_option maxRecDepth 100000 in
theorem k_X8_isFactor (l : Launch) (D : va_G) (cA : Nat → ClassId) (M : mp) (n : Int64)  : PC l D cA yX8_isFactor wsX8_isFactor 1 25 [.long n] M (some (.int (bI (inW n 1 9)))) := by
  refine PC.zz (cc := cX8_isFactor) (maxL := 2) (by decide) rfl (Nat.le_of_ble_eq_true rfl) ?_
  intro p e s m args below meth c H Q ls B hM hl hret
  obtain ⟨hx, hb, hown, hts, hml, hK, hin⟩ := B
  have hown : s.vm.findClass RX8 = some m.cls := hown
  have hl : lv_has ls 2 [(0, .long n)] := hl
  have cst_180 := hts (.constantLong RX8 180 (9)) (by decide +kernel)
  refine lv_lload_n hx hb dX8_isFactor_0 rfl (lv_at hl 0 rfl) ?_
  refine lv_lconst (v := 1) hx hb dX8_isFactor_1 (by decide) ?_
  refine lv_ldc2 hx hb hown cst_180 dX8_isFactor_2 ?_
  refine cpS (As := [.long n, .long 1, .long 9]) (rest := []) (k_X8_isWithin l D cA M n 1 9) ⟨hx, hb, hml, hown, hts⟩ (va_cwS 3 hts gX8_isFactor_X8_isWithin rfl rfl rfl (by decide +kernel) ⟨by decide, by decide⟩) hK hM rfl hl.1 rfl (Nat.le_of_ble_eq_true rfl) dX8_isFactor_5 ⟨by decide, by decide⟩ ?_
  exact hret _ _ _ dX8_isFactor_8 (rfl)
set_option maxHeartbeats 4000000 in
set_option maxRecDepth 100000 in
theorem k_X8_mostByAll (l : Launch) (D : va_G) (cA : Nat → ClassId) (M : mp) (g : Int32)  : PC l D cA yX8_mostByAll wsX8_mostByAll 0 0 [.int g] M (some (.int (if g = 0 then 60 else if g = 1 then 60 else if g = 3 then 10 else -1))) := by
  refine PC.it (cc := cX8_mostByAll) (maxL := 1) (by decide) rfl (Nat.le_of_ble_eq_true rfl) ?_
  intro p e s m args below meth c H Q ls B hM hl hret
  obtain ⟨hx, hb, hown, hts, hml, hK, hin⟩ := B
  have hown : s.vm.findClass RX8 = some m.cls := hown
  have hl : lv_has ls 1 [(0, .int g)] := hl
  refine lv_iload_n hx hb dX8_mostByAll_0 rfl (lv_at hl 0 rfl) ?_
  refine bz_eq (tgt := 9) hx hb dX8_mostByAll_1 (by decide) (fun c_1 n_1 => ?_) (fun c_1 n_1 => ?_)
  · skip
    refine lv_bipush (v := 60) hx hb dX8_mostByAll_9 (by decide) ?_
    exact hret _ _ _ dX8_mostByAll_11 (by simp [c_1])
  · skip
    refine lv_iload_n hx hb dX8_mostByAll_4 rfl (lv_at hl 0 rfl) ?_
    refine lv_iconst (v := 1) hx hb dX8_mostByAll_5 (by decide) ?_
    refine bi_ne (tgt := 12) hx hb dX8_mostByAll_6 (by decide) (fun c_6 n_6 => ?_) (fun c_6 n_6 => ?_)
    · skip
      refine lv_iload_n hx hb dX8_mostByAll_12 rfl (lv_at hl 0 rfl) ?_
      refine lv_iconst (v := 3) hx hb dX8_mostByAll_13 (by decide) ?_
      refine bi_ne (tgt := 22) hx hb dX8_mostByAll_14 (by decide) (fun c_14 n_14 => ?_) (fun c_14 n_14 => ?_)
      · skip
        refine lv_iconst (v := (-1)) hx hb dX8_mostByAll_22 (by decide) ?_
        exact hret _ _ _ dX8_mostByAll_23 (by simp [c_1, n_1, c_6, n_6, c_14, n_14])
      · skip
        refine lv_bipush (v := 10) hx hb dX8_mostByAll_17 (by decide) ?_
        refine lv_goto (tgt := 23) hx hb dX8_mostByAll_19 (by decide) ?_
        exact hret _ _ _ dX8_mostByAll_23 (by simp [c_1, n_1, c_6, n_6, c_14])
    · skip
      refine lv_bipush (v := 60) hx hb dX8_mostByAll_9 (by decide) ?_
      exact hret _ _ _ dX8_mostByAll_11 (by simp [c_1, n_1, c_6])
set_option maxHeartbeats 4000000 in
set_option maxRecDepth 100000 in
theorem k_X8_oneIf (l : Launch) (D : va_G) (cA : Nat → ClassId) (M : mp) (b : Bool)  : PC l D cA yX8_oneIf wsX8_oneIf 0 0 [.int (bI b)] M (some (.int (bI b))) := by
  refine PC.it (cc := cX8_oneIf) (maxL := 1) (by decide) rfl (Nat.le_of_ble_eq_true rfl) ?_
  intro p e s m args below meth c H Q ls B hM hl hret
  obtain ⟨hx, hb, hown, hts, hml, hK, hin⟩ := B
  have hown : s.vm.findClass RX8 = some m.cls := hown
  have hl : lv_has ls 1 [(0, .int (bI b))] := hl
  refine lv_iload_n hx hb dX8_oneIf_0 rfl (lv_at hl 0 rfl) ?_
  refine bz_eq (tgt := 8) hx hb dX8_oneIf_1 (by decide) (fun c_1 n_1 => ?_) (fun c_1 n_1 => ?_)
  · skip
    refine lv_iconst (v := 0) hx hb dX8_oneIf_8 (by decide) ?_
    exact hret _ _ _ dX8_oneIf_9 (by first | rw [bI_ne0 c_1]; rfl | rw [bI_eq0 c_1]; rfl)
  · skip
    refine lv_iconst (v := 1) hx hb dX8_oneIf_4 (by decide) ?_
    refine lv_goto (tgt := 9) hx hb dX8_oneIf_5 (by decide) ?_
    exact hret _ _ _ dX8_oneIf_9 (by first | rw [bI_ne0 c_1]; rfl | rw [bI_eq0 c_1]; rfl)
end
section
theorem nD_succ (i : Nat) : nI (i + 1) - 1 = nI i := nI_pred i
theorem nD_neg {k : Nat} (hk : k < 2 ^ 31) (h : nI k - 1 < 0) : k = 0 := by
  cases k with
  | zero => rfl
  | succ i => rw [nD_succ] at h; exact absurd h (nI_pos (by omega))
theorem nD_pos {k : Nat} (h : 0 ≤ nI k - 1) : ∃ i, k = i + 1 := by
  cases k with
  | zero => exact absurd h (by decide)
  | succ i => exact ⟨i, rfl⟩
theorem nD_at {k i : Nat} (h : k = i + 1) : nI k - 1 = nI i := by subst h; exact nD_succ i
theorem nD_dec {k i : Nat} (h : k = i + 1) : nI k - 1 + Int32.ofInt (-1) = nI i - 1 := by
  rw [nD_at h]
  cases i with
  | zero => decide
  | succ j => rw [nI_dn, nD_succ]
theorem nD_m2 {n : Nat} (h : 2 ≤ n) : nI n - 2 = nI (n - 1) - 1 := by
  obtain ⟨k, rfl⟩ : ∃ k, n = k + 2 := ⟨n - 2, by omega⟩
  rw [show k + 2 - 1 = k + 1 by omega, nD_succ]
  have : (2 : Int32) = nI 2 := by decide
  rw [this, nI_sub (by omega)]
  rfl
theorem nD_up {k i : Nat} (h : k = i + 1) : nI k - 1 + 1 = nI (i + 1) := by rw [nD_at h]; exact nI_1 i
/-- |a - b| -/
def dF (a b : Nat) : Nat := if a ≤ b then b - a else a - b
theorem abs_dF {a b : Nat} (ha : a ≤ 1000000000000) (hb : b ≤ 1000000000000) : (if 0 < lN a - lN b then lN a - lN b else -(lN a - lN b)) = lN (dF a b) := by
  unfold dF
  by_cases h : a ≤ b
  · rw [if_pos h]
    rw [if_neg, Int64.neg_sub, lN_sub h]
    intro hp
    rw [← Int64.neg_sub, lN_sub h, Int64.lt_iff_toInt_lt, show (lN (b - a)) = Int64.ofNat (b - a) from rfl, Int64.toInt_neg_ofNat_of_le (by omega)] at hp
    have : (0 : Int64).toInt = 0 := by decide
    omega
  · rw [if_neg h, lN_sub (by omega), if_pos]
    rw [l_0]
    exact (ln_lt (by decide) (by omega)).mpr (by omega)
theorem min_lN {a b : Nat} (ha : a ≤ 2000000000000) (hb : b ≤ 2000000000000) : (if lN b < lN a then lN b else lN a) = lN (min a b) := by
  by_cases h : b < a
  · rw [if_pos ((ln_lt (by omega) (by omega)).mpr h), Nat.min_eq_right (by omega)]
  · rw [if_neg (fun z => h ((ln_lt (by omega) (by omega)).mp z)), Nat.min_eq_left (by omega)]
theorem max_lN {a b : Nat} (ha : a ≤ 2000000000000) (hb : b ≤ 2000000000000) : (if lN b < lN a then lN a else lN b) = lN (max a b) := by
  by_cases h : b < a
  · rw [if_pos ((ln_lt (by omega) (by omega)).mpr h), Nat.max_eq_left (by omega)]
  · rw [if_neg (fun z => h ((ln_lt (by omega) (by omega)).mp z)), Nat.max_eq_right (by omega)]
theorem rsz_2 : rsz 2 = 59 := by decide +kernel
theorem cut_row {n : Nat} (h : 1 ≤ n) : 1 + rsF (rowN 2) (rsz 2 - 1) (n - 1) = cutF n := by
  unfold cutF
  rw [if_neg (by omega), rsz_2, rsF_cong 58 _ (fun k hk => row_2 k (by omega))]
/-! what the class tells of the pairs -/
def idxF (h : Nat) : Nat := if h = 0 then 0 else cutF h - h + 1
def isLF (h : Nat) : Bool := cutF (idxF h) == h
def prtF (h : Nat) : Nat := if isLF h then h + idxF h else cutF h - h
def idF (h : Nat) : Nat := if isLF h then idxF h else 2 * h - cutF h
theorem idxF_le {h : Nat} (hh : h ≤ 1000000000000) : idxF h ≤ 1000000000001 := by
  unfold idxF
  split
  · omega
  · rename_i h0
    have := cut_spec (show 1 ≤ h by omega) (show h ≤ 1000000000001 by omega)
    omega
def bothF (a b : Nat) : Bool := !(cutF (dF a b) == min a b)
def whichF (a b : Nat) : Int32 := if prtF b < a then 0 else if prtF a < b then 1 else if cutF (dF a b) < min a b then 2 else -1
def howF (a b : Nat) : Nat := if prtF b < a then a - prtF b else if prtF a < b then b - prtF a else if cutF (dF a b) < min a b then min a b - cutF (dF a b) else 0
def shF (a b : Nat) : Bool := decide (0 < min a b) && (decide (max a b = min a b) || decide (cutF (min a b) < max a b))
theorem prtF_le {h : Nat} (hh : h ≤ 1000000000000) : prtF h ≤ 3000000000000 := by
  have h1 := idxF_le hh
  have h2 := cut_le (k := h) (by omega)
  unfold prtF
  split <;> omega
theorem dF_le {a b : Nat} (ha : a ≤ 1000000000000) (hb : b ≤ 1000000000000) : dF a b ≤ 1000000000000 := by
  unfold dF
  split <;> omega
/-- THE ROW of two, held by the object go of Golden -/
def goldW (cA : Nat → ClassId) (M : mp) (go : Nat) : Prop := ∃ (s2 n2 : Nat) (f : Nat → Int64), M go = some (.inr (1, [.ref s2])) ∧ M s2 = some (.inr (6, [.ref n2, .int (nI (rsz 2))])) ∧ M n2 = some (.inl (cA 0, 240, .inr (.inl f))) ∧ ∀ j, j < rsz 2 → f j = lN (rowN 2 j)
/-- one row of sums by t, at the object h0 of Sums -/
def sumW (cA : Nat → ClassId) (M : mp) (t h0 : Nat) : Prop := ∃ (n0 : Nat) (f : Nat → Int64), M h0 = some (.inr (6, [.ref n0, .int (nI (rsz t))])) ∧ M n0 = some (.inl (cA 0, 240, .inr (.inl f))) ∧ ∀ j, j < rsz t → f j = lN (rowN t j)
end
section
set_option maxHeartbeats 4000000 in
set_option maxRecDepth 100000 in
theorem k_X6_raised (l : Launch) (D : va_G) (cA : Nat → ClassId) (M : mp) (t h0 : Nat) (n : Nat) (hw0 : sumW cA M t h0) (ht1 : 1 ≤ t) (ht9 : t ≤ 9) (hn : n ≤ 1000000000000) : PC l D cA yX6_raised wsX6_raised 0 0 [.ref h0, .long (lN n)] M (some (.long (lN (rsF (rowN t) (rsz t - 1) n)))) := by
  refine PC.lg (cc := cX6_raised) (maxL := 8) (by decide) rfl (Nat.le_of_ble_eq_true rfl) ?_
  intro p e s m args below meth c H Q ls B hM hl hret
  obtain ⟨hx, hb, hown, hts, hml, hK, hin⟩ := B
  have hown : s.vm.findClass RX6 = some m.cls := hown
  have hl : lv_has ls 8 [(0, .ref h0), (1, .long (lN n))] := hl
  have in_X6 : ∀ w ∈ wsX60, w ∈ wsX6_raised := by decide +kernel
  have fl_17 := hts (.fieldLink RX6 17 "GoldHeaps$Sums" "size" "I") (by decide +kernel)
  have fl_11 := hts (.fieldLink RX6 11 "GoldHeaps$Sums" "numbers" "[J") (by decide +kernel)
  obtain ⟨n0, f, hS, hN, hf⟩ := hw0
  obtain ⟨-, -, hz3, hz4, hz5⟩ := row_0 t (by omega) ht1
  refine lv_lload_n hx hb dX6_raised_0 rfl (lv_at hl 1 rfl) ?_
  refine lv_lstore_n (lv' := [(3, .long (lN n)), (0, .ref h0), (1, .long (lN n))]) hx hb dX6_raised_1 rfl hl (by decide) rfl (fun ls hl => ?_)
  refine lv_lconst (v := 0) hx hb dX6_raised_2 (by decide) ?_
  refine lv_lstore (lv' := [(5, .long 0), (3, .long (lN n)), (0, .ref h0), (1, .long (lN n))]) hx hb dX6_raised_3 hl (by decide) rfl (fun ls hl => ?_)
  refine lv_aload_n hx hb dX6_raised_5 rfl (lv_at hl 2 rfl) ?_
  refine m_get (ci := 6) (C := RX6) (T := TX6) (N := 2) (v := .int (nI (rsz t))) hx hb hts in_X6 hown hK hM hS rfl 1 (by decide) fl_17 (fun _ h => h) rfl dX6_raised_6 ?_
  refine lv_iconst (v := 2) hx hb dX6_raised_9 (by decide) ?_
  refine lv_isub hx hb dX6_raised_10 ?_
  refine tpi (x' := nI (rsz t - 1) - 1) (nD_m2 (by omega)) ?_
  refine lv_istore (lv' := [(7, .int (nI (rsz t - 1) - 1)), (5, .long 0), (3, .long (lN n)), (0, .ref h0), (1, .long (lN n))]) hx hb dX6_raised_11 hl (by decide) rfl (fun ls hl => ?_)
  have j_13 : ∀ (fu : Nat) (k left sum : Nat) (ls : Array Slot), (k ≤ rsz t - 1) → (left ≤ n) → (sum + rsF (rowN t) k left = rsF (rowN t) (rsz t - 1) n) → (k < fu) → lv_has ls 8 [(0, .ref h0), (3, .long (lN left)), (5, .long (lN sum)), (7, .int (nI k - 1))] → W p l e ({ frames := 0, cells := 0, slots := 0, locals := 0 } : Room) s m args below meth c H [] 0 0 Q (F0 m 13 ls []) := by
    intro fu
    induction fu with
    | zero => intro k left sum ls hk hle hs hm _; exact absurd hm (Nat.not_lt_zero _)
    | succ fu ih =>
      intro k left sum ls hk hle hs hm hl
      refine lv_iload hx hb dX6_raised_13 (lv_at hl 3 rfl) ?_
      refine bz_lt (tgt := 60) hx hb dX6_raised_15 (by decide) (fun c_15 n_15 => ?_) (fun c_15 n_15 => ?_)
      · skip
        have hk0 := nD_neg (by omega) c_15
        refine lv_lload hx hb dX6_raised_60 (lv_at hl 2 rfl) ?_
        exact hret _ _ _ dX6_raised_62 (by subst hk0; exact congrArg lN hs)
      · skip
        obtain ⟨i, hi⟩ := nD_pos c_15
        have hpos := row_pos ht1 ht9 (i := i) (by omega)
        refine lv_aload_n hx hb dX6_raised_18 rfl (lv_at hl 0 rfl) ?_
        refine m_get (ci := 6) (C := RX6) (T := TX6) (N := 2) (v := .ref n0) hx hb hts in_X6 hown hK hM hS rfl 0 (by decide) fl_11 (fun _ h => h) rfl dX6_raised_19 ?_
        refine lv_iload hx hb dX6_raised_22 (lv_at hl 3 rfl) ?_
        refine m_laldN (k := i) hx hb hK hM hN (nD_at hi) (by omega) (by decide) dX6_raised_24 ?_
        refine tpl (x' := lN (rowN t i)) (hf i (by omega)) ?_
        refine lv_lload_n hx hb dX6_raised_25 rfl (lv_at hl 1 rfl) ?_
        refine bl_gt (tgt := 54) hx hb dX6_raised_26 dX6_raised_27 (by decide) (fun c_27 n_27 => ?_) (fun c_27 n_27 => ?_)
        · skip
          have hlt : left < rowN t i := (ln_lt (by omega) (by omega)).mp c_27
          refine lv_iinc (v := nI i - 1) (lv' := [(7, .int (nI i - 1)), (0, .ref h0), (3, .long (lN left)), (5, .long (lN sum))]) hx hb dX6_raised_54 hl (k := 3) rfl (nD_dec hi) (by decide) rfl (fun ls hl => ?_)
          refine lv_goto (tgt := 13) hx hb dX6_raised_57 (by decide) ?_
          exact ih i left sum _ (by omega) hle (by rw [← hs, hi]; show sum + _ = sum + (if rowN t i ≤ left then _ else _); rw [if_neg (by omega)]) (by omega) (lv_sub hl [1, 2, 3, 0] rfl)
        · skip
          have hge : rowN t i ≤ left := (ln_le (by omega) (by omega)).mp c_27
          refine lv_lload_n hx hb dX6_raised_30 rfl (lv_at hl 1 rfl) ?_
          refine lv_aload_n hx hb dX6_raised_31 rfl (lv_at hl 0 rfl) ?_
          refine m_get (ci := 6) (C := RX6) (T := TX6) (N := 2) (v := .ref n0) hx hb hts in_X6 hown hK hM hS rfl 0 (by decide) fl_11 (fun _ h => h) rfl dX6_raised_32 ?_
          refine lv_iload hx hb dX6_raised_35 (lv_at hl 3 rfl) ?_
          refine m_laldN (k := i) hx hb hK hM hN (nD_at hi) (by omega) (by decide) dX6_raised_37 ?_
          refine tpl (x' := lN (rowN t i)) (hf i (by omega)) ?_
          refine lv_lsub hx hb dX6_raised_38 ?_
          refine tpl (x' := lN (left - rowN t i)) (lN_sub hge) ?_
          refine lv_lstore_n (lv' := [(3, .long (lN (left - rowN t i))), (0, .ref h0), (5, .long (lN sum)), (7, .int (nI k - 1))]) hx hb dX6_raised_39 rfl hl (by decide) rfl (fun ls hl => ?_)
          refine lv_lload hx hb dX6_raised_40 (lv_at hl 2 rfl) ?_
          refine lv_aload_n hx hb dX6_raised_42 rfl (lv_at hl 1 rfl) ?_
          refine m_get (ci := 6) (C := RX6) (T := TX6) (N := 2) (v := .ref n0) hx hb hts in_X6 hown hK hM hS rfl 0 (by decide) fl_11 (fun _ h => h) rfl dX6_raised_43 ?_
          refine lv_iload hx hb dX6_raised_46 (lv_at hl 3 rfl) ?_
          refine lv_iconst (v := 1) hx hb dX6_raised_48 (by decide) ?_
          refine lv_iadd hx hb dX6_raised_49 ?_
          refine m_laldN (k := i + 1) hx hb hK hM hN (nD_up hi) (by omega) (by decide) dX6_raised_50 ?_
          refine tpl (x' := lN (rowN t (i + 1))) (hf (i + 1) (by omega)) ?_
          refine lv_ladd hx hb dX6_raised_51 ?_
          refine tpl (x' := lN (sum + rowN t (i + 1))) (lN_add _ _) ?_
          refine lv_lstore (lv' := [(5, .long (lN (sum + rowN t (i + 1)))), (3, .long (lN (left - rowN t i))), (0, .ref h0), (7, .int (nI k - 1))]) hx hb dX6_raised_52 hl (by decide) rfl (fun ls hl => ?_)
          refine lv_iinc (v := nI i - 1) (lv' := [(7, .int (nI i - 1)), (5, .long (lN (sum + rowN t (i + 1)))), (3, .long (lN (left - rowN t i))), (0, .ref h0)]) hx hb dX6_raised_54 hl (k := 3) rfl (nD_dec hi) (by decide) rfl (fun ls hl => ?_)
          refine lv_goto (tgt := 13) hx hb dX6_raised_57 (by decide) ?_
          exact ih i (left - rowN t i) (sum + rowN t (i + 1)) _ (by omega) (by omega) (by rw [← hs, hi]; show _ = sum + (if rowN t i ≤ left then _ else _); rw [if_pos hge]; omega) (by omega) (lv_sub hl [3, 2, 1, 0] rfl)
  exact j_13 (rsz t) (rsz t - 1) n 0 _ (Nat.le_refl _) (Nat.le_refl _) (Nat.zero_add _) (by omega) (lv_sub hl [3, 2, 1, 0] rfl)
set_option maxHeartbeats 4000000 in
set_option maxRecDepth 100000 in
theorem k_X6_endOf (l : Launch) (D : va_G) (cA : Nat → ClassId) (M : mp) (t h0 : Nat) (n : Nat) (hw0 : sumW cA M t h0) (ht1 : 1 ≤ t) (ht9 : t ≤ 9) (hn : n ≤ 1000000000000) : PC l D cA yX6_endOf wsX6_endOf 0 0 [.ref h0, .long (lN n)] M (some (.long (lN (enF (rowN t) (rsz t) n 0)))) := by
  refine PC.lg (cc := cX6_endOf) (maxL := 8) (by decide) rfl (Nat.le_of_ble_eq_true rfl) ?_
  intro p e s m args below meth c H Q ls B hM hl hret
  obtain ⟨hx, hb, hown, hts, hml, hK, hin⟩ := B
  have hown : s.vm.findClass RX6 = some m.cls := hown
  have hl : lv_has ls 8 [(0, .ref h0), (1, .long (lN n))] := hl
  have in_X6 : ∀ w ∈ wsX60, w ∈ wsX6_endOf := by decide +kernel
  have fl_17 := hts (.fieldLink RX6 17 "GoldHeaps$Sums" "size" "I") (by decide +kernel)
  have fl_11 := hts (.fieldLink RX6 11 "GoldHeaps$Sums" "numbers" "[J") (by decide +kernel)
  obtain ⟨n0, f, hS, hN, hf⟩ := hw0
  obtain ⟨-, -, hz3, hz4, hz5⟩ := row_0 t (by omega) ht1
  refine lv_lload_n hx hb dX6_endOf_0 rfl (lv_at hl 1 rfl) ?_
  refine lv_lstore_n (lv' := [(3, .long (lN n)), (0, .ref h0), (1, .long (lN n))]) hx hb dX6_endOf_1 rfl hl (by decide) rfl (fun ls hl => ?_)
  refine lv_lconst (v := 0) hx hb dX6_endOf_2 (by decide) ?_
  refine lv_lstore (lv' := [(5, .long 0), (3, .long (lN n)), (0, .ref h0), (1, .long (lN n))]) hx hb dX6_endOf_3 hl (by decide) rfl (fun ls hl => ?_)
  refine lv_aload_n hx hb dX6_endOf_5 rfl (lv_at hl 2 rfl) ?_
  refine m_get (ci := 6) (C := RX6) (T := TX6) (N := 2) (v := .int (nI (rsz t))) hx hb hts in_X6 hown hK hM hS rfl 1 (by decide) fl_17 (fun _ h => h) rfl dX6_endOf_6 ?_
  refine lv_iconst (v := 1) hx hb dX6_endOf_9 (by decide) ?_
  refine lv_isub hx hb dX6_endOf_10 ?_
  refine lv_istore (lv' := [(7, .int ((nI (rsz t) - 1))), (5, .long 0), (3, .long (lN n)), (0, .ref h0), (1, .long (lN n))]) hx hb dX6_endOf_11 hl (by decide) rfl (fun ls hl => ?_)
  have j_13 : ∀ (fu : Nat) (k left x : Nat) (ls : Array Slot), (k ≤ rsz t) → (left ≤ n) → (enF (rowN t) k left x = enF (rowN t) (rsz t) n 0) → (k < fu) → lv_has ls 8 [(0, .ref h0), (3, .long (lN left)), (5, .long (lN x)), (7, .int (nI k - 1))] → W p l e ({ frames := 0, cells := 0, slots := 0, locals := 0 } : Room) s m args below meth c H [] 0 0 Q (F0 m 13 ls []) := by
    intro fu
    induction fu with
    | zero => intro k left x ls hk hle hs hm _; exact absurd hm (Nat.not_lt_zero _)
    | succ fu ih =>
      intro k left x ls hk hle hs hm hl
      refine lv_iload hx hb dX6_endOf_13 (lv_at hl 3 rfl) ?_
      refine bz_lt (tgt := 55) hx hb dX6_endOf_15 (by decide) (fun c_15 n_15 => ?_) (fun c_15 n_15 => ?_)
      · skip
        have hk0 := nD_neg (by omega) c_15
        refine lv_lload hx hb dX6_endOf_55 (lv_at hl 2 rfl) ?_
        exact hret _ _ _ dX6_endOf_57 (by subst hk0; exact congrArg lN hs)
      · skip
        obtain ⟨i, hi⟩ := nD_pos c_15
        have hpos := row_pos ht1 ht9 (i := i) (by omega)
        refine lv_aload_n hx hb dX6_endOf_18 rfl (lv_at hl 0 rfl) ?_
        refine m_get (ci := 6) (C := RX6) (T := TX6) (N := 2) (v := .ref n0) hx hb hts in_X6 hown hK hM hS rfl 0 (by decide) fl_11 (fun _ h => h) rfl dX6_endOf_19 ?_
        refine lv_iload hx hb dX6_endOf_22 (lv_at hl 3 rfl) ?_
        refine m_laldN (k := i) hx hb hK hM hN (nD_at hi) (by omega) (by decide) dX6_endOf_24 ?_
        refine tpl (x' := lN (rowN t i)) (hf i (by omega)) ?_
        refine lv_lload_n hx hb dX6_endOf_25 rfl (lv_at hl 1 rfl) ?_
        refine bl_gt (tgt := 49) hx hb dX6_endOf_26 dX6_endOf_27 (by decide) (fun c_27 n_27 => ?_) (fun c_27 n_27 => ?_)
        · skip
          have hlt : left < rowN t i := (ln_lt (by omega) (by omega)).mp c_27
          refine lv_iinc (v := nI i - 1) (lv' := [(7, .int (nI i - 1)), (0, .ref h0), (3, .long (lN left)), (5, .long (lN x))]) hx hb dX6_endOf_49 hl (k := 3) rfl (nD_dec hi) (by decide) rfl (fun ls hl => ?_)
          refine lv_goto (tgt := 13) hx hb dX6_endOf_52 (by decide) ?_
          exact ih i left x _ (by omega) hle (by rw [← hs, hi]; show enF _ i left x = (if rowN t i ≤ left then _ else _); rw [if_neg (by omega)]) (by omega) (lv_sub hl [1, 2, 3, 0] rfl)
        · skip
          have hge : rowN t i ≤ left := (ln_le (by omega) (by omega)).mp c_27
          refine lv_lload_n hx hb dX6_endOf_30 rfl (lv_at hl 1 rfl) ?_
          refine lv_aload_n hx hb dX6_endOf_31 rfl (lv_at hl 0 rfl) ?_
          refine m_get (ci := 6) (C := RX6) (T := TX6) (N := 2) (v := .ref n0) hx hb hts in_X6 hown hK hM hS rfl 0 (by decide) fl_11 (fun _ h => h) rfl dX6_endOf_32 ?_
          refine lv_iload hx hb dX6_endOf_35 (lv_at hl 3 rfl) ?_
          refine m_laldN (k := i) hx hb hK hM hN (nD_at hi) (by omega) (by decide) dX6_endOf_37 ?_
          refine tpl (x' := lN (rowN t i)) (hf i (by omega)) ?_
          refine lv_lsub hx hb dX6_endOf_38 ?_
          refine tpl (x' := lN (left - rowN t i)) (lN_sub hge) ?_
          refine lv_lstore_n (lv' := [(3, .long (lN (left - rowN t i))), (0, .ref h0), (5, .long (lN x)), (7, .int (nI k - 1))]) hx hb dX6_endOf_39 rfl hl (by decide) rfl (fun ls hl => ?_)
          refine lv_aload_n hx hb dX6_endOf_40 rfl (lv_at hl 1 rfl) ?_
          refine m_get (ci := 6) (C := RX6) (T := TX6) (N := 2) (v := .ref n0) hx hb hts in_X6 hown hK hM hS rfl 0 (by decide) fl_11 (fun _ h => h) rfl dX6_endOf_41 ?_
          refine lv_iload hx hb dX6_endOf_44 (lv_at hl 3 rfl) ?_
          refine m_laldN (k := i) hx hb hK hM hN (nD_at hi) (by omega) (by decide) dX6_endOf_46 ?_
          refine tpl (x' := lN (rowN t i)) (hf i (by omega)) ?_
          refine lv_lstore (lv' := [(5, .long (lN (rowN t i))), (3, .long (lN (left - rowN t i))), (0, .ref h0), (7, .int (nI k - 1))]) hx hb dX6_endOf_47 hl (by decide) rfl (fun ls hl => ?_)
          refine lv_iinc (v := nI i - 1) (lv' := [(7, .int (nI i - 1)), (5, .long (lN (rowN t i))), (3, .long (lN (left - rowN t i))), (0, .ref h0)]) hx hb dX6_endOf_49 hl (k := 3) rfl (nD_dec hi) (by decide) rfl (fun ls hl => ?_)
          refine lv_goto (tgt := 13) hx hb dX6_endOf_52 (by decide) ?_
          exact ih i (left - rowN t i) (rowN t i) _ (by omega) (by omega) (by rw [← hs, hi]; show _ = (if rowN t i ≤ left then _ else _); rw [if_pos hge]) (by omega) (lv_sub hl [3, 2, 1, 0] rfl)
  exact j_13 (rsz t + 1) (rsz t) n 0 _ (Nat.le_refl _) (Nat.le_refl _) rfl (by omega) (lv_sub hl [3, 2, 1, 0] rfl)
set_option maxHeartbeats 4000000 in
set_option maxRecDepth 100000 in
theorem k_X6_countOf (l : Launch) (D : va_G) (cA : Nat → ClassId) (M : mp) (t h0 : Nat) (n : Nat) (hw0 : sumW cA M t h0) (ht1 : 1 ≤ t) (ht9 : t ≤ 9) (hn : n ≤ 1000000000000) : PC l D cA yX6_countOf wsX6_countOf 0 0 [.ref h0, .long (lN n)] M (some (.int (nI (cnF (rowN t) (rsz t) n)))) := by
  refine PC.it (cc := cX6_countOf) (maxL := 7) (by decide) rfl (Nat.le_of_ble_eq_true rfl) ?_
  intro p e s m args below meth c H Q ls B hM hl hret
  obtain ⟨hx, hb, hown, hts, hml, hK, hin⟩ := B
  have hown : s.vm.findClass RX6 = some m.cls := hown
  have hl : lv_has ls 7 [(0, .ref h0), (1, .long (lN n))] := hl
  have in_X6 : ∀ w ∈ wsX60, w ∈ wsX6_countOf := by decide +kernel
  have fl_17 := hts (.fieldLink RX6 17 "GoldHeaps$Sums" "size" "I") (by decide +kernel)
  have fl_11 := hts (.fieldLink RX6 11 "GoldHeaps$Sums" "numbers" "[J") (by decide +kernel)
  obtain ⟨n0, f, hS, hN, hf⟩ := hw0
  obtain ⟨-, -, hz3, hz4, hz5⟩ := row_0 t (by omega) ht1
  refine lv_lload_n hx hb dX6_countOf_0 rfl (lv_at hl 1 rfl) ?_
  refine lv_lstore_n (lv' := [(3, .long (lN n)), (0, .ref h0), (1, .long (lN n))]) hx hb dX6_countOf_1 rfl hl (by decide) rfl (fun ls hl => ?_)
  refine lv_iconst (v := 0) hx hb dX6_countOf_2 (by decide) ?_
  refine lv_istore (lv' := [(5, .int 0), (3, .long (lN n)), (0, .ref h0), (1, .long (lN n))]) hx hb dX6_countOf_3 hl (by decide) rfl (fun ls hl => ?_)
  refine lv_aload_n hx hb dX6_countOf_5 rfl (lv_at hl 2 rfl) ?_
  refine m_get (ci := 6) (C := RX6) (T := TX6) (N := 2) (v := .int (nI (rsz t))) hx hb hts in_X6 hown hK hM hS rfl 1 (by decide) fl_17 (fun _ h => h) rfl dX6_countOf_6 ?_
  refine lv_iconst (v := 1) hx hb dX6_countOf_9 (by decide) ?_
  refine lv_isub hx hb dX6_countOf_10 ?_
  refine lv_istore (lv' := [(6, .int ((nI (rsz t) - 1))), (5, .int 0), (3, .long (lN n)), (0, .ref h0), (1, .long (lN n))]) hx hb dX6_countOf_11 hl (by decide) rfl (fun ls hl => ?_)
  have j_13 : ∀ (fu : Nat) (k left x : Nat) (ls : Array Slot), (k ≤ rsz t) → (left ≤ n) → (x + cnF (rowN t) k left = cnF (rowN t) (rsz t) n) → (k < fu) → lv_has ls 7 [(0, .ref h0), (3, .long (lN left)), (5, .int (nI x)), (6, .int (nI k - 1))] → W p l e ({ frames := 0, cells := 0, slots := 0, locals := 0 } : Room) s m args below meth c H [] 0 0 Q (F0 m 13 ls []) := by
    intro fu
    induction fu with
    | zero => intro k left x ls hk hle hs hm _; exact absurd hm (Nat.not_lt_zero _)
    | succ fu ih =>
      intro k left x ls hk hle hs hm hl
      refine lv_iload hx hb dX6_countOf_13 (lv_at hl 3 rfl) ?_
      refine bz_lt (tgt := 49) hx hb dX6_countOf_15 (by decide) (fun c_15 n_15 => ?_) (fun c_15 n_15 => ?_)
      · skip
        have hk0 := nD_neg (by omega) c_15
        refine lv_iload hx hb dX6_countOf_49 (lv_at hl 2 rfl) ?_
        exact hret _ _ _ dX6_countOf_51 (by subst hk0; exact congrArg nI hs)
      · skip
        obtain ⟨i, hi⟩ := nD_pos c_15
        have hpos := row_pos ht1 ht9 (i := i) (by omega)
        refine lv_aload_n hx hb dX6_countOf_18 rfl (lv_at hl 0 rfl) ?_
        refine m_get (ci := 6) (C := RX6) (T := TX6) (N := 2) (v := .ref n0) hx hb hts in_X6 hown hK hM hS rfl 0 (by decide) fl_11 (fun _ h => h) rfl dX6_countOf_19 ?_
        refine lv_iload hx hb dX6_countOf_22 (lv_at hl 3 rfl) ?_
        refine m_laldN (k := i) hx hb hK hM hN (nD_at hi) (by omega) (by decide) dX6_countOf_24 ?_
        refine tpl (x' := lN (rowN t i)) (hf i (by omega)) ?_
        refine lv_lload_n hx hb dX6_countOf_25 rfl (lv_at hl 1 rfl) ?_
        refine bl_gt (tgt := 43) hx hb dX6_countOf_26 dX6_countOf_27 (by decide) (fun c_27 n_27 => ?_) (fun c_27 n_27 => ?_)
        · skip
          have hlt : left < rowN t i := (ln_lt (by omega) (by omega)).mp c_27
          refine lv_iinc (v := nI i - 1) (lv' := [(6, .int (nI i - 1)), (0, .ref h0), (3, .long (lN left)), (5, .int (nI x))]) hx hb dX6_countOf_43 hl (k := 3) rfl (nD_dec hi) (by decide) rfl (fun ls hl => ?_)
          refine lv_goto (tgt := 13) hx hb dX6_countOf_46 (by decide) ?_
          exact ih i left x _ (by omega) hle (by rw [← hs, hi]; show x + _ = x + (if rowN t i ≤ left then _ else _); rw [if_neg (by omega)]) (by omega) (lv_sub hl [1, 2, 3, 0] rfl)
        · skip
          have hge : rowN t i ≤ left := (ln_le (by omega) (by omega)).mp c_27
          refine lv_lload_n hx hb dX6_countOf_30 rfl (lv_at hl 1 rfl) ?_
          refine lv_aload_n hx hb dX6_countOf_31 rfl (lv_at hl 0 rfl) ?_
          refine m_get (ci := 6) (C := RX6) (T := TX6) (N := 2) (v := .ref n0) hx hb hts in_X6 hown hK hM hS rfl 0 (by decide) fl_11 (fun _ h => h) rfl dX6_countOf_32 ?_
          refine lv_iload hx hb dX6_countOf_35 (lv_at hl 3 rfl) ?_
          refine m_laldN (k := i) hx hb hK hM hN (nD_at hi) (by omega) (by decide) dX6_countOf_37 ?_
          refine tpl (x' := lN (rowN t i)) (hf i (by omega)) ?_
          refine lv_lsub hx hb dX6_countOf_38 ?_
          refine tpl (x' := lN (left - rowN t i)) (lN_sub hge) ?_
          refine lv_lstore_n (lv' := [(3, .long (lN (left - rowN t i))), (0, .ref h0), (5, .int (nI x)), (6, .int (nI k - 1))]) hx hb dX6_countOf_39 rfl hl (by decide) rfl (fun ls hl => ?_)
          refine lv_iinc (v := nI (x + 1)) (lv' := [(5, .int (nI (x + 1))), (3, .long (lN (left - rowN t i))), (0, .ref h0), (6, .int (nI k - 1))]) hx hb dX6_countOf_40 hl (k := 2) rfl (nI_up x) (by decide) rfl (fun ls hl => ?_)
          refine lv_iinc (v := nI i - 1) (lv' := [(6, .int (nI i - 1)), (5, .int (nI (x + 1))), (3, .long (lN (left - rowN t i))), (0, .ref h0)]) hx hb dX6_countOf_43 hl (k := 3) rfl (nD_dec hi) (by decide) rfl (fun ls hl => ?_)
          refine lv_goto (tgt := 13) hx hb dX6_countOf_46 (by decide) ?_
          exact ih i (left - rowN t i) (x + 1) _ (by omega) (by omega) (by rw [← hs, hi]; show _ = x + (if rowN t i ≤ left then _ else _); rw [if_pos hge]; omega) (by omega) (lv_sub hl [3, 2, 1, 0] rfl)
  exact j_13 (rsz t + 1) (rsz t) n 0 _ (Nat.le_refl _) (Nat.le_refl _) (Nat.zero_add _) (by omega) (lv_sub hl [3, 2, 1, 0] rfl)
set_option maxHeartbeats 4000000 in
set_option maxRecDepth 100000 in
theorem k_X6_numberAt (l : Launch) (D : va_G) (cA : Nat → ClassId) (M : mp) (t h0 : Nat) (i : Int32) (hw0 : sumW cA M t h0) (ht1 : 1 ≤ t) (ht9 : t ≤ 9) : PC l D cA yX6_numberAt wsX6_numberAt 0 0 [.ref h0, .int i] M (some (.long (if 0 ≤ i ∧ i.toNatClampNeg < rsz t - 1 then lN (rowN t i.toNatClampNeg) else -1))) := by
  refine PC.lg (cc := cX6_numberAt) (maxL := 2) (by decide) rfl (Nat.le_of_ble_eq_true rfl) ?_
  intro p e s m args below meth c H Q ls B hM hl hret
  obtain ⟨hx, hb, hown, hts, hml, hK, hin⟩ := B
  have hown : s.vm.findClass RX6 = some m.cls := hown
  have hl : lv_has ls 2 [(0, .ref h0), (1, .int i)] := hl
  have cst_21 := hts (.constantLong RX6 21 (-1)) (by decide +kernel)
  have in_X6 : ∀ w ∈ wsX60, w ∈ wsX6_numberAt := by decide +kernel
  have fl_17 := hts (.fieldLink RX6 17 "GoldHeaps$Sums" "size" "I") (by decide +kernel)
  have fl_11 := hts (.fieldLink RX6 11 "GoldHeaps$Sums" "numbers" "[J") (by decide +kernel)
  have cst_15 := hts (.constantLong RX6 15 (1000000000000)) (by decide +kernel)
  obtain ⟨n0, f, hS, hN, hf⟩ := hw0
  obtain ⟨-, -, hz3, hz4, hz5⟩ := row_0 t (by omega) ht1
  refine lv_iload_n hx hb dX6_numberAt_0 rfl (lv_at hl 1 rfl) ?_
  refine bz_lt (tgt := 34) hx hb dX6_numberAt_1 (by decide) (fun c_1 n_1 => ?_) (fun c_1 n_1 => ?_)
  · skip
    refine lv_ldc2 hx hb hown cst_21 dX6_numberAt_34 ?_
    exact hret _ _ _ dX6_numberAt_37 (by rw [if_neg (fun z => n_1 z.1)])
  · skip
    obtain ⟨j, hj, ej⟩ := nI_of (x := i) n_1
    refine lv_iload_n hx hb dX6_numberAt_4 rfl (lv_at hl 1 rfl) ?_
    refine lv_aload_n hx hb dX6_numberAt_5 rfl (lv_at hl 0 rfl) ?_
    refine m_get (ci := 6) (C := RX6) (T := TX6) (N := 2) (v := .int (nI (rsz t))) hx hb hts in_X6 hown hK hM hS rfl 1 (by decide) fl_17 (fun _ h => h) rfl dX6_numberAt_6 ?_
    refine bi_ge (tgt := 34) hx hb dX6_numberAt_9 (by decide) (fun c_9 n_9 => ?_) (fun c_9 n_9 => ?_)
    · skip
      have hjz : rsz t ≤ j := (nI_leI (by omega) hj).mp (by rw [← ej]; exact c_9)
      refine lv_ldc2 hx hb hown cst_21 dX6_numberAt_34 ?_
      exact hret _ _ _ dX6_numberAt_37 (by subst ej; rw [nI_clamp hj, if_neg (fun z => by omega)])
    · skip
      have hjz : j < rsz t := (nI_ltI hj (by omega)).mp (by rw [← ej]; exact c_9)
      have hpos := row_pos ht1 ht9 hjz
      refine lv_aload_n hx hb dX6_numberAt_12 rfl (lv_at hl 0 rfl) ?_
      refine m_get (ci := 6) (C := RX6) (T := TX6) (N := 2) (v := .ref n0) hx hb hts in_X6 hown hK hM hS rfl 0 (by decide) fl_11 (fun _ h => h) rfl dX6_numberAt_13 ?_
      refine lv_iload_n hx hb dX6_numberAt_16 rfl (lv_at hl 1 rfl) ?_
      refine m_laldN (k := j) hx hb hK hM hN (ej) (by omega) (by decide) dX6_numberAt_17 ?_
      refine tpl (x' := lN (rowN t j)) (hf j hjz) ?_
      refine lv_ldc2 hx hb hown cst_15 dX6_numberAt_18 ?_
      refine tpl (x' := lN 1000000000000) (l12) ?_
      refine bl_gt (tgt := 34) hx hb dX6_numberAt_21 dX6_numberAt_22 (by decide) (fun c_22 n_22 => ?_) (fun c_22 n_22 => ?_)
      · skip
        have hbig : 1000000000000 < rowN t j := (ln_lt (by decide) (by omega)).mp c_22
        refine lv_ldc2 hx hb hown cst_21 dX6_numberAt_34 ?_
        exact hret _ _ _ dX6_numberAt_37 (by subst ej; rw [nI_clamp hj, if_neg (fun z => by have := (row_s ht1 ht9 (i := j) (by omega)).2.2.2.1; omega)])
      · skip
        have hsm : rowN t j ≤ 1000000000000 := (ln_le (by omega) (by decide)).mp c_22
        refine lv_aload_n hx hb dX6_numberAt_25 rfl (lv_at hl 0 rfl) ?_
        refine m_get (ci := 6) (C := RX6) (T := TX6) (N := 2) (v := .ref n0) hx hb hts in_X6 hown hK hM hS rfl 0 (by decide) fl_11 (fun _ h => h) rfl dX6_numberAt_26 ?_
        refine lv_iload_n hx hb dX6_numberAt_29 rfl (lv_at hl 1 rfl) ?_
        refine m_laldN (k := j) hx hb hK hM hN (ej) (by omega) (by decide) dX6_numberAt_30 ?_
        refine tpl (x' := lN (rowN t j)) (hf j hjz) ?_
        refine lv_goto (tgt := 37) hx hb dX6_numberAt_31 (by decide) ?_
        exact hret _ _ _ dX6_numberAt_37 (by subst ej; rw [nI_clamp hj, if_pos ⟨c_1, by rcases Nat.lt_or_ge j (rsz t - 1) with g | g; exact g; (have e : j = rsz t - 1 := (by omega)); rw [e] at hsm; omega⟩])
set_option maxHeartbeats 4000000 in
set_option maxRecDepth 100000 in
theorem k_X1_cut (l : Launch) (D : va_G) (cA : Nat → ClassId) (M : mp) (go n : Nat) (hG : goldW cA M go) (hn : n ≤ 1000000000001) : PC l D cA yX1_cut wsX1_cut 1 27 [.ref go, .long (lN n)] M (some (.long (lN (cutF n)))) := by
  refine PC.lg (cc := cX1_cut) (maxL := 3) (by decide) rfl (Nat.le_of_ble_eq_true rfl) ?_
  intro p e s m args below meth c H Q ls B hM hl hret
  obtain ⟨hx, hb, hown, hts, hml, hK, hin⟩ := B
  have hown : s.vm.findClass RX1 = some m.cls := hown
  have hl : lv_has ls 3 [(0, .ref go), (1, .long (lN n))] := hl
  have in_X1 : ∀ w ∈ wsX10, w ∈ wsX1_cut := by decide +kernel
  have fl_7 := hts (.fieldLink RX1 7 "GoldHeaps$Golden" "fibonacci" "LGoldHeaps$Sums;") (by decide +kernel)
  have hG0 := hG
  obtain ⟨s2, n2, f, hg, hs2, hn2, hf⟩ := hG
  refine lv_lload_n hx hb dX1_cut_0 rfl (lv_at hl 1 rfl) ?_
  refine lv_lconst (v := 0) hx hb dX1_cut_1 (by decide) ?_
  refine bl_gt (tgt := 10) hx hb dX1_cut_2 dX1_cut_3 (by decide) (fun c_3 n_3 => ?_) (fun c_3 n_3 => ?_)
  · skip
    have h1 : 1 ≤ n := (ln_lt (by decide) (by omega)).mp (by rw [← l_0]; exact c_3)
    refine lv_lconst (v := 1) hx hb dX1_cut_10 (by decide) ?_
    refine lv_aload_n hx hb dX1_cut_11 rfl (lv_at hl 0 rfl) ?_
    refine m_get (ci := 1) (C := RX1) (T := TX1) (N := 1) (v := .ref s2) hx hb hts in_X1 hown hK hM hg rfl 0 (by decide) fl_7 (fun _ h => h) rfl dX1_cut_12 ?_
    refine lv_lload_n hx hb dX1_cut_15 rfl (lv_at hl 1 rfl) ?_
    refine lv_lconst (v := 1) hx hb dX1_cut_16 (by decide) ?_
    refine lv_lsub hx hb dX1_cut_17 ?_
    refine tpl (x' := lN (n - 1)) (by rw [l_1]; exact lN_sub h1) ?_
    refine cpV (As := [.long (lN (n - 1))]) (rest := [.long 1]) (k_X6_raised l D cA M 2 s2 (n - 1) ⟨n2, f, hs2, hn2, hf⟩ (by decide) (by decide) (by omega)) ⟨hx, hb, hml, hown, hts⟩ (cwV 1 hts gX1_cut_X6_raised rfl rfl rfl (by decide +kernel) ⟨by decide, by decide⟩) hK hM hs2 rfl rfl hl.1 rfl (Nat.le_of_ble_eq_true rfl) dX1_cut_18 ⟨by decide, by decide⟩ ?_
    refine lv_ladd hx hb dX1_cut_21 ?_
    refine tpl (x' := lN (cutF n)) (by rw [l_1, lN_add, cut_row h1]) ?_
    exact hret _ _ _ dX1_cut_22 (rfl)
  · skip
    have h0 : n = 0 := by have := (ln_le (by omega) (by decide)).mp (show lN n ≤ lN 0 by rw [← l_0]; exact c_3); omega
    refine lv_lconst (v := 0) hx hb dX1_cut_6 (by decide) ?_
    refine lv_goto (tgt := 22) hx hb dX1_cut_7 (by decide) ?_
    exact hret _ _ _ dX1_cut_22 (by subst h0; rfl)
set_option maxHeartbeats 4000000 in
set_option maxRecDepth 100000 in
theorem k_X1_indexIfLesser (l : Launch) (D : va_G) (cA : Nat → ClassId) (M : mp) (go n : Nat) (hG : goldW cA M go) (hn : n ≤ 1000000000000) : PC l D cA yX1_indexIfLesser wsX1_indexIfLesser 2 49 [.ref go, .long (lN n)] M (some (.long (lN (idxF n)))) := by
  refine PC.lg (cc := cX1_indexIfLesser) (maxL := 3) (by decide) rfl (Nat.le_of_ble_eq_true rfl) ?_
  intro p e s m args below meth c H Q ls B hM hl hret
  obtain ⟨hx, hb, hown, hts, hml, hK, hin⟩ := B
  have hown : s.vm.findClass RX1 = some m.cls := hown
  have hl : lv_has ls 3 [(0, .ref go), (1, .long (lN n))] := hl
  have hG0 := hG
  obtain ⟨s2, n2, f, hg, hs2, hn2, hf⟩ := hG
  refine lv_lload_n hx hb dX1_indexIfLesser_0 rfl (lv_at hl 1 rfl) ?_
  refine lv_lconst (v := 0) hx hb dX1_indexIfLesser_1 (by decide) ?_
  refine bl_gt (tgt := 10) hx hb dX1_indexIfLesser_2 dX1_indexIfLesser_3 (by decide) (fun c_3 n_3 => ?_) (fun c_3 n_3 => ?_)
  · skip
    have h1 : 1 ≤ n := (ln_lt (by decide) (by omega)).mp (by rw [← l_0]; exact c_3)
    refine lv_aload_n hx hb dX1_indexIfLesser_10 rfl (lv_at hl 0 rfl) ?_
    refine lv_lload_n hx hb dX1_indexIfLesser_11 rfl (lv_at hl 1 rfl) ?_
    refine cpV (As := [.long (lN n)]) (rest := []) (k_X1_cut l D cA M go (n) hG0 (by omega)) ⟨hx, hb, hml, hown, hts⟩ (cwV 1 hts gX1_indexIfLesser_X1_cut rfl rfl rfl (by decide +kernel) ⟨by decide, by decide⟩) hK hM hg rfl rfl hl.1 rfl (Nat.le_of_ble_eq_true rfl) dX1_indexIfLesser_12 ⟨by decide, by decide⟩ ?_
    refine lv_lload_n hx hb dX1_indexIfLesser_15 rfl (lv_at hl 1 rfl) ?_
    refine lv_lsub hx hb dX1_indexIfLesser_16 ?_
    refine tpl (x' := lN (cutF n - n)) (lN_sub (cut_ge (by omega))) ?_
    refine lv_lconst (v := 1) hx hb dX1_indexIfLesser_17 (by decide) ?_
    refine lv_ladd hx hb dX1_indexIfLesser_18 ?_
    refine tpl (x' := lN (idxF n)) (by rw [l_1, lN_add]; unfold idxF; rw [if_neg (by omega)]) ?_
    exact hret _ _ _ dX1_indexIfLesser_19 (rfl)
  · skip
    have h0 : n = 0 := by have := (ln_le (by omega) (by decide)).mp (show lN n ≤ lN 0 by rw [← l_0]; exact c_3); omega
    refine lv_lconst (v := 0) hx hb dX1_indexIfLesser_6 (by decide) ?_
    refine lv_goto (tgt := 19) hx hb dX1_indexIfLesser_7 (by decide) ?_
    exact hret _ _ _ dX1_indexIfLesser_19 (by subst h0; rfl)
set_option maxHeartbeats 4000000 in
set_option maxRecDepth 100000 in
theorem k_X1_isLesser (l : Launch) (D : va_G) (cA : Nat → ClassId) (M : mp) (go n : Nat) (hG : goldW cA M go) (hn : n ≤ 1000000000000) : PC l D cA yX1_isLesser wsX1_isLesser 3 71 [.ref go, .long (lN n)] M (some (.int (bI (isLF n)))) := by
  refine PC.zz (cc := cX1_isLesser) (maxL := 3) (by decide) rfl (Nat.le_of_ble_eq_true rfl) ?_
  intro p e s m args below meth c H Q ls B hM hl hret
  obtain ⟨hx, hb, hown, hts, hml, hK, hin⟩ := B
  have hown : s.vm.findClass RX1 = some m.cls := hown
  have hl : lv_has ls 3 [(0, .ref go), (1, .long (lN n))] := hl
  have hG0 := hG
  obtain ⟨s2, n2, f, hg, hs2, hn2, hf⟩ := hG
  have hi := idxF_le hn
  have hci := cut_le hi
  refine lv_aload_n hx hb dX1_isLesser_0 rfl (lv_at hl 0 rfl) ?_
  refine lv_aload_n hx hb dX1_isLesser_1 rfl (lv_at hl 0 rfl) ?_
  refine lv_lload_n hx hb dX1_isLesser_2 rfl (lv_at hl 1 rfl) ?_
  refine cpV (As := [.long (lN n)]) (rest := [.ref go]) (k_X1_indexIfLesser l D cA M go n hG0 hn) ⟨hx, hb, hml, hown, hts⟩ (cwV 1 hts gX1_isLesser_X1_indexIfLesser rfl rfl rfl (by decide +kernel) ⟨by decide, by decide⟩) hK hM hg rfl rfl hl.1 rfl (Nat.le_of_ble_eq_true rfl) dX1_isLesser_3 ⟨by decide, by decide⟩ ?_
  refine cpV (As := [.long (lN (idxF n))]) (rest := []) (k_X1_cut l D cA M go (idxF n) hG0 (hi)) ⟨hx, hb, hml, hown, hts⟩ (cwV 1 hts gX1_isLesser_X1_cut rfl rfl rfl (by decide +kernel) ⟨by decide, by decide⟩) hK hM hg rfl rfl hl.1 rfl (Nat.le_of_ble_eq_true rfl) dX1_isLesser_6 ⟨by decide, by decide⟩ ?_
  refine lv_lload_n hx hb dX1_isLesser_9 rfl (lv_at hl 1 rfl) ?_
  refine bl_ne (tgt := 18) hx hb dX1_isLesser_10 dX1_isLesser_11 (by decide) (fun c_11 n_11 => ?_) (fun c_11 n_11 => ?_)
  · skip
    have hne : ¬ cutF (idxF n) = n := fun z => c_11 (by rw [z])
    refine lv_iconst (v := 0) hx hb dX1_isLesser_18 (by decide) ?_
    exact hret _ _ _ dX1_isLesser_19 (by unfold isLF; simp [hne, bI])
  · skip
    have he : cutF (idxF n) = n := (ln_eq (by omega) (by omega)).mp c_11
    refine lv_iconst (v := 1) hx hb dX1_isLesser_14 (by decide) ?_
    refine lv_goto (tgt := 19) hx hb dX1_isLesser_15 (by decide) ?_
    exact hret _ _ _ dX1_isLesser_19 (by unfold isLF; simp [he, bI])
set_option maxHeartbeats 4000000 in
set_option maxRecDepth 100000 in
theorem k_X1_indexOf (l : Launch) (D : va_G) (cA : Nat → ClassId) (M : mp) (go n : Nat) (hG : goldW cA M go) (hn : n ≤ 1000000000000) : PC l D cA yX1_indexOf wsX1_indexOf 4 93 [.ref go, .long (lN n)] M (some (.long (lN (idF n)))) := by
  refine PC.lg (cc := cX1_indexOf) (maxL := 3) (by decide) rfl (Nat.le_of_ble_eq_true rfl) ?_
  intro p e s m args below meth c H Q ls B hM hl hret
  obtain ⟨hx, hb, hown, hts, hml, hK, hin⟩ := B
  have hown : s.vm.findClass RX1 = some m.cls := hown
  have hl : lv_has ls 3 [(0, .ref go), (1, .long (lN n))] := hl
  have cst_29 := hts (.constantLong RX1 29 (2)) (by decide +kernel)
  have hG0 := hG
  obtain ⟨s2, n2, f, hg, hs2, hn2, hf⟩ := hG
  refine lv_aload_n hx hb dX1_indexOf_0 rfl (lv_at hl 0 rfl) ?_
  refine lv_lload_n hx hb dX1_indexOf_1 rfl (lv_at hl 1 rfl) ?_
  refine cpV (As := [.long (lN n)]) (rest := []) (k_X1_isLesser l D cA M go n hG0 hn) ⟨hx, hb, hml, hown, hts⟩ (cwV 1 hts gX1_indexOf_X1_isLesser rfl rfl rfl (by decide +kernel) ⟨by decide, by decide⟩) hK hM hg rfl rfl hl.1 rfl (Nat.le_of_ble_eq_true rfl) dX1_indexOf_2 ⟨by decide, by decide⟩ ?_
  refine bz_eq (tgt := 16) hx hb dX1_indexOf_5 (by decide) (fun c_5 n_5 => ?_) (fun c_5 n_5 => ?_)
  · skip
    have hl0 := bI_eq0 c_5
    refine lv_ldc2 hx hb hown cst_29 dX1_indexOf_16 ?_
    refine lv_lload_n hx hb dX1_indexOf_19 rfl (lv_at hl 1 rfl) ?_
    refine lv_lmul hx hb dX1_indexOf_20 ?_
    refine tpl (x' := lN (2 * n)) (by rw [l_2]; exact lN_mul _ _) ?_
    refine lv_aload_n hx hb dX1_indexOf_21 rfl (lv_at hl 0 rfl) ?_
    refine lv_lload_n hx hb dX1_indexOf_22 rfl (lv_at hl 1 rfl) ?_
    refine cpV (As := [.long (lN n)]) (rest := [.long (lN (2 * n))]) (k_X1_cut l D cA M go (n) hG0 (by omega)) ⟨hx, hb, hml, hown, hts⟩ (cwV 1 hts gX1_indexOf_X1_cut rfl rfl rfl (by decide +kernel) ⟨by decide, by decide⟩) hK hM hg rfl rfl hl.1 rfl (Nat.le_of_ble_eq_true rfl) dX1_indexOf_23 ⟨by decide, by decide⟩ ?_
    refine lv_lsub hx hb dX1_indexOf_26 ?_
    refine tpl (x' := lN (2 * n - cutF n)) (lN_sub (cut_le (by omega))) ?_
    exact hret _ _ _ dX1_indexOf_27 (by unfold idF; simp [hl0])
  · skip
    have hl1 := bI_ne0 c_5
    refine lv_aload_n hx hb dX1_indexOf_8 rfl (lv_at hl 0 rfl) ?_
    refine lv_lload_n hx hb dX1_indexOf_9 rfl (lv_at hl 1 rfl) ?_
    refine cpV (As := [.long (lN n)]) (rest := []) (k_X1_indexIfLesser l D cA M go n hG0 hn) ⟨hx, hb, hml, hown, hts⟩ (cwV 1 hts gX1_indexOf_X1_indexIfLesser rfl rfl rfl (by decide +kernel) ⟨by decide, by decide⟩) hK hM hg rfl rfl hl.1 rfl (Nat.le_of_ble_eq_true rfl) dX1_indexOf_10 ⟨by decide, by decide⟩ ?_
    refine lv_goto (tgt := 27) hx hb dX1_indexOf_13 (by decide) ?_
    exact hret _ _ _ dX1_indexOf_27 (by unfold idF; simp [hl1])
set_option maxHeartbeats 4000000 in
set_option maxRecDepth 100000 in
theorem k_X1_partnerOf (l : Launch) (D : va_G) (cA : Nat → ClassId) (M : mp) (go n : Nat) (hG : goldW cA M go) (hn : n ≤ 1000000000000) : PC l D cA yX1_partnerOf wsX1_partnerOf 4 93 [.ref go, .long (lN n)] M (some (.long (lN (prtF n)))) := by
  refine PC.lg (cc := cX1_partnerOf) (maxL := 3) (by decide) rfl (Nat.le_of_ble_eq_true rfl) ?_
  intro p e s m args below meth c H Q ls B hM hl hret
  obtain ⟨hx, hb, hown, hts, hml, hK, hin⟩ := B
  have hown : s.vm.findClass RX1 = some m.cls := hown
  have hl : lv_has ls 3 [(0, .ref go), (1, .long (lN n))] := hl
  have hG0 := hG
  obtain ⟨s2, n2, f, hg, hs2, hn2, hf⟩ := hG
  refine lv_aload_n hx hb dX1_partnerOf_0 rfl (lv_at hl 0 rfl) ?_
  refine lv_lload_n hx hb dX1_partnerOf_1 rfl (lv_at hl 1 rfl) ?_
  refine cpV (As := [.long (lN n)]) (rest := []) (k_X1_isLesser l D cA M go n hG0 hn) ⟨hx, hb, hml, hown, hts⟩ (cwV 1 hts gX1_partnerOf_X1_isLesser rfl rfl rfl (by decide +kernel) ⟨by decide, by decide⟩) hK hM hg rfl rfl hl.1 rfl (Nat.le_of_ble_eq_true rfl) dX1_partnerOf_2 ⟨by decide, by decide⟩ ?_
  refine bz_eq (tgt := 18) hx hb dX1_partnerOf_5 (by decide) (fun c_5 n_5 => ?_) (fun c_5 n_5 => ?_)
  · skip
    have hl0 := bI_eq0 c_5
    refine lv_aload_n hx hb dX1_partnerOf_18 rfl (lv_at hl 0 rfl) ?_
    refine lv_lload_n hx hb dX1_partnerOf_19 rfl (lv_at hl 1 rfl) ?_
    refine cpV (As := [.long (lN n)]) (rest := []) (k_X1_cut l D cA M go (n) hG0 (by omega)) ⟨hx, hb, hml, hown, hts⟩ (cwV 1 hts gX1_partnerOf_X1_cut rfl rfl rfl (by decide +kernel) ⟨by decide, by decide⟩) hK hM hg rfl rfl hl.1 rfl (Nat.le_of_ble_eq_true rfl) dX1_partnerOf_20 ⟨by decide, by decide⟩ ?_
    refine lv_lload_n hx hb dX1_partnerOf_23 rfl (lv_at hl 1 rfl) ?_
    refine lv_lsub hx hb dX1_partnerOf_24 ?_
    refine tpl (x' := lN (cutF n - n)) (lN_sub (cut_ge (by omega))) ?_
    exact hret _ _ _ dX1_partnerOf_25 (by unfold prtF; simp [hl0])
  · skip
    have hl1 := bI_ne0 c_5
    refine lv_lload_n hx hb dX1_partnerOf_8 rfl (lv_at hl 1 rfl) ?_
    refine lv_aload_n hx hb dX1_partnerOf_9 rfl (lv_at hl 0 rfl) ?_
    refine lv_lload_n hx hb dX1_partnerOf_10 rfl (lv_at hl 1 rfl) ?_
    refine cpV (As := [.long (lN n)]) (rest := [.long (lN n)]) (k_X1_indexIfLesser l D cA M go n hG0 hn) ⟨hx, hb, hml, hown, hts⟩ (cwV 1 hts gX1_partnerOf_X1_indexIfLesser rfl rfl rfl (by decide +kernel) ⟨by decide, by decide⟩) hK hM hg rfl rfl hl.1 rfl (Nat.le_of_ble_eq_true rfl) dX1_partnerOf_11 ⟨by decide, by decide⟩ ?_
    refine lv_ladd hx hb dX1_partnerOf_14 ?_
    refine tpl (x' := lN (n + idxF n)) (lN_add _ _) ?_
    refine lv_goto (tgt := 25) hx hb dX1_partnerOf_15 (by decide) ?_
    exact hret _ _ _ dX1_partnerOf_25 (by unfold prtF; simp [hl1])
end
section
theorem shF_comm (a b : Nat) : shF a b = shF b a := by unfold shF; rw [Nat.min_comm, Nat.max_comm]
theorem shF_ge {p q : Nat} (h : q ≤ p) : shF p q = (decide (0 < q) && (decide (p = q) || decide (cutF q < p))) := by
  unfold shF
  rw [Nat.min_eq_right h, Nat.max_eq_left h]
theorem shF_0 (p : Nat) : shF p 0 = false := by rw [shF_ge (Nat.zero_le _)]; simp
theorem cut_lt2 {q : Nat} (h1 : 1 ≤ q) (h2 : q ≤ 1000000000001) : cutF q < 2 * q := by
  have := (cut_spec h1 h2).1
  omega
theorem shF_big {p q : Nat} (hq : 1 ≤ q) (hq2 : q ≤ 1000000000001) (h : p = q ∨ 2 * q ≤ p) : shF p q = true := by
  rw [shF_ge (by omega)]
  have := cut_lt2 hq hq2
  rcases h with h | h
  · simp [h]; omega
  · simp; omega
theorem shF_step {p q : Nat} (h1 : q < p) (h2 : p < 2 * q) (hp : p ≤ 1000000000001) : shF p q = !shF q (p - q) := by
  have g := cut_G (r := p - q) (q := q) (by omega) (by omega) (by omega) (by omega)
  rw [show p - q + q = p by omega] at g
  rw [shF_ge (by omega), shF_ge (by omega)]
  have e1 : decide (p = q) = false := by simp; omega
  have e2 : decide (q = p - q) = false := by simp; omega
  have e3 : decide (0 < q) = true := by simp; omega
  have e4 : decide (0 < p - q) = true := by simp; omega
  rw [e1, e2, e3, e4]
  simp only [Bool.true_and, Bool.false_or]
  by_cases h : cutF q < p
  · have := g.mpr h
    simp [h]
    omega
  · have : ¬ q ≤ cutF (p - q) := fun z => h (g.mp z)
    simp [h]
    omega
theorem shF_less {p q : Nat} (h0 : 1 ≤ q) (h1 : q ≤ p) (h2 : p < 2 * q) (hp : p ≤ 1000000000001) : shF (p - q) q = !shF p q := by
  rcases Nat.lt_or_eq_of_le h1 with h | h
  · rw [shF_comm, shF_step h h2 hp, Bool.not_not]
  · subst h
    rw [Nat.sub_self, shF_comm, shF_0, shF_big h0 (by omega) (Or.inl rfl)]
    rfl
/-- the least number of times: from mm on, d of them -/
def ltF (p q : Nat) : Nat → Nat → Nat
  | 0, _ => 0
  | d + 1, mm => if shF (p - mm * q) q then ltF p q d (mm + 1) else mm
def smF (p q : Nat) : Nat := if shF p q then (if 1 < p / q ∧ shF (p - (p / q - 1) * q) q = false then p / q - 1 else p / q) else 0
theorem lt_sm {p q : Nat} (h0 : 1 ≤ q) (h1 : q ≤ p) (hp : p ≤ 1000000000000) : ltF p q (p / q + 1 - max 1 (p / q - 1)) (max 1 (p / q - 1)) = smF p q := by
  have d1 : p / q * q ≤ p := Nat.div_mul_le_self p q
  have d2 : p < p / q * q + q := by
    have := Nat.lt_div_mul_add (a := p) (b := q) (by omega)
    exact this
  have d3 : 1 ≤ p / q := (Nat.le_div_iff_mul_le (by omega)).mpr (by omega)
  unfold smF
  generalize hk : p / q = k at *
  rcases (show k = 1 ∨ 2 ≤ k by omega) with e | e
  · subst e
    have e1 : max 1 (1 - 1) = 1 := rfl
    rw [e1]
    show (if shF (p - 1 * q) q then 0 else 1) = _
    rw [Nat.one_mul, shF_less h0 h1 (by omega) (by omega)]
    cases shF p q <;> simp
  · have e1 : max 1 (k - 1) = k - 1 := Nat.max_eq_right (by omega)
    have e2 : k + 1 - (k - 1) = 2 := by omega
    have e3 : (k - 1) * q + q = k * q := by
      rw [← Nat.succ_mul]
      congr 1
      omega
    have e4 : k - 1 + 1 = k := by omega
    have h2q : 2 * q ≤ p := Nat.le_trans (Nat.mul_le_mul_right q e) d1
    rw [e1, e2]
    show (if shF (p - (k - 1) * q) q then (if shF (p - (k - 1 + 1) * q) q then 0 else k - 1 + 1) else k - 1) = _
    rw [e4, shF_big h0 (by omega) (Or.inr h2q), if_pos rfl]
    have hl := shF_less (p := p - (k - 1) * q) (q := q) h0 (by omega) (by omega) (by omega)
    rw [show p - (k - 1) * q - q = p - k * q by omega] at hl
    rw [hl]
    cases shF (p - (k - 1) * q) q
    · simp; omega
    · simp
theorem smF_0 (p : Nat) : smF p 0 = 0 := by unfold smF; rw [shF_0]; rfl
/-- a long as a number; a heap -/
def nL (x : Int64) : Nat := x.toInt.toNat
theorem hp_of {x : Int64} {N : Int64} {K : Nat} (hN : N = lN K) (hK : K < 2 ^ 63) (h : inW x 0 N = true) : x = lN (nL x) ∧ nL x ≤ K := by
  obtain ⟨h1, h2⟩ := inW_t h
  rw [hN] at h2
  obtain ⟨n, hn, rfl⟩ := ln_of hK h1 h2
  have e : nL (lN n) = n := by
    unfold nL
    rw [pk_lT (by omega)]
    rfl
  rw [e]
  exact ⟨rfl, hn⟩
abbrev hpB (x : Int64) : Bool := inW x 0 1000000000000
theorem hp_heap {x : Int64} (h : hpB x = true) : x = lN (nL x) ∧ nL x ≤ 1000000000000 := hp_of l12 (by decide) h
/-- the reference's object, by its fields -/
abbrev rL (v : Nat → Value) : List Value := [v 0, v 1, v 2, v 3, v 4, v 5, v 6, v 7, v 8, v 9, v 10, v 11, v 12, v 13, v 14, v 15, v 16, v 17]
def fibW (cA : Nat → ClassId) (M : mp) (m0 : Nat) : Prop := ∃ (v : Nat → Value) (fb : Nat) (f : Nat → Int64), M m0 = some (.inr (9, rL v)) ∧ v 0 = .ref fb ∧ M fb = some (.inl (cA 0, 64, .inr (.inl f))) ∧ ∀ j, j < 64 → f j = lN (fibN j)
theorem fib_gt : ∀ i, i < 63 → 58 ≤ i → 1000000000000 < fibN i := by decide +kernel
theorem cut_63 {k : Nat} (h1 : 1 ≤ k) (h2 : k ≤ 1000000000001) : 1 + rsF fibN 63 (k - 1) = cutF k := by
  unfold cutF
  rw [if_neg (by omega)]
  rw [show (63 : Nat) = 58 + 5 from rfl, rsF_skip fibN 5 (fun i h3 h4 => by have := fib_gt i (by omega) h3; omega)]
/-- the judge's parts -/
def judW (cA : Nat → ClassId) (M : mp) (J TG GO SG BG TM : Nat) : Prop := M J = some (.inr (2, [.ref TG, .ref GO, .ref SG, .ref BG, .ref TM])) ∧ M SG = some (.inr (5, [.ref GO])) ∧ M BG = some (.inr (0, [.ref GO])) ∧ goldW cA M GO
end
section
set_option maxHeartbeats 4000000 in
set_option maxRecDepth 100000 in
theorem k_X9_isShares (l : Launch) (D : va_G) (cA : Nat → ClassId) (M : mp) (a b : Nat) (ha : a ≤ 1000000000000) (hb0 : b ≤ 1000000000000) : PC l D cA yX9_isShares wsX9_isShares 0 0 [.long (lN a), .long (lN b)] M (some (.int (bI (shF a b)))) := by
  refine PC.zz (cc := cX9_isShares) (maxL := 11) (by decide) rfl (Nat.le_of_ble_eq_true rfl) ?_
  intro p e s m args below meth c H Q ls B hM hl hret
  obtain ⟨hx, hb, hown, hts, hml, hK, hin⟩ := B
  have hown : s.vm.findClass RX9 = some m.cls := hown
  have hl : lv_has ls 11 [(0, .long (lN a)), (2, .long (lN b))] := hl
  have cst_46 := hts (.constantLong RX9 46 (2)) (by decide +kernel)
  have j_29 : ∀ (fu : Nat) (p0 q : Nat) (tu : Bool) (ls : Array Slot), (q ≤ p0) → (p0 ≤ 1000000000000) → ((tu != shF p0 q) = shF a b) → (q < fu) → lv_has ls 11 [(4, .long (lN p0)), (6, .long (lN q)), (8, .int (bI tu))] → W p l e ({ frames := 0, cells := 0, slots := 0, locals := 0 } : Room) s m args below meth c H [] 0 0 Q (F0 m 29 ls []) := by
    intro fu
    induction fu with
    | zero => intro p0 q tu ls hqp hp hs hm _; exact absurd hm (Nat.not_lt_zero _)
    | succ fu ih =>
      intro p0 q tu ls hqp hp hs hm hl
      refine lv_lload hx hb dX9_isShares_29 (lv_at hl 1 rfl) ?_
      refine lv_lconst (v := 0) hx hb dX9_isShares_31 (by decide) ?_
      refine bl_eq (tgt := 97) hx hb dX9_isShares_32 dX9_isShares_33 (by decide) (fun c_33 n_33 => ?_) (fun c_33 n_33 => ?_)
      · skip
        have hq0 : q = 0 := (ln_eq (by omega) (by decide)).mp (by rw [← l_0]; exact c_33)
        refine lv_iload hx hb dX9_isShares_97 (lv_at hl 2 rfl) ?_
        exact hret _ _ _ dX9_isShares_99 (by rw [← hs, hq0, shF_0]; cases tu <;> rfl)
      · skip
        have hq1 : 1 ≤ q := by rcases Nat.eq_zero_or_pos q with g | g; exact absurd (by rw [g]; rfl) c_33; exact g
        refine lv_lload hx hb dX9_isShares_36 (lv_at hl 0 rfl) ?_
        refine lv_lload hx hb dX9_isShares_38 (lv_at hl 1 rfl) ?_
        refine bl_eq (tgt := 56) hx hb dX9_isShares_40 dX9_isShares_41 (by decide) (fun c_41 n_41 => ?_) (fun c_41 n_41 => ?_)
        · skip
          have hbig : shF p0 q = true := shF_big hq1 (by omega) (Or.inl ((ln_eq (by omega) (by omega)).mp c_41))
          refine lv_iload hx hb dX9_isShares_56 (lv_at hl 2 rfl) ?_
          refine bz_ne (tgt := 65) hx hb dX9_isShares_58 (by decide) (fun c_58 n_58 => ?_) (fun c_58 n_58 => ?_)
          · skip
            have ht := bI_ne0 c_58
            refine lv_iconst (v := 0) hx hb dX9_isShares_65 (by decide) ?_
            exact hret _ _ _ dX9_isShares_66 (by rw [← hs, ht, hbig]; rfl)
          · skip
            have ht := bI_eq0 c_58
            refine lv_iconst (v := 1) hx hb dX9_isShares_61 (by decide) ?_
            refine lv_goto (tgt := 66) hx hb dX9_isShares_62 (by decide) ?_
            exact hret _ _ _ dX9_isShares_66 (by rw [← hs, ht, hbig]; rfl)
        · skip
          have hne : p0 ≠ q := fun z => c_41 (by rw [z])
          refine lv_lload hx hb dX9_isShares_44 (lv_at hl 0 rfl) ?_
          refine lv_ldc2 hx hb hown cst_46 dX9_isShares_46 ?_
          refine lv_lload hx hb dX9_isShares_49 (lv_at hl 1 rfl) ?_
          refine lv_lmul hx hb dX9_isShares_51 ?_
          refine tpl (x' := lN (2 * q)) (by rw [l_2]; exact lN_mul _ _) ?_
          refine bl_lt (tgt := 67) hx hb dX9_isShares_52 dX9_isShares_53 (by decide) (fun c_53 n_53 => ?_) (fun c_53 n_53 => ?_)
          · skip
            have h2 : p0 < 2 * q := (ln_lt (by omega) (by omega)).mp c_53
            have hlt : q < p0 := by omega
            refine lv_lload hx hb dX9_isShares_67 (lv_at hl 0 rfl) ?_
            refine lv_lload hx hb dX9_isShares_69 (lv_at hl 1 rfl) ?_
            refine lv_lsub hx hb dX9_isShares_71 ?_
            refine tpl (x' := lN (p0 - q)) (lN_sub hqp) ?_
            refine lv_lstore (lv' := [(9, .long (lN (p0 - q))), (4, .long (lN p0)), (6, .long (lN q)), (8, .int (bI tu))]) hx hb dX9_isShares_72 hl (by decide) rfl (fun ls hl => ?_)
            refine lv_lload hx hb dX9_isShares_74 (lv_at hl 2 rfl) ?_
            refine lv_lstore (lv' := [(4, .long (lN q)), (9, .long (lN (p0 - q))), (6, .long (lN q)), (8, .int (bI tu))]) hx hb dX9_isShares_76 hl (by decide) rfl (fun ls hl => ?_)
            refine lv_lload hx hb dX9_isShares_78 (lv_at hl 1 rfl) ?_
            refine lv_lstore (lv' := [(6, .long (lN (p0 - q))), (4, .long (lN q)), (9, .long (lN (p0 - q))), (8, .int (bI tu))]) hx hb dX9_isShares_80 hl (by decide) rfl (fun ls hl => ?_)
            refine lv_iload hx hb dX9_isShares_82 (lv_at hl 3 rfl) ?_
            refine bz_ne (tgt := 91) hx hb dX9_isShares_84 (by decide) (fun c_84 n_84 => ?_) (fun c_84 n_84 => ?_)
            · skip
              have ht := bI_ne0 c_84
              refine lv_iconst (v := 0) hx hb dX9_isShares_91 (by decide) ?_
              refine tpi (x' := bI false) (rfl) ?_
              refine lv_istore (lv' := [(8, .int (bI false)), (6, .long (lN (p0 - q))), (4, .long (lN q)), (9, .long (lN (p0 - q)))]) hx hb dX9_isShares_92 hl (by decide) rfl (fun ls hl => ?_)
              refine lv_goto (tgt := 29) hx hb dX9_isShares_94 (by decide) ?_
              exact ih q (p0 - q) false _ (by omega) (by omega) (by rw [← hs, ht, shF_step hlt h2 (by omega)]; simp) (by omega) (lv_sub hl [2, 1, 0] rfl)
            · skip
              have ht := bI_eq0 c_84
              refine lv_iconst (v := 1) hx hb dX9_isShares_87 (by decide) ?_
              refine tpi (x' := bI true) (rfl) ?_
              refine lv_goto (tgt := 92) hx hb dX9_isShares_88 (by decide) ?_
              refine lv_istore (lv' := [(8, .int (bI true)), (6, .long (lN (p0 - q))), (4, .long (lN q)), (9, .long (lN (p0 - q)))]) hx hb dX9_isShares_92 hl (by decide) rfl (fun ls hl => ?_)
              refine lv_goto (tgt := 29) hx hb dX9_isShares_94 (by decide) ?_
              exact ih q (p0 - q) true _ (by omega) (by omega) (by rw [← hs, ht, shF_step hlt h2 (by omega)]; simp) (by omega) (lv_sub hl [2, 1, 0] rfl)
          · skip
            have hbig : shF p0 q = true := shF_big hq1 (by omega) (Or.inr ((ln_le (by omega) (by omega)).mp c_53))
            refine lv_iload hx hb dX9_isShares_56 (lv_at hl 2 rfl) ?_
            refine bz_ne (tgt := 65) hx hb dX9_isShares_58 (by decide) (fun c_58 n_58 => ?_) (fun c_58 n_58 => ?_)
            · skip
              have ht := bI_ne0 c_58
              refine lv_iconst (v := 0) hx hb dX9_isShares_65 (by decide) ?_
              exact hret _ _ _ dX9_isShares_66 (by rw [← hs, ht, hbig]; rfl)
            · skip
              have ht := bI_eq0 c_58
              refine lv_iconst (v := 1) hx hb dX9_isShares_61 (by decide) ?_
              refine lv_goto (tgt := 66) hx hb dX9_isShares_62 (by decide) ?_
              exact hret _ _ _ dX9_isShares_66 (by rw [← hs, ht, hbig]; rfl)
  refine lv_lload_n hx hb dX9_isShares_0 rfl (lv_at hl 0 rfl) ?_
  refine lv_lload_n hx hb dX9_isShares_1 rfl (lv_at hl 1 rfl) ?_
  refine bl_le (tgt := 10) hx hb dX9_isShares_2 dX9_isShares_3 (by decide) (fun c_3 n_3 => ?_) (fun c_3 n_3 => ?_)
  · skip
    refine lv_lload_n hx hb dX9_isShares_10 rfl (lv_at hl 1 rfl) ?_
    refine lv_lstore (lv' := [(4, .long (lN b)), (0, .long (lN a)), (2, .long (lN b))]) hx hb dX9_isShares_11 hl (by decide) rfl (fun ls hl => ?_)
    refine lv_lload_n hx hb dX9_isShares_13 rfl (lv_at hl 1 rfl) ?_
    refine lv_lload_n hx hb dX9_isShares_14 rfl (lv_at hl 2 rfl) ?_
    refine bl_le (tgt := 23) hx hb dX9_isShares_15 dX9_isShares_16 (by decide) (fun c_16 n_16 => ?_) (fun c_16 n_16 => ?_)
    · skip
      refine lv_lload_n hx hb dX9_isShares_23 rfl (lv_at hl 1 rfl) ?_
      refine lv_lstore (lv' := [(6, .long (lN a)), (4, .long (lN b)), (0, .long (lN a)), (2, .long (lN b))]) hx hb dX9_isShares_24 hl (by decide) rfl (fun ls hl => ?_)
      refine lv_iconst (v := 0) hx hb dX9_isShares_26 (by decide) ?_
      refine tpi (x' := bI false) (rfl) ?_
      refine lv_istore (lv' := [(8, .int (bI false)), (6, .long (lN a)), (4, .long (lN b)), (0, .long (lN a)), (2, .long (lN b))]) hx hb dX9_isShares_27 hl (by decide) rfl (fun ls hl => ?_)
      exact j_29 (a + 1) b a false _ ((ln_le (by omega) (by omega)).mp c_3) (by omega) (by rw [shF_comm]; simp) (by omega) (lv_sub hl [2, 1, 0] rfl)
    · exact absurd c_16 n_3
  · skip
    refine lv_lload_n hx hb dX9_isShares_6 rfl (lv_at hl 0 rfl) ?_
    refine lv_goto (tgt := 11) hx hb dX9_isShares_7 (by decide) ?_
    refine lv_lstore (lv' := [(4, .long (lN a)), (0, .long (lN a)), (2, .long (lN b))]) hx hb dX9_isShares_11 hl (by decide) rfl (fun ls hl => ?_)
    refine lv_lload_n hx hb dX9_isShares_13 rfl (lv_at hl 1 rfl) ?_
    refine lv_lload_n hx hb dX9_isShares_14 rfl (lv_at hl 2 rfl) ?_
    refine bl_le (tgt := 23) hx hb dX9_isShares_15 dX9_isShares_16 (by decide) (fun c_16 n_16 => ?_) (fun c_16 n_16 => ?_)
    · exact absurd c_16 n_3
    · skip
      refine lv_lload_n hx hb dX9_isShares_19 rfl (lv_at hl 2 rfl) ?_
      refine lv_goto (tgt := 24) hx hb dX9_isShares_20 (by decide) ?_
      refine lv_lstore (lv' := [(6, .long (lN b)), (4, .long (lN a)), (0, .long (lN a)), (2, .long (lN b))]) hx hb dX9_isShares_24 hl (by decide) rfl (fun ls hl => ?_)
      refine lv_iconst (v := 0) hx hb dX9_isShares_26 (by decide) ?_
      refine tpi (x' := bI false) (rfl) ?_
      refine lv_istore (lv' := [(8, .int (bI false)), (6, .long (lN b)), (4, .long (lN a)), (0, .long (lN a)), (2, .long (lN b))]) hx hb dX9_isShares_27 hl (by decide) rfl (fun ls hl => ?_)
      exact j_29 (b + 1) a b false _ (by have := (ln_lt (by omega) (by omega)).mp c_3; omega) (by omega) (by simp) (by omega) (lv_sub hl [2, 1, 0] rfl)
set_option maxHeartbeats 4000000 in
set_option maxRecDepth 100000 in
theorem k_X9_lesser (l : Launch) (D : va_G) (cA : Nat → ClassId) (M : mp) (m0 n : Nat) (hF : fibW cA M m0) (hn : n ≤ 1000000000001) : PC l D cA yX9_lesser wsX9_lesser 0 0 [.ref m0, .long (lN n)] M (some (.long (lN (cutF n)))) := by
  refine PC.lg (cc := cX9_lesser) (maxL := 8) (by decide) rfl (Nat.le_of_ble_eq_true rfl) ?_
  intro p e s m args below meth c H Q ls B hM hl hret
  obtain ⟨hx, hb, hown, hts, hml, hK, hin⟩ := B
  have hown : s.vm.findClass RX9 = some m.cls := hown
  have hl : lv_has ls 8 [(0, .ref m0), (1, .long (lN n))] := hl
  have in_X9 : ∀ w ∈ wsX90, w ∈ wsX9_lesser := by decide +kernel
  have fl_7 := hts (.fieldLink RX9 7 "GoldHeapsModel" "fib" "[J") (by decide +kernel)
  have hF0 := hF
  obtain ⟨v, fb, f, hR, hv0, hfb, hf⟩ := hF
  refine lv_lload_n hx hb dX9_lesser_0 rfl (lv_at hl 1 rfl) ?_
  refine lv_lconst (v := 0) hx hb dX9_lesser_1 (by decide) ?_
  refine bl_ne (tgt := 8) hx hb dX9_lesser_2 dX9_lesser_3 (by decide) (fun c_3 n_3 => ?_) (fun c_3 n_3 => ?_)
  · skip
    have hn0 : 1 ≤ n := by rcases Nat.eq_zero_or_pos n with g | g; exact absurd (by rw [g]; rfl) c_3; exact g
    refine lv_lload_n hx hb dX9_lesser_8 rfl (lv_at hl 1 rfl) ?_
    refine lv_lconst (v := 1) hx hb dX9_lesser_9 (by decide) ?_
    refine lv_lsub hx hb dX9_lesser_10 ?_
    refine tpl (x' := lN (n - 1)) (by rw [l_1]; exact lN_sub hn0) ?_
    refine lv_lstore_n (lv' := [(3, .long (lN (n - 1))), (0, .ref m0), (1, .long (lN n))]) hx hb dX9_lesser_11 rfl hl (by decide) rfl (fun ls hl => ?_)
    refine lv_lconst (v := 1) hx hb dX9_lesser_12 (by decide) ?_
    refine tpl (x' := lN 1) (l_1) ?_
    refine lv_lstore (lv' := [(5, .long (lN 1)), (3, .long (lN (n - 1))), (0, .ref m0), (1, .long (lN n))]) hx hb dX9_lesser_13 hl (by decide) rfl (fun ls hl => ?_)
    refine lv_bipush (v := 62) hx hb dX9_lesser_15 (by decide) ?_
    refine tpi (x' := nI 63 - 1) (by decide) ?_
    refine lv_istore (lv' := [(7, .int (nI 63 - 1)), (5, .long (lN 1)), (3, .long (lN (n - 1))), (0, .ref m0), (1, .long (lN n))]) hx hb dX9_lesser_17 hl (by decide) rfl (fun ls hl => ?_)
    have j_19 : ∀ (fu : Nat) (k left sum : Nat) (ls : Array Slot), (k ≤ 63) → (left ≤ n - 1) → (sum + rsF fibN k left = cutF n) → (k < fu) → lv_has ls 8 [(0, .ref m0), (3, .long (lN left)), (5, .long (lN sum)), (7, .int (nI k - 1))] → W p l e ({ frames := 0, cells := 0, slots := 0, locals := 0 } : Room) s m args below meth c H [] 0 0 Q (F0 m 19 ls []) := by
      intro fu
      induction fu with
      | zero => intro k left sum ls hk hle hs hm _; exact absurd hm (Nat.not_lt_zero _)
      | succ fu ih =>
        intro k left sum ls hk hle hs hm hl
        refine lv_iload hx hb dX9_lesser_19 (lv_at hl 3 rfl) ?_
        refine bz_lt (tgt := 66) hx hb dX9_lesser_21 (by decide) (fun c_21 n_21 => ?_) (fun c_21 n_21 => ?_)
        · skip
          have hk0 := nD_neg (by omega) c_21
          refine lv_lload hx hb dX9_lesser_66 (lv_at hl 2 rfl) ?_
          exact hret _ _ _ dX9_lesser_68 (by subst hk0; exact congrArg lN hs)
        · skip
          obtain ⟨i, hi⟩ := nD_pos c_21
          have hpos := fib_lt i (by omega)
          refine lv_aload_n hx hb dX9_lesser_24 rfl (lv_at hl 0 rfl) ?_
          refine m_get (ci := 9) (C := RX9) (T := TX9) (N := 18) (v := v 0) hx hb hts in_X9 hown hK hM hR rfl 0 (by decide) fl_7 (fun _ h => h) rfl dX9_lesser_25 ?_
          refine tpv (hv0) ?_
          refine lv_iload hx hb dX9_lesser_28 (lv_at hl 3 rfl) ?_
          refine m_laldN (k := i) hx hb hK hM hfb (nD_at hi) (by omega) (by decide) dX9_lesser_30 ?_
          refine tpl (x' := lN (fibN i)) (hf i (by omega)) ?_
          refine lv_lload_n hx hb dX9_lesser_31 rfl (lv_at hl 1 rfl) ?_
          refine bl_gt (tgt := 60) hx hb dX9_lesser_32 dX9_lesser_33 (by decide) (fun c_33 n_33 => ?_) (fun c_33 n_33 => ?_)
          · skip
            have hlt : left < fibN i := (ln_lt (by omega) (by omega)).mp c_33
            refine lv_iinc (v := nI i - 1) (lv' := [(7, .int (nI i - 1)), (0, .ref m0), (3, .long (lN left)), (5, .long (lN sum))]) hx hb dX9_lesser_60 hl (k := 3) rfl (nD_dec hi) (by decide) rfl (fun ls hl => ?_)
            refine lv_goto (tgt := 19) hx hb dX9_lesser_63 (by decide) ?_
            exact ih i left sum _ (by omega) hle (by rw [← hs, hi]; show sum + _ = sum + (if fibN i ≤ left then _ else _); rw [if_neg (by omega)]) (by omega) (lv_sub hl [1, 2, 3, 0] rfl)
          · skip
            have hge : fibN i ≤ left := (ln_le (by omega) (by omega)).mp c_33
            refine lv_lload_n hx hb dX9_lesser_36 rfl (lv_at hl 1 rfl) ?_
            refine lv_aload_n hx hb dX9_lesser_37 rfl (lv_at hl 0 rfl) ?_
            refine m_get (ci := 9) (C := RX9) (T := TX9) (N := 18) (v := v 0) hx hb hts in_X9 hown hK hM hR rfl 0 (by decide) fl_7 (fun _ h => h) rfl dX9_lesser_38 ?_
            refine tpv (hv0) ?_
            refine lv_iload hx hb dX9_lesser_41 (lv_at hl 3 rfl) ?_
            refine m_laldN (k := i) hx hb hK hM hfb (nD_at hi) (by omega) (by decide) dX9_lesser_43 ?_
            refine tpl (x' := lN (fibN i)) (hf i (by omega)) ?_
            refine lv_lsub hx hb dX9_lesser_44 ?_
            refine tpl (x' := lN (left - fibN i)) (lN_sub hge) ?_
            refine lv_lstore_n (lv' := [(3, .long (lN (left - fibN i))), (0, .ref m0), (5, .long (lN sum)), (7, .int (nI k - 1))]) hx hb dX9_lesser_45 rfl hl (by decide) rfl (fun ls hl => ?_)
            refine lv_lload hx hb dX9_lesser_46 (lv_at hl 2 rfl) ?_
            refine lv_aload_n hx hb dX9_lesser_48 rfl (lv_at hl 1 rfl) ?_
            refine m_get (ci := 9) (C := RX9) (T := TX9) (N := 18) (v := v 0) hx hb hts in_X9 hown hK hM hR rfl 0 (by decide) fl_7 (fun _ h => h) rfl dX9_lesser_49 ?_
            refine tpv (hv0) ?_
            refine lv_iload hx hb dX9_lesser_52 (lv_at hl 3 rfl) ?_
            refine lv_iconst (v := 1) hx hb dX9_lesser_54 (by decide) ?_
            refine lv_iadd hx hb dX9_lesser_55 ?_
            refine m_laldN (k := i + 1) hx hb hK hM hfb (nD_up hi) (by omega) (by decide) dX9_lesser_56 ?_
            refine tpl (x' := lN (fibN (i + 1))) (hf (i + 1) (by omega)) ?_
            refine lv_ladd hx hb dX9_lesser_57 ?_
            refine tpl (x' := lN (sum + fibN (i + 1))) (lN_add _ _) ?_
            refine lv_lstore (lv' := [(5, .long (lN (sum + fibN (i + 1)))), (3, .long (lN (left - fibN i))), (0, .ref m0), (7, .int (nI k - 1))]) hx hb dX9_lesser_58 hl (by decide) rfl (fun ls hl => ?_)
            refine lv_iinc (v := nI i - 1) (lv' := [(7, .int (nI i - 1)), (5, .long (lN (sum + fibN (i + 1)))), (3, .long (lN (left - fibN i))), (0, .ref m0)]) hx hb dX9_lesser_60 hl (k := 3) rfl (nD_dec hi) (by decide) rfl (fun ls hl => ?_)
            refine lv_goto (tgt := 19) hx hb dX9_lesser_63 (by decide) ?_
            exact ih i (left - fibN i) (sum + fibN (i + 1)) _ (by omega) (by omega) (by rw [← hs, hi]; show _ = sum + (if fibN i ≤ left then _ else _); rw [if_pos hge]; omega) (by omega) (lv_sub hl [3, 2, 1, 0] rfl)
    exact j_19 (64) 63 (n - 1) 1 _ (Nat.le_refl _) (Nat.le_refl _) (cut_63 hn0 hn) (by omega) (lv_sub hl [3, 2, 1, 0] rfl)
  · skip
    have hn0 : n = 0 := (ln_eq (by omega) (by decide)).mp (by rw [← l_0]; exact c_3)
    refine lv_lconst (v := 0) hx hb dX9_lesser_6 (by decide) ?_
    exact hret _ _ _ dX9_lesser_7 (by subst hn0; rfl)
set_option maxHeartbeats 4000000 in
set_option maxRecDepth 100000 in
theorem k_X9_isBoth (l : Launch) (D : va_G) (cA : Nat → ClassId) (M : mp) (m0 a b : Nat) (hF : fibW cA M m0) (ha : a ≤ 1000000000000) (hb0 : b ≤ 1000000000000) : PC l D cA yX9_isBoth wsX9_isBoth 1 27 [.ref m0, .long (lN a), .long (lN b)] M (some (.int (bI (bothF a b)))) := by
  refine PC.zz (cc := cX9_isBoth) (maxL := 5) (by decide) rfl (Nat.le_of_ble_eq_true rfl) ?_
  intro p e s m args below meth c H Q ls B hM hl hret
  obtain ⟨hx, hb, hown, hts, hml, hK, hin⟩ := B
  have hown : s.vm.findClass RX9 = some m.cls := hown
  have hl : lv_has ls 5 [(0, .ref m0), (1, .long (lN a)), (3, .long (lN b))] := hl
  have hF0 := hF
  obtain ⟨v, fb, f, hR, hv0, hfb, hf⟩ := hF
  have hda := dF_le ha hb0
  have hcd := cut_le (k := dF a b) (by omega)
  refine lv_lload_n hx hb dX9_isBoth_0 rfl (lv_at hl 1 rfl) ?_
  refine lv_lload_n hx hb dX9_isBoth_1 rfl (lv_at hl 2 rfl) ?_
  refine bl_ge (tgt := 26) hx hb dX9_isBoth_2 dX9_isBoth_3 (by decide) (fun c_3 n_3 => ?_) (fun c_3 n_3 => ?_)
  · skip
    have hba : b ≤ a := (ln_le (by omega) (by omega)).mp c_3
    have ed : a - b = dF a b := by unfold dF; split <;> omega
    refine lv_lload_n hx hb dX9_isBoth_26 rfl (lv_at hl 2 rfl) ?_
    refine lv_aload_n hx hb dX9_isBoth_27 rfl (lv_at hl 0 rfl) ?_
    refine lv_lload_n hx hb dX9_isBoth_28 rfl (lv_at hl 1 rfl) ?_
    refine lv_lload_n hx hb dX9_isBoth_29 rfl (lv_at hl 2 rfl) ?_
    refine lv_lsub hx hb dX9_isBoth_30 ?_
    refine tpl (x' := lN (dF a b)) (by rw [lN_sub (by omega), ed]) ?_
    refine cpV (As := [.long (lN (dF a b))]) (rest := [.long (lN b)]) (k_X9_lesser l D cA M m0 (dF a b) hF0 (by omega)) ⟨hx, hb, hml, hown, hts⟩ (cwV 1 hts gX9_isBoth_X9_lesser rfl rfl rfl (by decide +kernel) ⟨by decide, by decide⟩) hK hM hR rfl rfl hl.1 rfl (Nat.le_of_ble_eq_true rfl) dX9_isBoth_31 ⟨by decide, by decide⟩ ?_
    refine bl_eq (tgt := 42) hx hb dX9_isBoth_34 dX9_isBoth_35 (by decide) (fun c_35 n_35 => ?_) (fun c_35 n_35 => ?_)
    · skip
      have he := (ln_eq (by omega) (by omega)).mp c_35
      refine lv_iconst (v := 0) hx hb dX9_isBoth_42 (by decide) ?_
      exact hret _ _ _ dX9_isBoth_43 (by unfold bothF; rw [Nat.min_eq_right (by omega), ← he]; simp [bI])
    · skip
      have he : ¬ b = cutF (dF a b) := fun z => c_35 (by rw [← z])
      refine lv_iconst (v := 1) hx hb dX9_isBoth_38 (by decide) ?_
      refine lv_goto (tgt := 43) hx hb dX9_isBoth_39 (by decide) ?_
      exact hret _ _ _ dX9_isBoth_43 (by unfold bothF; rw [Nat.min_eq_right (by omega)]; simp [bI, Ne.symm he])
  · skip
    have hba : a < b := (ln_lt (by omega) (by omega)).mp c_3
    have ed : b - a = dF a b := by unfold dF; split <;> omega
    refine lv_lload_n hx hb dX9_isBoth_6 rfl (lv_at hl 1 rfl) ?_
    refine lv_aload_n hx hb dX9_isBoth_7 rfl (lv_at hl 0 rfl) ?_
    refine lv_lload_n hx hb dX9_isBoth_8 rfl (lv_at hl 2 rfl) ?_
    refine lv_lload_n hx hb dX9_isBoth_9 rfl (lv_at hl 1 rfl) ?_
    refine lv_lsub hx hb dX9_isBoth_10 ?_
    refine tpl (x' := lN (dF a b)) (by rw [lN_sub (by omega), ed]) ?_
    refine cpV (As := [.long (lN (dF a b))]) (rest := [.long (lN a)]) (k_X9_lesser l D cA M m0 (dF a b) hF0 (by omega)) ⟨hx, hb, hml, hown, hts⟩ (cwV 1 hts gX9_isBoth_X9_lesser rfl rfl rfl (by decide +kernel) ⟨by decide, by decide⟩) hK hM hR rfl rfl hl.1 rfl (Nat.le_of_ble_eq_true rfl) dX9_isBoth_11 ⟨by decide, by decide⟩ ?_
    refine bl_eq (tgt := 22) hx hb dX9_isBoth_14 dX9_isBoth_15 (by decide) (fun c_15 n_15 => ?_) (fun c_15 n_15 => ?_)
    · skip
      have he := (ln_eq (by omega) (by omega)).mp c_15
      refine lv_iconst (v := 0) hx hb dX9_isBoth_22 (by decide) ?_
      refine lv_goto (tgt := 43) hx hb dX9_isBoth_23 (by decide) ?_
      exact hret _ _ _ dX9_isBoth_43 (by unfold bothF; rw [Nat.min_eq_left (by omega), ← he]; simp [bI])
    · skip
      have he : ¬ a = cutF (dF a b) := fun z => c_15 (by rw [← z])
      refine lv_iconst (v := 1) hx hb dX9_isBoth_18 (by decide) ?_
      refine lv_goto (tgt := 43) hx hb dX9_isBoth_19 (by decide) ?_
      exact hret _ _ _ dX9_isBoth_43 (by unfold bothF; rw [Nat.min_eq_left (by omega)]; simp [bI, Ne.symm he])
set_option maxHeartbeats 4000000 in
set_option maxRecDepth 100000 in
theorem k_X0_lesserLostAlong (l : Launch) (D : va_G) (cA : Nat → ClassId) (M : mp) (bg go a b : Nat) (hbg : M bg = some (.inr (0, [.ref go]))) (hG : goldW cA M go) (ha : a ≤ 1000000000000) (hb0 : b ≤ 1000000000000) : PC l D cA yX0_lesserLostAlong wsX0_lesserLostAlong 2 49 [.ref bg, .long (lN a), .long (lN b)] M (some (.long (lN (cutF (dF a b))))) := by
  refine PC.lg (cc := cX0_lesserLostAlong) (maxL := 5) (by decide) rfl (Nat.le_of_ble_eq_true rfl) ?_
  intro p e s m args below meth c H Q ls B hM hl hret
  obtain ⟨hx, hb, hown, hts, hml, hK, hin⟩ := B
  have hown : s.vm.findClass RX0 = some m.cls := hown
  have hl : lv_has ls 5 [(0, .ref bg), (1, .long (lN a)), (3, .long (lN b))] := hl
  have in_X0 : ∀ w ∈ wsX00, w ∈ wsX0_lesserLostAlong := by decide +kernel
  have fl_9 := hts (.fieldLink RX0 9 "GoldHeaps$BothGame" "golden" "LGoldHeaps$Golden;") (by decide +kernel)
  have ml_30 := hts (.methodLink RX0 30 Lib.MathLoose.abs_long.x) (by decide +kernel)
  have ms_30 := hts (.static Lib.MathLoose.abs_long.x) (by decide +kernel)
  have mi_math := hts (.initialized "java/lang/Math") (by decide +kernel)
  have mc_30 := hts (.code Lib.MathLoose.abs_long.x Lib.MathLoose.abs_long.code 2 (some .long)) (by decide +kernel)
  have hG0 := hG
  obtain ⟨s2, n2, f, hg, hs2, hn2, hf⟩ := hG
  have hda := dF_le ha hb0
  have hcd := cut_le (k := dF a b) (by omega)
  have hpa := prtF_le ha
  have hpb := prtF_le hb0
  refine lv_aload_n hx hb dX0_lesserLostAlong_0 rfl (lv_at hl 0 rfl) ?_
  refine m_get (ci := 0) (C := RX0) (T := TX0) (N := 1) (v := .ref go) hx hb hts in_X0 hown hK hM hbg rfl 0 (by decide) fl_9 (fun _ h => h) rfl dX0_lesserLostAlong_1 ?_
  refine lv_lload_n hx hb dX0_lesserLostAlong_4 rfl (lv_at hl 1 rfl) ?_
  refine lv_lload_n hx hb dX0_lesserLostAlong_5 rfl (lv_at hl 2 rfl) ?_
  refine lv_lsub hx hb dX0_lesserLostAlong_6 ?_
  refine va_mabs_long hx hb (by rw [hml]; exact hl.1.symm) hown ml_30 ms_30 mi_math mc_30 (Nat.le_of_ble_eq_true rfl) (Nat.le_of_ble_eq_true rfl) (Nat.le_of_ble_eq_true rfl) (Nat.le_of_ble_eq_true rfl) dX0_lesserLostAlong_7 ?_
  refine tpl (x' := lN (dF a b)) (abs_dF ha hb0) ?_
  refine cpV (As := [.long (lN (dF a b))]) (rest := []) (k_X1_cut l D cA M go (dF a b) hG0 (by omega)) ⟨hx, hb, hml, hown, hts⟩ (cwV 1 hts gX0_lesserLostAlong_X1_cut rfl rfl rfl (by decide +kernel) ⟨by decide, by decide⟩) hK hM hg rfl rfl hl.1 rfl (Nat.le_of_ble_eq_true rfl) dX0_lesserLostAlong_10 ⟨by decide, by decide⟩ ?_
  exact hret _ _ _ dX0_lesserLostAlong_13 (rfl)
set_option maxHeartbeats 4000000 in
set_option maxRecDepth 100000 in
theorem k_X0_isWon (l : Launch) (D : va_G) (cA : Nat → ClassId) (M : mp) (bg go a b : Nat) (hbg : M bg = some (.inr (0, [.ref go]))) (hG : goldW cA M go) (ha : a ≤ 1000000000000) (hb0 : b ≤ 1000000000000) : PC l D cA yX0_isWon wsX0_isWon 3 73 [.ref bg, .long (lN a), .long (lN b)] M (some (.int (bI (bothF a b)))) := by
  refine PC.zz (cc := cX0_isWon) (maxL := 5) (by decide) rfl (Nat.le_of_ble_eq_true rfl) ?_
  intro p e s m args below meth c H Q ls B hM hl hret
  obtain ⟨hx, hb, hown, hts, hml, hK, hin⟩ := B
  have hown : s.vm.findClass RX0 = some m.cls := hown
  have hl : lv_has ls 5 [(0, .ref bg), (1, .long (lN a)), (3, .long (lN b))] := hl
  have ml_19 := hts (.methodLink RX0 19 Lib.MathLoose.min_long.x) (by decide +kernel)
  have ms_19 := hts (.static Lib.MathLoose.min_long.x) (by decide +kernel)
  have mi_math := hts (.initialized "java/lang/Math") (by decide +kernel)
  have mc_19 := hts (.code Lib.MathLoose.min_long.x Lib.MathLoose.min_long.code 4 (some .long)) (by decide +kernel)
  have hG0 := hG
  obtain ⟨s2, n2, f, hg, hs2, hn2, hf⟩ := hG
  have hda := dF_le ha hb0
  have hcd := cut_le (k := dF a b) (by omega)
  have hpa := prtF_le ha
  have hpb := prtF_le hb0
  have hmn : min a b ≤ 1000000000000 := by omega
  refine lv_aload_n hx hb dX0_isWon_0 rfl (lv_at hl 0 rfl) ?_
  refine lv_lload_n hx hb dX0_isWon_1 rfl (lv_at hl 1 rfl) ?_
  refine lv_lload_n hx hb dX0_isWon_2 rfl (lv_at hl 2 rfl) ?_
  refine cpV (As := [.long (lN a), .long (lN b)]) (rest := []) (k_X0_lesserLostAlong l D cA M bg go a b hbg hG0 ha hb0) ⟨hx, hb, hml, hown, hts⟩ (cwV 2 hts gX0_isWon_X0_lesserLostAlong rfl rfl rfl (by decide +kernel) ⟨by decide, by decide⟩) hK hM hbg rfl rfl hl.1 rfl (Nat.le_of_ble_eq_true rfl) dX0_isWon_3 ⟨by decide, by decide⟩ ?_
  refine lv_lload_n hx hb dX0_isWon_6 rfl (lv_at hl 1 rfl) ?_
  refine lv_lload_n hx hb dX0_isWon_7 rfl (lv_at hl 2 rfl) ?_
  refine va_mmin_long hx hb (by rw [hml]; exact hl.1.symm) hown ml_19 ms_19 mi_math mc_19 (Nat.le_of_ble_eq_true rfl) (Nat.le_of_ble_eq_true rfl) (Nat.le_of_ble_eq_true rfl) (Nat.le_of_ble_eq_true rfl) dX0_isWon_8 ?_
  refine tpl (x' := lN (min a b)) (min_lN (by omega) (by omega)) ?_
  refine bl_eq (tgt := 19) hx hb dX0_isWon_11 dX0_isWon_12 (by decide) (fun c_12 n_12 => ?_) (fun c_12 n_12 => ?_)
  · skip
    have he := (ln_eq (by omega) (by omega)).mp c_12
    refine lv_iconst (v := 0) hx hb dX0_isWon_19 (by decide) ?_
    exact hret _ _ _ dX0_isWon_20 (by unfold bothF; simp [bI, he])
  · skip
    have he : ¬ cutF (dF a b) = min a b := fun z => c_12 (by rw [z])
    refine lv_iconst (v := 1) hx hb dX0_isWon_15 (by decide) ?_
    refine lv_goto (tgt := 20) hx hb dX0_isWon_16 (by decide) ?_
    exact hret _ _ _ dX0_isWon_20 (by unfold bothF; simp [bI, he])
set_option maxHeartbeats 4000000 in
set_option maxRecDepth 100000 in
theorem k_X0_whichWins (l : Launch) (D : va_G) (cA : Nat → ClassId) (M : mp) (bg go a b : Nat) (hbg : M bg = some (.inr (0, [.ref go]))) (hG : goldW cA M go) (ha : a ≤ 1000000000000) (hb0 : b ≤ 1000000000000) : PC l D cA yX0_whichWins wsX0_whichWins 5 115 [.ref bg, .long (lN a), .long (lN b)] M (some (.int (whichF a b))) := by
  refine PC.it (cc := cX0_whichWins) (maxL := 5) (by decide) rfl (Nat.le_of_ble_eq_true rfl) ?_
  intro p e s m args below meth c H Q ls B hM hl hret
  obtain ⟨hx, hb, hown, hts, hml, hK, hin⟩ := B
  have hown : s.vm.findClass RX0 = some m.cls := hown
  have hl : lv_has ls 5 [(0, .ref bg), (1, .long (lN a)), (3, .long (lN b))] := hl
  have in_X0 : ∀ w ∈ wsX00, w ∈ wsX0_whichWins := by decide +kernel
  have fl_9 := hts (.fieldLink RX0 9 "GoldHeaps$BothGame" "golden" "LGoldHeaps$Golden;") (by decide +kernel)
  have ml_19 := hts (.methodLink RX0 19 Lib.MathLoose.min_long.x) (by decide +kernel)
  have ms_19 := hts (.static Lib.MathLoose.min_long.x) (by decide +kernel)
  have mi_math := hts (.initialized "java/lang/Math") (by decide +kernel)
  have mc_19 := hts (.code Lib.MathLoose.min_long.x Lib.MathLoose.min_long.code 4 (some .long)) (by decide +kernel)
  have hG0 := hG
  obtain ⟨s2, n2, f, hg, hs2, hn2, hf⟩ := hG
  have hda := dF_le ha hb0
  have hcd := cut_le (k := dF a b) (by omega)
  have hpa := prtF_le ha
  have hpb := prtF_le hb0
  have hmn : min a b ≤ 1000000000000 := by omega
  refine lv_aload_n hx hb dX0_whichWins_0 rfl (lv_at hl 0 rfl) ?_
  refine m_get (ci := 0) (C := RX0) (T := TX0) (N := 1) (v := .ref go) hx hb hts in_X0 hown hK hM hbg rfl 0 (by decide) fl_9 (fun _ h => h) rfl dX0_whichWins_1 ?_
  refine lv_lload_n hx hb dX0_whichWins_4 rfl (lv_at hl 2 rfl) ?_
  refine cpV (As := [.long (lN b)]) (rest := []) (k_X1_partnerOf l D cA M go (b) hG0 (hb0)) ⟨hx, hb, hml, hown, hts⟩ (cwV 1 hts gX0_whichWins_X1_partnerOf rfl rfl rfl (by decide +kernel) ⟨by decide, by decide⟩) hK hM hg rfl rfl hl.1 rfl (Nat.le_of_ble_eq_true rfl) dX0_whichWins_5 ⟨by decide, by decide⟩ ?_
  refine lv_lload_n hx hb dX0_whichWins_8 rfl (lv_at hl 1 rfl) ?_
  refine bl_ge (tgt := 15) hx hb dX0_whichWins_9 dX0_whichWins_10 (by decide) (fun c_10 n_10 => ?_) (fun c_10 n_10 => ?_)
  · skip
    have h10 : ¬ prtF b < a := fun z => n_10 ((ln_lt (by omega) (by omega)).mpr z)
    refine lv_aload_n hx hb dX0_whichWins_15 rfl (lv_at hl 0 rfl) ?_
    refine m_get (ci := 0) (C := RX0) (T := TX0) (N := 1) (v := .ref go) hx hb hts in_X0 hown hK hM hbg rfl 0 (by decide) fl_9 (fun _ h => h) rfl dX0_whichWins_16 ?_
    refine lv_lload_n hx hb dX0_whichWins_19 rfl (lv_at hl 1 rfl) ?_
    refine cpV (As := [.long (lN a)]) (rest := []) (k_X1_partnerOf l D cA M go (a) hG0 (ha)) ⟨hx, hb, hml, hown, hts⟩ (cwV 1 hts gX0_whichWins_X1_partnerOf rfl rfl rfl (by decide +kernel) ⟨by decide, by decide⟩) hK hM hg rfl rfl hl.1 rfl (Nat.le_of_ble_eq_true rfl) dX0_whichWins_20 ⟨by decide, by decide⟩ ?_
    refine lv_lload_n hx hb dX0_whichWins_23 rfl (lv_at hl 2 rfl) ?_
    refine bl_ge (tgt := 30) hx hb dX0_whichWins_24 dX0_whichWins_25 (by decide) (fun c_25 n_25 => ?_) (fun c_25 n_25 => ?_)
    · skip
      have h25 : ¬ prtF a < b := fun z => n_25 ((ln_lt (by omega) (by omega)).mpr z)
      refine lv_aload_n hx hb dX0_whichWins_30 rfl (lv_at hl 0 rfl) ?_
      refine lv_lload_n hx hb dX0_whichWins_31 rfl (lv_at hl 1 rfl) ?_
      refine lv_lload_n hx hb dX0_whichWins_32 rfl (lv_at hl 2 rfl) ?_
      refine cpV (As := [.long (lN a), .long (lN b)]) (rest := []) (k_X0_lesserLostAlong l D cA M bg go a b hbg hG0 ha hb0) ⟨hx, hb, hml, hown, hts⟩ (cwV 2 hts gX0_whichWins_X0_lesserLostAlong rfl rfl rfl (by decide +kernel) ⟨by decide, by decide⟩) hK hM hbg rfl rfl hl.1 rfl (Nat.le_of_ble_eq_true rfl) dX0_whichWins_33 ⟨by decide, by decide⟩ ?_
      refine lv_lload_n hx hb dX0_whichWins_36 rfl (lv_at hl 1 rfl) ?_
      refine lv_lload_n hx hb dX0_whichWins_37 rfl (lv_at hl 2 rfl) ?_
      refine va_mmin_long hx hb (by rw [hml]; exact hl.1.symm) hown ml_19 ms_19 mi_math mc_19 (Nat.le_of_ble_eq_true rfl) (Nat.le_of_ble_eq_true rfl) (Nat.le_of_ble_eq_true rfl) (Nat.le_of_ble_eq_true rfl) dX0_whichWins_38 ?_
      refine tpl (x' := lN (min a b)) (min_lN (by omega) (by omega)) ?_
      refine bl_ge (tgt := 49) hx hb dX0_whichWins_41 dX0_whichWins_42 (by decide) (fun c_42 n_42 => ?_) (fun c_42 n_42 => ?_)
      · skip
        have h42 : ¬ cutF (dF a b) < min a b := fun z => n_42 ((ln_lt (by omega) (by omega)).mpr z)
        refine lv_iconst (v := (-1)) hx hb dX0_whichWins_49 (by decide) ?_
        exact hret _ _ _ dX0_whichWins_50 (by unfold whichF; rw [if_neg h10, if_neg h25, if_neg h42])
      · skip
        have h42 : cutF (dF a b) < min a b := (ln_lt (by omega) (by omega)).mp c_42
        refine lv_iconst (v := 2) hx hb dX0_whichWins_45 (by decide) ?_
        refine lv_goto (tgt := 50) hx hb dX0_whichWins_46 (by decide) ?_
        exact hret _ _ _ dX0_whichWins_50 (by unfold whichF; rw [if_neg h10, if_neg h25, if_pos h42])
    · skip
      have h25 : prtF a < b := (ln_lt (by omega) (by omega)).mp c_25
      refine lv_iconst (v := 1) hx hb dX0_whichWins_28 (by decide) ?_
      exact hret _ _ _ dX0_whichWins_29 (by unfold whichF; rw [if_neg h10, if_pos h25])
  · skip
    have h10 : prtF b < a := (ln_lt (by omega) (by omega)).mp c_10
    refine lv_iconst (v := 0) hx hb dX0_whichWins_13 (by decide) ?_
    exact hret _ _ _ dX0_whichWins_14 (by unfold whichF; rw [if_pos h10])
set_option maxHeartbeats 4000000 in
set_option maxRecDepth 100000 in
theorem k_X0_howMany (l : Launch) (D : va_G) (cA : Nat → ClassId) (M : mp) (bg go a b : Nat) (hbg : M bg = some (.inr (0, [.ref go]))) (hG : goldW cA M go) (ha : a ≤ 1000000000000) (hb0 : b ≤ 1000000000000) : PC l D cA yX0_howMany wsX0_howMany 5 115 [.ref bg, .long (lN a), .long (lN b), .int (whichF a b)] M (some (.long (lN (howF a b)))) := by
  refine PC.lg (cc := cX0_howMany) (maxL := 6) (by decide) rfl (Nat.le_of_ble_eq_true rfl) ?_
  intro p e s m args below meth c H Q ls B hM hl hret
  obtain ⟨hx, hb, hown, hts, hml, hK, hin⟩ := B
  have hown : s.vm.findClass RX0 = some m.cls := hown
  have hl : lv_has ls 6 [(0, .ref bg), (1, .long (lN a)), (3, .long (lN b)), (5, .int (whichF a b))] := hl
  have in_X0 : ∀ w ∈ wsX00, w ∈ wsX0_howMany := by decide +kernel
  have fl_9 := hts (.fieldLink RX0 9 "GoldHeaps$BothGame" "golden" "LGoldHeaps$Golden;") (by decide +kernel)
  have ml_19 := hts (.methodLink RX0 19 Lib.MathLoose.min_long.x) (by decide +kernel)
  have ms_19 := hts (.static Lib.MathLoose.min_long.x) (by decide +kernel)
  have mi_math := hts (.initialized "java/lang/Math") (by decide +kernel)
  have mc_19 := hts (.code Lib.MathLoose.min_long.x Lib.MathLoose.min_long.code 4 (some .long)) (by decide +kernel)
  have hG0 := hG
  obtain ⟨s2, n2, f, hg, hs2, hn2, hf⟩ := hG
  have hda := dF_le ha hb0
  have hcd := cut_le (k := dF a b) (by omega)
  have hpa := prtF_le ha
  have hpb := prtF_le hb0
  have hmn : min a b ≤ 1000000000000 := by omega
  have hwc : (whichF a b = 0 ∧ howF a b = a - prtF b ∧ prtF b < a) ∨ (whichF a b = 1 ∧ howF a b = b - prtF a ∧ prtF a < b) ∨ (whichF a b = 2 ∧ howF a b = min a b - cutF (dF a b) ∧ cutF (dF a b) < min a b) ∨ (whichF a b = -1 ∧ howF a b = 0) := by
    unfold whichF howF
    by_cases h1 : prtF b < a
    · simp [h1]
    · by_cases h2 : prtF a < b
      · simp [h1, h2]
      · by_cases h3 : cutF (dF a b) < min a b
        · simp [h1, h2, h3]
        · simp [h1, h2, h3]
  refine lv_iload hx hb dX0_howMany_0 (lv_at hl 3 rfl) ?_
  rcases hwc with ⟨ew, er⟩ | ⟨ew, er⟩ | ⟨ew, er⟩ | ⟨ew, er⟩
  · refine lv_tableIn (tgt := 28) (off := 26) hx hb dX0_howMany_2 (by rw [ew]; decide) (by rw [ew]; decide) (by rw [ew]; rfl) (by decide) ?_
    refine lv_lload_n hx hb dX0_howMany_28 rfl (lv_at hl 1 rfl) ?_
    refine lv_aload_n hx hb dX0_howMany_29 rfl (lv_at hl 0 rfl) ?_
    refine m_get (ci := 0) (C := RX0) (T := TX0) (N := 1) (v := .ref go) hx hb hts in_X0 hown hK hM hbg rfl 0 (by decide) fl_9 (fun _ h => h) rfl dX0_howMany_30 ?_
    refine lv_lload_n hx hb dX0_howMany_33 rfl (lv_at hl 2 rfl) ?_
    refine cpV (As := [.long (lN b)]) (rest := [.long (lN a)]) (k_X1_partnerOf l D cA M go (b) hG0 (hb0)) ⟨hx, hb, hml, hown, hts⟩ (cwV 1 hts gX0_howMany_X1_partnerOf rfl rfl rfl (by decide +kernel) ⟨by decide, by decide⟩) hK hM hg rfl rfl hl.1 rfl (Nat.le_of_ble_eq_true rfl) dX0_howMany_34 ⟨by decide, by decide⟩ ?_
    refine lv_lsub hx hb dX0_howMany_37 ?_
    refine tpl (x' := lN (howF a b)) (by rw [lN_sub (by omega), er.1]) ?_
    exact hret _ _ _ dX0_howMany_38 (rfl)
  · refine lv_tableIn (tgt := 39) (off := 37) hx hb dX0_howMany_2 (by rw [ew]; decide) (by rw [ew]; decide) (by rw [ew]; rfl) (by decide) ?_
    refine lv_lload_n hx hb dX0_howMany_39 rfl (lv_at hl 2 rfl) ?_
    refine lv_aload_n hx hb dX0_howMany_40 rfl (lv_at hl 0 rfl) ?_
    refine m_get (ci := 0) (C := RX0) (T := TX0) (N := 1) (v := .ref go) hx hb hts in_X0 hown hK hM hbg rfl 0 (by decide) fl_9 (fun _ h => h) rfl dX0_howMany_41 ?_
    refine lv_lload_n hx hb dX0_howMany_44 rfl (lv_at hl 1 rfl) ?_
    refine cpV (As := [.long (lN a)]) (rest := [.long (lN b)]) (k_X1_partnerOf l D cA M go (a) hG0 (ha)) ⟨hx, hb, hml, hown, hts⟩ (cwV 1 hts gX0_howMany_X1_partnerOf rfl rfl rfl (by decide +kernel) ⟨by decide, by decide⟩) hK hM hg rfl rfl hl.1 rfl (Nat.le_of_ble_eq_true rfl) dX0_howMany_45 ⟨by decide, by decide⟩ ?_
    refine lv_lsub hx hb dX0_howMany_48 ?_
    refine tpl (x' := lN (howF a b)) (by rw [lN_sub (by omega), er.1]) ?_
    exact hret _ _ _ dX0_howMany_49 (rfl)
  · refine lv_tableIn (tgt := 50) (off := 48) hx hb dX0_howMany_2 (by rw [ew]; decide) (by rw [ew]; decide) (by rw [ew]; rfl) (by decide) ?_
    refine lv_lload_n hx hb dX0_howMany_50 rfl (lv_at hl 1 rfl) ?_
    refine lv_lload_n hx hb dX0_howMany_51 rfl (lv_at hl 2 rfl) ?_
    refine va_mmin_long hx hb (by rw [hml]; exact hl.1.symm) hown ml_19 ms_19 mi_math mc_19 (Nat.le_of_ble_eq_true rfl) (Nat.le_of_ble_eq_true rfl) (Nat.le_of_ble_eq_true rfl) (Nat.le_of_ble_eq_true rfl) dX0_howMany_52 ?_
    refine tpl (x' := lN (min a b)) (min_lN (by omega) (by omega)) ?_
    refine lv_aload_n hx hb dX0_howMany_55 rfl (lv_at hl 0 rfl) ?_
    refine lv_lload_n hx hb dX0_howMany_56 rfl (lv_at hl 1 rfl) ?_
    refine lv_lload_n hx hb dX0_howMany_57 rfl (lv_at hl 2 rfl) ?_
    refine cpV (As := [.long (lN a), .long (lN b)]) (rest := [.long (lN (min a b))]) (k_X0_lesserLostAlong l D cA M bg go a b hbg hG0 ha hb0) ⟨hx, hb, hml, hown, hts⟩ (cwV 2 hts gX0_howMany_X0_lesserLostAlong rfl rfl rfl (by decide +kernel) ⟨by decide, by decide⟩) hK hM hbg rfl rfl hl.1 rfl (Nat.le_of_ble_eq_true rfl) dX0_howMany_58 ⟨by decide, by decide⟩ ?_
    refine lv_lsub hx hb dX0_howMany_61 ?_
    refine tpl (x' := lN (howF a b)) (by rw [lN_sub (by omega), er.1]) ?_
    exact hret _ _ _ dX0_howMany_62 (rfl)
  · refine lv_tableOut (tgt := 63) hx hb dX0_howMany_2 (by rw [ew]; decide) (by decide) ?_
    refine lv_lconst (v := 0) hx hb dX0_howMany_63 (by decide) ?_
    refine tpl (x' := lN (howF a b)) (by rw [er]; rfl) ?_
    exact hret _ _ _ dX0_howMany_64 (rfl)
set_option maxHeartbeats 4000000 in
set_option maxRecDepth 100000 in
theorem k_X5_isWon (l : Launch) (D : va_G) (cA : Nat → ClassId) (M : mp) (sg go a b : Nat) (hsg : M sg = some (.inr (5, [.ref go]))) (hG : goldW cA M go) (ha : a ≤ 1000000000000) (hb0 : b ≤ 1000000000000) : PC l D cA yX5_isWon wsX5_isWon 2 49 [.ref sg, .long (lN a), .long (lN b)] M (some (.int (bI (shF a b)))) := by
  refine PC.zz (cc := cX5_isWon) (maxL := 9) (by decide) rfl (Nat.le_of_ble_eq_true rfl) ?_
  intro p e s m args below meth c H Q ls B hM hl hret
  obtain ⟨hx, hb, hown, hts, hml, hK, hin⟩ := B
  have hown : s.vm.findClass RX5 = some m.cls := hown
  have hl : lv_has ls 9 [(0, .ref sg), (1, .long (lN a)), (3, .long (lN b))] := hl
  have ml_13 := hts (.methodLink RX5 13 Lib.MathLoose.max_long.x) (by decide +kernel)
  have ms_13 := hts (.static Lib.MathLoose.max_long.x) (by decide +kernel)
  have mi_math := hts (.initialized "java/lang/Math") (by decide +kernel)
  have mc_13 := hts (.code Lib.MathLoose.max_long.x Lib.MathLoose.max_long.code 4 (some .long)) (by decide +kernel)
  have ml_19 := hts (.methodLink RX5 19 Lib.MathLoose.min_long.x) (by decide +kernel)
  have ms_19 := hts (.static Lib.MathLoose.min_long.x) (by decide +kernel)
  have mc_19 := hts (.code Lib.MathLoose.min_long.x Lib.MathLoose.min_long.code 4 (some .long)) (by decide +kernel)
  have in_X5 : ∀ w ∈ wsX50, w ∈ wsX5_isWon := by decide +kernel
  have fl_7 := hts (.fieldLink RX5 7 "GoldHeaps$SharesGame" "golden" "LGoldHeaps$Golden;") (by decide +kernel)
  have hG0 := hG
  obtain ⟨s2, n2, f, hg, hs2, hn2, hf⟩ := hG
  have hmn : min a b ≤ 1000000000000 := by omega
  have hmx : max a b ≤ 1000000000000 := by omega
  have hcm := cut_le (k := min a b) (by omega)
  refine lv_lload_n hx hb dX5_isWon_0 rfl (lv_at hl 1 rfl) ?_
  refine lv_lload_n hx hb dX5_isWon_1 rfl (lv_at hl 2 rfl) ?_
  refine va_mmax_long hx hb (by rw [hml]; exact hl.1.symm) hown ml_13 ms_13 mi_math mc_13 (Nat.le_of_ble_eq_true rfl) (Nat.le_of_ble_eq_true rfl) (Nat.le_of_ble_eq_true rfl) (Nat.le_of_ble_eq_true rfl) dX5_isWon_2 ?_
  refine tpl (x' := lN (max a b)) (max_lN (by omega) (by omega)) ?_
  refine lv_lstore (lv' := [(5, .long (lN (max a b))), (0, .ref sg), (1, .long (lN a)), (3, .long (lN b))]) hx hb dX5_isWon_5 hl (by decide) rfl (fun ls hl => ?_)
  refine lv_lload_n hx hb dX5_isWon_7 rfl (lv_at hl 2 rfl) ?_
  refine lv_lload_n hx hb dX5_isWon_8 rfl (lv_at hl 3 rfl) ?_
  refine va_mmin_long hx hb (by rw [hml]; exact hl.1.symm) hown ml_19 ms_19 mi_math mc_19 (Nat.le_of_ble_eq_true rfl) (Nat.le_of_ble_eq_true rfl) (Nat.le_of_ble_eq_true rfl) (Nat.le_of_ble_eq_true rfl) dX5_isWon_9 ?_
  refine tpl (x' := lN (min a b)) (min_lN (by omega) (by omega)) ?_
  refine lv_lstore (lv' := [(7, .long (lN (min a b))), (5, .long (lN (max a b))), (0, .ref sg), (1, .long (lN a)), (3, .long (lN b))]) hx hb dX5_isWon_12 hl (by decide) rfl (fun ls hl => ?_)
  refine lv_lload hx hb dX5_isWon_14 (lv_at hl 0 rfl) ?_
  refine lv_lconst (v := 0) hx hb dX5_isWon_16 (by decide) ?_
  refine bl_le (tgt := 48) hx hb dX5_isWon_17 dX5_isWon_18 (by decide) (fun c_18 n_18 => ?_) (fun c_18 n_18 => ?_)
  · skip
    have h18 : ¬ 0 < min a b := fun z => n_18 (by rw [l_0]; exact (ln_lt (by decide) (by omega)).mpr z)
    refine lv_iconst (v := 0) hx hb dX5_isWon_48 (by decide) ?_
    exact hret _ _ _ dX5_isWon_49 (by unfold shF; rw [decide_eq_false h18]; rfl)
  · skip
    have h18 : 0 < min a b := (ln_lt (by decide) (by omega)).mp (by rw [← l_0]; exact c_18)
    refine lv_lload hx hb dX5_isWon_21 (lv_at hl 1 rfl) ?_
    refine lv_lload hx hb dX5_isWon_23 (lv_at hl 0 rfl) ?_
    refine bl_eq (tgt := 44) hx hb dX5_isWon_25 dX5_isWon_26 (by decide) (fun c_26 n_26 => ?_) (fun c_26 n_26 => ?_)
    · skip
      have h26 : max a b = min a b := (ln_eq (by omega) (by omega)).mp c_26
      refine lv_iconst (v := 1) hx hb dX5_isWon_44 (by decide) ?_
      refine lv_goto (tgt := 49) hx hb dX5_isWon_45 (by decide) ?_
      exact hret _ _ _ dX5_isWon_49 (by unfold shF; rw [decide_eq_true h18, decide_eq_true h26]; rfl)
    · skip
      have h26 : ¬ max a b = min a b := fun z => c_26 (by rw [z])
      refine lv_lload hx hb dX5_isWon_29 (lv_at hl 1 rfl) ?_
      refine lv_aload_n hx hb dX5_isWon_31 rfl (lv_at hl 2 rfl) ?_
      refine m_get (ci := 5) (C := RX5) (T := TX5) (N := 1) (v := .ref go) hx hb hts in_X5 hown hK hM hsg rfl 0 (by decide) fl_7 (fun _ h => h) rfl dX5_isWon_32 ?_
      refine lv_lload hx hb dX5_isWon_35 (lv_at hl 0 rfl) ?_
      refine cpV (As := [.long (lN (min a b))]) (rest := [.long (lN (max a b))]) (k_X1_cut l D cA M go (min a b) hG0 (by omega)) ⟨hx, hb, hml, hown, hts⟩ (cwV 1 hts gX5_isWon_X1_cut rfl rfl rfl (by decide +kernel) ⟨by decide, by decide⟩) hK hM hg rfl rfl hl.1 rfl (Nat.le_of_ble_eq_true rfl) dX5_isWon_37 ⟨by decide, by decide⟩ ?_
      refine bl_le (tgt := 48) hx hb dX5_isWon_40 dX5_isWon_41 (by decide) (fun c_41 n_41 => ?_) (fun c_41 n_41 => ?_)
      · skip
        have h41 : ¬ cutF (min a b) < max a b := fun z => n_41 ((ln_lt (by omega) (by omega)).mpr z)
        refine lv_iconst (v := 0) hx hb dX5_isWon_48 (by decide) ?_
        exact hret _ _ _ dX5_isWon_49 (by unfold shF; rw [decide_eq_true h18, decide_eq_false h26, decide_eq_false h41]; rfl)
      · skip
        have h41 : cutF (min a b) < max a b := (ln_lt (by omega) (by omega)).mp c_41
        refine lv_iconst (v := 1) hx hb dX5_isWon_44 (by decide) ?_
        refine lv_goto (tgt := 49) hx hb dX5_isWon_45 (by decide) ?_
        exact hret _ _ _ dX5_isWon_49 (by unfold shF; rw [decide_eq_true h18, decide_eq_false h26, decide_eq_true h41]; rfl)
set_option maxHeartbeats 4000000 in
set_option maxRecDepth 100000 in
theorem k_X5_leastTimes (l : Launch) (D : va_G) (cA : Nat → ClassId) (M : mp) (sg go a b : Nat) (hsg : M sg = some (.inr (5, [.ref go]))) (hG : goldW cA M go) (ha : a ≤ 1000000000000) (hb0 : b ≤ 1000000000000) : PC l D cA yX5_leastTimes wsX5_leastTimes 3 77 [.ref sg, .long (lN a), .long (lN b)] M (some (.long (lN (smF (max a b) (min a b))))) := by
  refine PC.lg (cc := cX5_leastTimes) (maxL := 13) (by decide) rfl (Nat.le_of_ble_eq_true rfl) ?_
  intro p e s m args below meth c H Q ls B hM hl hret
  obtain ⟨hx, hb, hown, hts, hml, hK, hin⟩ := B
  have hown : s.vm.findClass RX5 = some m.cls := hown
  have hl : lv_has ls 13 [(0, .ref sg), (1, .long (lN a)), (3, .long (lN b))] := hl
  have ml_13 := hts (.methodLink RX5 13 Lib.MathLoose.max_long.x) (by decide +kernel)
  have ms_13 := hts (.static Lib.MathLoose.max_long.x) (by decide +kernel)
  have mi_math := hts (.initialized "java/lang/Math") (by decide +kernel)
  have mc_13 := hts (.code Lib.MathLoose.max_long.x Lib.MathLoose.max_long.code 4 (some .long)) (by decide +kernel)
  have ml_19 := hts (.methodLink RX5 19 Lib.MathLoose.min_long.x) (by decide +kernel)
  have ms_19 := hts (.static Lib.MathLoose.min_long.x) (by decide +kernel)
  have mc_19 := hts (.code Lib.MathLoose.min_long.x Lib.MathLoose.min_long.code 4 (some .long)) (by decide +kernel)
  have hG0 := hG
  obtain ⟨s2, n2, f, hg, hs2, hn2, hf⟩ := hG
  have hmn : min a b ≤ 1000000000000 := by omega
  have hmx : max a b ≤ 1000000000000 := by omega
  have hcm := cut_le (k := min a b) (by omega)
  refine lv_lload_n hx hb dX5_leastTimes_0 rfl (lv_at hl 1 rfl) ?_
  refine lv_lload_n hx hb dX5_leastTimes_1 rfl (lv_at hl 2 rfl) ?_
  refine va_mmax_long hx hb (by rw [hml]; exact hl.1.symm) hown ml_13 ms_13 mi_math mc_13 (Nat.le_of_ble_eq_true rfl) (Nat.le_of_ble_eq_true rfl) (Nat.le_of_ble_eq_true rfl) (Nat.le_of_ble_eq_true rfl) dX5_leastTimes_2 ?_
  refine tpl (x' := lN (max a b)) (max_lN (by omega) (by omega)) ?_
  refine lv_lstore (lv' := [(5, .long (lN (max a b))), (0, .ref sg), (1, .long (lN a)), (3, .long (lN b))]) hx hb dX5_leastTimes_5 hl (by decide) rfl (fun ls hl => ?_)
  refine lv_lload_n hx hb dX5_leastTimes_7 rfl (lv_at hl 2 rfl) ?_
  refine lv_lload_n hx hb dX5_leastTimes_8 rfl (lv_at hl 3 rfl) ?_
  refine va_mmin_long hx hb (by rw [hml]; exact hl.1.symm) hown ml_19 ms_19 mi_math mc_19 (Nat.le_of_ble_eq_true rfl) (Nat.le_of_ble_eq_true rfl) (Nat.le_of_ble_eq_true rfl) (Nat.le_of_ble_eq_true rfl) dX5_leastTimes_9 ?_
  refine tpl (x' := lN (min a b)) (min_lN (by omega) (by omega)) ?_
  refine lv_lstore (lv' := [(7, .long (lN (min a b))), (5, .long (lN (max a b))), (0, .ref sg), (1, .long (lN a)), (3, .long (lN b))]) hx hb dX5_leastTimes_12 hl (by decide) rfl (fun ls hl => ?_)
  refine lv_lload hx hb dX5_leastTimes_14 (lv_at hl 0 rfl) ?_
  refine lv_lconst (v := 0) hx hb dX5_leastTimes_16 (by decide) ?_
  refine bl_gt (tgt := 23) hx hb dX5_leastTimes_17 dX5_leastTimes_18 (by decide) (fun c_18 n_18 => ?_) (fun c_18 n_18 => ?_)
  · skip
    have h0 : 1 ≤ min a b := (ln_lt (by decide) (by omega)).mp (by rw [← l_0]; exact c_18)
    have d1 : max a b / min a b * min a b ≤ max a b := Nat.div_mul_le_self _ _
    have d3 : 1 ≤ max a b / min a b := (Nat.le_div_iff_mul_le (by omega)).mpr (by omega)
    have d4 : max a b / min a b ≤ max a b := Nat.div_le_self _ _
    have hlt := lt_sm h0 (by omega) hmx
    generalize hkk : max a b / min a b = k at *
    refine lv_lload hx hb dX5_leastTimes_23 (lv_at hl 1 rfl) ?_
    refine lv_lload hx hb dX5_leastTimes_25 (lv_at hl 0 rfl) ?_
    refine lv_ldiv hx hb dX5_leastTimes_27 (fun z => by have := (ln_eq (by omega) (by decide)).mp (show lN (min a b) = lN 0 by rw [z]; rfl); omega) ?_
    refine tpl (x' := lN k) (by rw [← hkk]; exact pk_lDiv (by omega) (by omega) (by omega)) ?_
    refine lv_lstore (lv' := [(9, .long (lN k)), (7, .long (lN (min a b))), (5, .long (lN (max a b))), (0, .ref sg), (1, .long (lN a)), (3, .long (lN b))]) hx hb dX5_leastTimes_28 hl (by decide) rfl (fun ls hl => ?_)
    refine lv_lconst (v := 1) hx hb dX5_leastTimes_30 (by decide) ?_
    refine lv_lload hx hb dX5_leastTimes_31 (lv_at hl 0 rfl) ?_
    refine lv_lconst (v := 1) hx hb dX5_leastTimes_33 (by decide) ?_
    refine lv_lsub hx hb dX5_leastTimes_34 ?_
    refine tpl (x' := lN (k - 1)) (by rw [l_1]; exact lN_sub d3) ?_
    refine va_mmax_long hx hb (by rw [hml]; exact hl.1.symm) hown ml_13 ms_13 mi_math mc_13 (Nat.le_of_ble_eq_true rfl) (Nat.le_of_ble_eq_true rfl) (Nat.le_of_ble_eq_true rfl) (Nat.le_of_ble_eq_true rfl) dX5_leastTimes_35 ?_
    refine tpl (x' := lN (max 1 (k - 1))) (by rw [l_1]; exact max_lN (by omega) (by omega)) ?_
    refine lv_lstore (lv' := [(11, .long (lN (max 1 (k - 1)))), (9, .long (lN k)), (7, .long (lN (min a b))), (5, .long (lN (max a b))), (0, .ref sg), (1, .long (lN a)), (3, .long (lN b))]) hx hb dX5_leastTimes_38 hl (by decide) rfl (fun ls hl => ?_)
    have j_40 : ∀ (fu : Nat) (mm : Nat) (ls : Array Slot), (mm ≤ k + 1) → (ltF (max a b) (min a b) (k + 1 - mm) mm = smF (max a b) (min a b)) → (k + 1 - mm < fu) → lv_has ls 13 [(0, .ref sg), (5, .long (lN (max a b))), (7, .long (lN (min a b))), (9, .long (lN k)), (11, .long (lN mm))] → W p l e ({ frames := 3, cells := 0, slots := 0, locals := 77 } : Room) s m args below meth c H [] 0 0 Q (F0 m 40 ls []) := by
      intro fu
      induction fu with
      | zero => intro mm ls hmm hs hm _; exact absurd hm (Nat.not_lt_zero _)
      | succ fu ih =>
        intro mm ls hmm hs hm hl
        refine lv_lload hx hb dX5_leastTimes_40 (lv_at hl 4 rfl) ?_
        refine lv_lload hx hb dX5_leastTimes_42 (lv_at hl 3 rfl) ?_
        refine bl_gt (tgt := 77) hx hb dX5_leastTimes_44 dX5_leastTimes_45 (by decide) (fun c_45 n_45 => ?_) (fun c_45 n_45 => ?_)
        · skip
          have h45 : k < mm := (ln_lt (by omega) (by omega)).mp c_45
          refine lv_lconst (v := 0) hx hb dX5_leastTimes_77 (by decide) ?_
          exact hret _ _ _ dX5_leastTimes_78 (by rw [← hs, show k + 1 - mm = 0 by omega]; rfl)
        · skip
          have h45 : mm ≤ k := (ln_le (by omega) (by omega)).mp c_45
          have hmk : mm * min a b ≤ max a b := Nat.le_trans (Nat.mul_le_mul_right _ h45) d1
          refine lv_aload_n hx hb dX5_leastTimes_48 rfl (lv_at hl 0 rfl) ?_
          refine lv_lload hx hb dX5_leastTimes_49 (lv_at hl 1 rfl) ?_
          refine lv_lload hx hb dX5_leastTimes_51 (lv_at hl 4 rfl) ?_
          refine lv_lload hx hb dX5_leastTimes_53 (lv_at hl 2 rfl) ?_
          refine lv_lmul hx hb dX5_leastTimes_55 ?_
          refine tpl (x' := lN (mm * min a b)) (lN_mul _ _) ?_
          refine lv_lsub hx hb dX5_leastTimes_56 ?_
          refine tpl (x' := lN (max a b - mm * min a b)) (lN_sub hmk) ?_
          refine lv_lload hx hb dX5_leastTimes_57 (lv_at hl 2 rfl) ?_
          refine cpV (As := [.long (lN (max a b - mm * min a b)), .long (lN (min a b))]) (rest := []) (k_X5_isWon l D cA M sg go (max a b - mm * min a b) (min a b) hsg hG0 (by omega) (by omega)) ⟨hx, hb, hml, hown, hts⟩ (cwV 2 hts gX5_leastTimes_X5_isWon rfl rfl rfl (by decide +kernel) ⟨by decide, by decide⟩) hK hM hsg rfl rfl hl.1 rfl (Nat.le_of_ble_eq_true rfl) dX5_leastTimes_59 ⟨by decide, by decide⟩ ?_
          refine bz_ne (tgt := 68) hx hb dX5_leastTimes_62 (by decide) (fun c_62 n_62 => ?_) (fun c_62 n_62 => ?_)
          · skip
            have hwn := bI_ne0 c_62
            refine lv_lload hx hb dX5_leastTimes_68 (lv_at hl 4 rfl) ?_
            refine lv_lconst (v := 1) hx hb dX5_leastTimes_70 (by decide) ?_
            refine lv_ladd hx hb dX5_leastTimes_71 ?_
            refine tpl (x' := lN (mm + 1)) (by rw [l_1]; exact lN_add _ _) ?_
            refine lv_lstore (lv' := [(11, .long (lN (mm + 1))), (0, .ref sg), (5, .long (lN (max a b))), (7, .long (lN (min a b))), (9, .long (lN k))]) hx hb dX5_leastTimes_72 hl (by decide) rfl (fun ls hl => ?_)
            refine lv_goto (tgt := 40) hx hb dX5_leastTimes_74 (by decide) ?_
            exact ih (mm + 1) _ (by omega) (by rw [← hs, show k + 1 - mm = (k + 1 - (mm + 1)) + 1 by omega]; show _ = (if shF (max a b - mm * min a b) (min a b) then _ else _); rw [if_pos hwn]) (by omega) (lv_sub hl [1, 2, 3, 4, 0] rfl)
          · skip
            have hwn := bI_eq0 c_62
            refine lv_lload hx hb dX5_leastTimes_65 (lv_at hl 4 rfl) ?_
            exact hret _ _ _ dX5_leastTimes_67 (by rw [← hs, show k + 1 - mm = (k - mm) + 1 by omega]; show _ = lN (if shF (max a b - mm * min a b) (min a b) then _ else _); rw [if_neg (by rw [hwn]; decide)])
    exact j_40 (k + 2) (max 1 (k - 1)) _ (by omega) hlt (by omega) (lv_sub hl [4, 3, 2, 1, 0] rfl)
  · skip
    have h0 : min a b = 0 := by have := (ln_le (by omega) (by decide)).mp (show lN (min a b) ≤ lN 0 by rw [← l_0]; exact c_18); omega
    refine lv_lconst (v := 0) hx hb dX5_leastTimes_21 (by decide) ?_
    exact hret _ _ _ dX5_leastTimes_22 (by rw [h0, smF_0]; rfl)
end
section
/-- what M has stays in M', but for the cells of L -/
def kpL (M M' : mp) (L : List Nat) : Prop := ∀ (q : Nat) (e : va_E), M q = some e → q ∉ L → M' q = some e
theorem kpL.rf (M : mp) (L : List Nat) : kpL M M L := fun _ _ h _ => h
theorem kpL.put {M0 M M1 : mp} {L : List Nat} {a : Nat} {e : va_E} (h : kpL M0 M L) (e1 : M1 = mu M a e) (ha : a ∈ L) : kpL M0 M1 L := fun q x hq hn => mu_kp e1 (fun z => hn (by rw [z]; exact ha)) (h q x hq hn)
theorem kpL.new {D : va_G} {H : Heap} {M0 M M1 : mp} {L : List Nat} {a : Nat} {e : va_E} (h : kpL M0 M L) (hM : mh D M H) (hq : a = H.size) (e1 : M1 = mu M a e) : kpL M0 M1 L := fun q x hq' hn => mu_kp e1 (by rw [hq]; exact hM.ne (h q x hq' hn)) (h q x hq' hn)
theorem kpL.call {M0 M M1 : mp} {L L2 : List Nat} (h : kpL M0 M L) (h2 : kpL M M1 L2) (hs : ∀ x ∈ L2, x ∈ L) : kpL M0 M1 L := fun q x hq hn => h2 q x (h q x hq hn) (fun z => hn (hs q z))
theorem kpL.wk {M M1 : mp} {L L2 : List Nat} (h2 : kpL M M1 L2) (hs : ∀ x ∈ L2, x ∈ L) : kpL M M1 L := (kpL.rf M L).call h2 hs
theorem ni1 {q a : Nat} (h : q ≠ a) : q ∉ [a] := by simpa using h
theorem ni2 {q a b : Nat} (h1 : q ≠ a) (h2 : q ≠ b) : q ∉ [a, b] := by simpa using ⟨h1, h2⟩
theorem ni3 {q a b c : Nat} (h1 : q ≠ a) (h2 : q ≠ b) (h3 : q ≠ c) : q ∉ [a, b, c] := by simpa using ⟨h1, h2, h3⟩
/-- a cell of another kind is another cell -/
theorem kpL.k1 {M M1 : mp} {a q : Nat} {x y : va_E} (h : kpL M M1 [a]) (ha : M a = some x) (hq : M q = some y) (hn : y ≠ x) : M1 q = some y := h q y hq (ni1 (mp_ne hq ha hn))
theorem idx_A {h k : Nat} (hh : h ≤ 1000000000000) (hk : k ≤ 1000000000000) : cutF k < h ↔ k < idxF h := by
  unfold idxF
  rcases Nat.eq_zero_or_pos h with h0 | h0
  · subst h0; simp
  · rw [if_neg (by omega)]
    have hge := cut_ge (k := h) (by omega)
    rcases Nat.eq_zero_or_pos k with k0 | k0
    · subst k0; rw [cut_0]; omega
    · have g := cut_G (r := k) (q := h) k0 h0 (by omega) (by omega)
      constructor
      · intro z
        rcases Nat.lt_or_ge k (cutF h - h + 1) with y | y
        · exact y
        · have := g.mpr (by omega); omega
      · intro z
        rcases Nat.lt_or_ge (cutF k) h with y | y
        · exact y
        · have := g.mp y; omega
theorem idx_B {h k : Nat} (hh : h ≤ 1000000000000) (hk : k ≤ 1000000000000) : cutF k + k < h ↔ k < 2 * h - cutF h := by
  rcases Nat.eq_zero_or_pos h with h0 | h0
  · subst h0; simp
  · have hl2 := cut_lt2 (q := h) h0 (by omega)
    rcases Nat.eq_zero_or_pos k with k0 | k0
    · subst k0; rw [cut_0]; omega
    · have g := cut_G2 (r := k) (h := h) k0 h0 (by omega) (by omega)
      constructor
      · intro z
        rcases Nat.lt_or_ge k (2 * h - cutF h) with y | y
        · exact y
        · have := g.mpr (by omega); omega
      · intro z
        rcases Nat.lt_or_ge (cutF k + k) h with y | y
        · exact y
        · have := g.mp y; omega
theorem idx_le {h : Nat} (hh : h ≤ 1000000000000) : idxF h ≤ h := by
  rcases Nat.lt_or_ge h (idxF h) with y | y
  · have := (idx_A (h := h) (k := h) hh hh).mpr y
    have := cut_ge (k := h) (by omega)
    omega
  · exact y
theorem mid_lN {lo hi : Nat} (h : lo ≤ hi) (hb : hi ≤ 1000000000000) : lN lo + lN (hi - lo) / lN 2 = lN (lo + (hi - lo) / 2) := by
  rw [pk_lDiv (by omega) (by omega) (by omega), lN_add]
def agr (v v' : Nat → Value) : Prop := ∀ k, k ≠ 15 → k ≠ 16 → v' k = v k
theorem prt_ref {h : Nat} (hh : h ≤ 1000000000000) : (isLF h = true → h + idF h = prtF h) ∧ (isLF h = false → h - idF h = prtF h ∧ idF h ≤ h) := by
  have h1 := cut_ge (k := h) (by omega)
  have h2 := cut_le (k := h) (by omega)
  unfold idF prtF
  constructor
  · intro z; rw [z]; rfl
  · intro z; rw [z]; simp; omega
end
section
set_option maxHeartbeats 4000000 in
set_option maxRecDepth 100000 in
theorem k_X9_find (l : Launch) (D : va_G) (cA : Nat → ClassId) (M : mp) (m0 : Nat) (v : Nat → Value) (fb : Nat) (f : Nat → Int64) (n : Nat) (hR : M m0 = some (.inr (9, rL v))) (hv0 : v 0 = .ref fb) (hfb : M fb = some (.inl (cA 0, 64, .inr (.inl f)))) (hf : ∀ j, j < 64 → f j = lN (fibN j)) (hn : n ≤ 1000000000000) : MC l D cA yX9_find wsX9_find 1 27 0 0 [.ref m0, .long (lN n)] M (fun r M' => r = none ∧ (∃ v', M' m0 = some (.inr (9, rL v')) ∧ v' 15 = .long (lN (idF n)) ∧ v' 16 = .int (bI (isLF n)) ∧ agr v v') ∧ kpL M M' [m0]) := by
  refine MC.of (cc := cX9_find) (maxL := 9) (ret := none) (by decide) rfl (Nat.le_of_ble_eq_true rfl) ?_
  intro p e s m args below meth c Q ls B hh hl hretv hreti hretz hretl hreta
  obtain ⟨hx, hb, hown, hts, hml, hK, hin⟩ := B
  have hM := hh.1
  have hkp : kpL M M [m0] := kpL.rf M _
  have hown : s.vm.findClass RX9 = some m.cls := hown
  have hl : lv_has ls 9 [(0, .ref m0), (1, .long (lN n))] := hl
  have in_X9 : ∀ w ∈ wsX90, w ∈ wsX9_find := by decide +kernel
  have fl_71 := hts (.fieldLink RX9 71 "GoldHeapsModel" "foundK" "J") (by decide +kernel)
  have fl_75 := hts (.fieldLink RX9 75 "GoldHeapsModel" "foundLesser" "Z") (by decide +kernel)
  have cst_46 := hts (.constantLong RX9 46 (2)) (by decide +kernel)
  refine lv_lconst (v := 0) hx hb dX9_find_0 (by decide) ?_
  refine tpl (x' := lN 0) (l_0) ?_
  refine lv_lstore_n (lv' := [(3, .long (lN 0)), (0, .ref m0), (1, .long (lN n))]) hx hb dX9_find_1 rfl hl (by decide) rfl (fun ls hl => ?_)
  refine lv_lload_n hx hb dX9_find_2 rfl (lv_at hl 2 rfl) ?_
  refine lv_lstore (lv' := [(5, .long (lN n)), (3, .long (lN 0)), (0, .ref m0), (1, .long (lN n))]) hx hb dX9_find_3 hl (by decide) rfl (fun ls hl => ?_)
  have j_5 : ∀ (fu : Nat) (lo hi : Nat) (M1 : mp) (H : Heap) (locs : List Loc) (ls : Array Slot), (lo ≤ idxF n) → (idxF n ≤ hi) → (hi ≤ n) → (hw D M s.heap M1 H locs) → (kpL M M1 [m0]) → (M1 m0 = some (.inr (9, rL v))) → (M1 fb = some (.inl (cA 0, 64, .inr (.inl f)))) → (hi - lo < fu) → lv_has ls 9 [(0, .ref m0), (1, .long (lN n)), (3, .long (lN lo)), (5, .long (lN hi))] → W p l e ({ frames := 1, cells := 0, slots := 0, locals := 27 } : Room) s m args below meth c H locs 0 0 Q (F0 m 5 ls []) := by
    intro fu
    induction fu with
    | zero => intro lo hi M1 H locs ls h1 h2 h3 hh hkp hR hfb hm_5 _; exact absurd hm_5 (Nat.not_lt_zero _)
    | succ fu ih_5 =>
      intro lo hi M1 H locs ls h1 h2 h3 hh hkp hR hfb hm_5 hl
      have hM := hh.1
      refine lv_lload_n hx hb dX9_find_5 rfl (lv_at hl 2 rfl) ?_
      refine lv_lload hx hb dX9_find_6 (lv_at hl 3 rfl) ?_
      refine bl_ge (tgt := 50) hx hb dX9_find_8 dX9_find_9 (by decide) (fun c_9 n_9 => ?_) (fun c_9 n_9 => ?_)
      · skip
        have hge : hi ≤ lo := (ln_le (by omega) (by omega)).mp c_9
        have hlo : lo = idxF n := by omega
        have hxi := idx_le hn
        have hci := cut_le (k := idxF n) (by omega)
        refine lv_aload_n hx hb dX9_find_50 rfl (lv_at hl 0 rfl) ?_
        refine lv_lload_n hx hb dX9_find_51 rfl (lv_at hl 2 rfl) ?_
        refine tpl (x' := lN (idxF n)) (by rw [hlo]) ?_
        refine m_put (ci := 9) (C := RX9) (T := TX9) (N := 18) (v := .long (lN (idxF n))) hx hb hts in_X9 tyX9 tyX9_ok nmX9 hown hK hh hR rfl 15 (by decide) fl_71 (fun _ h => h) rfl (ty := tyX9 15) (by decide +kernel) (rfl) (rfl) (Nat.le_of_ble_eq_true rfl) dX9_find_52 (fun M1 H1 locs1 e1 hh => ?_)
        have hfb := mu_kp e1 (mp_ne hfb hR (by simp)) hfb
        have hR := mu_at e1
        have hkp := hkp.put e1 (by simp)
        have hR : M1 m0 = some (.inr (9, rL (va_up v 15 (.long (lN (idxF n)))))) := hR
        have hM := hh.1
        refine lv_aload_n hx hb dX9_find_55 rfl (lv_at hl 0 rfl) ?_
        refine lv_aload_n hx hb dX9_find_56 rfl (lv_at hl 0 rfl) ?_
        refine lv_lload_n hx hb dX9_find_57 rfl (lv_at hl 2 rfl) ?_
        refine tpl (x' := lN (idxF n)) (by rw [hlo]) ?_
        refine cpV (As := [.long (lN (idxF n))]) (rest := [.ref m0]) (k_X9_lesser l D cA _ m0 (idxF n) ⟨_, fb, f, hR, (va_up_ne _ _ (by decide)).trans (hv0), hfb, hf⟩ (by omega)) ⟨hx, hb, hml, hown, hts⟩ (cwV 1 hts gX9_find_X9_lesser rfl rfl rfl (by decide +kernel) ⟨by decide, by decide⟩) hK hM hR rfl rfl hl.1 rfl (Nat.le_of_ble_eq_true rfl) dX9_find_58 ⟨by decide, by decide⟩ ?_
        refine lv_lload_n hx hb dX9_find_61 rfl (lv_at hl 1 rfl) ?_
        refine bl_ne (tgt := 70) hx hb dX9_find_62 dX9_find_63 (by decide) (fun c_63 n_63 => ?_) (fun c_63 n_63 => ?_)
        · skip
          have hisl : isLF n = false := by unfold isLF; simp; exact fun z => c_63 (by rw [z])
          refine lv_iconst (v := 0) hx hb dX9_find_70 (by decide) ?_
          refine tpi (x' := bI (isLF n)) (by rw [hisl]; rfl) ?_
          refine m_put (ci := 9) (C := RX9) (T := TX9) (N := 18) (v := .int (bI (isLF n))) hx hb hts in_X9 tyX9 tyX9_ok nmX9 hown hK hh hR rfl 16 (by decide) fl_75 (fun _ h => h) rfl (ty := tyX9 16) (by decide +kernel) (bI_nar _) (by cases isLF n <;> rfl) (Nat.le_of_ble_eq_true rfl) dX9_find_71 (fun M1 H1 locs1 e1 hh => ?_)
          have hfb := mu_kp e1 (mp_ne hfb hR (by simp)) hfb
          have hR := mu_at e1
          have hkp := hkp.put e1 (by simp)
          have hR : M1 m0 = some (.inr (9, rL (va_up (va_up v 15 (.long (lN (idxF n)))) 16 (.int (bI (isLF n)))))) := hR
          have hM := hh.1
          refine lv_aload_n hx hb dX9_find_74 rfl (lv_at hl 0 rfl) ?_
          refine m_get (ci := 9) (C := RX9) (T := TX9) (N := 18) (v := (va_up (va_up v 15 (.long (lN (idxF n)))) 16 (.int (bI (isLF n)))) 16) hx hb hts in_X9 hown hK hM hR rfl 16 (by decide) fl_75 (fun _ h => h) rfl dX9_find_75 ?_
          refine tpv (va_up_self _ _ _) ?_
          refine bz_eq (tgt := 82) hx hb dX9_find_78 (by decide) (fun c_78 n_78 => ?_) (fun c_78 n_78 => ?_)
          · skip
            have hl0 := bI_eq0 c_78
            refine lv_lconst (v := 0) hx hb dX9_find_82 (by decide) ?_
            refine tpl (x' := lN 0) (l_0) ?_
            refine lv_lstore_n (lv' := [(3, .long (lN 0)), (0, .ref m0), (1, .long (lN n)), (5, .long (lN hi))]) hx hb dX9_find_83 rfl hl (by decide) rfl (fun ls hl => ?_)
            refine lv_lload_n hx hb dX9_find_84 rfl (lv_at hl 2 rfl) ?_
            refine lv_lstore (lv' := [(5, .long (lN n)), (3, .long (lN 0)), (0, .ref m0), (1, .long (lN n))]) hx hb dX9_find_85 hl (by decide) rfl (fun ls hl => ?_)
            have j_87 : ∀ (fu : Nat) (lo hi : Nat) (M1 : mp) (H : Heap) (locs : List Loc) (ls : Array Slot), (lo ≤ 2 * n - cutF n) → (2 * n - cutF n ≤ hi) → (hi ≤ n) → (hw D M s.heap M1 H locs) → (kpL M M1 [m0]) → (M1 m0 = some (.inr (9, rL (va_up (va_up v 15 (.long (lN (idxF n)))) 16 (.int (bI (isLF n))))))) → (M1 fb = some (.inl (cA 0, 64, .inr (.inl f)))) → (hi - lo < fu) → lv_has ls 9 [(0, .ref m0), (1, .long (lN n)), (3, .long (lN lo)), (5, .long (lN hi))] → W p l e ({ frames := 1, cells := 0, slots := 0, locals := 27 } : Room) s m args below meth c H locs 0 0 Q (F0 m 87 ls []) := by
              intro fu
              induction fu with
              | zero => intro lo hi M1 H locs ls h1 h2 h3 hh hkp hR hfb hm_87 _; exact absurd hm_87 (Nat.not_lt_zero _)
              | succ fu ih_87 =>
                intro lo hi M1 H locs ls h1 h2 h3 hh hkp hR hfb hm_87 hl
                have hM := hh.1
                refine lv_lload_n hx hb dX9_find_87 rfl (lv_at hl 2 rfl) ?_
                refine lv_lload hx hb dX9_find_88 (lv_at hl 3 rfl) ?_
                refine bl_ge (tgt := 135) hx hb dX9_find_90 dX9_find_91 (by decide) (fun c_91 n_91 => ?_) (fun c_91 n_91 => ?_)
                · skip
                  have hge : hi ≤ lo := (ln_le (by omega) (by omega)).mp c_91
                  have hlo : lo = 2 * n - cutF n := by omega
                  refine lv_aload_n hx hb dX9_find_135 rfl (lv_at hl 0 rfl) ?_
                  refine lv_lload_n hx hb dX9_find_136 rfl (lv_at hl 2 rfl) ?_
                  refine tpl (x' := lN (2 * n - cutF n)) (by rw [hlo]) ?_
                  refine m_put (ci := 9) (C := RX9) (T := TX9) (N := 18) (v := .long (lN (2 * n - cutF n))) hx hb hts in_X9 tyX9 tyX9_ok nmX9 hown hK hh hR rfl 15 (by decide) fl_71 (fun _ h => h) rfl (ty := tyX9 15) (by decide +kernel) (rfl) (rfl) (Nat.le_of_ble_eq_true rfl) dX9_find_137 (fun M1 H1 locs1 e1 hh => ?_)
                  have hfb := mu_kp e1 (mp_ne hfb hR (by simp)) hfb
                  have hR := mu_at e1
                  have hkp := hkp.put e1 (by simp)
                  have hR : M1 m0 = some (.inr (9, rL (va_up (va_up (va_up v 15 (.long (lN (idxF n)))) 16 (.int (bI (isLF n)))) 15 (.long (lN (2 * n - cutF n)))))) := hR
                  have hM := hh.1
                  exact hretv _ _ _ _ _ _ _ hh (⟨rfl, ⟨_, hR, by rw [va_up_self]; unfold idF; rw [hl0]; rfl, rfl, fun k h1 h2 => (va_up_ne _ _ h1).trans ((va_up_ne _ _ h2).trans (va_up_ne _ _ h1))⟩, hkp⟩) (by decide) (by decide) dX9_find_140 rfl
                · skip
                  have hlt : lo < hi := (ln_lt (by omega) (by omega)).mp c_91
                  obtain ⟨mi, hmi⟩ : ∃ mi, mi = lo + (hi - lo) / 2 := ⟨_, rfl⟩
                  have hmi1 : lo ≤ mi := by omega
                  have hmi2 : mi < hi := by omega
                  have hcm := cut_le (k := mi) (by omega)
                  refine lv_lload_n hx hb dX9_find_94 rfl (lv_at hl 2 rfl) ?_
                  refine lv_lload hx hb dX9_find_95 (lv_at hl 3 rfl) ?_
                  refine lv_lload_n hx hb dX9_find_97 rfl (lv_at hl 2 rfl) ?_
                  refine lv_lsub hx hb dX9_find_98 ?_
                  refine tpl (x' := lN (hi - lo)) (lN_sub (by omega)) ?_
                  refine lv_ldc2 hx hb hown cst_46 dX9_find_99 ?_
                  refine lv_ldiv hx hb dX9_find_102 (by decide) ?_
                  refine tpl (x' := lN (hi - lo) / lN 2) (by rw [l_2]) ?_
                  refine lv_ladd hx hb dX9_find_103 ?_
                  refine tpl (x' := lN mi) (by rw [mid_lN (by omega) (by omega), hmi]) ?_
                  refine lv_lstore (lv' := [(7, .long (lN mi)), (0, .ref m0), (1, .long (lN n)), (3, .long (lN lo)), (5, .long (lN hi))]) hx hb dX9_find_104 hl (by decide) rfl (fun ls hl => ?_)
                  refine lv_aload_n hx hb dX9_find_106 rfl (lv_at hl 1 rfl) ?_
                  refine lv_lload hx hb dX9_find_107 (lv_at hl 0 rfl) ?_
                  refine cpV (As := [.long (lN mi)]) (rest := []) (k_X9_lesser l D cA _ m0 (mi) ⟨_, fb, f, hR, (va_up_ne _ _ (by decide)).trans ((va_up_ne _ _ (by decide)).trans (hv0)), hfb, hf⟩ (by omega)) ⟨hx, hb, hml, hown, hts⟩ (cwV 1 hts gX9_find_X9_lesser rfl rfl rfl (by decide +kernel) ⟨by decide, by decide⟩) hK hM hR rfl rfl hl.1 rfl (Nat.le_of_ble_eq_true rfl) dX9_find_109 ⟨by decide, by decide⟩ ?_
                  refine lv_lload hx hb dX9_find_112 (lv_at hl 0 rfl) ?_
                  refine lv_ladd hx hb dX9_find_114 ?_
                  refine tpl (x' := lN (cutF mi + mi)) (lN_add _ _) ?_
                  refine lv_lload_n hx hb dX9_find_115 rfl (lv_at hl 2 rfl) ?_
                  refine bl_ge (tgt := 128) hx hb dX9_find_116 dX9_find_117 (by decide) (fun c_117 n_117 => ?_) (fun c_117 n_117 => ?_)
                  · skip
                    have hq : ¬ mi < 2 * n - cutF n := fun z => n_117 ((ln_lt (by omega) (by omega)).mpr ((idx_B hn (by omega)).mpr z))
                    refine lv_lload hx hb dX9_find_128 (lv_at hl 0 rfl) ?_
                    refine lv_lstore (lv' := [(5, .long (lN mi)), (7, .long (lN mi)), (0, .ref m0), (1, .long (lN n)), (3, .long (lN lo))]) hx hb dX9_find_130 hl (by decide) rfl (fun ls hl => ?_)
                    refine lv_goto (tgt := 87) hx hb dX9_find_132 (by decide) ?_
                    exact ih_87 lo mi _ _ _ _ h1 (by omega) (by omega) hh hkp hR hfb (by omega) (lv_sub hl [2, 3, 4, 0] rfl)
                  · skip
                    have hq : mi < 2 * n - cutF n := (idx_B hn (by omega)).mp ((ln_lt (by omega) (by omega)).mp c_117)
                    refine lv_lload hx hb dX9_find_120 (lv_at hl 0 rfl) ?_
                    refine lv_lconst (v := 1) hx hb dX9_find_122 (by decide) ?_
                    refine lv_ladd hx hb dX9_find_123 ?_
                    refine tpl (x' := lN (mi + 1)) (by rw [l_1]; exact lN_add _ _) ?_
                    refine lv_lstore_n (lv' := [(3, .long (lN (mi + 1))), (7, .long (lN mi)), (0, .ref m0), (1, .long (lN n)), (5, .long (lN hi))]) hx hb dX9_find_124 rfl hl (by decide) rfl (fun ls hl => ?_)
                    refine lv_goto (tgt := 132) hx hb dX9_find_125 (by decide) ?_
                    refine lv_goto (tgt := 87) hx hb dX9_find_132 (by decide) ?_
                    exact ih_87 (mi + 1) hi _ _ _ _ (by omega) h2 h3 hh hkp hR hfb (by omega) (lv_sub hl [2, 3, 0, 4] rfl)
            exact j_87 (n + 1) 0 n _ _ _ _ (Nat.zero_le _) (by have := cut_ge (k := n) (by omega); omega) (Nat.le_refl _) hh hkp hR hfb (by omega) (lv_sub hl [2, 3, 1, 0] rfl)
          · skip
            have hl1 := bI_ne0 c_78
            exact hretv _ _ _ _ _ _ _ hh (⟨rfl, ⟨_, hR, by unfold idF; rw [hl1]; rfl, rfl, fun k h1 h2 => (va_up_ne _ _ h2).trans (va_up_ne _ _ h1)⟩, hkp⟩) (by decide) (by decide) dX9_find_81 rfl
        · skip
          have hisl : isLF n = true := by unfold isLF; simp; exact (ln_eq (by omega) (by omega)).mp c_63
          refine lv_iconst (v := 1) hx hb dX9_find_66 (by decide) ?_
          refine tpi (x' := bI (isLF n)) (by rw [hisl]; rfl) ?_
          refine lv_goto (tgt := 71) hx hb dX9_find_67 (by decide) ?_
          refine m_put (ci := 9) (C := RX9) (T := TX9) (N := 18) (v := .int (bI (isLF n))) hx hb hts in_X9 tyX9 tyX9_ok nmX9 hown hK hh hR rfl 16 (by decide) fl_75 (fun _ h => h) rfl (ty := tyX9 16) (by decide +kernel) (bI_nar _) (by cases isLF n <;> rfl) (Nat.le_of_ble_eq_true rfl) dX9_find_71 (fun M1 H1 locs1 e1 hh => ?_)
          have hfb := mu_kp e1 (mp_ne hfb hR (by simp)) hfb
          have hR := mu_at e1
          have hkp := hkp.put e1 (by simp)
          have hR : M1 m0 = some (.inr (9, rL (va_up (va_up v 15 (.long (lN (idxF n)))) 16 (.int (bI (isLF n)))))) := hR
          have hM := hh.1
          refine lv_aload_n hx hb dX9_find_74 rfl (lv_at hl 0 rfl) ?_
          refine m_get (ci := 9) (C := RX9) (T := TX9) (N := 18) (v := (va_up (va_up v 15 (.long (lN (idxF n)))) 16 (.int (bI (isLF n)))) 16) hx hb hts in_X9 hown hK hM hR rfl 16 (by decide) fl_75 (fun _ h => h) rfl dX9_find_75 ?_
          refine tpv (va_up_self _ _ _) ?_
          refine bz_eq (tgt := 82) hx hb dX9_find_78 (by decide) (fun c_78 n_78 => ?_) (fun c_78 n_78 => ?_)
          · skip
            have hl0 := bI_eq0 c_78
            refine lv_lconst (v := 0) hx hb dX9_find_82 (by decide) ?_
            refine tpl (x' := lN 0) (l_0) ?_
            refine lv_lstore_n (lv' := [(3, .long (lN 0)), (0, .ref m0), (1, .long (lN n)), (5, .long (lN hi))]) hx hb dX9_find_83 rfl hl (by decide) rfl (fun ls hl => ?_)
            refine lv_lload_n hx hb dX9_find_84 rfl (lv_at hl 2 rfl) ?_
            refine lv_lstore (lv' := [(5, .long (lN n)), (3, .long (lN 0)), (0, .ref m0), (1, .long (lN n))]) hx hb dX9_find_85 hl (by decide) rfl (fun ls hl => ?_)
            have j_87 : ∀ (fu : Nat) (lo hi : Nat) (M1 : mp) (H : Heap) (locs : List Loc) (ls : Array Slot), (lo ≤ 2 * n - cutF n) → (2 * n - cutF n ≤ hi) → (hi ≤ n) → (hw D M s.heap M1 H locs) → (kpL M M1 [m0]) → (M1 m0 = some (.inr (9, rL (va_up (va_up v 15 (.long (lN (idxF n)))) 16 (.int (bI (isLF n))))))) → (M1 fb = some (.inl (cA 0, 64, .inr (.inl f)))) → (hi - lo < fu) → lv_has ls 9 [(0, .ref m0), (1, .long (lN n)), (3, .long (lN lo)), (5, .long (lN hi))] → W p l e ({ frames := 1, cells := 0, slots := 0, locals := 27 } : Room) s m args below meth c H locs 0 0 Q (F0 m 87 ls []) := by
              intro fu
              induction fu with
              | zero => intro lo hi M1 H locs ls h1 h2 h3 hh hkp hR hfb hm_87 _; exact absurd hm_87 (Nat.not_lt_zero _)
              | succ fu ih_87 =>
                intro lo hi M1 H locs ls h1 h2 h3 hh hkp hR hfb hm_87 hl
                have hM := hh.1
                refine lv_lload_n hx hb dX9_find_87 rfl (lv_at hl 2 rfl) ?_
                refine lv_lload hx hb dX9_find_88 (lv_at hl 3 rfl) ?_
                refine bl_ge (tgt := 135) hx hb dX9_find_90 dX9_find_91 (by decide) (fun c_91 n_91 => ?_) (fun c_91 n_91 => ?_)
                · skip
                  have hge : hi ≤ lo := (ln_le (by omega) (by omega)).mp c_91
                  have hlo : lo = 2 * n - cutF n := by omega
                  refine lv_aload_n hx hb dX9_find_135 rfl (lv_at hl 0 rfl) ?_
                  refine lv_lload_n hx hb dX9_find_136 rfl (lv_at hl 2 rfl) ?_
                  refine tpl (x' := lN (2 * n - cutF n)) (by rw [hlo]) ?_
                  refine m_put (ci := 9) (C := RX9) (T := TX9) (N := 18) (v := .long (lN (2 * n - cutF n))) hx hb hts in_X9 tyX9 tyX9_ok nmX9 hown hK hh hR rfl 15 (by decide) fl_71 (fun _ h => h) rfl (ty := tyX9 15) (by decide +kernel) (rfl) (rfl) (Nat.le_of_ble_eq_true rfl) dX9_find_137 (fun M1 H1 locs1 e1 hh => ?_)
                  have hfb := mu_kp e1 (mp_ne hfb hR (by simp)) hfb
                  have hR := mu_at e1
                  have hkp := hkp.put e1 (by simp)
                  have hR : M1 m0 = some (.inr (9, rL (va_up (va_up (va_up v 15 (.long (lN (idxF n)))) 16 (.int (bI (isLF n)))) 15 (.long (lN (2 * n - cutF n)))))) := hR
                  have hM := hh.1
                  exact hretv _ _ _ _ _ _ _ hh (⟨rfl, ⟨_, hR, by rw [va_up_self]; unfold idF; rw [hl0]; rfl, rfl, fun k h1 h2 => (va_up_ne _ _ h1).trans ((va_up_ne _ _ h2).trans (va_up_ne _ _ h1))⟩, hkp⟩) (by decide) (by decide) dX9_find_140 rfl
                · skip
                  have hlt : lo < hi := (ln_lt (by omega) (by omega)).mp c_91
                  obtain ⟨mi, hmi⟩ : ∃ mi, mi = lo + (hi - lo) / 2 := ⟨_, rfl⟩
                  have hmi1 : lo ≤ mi := by omega
                  have hmi2 : mi < hi := by omega
                  have hcm := cut_le (k := mi) (by omega)
                  refine lv_lload_n hx hb dX9_find_94 rfl (lv_at hl 2 rfl) ?_
                  refine lv_lload hx hb dX9_find_95 (lv_at hl 3 rfl) ?_
                  refine lv_lload_n hx hb dX9_find_97 rfl (lv_at hl 2 rfl) ?_
                  refine lv_lsub hx hb dX9_find_98 ?_
                  refine tpl (x' := lN (hi - lo)) (lN_sub (by omega)) ?_
                  refine lv_ldc2 hx hb hown cst_46 dX9_find_99 ?_
                  refine lv_ldiv hx hb dX9_find_102 (by decide) ?_
                  refine tpl (x' := lN (hi - lo) / lN 2) (by rw [l_2]) ?_
                  refine lv_ladd hx hb dX9_find_103 ?_
                  refine tpl (x' := lN mi) (by rw [mid_lN (by omega) (by omega), hmi]) ?_
                  refine lv_lstore (lv' := [(7, .long (lN mi)), (0, .ref m0), (1, .long (lN n)), (3, .long (lN lo)), (5, .long (lN hi))]) hx hb dX9_find_104 hl (by decide) rfl (fun ls hl => ?_)
                  refine lv_aload_n hx hb dX9_find_106 rfl (lv_at hl 1 rfl) ?_
                  refine lv_lload hx hb dX9_find_107 (lv_at hl 0 rfl) ?_
                  refine cpV (As := [.long (lN mi)]) (rest := []) (k_X9_lesser l D cA _ m0 (mi) ⟨_, fb, f, hR, (va_up_ne _ _ (by decide)).trans ((va_up_ne _ _ (by decide)).trans (hv0)), hfb, hf⟩ (by omega)) ⟨hx, hb, hml, hown, hts⟩ (cwV 1 hts gX9_find_X9_lesser rfl rfl rfl (by decide +kernel) ⟨by decide, by decide⟩) hK hM hR rfl rfl hl.1 rfl (Nat.le_of_ble_eq_true rfl) dX9_find_109 ⟨by decide, by decide⟩ ?_
                  refine lv_lload hx hb dX9_find_112 (lv_at hl 0 rfl) ?_
                  refine lv_ladd hx hb dX9_find_114 ?_
                  refine tpl (x' := lN (cutF mi + mi)) (lN_add _ _) ?_
                  refine lv_lload_n hx hb dX9_find_115 rfl (lv_at hl 2 rfl) ?_
                  refine bl_ge (tgt := 128) hx hb dX9_find_116 dX9_find_117 (by decide) (fun c_117 n_117 => ?_) (fun c_117 n_117 => ?_)
                  · skip
                    have hq : ¬ mi < 2 * n - cutF n := fun z => n_117 ((ln_lt (by omega) (by omega)).mpr ((idx_B hn (by omega)).mpr z))
                    refine lv_lload hx hb dX9_find_128 (lv_at hl 0 rfl) ?_
                    refine lv_lstore (lv' := [(5, .long (lN mi)), (7, .long (lN mi)), (0, .ref m0), (1, .long (lN n)), (3, .long (lN lo))]) hx hb dX9_find_130 hl (by decide) rfl (fun ls hl => ?_)
                    refine lv_goto (tgt := 87) hx hb dX9_find_132 (by decide) ?_
                    exact ih_87 lo mi _ _ _ _ h1 (by omega) (by omega) hh hkp hR hfb (by omega) (lv_sub hl [2, 3, 4, 0] rfl)
                  · skip
                    have hq : mi < 2 * n - cutF n := (idx_B hn (by omega)).mp ((ln_lt (by omega) (by omega)).mp c_117)
                    refine lv_lload hx hb dX9_find_120 (lv_at hl 0 rfl) ?_
                    refine lv_lconst (v := 1) hx hb dX9_find_122 (by decide) ?_
                    refine lv_ladd hx hb dX9_find_123 ?_
                    refine tpl (x' := lN (mi + 1)) (by rw [l_1]; exact lN_add _ _) ?_
                    refine lv_lstore_n (lv' := [(3, .long (lN (mi + 1))), (7, .long (lN mi)), (0, .ref m0), (1, .long (lN n)), (5, .long (lN hi))]) hx hb dX9_find_124 rfl hl (by decide) rfl (fun ls hl => ?_)
                    refine lv_goto (tgt := 132) hx hb dX9_find_125 (by decide) ?_
                    refine lv_goto (tgt := 87) hx hb dX9_find_132 (by decide) ?_
                    exact ih_87 (mi + 1) hi _ _ _ _ (by omega) h2 h3 hh hkp hR hfb (by omega) (lv_sub hl [2, 3, 0, 4] rfl)
            exact j_87 (n + 1) 0 n _ _ _ _ (Nat.zero_le _) (by have := cut_ge (k := n) (by omega); omega) (Nat.le_refl _) hh hkp hR hfb (by omega) (lv_sub hl [2, 3, 1, 0] rfl)
          · skip
            have hl1 := bI_ne0 c_78
            exact hretv _ _ _ _ _ _ _ hh (⟨rfl, ⟨_, hR, by unfold idF; rw [hl1]; rfl, rfl, fun k h1 h2 => (va_up_ne _ _ h2).trans (va_up_ne _ _ h1)⟩, hkp⟩) (by decide) (by decide) dX9_find_81 rfl
      · skip
        have hlt : lo < hi := (ln_lt (by omega) (by omega)).mp c_9
        obtain ⟨mi, hmi⟩ : ∃ mi, mi = lo + (hi - lo) / 2 := ⟨_, rfl⟩
        have hmi1 : lo ≤ mi := by omega
        have hmi2 : mi < hi := by omega
        have hcm := cut_le (k := mi) (by omega)
        refine lv_lload_n hx hb dX9_find_12 rfl (lv_at hl 2 rfl) ?_
        refine lv_lload hx hb dX9_find_13 (lv_at hl 3 rfl) ?_
        refine lv_lload_n hx hb dX9_find_15 rfl (lv_at hl 2 rfl) ?_
        refine lv_lsub hx hb dX9_find_16 ?_
        refine tpl (x' := lN (hi - lo)) (lN_sub (by omega)) ?_
        refine lv_ldc2 hx hb hown cst_46 dX9_find_17 ?_
        refine lv_ldiv hx hb dX9_find_20 (by decide) ?_
        refine tpl (x' := lN (hi - lo) / lN 2) (by rw [l_2]) ?_
        refine lv_ladd hx hb dX9_find_21 ?_
        refine tpl (x' := lN mi) (by rw [mid_lN (by omega) (by omega), hmi]) ?_
        refine lv_lstore (lv' := [(7, .long (lN mi)), (0, .ref m0), (1, .long (lN n)), (3, .long (lN lo)), (5, .long (lN hi))]) hx hb dX9_find_22 hl (by decide) rfl (fun ls hl => ?_)
        refine lv_aload_n hx hb dX9_find_24 rfl (lv_at hl 1 rfl) ?_
        refine lv_lload hx hb dX9_find_25 (lv_at hl 0 rfl) ?_
        refine cpV (As := [.long (lN mi)]) (rest := []) (k_X9_lesser l D cA _ m0 (mi) ⟨_, fb, f, hR, hv0, hfb, hf⟩ (by omega)) ⟨hx, hb, hml, hown, hts⟩ (cwV 1 hts gX9_find_X9_lesser rfl rfl rfl (by decide +kernel) ⟨by decide, by decide⟩) hK hM hR rfl rfl hl.1 rfl (Nat.le_of_ble_eq_true rfl) dX9_find_27 ⟨by decide, by decide⟩ ?_
        refine lv_lload_n hx hb dX9_find_30 rfl (lv_at hl 2 rfl) ?_
        refine bl_ge (tgt := 43) hx hb dX9_find_31 dX9_find_32 (by decide) (fun c_32 n_32 => ?_) (fun c_32 n_32 => ?_)
        · skip
          have hq : ¬ mi < idxF n := fun z => n_32 ((ln_lt (by omega) (by omega)).mpr ((idx_A hn (by omega)).mpr z))
          refine lv_lload hx hb dX9_find_43 (lv_at hl 0 rfl) ?_
          refine lv_lstore (lv' := [(5, .long (lN mi)), (7, .long (lN mi)), (0, .ref m0), (1, .long (lN n)), (3, .long (lN lo))]) hx hb dX9_find_45 hl (by decide) rfl (fun ls hl => ?_)
          refine lv_goto (tgt := 5) hx hb dX9_find_47 (by decide) ?_
          exact ih_5 lo mi _ _ _ _ h1 (by omega) (by omega) hh hkp hR hfb (by omega) (lv_sub hl [2, 3, 4, 0] rfl)
        · skip
          have hq : mi < idxF n := (idx_A hn (by omega)).mp ((ln_lt (by omega) (by omega)).mp c_32)
          refine lv_lload hx hb dX9_find_35 (lv_at hl 0 rfl) ?_
          refine lv_lconst (v := 1) hx hb dX9_find_37 (by decide) ?_
          refine lv_ladd hx hb dX9_find_38 ?_
          refine tpl (x' := lN (mi + 1)) (by rw [l_1]; exact lN_add _ _) ?_
          refine lv_lstore_n (lv' := [(3, .long (lN (mi + 1))), (7, .long (lN mi)), (0, .ref m0), (1, .long (lN n)), (5, .long (lN hi))]) hx hb dX9_find_39 rfl hl (by decide) rfl (fun ls hl => ?_)
          refine lv_goto (tgt := 47) hx hb dX9_find_40 (by decide) ?_
          refine lv_goto (tgt := 5) hx hb dX9_find_47 (by decide) ?_
          exact ih_5 (mi + 1) hi _ _ _ _ (by omega) h2 h3 hh hkp hR hfb (by omega) (lv_sub hl [2, 3, 0, 4] rfl)
  exact j_5 (n + 1) 0 n _ _ _ _ (Nat.zero_le _) (idx_le hn) (Nat.le_refl _) hh hkp hR hfb (by omega) (lv_sub hl [2, 3, 1, 0] rfl)
end
section
set_option maxHeartbeats 4000000 in
set_option maxRecDepth 100000 in
theorem k_X9_partner (l : Launch) (D : va_G) (cA : Nat → ClassId) (M : mp) (m0 : Nat) (v : Nat → Value) (fb : Nat) (f : Nat → Int64) (n : Nat) (hR : M m0 = some (.inr (9, rL v))) (hv0 : v 0 = .ref fb) (hfb : M fb = some (.inl (cA 0, 64, .inr (.inl f)))) (hf : ∀ j, j < 64 → f j = lN (fibN j)) (hn : n ≤ 1000000000000) : MC l D cA yX9_partner wsX9_partner 2 55 0 0 [.ref m0, .long (lN n)] M (fun r M' => r = some (.long (lN (prtF n))) ∧ (∃ v', M' m0 = some (.inr (9, rL v')) ∧ agr v v') ∧ kpL M M' [m0]) := by
  refine MC.of (cc := cX9_partner) (maxL := 3) (ret := (some .long)) (by decide) rfl (Nat.le_of_ble_eq_true rfl) ?_
  intro p e s m args below meth c Q ls B hh hl hretv hreti hretz hretl hreta
  obtain ⟨hx, hb, hown, hts, hml, hK, hin⟩ := B
  have hM := hh.1
  have hkp : kpL M M [m0] := kpL.rf M _
  have hown : s.vm.findClass RX9 = some m.cls := hown
  have hl : lv_has ls 3 [(0, .ref m0), (1, .long (lN n))] := hl
  have in_X9 : ∀ w ∈ wsX90, w ∈ wsX9_partner := by decide +kernel
  have fl_75 := hts (.fieldLink RX9 75 "GoldHeapsModel" "foundLesser" "Z") (by decide +kernel)
  have fl_71 := hts (.fieldLink RX9 71 "GoldHeapsModel" "foundK" "J") (by decide +kernel)
  have hpr := prt_ref hn
  refine lv_aload_n hx hb dX9_partner_0 rfl (lv_at hl 0 rfl) ?_
  refine lv_lload_n hx hb dX9_partner_1 rfl (lv_at hl 1 rfl) ?_
  refine cmV (As := [.long (lN n)]) (rest := []) (k_X9_find l D cA _ m0 v fb f n hR hv0 hfb hf hn) ⟨hx, hb, hml, hown, hts⟩ (cwV 1 hts gX9_partner_X9_find rfl rfl rfl (by decide +kernel) ⟨by decide, by decide⟩) hK hh hR rfl rfl hl.1 rfl (Nat.le_of_ble_eq_true rfl) dX9_partner_2 ⟨by decide, by decide⟩ (fun v9 M1 H1 locs1 hpost hh hz9 hk9 hn9 => ?_)
  obtain ⟨rfl, ⟨v1, hR1, hv15, hv16, hag⟩, hkc⟩ := hpost
  have hfb : M1 fb = some (.inl (cA 0, 64, .inr (.inl f))) := hkc.k1 hR hfb (by simp)
  have hR : M1 m0 = some (.inr (9, rL v1)) := hR1
  have hkp := hkp.call hkc (by simp)
  have hM := hh.1
  refine W.eq (g2 := F0 m 5 ls []) rfl ?_
  refine lv_aload_n hx hb dX9_partner_5 rfl (lv_at hl 0 rfl) ?_
  refine m_get (ci := 9) (C := RX9) (T := TX9) (N := 18) (v := v1 16) hx hb hts in_X9 hown hK hM hR rfl 16 (by decide) fl_75 (fun _ h => h) rfl dX9_partner_6 ?_
  refine tpv (hv16) ?_
  refine bz_eq (tgt := 21) hx hb dX9_partner_9 (by decide) (fun c_9 n_9 => ?_) (fun c_9 n_9 => ?_)
  · skip
    have hl0 := bI_eq0 c_9
    refine lv_lload_n hx hb dX9_partner_21 rfl (lv_at hl 1 rfl) ?_
    refine lv_aload_n hx hb dX9_partner_22 rfl (lv_at hl 0 rfl) ?_
    refine m_get (ci := 9) (C := RX9) (T := TX9) (N := 18) (v := v1 15) hx hb hts in_X9 hown hK hM hR rfl 15 (by decide) fl_71 (fun _ h => h) rfl dX9_partner_23 ?_
    refine tpv (hv15) ?_
    refine lv_lsub hx hb dX9_partner_26 ?_
    refine tpl (x' := lN (prtF n)) (by rw [lN_sub (hpr.2 hl0).2, (hpr.2 hl0).1]) ?_
    exact hretl _ _ _ _ _ _ _ _ hh (⟨rfl, ⟨v1, hR, hag⟩, hkp⟩) (by decide) (by decide) dX9_partner_27 rfl
  · skip
    have hl1 := bI_ne0 c_9
    refine lv_lload_n hx hb dX9_partner_12 rfl (lv_at hl 1 rfl) ?_
    refine lv_aload_n hx hb dX9_partner_13 rfl (lv_at hl 0 rfl) ?_
    refine m_get (ci := 9) (C := RX9) (T := TX9) (N := 18) (v := v1 15) hx hb hts in_X9 hown hK hM hR rfl 15 (by decide) fl_71 (fun _ h => h) rfl dX9_partner_14 ?_
    refine tpv (hv15) ?_
    refine lv_ladd hx hb dX9_partner_17 ?_
    refine tpl (x' := lN (prtF n)) (by rw [lN_add, hpr.1 hl1]) ?_
    refine lv_goto (tgt := 27) hx hb dX9_partner_18 (by decide) ?_
    exact hretl _ _ _ _ _ _ _ _ hh (⟨rfl, ⟨v1, hR, hag⟩, hkp⟩) (by decide) (by decide) dX9_partner_27 rfl
set_option maxHeartbeats 4000000 in
set_option maxRecDepth 100000 in
theorem k_X9_findRow (l : Launch) (D : va_G) (cA : Nat → ClassId) (M : mp) (m0 : Nat) (v : Nat → Value) (ra : Nat) (f0 : Nat → Int64) (t : Nat)  (hR : M m0 = some (.inr (9, rL v))) (hv1 : v 1 = .ref ra) (hrw : M ra = some (.inl (cA 0, 500, .inr (.inl f0)))) (ht1 : 1 ≤ t) (ht9 : t ≤ 9)  : MC l D cA yX9_findRow wsX9_findRow 0 0 0 0 [.ref m0, .int (nI t)] M (fun r M' => r = none ∧ (∃ v' f', M' m0 = some (.inr (9, rL v')) ∧ v' 2 = .int (nI (rsz t - 1)) ∧ (∀ k, k ≠ 2 → v' k = v k) ∧ M' ra = some (.inl (cA 0, 500, .inr (.inl f'))) ∧ ∀ j, j < rsz t - 1 → f' j = lN (rowN t j)) ∧ kpL M M' [m0, ra]) := by
  refine MC.of (cc := cX9_findRow) (maxL := 5) (ret := none) (by decide) rfl (Nat.le_of_ble_eq_true rfl) ?_
  intro p e s m args below meth c Q ls B hh hl hretv hreti hretz hretl hreta
  obtain ⟨hx, hb, hown, hts, hml, hK, hin⟩ := B
  have hM := hh.1
  have hkp : kpL M M [m0, ra] := kpL.rf M _
  have hown : s.vm.findClass RX9 = some m.cls := hown
  have hl : lv_has ls 5 [(0, .ref m0), (1, .int (nI t))] := hl
  have in_X9 : ∀ w ∈ wsX90, w ∈ wsX9_findRow := by decide +kernel
  have fl_13 := hts (.fieldLink RX9 13 "GoldHeapsModel" "row" "[J") (by decide +kernel)
  have fl_90 := hts (.fieldLink RX9 90 "GoldHeapsModel" "rowMany" "I") (by decide +kernel)
  have cst_48 := hts (.constantLong RX9 48 (1000000000000)) (by decide +kernel)
  obtain ⟨hz1, hz2, hz3, hz4, hz5⟩ := row_0 t (by omega) ht1
  refine lv_aload_n hx hb dX9_findRow_0 rfl (lv_at hl 0 rfl) ?_
  refine m_get (ci := 9) (C := RX9) (T := TX9) (N := 18) (v := v 1) hx hb hts in_X9 hown hK hM hR rfl 1 (by decide) fl_13 (fun _ h => h) rfl dX9_findRow_1 ?_
  refine tpv (hv1) ?_
  refine lv_iconst (v := 0) hx hb dX9_findRow_4 (by decide) ?_
  refine lv_lconst (v := 1) hx hb dX9_findRow_5 (by decide) ?_
  refine tpl (x' := lN (rowN t 0)) (by rw [hz1]; rfl) ?_
  refine m_lastN (k := 0) hx hb hK hh hrw (rfl) (by decide) (by decide) dX9_findRow_6 (fun M1 H1 locs1 e1 hh => ?_)
  have hR := mu_kp e1 (mp_ne hR hrw (by simp)) hR
  have hrw := mu_at e1
  have hkp := hkp.put e1 (by simp)
  have hrw : M1 ra = some (.inl (cA 0, 500, .inr (.inl (vp_updL f0 0 (lN (rowN t 0)))))) := hrw
  have hM := hh.1
  refine lv_aload_n hx hb dX9_findRow_7 rfl (lv_at hl 0 rfl) ?_
  refine lv_iconst (v := 1) hx hb dX9_findRow_8 (by decide) ?_
  refine tpi (x' := nI (0 + 1)) (rfl) ?_
  refine m_put (ci := 9) (C := RX9) (T := TX9) (N := 18) (v := .int (nI (0 + 1))) hx hb hts in_X9 tyX9 tyX9_ok nmX9 hown hK hh hR rfl 2 (by decide) fl_90 (fun _ h => h) rfl (ty := tyX9 2) (by decide +kernel) (rfl) (rfl) (Nat.le_of_ble_eq_true rfl) dX9_findRow_9 (fun M1 H1 locs1 e1 hh => ?_)
  have hrw := mu_kp e1 (mp_ne hrw hR (by simp)) hrw
  have hR := mu_at e1
  have hkp := hkp.put e1 (by simp)
  have hR : M1 m0 = some (.inr (9, rL (va_up v 2 (.int (nI (0 + 1)))))) := hR
  have hM := hh.1
  refine lv_iconst (v := 0) hx hb dX9_findRow_12 (by decide) ?_
  refine tpi (x' := nI 0) (rfl) ?_
  refine lv_istore_n (lv' := [(2, .int (nI 0)), (0, .ref m0), (1, .int (nI t))]) hx hb dX9_findRow_13 rfl hl (by decide) rfl (fun ls hl => ?_)
  refine lv_lconst (v := 1) hx hb dX9_findRow_14 (by decide) ?_
  refine tpl (x' := lN (rowN t 0)) (by rw [hz1]; rfl) ?_
  refine lv_lstore_n (lv' := [(3, .long (lN (rowN t 0))), (2, .int (nI 0)), (0, .ref m0), (1, .int (nI t))]) hx hb dX9_findRow_15 rfl hl (by decide) rfl (fun ls hl => ?_)
  have j_16 : ∀ (fu : Nat) (i mm : Nat) (fr : Nat → Int64) (w : Nat → Value) (M1 : mp) (H : Heap) (locs : List Loc) (ls : Array Slot), (i + 1 < rsz t) → (mm = ptrN t i ∨ (mm + 1 = ptrN t i ∧ t * rowN t mm < rowN t i)) → (∀ j, j ≤ i → fr j = lN (rowN t j)) → (w 2 = .int (nI (i + 1))) → (∀ k, k ≠ 2 → w k = v k) → (hw D M s.heap M1 H locs) → (kpL M M1 [m0, ra]) → (M1 m0 = some (.inr (9, rL w))) → (M1 ra = some (.inl (cA 0, 500, .inr (.inl fr)))) → (2 * (240 - i) + (ptrN t i - mm) < fu) → lv_has ls 5 [(0, .ref m0), (1, .int (nI t)), (2, .int (nI mm)), (3, .long (lN (rowN t i)))] → W p l e ({ frames := 0, cells := 0, slots := 0, locals := 0 } : Room) s m args below meth c H locs 0 0 Q (F0 m 16 ls []) := by
    intro fu
    induction fu with
    | zero => intro i mm fr w M1 H locs ls hi hm hfr hw2 hwo hh hkp hR hrw hm_16 _; exact absurd hm_16 (Nat.not_lt_zero _)
    | succ fu ih_16 =>
      intro i mm fr w M1 H locs ls hi hm hfr hw2 hwo hh hkp hR hrw hm_16 hl
      have hM := hh.1
      have hrs := row_s ht1 ht9 hi
      have hpm := row_pos ht1 ht9 (i := mm) (by omega)
      have hpi := row_pos ht1 ht9 (i := i) (by omega)
      have hmb : t * rowN t mm ≤ 9 * 2000000000000 := Nat.mul_le_mul ht9 hpm.2
      refine lv_iload_n hx hb dX9_findRow_16 rfl (lv_at hl 1 rfl) ?_
      refine lv_i2l hx hb dX9_findRow_17 rfl ?_
      refine tpl (x' := lN t) (nI_l (by omega)) ?_
      refine lv_aload_n hx hb dX9_findRow_18 rfl (lv_at hl 0 rfl) ?_
      refine m_get (ci := 9) (C := RX9) (T := TX9) (N := 18) (v := w 1) hx hb hts in_X9 hown hK hM hR rfl 1 (by decide) fl_13 (fun _ h => h) rfl dX9_findRow_19 ?_
      refine tpv ((hwo 1 (by decide)).trans hv1) ?_
      refine lv_iload_n hx hb dX9_findRow_22 rfl (lv_at hl 2 rfl) ?_
      refine m_laldN (k := mm) hx hb hK hM hrw (rfl) (by omega) (by decide) dX9_findRow_23 ?_
      refine tpl (x' := lN (rowN t mm)) (hfr mm (by omega)) ?_
      refine lv_lmul hx hb dX9_findRow_24 ?_
      refine tpl (x' := lN (t * rowN t mm)) (lN_mul _ _) ?_
      refine lv_lload_n hx hb dX9_findRow_25 rfl (lv_at hl 3 rfl) ?_
      refine bl_ge (tgt := 36) hx hb dX9_findRow_26 dX9_findRow_27 (by decide) (fun c_27 n_27 => ?_) (fun c_27 n_27 => ?_)
      · skip
        have hge : rowN t i ≤ t * rowN t mm := (ln_le (by omega) (by omega)).mp c_27
        have hm0 : mm = ptrN t i := by rcases hm with g | g; exact g; omega
        refine lv_lload_n hx hb dX9_findRow_36 rfl (lv_at hl 3 rfl) ?_
        refine lv_aload_n hx hb dX9_findRow_37 rfl (lv_at hl 0 rfl) ?_
        refine m_get (ci := 9) (C := RX9) (T := TX9) (N := 18) (v := w 1) hx hb hts in_X9 hown hK hM hR rfl 1 (by decide) fl_13 (fun _ h => h) rfl dX9_findRow_38 ?_
        refine tpv ((hwo 1 (by decide)).trans hv1) ?_
        refine lv_iload_n hx hb dX9_findRow_41 rfl (lv_at hl 2 rfl) ?_
        refine m_laldN (k := mm) hx hb hK hM hrw (rfl) (by omega) (by decide) dX9_findRow_42 ?_
        refine tpl (x' := lN (rowN t mm)) (hfr mm (by omega)) ?_
        refine lv_ladd hx hb dX9_findRow_43 ?_
        refine tpl (x' := lN (rowN t (i + 1))) (by rw [lN_add, hrs.1, hm0]) ?_
        refine lv_lstore_n (lv' := [(3, .long (lN (rowN t (i + 1)))), (0, .ref m0), (1, .int (nI t)), (2, .int (nI mm))]) hx hb dX9_findRow_44 rfl hl (by decide) rfl (fun ls hl => ?_)
        refine lv_lload_n hx hb dX9_findRow_45 rfl (lv_at hl 0 rfl) ?_
        refine lv_ldc2 hx hb hown cst_48 dX9_findRow_46 ?_
        refine tpl (x' := lN 1000000000000) (l12) ?_
        refine bl_le (tgt := 54) hx hb dX9_findRow_49 dX9_findRow_50 (by decide) (fun c_50 n_50 => ?_) (fun c_50 n_50 => ?_)
        · skip
          have hsm : rowN t (i + 1) ≤ 1000000000000 := (ln_le (by omega) (by omega)).mp c_50
          have hi2 : i + 1 + 1 < rsz t := by rcases Nat.lt_or_ge (i + 1 + 1) (rsz t) with g | g; exact g; (have e : i + 1 = rsz t - 1 := (by omega)); rw [e] at hsm; omega
          refine lv_aload_n hx hb dX9_findRow_54 rfl (lv_at hl 1 rfl) ?_
          refine m_get (ci := 9) (C := RX9) (T := TX9) (N := 18) (v := w 1) hx hb hts in_X9 hown hK hM hR rfl 1 (by decide) fl_13 (fun _ h => h) rfl dX9_findRow_55 ?_
          refine tpv ((hwo 1 (by decide)).trans hv1) ?_
          refine lv_aload_n hx hb dX9_findRow_58 rfl (lv_at hl 1 rfl) ?_
          refine m_get (ci := 9) (C := RX9) (T := TX9) (N := 18) (v := w 2) hx hb hts in_X9 hown hK hM hR rfl 2 (by decide) fl_90 (fun _ h => h) rfl dX9_findRow_59 ?_
          refine tpv (hw2) ?_
          refine lv_lload_n hx hb dX9_findRow_62 rfl (lv_at hl 0 rfl) ?_
          refine m_lastN (k := i + 1) hx hb hK hh hrw (rfl) (by omega) (by decide) dX9_findRow_63 (fun M1 H1 locs1 e1 hh => ?_)
          have hR := mu_kp e1 (mp_ne hR hrw (by simp)) hR
          have hrw := mu_at e1
          have hkp := hkp.put e1 (by simp)
          have hrw : M1 ra = some (.inl (cA 0, 500, .inr (.inl (vp_updL fr (i + 1) (lN (rowN t (i + 1))))))) := hrw
          have hM := hh.1
          refine lv_aload_n hx hb dX9_findRow_64 rfl (lv_at hl 1 rfl) ?_
          refine lv_dup hx hb dX9_findRow_65 rfl ?_
          refine m_get (ci := 9) (C := RX9) (T := TX9) (N := 18) (v := w 2) hx hb hts in_X9 hown hK hM hR rfl 2 (by decide) fl_90 (fun _ h => h) rfl dX9_findRow_66 ?_
          refine tpv (hw2) ?_
          refine lv_iconst (v := 1) hx hb dX9_findRow_69 (by decide) ?_
          refine lv_iadd hx hb dX9_findRow_70 ?_
          refine tpi (x' := nI (i + 1 + 1)) (nI_1 _) ?_
          refine m_put (ci := 9) (C := RX9) (T := TX9) (N := 18) (v := .int (nI (i + 1 + 1))) hx hb hts in_X9 tyX9 tyX9_ok nmX9 hown hK hh hR rfl 2 (by decide) fl_90 (fun _ h => h) rfl (ty := tyX9 2) (by decide +kernel) (rfl) (rfl) (Nat.le_of_ble_eq_true rfl) dX9_findRow_71 (fun M1 H1 locs1 e1 hh => ?_)
          have hrw := mu_kp e1 (mp_ne hrw hR (by simp)) hrw
          have hR := mu_at e1
          have hkp := hkp.put e1 (by simp)
          have hR : M1 m0 = some (.inr (9, rL (va_up w 2 (.int (nI (i + 1 + 1)))))) := hR
          have hM := hh.1
          refine lv_goto (tgt := 16) hx hb dX9_findRow_74 (by decide) ?_
          exact ih_16 (i + 1) mm ((vp_updL fr (i + 1) (lN (rowN t (i + 1))))) ((va_up w 2 (.int (nI (i + 1 + 1))))) _ _ _ _ hi2 (by rw [hm0]; rcases row_p ht1 ht9 (i := i) (by omega) with g | g; exact Or.inl g.symm; exact Or.inr ⟨g.1.symm, g.2⟩) (fun j hj => by by_cases e : j = i + 1; rw [e, pk_uLs]; rw [pk_uLn e]; exact hfr j (by omega)) (va_up_self _ _ _) (fun k hk => (va_up_ne _ _ hk).trans (hwo k hk)) hh hkp hR hrw (by rcases row_p ht1 ht9 (i := i) (by omega) with g | g <;> omega) (lv_sub hl [1, 2, 3, 0] rfl)
        · skip
          have hbg : 1000000000000 < rowN t (i + 1) := (ln_lt (by omega) (by omega)).mp c_50
          have hi2 : i + 1 = rsz t - 1 := by rcases Nat.lt_or_ge (i + 1 + 1) (rsz t) with g | g; (have := (row_s ht1 ht9 g).2.2.2.1; omega); omega
          exact hretv _ _ _ _ _ _ _ hh (⟨rfl, ⟨w, fr, hR, by rw [hw2, hi2], hwo, hrw, fun j hj => hfr j (by omega)⟩, hkp⟩) (by decide) (by decide) dX9_findRow_53 rfl
      · skip
        have hlt : t * rowN t mm < rowN t i := (ln_lt (by omega) (by omega)).mp c_27
        have hm1 : mm + 1 = ptrN t i ∧ True := by rcases hm with g | g; (rw [g] at hlt; omega); exact ⟨g.1, trivial⟩
        refine lv_iinc (v := nI (mm + 1)) (lv' := [(2, .int (nI (mm + 1))), (0, .ref m0), (1, .int (nI t)), (3, .long (lN (rowN t i)))]) hx hb dX9_findRow_30 hl (k := 2) rfl (nI_up mm) (by decide) rfl (fun ls hl => ?_)
        refine lv_goto (tgt := 16) hx hb dX9_findRow_33 (by decide) ?_
        exact ih_16 i (mm + 1) fr w _ _ _ _ hi (Or.inl hm1.1) hfr hw2 hwo hh hkp hR hrw (by omega) (lv_sub hl [1, 2, 0, 3] rfl)
  exact j_16 (600) 0 0 ((vp_updL f0 0 (lN (rowN t 0)))) ((va_up v 2 (.int (nI (0 + 1))))) _ _ _ _ (by omega) (Or.inl hz2.symm) (fun j hj => by rw [show j = 0 by omega, pk_uLs]) rfl (fun k hk => va_up_ne _ _ hk) hh hkp hR hrw (by omega) (lv_sub hl [2, 3, 1, 0] rfl)
set_option maxHeartbeats 4000000 in
set_option maxRecDepth 100000 in
theorem k_X9_lastOf (l : Launch) (D : va_G) (cA : Nat → ClassId) (M : mp) (m0 : Nat) (v : Nat → Value) (ra : Nat) (f0 : Nat → Int64) (t : Nat) (n : Nat) (hR : M m0 = some (.inr (9, rL v))) (hv1 : v 1 = .ref ra) (hrw : M ra = some (.inl (cA 0, 500, .inr (.inl f0)))) (ht1 : 1 ≤ t) (ht9 : t ≤ 9) (hn : n ≤ 1000000000000) : MC l D cA yX9_lastOf wsX9_lastOf 1 24 0 0 [.ref m0, .int (nI t), .long (lN n)] M (fun r M' => r = some (.long (lN (enF (rowN t) (rsz t - 1) n 0))) ∧ (∃ v' f', M' m0 = some (.inr (9, rL v')) ∧ v' 17 = .int (nI (cnF (rowN t) (rsz t - 1) n)) ∧ (∀ k, k ≠ 2 → k ≠ 17 → v' k = v k) ∧ M' ra = some (.inl (cA 0, 500, .inr (.inl f')))) ∧ kpL M M' [m0, ra]) := by
  refine MC.of (cc := cX9_lastOf) (maxL := 9) (ret := (some .long)) (by decide) rfl (Nat.le_of_ble_eq_true rfl) ?_
  intro p e s m args below meth c Q ls B hh hl hretv hreti hretz hretl hreta
  obtain ⟨hx, hb, hown, hts, hml, hK, hin⟩ := B
  have hM := hh.1
  have hkp : kpL M M [m0, ra] := kpL.rf M _
  have hown : s.vm.findClass RX9 = some m.cls := hown
  have hl : lv_has ls 9 [(0, .ref m0), (1, .int (nI t)), (2, .long (lN n))] := hl
  have in_X9 : ∀ w ∈ wsX90, w ∈ wsX9_lastOf := by decide +kernel
  have fl_103 := hts (.fieldLink RX9 103 "GoldHeapsModel" "digitMany" "I") (by decide +kernel)
  have fl_90 := hts (.fieldLink RX9 90 "GoldHeapsModel" "rowMany" "I") (by decide +kernel)
  have fl_13 := hts (.fieldLink RX9 13 "GoldHeapsModel" "row" "[J") (by decide +kernel)
  obtain ⟨hz1, hz2, hz3, hz4, hz5⟩ := row_0 t (by omega) ht1
  refine lv_aload_n hx hb dX9_lastOf_0 rfl (lv_at hl 0 rfl) ?_
  refine lv_iload_n hx hb dX9_lastOf_1 rfl (lv_at hl 1 rfl) ?_
  refine cmV (As := [.int (nI t)]) (rest := []) (k_X9_findRow l D cA _ m0 v ra f0 t hR hv1 hrw ht1 ht9) ⟨hx, hb, hml, hown, hts⟩ (cwV 1 hts gX9_lastOf_X9_findRow rfl rfl rfl (by decide +kernel) ⟨by decide, by decide⟩) hK hh hR rfl rfl hl.1 rfl (Nat.le_of_ble_eq_true rfl) dX9_lastOf_2 ⟨by decide, by decide⟩ (fun v9 M1 H1 locs1 hpost hh hz9 hk9 hn9 => ?_)
  obtain ⟨rfl, ⟨v1, f1, hR1, hv2, hvo, hrw1, hf1⟩, hkc⟩ := hpost
  have hR : M1 m0 = some (.inr (9, rL v1)) := hR1
  have hrw : M1 ra = some (.inl (cA 0, 500, .inr (.inl f1))) := hrw1
  have hkp := hkp.call hkc (by simp)
  have hM := hh.1
  refine W.eq (g2 := F0 m 5 ls []) rfl ?_
  refine lv_lload_n hx hb dX9_lastOf_5 rfl (lv_at hl 2 rfl) ?_
  refine lv_lstore (lv' := [(4, .long (lN n)), (0, .ref m0), (1, .int (nI t)), (2, .long (lN n))]) hx hb dX9_lastOf_6 hl (by decide) rfl (fun ls hl => ?_)
  refine lv_lconst (v := 0) hx hb dX9_lastOf_8 (by decide) ?_
  refine tpl (x' := lN 0) (l_0) ?_
  refine lv_lstore (lv' := [(6, .long (lN 0)), (4, .long (lN n)), (0, .ref m0), (1, .int (nI t)), (2, .long (lN n))]) hx hb dX9_lastOf_9 hl (by decide) rfl (fun ls hl => ?_)
  refine lv_aload_n hx hb dX9_lastOf_11 rfl (lv_at hl 2 rfl) ?_
  refine lv_iconst (v := 0) hx hb dX9_lastOf_12 (by decide) ?_
  refine tpi (x' := nI 0) (rfl) ?_
  refine m_put (ci := 9) (C := RX9) (T := TX9) (N := 18) (v := .int (nI 0)) hx hb hts in_X9 tyX9 tyX9_ok nmX9 hown hK hh hR rfl 17 (by decide) fl_103 (fun _ h => h) rfl (ty := tyX9 17) (by decide +kernel) (rfl) (rfl) (Nat.le_of_ble_eq_true rfl) dX9_lastOf_13 (fun M1 H1 locs1 e1 hh => ?_)
  have hrw := mu_kp e1 (mp_ne hrw hR (by simp)) hrw
  have hR := mu_at e1
  have hkp := hkp.put e1 (by simp)
  have hR : M1 m0 = some (.inr (9, rL (va_up v1 17 (.int (nI 0))))) := hR
  have hM := hh.1
  refine lv_aload_n hx hb dX9_lastOf_16 rfl (lv_at hl 2 rfl) ?_
  refine m_get (ci := 9) (C := RX9) (T := TX9) (N := 18) (v := (va_up v1 17 (.int (nI 0))) 2) hx hb hts in_X9 hown hK hM hR rfl 2 (by decide) fl_90 (fun _ h => h) rfl dX9_lastOf_17 ?_
  refine tpv ((va_up_ne _ _ (by decide)).trans (hv2)) ?_
  refine lv_iconst (v := 1) hx hb dX9_lastOf_20 (by decide) ?_
  refine lv_isub hx hb dX9_lastOf_21 ?_
  refine lv_istore (lv' := [(8, .int ((nI (rsz t - 1) - 1))), (6, .long (lN 0)), (4, .long (lN n)), (0, .ref m0), (1, .int (nI t)), (2, .long (lN n))]) hx hb dX9_lastOf_22 hl (by decide) rfl (fun ls hl => ?_)
  have j_24 : ∀ (fu : Nat) (k left x cn : Nat) (w : Nat → Value) (M1 : mp) (H : Heap) (locs : List Loc) (ls : Array Slot), (k ≤ rsz t - 1) → (left ≤ n) → (enF (rowN t) k left x = enF (rowN t) (rsz t - 1) n 0) → (cn + cnF (rowN t) k left = cnF (rowN t) (rsz t - 1) n) → (w 17 = .int (nI cn)) → (w 1 = .ref ra) → (∀ k, k ≠ 2 → k ≠ 17 → w k = v k) → (hw D M s.heap M1 H locs) → (kpL M M1 [m0, ra]) → (M1 m0 = some (.inr (9, rL w))) → (M1 ra = some (.inl (cA 0, 500, .inr (.inl f1)))) → (k < fu) → lv_has ls 9 [(0, .ref m0), (4, .long (lN left)), (6, .long (lN x)), (8, .int (nI k - 1))] → W p l e ({ frames := 1, cells := 0, slots := 0, locals := 24 } : Room) s m args below meth c H locs 0 0 Q (F0 m 24 ls []) := by
    intro fu
    induction fu with
    | zero => intro k left x cn w M1 H locs ls hk hle hs hc hw17 hw1 hwo hh hkp hR hrw hm_24 _; exact absurd hm_24 (Nat.not_lt_zero _)
    | succ fu ih_24 =>
      intro k left x cn w M1 H locs ls hk hle hs hc hw17 hw1 hwo hh hkp hR hrw hm_24 hl
      have hM := hh.1
      refine lv_iload hx hb dX9_lastOf_24 (lv_at hl 3 rfl) ?_
      refine bz_lt (tgt := 86) hx hb dX9_lastOf_26 (by decide) (fun c_26 n_26 => ?_) (fun c_26 n_26 => ?_)
      · skip
        have hk0 := nD_neg (by omega) c_26
        refine lv_lload hx hb dX9_lastOf_86 (lv_at hl 2 rfl) ?_
        exact hretl _ _ _ _ _ _ _ _ hh (⟨by subst hk0; exact congrArg (fun z => some (Value.long (lN z))) hs, ⟨w, f1, hR, by subst hk0; rw [hw17]; exact congrArg (fun z => Value.int (nI z)) hc, hwo, hrw⟩, hkp⟩) (by decide) (by decide) dX9_lastOf_88 rfl
      · skip
        obtain ⟨i, hi⟩ := nD_pos c_26
        have hpos := row_pos ht1 ht9 (i := i) (by omega)
        refine lv_lload hx hb dX9_lastOf_29 (lv_at hl 1 rfl) ?_
        refine lv_lconst (v := 0) hx hb dX9_lastOf_31 (by decide) ?_
        refine bl_le (tgt := 86) hx hb dX9_lastOf_32 dX9_lastOf_33 (by decide) (fun c_33 n_33 => ?_) (fun c_33 n_33 => ?_)
        · skip
          have hl0 : left = 0 := by have := (ln_le (by omega) (by decide)).mp (show lN left ≤ lN 0 by rw [← l_0]; exact c_33); omega
          have hall : ∀ j, j < k → 1 ≤ rowN t j := fun j hj => (row_pos ht1 ht9 (i := j) (by omega)).1
          refine lv_lload hx hb dX9_lastOf_86 (lv_at hl 2 rfl) ?_
          exact hretl _ _ _ _ _ _ _ _ hh (⟨by rw [hl0, enF_0 _ _ _ hall] at hs; rw [hs], ⟨w, f1, hR, by rw [hl0, cnF_0 _ _ hall] at hc; rw [hw17, ← hc]; rfl, hwo, hrw⟩, hkp⟩) (by decide) (by decide) dX9_lastOf_88 rfl
        · skip
          refine lv_aload_n hx hb dX9_lastOf_36 rfl (lv_at hl 0 rfl) ?_
          refine m_get (ci := 9) (C := RX9) (T := TX9) (N := 18) (v := w 1) hx hb hts in_X9 hown hK hM hR rfl 1 (by decide) fl_13 (fun _ h => h) rfl dX9_lastOf_37 ?_
          refine tpv (hw1) ?_
          refine lv_iload hx hb dX9_lastOf_40 (lv_at hl 3 rfl) ?_
          refine m_laldN (k := i) hx hb hK hM hrw (nD_at hi) (by omega) (by decide) dX9_lastOf_42 ?_
          refine tpl (x' := lN (rowN t i)) (hf1 i (by omega)) ?_
          refine lv_lload hx hb dX9_lastOf_43 (lv_at hl 1 rfl) ?_
          refine bl_gt (tgt := 80) hx hb dX9_lastOf_45 dX9_lastOf_46 (by decide) (fun c_46 n_46 => ?_) (fun c_46 n_46 => ?_)
          · skip
            have hlt : left < rowN t i := (ln_lt (by omega) (by omega)).mp c_46
            refine lv_iinc (v := nI i - 1) (lv' := [(8, .int (nI i - 1)), (0, .ref m0), (4, .long (lN left)), (6, .long (lN x))]) hx hb dX9_lastOf_80 hl (k := 3) rfl (nD_dec hi) (by decide) rfl (fun ls hl => ?_)
            refine lv_goto (tgt := 24) hx hb dX9_lastOf_83 (by decide) ?_
            exact ih_24 i left x cn w _ _ _ _ (by omega) hle (by rw [← hs, hi]; show enF _ i left x = (if rowN t i ≤ left then _ else _); rw [if_neg (by omega)]) (by rw [← hc, hi]; show cn + _ = cn + (if rowN t i ≤ left then _ else _); rw [if_neg (by omega)]) hw17 hw1 hwo hh hkp hR hrw (by omega) (lv_sub hl [1, 2, 3, 0] rfl)
          · skip
            have hge : rowN t i ≤ left := (ln_le (by omega) (by omega)).mp c_46
            refine lv_lload hx hb dX9_lastOf_49 (lv_at hl 1 rfl) ?_
            refine lv_aload_n hx hb dX9_lastOf_51 rfl (lv_at hl 0 rfl) ?_
            refine m_get (ci := 9) (C := RX9) (T := TX9) (N := 18) (v := w 1) hx hb hts in_X9 hown hK hM hR rfl 1 (by decide) fl_13 (fun _ h => h) rfl dX9_lastOf_52 ?_
            refine tpv (hw1) ?_
            refine lv_iload hx hb dX9_lastOf_55 (lv_at hl 3 rfl) ?_
            refine m_laldN (k := i) hx hb hK hM hrw (nD_at hi) (by omega) (by decide) dX9_lastOf_57 ?_
            refine tpl (x' := lN (rowN t i)) (hf1 i (by omega)) ?_
            refine lv_lsub hx hb dX9_lastOf_58 ?_
            refine tpl (x' := lN (left - rowN t i)) (lN_sub hge) ?_
            refine lv_lstore (lv' := [(4, .long (lN (left - rowN t i))), (0, .ref m0), (6, .long (lN x)), (8, .int (nI k - 1))]) hx hb dX9_lastOf_59 hl (by decide) rfl (fun ls hl => ?_)
            refine lv_aload_n hx hb dX9_lastOf_61 rfl (lv_at hl 1 rfl) ?_
            refine m_get (ci := 9) (C := RX9) (T := TX9) (N := 18) (v := w 1) hx hb hts in_X9 hown hK hM hR rfl 1 (by decide) fl_13 (fun _ h => h) rfl dX9_lastOf_62 ?_
            refine tpv (hw1) ?_
            refine lv_iload hx hb dX9_lastOf_65 (lv_at hl 3 rfl) ?_
            refine m_laldN (k := i) hx hb hK hM hrw (nD_at hi) (by omega) (by decide) dX9_lastOf_67 ?_
            refine tpl (x' := lN (rowN t i)) (hf1 i (by omega)) ?_
            refine lv_lstore (lv' := [(6, .long (lN (rowN t i))), (4, .long (lN (left - rowN t i))), (0, .ref m0), (8, .int (nI k - 1))]) hx hb dX9_lastOf_68 hl (by decide) rfl (fun ls hl => ?_)
            refine lv_aload_n hx hb dX9_lastOf_70 rfl (lv_at hl 2 rfl) ?_
            refine lv_dup hx hb dX9_lastOf_71 rfl ?_
            refine m_get (ci := 9) (C := RX9) (T := TX9) (N := 18) (v := w 17) hx hb hts in_X9 hown hK hM hR rfl 17 (by decide) fl_103 (fun _ h => h) rfl dX9_lastOf_72 ?_
            refine tpv (hw17) ?_
            refine lv_iconst (v := 1) hx hb dX9_lastOf_75 (by decide) ?_
            refine lv_iadd hx hb dX9_lastOf_76 ?_
            refine tpi (x' := nI (cn + 1)) (nI_1 _) ?_
            refine m_put (ci := 9) (C := RX9) (T := TX9) (N := 18) (v := .int (nI (cn + 1))) hx hb hts in_X9 tyX9 tyX9_ok nmX9 hown hK hh hR rfl 17 (by decide) fl_103 (fun _ h => h) rfl (ty := tyX9 17) (by decide +kernel) (rfl) (rfl) (Nat.le_of_ble_eq_true rfl) dX9_lastOf_77 (fun M1 H1 locs1 e1 hh => ?_)
            have hrw := mu_kp e1 (mp_ne hrw hR (by simp)) hrw
            have hR := mu_at e1
            have hkp := hkp.put e1 (by simp)
            have hR : M1 m0 = some (.inr (9, rL (va_up w 17 (.int (nI (cn + 1)))))) := hR
            have hM := hh.1
            refine lv_iinc (v := nI i - 1) (lv' := [(8, .int (nI i - 1)), (6, .long (lN (rowN t i))), (4, .long (lN (left - rowN t i))), (0, .ref m0)]) hx hb dX9_lastOf_80 hl (k := 3) rfl (nD_dec hi) (by decide) rfl (fun ls hl => ?_)
            refine lv_goto (tgt := 24) hx hb dX9_lastOf_83 (by decide) ?_
            exact ih_24 i (left - rowN t i) (rowN t i) (cn + 1) ((va_up w 17 (.int (nI (cn + 1))))) _ _ _ _ (by omega) (by omega) (by rw [← hs, hi]; show _ = (if rowN t i ≤ left then _ else _); rw [if_pos hge]) (by rw [← hc, hi]; show _ = cn + (if rowN t i ≤ left then _ else _); rw [if_pos hge]; omega) (va_up_self _ _ _) ((va_up_ne _ _ (by decide)).trans (hw1)) (fun k h1 h2 => (va_up_ne _ _ h2).trans (hwo k h1 h2)) hh hkp hR hrw (by omega) (lv_sub hl [3, 2, 1, 0] rfl)
  exact j_24 (rsz t) (rsz t - 1) n 0 0 ((va_up v1 17 (.int (nI 0)))) _ _ _ _ (Nat.le_refl _) (Nat.le_refl _) rfl (Nat.zero_add _) rfl ((va_up_ne _ _ (by decide)).trans ((hvo 1 (by decide)).trans hv1)) (fun k h1 h2 => (va_up_ne _ _ h2).trans (hvo k h1)) hh hkp hR hrw (by omega) (lv_sub hl [3, 2, 1, 0] rfl)
end
section
theorem hw.new0 {D : va_G} {M M1 : mp} {H0 H : Heap} {locs : List Loc} (h : hw D M H0 M1 H locs) (hM : mh D M H0) : M H.size = none := by
  cases hm : M H.size with
  | none => rfl
  | some e => exact absurd (hM.lt hm) (Nat.not_lt.mpr h.2.1)
theorem kpL.putN {M0 M M1 : mp} {L : List Nat} {a : Nat} {e : va_E} (h : kpL M0 M L) (e1 : M1 = mu M a e) (ha : M0 a = none) : kpL M0 M1 L := fun q x hq hn => mu_kp e1 (fun z => by rw [z, ha] at hq; cases hq) (h q x hq hn)
/-- cells that the class never writes once they are made -/
def imm (e : va_E) : Prop := match e with
  | .inr (c, _) => c ≠ 4 ∧ c ≠ 9
  | .inl (_, n, .inr (.inl _)) => n = 240 ∨ n = 61 ∨ n = 121
  | _ => False
def kpI (M M' : mp) : Prop := ∀ (q : Nat) (e : va_E), M q = some e → imm e → M' q = some e
theorem kpI.rf (M : mp) : kpI M M := fun _ _ h _ => h
theorem kpI.tr {M M1 M2 : mp} (h : kpI M M1) (h2 : kpI M1 M2) : kpI M M2 := fun q e hq hi => h2 q e (h q e hq hi) hi
theorem kpI.of0 {M M1 : mp} (h : kpL M M1 []) : kpI M M1 := fun q e hq _ => h q e hq (by simp)
theorem kpI.of1 {M M1 : mp} {a : Nat} {x : va_E} (h : kpL M M1 [a]) (ha : M a = some x) (hx : ¬ imm x) : kpI M M1 := fun q e hq hi => h q e hq (ni1 (fun z => by subst z; rw [ha] at hq; cases hq; exact hx hi))
theorem kpI.of2 {M M1 : mp} {a b : Nat} {x y : va_E} (h : kpL M M1 [a, b]) (ha : M a = some x) (hx : ¬ imm x) (hb : M b = some y) (hy : ¬ imm y) : kpI M M1 := fun q e hq hi => h q e hq (ni2 (fun z => by subst z; rw [ha] at hq; cases hq; exact hx hi) (fun z => by subst z; rw [hb] at hq; cases hq; exact hy hi))
theorem sumW.kp {cA : Nat → ClassId} {M M' : mp} {t h0 : Nat} (h : sumW cA M t h0) (hk : kpI M M') : sumW cA M' t h0 := by
  obtain ⟨n0, f, h1, h2, h3⟩ := h
  exact ⟨n0, f, hk _ _ h1 ⟨by decide, by decide⟩, hk _ _ h2 (Or.inl rfl), h3⟩
theorem goldW.kp {cA : Nat → ClassId} {M M' : mp} {go : Nat} (h : goldW cA M go) (hk : kpI M M') : goldW cA M' go := by
  obtain ⟨s2, n0, f, h0, h1, h2, h3⟩ := h
  exact ⟨s2, n0, f, hk _ _ h0 ⟨by decide, by decide⟩, hk _ _ h1 ⟨by decide, by decide⟩, hk _ _ h2 (Or.inl rfl), h3⟩
theorem judW.kp {cA : Nat → ClassId} {M M' : mp} {J TG GO SG BG TM : Nat} (h : judW cA M J TG GO SG BG TM) (hk : kpI M M') : judW cA M' J TG GO SG BG TM := by
  obtain ⟨h1, h2, h3, h4⟩ := h
  exact ⟨hk _ _ h1 ⟨by decide, by decide⟩, hk _ _ h2 ⟨by decide, by decide⟩, hk _ _ h3 ⟨by decide, by decide⟩, h4.kp hk⟩
/-- the sums that were made, by the array SM of TimesGame -/
def smW (cA : Nat → ClassId) (M : mp) (SM : Nat) : Prop := ∃ fs : Nat → Option Nat, M SM = some (.inl (cA 3, 10, .inr (.inr (.inr (.inr fs))))) ∧ ∀ t a, 1 ≤ t → t ≤ 9 → fs t = some a → sumW cA M t a
theorem smW.kp {cA : Nat → ClassId} {M M' : mp} {SM : Nat} (h : smW cA M SM) (hk : kpI M M') (hs : ∀ e, M SM = some e → M' SM = some e) : smW cA M' SM := by
  obtain ⟨fs, h1, h2⟩ := h
  exact ⟨fs, hs _ h1, fun t a h3 h4 h5 => (h2 t a h3 h4 h5).kp hk⟩
theorem cellJ0 (n : Nat) : ∀ cA : ClassId, vp_cell cA (n, .inr (.inl (fun _ => (0 : Int64)))) = arrV cA n (fun _ => defaultValue .long) := fun _ => rfl
theorem cellI0 (n : Nat) : ∀ cA : ClassId, vp_cell cA (n, .inl (fun _ => (0 : Int32))) = arrV cA n (fun _ => defaultValue .int) := fun _ => rfl
theorem cellZ0 (n : Nat) : ∀ cA : ClassId, vp_cell cA (n, .inl (fun _ => (0 : Int32))) = arrV cA n (fun _ => defaultValue .boolean) := fun _ => rfl
end
section
set_option maxHeartbeats 1000000 in
set_option maxRecDepth 100000 in
theorem k_X6_init (l : Launch) (D : va_G) (cA : Nat → ClassId) (M : mp) (h0 t : Nat) (hS : M h0 = some (.inr (6, [.null, .int 0]))) (ht1 : 1 ≤ t) (ht9 : t ≤ 9) : MC l D cA yX6_init wsX6_init 1 20 1 240 [.ref h0, .int (nI t)] M (fun r M' => r = none ∧ sumW cA M' t h0 ∧ kpL M M' [h0]) := by
  refine MC.of (cc := cX6_init) (maxL := 6) (ret := none) (by decide) rfl (Nat.le_of_ble_eq_true rfl) ?_
  intro p e s m args below meth c Q ls B hh hl hretv hreti hretz hretl hreta
  obtain ⟨hx, hb, hown, hts, hml, hK, hin⟩ := B
  have hM := hh.1
  have hM_0 := hh.1
  have hkp : kpL M M [h0] := kpL.rf M _
  have hown : s.vm.findClass RX6 = some m.cls := hown
  have hl : lv_has ls 6 [(0, .ref h0), (1, .int (nI t))] := hl
  have ob_l := hts (.methodLink RX6 3 objectInit) (by decide +kernel)
  have ob_i := hts (.instanceMethod objectInit) (by decide +kernel)
  have ob_c := hts (.code objectInit ⟨#[0xb1]⟩ 1 none) (by decide +kernel)
  have ac_long := hts (.arrayClass .long) (by decide +kernel)
  have in_X6 : ∀ w ∈ wsX60, w ∈ wsX6_init := by decide +kernel
  have fl_11 := hts (.fieldLink RX6 11 "GoldHeaps$Sums" "numbers" "[J") (by decide +kernel)
  have cst_15 := hts (.constantLong RX6 15 (1000000000000)) (by decide +kernel)
  have fl_17 := hts (.fieldLink RX6 17 "GoldHeaps$Sums" "size" "I") (by decide +kernel)
  obtain ⟨hz1, hz2, hz3, hz4, hz5⟩ := row_0 t (by omega) ht1
  refine lv_aload_n hx hb dX6_init_0 rfl (lv_at hl 0 rfl) ?_
  refine W.objInit hx hb hown ob_l ob_i ob_c rfl (by rw [hml]; exact hl.1) rfl dX6_init_1 (Nat.le_of_ble_eq_true rfl) (Nat.le_of_ble_eq_true rfl) ?_
  refine W.eq (g2 := F0 m 4 ls []) rfl ?_
  refine lv_aload_n hx hb dX6_init_4 rfl (lv_at hl 0 rfl) ?_
  refine lv_sipush (v := 240) hx hb dX6_init_5 (by decide) ?_
  have hho := hh
  refine m_newa 0 rfl (atype := .long) hx hb (ty := .long) ac_long rfl hK hh (N' := 240) (a0 := (240, (.inr (.inl (fun _ => (0 : Int64)))))) (cellJ0 240) (by decide +kernel) (by decide +kernel) (by decide +kernel) (Nat.le_of_ble_eq_true rfl) (Nat.le_of_ble_eq_true rfl) dX6_init_8 (fun n0 M1 H1 hq e1 hh => ?_)
  have hkp := hkp.new hM hq e1
  have hf_n0 : M n0 = none := by rw [hq]; exact hho.new0 hM_0
  have hS := mu_kp e1 (by rw [hq]; exact hM.ne hS) hS
  have hN := mu_at e1
  have hN : M1 n0 = some (.inl (cA 0, 240, .inr (.inl (fun _ => (0 : Int64))))) := hN
  have hM := hh.1
  refine W.widen (k := 1) (n := 240) (by decide) (by decide) ?_
  refine m_putF (ci := 6) (C := RX6) (T := TX6) (N := 2) (v := .ref n0) hx hb hts in_X6 tyX6 tyX6_ok nmX6 hown hK hh hS rfl 0 (by decide) fl_11 (fun _ h => h) rfl hin rfl (ty := tyX6 0) (by decide +kernel) (rfl) (rfl) (Nat.le_of_ble_eq_true rfl) dX6_init_10 (fun M1 H1 locs1 e1 hh => ?_)
  have hN := mu_kp e1 (mp_ne hN hS (by simp)) hN
  have hS := mu_at e1
  have hkp := hkp.put e1 (by simp)
  have hS : M1 h0 = some (.inr (6, [.ref n0, .int 0])) := hS
  have hM := hh.1
  refine lv_aload_n hx hb dX6_init_13 rfl (lv_at hl 0 rfl) ?_
  refine m_get (ci := 6) (C := RX6) (T := TX6) (N := 2) (v := .ref n0) hx hb hts in_X6 hown hK hM hS rfl 0 (by decide) fl_11 (fun _ h => h) rfl dX6_init_14 ?_
  refine lv_iconst (v := 0) hx hb dX6_init_17 (by decide) ?_
  refine lv_lconst (v := 1) hx hb dX6_init_18 (by decide) ?_
  refine tpl (x' := lN (rowN t 0)) (by rw [hz1]; rfl) ?_
  refine m_lastN (k := 0) hx hb hK hh hN (rfl) (by decide) (by decide) dX6_init_19 (fun M1 H1 locs1 e1 hh => ?_)
  have hS := mu_kp e1 (mp_ne hS hN (by simp)) hS
  have hN := mu_at e1
  have hkp := hkp.putN e1 hf_n0
  have hN : M1 n0 = some (.inl (cA 0, 240, .inr (.inl (vp_updL (fun _ => (0 : Int64)) 0 (lN (rowN t 0)))))) := hN
  have hM := hh.1
  refine lv_iconst (v := 1) hx hb dX6_init_20 (by decide) ?_
  refine tpi (x' := nI (0 + 1)) (rfl) ?_
  refine lv_istore_n (lv' := [(2, .int (nI (0 + 1))), (0, .ref h0), (1, .int (nI t))]) hx hb dX6_init_21 rfl hl (by decide) rfl (fun ls hl => ?_)
  refine lv_iconst (v := 0) hx hb dX6_init_22 (by decide) ?_
  refine tpi (x' := nI 0) (rfl) ?_
  refine lv_istore_n (lv' := [(3, .int (nI 0)), (2, .int (nI (0 + 1))), (0, .ref h0), (1, .int (nI t))]) hx hb dX6_init_23 rfl hl (by decide) rfl (fun ls hl => ?_)
  have j_24 : ∀ (fu : Nat) (i mm : Nat) (fr : Nat → Int64) (M1 : mp) (H : Heap) (locs : List Loc) (ls : Array Slot), (i < rsz t) → (mm ≤ i) → (i + 1 < rsz t → mm = ptrN t i ∨ (mm + 1 = ptrN t i ∧ t * rowN t mm < rowN t i)) → (∀ j, j ≤ i → fr j = lN (rowN t j)) → (hw D M s.heap M1 H locs) → (kpL M M1 [h0]) → (M1 h0 = some (.inr (6, [.ref n0, .int 0]))) → (M1 n0 = some (.inl (cA 0, 240, .inr (.inl fr)))) → (240 - i < fu) → lv_has ls 6 [(0, .ref h0), (1, .int (nI t)), (2, .int (nI (i + 1))), (3, .int (nI mm))] → W p l e ({ frames := 1, cells := 1, slots := 240, locals := 20 } : Room) s m args below meth c H locs 1 240 Q (F0 m 24 ls []) := by
    intro fu
    induction fu with
    | zero => intro i mm fr M1 H locs ls hi hmi hm hfr hh hkp hS hN hm_24 _; exact absurd hm_24 (Nat.not_lt_zero _)
    | succ fu ih_24 =>
      intro i mm fr M1 H locs ls hi hmi hm hfr hh hkp hS hN hm_24 hl
      have hM := hh.1
      have hpi := row_pos ht1 ht9 (i := i) (by omega)
      refine lv_iload_n hx hb dX6_init_24 rfl (lv_at hl 2 rfl) ?_
      refine lv_sipush (v := 240) hx hb dX6_init_25 (by decide) ?_
      refine bi_ge (tgt := 105) hx hb dX6_init_28 (by decide) (fun c_28 n_28 => ?_) (fun c_28 n_28 => ?_)
      · exact absurd ((nI_leI (a := 240) (b := i + 1) (by decide) (by omega)).mp c_28) (by omega)
      · skip
        refine lv_aload_n hx hb dX6_init_31 rfl (lv_at hl 0 rfl) ?_
        refine m_get (ci := 6) (C := RX6) (T := TX6) (N := 2) (v := .ref n0) hx hb hts in_X6 hown hK hM hS rfl 0 (by decide) fl_11 (fun _ h => h) rfl dX6_init_32 ?_
        refine lv_iload_n hx hb dX6_init_35 rfl (lv_at hl 2 rfl) ?_
        refine lv_iconst (v := 1) hx hb dX6_init_36 (by decide) ?_
        refine lv_isub hx hb dX6_init_37 ?_
        refine m_laldN (k := i) hx hb hK hM hN (nD_succ i) (by omega) (by decide) dX6_init_38 ?_
        refine tpl (x' := lN (rowN t i)) (hfr i (Nat.le_refl _)) ?_
        refine lv_ldc2 hx hb hown cst_15 dX6_init_39 ?_
        refine tpl (x' := lN 1000000000000) (l12) ?_
        refine bl_gt (tgt := 105) hx hb dX6_init_42 dX6_init_43 (by decide) (fun c_43 n_43 => ?_) (fun c_43 n_43 => ?_)
        · skip
          have hbg : 1000000000000 < rowN t i := (ln_lt (by omega) (by omega)).mp c_43
          have hi2 : ¬ i + 1 < rsz t := fun g => by have := (row_s ht1 ht9 g).2.2.2.1; omega
          refine lv_aload_n hx hb dX6_init_105 rfl (lv_at hl 0 rfl) ?_
          refine lv_iload_n hx hb dX6_init_106 rfl (lv_at hl 2 rfl) ?_
          refine tpi (x' := nI (rsz t)) (by rw [show rsz t = i + 1 by omega]) ?_
          refine m_putF (ci := 6) (C := RX6) (T := TX6) (N := 2) (v := .int (nI (rsz t))) hx hb hts in_X6 tyX6 tyX6_ok nmX6 hown hK hh hS rfl 1 (by decide) fl_17 (fun _ h => h) rfl hin rfl (ty := tyX6 1) (by decide +kernel) (rfl) (rfl) (Nat.le_of_ble_eq_true rfl) dX6_init_107 (fun M1 H1 locs1 e1 hh => ?_)
          have hN := mu_kp e1 (mp_ne hN hS (by simp)) hN
          have hS := mu_at e1
          have hkp := hkp.put e1 (by simp)
          have hS : M1 h0 = some (.inr (6, [.ref n0, .int (nI (rsz t))])) := hS
          have hM := hh.1
          exact hretv _ _ _ _ _ _ _ hh (⟨rfl, ⟨n0, fr, hS, hN, fun j hj => hfr j (by omega)⟩, hkp⟩) (by decide) (by decide) dX6_init_110 rfl
        · skip
          have hsm : rowN t i ≤ 1000000000000 := (ln_le (by omega) (by omega)).mp c_43
          have hi2 : i + 1 < rsz t := by rcases Nat.lt_or_ge (i + 1) (rsz t) with g | g; exact g; (have e : i = rsz t - 1 := (by omega)); rw [e] at hsm; omega
          have hrs := row_s ht1 ht9 hi2
          refine lv_aload_n hx hb dX6_init_46 rfl (lv_at hl 0 rfl) ?_
          refine m_get (ci := 6) (C := RX6) (T := TX6) (N := 2) (v := .ref n0) hx hb hts in_X6 hown hK hM hS rfl 0 (by decide) fl_11 (fun _ h => h) rfl dX6_init_47 ?_
          refine lv_iload_n hx hb dX6_init_50 rfl (lv_at hl 2 rfl) ?_
          refine lv_iconst (v := 1) hx hb dX6_init_51 (by decide) ?_
          refine lv_isub hx hb dX6_init_52 ?_
          refine m_laldN (k := i) hx hb hK hM hN (nD_succ i) (by omega) (by decide) dX6_init_53 ?_
          refine tpl (x' := lN (rowN t i)) (hfr i (Nat.le_refl _)) ?_
          refine lv_lstore (lv' := [(4, .long (lN (rowN t i))), (0, .ref h0), (1, .int (nI t)), (2, .int (nI (i + 1))), (3, .int (nI mm))]) hx hb dX6_init_54 hl (by decide) rfl (fun ls hl => ?_)
          have j_56 : ∀ (fu : Nat) (mm : Nat) (ls : Array Slot), (mm ≤ i) → (mm = ptrN t i ∨ (mm + 1 = ptrN t i ∧ t * rowN t mm < rowN t i)) → (ptrN t i - mm < fu) → lv_has ls 6 [(0, .ref h0), (1, .int (nI t)), (2, .int (nI (i + 1))), (3, .int (nI mm)), (4, .long (lN (rowN t i)))] → W p l e ({ frames := 1, cells := 1, slots := 240, locals := 20 } : Room) s m args below meth c H locs 1 240 Q (F0 m 56 ls []) := by
            intro fu
            induction fu with
            | zero => intro mm ls hmi hm hm_56 _; exact absurd hm_56 (Nat.not_lt_zero _)
            | succ fu ih_56 =>
              intro mm ls hmi hm hm_56 hl
              have hpm := row_pos ht1 ht9 (i := mm) (by omega)
              have hmb : t * rowN t mm ≤ 9 * 2000000000000 := Nat.mul_le_mul ht9 hpm.2
              refine lv_iload_n hx hb dX6_init_56 rfl (lv_at hl 3 rfl) ?_
              refine lv_iload_n hx hb dX6_init_57 rfl (lv_at hl 2 rfl) ?_
              refine lv_iconst (v := 1) hx hb dX6_init_58 (by decide) ?_
              refine lv_isub hx hb dX6_init_59 ?_
              refine tpi (x' := nI i) (nD_succ i) ?_
              refine bi_ge (tgt := 84) hx hb dX6_init_60 (by decide) (fun c_60 n_60 => ?_) (fun c_60 n_60 => ?_)
              · skip
                have hmm : i ≤ mm := (nI_leI (by omega) (by omega)).mp c_60
                have hm0 : mm = ptrN t i := by rcases hm with g | g; exact g; omega
                refine lv_aload_n hx hb dX6_init_84 rfl (lv_at hl 0 rfl) ?_
                refine m_get (ci := 6) (C := RX6) (T := TX6) (N := 2) (v := .ref n0) hx hb hts in_X6 hown hK hM hS rfl 0 (by decide) fl_11 (fun _ h => h) rfl dX6_init_85 ?_
                refine lv_iload_n hx hb dX6_init_88 rfl (lv_at hl 2 rfl) ?_
                refine lv_lload hx hb dX6_init_89 (lv_at hl 4 rfl) ?_
                refine lv_aload_n hx hb dX6_init_91 rfl (lv_at hl 0 rfl) ?_
                refine m_get (ci := 6) (C := RX6) (T := TX6) (N := 2) (v := .ref n0) hx hb hts in_X6 hown hK hM hS rfl 0 (by decide) fl_11 (fun _ h => h) rfl dX6_init_92 ?_
                refine lv_iload_n hx hb dX6_init_95 rfl (lv_at hl 3 rfl) ?_
                refine m_laldN (k := mm) hx hb hK hM hN (rfl) (by omega) (by decide) dX6_init_96 ?_
                refine tpl (x' := lN (rowN t mm)) (hfr mm (by omega)) ?_
                refine lv_ladd hx hb dX6_init_97 ?_
                refine tpl (x' := lN (rowN t (i + 1))) (by rw [lN_add, hrs.1, hm0]) ?_
                refine m_lastN (k := i + 1) hx hb hK hh hN (rfl) (by omega) (by decide) dX6_init_98 (fun M1 H1 locs1 e1 hh => ?_)
                have hS := mu_kp e1 (mp_ne hS hN (by simp)) hS
                have hN := mu_at e1
                have hkp := hkp.putN e1 hf_n0
                have hN : M1 n0 = some (.inl (cA 0, 240, .inr (.inl (vp_updL fr (i + 1) (lN (rowN t (i + 1))))))) := hN
                have hM := hh.1
                refine lv_iinc (v := nI (i + 1 + 1)) (lv' := [(2, .int (nI (i + 1 + 1))), (0, .ref h0), (1, .int (nI t)), (3, .int (nI mm)), (4, .long (lN (rowN t i)))]) hx hb dX6_init_99 hl (k := 2) rfl (nI_up _) (by decide) rfl (fun ls hl => ?_)
                refine lv_goto (tgt := 24) hx hb dX6_init_102 (by decide) ?_
                exact ih_24 (i + 1) mm ((vp_updL fr (i + 1) (lN (rowN t (i + 1))))) _ _ _ _ hi2 (by omega) (fun h3 => by rw [hm0]; rcases row_p ht1 ht9 (i := i) (by omega) with g | g; exact Or.inl g.symm; exact Or.inr ⟨g.1.symm, g.2⟩) (fun j hj => by by_cases e : j = i + 1; rw [e, pk_uLs]; rw [pk_uLn e]; exact hfr j (by omega)) hh hkp hS hN (by omega) (lv_sub hl [1, 2, 0, 3] rfl)
              · skip
                have hmm : mm < i := (nI_ltI (by omega) (by omega)).mp c_60
                refine lv_iload_n hx hb dX6_init_63 rfl (lv_at hl 1 rfl) ?_
                refine lv_i2l hx hb dX6_init_64 rfl ?_
                refine tpl (x' := lN t) (nI_l (by omega)) ?_
                refine lv_aload_n hx hb dX6_init_65 rfl (lv_at hl 0 rfl) ?_
                refine m_get (ci := 6) (C := RX6) (T := TX6) (N := 2) (v := .ref n0) hx hb hts in_X6 hown hK hM hS rfl 0 (by decide) fl_11 (fun _ h => h) rfl dX6_init_66 ?_
                refine lv_iload_n hx hb dX6_init_69 rfl (lv_at hl 3 rfl) ?_
                refine m_laldN (k := mm) hx hb hK hM hN (rfl) (by omega) (by decide) dX6_init_70 ?_
                refine tpl (x' := lN (rowN t mm)) (hfr mm (by omega)) ?_
                refine lv_lmul hx hb dX6_init_71 ?_
                refine tpl (x' := lN (t * rowN t mm)) (lN_mul _ _) ?_
                refine lv_lload hx hb dX6_init_72 (lv_at hl 4 rfl) ?_
                refine bl_ge (tgt := 84) hx hb dX6_init_74 dX6_init_75 (by decide) (fun c_75 n_75 => ?_) (fun c_75 n_75 => ?_)
                · skip
                  have hge : rowN t i ≤ t * rowN t mm := (ln_le (by omega) (by omega)).mp c_75
                  have hm0 : mm = ptrN t i := by rcases hm with g | g; exact g; omega
                  refine lv_aload_n hx hb dX6_init_84 rfl (lv_at hl 0 rfl) ?_
                  refine m_get (ci := 6) (C := RX6) (T := TX6) (N := 2) (v := .ref n0) hx hb hts in_X6 hown hK hM hS rfl 0 (by decide) fl_11 (fun _ h => h) rfl dX6_init_85 ?_
                  refine lv_iload_n hx hb dX6_init_88 rfl (lv_at hl 2 rfl) ?_
                  refine lv_lload hx hb dX6_init_89 (lv_at hl 4 rfl) ?_
                  refine lv_aload_n hx hb dX6_init_91 rfl (lv_at hl 0 rfl) ?_
                  refine m_get (ci := 6) (C := RX6) (T := TX6) (N := 2) (v := .ref n0) hx hb hts in_X6 hown hK hM hS rfl 0 (by decide) fl_11 (fun _ h => h) rfl dX6_init_92 ?_
                  refine lv_iload_n hx hb dX6_init_95 rfl (lv_at hl 3 rfl) ?_
                  refine m_laldN (k := mm) hx hb hK hM hN (rfl) (by omega) (by decide) dX6_init_96 ?_
                  refine tpl (x' := lN (rowN t mm)) (hfr mm (by omega)) ?_
                  refine lv_ladd hx hb dX6_init_97 ?_
                  refine tpl (x' := lN (rowN t (i + 1))) (by rw [lN_add, hrs.1, hm0]) ?_
                  refine m_lastN (k := i + 1) hx hb hK hh hN (rfl) (by omega) (by decide) dX6_init_98 (fun M1 H1 locs1 e1 hh => ?_)
                  have hS := mu_kp e1 (mp_ne hS hN (by simp)) hS
                  have hN := mu_at e1
                  have hkp := hkp.putN e1 hf_n0
                  have hN : M1 n0 = some (.inl (cA 0, 240, .inr (.inl (vp_updL fr (i + 1) (lN (rowN t (i + 1))))))) := hN
                  have hM := hh.1
                  refine lv_iinc (v := nI (i + 1 + 1)) (lv' := [(2, .int (nI (i + 1 + 1))), (0, .ref h0), (1, .int (nI t)), (3, .int (nI mm)), (4, .long (lN (rowN t i)))]) hx hb dX6_init_99 hl (k := 2) rfl (nI_up _) (by decide) rfl (fun ls hl => ?_)
                  refine lv_goto (tgt := 24) hx hb dX6_init_102 (by decide) ?_
                  exact ih_24 (i + 1) mm ((vp_updL fr (i + 1) (lN (rowN t (i + 1))))) _ _ _ _ hi2 (by omega) (fun h3 => by rw [hm0]; rcases row_p ht1 ht9 (i := i) (by omega) with g | g; exact Or.inl g.symm; exact Or.inr ⟨g.1.symm, g.2⟩) (fun j hj => by by_cases e : j = i + 1; rw [e, pk_uLs]; rw [pk_uLn e]; exact hfr j (by omega)) hh hkp hS hN (by omega) (lv_sub hl [1, 2, 0, 3] rfl)
                · skip
                  have hlt : t * rowN t mm < rowN t i := (ln_lt (by omega) (by omega)).mp c_75
                  have hm1 : mm + 1 = ptrN t i := by rcases hm with g | g; (rw [g] at hlt; omega); exact g.1
                  refine lv_iinc (v := nI (mm + 1)) (lv' := [(3, .int (nI (mm + 1))), (0, .ref h0), (1, .int (nI t)), (2, .int (nI (i + 1))), (4, .long (lN (rowN t i)))]) hx hb dX6_init_78 hl (k := 3) rfl (nI_up mm) (by decide) rfl (fun ls hl => ?_)
                  refine lv_goto (tgt := 56) hx hb dX6_init_81 (by decide) ?_
                  exact ih_56 (mm + 1) _ (by omega) (Or.inl hm1) (by omega) (lv_sub hl [1, 2, 3, 0, 4] rfl)
          exact j_56 (ptrN t i + 1) mm _ hmi (hm hi2) (by omega) (lv_sub hl [1, 2, 3, 4, 0] rfl)
  exact j_24 (241) 0 0 ((vp_updL (fun _ => (0 : Int64)) 0 (lN (rowN t 0)))) _ _ _ _ (by omega) (Nat.le_refl _) (fun _ => Or.inl hz2.symm) (fun j hj => by rw [show j = 0 by omega, pk_uLs]) hh hkp hS hN (by omega) (lv_sub hl [2, 3, 1, 0] rfl)
set_option maxHeartbeats 1000000 in
set_option maxRecDepth 100000 in
theorem k_X7_init (l : Launch) (D : va_G) (cA : Nat → ClassId) (M : mp) (tg : Nat) (hT : M tg = some (.inr (7, [.null]))) : MC l D cA yX7_init wsX7_init 1 20 1 10 [.ref tg] M (fun r M' => r = none ∧ (∃ sm, M' tg = some (.inr (7, [.ref sm])) ∧ smW cA M' sm) ∧ kpL M M' [tg]) := by
  refine MC.of (cc := cX7_init) (maxL := 1) (ret := none) (by decide) rfl (Nat.le_of_ble_eq_true rfl) ?_
  intro p e s m args below meth c Q ls B hh hl hretv hreti hretz hretl hreta
  obtain ⟨hx, hb, hown, hts, hml, hK, hin⟩ := B
  have hM := hh.1
  have hM_0 := hh.1
  have hkp : kpL M M [tg] := kpL.rf M _
  have hown : s.vm.findClass RX7 = some m.cls := hown
  have hl : lv_has ls 1 [(0, .ref tg)] := hl
  have ob_l := hts (.methodLink RX7 3 objectInit) (by decide +kernel)
  have ob_i := hts (.instanceMethod objectInit) (by decide +kernel)
  have ob_c := hts (.code objectInit ⟨#[0xb1]⟩ 1 none) (by decide +kernel)
  have cl_9 := hts (.classLink RX7 9 RX6) (by decide +kernel)
  have in_X7 : ∀ w ∈ wsX70, w ∈ wsX7_init := by decide +kernel
  have fl_11 := hts (.fieldLink RX7 11 "GoldHeaps$TimesGame" "sumsMade" "[LGoldHeaps$Sums;") (by decide +kernel)
  refine lv_aload_n hx hb dX7_init_0 rfl (lv_at hl 0 rfl) ?_
  refine W.objInit hx hb hown ob_l ob_i ob_c rfl (by rw [hml]; exact hl.1) rfl dX7_init_1 (Nat.le_of_ble_eq_true rfl) (Nat.le_of_ble_eq_true rfl) ?_
  refine W.eq (g2 := F0 m 4 ls []) rfl ?_
  refine lv_aload_n hx hb dX7_init_4 rfl (lv_at hl 0 rfl) ?_
  refine lv_bipush (v := 10) hx hb dX7_init_5 (by decide) ?_
  have hho := hh
  refine m_newq 3 rfl hx hb hown cl_9 hK.2.2.1 hK hh (N' := 10) (by decide +kernel) (by decide +kernel) (by decide +kernel) (Nat.le_of_ble_eq_true rfl) (Nat.le_of_ble_eq_true rfl) dX7_init_7 (fun sm M1 H1 hq e1 hh => ?_)
  have hkp := hkp.new hM hq e1
  have hf_sm : M sm = none := by rw [hq]; exact hho.new0 hM_0
  have hT := mu_kp e1 (by rw [hq]; exact hM.ne hT) hT
  have hSM := mu_at e1
  have hSM : M1 sm = some (.inl (cA 3, 10, .inr (.inr (.inr (.inr (fun _ => none)))))) := hSM
  have hM := hh.1
  refine W.widen (k := 1) (n := 10) (by decide) (by decide) ?_
  refine m_putF (ci := 7) (C := RX7) (T := TX7) (N := 1) (v := .ref sm) hx hb hts in_X7 tyX7 tyX7_ok nmX7 hown hK hh hT rfl 0 (by decide) fl_11 (fun _ h => h) rfl hin rfl (ty := tyX7 0) (by decide +kernel) (rfl) (rfl) (Nat.le_of_ble_eq_true rfl) dX7_init_10 (fun M1 H1 locs1 e1 hh => ?_)
  have hSM := mu_kp e1 (mp_ne hSM hT (by simp)) hSM
  have hT := mu_at e1
  have hkp := hkp.put e1 (by simp)
  have hT : M1 tg = some (.inr (7, [.ref sm])) := hT
  have hM := hh.1
  exact hretv _ _ _ _ _ _ _ hh (⟨rfl, ⟨sm, hT, ⟨fun _ => none, hSM, fun t a _ _ h => by cases h⟩⟩, hkp⟩) (by decide) (by decide) dX7_init_13 rfl
set_option maxHeartbeats 1000000 in
set_option maxRecDepth 100000 in
theorem k_X7_sumsBy (l : Launch) (D : va_G) (cA : Nat → ClassId) (M : mp) (tg sm t : Nat) (hT : M tg = some (.inr (7, [.ref sm]))) (hW0 : smW cA M sm) (ht1 : 1 ≤ t) (ht9 : t ≤ 9) : MC l D cA yX7_sumsBy wsX7_sumsBy 2 45 3 242 [.ref tg, .int (nI t)] M (fun r M' => (∃ a, r = some (.ref a) ∧ sumW cA M' t a) ∧ smW cA M' sm ∧ kpL M M' [sm]) := by
  refine MC.of (cc := cX7_sumsBy) (maxL := 4) (ret := (some (.object "GoldHeaps$Sums"))) (by decide) rfl (Nat.le_of_ble_eq_true rfl) ?_
  intro p e s m args below meth c Q ls B hh hl hretv hreti hretz hretl hreta
  obtain ⟨hx, hb, hown, hts, hml, hK, hin⟩ := B
  have hM := hh.1
  have hM_0 := hh.1
  have hkp : kpL M M [sm] := kpL.rf M _
  have hown : s.vm.findClass RX7 = some m.cls := hown
  have hl : lv_has ls 4 [(0, .ref tg), (1, .int (nI t))] := hl
  have in_X7 : ∀ w ∈ wsX70, w ∈ wsX7_sumsBy := by decide +kernel
  have fl_11 := hts (.fieldLink RX7 11 "GoldHeaps$TimesGame" "sumsMade" "[LGoldHeaps$Sums;") (by decide +kernel)
  have cl_9 := hts (.classLink RX7 9 RX6) (by decide +kernel)
  have ins_X6 := hts (.instantiable RX6 2) (by decide +kernel)
  have ini_X6 := hts (.initialized RX6) (by decide +kernel)
  have in_X6 : ∀ w ∈ wsX60, w ∈ wsX7_sumsBy := by decide +kernel
  have im_X6_init := hts (.instanceMethod yX6_init) (by decide +kernel)
  have ml_17 := hts (.methodLink RX7 17 yX6_init) (by decide +kernel)
  obtain ⟨fs, hSM, hfs⟩ := hW0
  refine lv_iload_n hx hb dX7_sumsBy_0 rfl (lv_at hl 1 rfl) ?_
  refine lv_iconst (v := 1) hx hb dX7_sumsBy_1 (by decide) ?_
  refine bi_lt (tgt := 15) hx hb dX7_sumsBy_2 (by decide) (fun c_2 n_2 => ?_) (fun c_2 n_2 => ?_)
  · exact absurd ((nI_ltI (a := t) (b := 1) (by omega) (by decide)).mp c_2) (by omega)
  · skip
    refine lv_iload_n hx hb dX7_sumsBy_5 rfl (lv_at hl 1 rfl) ?_
    refine lv_bipush (v := 9) hx hb dX7_sumsBy_6 (by decide) ?_
    refine bi_gt (tgt := 15) hx hb dX7_sumsBy_8 (by decide) (fun c_8 n_8 => ?_) (fun c_8 n_8 => ?_)
    · exact absurd ((nI_ltI (a := 9) (b := t) (by decide) (by omega)).mp c_8) (by omega)
    · skip
      refine lv_iload_n hx hb dX7_sumsBy_11 rfl (lv_at hl 1 rfl) ?_
      refine lv_goto (tgt := 16) hx hb dX7_sumsBy_12 (by decide) ?_
      refine lv_istore_n (lv' := [(2, .int (nI t)), (0, .ref tg), (1, .int (nI t))]) hx hb dX7_sumsBy_16 rfl hl (by decide) rfl (fun ls hl => ?_)
      refine lv_aload_n hx hb dX7_sumsBy_17 rfl (lv_at hl 1 rfl) ?_
      refine m_get (ci := 7) (C := RX7) (T := TX7) (N := 1) (v := .ref sm) hx hb hts in_X7 hown hK hM hT rfl 0 (by decide) fl_11 (fun _ h => h) rfl dX7_sumsBy_18 ?_
      refine lv_iload_n hx hb dX7_sumsBy_21 rfl (lv_at hl 0 rfl) ?_
      refine m_aldSN (k := t) hx hb hK hM hSM (rfl) (by omega) (by decide) dX7_sumsBy_22 ?_
      cases hft : fs t with
      | none =>
        refine tpv (x' := .null) rfl ?_
        refine lv_astore_nN (lv' := [(3, .null), (2, .int (nI t)), (0, .ref tg), (1, .int (nI t))]) hx hb dX7_sumsBy_23 rfl hl (by decide) rfl (fun ls hl => ?_)
        refine lv_aload_nN hx hb dX7_sumsBy_24 rfl (lv_at hl 0 rfl) ?_
        refine lv_ifnonnullN hx hb dX7_sumsBy_25 ?_
        have hM0 := hM
        have hT0 := hT
        have hSM0 := hSM
        have hho := hh
        refine m_new (ci := 6) (fs := [.null, .int 0]) (C := RX6) (T := TX6) (N := 2) hx hb hts in_X6 tyX6 tyX6_ok hown cl_9 ins_X6 ini_X6 hK hh rfl (fun j hj => by rcases (show j = 0 ∨ j = 1 by omega) with rfl | rfl <;> rfl) (by decide) (by decide) dX7_sumsBy_28 (fun sa M1 H1 hq e1 hh => ?_)
        have hkp := hkp.new hM hq e1
        have hf_sa : M sa = none := by rw [hq]; exact hho.new0 hM_0
        have hT := mu_kp e1 (by rw [hq]; exact hM.ne hT) hT
        have hSM := mu_kp e1 (by rw [hq]; exact hM.ne hSM) hSM
        have hS := mu_at e1
        have hS : M1 sa = some (.inr (6, [.null, .int 0])) := hS
        have hM := hh.1
        refine W.widen (k := 1) (n := 2) (by decide) (by decide) ?_
        refine lv_dup hx hb dX7_sumsBy_31 rfl ?_
        refine lv_iload_n hx hb dX7_sumsBy_32 rfl (lv_at hl 1 rfl) ?_
        refine cmI (As := [.int (nI t)]) (rest := [.ref sa]) (k_X6_init l D cA _ sa t hS ht1 ht9) ⟨hx, hb, hml, hown, hts⟩ (cwI 1 hts gX7_sumsBy_X6_init rfl rfl rfl ini_X6 ml_17 im_X6_init rfl (by decide +kernel) ⟨by decide, by decide⟩) hK hh rfl hl.1 rfl (Nat.le_of_ble_eq_true rfl) dX7_sumsBy_33 ⟨by decide, by decide⟩ (fun v9 M1 H1 locs1 hpost hh hz9 hk9 hn9 => ?_)
        obtain ⟨rfl, hsw, hkc⟩ := hpost
        obtain ⟨n0, fr, hS1, hN1, hfr⟩ := hsw
        have hkp : kpL M M1 [sm] := fun q e9 h9 h8 => hkc q e9 (hkp q e9 h9 h8) (ni1 (by rw [hq]; exact hM0.ne h9))
        have hT : M1 tg = some (.inr (7, [.ref sm])) := hkc _ _ hT (ni1 (by rw [hq]; exact hM0.ne hT0))
        have hSM : M1 sm = some (.inl (cA 3, 10, .inr (.inr (.inr (.inr fs))))) := hkc _ _ hSM (ni1 (by rw [hq]; exact hM0.ne hSM0))
        have hS : M1 sa = some (.inr (6, [.ref n0, .int (nI (rsz t))])) := hS1
        have hN : M1 n0 = some (.inl (cA 0, 240, .inr (.inl fr))) := hN1
        have hM := hh.1
        refine W.widen (k := 2) (n := 242) (by decide) (by decide) ?_
        refine W.eq (g2 := F0 m 36 ls [.ref sa]) rfl ?_
        refine lv_astore_n (lv' := [(3, .ref sa), (2, .int (nI t)), (0, .ref tg), (1, .int (nI t))]) hx hb dX7_sumsBy_36 rfl hl (by decide) rfl (fun ls hl => ?_)
        refine lv_aload_n hx hb dX7_sumsBy_37 rfl (lv_at hl 2 rfl) ?_
        refine m_get (ci := 7) (C := RX7) (T := TX7) (N := 1) (v := .ref sm) hx hb hts in_X7 hown hK hM hT rfl 0 (by decide) fl_11 (fun _ h => h) rfl dX7_sumsBy_38 ?_
        refine lv_iload_n hx hb dX7_sumsBy_41 rfl (lv_at hl 1 rfl) ?_
        refine lv_aload_n hx hb dX7_sumsBy_42 rfl (lv_at hl 0 rfl) ?_
        refine m_astqN 3 (k := t) rfl hx hb hK hh hSM hS rfl (rfl) (by omega) (by decide) dX7_sumsBy_43 (fun M1 H1 locs1 e1 hh => ?_)
        have hT := mu_kp e1 (mp_ne hT hSM (by simp)) hT
        have hS := mu_kp e1 (mp_ne hS hSM (by simp)) hS
        have hN := mu_kp e1 (mp_ne hN hSM (by simp)) hN
        have hSM := mu_at e1
        have hkp := hkp.put e1 (by simp)
        have hSM : M1 sm = some (.inl (cA 3, 10, .inr (.inr (.inr (.inr (va_up fs t (some sa))))))) := hSM
        have hM := hh.1
        refine lv_aload_n hx hb dX7_sumsBy_44 rfl (lv_at hl 0 rfl) ?_
        exact hreta _ _ _ _ _ _ _ _ _ hh (⟨⟨sa, rfl, n0, fr, hS, hN, hfr⟩, ⟨_, hSM, fun t2 a h1 h2 h3 => by by_cases e9 : t2 = t; (rw [e9, va_up_self] at h3; cases h3; rw [e9]; exact ⟨n0, fr, hS, hN, hfr⟩); (rw [va_up_ne _ _ e9] at h3; exact (hfs t2 a h1 h2 h3).kp (kpI.of1 hkp hSM0 (fun z => z)))⟩, hkp⟩) (by decide) (by decide) dX7_sumsBy_45 rfl
      | some sa =>
        refine tpv (x' := .ref sa) rfl ?_
        refine lv_astore_n (lv' := [(3, .ref sa), (2, .int (nI t)), (0, .ref tg), (1, .int (nI t))]) hx hb dX7_sumsBy_23 rfl hl (by decide) rfl (fun ls hl => ?_)
        refine lv_aload_n hx hb dX7_sumsBy_24 rfl (lv_at hl 0 rfl) ?_
        refine lv_ifnonnull (tgt := 44) hx hb dX7_sumsBy_25 (by decide) ?_
        refine lv_aload_n hx hb dX7_sumsBy_44 rfl (lv_at hl 0 rfl) ?_
        exact hreta _ _ _ _ _ _ _ _ _ hh (⟨⟨sa, rfl, hfs t sa ht1 ht9 hft⟩, ⟨fs, hSM, hfs⟩, hkp⟩) (by decide) (by decide) dX7_sumsBy_45 rfl
end

section
-- ===== PART A: goes FIRST, ahead of the names: the tables' words, and 'selects' of the private methods out of them =====
/-- a private method of a class that the tables say can be made, by its rows of tables_1 -/
def lw_okq (q : MethodName × Nat) : Prop := (q.1.cls ≠ "java/lang/invoke/MethodHandle" ∧ q.1.cls ≠ "java/lang/invoke/VarHandle") ∧ Cond.instantiable q.1.cls q.2 ∈ tables_1 ∧ Cond.privateMethod q.1 ∈ tables_1 ∧ Cond.instanceMethod q.1 ∈ tables_1
theorem lw_p0 : lw_okq (⟨"DikeHands", "isHouse", "(I)Z"⟩, 14) := ⟨⟨by decide +kernel, by decide +kernel⟩, List.mem_of_getElem? (i := 13) (by decide +kernel), List.mem_of_getElem? (i := 284) (by decide +kernel), List.mem_of_getElem? (i := 285) (by decide +kernel)⟩
theorem lw_p1 : lw_okq (⟨"DikeHands", "isYearSoFar", "(I)Z"⟩, 14) := ⟨⟨by decide +kernel, by decide +kernel⟩, List.mem_of_getElem? (i := 13) (by decide +kernel), List.mem_of_getElem? (i := 296) (by decide +kernel), List.mem_of_getElem? (i := 297) (by decide +kernel)⟩
theorem lw_p2 : lw_okq (⟨"DikeHands", "yearNow", "()I"⟩, 14) := ⟨⟨by decide +kernel, by decide +kernel⟩, List.mem_of_getElem? (i := 13) (by decide +kernel), List.mem_of_getElem? (i := 300) (by decide +kernel), List.mem_of_getElem? (i := 301) (by decide +kernel)⟩
theorem lw_p3 : lw_okq (⟨"DikeHands", "daysOwed", "(LDikeHands$House;I)I"⟩, 14) := ⟨⟨by decide +kernel, by decide +kernel⟩, List.mem_of_getElem? (i := 13) (by decide +kernel), List.mem_of_getElem? (i := 312) (by decide +kernel), List.mem_of_getElem? (i := 313) (by decide +kernel)⟩
theorem lw_p4 : lw_okq (⟨"DikeHands", "daysOwedYet", "(LDikeHands$House;I)I"⟩, 14) := ⟨⟨by decide +kernel, by decide +kernel⟩, List.mem_of_getElem? (i := 13) (by decide +kernel), List.mem_of_getElem? (i := 328) (by decide +kernel), List.mem_of_getElem? (i := 329) (by decide +kernel)⟩
theorem lw_p5 : lw_okq (⟨"DikeHands", "canSubstitute", "(ILDikeHands$House;I)Z"⟩, 14) := ⟨⟨by decide +kernel, by decide +kernel⟩, List.mem_of_getElem? (i := 13) (by decide +kernel), List.mem_of_getElem? (i := 339) (by decide +kernel), List.mem_of_getElem? (i := 340) (by decide +kernel)⟩
theorem lw_p6 : lw_okq (⟨"DikeHands$Rod", "growthOfDay", "()I"⟩, 5) := ⟨⟨by decide +kernel, by decide +kernel⟩, List.mem_of_getElem? (i := 97) (by decide +kernel), List.mem_of_getElem? (i := 371) (by decide +kernel), List.mem_of_getElem? (i := 372) (by decide +kernel)⟩
theorem lw_p7 : lw_okq (⟨"DikeHands", "endWeek", "(I)V"⟩, 14) := ⟨⟨by decide +kernel, by decide +kernel⟩, List.mem_of_getElem? (i := 13) (by decide +kernel), List.mem_of_getElem? (i := 394) (by decide +kernel), List.mem_of_getElem? (i := 395) (by decide +kernel)⟩
theorem lw_p8 : lw_okq (⟨"DikeHands", "firstPaperWeek", "(I)I"⟩, 14) := ⟨⟨by decide +kernel, by decide +kernel⟩, List.mem_of_getElem? (i := 13) (by decide +kernel), List.mem_of_getElem? (i := 410) (by decide +kernel), List.mem_of_getElem? (i := 411) (by decide +kernel)⟩
theorem lw_p9 : lw_okq (⟨"DikeHands", "trueHands", "(II)I"⟩, 14) := ⟨⟨by decide +kernel, by decide +kernel⟩, List.mem_of_getElem? (i := 13) (by decide +kernel), List.mem_of_getElem? (i := 414) (by decide +kernel), List.mem_of_getElem? (i := 415) (by decide +kernel)⟩
theorem lw_p10 : lw_okq (⟨"DikeHands$Plan", "offer", "(IJI)V"⟩, 1) := ⟨⟨by decide +kernel, by decide +kernel⟩, List.mem_of_getElem? (i := 69) (by decide +kernel), List.mem_of_getElem? (i := 447) (by decide +kernel), List.mem_of_getElem? (i := 448) (by decide +kernel)⟩
theorem lw_p11 : lw_okq (⟨"DikeHands", "hourOfCall", "(II)I"⟩, 14) := ⟨⟨by decide +kernel, by decide +kernel⟩, List.mem_of_getElem? (i := 13) (by decide +kernel), List.mem_of_getElem? (i := 470) (by decide +kernel), List.mem_of_getElem? (i := 471) (by decide +kernel)⟩
theorem lw_p12 : lw_okq (⟨"DikeHandsModel", "isHouse", "(I)Z"⟩, 35) := ⟨⟨by decide +kernel, by decide +kernel⟩, List.mem_of_getElem? (i := 489) (by decide +kernel), List.mem_of_getElem? (i := 630) (by decide +kernel), List.mem_of_getElem? (i := 631) (by decide +kernel)⟩
theorem lw_p13 : lw_okq (⟨"DikeHandsModel", "isYear", "(I)Z"⟩, 35) := ⟨⟨by decide +kernel, by decide +kernel⟩, List.mem_of_getElem? (i := 489) (by decide +kernel), List.mem_of_getElem? (i := 638) (by decide +kernel), List.mem_of_getElem? (i := 639) (by decide +kernel)⟩
theorem lw_p14 : lw_okq (⟨"DikeHandsModel", "isListed", "(II)Z"⟩, 35) := ⟨⟨by decide +kernel, by decide +kernel⟩, List.mem_of_getElem? (i := 489) (by decide +kernel), List.mem_of_getElem? (i := 642) (by decide +kernel), List.mem_of_getElem? (i := 643) (by decide +kernel)⟩
theorem lw_p15 : lw_okq (⟨"DikeHandsModel", "listedOf", "(III)I"⟩, 35) := ⟨⟨by decide +kernel, by decide +kernel⟩, List.mem_of_getElem? (i := 489) (by decide +kernel), List.mem_of_getElem? (i := 646) (by decide +kernel), List.mem_of_getElem? (i := 647) (by decide +kernel)⟩
def lw_privs_1 : List (MethodName × Nat) := [(⟨"DikeHands", "isHouse", "(I)Z"⟩, 14), (⟨"DikeHands", "isYearSoFar", "(I)Z"⟩, 14), (⟨"DikeHands", "yearNow", "()I"⟩, 14), (⟨"DikeHands", "daysOwed", "(LDikeHands$House;I)I"⟩, 14), (⟨"DikeHands", "daysOwedYet", "(LDikeHands$House;I)I"⟩, 14), (⟨"DikeHands", "canSubstitute", "(ILDikeHands$House;I)Z"⟩, 14), (⟨"DikeHands$Rod", "growthOfDay", "()I"⟩, 5), (⟨"DikeHands", "endWeek", "(I)V"⟩, 14), (⟨"DikeHands", "firstPaperWeek", "(I)I"⟩, 14), (⟨"DikeHands", "trueHands", "(II)I"⟩, 14), (⟨"DikeHands$Plan", "offer", "(IJI)V"⟩, 1), (⟨"DikeHands", "hourOfCall", "(II)I"⟩, 14), (⟨"DikeHandsModel", "isHouse", "(I)Z"⟩, 35), (⟨"DikeHandsModel", "isYear", "(I)Z"⟩, 35), (⟨"DikeHandsModel", "isListed", "(II)Z"⟩, 35), (⟨"DikeHandsModel", "listedOf", "(III)I"⟩, 35)]
theorem lw_r1 : ∀ q ∈ lw_privs_1, lw_okq q := List.forall_mem_cons.mpr ⟨lw_p0, List.forall_mem_cons.mpr ⟨lw_p1, List.forall_mem_cons.mpr ⟨lw_p2, List.forall_mem_cons.mpr ⟨lw_p3, List.forall_mem_cons.mpr ⟨lw_p4, List.forall_mem_cons.mpr ⟨lw_p5, List.forall_mem_cons.mpr ⟨lw_p6, List.forall_mem_cons.mpr ⟨lw_p7, List.forall_mem_cons.mpr ⟨lw_p8, List.forall_mem_cons.mpr ⟨lw_p9, List.forall_mem_cons.mpr ⟨lw_p10, List.forall_mem_cons.mpr ⟨lw_p11, List.forall_mem_cons.mpr ⟨lw_p12, List.forall_mem_cons.mpr ⟨lw_p13, List.forall_mem_cons.mpr ⟨lw_p14, List.forall_mem_cons.mpr ⟨lw_p15, fun _ h => absurd h List.not_mem_nil⟩⟩⟩⟩⟩⟩⟩⟩⟩⟩⟩⟩⟩⟩⟩⟩
theorem lw_p16 : lw_okq (⟨"DikeHandsModel", "owedOf", "(II)I"⟩, 35) := ⟨⟨by decide +kernel, by decide +kernel⟩, List.mem_of_getElem? (i := 489) (by decide +kernel), List.mem_of_getElem? (i := 654) (by decide +kernel), List.mem_of_getElem? (i := 655) (by decide +kernel)⟩
theorem lw_p17 : lw_okq (⟨"DikeHandsModel", "lawOf", "(I)I"⟩, 35) := ⟨⟨by decide +kernel, by decide +kernel⟩, List.mem_of_getElem? (i := 489) (by decide +kernel), List.mem_of_getElem? (i := 658) (by decide +kernel), List.mem_of_getElem? (i := 659) (by decide +kernel)⟩
theorem lw_p18 : lw_okq (⟨"DikeHandsModel", "yet", "(II)I"⟩, 35) := ⟨⟨by decide +kernel, by decide +kernel⟩, List.mem_of_getElem? (i := 489) (by decide +kernel), List.mem_of_getElem? (i := 666) (by decide +kernel), List.mem_of_getElem? (i := 667) (by decide +kernel)⟩
theorem lw_p19 : lw_okq (⟨"DikeHandsModel", "raises", "(II)V"⟩, 35) := ⟨⟨by decide +kernel, by decide +kernel⟩, List.mem_of_getElem? (i := 489) (by decide +kernel), List.mem_of_getElem? (i := 670) (by decide +kernel), List.mem_of_getElem? (i := 671) (by decide +kernel)⟩
theorem lw_p20 : lw_okq (⟨"DikeHandsModel", "perDay", "(I)I"⟩, 35) := ⟨⟨by decide +kernel, by decide +kernel⟩, List.mem_of_getElem? (i := 489) (by decide +kernel), List.mem_of_getElem? (i := 674) (by decide +kernel), List.mem_of_getElem? (i := 675) (by decide +kernel)⟩
theorem lw_p21 : lw_okq (⟨"DikeHandsModel", "coinNow", "()I"⟩, 35) := ⟨⟨by decide +kernel, by decide +kernel⟩, List.mem_of_getElem? (i := 489) (by decide +kernel), List.mem_of_getElem? (i := 682) (by decide +kernel), List.mem_of_getElem? (i := 683) (by decide +kernel)⟩
theorem lw_p22 : lw_okq (⟨"DikeHandsModel", "ends", "(II)V"⟩, 35) := ⟨⟨by decide +kernel, by decide +kernel⟩, List.mem_of_getElem? (i := 489) (by decide +kernel), List.mem_of_getElem? (i := 698) (by decide +kernel), List.mem_of_getElem? (i := 699) (by decide +kernel)⟩
theorem lw_p23 : lw_okq (⟨"DikeHandsModel", "villageHands", "(II)I"⟩, 35) := ⟨⟨by decide +kernel, by decide +kernel⟩, List.mem_of_getElem? (i := 489) (by decide +kernel), List.mem_of_getElem? (i := 710) (by decide +kernel), List.mem_of_getElem? (i := 711) (by decide +kernel)⟩
theorem lw_p24 : lw_okq (⟨"DikeHandsModel", "trueHands", "(II)I"⟩, 35) := ⟨⟨by decide +kernel, by decide +kernel⟩, List.mem_of_getElem? (i := 489) (by decide +kernel), List.mem_of_getElem? (i := 714) (by decide +kernel), List.mem_of_getElem? (i := 715) (by decide +kernel)⟩
theorem lw_p25 : lw_okq (⟨"DikeHandsModel", "needs", "(II)I"⟩, 35) := ⟨⟨by decide +kernel, by decide +kernel⟩, List.mem_of_getElem? (i := 489) (by decide +kernel), List.mem_of_getElem? (i := 727) (by decide +kernel), List.mem_of_getElem? (i := 728) (by decide +kernel)⟩
theorem lw_p26 : lw_okq (⟨"DikeHandsModel", "plans", "(I)V"⟩, 35) := ⟨⟨by decide +kernel, by decide +kernel⟩, List.mem_of_getElem? (i := 489) (by decide +kernel), List.mem_of_getElem? (i := 738) (by decide +kernel), List.mem_of_getElem? (i := 739) (by decide +kernel)⟩
def lw_privs_2 : List (MethodName × Nat) := [(⟨"DikeHandsModel", "owedOf", "(II)I"⟩, 35), (⟨"DikeHandsModel", "lawOf", "(I)I"⟩, 35), (⟨"DikeHandsModel", "yet", "(II)I"⟩, 35), (⟨"DikeHandsModel", "raises", "(II)V"⟩, 35), (⟨"DikeHandsModel", "perDay", "(I)I"⟩, 35), (⟨"DikeHandsModel", "coinNow", "()I"⟩, 35), (⟨"DikeHandsModel", "ends", "(II)V"⟩, 35), (⟨"DikeHandsModel", "villageHands", "(II)I"⟩, 35), (⟨"DikeHandsModel", "trueHands", "(II)I"⟩, 35), (⟨"DikeHandsModel", "needs", "(II)I"⟩, 35), (⟨"DikeHandsModel", "plans", "(I)V"⟩, 35)]
theorem lw_r2 : ∀ q ∈ lw_privs_2, lw_okq q := List.forall_mem_cons.mpr ⟨lw_p16, List.forall_mem_cons.mpr ⟨lw_p17, List.forall_mem_cons.mpr ⟨lw_p18, List.forall_mem_cons.mpr ⟨lw_p19, List.forall_mem_cons.mpr ⟨lw_p20, List.forall_mem_cons.mpr ⟨lw_p21, List.forall_mem_cons.mpr ⟨lw_p22, List.forall_mem_cons.mpr ⟨lw_p23, List.forall_mem_cons.mpr ⟨lw_p24, List.forall_mem_cons.mpr ⟨lw_p25, List.forall_mem_cons.mpr ⟨lw_p26, fun _ h => absurd h List.not_mem_nil⟩⟩⟩⟩⟩⟩⟩⟩⟩⟩⟩
def lw_privs : List (MethodName × Nat) := lw_privs_1 ++ (lw_privs_2)
def lw_tbl : List Cond := k2_sels lw_privs ++ tables_1
theorem lw_privs_ok : ∀ q ∈ lw_privs, lw_okq q := by
  show ∀ q ∈ lw_privs_1 ++ (lw_privs_2), lw_okq q
  exact List.forall_mem_append.mpr ⟨lw_r1, lw_r2⟩
end
section
/-! ===== BEGIN words of one list among another's, by their places ===== -/
theorem goodIn_r {big : List Cond} (ws : List Cond) (ps : List Nat) (hp : ws = ps.filterMap (fun i => big[i]?)) (h : ws.all goodWord = true) : GoodIn big ws := by
  intro w hw
  have h1 := List.all_eq_true.mp h w hw
  rw [hp] at hw
  obtain ⟨i, -, hi⟩ := List.mem_filterMap.mp hw
  have hm : w ∈ big := by first | exact List.mem_of_getElem? hi | exact List.getElem?_mem hi
  exact ⟨hm, good_of_word h1⟩
theorem goodIn_app {big a b : List Cond} (ha : GoodIn big a) (hb : GoodIn big b) : GoodIn big (a ++ b) := fun w h => (List.mem_append.mp h).elim (ha w) (hb w)
theorem goodIn_ca {big a b : List Cond} {c : Cond} (ha : GoodIn big (c :: a)) (hb : GoodIn big b) : GoodIn big (c :: (a ++ b)) := fun w h => (List.mem_cons.mp h).elim (fun e => ha w (List.mem_cons.mpr (Or.inl e))) (fun h => (List.mem_append.mp h).elim (fun h => ha w (List.mem_cons.mpr (Or.inr h))) (hb w))
theorem goodIn_sub {big ws : List Cond} (hm : ∀ w ∈ ws, w ∈ big) (h : ws.all goodWord = true) : GoodIn big ws := fun w hw => ⟨hm w hw, good_of_word (List.all_eq_true.mp h w hw)⟩
/-! ===== END ===== -/

/-! ===== BEGIN printed: names, fields, word lists, decode rows ===== -/
def RX0 : String := "DikeHands$House"
def TX0 : u_T := fun k => match k with
  | 0 => ("DikeHands$House", "home", "I", true)
  | 1 => ("DikeHands$House", "came", "I", true)
  | 2 => ("DikeHands$House", "byItself", "[I", true)
  | 3 => ("DikeHands$House", "bySubstitute", "[I", true)
  | 4 => ("DikeHands$House", "bought", "[I", true)
  | 5 => ("DikeHands$House", "asSubstitute", "[I", true)
  | 6 => ("DikeHands$House", "substitute", "[I", true)
  | _ => ("DikeHands$House", "latest", "LDikeHands$Telling;", false)
def tyX0 : Nat → FieldType := fun k => match k with
  | 0 => .int
  | 1 => .int
  | 2 => .array .int
  | 3 => .array .int
  | 4 => .array .int
  | 5 => .array .int
  | 6 => .array .int
  | _ => .object "DikeHands$Telling"
abbrev wsX00 : List Cond := u_ws RX0 TX0 8
theorem nmX0 : ∀ a, a < 8 → ∀ b, b < 8 → a ≠ b → (TX0 a).2.1 ≠ (TX0 b).2.1 := by decide +kernel
theorem tyX0_ok : ∀ k, k < 8 → parseFieldDescriptor (TX0 k).2.2.1 = some (tyX0 k) := by decide +kernel
abbrev cX0_init : ByteArray := prog_2_method_1_code
def yX0_init : MethodName := ⟨RX0, "<init>", "(IIII)V"⟩
abbrev cX0_learn : ByteArray := prog_2_method_2_code
def yX0_learn : MethodName := ⟨RX0, "learn", "(IIII)V"⟩
abbrev cX0_toldAheadOf : ByteArray := prog_2_method_3_code
def yX0_toldAheadOf : MethodName := ⟨RX0, "toldAheadOf", "(I)LDikeHands$Telling;"⟩
abbrev cX0_handsIn : ByteArray := prog_2_method_4_code
def yX0_handsIn : MethodName := ⟨RX0, "handsIn", "(I)I"⟩
abbrev cX0_daysMet : ByteArray := prog_2_method_5_code
def yX0_daysMet : MethodName := ⟨RX0, "daysMet", "(I)I"⟩
def RX1 : String := "DikeHands$Law"
def TX1 : u_T := fun k => match k with
  | 0 => ("DikeHands$Law", "year", "I", true)
  | 1 => ("DikeHands$Law", "daysForTenAcres", "I", true)
  | 2 => ("DikeHands$Law", "daysForHand", "I", true)
  | 3 => ("DikeHands$Law", "exempt", "I", true)
  | _ => ("DikeHands$Law", "coin", "I", true)
def tyX1 : Nat → FieldType := fun k => match k with
  | 0 => .int
  | 1 => .int
  | 2 => .int
  | 3 => .int
  | _ => .int
abbrev wsX10 : List Cond := u_ws RX1 TX1 5
theorem nmX1 : ∀ a, a < 5 → ∀ b, b < 5 → a ≠ b → (TX1 a).2.1 ≠ (TX1 b).2.1 := by decide +kernel
theorem tyX1_ok : ∀ k, k < 5 → parseFieldDescriptor (TX1 k).2.2.1 = some (tyX1 k) := by decide +kernel
abbrev cX1_init : ByteArray := prog_3_method_1_code
def yX1_init : MethodName := ⟨RX1, "<init>", "(III)V"⟩
abbrev cX1_canBe : ByteArray := prog_3_method_2_code
def yX1_canBe : MethodName := ⟨RX1, "canBe", "(I)Z"⟩
abbrev cX1_daysFor : ByteArray := prog_3_method_3_code
def yX1_daysFor : MethodName := ⟨RX1, "daysFor", "(LDikeHands$Telling;)I"⟩
def RX2 : String := "DikeHands$LawBook"
def TX2 : u_T := fun k => match k with
  | 0 => ("DikeHands$LawBook", "laws", "[LDikeHands$Law;", true)
  | 1 => ("DikeHands$LawBook", "noLaw", "LDikeHands$Law;", true)
  | _ => ("DikeHands$LawBook", "size", "I", false)
def tyX2 : Nat → FieldType := fun k => match k with
  | 0 => .array (.object "DikeHands$Law")
  | 1 => .object "DikeHands$Law"
  | _ => .int
abbrev wsX20 : List Cond := u_ws RX2 TX2 3
theorem nmX2 : ∀ a, a < 3 → ∀ b, b < 3 → a ≠ b → (TX2 a).2.1 ≠ (TX2 b).2.1 := by decide +kernel
theorem tyX2_ok : ∀ k, k < 3 → parseFieldDescriptor (TX2 k).2.2.1 = some (tyX2 k) := by decide +kernel
abbrev cX2_init : ByteArray := prog_4_method_1_code
def yX2_init : MethodName := ⟨RX2, "<init>", "()V"⟩
abbrev cX2_isFull : ByteArray := prog_4_method_2_code
def yX2_isFull : MethodName := ⟨RX2, "isFull", "()Z"⟩
abbrev cX2_add : ByteArray := prog_4_method_3_code
def yX2_add : MethodName := ⟨RX2, "add", "(LDikeHands$Law;)V"⟩
abbrev cX2_ofYear : ByteArray := prog_4_method_4_code
def yX2_ofYear : MethodName := ⟨RX2, "ofYear", "(I)LDikeHands$Law;"⟩
def RX3 : String := "DikeHands$Plan"
def TX3 : u_T := fun k => match k with
  | _ => ("DikeHands$Plan", "worthWithin", "[J", true)
def tyX3 : Nat → FieldType := fun k => match k with
  | _ => .array .long
abbrev wsX30 : List Cond := u_ws RX3 TX3 1
theorem nmX3 : ∀ a, a < 1 → ∀ b, b < 1 → a ≠ b → (TX3 a).2.1 ≠ (TX3 b).2.1 := by decide +kernel
theorem tyX3_ok : ∀ k, k < 1 → parseFieldDescriptor (TX3 k).2.2.1 = some (tyX3 k) := by decide +kernel
abbrev cX3_init : ByteArray := prog_5_method_1_code
def yX3_init : MethodName := ⟨RX3, "<init>", "()V"⟩
abbrev cX3_bestWorth : ByteArray := prog_5_method_2_code
def yX3_bestWorth : MethodName := ⟨RX3, "bestWorth", "([LDikeHands$Rod;II)J"⟩
abbrev cX3_offer : ByteArray := prog_5_method_3_code
def yX3_offer : MethodName := ⟨RX3, "offer", "(IJI)V"⟩
abbrev cX3_lossOf : ByteArray := prog_5_method_4_code
def yX3_lossOf : MethodName := ⟨RX3, "lossOf", "(J)I"⟩
abbrev cX3_heapOf : ByteArray := prog_5_method_5_code
def yX3_heapOf : MethodName := ⟨RX3, "heapOf", "(J)I"⟩
def RX4 : String := "DikeHands$Rod"
def TX4 : u_T := fun k => match k with
  | 0 => ("DikeHands$Rod", "height", "I", false)
  | 1 => ("DikeHands$Rod", "soil", "I", false)
  | 2 => ("DikeHands$Rod", "loss", "I", false)
  | 3 => ("DikeHands$Rod", "breaks", "I", false)
  | _ => ("DikeHands$Rod", "days", "I", false)
def tyX4 : Nat → FieldType := fun k => match k with
  | 0 => .int
  | 1 => .int
  | 2 => .int
  | 3 => .int
  | _ => .int
abbrev wsX40 : List Cond := u_ws RX4 TX4 5
theorem nmX4 : ∀ a, a < 5 → ∀ b, b < 5 → a ≠ b → (TX4 a).2.1 ≠ (TX4 b).2.1 := by decide +kernel
theorem tyX4_ok : ∀ k, k < 5 → parseFieldDescriptor (TX4 k).2.2.1 = some (tyX4 k) := by decide +kernel
abbrev cX4_init : ByteArray := prog_6_method_1_code
def yX4_init : MethodName := ⟨RX4, "<init>", "()V"⟩
abbrev cX4_growthOfDay : ByteArray := prog_6_method_2_code
def yX4_growthOfDay : MethodName := ⟨RX4, "growthOfDay", "()I"⟩
abbrev cX4_raise : ByteArray := prog_6_method_3_code
def yX4_raise : MethodName := ⟨RX4, "raise", "(I)V"⟩
abbrev cX4_daysTo : ByteArray := prog_6_method_4_code
def yX4_daysTo : MethodName := ⟨RX4, "daysTo", "(I)I"⟩
abbrev cX4_wear : ByteArray := prog_6_method_5_code
def yX4_wear : MethodName := ⟨RX4, "wear", "(I)I"⟩
def RX5 : String := "DikeHands$Telling"
def TX5 : u_T := fun k => match k with
  | 0 => ("DikeHands$Telling", "told", "I", true)
  | 1 => ("DikeHands$Telling", "from", "I", true)
  | 2 => ("DikeHands$Telling", "acres", "I", true)
  | 3 => ("DikeHands$Telling", "hands", "I", true)
  | _ => ("DikeHands$Telling", "earlier", "LDikeHands$Telling;", true)
def tyX5 : Nat → FieldType := fun k => match k with
  | 0 => .int
  | 1 => .int
  | 2 => .int
  | 3 => .int
  | _ => .object "DikeHands$Telling"
abbrev wsX50 : List Cond := u_ws RX5 TX5 5
theorem nmX5 : ∀ a, a < 5 → ∀ b, b < 5 → a ≠ b → (TX5 a).2.1 ≠ (TX5 b).2.1 := by decide +kernel
theorem tyX5_ok : ∀ k, k < 5 → parseFieldDescriptor (TX5 k).2.2.1 = some (tyX5 k) := by decide +kernel
abbrev cX5_init : ByteArray := prog_7_method_1_code
def yX5_init : MethodName := ⟨RX5, "<init>", "(IIIILDikeHands$Telling;)V"⟩
def RX6 : String := "DikeHands$Village"
def TX6 : u_T := fun k => match k with
  | 0 => ("DikeHands$Village", "mile", "I", false)
  | 1 => ("DikeHands$Village", "firstWork", "LDikeHands$WorkWeek;", false)
  | _ => ("DikeHands$Village", "lastWork", "LDikeHands$WorkWeek;", false)
def tyX6 : Nat → FieldType := fun k => match k with
  | 0 => .int
  | 1 => .object "DikeHands$WorkWeek"
  | _ => .object "DikeHands$WorkWeek"
abbrev wsX60 : List Cond := u_ws RX6 TX6 3
theorem nmX6 : ∀ a, a < 3 → ∀ b, b < 3 → a ≠ b → (TX6 a).2.1 ≠ (TX6 b).2.1 := by decide +kernel
theorem tyX6_ok : ∀ k, k < 3 → parseFieldDescriptor (TX6 k).2.2.1 = some (tyX6 k) := by decide +kernel
abbrev cX6_init : ByteArray := prog_8_method_1_code
def yX6_init : MethodName := ⟨RX6, "<init>", "()V"⟩
abbrev cX6_addDays : ByteArray := prog_8_method_2_code
def yX6_addDays : MethodName := ⟨RX6, "addDays", "(II)V"⟩
def RX7 : String := "DikeHands$WorkWeek"
def TX7 : u_T := fun k => match k with
  | 0 => ("DikeHands$WorkWeek", "week", "I", true)
  | 1 => ("DikeHands$WorkWeek", "days", "I", false)
  | _ => ("DikeHands$WorkWeek", "next", "LDikeHands$WorkWeek;", false)
def tyX7 : Nat → FieldType := fun k => match k with
  | 0 => .int
  | 1 => .int
  | _ => .object "DikeHands$WorkWeek"
abbrev wsX70 : List Cond := u_ws RX7 TX7 3
theorem nmX7 : ∀ a, a < 3 → ∀ b, b < 3 → a ≠ b → (TX7 a).2.1 ≠ (TX7 b).2.1 := by decide +kernel
theorem tyX7_ok : ∀ k, k < 3 → parseFieldDescriptor (TX7 k).2.2.1 = some (tyX7 k) := by decide +kernel
abbrev cX7_init : ByteArray := prog_9_method_1_code
def yX7_init : MethodName := ⟨RX7, "<init>", "(I)V"⟩
def RX8 : String := "DikeHands"
def TX8 : u_T := fun k => match k with
  | 0 => ("DikeHands", "villages", "[LDikeHands$Village;", true)
  | 1 => ("DikeHands", "rods", "[LDikeHands$Rod;", true)
  | 2 => ("DikeHands", "houses", "[LDikeHands$House;", true)
  | 3 => ("DikeHands", "laws", "LDikeHands$LawBook;", true)
  | 4 => ("DikeHands", "plan", "LDikeHands$Plan;", true)
  | 5 => ("DikeHands", "levels", "[I", true)
  | 6 => ("DikeHands", "now", "I", false)
  | 7 => ("DikeHands", "houseCount", "I", false)
  | 8 => ("DikeHands", "changeCount", "I", false)
  | 9 => ("DikeHands", "chest", "I", false)
  | 10 => ("DikeHands", "lossCounted", "I", false)
  | 11 => ("DikeHands", "daysDone", "I", false)
  | 12 => ("DikeHands", "daysBought", "I", false)
  | _ => ("DikeHands", "daysHired", "I", false)
def tyX8 : Nat → FieldType := fun k => match k with
  | 0 => .array (.object "DikeHands$Village")
  | 1 => .array (.object "DikeHands$Rod")
  | 2 => .array (.object "DikeHands$House")
  | 3 => .object "DikeHands$LawBook"
  | 4 => .object "DikeHands$Plan"
  | 5 => .array .int
  | 6 => .int
  | 7 => .int
  | 8 => .int
  | 9 => .int
  | 10 => .int
  | 11 => .int
  | 12 => .int
  | _ => .int
theorem nmX8 : ∀ a, a < 14 → ∀ b, b < 14 → a ≠ b → (TX8 a).2.1 ≠ (TX8 b).2.1 := by decide +kernel
theorem tyX8_ok : ∀ k, k < 14 → parseFieldDescriptor (TX8 k).2.2.1 = some (tyX8 k) := by decide +kernel
abbrev cX8_init : ByteArray := prog_1_method_1_code
def yX8_init : MethodName := ⟨RX8, "<init>", "()V"⟩
abbrev cX8_village : ByteArray := prog_1_method_2_code
def yX8_village : MethodName := ⟨RX8, "village", "(II)Z"⟩
abbrev cX8_rod : ByteArray := prog_1_method_3_code
def yX8_rod : MethodName := ⟨RX8, "rod", "(III)Z"⟩
abbrev cX8_law : ByteArray := prog_1_method_4_code
def yX8_law : MethodName := ⟨RX8, "law", "(III)I"⟩
abbrev cX8_house : ByteArray := prog_1_method_5_code
def yX8_house : MethodName := ⟨RX8, "house", "(III)I"⟩
abbrev cX8_change : ByteArray := prog_1_method_6_code
def yX8_change : MethodName := ⟨RX8, "change", "(IIII)Z"⟩
abbrev cX8_listed : ByteArray := prog_1_method_7_code
def yX8_listed : MethodName := ⟨RX8, "listed", "(III)I"⟩
abbrev cX8_owed : ByteArray := prog_1_method_8_code
def yX8_owed : MethodName := ⟨RX8, "owed", "(II)I"⟩
abbrev cX8_work : ByteArray := prog_1_method_9_code
def yX8_work : MethodName := ⟨RX8, "work", "(IIII)I"⟩
abbrev cX8_buy : ByteArray := prog_1_method_10_code
def yX8_buy : MethodName := ⟨RX8, "buy", "(II)I"⟩
abbrev cX8_hire : ByteArray := prog_1_method_11_code
def yX8_hire : MethodName := ⟨RX8, "hire", "(II)I"⟩
abbrev cX8_river : ByteArray := prog_1_method_12_code
def yX8_river : MethodName := ⟨RX8, "river", "(III)Z"⟩
abbrev cX8_go : ByteArray := prog_1_method_13_code
def yX8_go : MethodName := ⟨RX8, "go", "(I)I"⟩
abbrev cX8_told : ByteArray := prog_1_method_14_code
def yX8_told : MethodName := ⟨RX8, "told", "(III)I"⟩
abbrev cX8_paper : ByteArray := prog_1_method_15_code
def yX8_paper : MethodName := ⟨RX8, "paper", "(I)Z"⟩
abbrev cX8_paperWeek : ByteArray := prog_1_method_16_code
def yX8_paperWeek : MethodName := ⟨RX8, "paperWeek", "(I)I"⟩
abbrev cX8_bank : ByteArray := prog_1_method_17_code
def yX8_bank : MethodName := ⟨RX8, "bank", "(III)I"⟩
abbrev cX8_saved : ByteArray := prog_1_method_18_code
def yX8_saved : MethodName := ⟨RX8, "saved", "(II)I"⟩
abbrev cX8_chosen : ByteArray := prog_1_method_19_code
def yX8_chosen : MethodName := ⟨RX8, "chosen", "(II)I"⟩
abbrev cX8_called : ByteArray := prog_1_method_20_code
def yX8_called : MethodName := ⟨RX8, "called", "(II)I"⟩
abbrev cX8_arrived : ByteArray := prog_1_method_21_code
def yX8_arrived : MethodName := ⟨RX8, "arrived", "(III)I"⟩
abbrev cX8_count : ByteArray := prog_1_method_22_code
def yX8_count : MethodName := ⟨RX8, "count", "(I)I"⟩
abbrev cX8_isWithin : ByteArray := prog_1_method_23_code
def yX8_isWithin : MethodName := ⟨RX8, "isWithin", "(II)Z"⟩
abbrev cX8_isVillage : ByteArray := prog_1_method_24_code
def yX8_isVillage : MethodName := ⟨RX8, "isVillage", "(I)Z"⟩
abbrev cX8_isRod : ByteArray := prog_1_method_25_code
def yX8_isRod : MethodName := ⟨RX8, "isRod", "(I)Z"⟩
abbrev cX8_isHolding : ByteArray := prog_1_method_26_code
def yX8_isHolding : MethodName := ⟨RX8, "isHolding", "(II)Z"⟩
abbrev cX8_isHouse : ByteArray := prog_1_method_27_code
def yX8_isHouse : MethodName := ⟨RX8, "isHouse", "(I)Z"⟩
abbrev cX8_isYearSoFar : ByteArray := prog_1_method_28_code
def yX8_isYearSoFar : MethodName := ⟨RX8, "isYearSoFar", "(I)Z"⟩
abbrev cX8_yearNow : ByteArray := prog_1_method_29_code
def yX8_yearNow : MethodName := ⟨RX8, "yearNow", "()I"⟩
abbrev cX8_daysOwed : ByteArray := prog_1_method_30_code
def yX8_daysOwed : MethodName := ⟨RX8, "daysOwed", "(LDikeHands$House;I)I"⟩
abbrev cX8_daysOwedYet : ByteArray := prog_1_method_31_code
def yX8_daysOwedYet : MethodName := ⟨RX8, "daysOwedYet", "(LDikeHands$House;I)I"⟩
abbrev cX8_canSubstitute : ByteArray := prog_1_method_32_code
def yX8_canSubstitute : MethodName := ⟨RX8, "canSubstitute", "(ILDikeHands$House;I)Z"⟩
abbrev cX8_endWeek : ByteArray := prog_1_method_33_code
def yX8_endWeek : MethodName := ⟨RX8, "endWeek", "(I)V"⟩
abbrev cX8_trueHands : ByteArray := prog_1_method_34_code
def yX8_trueHands : MethodName := ⟨RX8, "trueHands", "(II)I"⟩
abbrev cX8_firstPaperWeek : ByteArray := prog_1_method_35_code
def yX8_firstPaperWeek : MethodName := ⟨RX8, "firstPaperWeek", "(I)I"⟩
abbrev cX8_hourOfCall : ByteArray := prog_1_method_36_code
def yX8_hourOfCall : MethodName := ⟨RX8, "hourOfCall", "(II)I"⟩
abbrev cX8_hoursFor : ByteArray := prog_1_method_37_code
def yX8_hoursFor : MethodName := ⟨RX8, "hoursFor", "(III)I"⟩
abbrev cX8_dividedUp : ByteArray := prog_1_method_38_code
def yX8_dividedUp : MethodName := ⟨RX8, "dividedUp", "(II)I"⟩
def RX9 : String := "DikeHandsModel"
def TX9 : u_T := fun k => match k with
  | 0 => ("DikeHandsModel", "now", "I", false)
  | 1 => ("DikeHandsModel", "mile", "[I", true)
  | 2 => ("DikeHandsModel", "height", "[I", true)
  | 3 => ("DikeHandsModel", "soil", "[I", true)
  | 4 => ("DikeHandsModel", "loss", "[I", true)
  | 5 => ("DikeHandsModel", "broke", "[I", true)
  | 6 => ("DikeHandsModel", "worked", "[I", true)
  | 7 => ("DikeHandsModel", "houses", "I", false)
  | 8 => ("DikeHandsModel", "village", "[I", true)
  | 9 => ("DikeHandsModel", "came", "[I", true)
  | 10 => ("DikeHandsModel", "firstAcres", "[I", true)
  | 11 => ("DikeHandsModel", "firstHands", "[I", true)
  | 12 => ("DikeHandsModel", "changes", "I", false)
  | 13 => ("DikeHandsModel", "changeOf", "[I", true)
  | 14 => ("DikeHandsModel", "trueFrom", "[I", true)
  | 15 => ("DikeHandsModel", "toldAt", "[I", true)
  | 16 => ("DikeHandsModel", "acresTo", "[I", true)
  | 17 => ("DikeHandsModel", "handsTo", "[I", true)
  | 18 => ("DikeHandsModel", "laws", "I", false)
  | 19 => ("DikeHandsModel", "lawYear", "[I", true)
  | 20 => ("DikeHandsModel", "lawWhat", "[I", true)
  | 21 => ("DikeHandsModel", "lawCoin", "[I", true)
  | 22 => ("DikeHandsModel", "own", "[I", true)
  | 23 => ("DikeHandsModel", "others", "[I", true)
  | 24 => ("DikeHandsModel", "bought", "[I", true)
  | 25 => ("DikeHandsModel", "forOthers", "[I", true)
  | 26 => ("DikeHandsModel", "substitute", "[I", true)
  | 27 => ("DikeHandsModel", "did", "[I", true)
  | 28 => ("DikeHandsModel", "level", "[I", true)
  | 29 => ("DikeHandsModel", "chest", "I", false)
  | 30 => ("DikeHandsModel", "lost", "I", false)
  | 31 => ("DikeHandsModel", "daysDone", "I", false)
  | 32 => ("DikeHandsModel", "daysBought", "I", false)
  | 33 => ("DikeHandsModel", "daysHired", "I", false)
  | _ => ("DikeHandsModel", "most", "[I", true)
def tyX9 : Nat → FieldType := fun k => match k with
  | 0 => .int
  | 1 => .array .int
  | 2 => .array .int
  | 3 => .array .int
  | 4 => .array .int
  | 5 => .array .int
  | 6 => .array .int
  | 7 => .int
  | 8 => .array .int
  | 9 => .array .int
  | 10 => .array .int
  | 11 => .array .int
  | 12 => .int
  | 13 => .array .int
  | 14 => .array .int
  | 15 => .array .int
  | 16 => .array .int
  | 17 => .array .int
  | 18 => .int
  | 19 => .array .int
  | 20 => .array .int
  | 21 => .array .int
  | 22 => .array .int
  | 23 => .array .int
  | 24 => .array .int
  | 25 => .array .int
  | 26 => .array .int
  | 27 => .array .int
  | 28 => .array .int
  | 29 => .int
  | 30 => .int
  | 31 => .int
  | 32 => .int
  | 33 => .int
  | _ => .array .int
abbrev wsX90 : List Cond := u_ws RX9 TX9 35
theorem nmX9 : ∀ a, a < 35 → ∀ b, b < 35 → a ≠ b → (TX9 a).2.1 ≠ (TX9 b).2.1 := by decide +kernel
theorem tyX9_ok : ∀ k, k < 35 → parseFieldDescriptor (TX9 k).2.2.1 = some (tyX9 k) := by decide +kernel
abbrev cX9_init : ByteArray := prog_11_method_1_code
def yX9_init : MethodName := ⟨RX9, "<init>", "()V"⟩
abbrev cX9_in : ByteArray := prog_11_method_2_code
def yX9_in : MethodName := ⟨RX9, "in", "(III)Z"⟩
abbrev cX9_isVillage : ByteArray := prog_11_method_3_code
def yX9_isVillage : MethodName := ⟨RX9, "isVillage", "(I)Z"⟩
abbrev cX9_isRod : ByteArray := prog_11_method_4_code
def yX9_isRod : MethodName := ⟨RX9, "isRod", "(I)Z"⟩
abbrev cX9_isHouse : ByteArray := prog_11_method_5_code
def yX9_isHouse : MethodName := ⟨RX9, "isHouse", "(I)Z"⟩
abbrev cX9_isYear : ByteArray := prog_11_method_6_code
def yX9_isYear : MethodName := ⟨RX9, "isYear", "(I)Z"⟩
abbrev cX9_village : ByteArray := prog_11_method_7_code
def yX9_village : MethodName := ⟨RX9, "village", "(II)Z"⟩
abbrev cX9_rod : ByteArray := prog_11_method_8_code
def yX9_rod : MethodName := ⟨RX9, "rod", "(III)Z"⟩
abbrev cX9_law : ByteArray := prog_11_method_9_code
def yX9_law : MethodName := ⟨RX9, "law", "(III)I"⟩
abbrev cX9_lawOf : ByteArray := prog_11_method_10_code
def yX9_lawOf : MethodName := ⟨RX9, "lawOf", "(I)I"⟩
abbrev cX9_coinNow : ByteArray := prog_11_method_11_code
def yX9_coinNow : MethodName := ⟨RX9, "coinNow", "()I"⟩
abbrev cX9_house : ByteArray := prog_11_method_12_code
def yX9_house : MethodName := ⟨RX9, "house", "(III)I"⟩
abbrev cX9_change : ByteArray := prog_11_method_13_code
def yX9_change : MethodName := ⟨RX9, "change", "(IIII)Z"⟩
abbrev cX9_isListed : ByteArray := prog_11_method_14_code
def yX9_isListed : MethodName := ⟨RX9, "isListed", "(II)Z"⟩
abbrev cX9_listedOf : ByteArray := prog_11_method_15_code
def yX9_listedOf : MethodName := ⟨RX9, "listedOf", "(III)I"⟩
abbrev cX9_listed : ByteArray := prog_11_method_16_code
def yX9_listed : MethodName := ⟨RX9, "listed", "(III)I"⟩
abbrev cX9_trueHands : ByteArray := prog_11_method_17_code
def yX9_trueHands : MethodName := ⟨RX9, "trueHands", "(II)I"⟩
abbrev cX9_villageHands : ByteArray := prog_11_method_18_code
def yX9_villageHands : MethodName := ⟨RX9, "villageHands", "(II)I"⟩
abbrev cX9_owedOf : ByteArray := prog_11_method_19_code
def yX9_owedOf : MethodName := ⟨RX9, "owedOf", "(II)I"⟩
abbrev cX9_owed : ByteArray := prog_11_method_20_code
def yX9_owed : MethodName := ⟨RX9, "owed", "(II)I"⟩
abbrev cX9_yet : ByteArray := prog_11_method_21_code
def yX9_yet : MethodName := ⟨RX9, "yet", "(II)I"⟩
abbrev cX9_perDay : ByteArray := prog_11_method_22_code
def yX9_perDay : MethodName := ⟨RX9, "perDay", "(I)I"⟩
abbrev cX9_raises : ByteArray := prog_11_method_23_code
def yX9_raises : MethodName := ⟨RX9, "raises", "(II)V"⟩
abbrev cX9_work : ByteArray := prog_11_method_24_code
def yX9_work : MethodName := ⟨RX9, "work", "(IIII)I"⟩
abbrev cX9_buy : ByteArray := prog_11_method_25_code
def yX9_buy : MethodName := ⟨RX9, "buy", "(II)I"⟩
abbrev cX9_hire : ByteArray := prog_11_method_26_code
def yX9_hire : MethodName := ⟨RX9, "hire", "(II)I"⟩
abbrev cX9_river : ByteArray := prog_11_method_27_code
def yX9_river : MethodName := ⟨RX9, "river", "(III)Z"⟩
abbrev cX9_go : ByteArray := prog_11_method_28_code
def yX9_go : MethodName := ⟨RX9, "go", "(I)I"⟩
abbrev cX9_ends : ByteArray := prog_11_method_29_code
def yX9_ends : MethodName := ⟨RX9, "ends", "(II)V"⟩
abbrev cX9_told : ByteArray := prog_11_method_30_code
def yX9_told : MethodName := ⟨RX9, "told", "(III)I"⟩
abbrev cX9_paperWeek : ByteArray := prog_11_method_31_code
def yX9_paperWeek : MethodName := ⟨RX9, "paperWeek", "(I)I"⟩
abbrev cX9_paper : ByteArray := prog_11_method_32_code
def yX9_paper : MethodName := ⟨RX9, "paper", "(I)Z"⟩
abbrev cX9_needs : ByteArray := prog_11_method_33_code
def yX9_needs : MethodName := ⟨RX9, "needs", "(II)I"⟩
abbrev cX9_bank : ByteArray := prog_11_method_34_code
def yX9_bank : MethodName := ⟨RX9, "bank", "(III)I"⟩
abbrev cX9_plans : ByteArray := prog_11_method_35_code
def yX9_plans : MethodName := ⟨RX9, "plans", "(I)V"⟩
abbrev cX9_isPlan : ByteArray := prog_11_method_36_code
def yX9_isPlan : MethodName := ⟨RX9, "isPlan", "(II)Z"⟩
abbrev cX9_saved : ByteArray := prog_11_method_37_code
def yX9_saved : MethodName := ⟨RX9, "saved", "(II)I"⟩
abbrev cX9_chosen : ByteArray := prog_11_method_38_code
def yX9_chosen : MethodName := ⟨RX9, "chosen", "(II)I"⟩
abbrev cX9_hours : ByteArray := prog_11_method_39_code
def yX9_hours : MethodName := ⟨RX9, "hours", "(III)I"⟩
abbrev cX9_called : ByteArray := prog_11_method_40_code
def yX9_called : MethodName := ⟨RX9, "called", "(II)I"⟩
abbrev cX9_arrived : ByteArray := prog_11_method_41_code
def yX9_arrived : MethodName := ⟨RX9, "arrived", "(III)I"⟩
abbrev cX9_count : ByteArray := prog_11_method_42_code
def yX9_count : MethodName := ⟨RX9, "count", "(I)I"⟩
def RJ9 : String := "java/lang/Math"
def TJ9 : u_T := fun k => match k with
  | _ => ("", "", "", false)
def tyJ9 : Nat → FieldType := fun k => match k with
  | _ => .int
abbrev wsJ90 : List Cond := u_ws RJ9 TJ9 0
theorem nmJ9 : ∀ a, a < 0 → ∀ b, b < 0 → a ≠ b → (TJ9 a).2.1 ≠ (TJ9 b).2.1 := by decide +kernel
theorem tyJ9_ok : ∀ k, k < 0 → parseFieldDescriptor (TJ9 k).2.2.1 = some (tyJ9 k) := by decide +kernel
abbrev cJ9_abs_0f7a4 : ByteArray := prog_12_method_59_code
def yJ9_abs_0f7a4 : MethodName := ⟨RJ9, "abs", "(I)I"⟩
abbrev cJ9_max_7cf53 : ByteArray := prog_12_method_65_code
def yJ9_max_7cf53 : MethodName := ⟨RJ9, "max", "(II)I"⟩
abbrev cJ9_max_f86c9 : ByteArray := prog_12_method_66_code
def yJ9_max_f86c9 : MethodName := ⟨RJ9, "max", "(JJ)J"⟩
abbrev cJ9_min_7cf53 : ByteArray := prog_12_method_69_code
def yJ9_min_7cf53 : MethodName := ⟨RJ9, "min", "(II)I"⟩
def RL : String := "DikeHandsLaw"
abbrev cL_law : ByteArray := code
def yL_law : MethodName := ⟨RL, "law", "([I)Z"⟩
def wsJ9_abs_0f7a4 : List Cond := .code yJ9_abs_0f7a4 cJ9_abs_0f7a4 1 (some .int) :: ([])
def wsJ9_max_7cf53 : List Cond := .code yJ9_max_7cf53 cJ9_max_7cf53 2 (some .int) :: ([])
def wsJ9_max_f86c9 : List Cond := .code yJ9_max_f86c9 cJ9_max_f86c9 4 (some .long) :: ([])
def wsJ9_min_7cf53 : List Cond := .code yJ9_min_7cf53 cJ9_min_7cf53 2 (some .int) :: ([])
abbrev vwCl : List vw_C := [(RX0, TX0, 8), (RX1, TX1, 5), (RX2, TX2, 3), (RX3, TX3, 1), (RX4, TX4, 5), (RX5, TX5, 5), (RX6, TX6, 3), (RX7, TX7, 3), (RX8, TX8, 14), (RX9, TX9, 35)]
def wsX8_isWithin : List Cond := .code yX8_isWithin cX8_isWithin 2 (some .boolean) :: ([])
def wsX8_dividedUp : List Cond := .code yX8_dividedUp cX8_dividedUp 2 (some .int) :: ([])
end
section
def wsX5_init : List Cond := .code yX5_init cX5_init 6 none :: ([.methodLink RX5 1 objectInit, .instanceMethod objectInit, .code objectInit ⟨#[0xb1]⟩ 1 none, .fieldLink RX5 7 "DikeHands$Telling" "told" "I", .fieldLink RX5 13 "DikeHands$Telling" "from" "I", .fieldLink RX5 16 "DikeHands$Telling" "acres" "I", .fieldLink RX5 19 "DikeHands$Telling" "hands" "I", .fieldLink RX5 22 "DikeHands$Telling" "earlier" "LDikeHands$Telling;"] ++ wsX50)
def wsX0_init : List Cond := .code yX0_init cX0_init 6 none :: ([.methodLink RX0 3 objectInit, .instanceMethod objectInit, .code objectInit ⟨#[0xb1]⟩ 1 none, .arrayClass .int, .fieldLink RX0 11 "DikeHands$House" "byItself" "[I", .fieldLink RX0 15 "DikeHands$House" "bySubstitute" "[I", .fieldLink RX0 18 "DikeHands$House" "bought" "[I", .fieldLink RX0 21 "DikeHands$House" "asSubstitute" "[I", .fieldLink RX0 24 "DikeHands$House" "substitute" "[I", .fieldLink RX0 27 "DikeHands$House" "home" "I", .fieldLink RX0 31 "DikeHands$House" "came" "I", .classLink RX0 34 RX5, .instantiable RX5 5, .initialized RX5, .fieldLink RX0 39 "DikeHands$House" "latest" "LDikeHands$Telling;", .methodLink RX0 36 yX5_init, .instanceMethod yX5_init, .code yX5_init cX5_init 6 none, .methodLink RX5 1 objectInit, .fieldLink RX5 7 "DikeHands$Telling" "told" "I", .fieldLink RX5 13 "DikeHands$Telling" "from" "I", .fieldLink RX5 16 "DikeHands$Telling" "acres" "I", .fieldLink RX5 19 "DikeHands$Telling" "hands" "I", .fieldLink RX5 22 "DikeHands$Telling" "earlier" "LDikeHands$Telling;"] ++ wsX00 ++ wsX50)
def wsX0_learn : List Cond := .code yX0_learn cX0_learn 5 none :: ([.classLink RX0 34 RX5, .instantiable RX5 5, .initialized RX5, .fieldLink RX0 39 "DikeHands$House" "latest" "LDikeHands$Telling;", .methodLink RX0 36 yX5_init, .instanceMethod yX5_init, .code yX5_init cX5_init 6 none, .methodLink RX5 1 objectInit, .instanceMethod objectInit, .code objectInit ⟨#[0xb1]⟩ 1 none, .fieldLink RX5 7 "DikeHands$Telling" "told" "I", .fieldLink RX5 13 "DikeHands$Telling" "from" "I", .fieldLink RX5 16 "DikeHands$Telling" "acres" "I", .fieldLink RX5 19 "DikeHands$Telling" "hands" "I", .fieldLink RX5 22 "DikeHands$Telling" "earlier" "LDikeHands$Telling;"] ++ wsX50 ++ wsX00)
def wsX0_toldAheadOf : List Cond := .code yX0_toldAheadOf cX0_toldAheadOf 3 (some (.object "DikeHands$Telling")) :: ([.fieldLink RX0 39 "DikeHands$House" "latest" "LDikeHands$Telling;", .fieldLink RX0 43 "DikeHands$Telling" "told" "I", .fieldLink RX0 46 "DikeHands$Telling" "earlier" "LDikeHands$Telling;"] ++ wsX00 ++ wsX50)
def wsX0_handsIn : List Cond := .code yX0_handsIn cX0_handsIn 5 (some .int) :: ([.fieldLink RX0 39 "DikeHands$House" "latest" "LDikeHands$Telling;", .fieldLink RX0 49 "DikeHands$Telling" "from" "I", .fieldLink RX0 52 "DikeHands$Telling" "hands" "I", .fieldLink RX0 46 "DikeHands$Telling" "earlier" "LDikeHands$Telling;"] ++ wsX00 ++ wsX50)
def wsX0_daysMet : List Cond := .code yX0_daysMet cX0_daysMet 2 (some .int) :: ([.fieldLink RX0 11 "DikeHands$House" "byItself" "[I", .fieldLink RX0 15 "DikeHands$House" "bySubstitute" "[I", .fieldLink RX0 18 "DikeHands$House" "bought" "[I"] ++ wsX00)
def wsX1_init : List Cond := .code yX1_init cX1_init 4 none :: ([.methodLink RX1 3 objectInit, .instanceMethod objectInit, .code objectInit ⟨#[0xb1]⟩ 1 none, .fieldLink RX1 9 "DikeHands$Law" "year" "I", .fieldLink RX1 15 "DikeHands$Law" "daysForTenAcres" "I", .fieldLink RX1 18 "DikeHands$Law" "daysForHand" "I", .fieldLink RX1 21 "DikeHands$Law" "exempt" "I", .fieldLink RX1 24 "DikeHands$Law" "coin" "I"] ++ wsX10)
def wsX1_canBe : List Cond := .code yX1_canBe cX1_canBe 1 (some .boolean) :: ([.constant RX1 27 (99999), .static yX8_isWithin, .initialized RX8, .code yX8_isWithin cX8_isWithin 2 (some .boolean)])
def wsX1_daysFor : List Cond := .code yX1_daysFor cX1_daysFor 2 (some .int) :: ([.fieldLink RX1 32 "DikeHands$Telling" "acres" "I", .fieldLink RX1 21 "DikeHands$Law" "exempt" "I", .fieldLink RX1 15 "DikeHands$Law" "daysForTenAcres" "I", .fieldLink RX1 37 "DikeHands$Telling" "hands" "I", .fieldLink RX1 18 "DikeHands$Law" "daysForHand" "I"] ++ wsX50 ++ wsX10)
def wsX2_init : List Cond := .code yX2_init cX2_init 1 none :: ([.methodLink RX2 3 objectInit, .instanceMethod objectInit, .code objectInit ⟨#[0xb1]⟩ 1 none, .classLink RX2 9 RX1, .fieldLink RX2 11 "DikeHands$LawBook" "laws" "[LDikeHands$Law;", .instantiable RX1 5, .initialized RX1, .fieldLink RX2 20 "DikeHands$LawBook" "noLaw" "LDikeHands$Law;", .fieldLink RX2 24 "DikeHands$LawBook" "size" "I", .methodLink RX2 17 yX1_init, .instanceMethod yX1_init, .code yX1_init cX1_init 4 none, .methodLink RX1 3 objectInit, .fieldLink RX1 9 "DikeHands$Law" "year" "I", .fieldLink RX1 15 "DikeHands$Law" "daysForTenAcres" "I", .fieldLink RX1 18 "DikeHands$Law" "daysForHand" "I", .fieldLink RX1 21 "DikeHands$Law" "exempt" "I", .fieldLink RX1 24 "DikeHands$Law" "coin" "I"] ++ wsX20 ++ wsX10)
def wsX2_isFull : List Cond := .code yX2_isFull cX2_isFull 1 (some .boolean) :: ([.fieldLink RX2 24 "DikeHands$LawBook" "size" "I"] ++ wsX20)
def wsX2_add : List Cond := .code yX2_add cX2_add 2 none :: ([.fieldLink RX2 11 "DikeHands$LawBook" "laws" "[LDikeHands$Law;", .fieldLink RX2 24 "DikeHands$LawBook" "size" "I", .methodLink RX2 28 yX2_isFull, .instanceMethod yX2_isFull, .selects RX2 yX2_isFull yX2_isFull, .initialized RX2, .code yX2_isFull cX2_isFull 1 (some .boolean)] ++ wsX20)
def wsX2_ofYear : List Cond := .code yX2_ofYear cX2_ofYear 4 (some (.object "DikeHands$Law")) :: ([.fieldLink RX2 20 "DikeHands$LawBook" "noLaw" "LDikeHands$Law;", .fieldLink RX2 24 "DikeHands$LawBook" "size" "I", .fieldLink RX2 11 "DikeHands$LawBook" "laws" "[LDikeHands$Law;", .fieldLink RX2 32 "DikeHands$Law" "year" "I"] ++ wsX20 ++ wsX10)
def wsX3_init : List Cond := .code yX3_init cX3_init 1 none :: ([.methodLink RX3 5 objectInit, .instanceMethod objectInit, .code objectInit ⟨#[0xb1]⟩ 1 none, .arrayClass .long, .fieldLink RX3 11 "DikeHands$Plan" "worthWithin" "[J"] ++ wsX30)
def wsX4_growthOfDay : List Cond := .code yX4_growthOfDay cX4_growthOfDay 1 (some .int) :: ([.fieldLink RX4 13 "DikeHands$Rod" "soil" "I"] ++ wsX40)
def wsX4_daysTo : List Cond := .code yX4_daysTo cX4_daysTo 2 (some .int) :: ([.fieldLink RX4 9 "DikeHands$Rod" "height" "I", .methodLink RX4 25 yX4_growthOfDay, .instanceMethod yX4_growthOfDay, .selects RX4 yX4_growthOfDay yX4_growthOfDay, .initialized RX4, .code yX4_growthOfDay cX4_growthOfDay 1 (some .int), .fieldLink RX4 13 "DikeHands$Rod" "soil" "I", .static yX8_dividedUp, .initialized RX8, .code yX8_dividedUp cX8_dividedUp 2 (some .int)] ++ wsX40)
def wsX3_offer : List Cond := .code yX3_offer cX3_offer 6 none :: ([.fieldLink RX3 11 "DikeHands$Plan" "worthWithin" "[J", .methodLink RX3 36 Lib.MathLoose.max_long.x, .static Lib.MathLoose.max_long.x, .initialized "java/lang/Math", .code Lib.MathLoose.max_long.x Lib.MathLoose.max_long.code 4 (some .long)] ++ wsX30)
def wsX3_bestWorth_r1 : List Cond := [Cond.fieldLink RX3 11 "DikeHands$Plan" "worthWithin" "[J", Cond.fieldLink RX3 19 "DikeHands$Rod" "height" "I", Cond.fieldLink RX3 29 "DikeHands$Rod" "loss" "I", Cond.static yX8_isWithin, Cond.initialized RX8, Cond.code yX8_isWithin cX8_isWithin 2 (some .boolean), Cond.methodLink RX3 25 yX4_daysTo, Cond.instanceMethod yX4_daysTo, Cond.selects RX4 yX4_daysTo yX4_daysTo, Cond.initialized RX4, Cond.code yX4_daysTo cX4_daysTo 2 (some .int), Cond.fieldLink RX4 9 "DikeHands$Rod" "height" "I", Cond.methodLink RX4 25 yX4_growthOfDay, Cond.instanceMethod yX4_growthOfDay, Cond.selects RX4 yX4_growthOfDay yX4_growthOfDay, Cond.code yX4_growthOfDay cX4_growthOfDay 1 (some .int), Cond.fieldLink RX4 13 "DikeHands$Rod" "soil" "I", Cond.static yX8_dividedUp, Cond.code yX8_dividedUp cX8_dividedUp 2 (some .int), Cond.methodLink RX3 32 yX3_offer, Cond.instanceMethod yX3_offer, Cond.selects RX3 yX3_offer yX3_offer, Cond.initialized RX3, Cond.code yX3_offer cX3_offer 6 none]
def wsX3_bestWorth_r2 : List Cond := [Cond.methodLink RX3 36 Lib.MathLoose.max_long.x, Cond.static Lib.MathLoose.max_long.x, Cond.initialized "java/lang/Math", Cond.code Lib.MathLoose.max_long.x Lib.MathLoose.max_long.code 4 (some .long)]
def wsX3_bestWorth : List Cond := .code yX3_bestWorth cX3_bestWorth 5 (some .long) :: ((wsX3_bestWorth_r1 ++ wsX3_bestWorth_r2) ++ wsX30 ++ wsX40)
def wsX3_lossOf : List Cond := .code yX3_lossOf cX3_lossOf 2 (some .int) :: ([.constantLong RX3 42 (1073741824)])
def wsX3_heapOf : List Cond := .code yX3_heapOf cX3_heapOf 2 (some .int) :: ([.methodLink RX3 44 yX3_lossOf, .static yX3_lossOf, .initialized RX3, .code yX3_lossOf cX3_lossOf 2 (some .int), .constantLong RX3 42 (1073741824)])
def wsX4_init : List Cond := .code yX4_init cX4_init 1 none :: ([.methodLink RX4 1 objectInit, .instanceMethod objectInit, .code objectInit ⟨#[0xb1]⟩ 1 none, .fieldLink RX4 9 "DikeHands$Rod" "height" "I", .fieldLink RX4 13 "DikeHands$Rod" "soil" "I", .fieldLink RX4 16 "DikeHands$Rod" "loss" "I", .fieldLink RX4 19 "DikeHands$Rod" "breaks" "I", .fieldLink RX4 22 "DikeHands$Rod" "days" "I"] ++ wsX40)
def wsX4_raise : List Cond := .code yX4_raise cX4_raise 2 none :: ([.fieldLink RX4 9 "DikeHands$Rod" "height" "I", .methodLink RX4 29 Lib.Math.min.name, .static Lib.Math.min.name, .initialized "java/lang/Math", .code Lib.Math.min.name Lib.Math.min.code 2 (some .int), .fieldLink RX4 22 "DikeHands$Rod" "days" "I", .methodLink RX4 25 yX4_growthOfDay, .instanceMethod yX4_growthOfDay, .selects RX4 yX4_growthOfDay yX4_growthOfDay, .initialized RX4, .code yX4_growthOfDay cX4_growthOfDay 1 (some .int), .fieldLink RX4 13 "DikeHands$Rod" "soil" "I"] ++ wsX40)
def wsX4_wear : List Cond := .code yX4_wear cX4_wear 2 (some .int) :: ([.fieldLink RX4 9 "DikeHands$Rod" "height" "I", .fieldLink RX4 19 "DikeHands$Rod" "breaks" "I", .fieldLink RX4 16 "DikeHands$Rod" "loss" "I"] ++ wsX40)
def wsX6_init : List Cond := .code yX6_init cX6_init 1 none :: ([.methodLink RX6 1 objectInit, .instanceMethod objectInit, .code objectInit ⟨#[0xb1]⟩ 1 none, .fieldLink RX6 7 "DikeHands$Village" "mile" "I"] ++ wsX60)
def wsX7_init : List Cond := .code yX7_init cX7_init 2 none :: ([.methodLink RX7 1 objectInit, .instanceMethod objectInit, .code objectInit ⟨#[0xb1]⟩ 1 none, .fieldLink RX7 7 "DikeHands$WorkWeek" "week" "I"] ++ wsX70)
def wsX6_addDays : List Cond := .code yX6_addDays cX6_addDays 3 none :: ([.fieldLink RX6 13 "DikeHands$Village" "lastWork" "LDikeHands$WorkWeek;", .classLink RX6 17 RX7, .instantiable RX7 3, .initialized RX7, .fieldLink RX6 22 "DikeHands$Village" "firstWork" "LDikeHands$WorkWeek;", .fieldLink RX6 25 "DikeHands$WorkWeek" "week" "I", .fieldLink RX6 28 "DikeHands$WorkWeek" "next" "LDikeHands$WorkWeek;", .fieldLink RX6 31 "DikeHands$WorkWeek" "days" "I", .methodLink RX6 19 yX7_init, .instanceMethod yX7_init, .code yX7_init cX7_init 2 none, .methodLink RX7 1 objectInit, .instanceMethod objectInit, .code objectInit ⟨#[0xb1]⟩ 1 none, .fieldLink RX7 7 "DikeHands$WorkWeek" "week" "I"] ++ wsX60 ++ wsX70)
set_option maxRecDepth 20000 in
theorem ggX0_init_X5_init : GoodIn wsX0_init wsX5_init := goodIn_r _ [18, 19, 2, 3, 20, 21, 22, 23, 24, 33, 34, 35, 36, 37] (by decide +kernel) (by decide +kernel)
set_option maxRecDepth 20000 in
theorem gX0_init_X5_init : GoodIn wsX0_init (wsX5_init) := ggX0_init_X5_init
theorem dX0_init_0 : decode cX0_init 0 = .ok (.aload_n 0, 1) := by decide +kernel
theorem dX0_init_1 : decode cX0_init 1 = .ok (.invokespecial 3, 3) := by decide +kernel
theorem dX0_init_4 : decode cX0_init 4 = .ok (.aload_n 0, 1) := by decide +kernel
theorem dX0_init_5 : decode cX0_init 5 = .ok (.bipush 21, 2) := by decide +kernel
theorem dX0_init_7 : decode cX0_init 7 = .ok (.newarray .int, 2) := by decide +kernel
theorem dX0_init_9 : decode cX0_init 9 = .ok (.putfield 11, 3) := by decide +kernel
theorem dX0_init_12 : decode cX0_init 12 = .ok (.aload_n 0, 1) := by decide +kernel
theorem dX0_init_13 : decode cX0_init 13 = .ok (.bipush 21, 2) := by decide +kernel
theorem dX0_init_15 : decode cX0_init 15 = .ok (.newarray .int, 2) := by decide +kernel
theorem dX0_init_17 : decode cX0_init 17 = .ok (.putfield 15, 3) := by decide +kernel
theorem dX0_init_20 : decode cX0_init 20 = .ok (.aload_n 0, 1) := by decide +kernel
theorem dX0_init_21 : decode cX0_init 21 = .ok (.bipush 21, 2) := by decide +kernel
theorem dX0_init_23 : decode cX0_init 23 = .ok (.newarray .int, 2) := by decide +kernel
theorem dX0_init_25 : decode cX0_init 25 = .ok (.putfield 18, 3) := by decide +kernel
theorem dX0_init_28 : decode cX0_init 28 = .ok (.aload_n 0, 1) := by decide +kernel
theorem dX0_init_29 : decode cX0_init 29 = .ok (.bipush 21, 2) := by decide +kernel
theorem dX0_init_31 : decode cX0_init 31 = .ok (.newarray .int, 2) := by decide +kernel
theorem dX0_init_33 : decode cX0_init 33 = .ok (.putfield 21, 3) := by decide +kernel
theorem dX0_init_36 : decode cX0_init 36 = .ok (.aload_n 0, 1) := by decide +kernel
theorem dX0_init_37 : decode cX0_init 37 = .ok (.bipush 21, 2) := by decide +kernel
theorem dX0_init_39 : decode cX0_init 39 = .ok (.newarray .int, 2) := by decide +kernel
theorem dX0_init_41 : decode cX0_init 41 = .ok (.putfield 24, 3) := by decide +kernel
theorem dX0_init_44 : decode cX0_init 44 = .ok (.aload_n 0, 1) := by decide +kernel
theorem dX0_init_45 : decode cX0_init 45 = .ok (.iload_n 1, 1) := by decide +kernel
theorem dX0_init_46 : decode cX0_init 46 = .ok (.putfield 27, 3) := by decide +kernel
theorem dX0_init_49 : decode cX0_init 49 = .ok (.aload_n 0, 1) := by decide +kernel
theorem dX0_init_50 : decode cX0_init 50 = .ok (.iload_n 2, 1) := by decide +kernel
theorem dX0_init_51 : decode cX0_init 51 = .ok (.putfield 31, 3) := by decide +kernel
theorem dX0_init_54 : decode cX0_init 54 = .ok (.aload_n 0, 1) := by decide +kernel
theorem dX0_init_55 : decode cX0_init 55 = .ok (.new 34, 3) := by decide +kernel
theorem dX0_init_58 : decode cX0_init 58 = .ok (.dup, 1) := by decide +kernel
theorem dX0_init_59 : decode cX0_init 59 = .ok (.iload_n 2, 1) := by decide +kernel
theorem dX0_init_60 : decode cX0_init 60 = .ok (.iload_n 2, 1) := by decide +kernel
theorem dX0_init_61 : decode cX0_init 61 = .ok (.iload_n 3, 1) := by decide +kernel
theorem dX0_init_62 : decode cX0_init 62 = .ok (.iload 4, 2) := by decide +kernel
theorem dX0_init_64 : decode cX0_init 64 = .ok (.aconst_null, 1) := by decide +kernel
theorem dX0_init_65 : decode cX0_init 65 = .ok (.invokespecial 36, 3) := by decide +kernel
theorem dX0_init_68 : decode cX0_init 68 = .ok (.putfield 39, 3) := by decide +kernel
theorem dX0_init_71 : decode cX0_init 71 = .ok (.iconst 0, 1) := by decide +kernel
theorem dX0_init_72 : decode cX0_init 72 = .ok (.istore 5, 2) := by decide +kernel
theorem dX0_init_74 : decode cX0_init 74 = .ok (.iload 5, 2) := by decide +kernel
theorem dX0_init_76 : decode cX0_init 76 = .ok (.bipush 21, 2) := by decide +kernel
theorem dX0_init_78 : decode cX0_init 78 = .ok (.if_icmp .ge 17, 3) := by decide +kernel
theorem dX0_init_81 : decode cX0_init 81 = .ok (.aload_n 0, 1) := by decide +kernel
theorem dX0_init_82 : decode cX0_init 82 = .ok (.getfield 24, 3) := by decide +kernel
theorem dX0_init_85 : decode cX0_init 85 = .ok (.iload 5, 2) := by decide +kernel
theorem dX0_init_87 : decode cX0_init 87 = .ok (.iconst (-1), 1) := by decide +kernel
theorem dX0_init_88 : decode cX0_init 88 = .ok (.iastore, 1) := by decide +kernel
theorem dX0_init_89 : decode cX0_init 89 = .ok (.iinc 5 1, 3) := by decide +kernel
theorem dX0_init_92 : decode cX0_init 92 = .ok (.goto (-18), 3) := by decide +kernel
theorem dX0_init_95 : decode cX0_init 95 = .ok (.return_, 1) := by decide +kernel
set_option maxRecDepth 20000 in
theorem ggX0_learn_X5_init : GoodIn wsX0_learn wsX5_init := goodIn_r _ [7, 8, 9, 10, 11, 12, 13, 14, 15, 16, 17, 18, 19, 20] (by decide +kernel) (by decide +kernel)
set_option maxRecDepth 20000 in
theorem gX0_learn_X5_init : GoodIn wsX0_learn (wsX5_init) := ggX0_learn_X5_init
theorem dX0_learn_0 : decode cX0_learn 0 = .ok (.aload_n 0, 1) := by decide +kernel
theorem dX0_learn_1 : decode cX0_learn 1 = .ok (.new 34, 3) := by decide +kernel
theorem dX0_learn_4 : decode cX0_learn 4 = .ok (.dup, 1) := by decide +kernel
theorem dX0_learn_5 : decode cX0_learn 5 = .ok (.iload_n 1, 1) := by decide +kernel
theorem dX0_learn_6 : decode cX0_learn 6 = .ok (.iload_n 2, 1) := by decide +kernel
theorem dX0_learn_7 : decode cX0_learn 7 = .ok (.iload_n 3, 1) := by decide +kernel
theorem dX0_learn_8 : decode cX0_learn 8 = .ok (.iload 4, 2) := by decide +kernel
theorem dX0_learn_10 : decode cX0_learn 10 = .ok (.aload_n 0, 1) := by decide +kernel
theorem dX0_learn_11 : decode cX0_learn 11 = .ok (.getfield 39, 3) := by decide +kernel
theorem dX0_learn_14 : decode cX0_learn 14 = .ok (.invokespecial 36, 3) := by decide +kernel
theorem dX0_learn_17 : decode cX0_learn 17 = .ok (.putfield 39, 3) := by decide +kernel
theorem dX0_learn_20 : decode cX0_learn 20 = .ok (.return_, 1) := by decide +kernel
theorem dX0_toldAheadOf_0 : decode cX0_toldAheadOf 0 = .ok (.aload_n 0, 1) := by decide +kernel
theorem dX0_toldAheadOf_1 : decode cX0_toldAheadOf 1 = .ok (.getfield 39, 3) := by decide +kernel
theorem dX0_toldAheadOf_4 : decode cX0_toldAheadOf 4 = .ok (.astore_n 2, 1) := by decide +kernel
theorem dX0_toldAheadOf_5 : decode cX0_toldAheadOf 5 = .ok (.aload_n 2, 1) := by decide +kernel
theorem dX0_toldAheadOf_6 : decode cX0_toldAheadOf 6 = .ok (.ifnull 21, 3) := by decide +kernel
theorem dX0_toldAheadOf_9 : decode cX0_toldAheadOf 9 = .ok (.aload_n 2, 1) := by decide +kernel
theorem dX0_toldAheadOf_10 : decode cX0_toldAheadOf 10 = .ok (.getfield 43, 3) := by decide +kernel
theorem dX0_toldAheadOf_13 : decode cX0_toldAheadOf 13 = .ok (.iload_n 1, 1) := by decide +kernel
theorem dX0_toldAheadOf_14 : decode cX0_toldAheadOf 14 = .ok (.if_icmp .ge 5, 3) := by decide +kernel
theorem dX0_toldAheadOf_17 : decode cX0_toldAheadOf 17 = .ok (.aload_n 2, 1) := by decide +kernel
theorem dX0_toldAheadOf_18 : decode cX0_toldAheadOf 18 = .ok (.areturn, 1) := by decide +kernel
theorem dX0_toldAheadOf_19 : decode cX0_toldAheadOf 19 = .ok (.aload_n 2, 1) := by decide +kernel
theorem dX0_toldAheadOf_20 : decode cX0_toldAheadOf 20 = .ok (.getfield 46, 3) := by decide +kernel
theorem dX0_toldAheadOf_23 : decode cX0_toldAheadOf 23 = .ok (.astore_n 2, 1) := by decide +kernel
theorem dX0_toldAheadOf_24 : decode cX0_toldAheadOf 24 = .ok (.goto (-19), 3) := by decide +kernel
theorem dX0_toldAheadOf_27 : decode cX0_toldAheadOf 27 = .ok (.aconst_null, 1) := by decide +kernel
theorem dX0_toldAheadOf_28 : decode cX0_toldAheadOf 28 = .ok (.areturn, 1) := by decide +kernel
theorem dX0_handsIn_0 : decode cX0_handsIn 0 = .ok (.iconst (-1), 1) := by decide +kernel
theorem dX0_handsIn_1 : decode cX0_handsIn 1 = .ok (.istore_n 2, 1) := by decide +kernel
theorem dX0_handsIn_2 : decode cX0_handsIn 2 = .ok (.iconst 0, 1) := by decide +kernel
theorem dX0_handsIn_3 : decode cX0_handsIn 3 = .ok (.istore_n 3, 1) := by decide +kernel
theorem dX0_handsIn_4 : decode cX0_handsIn 4 = .ok (.aload_n 0, 1) := by decide +kernel
theorem dX0_handsIn_5 : decode cX0_handsIn 5 = .ok (.getfield 39, 3) := by decide +kernel
theorem dX0_handsIn_8 : decode cX0_handsIn 8 = .ok (.astore 4, 2) := by decide +kernel
theorem dX0_handsIn_10 : decode cX0_handsIn 10 = .ok (.aload 4, 2) := by decide +kernel
theorem dX0_handsIn_12 : decode cX0_handsIn 12 = .ok (.ifnull 43, 3) := by decide +kernel
theorem dX0_handsIn_15 : decode cX0_handsIn 15 = .ok (.aload 4, 2) := by decide +kernel
theorem dX0_handsIn_17 : decode cX0_handsIn 17 = .ok (.getfield 49, 3) := by decide +kernel
theorem dX0_handsIn_20 : decode cX0_handsIn 20 = .ok (.iload_n 1, 1) := by decide +kernel
theorem dX0_handsIn_21 : decode cX0_handsIn 21 = .ok (.if_icmp .gt 24, 3) := by decide +kernel
theorem dX0_handsIn_24 : decode cX0_handsIn 24 = .ok (.aload 4, 2) := by decide +kernel
theorem dX0_handsIn_26 : decode cX0_handsIn 26 = .ok (.getfield 49, 3) := by decide +kernel
theorem dX0_handsIn_29 : decode cX0_handsIn 29 = .ok (.iload_n 2, 1) := by decide +kernel
theorem dX0_handsIn_30 : decode cX0_handsIn 30 = .ok (.if_icmp .le 15, 3) := by decide +kernel
theorem dX0_handsIn_33 : decode cX0_handsIn 33 = .ok (.aload 4, 2) := by decide +kernel
theorem dX0_handsIn_35 : decode cX0_handsIn 35 = .ok (.getfield 49, 3) := by decide +kernel
theorem dX0_handsIn_38 : decode cX0_handsIn 38 = .ok (.istore_n 2, 1) := by decide +kernel
theorem dX0_handsIn_39 : decode cX0_handsIn 39 = .ok (.aload 4, 2) := by decide +kernel
theorem dX0_handsIn_41 : decode cX0_handsIn 41 = .ok (.getfield 52, 3) := by decide +kernel
theorem dX0_handsIn_44 : decode cX0_handsIn 44 = .ok (.istore_n 3, 1) := by decide +kernel
theorem dX0_handsIn_45 : decode cX0_handsIn 45 = .ok (.aload 4, 2) := by decide +kernel
theorem dX0_handsIn_47 : decode cX0_handsIn 47 = .ok (.getfield 46, 3) := by decide +kernel
theorem dX0_handsIn_50 : decode cX0_handsIn 50 = .ok (.astore 4, 2) := by decide +kernel
theorem dX0_handsIn_52 : decode cX0_handsIn 52 = .ok (.goto (-42), 3) := by decide +kernel
theorem dX0_handsIn_55 : decode cX0_handsIn 55 = .ok (.iload_n 3, 1) := by decide +kernel
theorem dX0_handsIn_56 : decode cX0_handsIn 56 = .ok (.ireturn, 1) := by decide +kernel
theorem dX0_daysMet_0 : decode cX0_daysMet 0 = .ok (.aload_n 0, 1) := by decide +kernel
theorem dX0_daysMet_1 : decode cX0_daysMet 1 = .ok (.getfield 11, 3) := by decide +kernel
theorem dX0_daysMet_4 : decode cX0_daysMet 4 = .ok (.iload_n 1, 1) := by decide +kernel
theorem dX0_daysMet_5 : decode cX0_daysMet 5 = .ok (.iaload, 1) := by decide +kernel
theorem dX0_daysMet_6 : decode cX0_daysMet 6 = .ok (.aload_n 0, 1) := by decide +kernel
theorem dX0_daysMet_7 : decode cX0_daysMet 7 = .ok (.getfield 15, 3) := by decide +kernel
theorem dX0_daysMet_10 : decode cX0_daysMet 10 = .ok (.iload_n 1, 1) := by decide +kernel
theorem dX0_daysMet_11 : decode cX0_daysMet 11 = .ok (.iaload, 1) := by decide +kernel
theorem dX0_daysMet_12 : decode cX0_daysMet 12 = .ok (.iadd, 1) := by decide +kernel
theorem dX0_daysMet_13 : decode cX0_daysMet 13 = .ok (.aload_n 0, 1) := by decide +kernel
theorem dX0_daysMet_14 : decode cX0_daysMet 14 = .ok (.getfield 18, 3) := by decide +kernel
theorem dX0_daysMet_17 : decode cX0_daysMet 17 = .ok (.iload_n 1, 1) := by decide +kernel
theorem dX0_daysMet_18 : decode cX0_daysMet 18 = .ok (.iaload, 1) := by decide +kernel
theorem dX0_daysMet_19 : decode cX0_daysMet 19 = .ok (.iadd, 1) := by decide +kernel
theorem dX0_daysMet_20 : decode cX0_daysMet 20 = .ok (.ireturn, 1) := by decide +kernel
theorem dX1_init_0 : decode cX1_init 0 = .ok (.aload_n 0, 1) := by decide +kernel
theorem dX1_init_1 : decode cX1_init 1 = .ok (.invokespecial 3, 3) := by decide +kernel
theorem dX1_init_4 : decode cX1_init 4 = .ok (.aload_n 0, 1) := by decide +kernel
theorem dX1_init_5 : decode cX1_init 5 = .ok (.iload_n 1, 1) := by decide +kernel
theorem dX1_init_6 : decode cX1_init 6 = .ok (.putfield 9, 3) := by decide +kernel
theorem dX1_init_9 : decode cX1_init 9 = .ok (.aload_n 0, 1) := by decide +kernel
theorem dX1_init_10 : decode cX1_init 10 = .ok (.iload_n 2, 1) := by decide +kernel
theorem dX1_init_11 : decode cX1_init 11 = .ok (.sipush 10000, 3) := by decide +kernel
theorem dX1_init_14 : decode cX1_init 14 = .ok (.idiv, 1) := by decide +kernel
theorem dX1_init_15 : decode cX1_init 15 = .ok (.putfield 15, 3) := by decide +kernel
theorem dX1_init_18 : decode cX1_init 18 = .ok (.aload_n 0, 1) := by decide +kernel
theorem dX1_init_19 : decode cX1_init 19 = .ok (.iload_n 2, 1) := by decide +kernel
theorem dX1_init_20 : decode cX1_init 20 = .ok (.sipush 10000, 3) := by decide +kernel
theorem dX1_init_23 : decode cX1_init 23 = .ok (.irem, 1) := by decide +kernel
theorem dX1_init_24 : decode cX1_init 24 = .ok (.sipush 1000, 3) := by decide +kernel
theorem dX1_init_27 : decode cX1_init 27 = .ok (.idiv, 1) := by decide +kernel
theorem dX1_init_28 : decode cX1_init 28 = .ok (.putfield 18, 3) := by decide +kernel
theorem dX1_init_31 : decode cX1_init 31 = .ok (.aload_n 0, 1) := by decide +kernel
theorem dX1_init_32 : decode cX1_init 32 = .ok (.iload_n 2, 1) := by decide +kernel
theorem dX1_init_33 : decode cX1_init 33 = .ok (.sipush 1000, 3) := by decide +kernel
theorem dX1_init_36 : decode cX1_init 36 = .ok (.irem, 1) := by decide +kernel
theorem dX1_init_37 : decode cX1_init 37 = .ok (.putfield 21, 3) := by decide +kernel
theorem dX1_init_40 : decode cX1_init 40 = .ok (.aload_n 0, 1) := by decide +kernel
theorem dX1_init_41 : decode cX1_init 41 = .ok (.iload_n 3, 1) := by decide +kernel
theorem dX1_init_42 : decode cX1_init 42 = .ok (.putfield 24, 3) := by decide +kernel
theorem dX1_init_45 : decode cX1_init 45 = .ok (.return_, 1) := by decide +kernel
set_option maxRecDepth 20000 in
theorem ggX1_canBe_X8_isWithin : GoodIn wsX1_canBe wsX8_isWithin := goodIn_r _ [4] (by decide +kernel) (by decide +kernel)
set_option maxRecDepth 20000 in
theorem gX1_canBe_X8_isWithin_n28 : GoodIn wsX1_canBe (wsX8_isWithin) := ggX1_canBe_X8_isWithin
theorem dX1_canBe_0 : decode cX1_canBe 0 = .ok (.iload_n 0, 1) := by decide +kernel
theorem dX1_canBe_1 : decode cX1_canBe 1 = .ok (.ldc 27, 2) := by decide +kernel
theorem dX1_canBe_3 : decode cX1_canBe 3 = .ok (.invokestatic 28, 3) := by decide +kernel
theorem dX1_canBe_6 : decode cX1_canBe 6 = .ok (.ifCond .eq 18, 3) := by decide +kernel
theorem dX1_canBe_9 : decode cX1_canBe 9 = .ok (.iload_n 0, 1) := by decide +kernel
theorem dX1_canBe_10 : decode cX1_canBe 10 = .ok (.sipush 1000, 3) := by decide +kernel
theorem dX1_canBe_13 : decode cX1_canBe 13 = .ok (.irem, 1) := by decide +kernel
theorem dX1_canBe_14 : decode cX1_canBe 14 = .ok (.sipush 500, 3) := by decide +kernel
theorem dX1_canBe_17 : decode cX1_canBe 17 = .ok (.if_icmp .gt 7, 3) := by decide +kernel
theorem dX1_canBe_20 : decode cX1_canBe 20 = .ok (.iconst 1, 1) := by decide +kernel
theorem dX1_canBe_21 : decode cX1_canBe 21 = .ok (.goto 4, 3) := by decide +kernel
theorem dX1_canBe_24 : decode cX1_canBe 24 = .ok (.iconst 0, 1) := by decide +kernel
theorem dX1_canBe_25 : decode cX1_canBe 25 = .ok (.ireturn, 1) := by decide +kernel
theorem dX1_daysFor_0 : decode cX1_daysFor 0 = .ok (.aload_n 1, 1) := by decide +kernel
theorem dX1_daysFor_1 : decode cX1_daysFor 1 = .ok (.getfield 32, 3) := by decide +kernel
theorem dX1_daysFor_4 : decode cX1_daysFor 4 = .ok (.aload_n 0, 1) := by decide +kernel
theorem dX1_daysFor_5 : decode cX1_daysFor 5 = .ok (.getfield 21, 3) := by decide +kernel
theorem dX1_daysFor_8 : decode cX1_daysFor 8 = .ok (.if_icmp .ge 5, 3) := by decide +kernel
theorem dX1_daysFor_11 : decode cX1_daysFor 11 = .ok (.iconst 0, 1) := by decide +kernel
theorem dX1_daysFor_12 : decode cX1_daysFor 12 = .ok (.ireturn, 1) := by decide +kernel
theorem dX1_daysFor_13 : decode cX1_daysFor 13 = .ok (.aload_n 1, 1) := by decide +kernel
theorem dX1_daysFor_14 : decode cX1_daysFor 14 = .ok (.getfield 32, 3) := by decide +kernel
theorem dX1_daysFor_17 : decode cX1_daysFor 17 = .ok (.bipush 10, 2) := by decide +kernel
theorem dX1_daysFor_19 : decode cX1_daysFor 19 = .ok (.idiv, 1) := by decide +kernel
theorem dX1_daysFor_20 : decode cX1_daysFor 20 = .ok (.aload_n 0, 1) := by decide +kernel
theorem dX1_daysFor_21 : decode cX1_daysFor 21 = .ok (.getfield 15, 3) := by decide +kernel
theorem dX1_daysFor_24 : decode cX1_daysFor 24 = .ok (.imul, 1) := by decide +kernel
theorem dX1_daysFor_25 : decode cX1_daysFor 25 = .ok (.aload_n 1, 1) := by decide +kernel
theorem dX1_daysFor_26 : decode cX1_daysFor 26 = .ok (.getfield 37, 3) := by decide +kernel
theorem dX1_daysFor_29 : decode cX1_daysFor 29 = .ok (.aload_n 0, 1) := by decide +kernel
theorem dX1_daysFor_30 : decode cX1_daysFor 30 = .ok (.getfield 18, 3) := by decide +kernel
theorem dX1_daysFor_33 : decode cX1_daysFor 33 = .ok (.imul, 1) := by decide +kernel
theorem dX1_daysFor_34 : decode cX1_daysFor 34 = .ok (.iadd, 1) := by decide +kernel
theorem dX1_daysFor_35 : decode cX1_daysFor 35 = .ok (.ireturn, 1) := by decide +kernel
set_option maxRecDepth 20000 in
theorem ggX2_init_X1_init : GoodIn wsX2_init wsX1_init := goodIn_r _ [12, 13, 2, 3, 14, 15, 16, 17, 18, 22, 23, 24, 25, 26] (by decide +kernel) (by decide +kernel)
set_option maxRecDepth 20000 in
theorem gX2_init_X1_init : GoodIn wsX2_init (wsX1_init) := ggX2_init_X1_init
theorem dX2_init_0 : decode cX2_init 0 = .ok (.aload_n 0, 1) := by decide +kernel
theorem dX2_init_1 : decode cX2_init 1 = .ok (.invokespecial 3, 3) := by decide +kernel
theorem dX2_init_4 : decode cX2_init 4 = .ok (.aload_n 0, 1) := by decide +kernel
theorem dX2_init_5 : decode cX2_init 5 = .ok (.bipush 40, 2) := by decide +kernel
theorem dX2_init_7 : decode cX2_init 7 = .ok (.anewarray 9, 3) := by decide +kernel
theorem dX2_init_10 : decode cX2_init 10 = .ok (.putfield 11, 3) := by decide +kernel
theorem dX2_init_13 : decode cX2_init 13 = .ok (.aload_n 0, 1) := by decide +kernel
theorem dX2_init_14 : decode cX2_init 14 = .ok (.new 9, 3) := by decide +kernel
theorem dX2_init_17 : decode cX2_init 17 = .ok (.dup, 1) := by decide +kernel
theorem dX2_init_18 : decode cX2_init 18 = .ok (.iconst 0, 1) := by decide +kernel
theorem dX2_init_19 : decode cX2_init 19 = .ok (.iconst 0, 1) := by decide +kernel
theorem dX2_init_20 : decode cX2_init 20 = .ok (.iconst 0, 1) := by decide +kernel
theorem dX2_init_21 : decode cX2_init 21 = .ok (.invokespecial 17, 3) := by decide +kernel
theorem dX2_init_24 : decode cX2_init 24 = .ok (.putfield 20, 3) := by decide +kernel
theorem dX2_init_27 : decode cX2_init 27 = .ok (.aload_n 0, 1) := by decide +kernel
theorem dX2_init_28 : decode cX2_init 28 = .ok (.iconst 0, 1) := by decide +kernel
theorem dX2_init_29 : decode cX2_init 29 = .ok (.putfield 24, 3) := by decide +kernel
theorem dX2_init_32 : decode cX2_init 32 = .ok (.return_, 1) := by decide +kernel
theorem dX2_isFull_0 : decode cX2_isFull 0 = .ok (.aload_n 0, 1) := by decide +kernel
theorem dX2_isFull_1 : decode cX2_isFull 1 = .ok (.getfield 24, 3) := by decide +kernel
theorem dX2_isFull_4 : decode cX2_isFull 4 = .ok (.bipush 40, 2) := by decide +kernel
theorem dX2_isFull_6 : decode cX2_isFull 6 = .ok (.if_icmp .lt 7, 3) := by decide +kernel
theorem dX2_isFull_9 : decode cX2_isFull 9 = .ok (.iconst 1, 1) := by decide +kernel
theorem dX2_isFull_10 : decode cX2_isFull 10 = .ok (.goto 4, 3) := by decide +kernel
theorem dX2_isFull_13 : decode cX2_isFull 13 = .ok (.iconst 0, 1) := by decide +kernel
theorem dX2_isFull_14 : decode cX2_isFull 14 = .ok (.ireturn, 1) := by decide +kernel
set_option maxRecDepth 20000 in
theorem ggX2_add_X2_isFull : GoodIn wsX2_add wsX2_isFull := goodIn_r _ [7, 2, 8, 9, 10] (by decide +kernel) (by decide +kernel)
set_option maxRecDepth 20000 in
theorem gX2_add_X2_isFull : GoodIn wsX2_add (wsV RX2 28 RX2 yX2_isFull wsX2_isFull) := goodIn_app (goodIn_of _ (by decide +kernel)) ggX2_add_X2_isFull
theorem dX2_add_0 : decode cX2_add 0 = .ok (.aload_n 0, 1) := by decide +kernel
theorem dX2_add_1 : decode cX2_add 1 = .ok (.invokevirtual 28, 3) := by decide +kernel
theorem dX2_add_4 : decode cX2_add 4 = .ok (.ifCond .ne 23, 3) := by decide +kernel
theorem dX2_add_7 : decode cX2_add 7 = .ok (.aload_n 0, 1) := by decide +kernel
theorem dX2_add_8 : decode cX2_add 8 = .ok (.getfield 11, 3) := by decide +kernel
theorem dX2_add_11 : decode cX2_add 11 = .ok (.aload_n 0, 1) := by decide +kernel
theorem dX2_add_12 : decode cX2_add 12 = .ok (.getfield 24, 3) := by decide +kernel
theorem dX2_add_15 : decode cX2_add 15 = .ok (.aload_n 1, 1) := by decide +kernel
theorem dX2_add_16 : decode cX2_add 16 = .ok (.aastore, 1) := by decide +kernel
theorem dX2_add_17 : decode cX2_add 17 = .ok (.aload_n 0, 1) := by decide +kernel
theorem dX2_add_18 : decode cX2_add 18 = .ok (.dup, 1) := by decide +kernel
theorem dX2_add_19 : decode cX2_add 19 = .ok (.getfield 24, 3) := by decide +kernel
theorem dX2_add_22 : decode cX2_add 22 = .ok (.iconst 1, 1) := by decide +kernel
theorem dX2_add_23 : decode cX2_add 23 = .ok (.iadd, 1) := by decide +kernel
theorem dX2_add_24 : decode cX2_add 24 = .ok (.putfield 24, 3) := by decide +kernel
theorem dX2_add_27 : decode cX2_add 27 = .ok (.return_, 1) := by decide +kernel
theorem dX2_ofYear_0 : decode cX2_ofYear 0 = .ok (.aload_n 0, 1) := by decide +kernel
theorem dX2_ofYear_1 : decode cX2_ofYear 1 = .ok (.getfield 20, 3) := by decide +kernel
theorem dX2_ofYear_4 : decode cX2_ofYear 4 = .ok (.astore_n 2, 1) := by decide +kernel
theorem dX2_ofYear_5 : decode cX2_ofYear 5 = .ok (.iconst 0, 1) := by decide +kernel
theorem dX2_ofYear_6 : decode cX2_ofYear 6 = .ok (.istore_n 3, 1) := by decide +kernel
theorem dX2_ofYear_7 : decode cX2_ofYear 7 = .ok (.iload_n 3, 1) := by decide +kernel
theorem dX2_ofYear_8 : decode cX2_ofYear 8 = .ok (.aload_n 0, 1) := by decide +kernel
theorem dX2_ofYear_9 : decode cX2_ofYear 9 = .ok (.getfield 24, 3) := by decide +kernel
theorem dX2_ofYear_12 : decode cX2_ofYear 12 = .ok (.if_icmp .ge 45, 3) := by decide +kernel
theorem dX2_ofYear_15 : decode cX2_ofYear 15 = .ok (.aload_n 0, 1) := by decide +kernel
theorem dX2_ofYear_16 : decode cX2_ofYear 16 = .ok (.getfield 11, 3) := by decide +kernel
theorem dX2_ofYear_19 : decode cX2_ofYear 19 = .ok (.iload_n 3, 1) := by decide +kernel
theorem dX2_ofYear_20 : decode cX2_ofYear 20 = .ok (.aaload, 1) := by decide +kernel
theorem dX2_ofYear_21 : decode cX2_ofYear 21 = .ok (.getfield 32, 3) := by decide +kernel
theorem dX2_ofYear_24 : decode cX2_ofYear 24 = .ok (.iload_n 1, 1) := by decide +kernel
theorem dX2_ofYear_25 : decode cX2_ofYear 25 = .ok (.if_icmp .gt 26, 3) := by decide +kernel
theorem dX2_ofYear_28 : decode cX2_ofYear 28 = .ok (.aload_n 0, 1) := by decide +kernel
theorem dX2_ofYear_29 : decode cX2_ofYear 29 = .ok (.getfield 11, 3) := by decide +kernel
theorem dX2_ofYear_32 : decode cX2_ofYear 32 = .ok (.iload_n 3, 1) := by decide +kernel
theorem dX2_ofYear_33 : decode cX2_ofYear 33 = .ok (.aaload, 1) := by decide +kernel
theorem dX2_ofYear_34 : decode cX2_ofYear 34 = .ok (.getfield 32, 3) := by decide +kernel
theorem dX2_ofYear_37 : decode cX2_ofYear 37 = .ok (.aload_n 2, 1) := by decide +kernel
theorem dX2_ofYear_38 : decode cX2_ofYear 38 = .ok (.getfield 32, 3) := by decide +kernel
theorem dX2_ofYear_41 : decode cX2_ofYear 41 = .ok (.if_icmp .lt 10, 3) := by decide +kernel
theorem dX2_ofYear_44 : decode cX2_ofYear 44 = .ok (.aload_n 0, 1) := by decide +kernel
theorem dX2_ofYear_45 : decode cX2_ofYear 45 = .ok (.getfield 11, 3) := by decide +kernel
theorem dX2_ofYear_48 : decode cX2_ofYear 48 = .ok (.iload_n 3, 1) := by decide +kernel
theorem dX2_ofYear_49 : decode cX2_ofYear 49 = .ok (.aaload, 1) := by decide +kernel
theorem dX2_ofYear_50 : decode cX2_ofYear 50 = .ok (.astore_n 2, 1) := by decide +kernel
theorem dX2_ofYear_51 : decode cX2_ofYear 51 = .ok (.iinc 3 1, 3) := by decide +kernel
theorem dX2_ofYear_54 : decode cX2_ofYear 54 = .ok (.goto (-47), 3) := by decide +kernel
theorem dX2_ofYear_57 : decode cX2_ofYear 57 = .ok (.aload_n 2, 1) := by decide +kernel
theorem dX2_ofYear_58 : decode cX2_ofYear 58 = .ok (.areturn, 1) := by decide +kernel
theorem dX3_init_0 : decode cX3_init 0 = .ok (.aload_n 0, 1) := by decide +kernel
theorem dX3_init_1 : decode cX3_init 1 = .ok (.invokespecial 5, 3) := by decide +kernel
theorem dX3_init_4 : decode cX3_init 4 = .ok (.aload_n 0, 1) := by decide +kernel
theorem dX3_init_5 : decode cX3_init 5 = .ok (.sipush 301, 3) := by decide +kernel
theorem dX3_init_8 : decode cX3_init 8 = .ok (.newarray .long, 2) := by decide +kernel
theorem dX3_init_10 : decode cX3_init 10 = .ok (.putfield 11, 3) := by decide +kernel
theorem dX3_init_13 : decode cX3_init 13 = .ok (.return_, 1) := by decide +kernel
set_option maxRecDepth 20000 in
theorem ggX3_bestWorth_X8_isWithin : GoodIn wsX3_bestWorth wsX8_isWithin := goodIn_r _ [6] (by decide +kernel) (by decide +kernel)
set_option maxRecDepth 20000 in
theorem gX3_bestWorth_X8_isWithin_n15 : GoodIn wsX3_bestWorth (wsX8_isWithin) := ggX3_bestWorth_X8_isWithin
set_option maxRecDepth 20000 in
theorem ggX3_bestWorth_X4_daysTo : GoodIn wsX3_bestWorth wsX4_daysTo := goodIn_r _ [11, 12, 13, 14, 15, 10, 16, 17, 18, 5, 19, 30, 31, 32, 33, 34] (by decide +kernel) (by decide +kernel)
set_option maxRecDepth 20000 in
theorem gX3_bestWorth_X4_daysTo : GoodIn wsX3_bestWorth (wsV RX3 25 RX4 yX4_daysTo wsX4_daysTo) := goodIn_app (goodIn_of _ (by decide +kernel)) ggX3_bestWorth_X4_daysTo
set_option maxRecDepth 20000 in
theorem ggX3_bestWorth_X3_offer : GoodIn wsX3_bestWorth wsX3_offer := goodIn_r _ [24, 1, 25, 26, 27, 28, 29] (by decide +kernel) (by decide +kernel)
set_option maxRecDepth 20000 in
theorem gX3_bestWorth_X3_offer : GoodIn wsX3_bestWorth (wsV RX3 32 RX3 yX3_offer wsX3_offer) := goodIn_app (goodIn_of _ (by decide +kernel)) ggX3_bestWorth_X3_offer
theorem dX3_bestWorth_0 : decode cX3_bestWorth 0 = .ok (.iload_n 2, 1) := by decide +kernel
theorem dX3_bestWorth_1 : decode cX3_bestWorth 1 = .ok (.sipush 300, 3) := by decide +kernel
theorem dX3_bestWorth_4 : decode cX3_bestWorth 4 = .ok (.invokestatic 15, 3) := by decide +kernel
theorem dX3_bestWorth_7 : decode cX3_bestWorth 7 = .ok (.ifCond .ne 5, 3) := by decide +kernel
theorem dX3_bestWorth_10 : decode cX3_bestWorth 10 = .ok (.lconst 0, 1) := by decide +kernel
theorem dX3_bestWorth_11 : decode cX3_bestWorth 11 = .ok (.lreturn, 1) := by decide +kernel
theorem dX3_bestWorth_12 : decode cX3_bestWorth 12 = .ok (.iconst 0, 1) := by decide +kernel
theorem dX3_bestWorth_13 : decode cX3_bestWorth 13 = .ok (.istore 4, 2) := by decide +kernel
theorem dX3_bestWorth_15 : decode cX3_bestWorth 15 = .ok (.iload 4, 2) := by decide +kernel
theorem dX3_bestWorth_17 : decode cX3_bestWorth 17 = .ok (.iload_n 2, 1) := by decide +kernel
theorem dX3_bestWorth_18 : decode cX3_bestWorth 18 = .ok (.if_icmp .gt 17, 3) := by decide +kernel
theorem dX3_bestWorth_21 : decode cX3_bestWorth 21 = .ok (.aload_n 0, 1) := by decide +kernel
theorem dX3_bestWorth_22 : decode cX3_bestWorth 22 = .ok (.getfield 11, 3) := by decide +kernel
theorem dX3_bestWorth_25 : decode cX3_bestWorth 25 = .ok (.iload 4, 2) := by decide +kernel
theorem dX3_bestWorth_27 : decode cX3_bestWorth 27 = .ok (.lconst 0, 1) := by decide +kernel
theorem dX3_bestWorth_28 : decode cX3_bestWorth 28 = .ok (.lastore, 1) := by decide +kernel
theorem dX3_bestWorth_29 : decode cX3_bestWorth 29 = .ok (.iinc 4 1, 3) := by decide +kernel
theorem dX3_bestWorth_32 : decode cX3_bestWorth 32 = .ok (.goto (-17), 3) := by decide +kernel
theorem dX3_bestWorth_35 : decode cX3_bestWorth 35 = .ok (.iconst 0, 1) := by decide +kernel
theorem dX3_bestWorth_36 : decode cX3_bestWorth 36 = .ok (.istore 4, 2) := by decide +kernel
theorem dX3_bestWorth_38 : decode cX3_bestWorth 38 = .ok (.iload 4, 2) := by decide +kernel
theorem dX3_bestWorth_40 : decode cX3_bestWorth 40 = .ok (.aload_n 1, 1) := by decide +kernel
theorem dX3_bestWorth_41 : decode cX3_bestWorth 41 = .ok (.arraylength, 1) := by decide +kernel
theorem dX3_bestWorth_42 : decode cX3_bestWorth 42 = .ok (.if_icmp .ge 49, 3) := by decide +kernel
theorem dX3_bestWorth_45 : decode cX3_bestWorth 45 = .ok (.aload_n 1, 1) := by decide +kernel
theorem dX3_bestWorth_46 : decode cX3_bestWorth 46 = .ok (.iload 4, 2) := by decide +kernel
theorem dX3_bestWorth_48 : decode cX3_bestWorth 48 = .ok (.aaload, 1) := by decide +kernel
theorem dX3_bestWorth_49 : decode cX3_bestWorth 49 = .ok (.getfield 19, 3) := by decide +kernel
theorem dX3_bestWorth_52 : decode cX3_bestWorth 52 = .ok (.iload_n 3, 1) := by decide +kernel
theorem dX3_bestWorth_53 : decode cX3_bestWorth 53 = .ok (.if_icmp .ge 32, 3) := by decide +kernel
theorem dX3_bestWorth_56 : decode cX3_bestWorth 56 = .ok (.aload_n 0, 1) := by decide +kernel
theorem dX3_bestWorth_57 : decode cX3_bestWorth 57 = .ok (.aload_n 1, 1) := by decide +kernel
theorem dX3_bestWorth_58 : decode cX3_bestWorth 58 = .ok (.iload 4, 2) := by decide +kernel
theorem dX3_bestWorth_60 : decode cX3_bestWorth 60 = .ok (.aaload, 1) := by decide +kernel
theorem dX3_bestWorth_61 : decode cX3_bestWorth 61 = .ok (.iload_n 3, 1) := by decide +kernel
theorem dX3_bestWorth_62 : decode cX3_bestWorth 62 = .ok (.invokevirtual 25, 3) := by decide +kernel
theorem dX3_bestWorth_65 : decode cX3_bestWorth 65 = .ok (.aload_n 1, 1) := by decide +kernel
theorem dX3_bestWorth_66 : decode cX3_bestWorth 66 = .ok (.iload 4, 2) := by decide +kernel
theorem dX3_bestWorth_68 : decode cX3_bestWorth 68 = .ok (.aaload, 1) := by decide +kernel
theorem dX3_bestWorth_69 : decode cX3_bestWorth 69 = .ok (.getfield 29, 3) := by decide +kernel
theorem dX3_bestWorth_72 : decode cX3_bestWorth 72 = .ok (.i2l, 1) := by decide +kernel
theorem dX3_bestWorth_73 : decode cX3_bestWorth 73 = .ok (.bipush 30, 2) := by decide +kernel
theorem dX3_bestWorth_75 : decode cX3_bestWorth 75 = .ok (.lshl, 1) := by decide +kernel
theorem dX3_bestWorth_76 : decode cX3_bestWorth 76 = .ok (.lconst 1, 1) := by decide +kernel
theorem dX3_bestWorth_77 : decode cX3_bestWorth 77 = .ok (.iload 4, 2) := by decide +kernel
theorem dX3_bestWorth_79 : decode cX3_bestWorth 79 = .ok (.lshl, 1) := by decide +kernel
theorem dX3_bestWorth_80 : decode cX3_bestWorth 80 = .ok (.lsub, 1) := by decide +kernel
theorem dX3_bestWorth_81 : decode cX3_bestWorth 81 = .ok (.iload_n 2, 1) := by decide +kernel
theorem dX3_bestWorth_82 : decode cX3_bestWorth 82 = .ok (.invokevirtual 32, 3) := by decide +kernel
theorem dX3_bestWorth_85 : decode cX3_bestWorth 85 = .ok (.iinc 4 1, 3) := by decide +kernel
theorem dX3_bestWorth_88 : decode cX3_bestWorth 88 = .ok (.goto (-50), 3) := by decide +kernel
theorem dX3_bestWorth_91 : decode cX3_bestWorth 91 = .ok (.aload_n 0, 1) := by decide +kernel
theorem dX3_bestWorth_92 : decode cX3_bestWorth 92 = .ok (.getfield 11, 3) := by decide +kernel
theorem dX3_bestWorth_95 : decode cX3_bestWorth 95 = .ok (.iload_n 2, 1) := by decide +kernel
theorem dX3_bestWorth_96 : decode cX3_bestWorth 96 = .ok (.laload, 1) := by decide +kernel
theorem dX3_bestWorth_97 : decode cX3_bestWorth 97 = .ok (.lreturn, 1) := by decide +kernel
theorem dX3_offer_0 : decode cX3_offer 0 = .ok (.iload_n 1, 1) := by decide +kernel
theorem dX3_offer_1 : decode cX3_offer 1 = .ok (.iconst 1, 1) := by decide +kernel
theorem dX3_offer_2 : decode cX3_offer 2 = .ok (.if_icmp .lt 9, 3) := by decide +kernel
theorem dX3_offer_5 : decode cX3_offer 5 = .ok (.lload_n 2, 1) := by decide +kernel
theorem dX3_offer_6 : decode cX3_offer 6 = .ok (.lconst 0, 1) := by decide +kernel
theorem dX3_offer_7 : decode cX3_offer 7 = .ok (.lcmp, 1) := by decide +kernel
theorem dX3_offer_8 : decode cX3_offer 8 = .ok (.ifCond .gt 4, 3) := by decide +kernel
theorem dX3_offer_11 : decode cX3_offer 11 = .ok (.return_, 1) := by decide +kernel
theorem dX3_offer_12 : decode cX3_offer 12 = .ok (.iload 4, 2) := by decide +kernel
theorem dX3_offer_14 : decode cX3_offer 14 = .ok (.istore 5, 2) := by decide +kernel
theorem dX3_offer_16 : decode cX3_offer 16 = .ok (.iload 5, 2) := by decide +kernel
theorem dX3_offer_18 : decode cX3_offer 18 = .ok (.iload_n 1, 1) := by decide +kernel
theorem dX3_offer_19 : decode cX3_offer 19 = .ok (.if_icmp .lt 37, 3) := by decide +kernel
theorem dX3_offer_22 : decode cX3_offer 22 = .ok (.aload_n 0, 1) := by decide +kernel
theorem dX3_offer_23 : decode cX3_offer 23 = .ok (.getfield 11, 3) := by decide +kernel
theorem dX3_offer_26 : decode cX3_offer 26 = .ok (.iload 5, 2) := by decide +kernel
theorem dX3_offer_28 : decode cX3_offer 28 = .ok (.aload_n 0, 1) := by decide +kernel
theorem dX3_offer_29 : decode cX3_offer 29 = .ok (.getfield 11, 3) := by decide +kernel
theorem dX3_offer_32 : decode cX3_offer 32 = .ok (.iload 5, 2) := by decide +kernel
theorem dX3_offer_34 : decode cX3_offer 34 = .ok (.laload, 1) := by decide +kernel
theorem dX3_offer_35 : decode cX3_offer 35 = .ok (.aload_n 0, 1) := by decide +kernel
theorem dX3_offer_36 : decode cX3_offer 36 = .ok (.getfield 11, 3) := by decide +kernel
theorem dX3_offer_39 : decode cX3_offer 39 = .ok (.iload 5, 2) := by decide +kernel
theorem dX3_offer_41 : decode cX3_offer 41 = .ok (.iload_n 1, 1) := by decide +kernel
theorem dX3_offer_42 : decode cX3_offer 42 = .ok (.isub, 1) := by decide +kernel
theorem dX3_offer_43 : decode cX3_offer 43 = .ok (.laload, 1) := by decide +kernel
theorem dX3_offer_44 : decode cX3_offer 44 = .ok (.lload_n 2, 1) := by decide +kernel
theorem dX3_offer_45 : decode cX3_offer 45 = .ok (.ladd, 1) := by decide +kernel
theorem dX3_offer_46 : decode cX3_offer 46 = .ok (.invokestatic 36, 3) := by decide +kernel
theorem dX3_offer_49 : decode cX3_offer 49 = .ok (.lastore, 1) := by decide +kernel
theorem dX3_offer_50 : decode cX3_offer 50 = .ok (.iinc 5 (-1), 3) := by decide +kernel
theorem dX3_offer_53 : decode cX3_offer 53 = .ok (.goto (-37), 3) := by decide +kernel
theorem dX3_offer_56 : decode cX3_offer 56 = .ok (.return_, 1) := by decide +kernel
theorem dX3_lossOf_0 : decode cX3_lossOf 0 = .ok (.lload_n 0, 1) := by decide +kernel
theorem dX3_lossOf_1 : decode cX3_lossOf 1 = .ok (.ldc2_w 42, 3) := by decide +kernel
theorem dX3_lossOf_4 : decode cX3_lossOf 4 = .ok (.ladd, 1) := by decide +kernel
theorem dX3_lossOf_5 : decode cX3_lossOf 5 = .ok (.lconst 1, 1) := by decide +kernel
theorem dX3_lossOf_6 : decode cX3_lossOf 6 = .ok (.lsub, 1) := by decide +kernel
theorem dX3_lossOf_7 : decode cX3_lossOf 7 = .ok (.bipush 30, 2) := by decide +kernel
theorem dX3_lossOf_9 : decode cX3_lossOf 9 = .ok (.lshr, 1) := by decide +kernel
theorem dX3_lossOf_10 : decode cX3_lossOf 10 = .ok (.l2i, 1) := by decide +kernel
theorem dX3_lossOf_11 : decode cX3_lossOf 11 = .ok (.ireturn, 1) := by decide +kernel
set_option maxRecDepth 20000 in
theorem ggX3_heapOf_X3_lossOf : GoodIn wsX3_heapOf wsX3_lossOf := goodIn_r _ [4, 5] (by decide +kernel) (by decide +kernel)
set_option maxRecDepth 20000 in
theorem gX3_heapOf_X3_lossOf : GoodIn wsX3_heapOf (va_wsS RX3 44 yX3_lossOf wsX3_lossOf) := goodIn_app (goodIn_of _ (by decide +kernel)) ggX3_heapOf_X3_lossOf
theorem dX3_heapOf_0 : decode cX3_heapOf 0 = .ok (.lload_n 0, 1) := by decide +kernel
theorem dX3_heapOf_1 : decode cX3_heapOf 1 = .ok (.invokestatic 44, 3) := by decide +kernel
theorem dX3_heapOf_4 : decode cX3_heapOf 4 = .ok (.i2l, 1) := by decide +kernel
theorem dX3_heapOf_5 : decode cX3_heapOf 5 = .ok (.bipush 30, 2) := by decide +kernel
theorem dX3_heapOf_7 : decode cX3_heapOf 7 = .ok (.lshl, 1) := by decide +kernel
theorem dX3_heapOf_8 : decode cX3_heapOf 8 = .ok (.lload_n 0, 1) := by decide +kernel
theorem dX3_heapOf_9 : decode cX3_heapOf 9 = .ok (.lsub, 1) := by decide +kernel
theorem dX3_heapOf_10 : decode cX3_heapOf 10 = .ok (.l2i, 1) := by decide +kernel
theorem dX3_heapOf_11 : decode cX3_heapOf 11 = .ok (.ireturn, 1) := by decide +kernel
theorem dX4_init_0 : decode cX4_init 0 = .ok (.aload_n 0, 1) := by decide +kernel
theorem dX4_init_1 : decode cX4_init 1 = .ok (.invokespecial 1, 3) := by decide +kernel
theorem dX4_init_4 : decode cX4_init 4 = .ok (.aload_n 0, 1) := by decide +kernel
theorem dX4_init_5 : decode cX4_init 5 = .ok (.sipush 1000, 3) := by decide +kernel
theorem dX4_init_8 : decode cX4_init 8 = .ok (.putfield 9, 3) := by decide +kernel
theorem dX4_init_11 : decode cX4_init 11 = .ok (.aload_n 0, 1) := by decide +kernel
theorem dX4_init_12 : decode cX4_init 12 = .ok (.iconst 0, 1) := by decide +kernel
theorem dX4_init_13 : decode cX4_init 13 = .ok (.putfield 13, 3) := by decide +kernel
theorem dX4_init_16 : decode cX4_init 16 = .ok (.aload_n 0, 1) := by decide +kernel
theorem dX4_init_17 : decode cX4_init 17 = .ok (.iconst 0, 1) := by decide +kernel
theorem dX4_init_18 : decode cX4_init 18 = .ok (.putfield 16, 3) := by decide +kernel
theorem dX4_init_21 : decode cX4_init 21 = .ok (.aload_n 0, 1) := by decide +kernel
theorem dX4_init_22 : decode cX4_init 22 = .ok (.iconst 0, 1) := by decide +kernel
theorem dX4_init_23 : decode cX4_init 23 = .ok (.putfield 19, 3) := by decide +kernel
theorem dX4_init_26 : decode cX4_init 26 = .ok (.aload_n 0, 1) := by decide +kernel
theorem dX4_init_27 : decode cX4_init 27 = .ok (.iconst 0, 1) := by decide +kernel
theorem dX4_init_28 : decode cX4_init 28 = .ok (.putfield 22, 3) := by decide +kernel
theorem dX4_init_31 : decode cX4_init 31 = .ok (.return_, 1) := by decide +kernel
theorem dX4_growthOfDay_0 : decode cX4_growthOfDay 0 = .ok (.aload_n 0, 1) := by decide +kernel
theorem dX4_growthOfDay_1 : decode cX4_growthOfDay 1 = .ok (.getfield 13, 3) := by decide +kernel
theorem dX4_growthOfDay_4 : decode cX4_growthOfDay 4 = .ok (.lookupswitch 34 #[(0, 28), (1, 31)], 28) := by decide +kernel
theorem dX4_growthOfDay_32 : decode cX4_growthOfDay 32 = .ok (.bipush 30, 2) := by decide +kernel
theorem dX4_growthOfDay_34 : decode cX4_growthOfDay 34 = .ok (.ireturn, 1) := by decide +kernel
theorem dX4_growthOfDay_35 : decode cX4_growthOfDay 35 = .ok (.bipush 20, 2) := by decide +kernel
theorem dX4_growthOfDay_37 : decode cX4_growthOfDay 37 = .ok (.ireturn, 1) := by decide +kernel
theorem dX4_growthOfDay_38 : decode cX4_growthOfDay 38 = .ok (.bipush 10, 2) := by decide +kernel
theorem dX4_growthOfDay_40 : decode cX4_growthOfDay 40 = .ok (.ireturn, 1) := by decide +kernel
set_option maxRecDepth 20000 in
theorem ggX4_raise_X4_growthOfDay : GoodIn wsX4_raise wsX4_growthOfDay := goodIn_r _ [11, 12, 13, 14, 15, 16, 17] (by decide +kernel) (by decide +kernel)
set_option maxRecDepth 20000 in
theorem gX4_raise_X4_growthOfDay : GoodIn wsX4_raise (wsV RX4 25 RX4 yX4_growthOfDay wsX4_growthOfDay) := goodIn_app (goodIn_of _ (by decide +kernel)) ggX4_raise_X4_growthOfDay
theorem dX4_raise_0 : decode cX4_raise 0 = .ok (.aload_n 0, 1) := by decide +kernel
theorem dX4_raise_1 : decode cX4_raise 1 = .ok (.sipush 3000, 3) := by decide +kernel
theorem dX4_raise_4 : decode cX4_raise 4 = .ok (.aload_n 0, 1) := by decide +kernel
theorem dX4_raise_5 : decode cX4_raise 5 = .ok (.getfield 9, 3) := by decide +kernel
theorem dX4_raise_8 : decode cX4_raise 8 = .ok (.iload_n 1, 1) := by decide +kernel
theorem dX4_raise_9 : decode cX4_raise 9 = .ok (.aload_n 0, 1) := by decide +kernel
theorem dX4_raise_10 : decode cX4_raise 10 = .ok (.invokevirtual 25, 3) := by decide +kernel
theorem dX4_raise_13 : decode cX4_raise 13 = .ok (.imul, 1) := by decide +kernel
theorem dX4_raise_14 : decode cX4_raise 14 = .ok (.iadd, 1) := by decide +kernel
theorem dX4_raise_15 : decode cX4_raise 15 = .ok (.invokestatic 29, 3) := by decide +kernel
theorem dX4_raise_18 : decode cX4_raise 18 = .ok (.putfield 9, 3) := by decide +kernel
theorem dX4_raise_21 : decode cX4_raise 21 = .ok (.aload_n 0, 1) := by decide +kernel
theorem dX4_raise_22 : decode cX4_raise 22 = .ok (.dup, 1) := by decide +kernel
theorem dX4_raise_23 : decode cX4_raise 23 = .ok (.getfield 22, 3) := by decide +kernel
theorem dX4_raise_26 : decode cX4_raise 26 = .ok (.iload_n 1, 1) := by decide +kernel
theorem dX4_raise_27 : decode cX4_raise 27 = .ok (.iadd, 1) := by decide +kernel
theorem dX4_raise_28 : decode cX4_raise 28 = .ok (.putfield 22, 3) := by decide +kernel
theorem dX4_raise_31 : decode cX4_raise 31 = .ok (.return_, 1) := by decide +kernel
set_option maxRecDepth 20000 in
theorem ggX4_daysTo_X4_growthOfDay : GoodIn wsX4_daysTo wsX4_growthOfDay := goodIn_r _ [6, 7, 11, 12, 13, 14, 15] (by decide +kernel) (by decide +kernel)
set_option maxRecDepth 20000 in
theorem gX4_daysTo_X4_growthOfDay : GoodIn wsX4_daysTo (wsV RX4 25 RX4 yX4_growthOfDay wsX4_growthOfDay) := goodIn_app (goodIn_of _ (by decide +kernel)) ggX4_daysTo_X4_growthOfDay
set_option maxRecDepth 20000 in
theorem ggX4_daysTo_X8_dividedUp : GoodIn wsX4_daysTo wsX8_dividedUp := goodIn_r _ [10] (by decide +kernel) (by decide +kernel)
set_option maxRecDepth 20000 in
theorem gX4_daysTo_X8_dividedUp_n35 : GoodIn wsX4_daysTo (wsX8_dividedUp) := ggX4_daysTo_X8_dividedUp
theorem dX4_daysTo_0 : decode cX4_daysTo 0 = .ok (.iload_n 1, 1) := by decide +kernel
theorem dX4_daysTo_1 : decode cX4_daysTo 1 = .ok (.aload_n 0, 1) := by decide +kernel
theorem dX4_daysTo_2 : decode cX4_daysTo 2 = .ok (.getfield 9, 3) := by decide +kernel
theorem dX4_daysTo_5 : decode cX4_daysTo 5 = .ok (.if_icmp .gt 7, 3) := by decide +kernel
theorem dX4_daysTo_8 : decode cX4_daysTo 8 = .ok (.iconst 0, 1) := by decide +kernel
theorem dX4_daysTo_9 : decode cX4_daysTo 9 = .ok (.goto 16, 3) := by decide +kernel
theorem dX4_daysTo_12 : decode cX4_daysTo 12 = .ok (.iload_n 1, 1) := by decide +kernel
theorem dX4_daysTo_13 : decode cX4_daysTo 13 = .ok (.aload_n 0, 1) := by decide +kernel
theorem dX4_daysTo_14 : decode cX4_daysTo 14 = .ok (.getfield 9, 3) := by decide +kernel
theorem dX4_daysTo_17 : decode cX4_daysTo 17 = .ok (.isub, 1) := by decide +kernel
theorem dX4_daysTo_18 : decode cX4_daysTo 18 = .ok (.aload_n 0, 1) := by decide +kernel
theorem dX4_daysTo_19 : decode cX4_daysTo 19 = .ok (.invokevirtual 25, 3) := by decide +kernel
theorem dX4_daysTo_22 : decode cX4_daysTo 22 = .ok (.invokestatic 35, 3) := by decide +kernel
theorem dX4_daysTo_25 : decode cX4_daysTo 25 = .ok (.ireturn, 1) := by decide +kernel
theorem dX4_wear_0 : decode cX4_wear 0 = .ok (.iload_n 1, 1) := by decide +kernel
theorem dX4_wear_1 : decode cX4_wear 1 = .ok (.aload_n 0, 1) := by decide +kernel
theorem dX4_wear_2 : decode cX4_wear 2 = .ok (.getfield 9, 3) := by decide +kernel
theorem dX4_wear_5 : decode cX4_wear 5 = .ok (.if_icmp .le 23, 3) := by decide +kernel
theorem dX4_wear_8 : decode cX4_wear 8 = .ok (.aload_n 0, 1) := by decide +kernel
theorem dX4_wear_9 : decode cX4_wear 9 = .ok (.iconst 0, 1) := by decide +kernel
theorem dX4_wear_10 : decode cX4_wear 10 = .ok (.putfield 9, 3) := by decide +kernel
theorem dX4_wear_13 : decode cX4_wear 13 = .ok (.aload_n 0, 1) := by decide +kernel
theorem dX4_wear_14 : decode cX4_wear 14 = .ok (.dup, 1) := by decide +kernel
theorem dX4_wear_15 : decode cX4_wear 15 = .ok (.getfield 19, 3) := by decide +kernel
theorem dX4_wear_18 : decode cX4_wear 18 = .ok (.iconst 1, 1) := by decide +kernel
theorem dX4_wear_19 : decode cX4_wear 19 = .ok (.iadd, 1) := by decide +kernel
theorem dX4_wear_20 : decode cX4_wear 20 = .ok (.putfield 19, 3) := by decide +kernel
theorem dX4_wear_23 : decode cX4_wear 23 = .ok (.aload_n 0, 1) := by decide +kernel
theorem dX4_wear_24 : decode cX4_wear 24 = .ok (.getfield 16, 3) := by decide +kernel
theorem dX4_wear_27 : decode cX4_wear 27 = .ok (.ireturn, 1) := by decide +kernel
theorem dX4_wear_28 : decode cX4_wear 28 = .ok (.aload_n 0, 1) := by decide +kernel
theorem dX4_wear_29 : decode cX4_wear 29 = .ok (.dup, 1) := by decide +kernel
theorem dX4_wear_30 : decode cX4_wear 30 = .ok (.getfield 9, 3) := by decide +kernel
theorem dX4_wear_33 : decode cX4_wear 33 = .ok (.iload_n 1, 1) := by decide +kernel
theorem dX4_wear_34 : decode cX4_wear 34 = .ok (.bipush 100, 2) := by decide +kernel
theorem dX4_wear_36 : decode cX4_wear 36 = .ok (.idiv, 1) := by decide +kernel
theorem dX4_wear_37 : decode cX4_wear 37 = .ok (.isub, 1) := by decide +kernel
theorem dX4_wear_38 : decode cX4_wear 38 = .ok (.putfield 9, 3) := by decide +kernel
theorem dX4_wear_41 : decode cX4_wear 41 = .ok (.iconst 0, 1) := by decide +kernel
theorem dX4_wear_42 : decode cX4_wear 42 = .ok (.ireturn, 1) := by decide +kernel
theorem dX5_init_0 : decode cX5_init 0 = .ok (.aload_n 0, 1) := by decide +kernel
theorem dX5_init_1 : decode cX5_init 1 = .ok (.invokespecial 1, 3) := by decide +kernel
theorem dX5_init_4 : decode cX5_init 4 = .ok (.aload_n 0, 1) := by decide +kernel
theorem dX5_init_5 : decode cX5_init 5 = .ok (.iload_n 1, 1) := by decide +kernel
theorem dX5_init_6 : decode cX5_init 6 = .ok (.putfield 7, 3) := by decide +kernel
theorem dX5_init_9 : decode cX5_init 9 = .ok (.aload_n 0, 1) := by decide +kernel
theorem dX5_init_10 : decode cX5_init 10 = .ok (.iload_n 2, 1) := by decide +kernel
theorem dX5_init_11 : decode cX5_init 11 = .ok (.putfield 13, 3) := by decide +kernel
theorem dX5_init_14 : decode cX5_init 14 = .ok (.aload_n 0, 1) := by decide +kernel
theorem dX5_init_15 : decode cX5_init 15 = .ok (.iload_n 3, 1) := by decide +kernel
theorem dX5_init_16 : decode cX5_init 16 = .ok (.putfield 16, 3) := by decide +kernel
theorem dX5_init_19 : decode cX5_init 19 = .ok (.aload_n 0, 1) := by decide +kernel
theorem dX5_init_20 : decode cX5_init 20 = .ok (.iload 4, 2) := by decide +kernel
theorem dX5_init_22 : decode cX5_init 22 = .ok (.putfield 19, 3) := by decide +kernel
theorem dX5_init_25 : decode cX5_init 25 = .ok (.aload_n 0, 1) := by decide +kernel
theorem dX5_init_26 : decode cX5_init 26 = .ok (.aload 5, 2) := by decide +kernel
theorem dX5_init_28 : decode cX5_init 28 = .ok (.putfield 22, 3) := by decide +kernel
theorem dX5_init_31 : decode cX5_init 31 = .ok (.return_, 1) := by decide +kernel
theorem dX6_init_0 : decode cX6_init 0 = .ok (.aload_n 0, 1) := by decide +kernel
theorem dX6_init_1 : decode cX6_init 1 = .ok (.invokespecial 1, 3) := by decide +kernel
theorem dX6_init_4 : decode cX6_init 4 = .ok (.aload_n 0, 1) := by decide +kernel
theorem dX6_init_5 : decode cX6_init 5 = .ok (.iconst 0, 1) := by decide +kernel
theorem dX6_init_6 : decode cX6_init 6 = .ok (.putfield 7, 3) := by decide +kernel
theorem dX6_init_9 : decode cX6_init 9 = .ok (.return_, 1) := by decide +kernel
set_option maxRecDepth 20000 in
theorem ggX6_addDays_X7_init : GoodIn wsX6_addDays wsX7_init := goodIn_r _ [11, 12, 13, 14, 15, 19, 20, 21] (by decide +kernel) (by decide +kernel)
set_option maxRecDepth 20000 in
theorem gX6_addDays_X7_init : GoodIn wsX6_addDays (wsX7_init) := ggX6_addDays_X7_init
theorem dX6_addDays_0 : decode cX6_addDays 0 = .ok (.aload_n 0, 1) := by decide +kernel
theorem dX6_addDays_1 : decode cX6_addDays 1 = .ok (.getfield 13, 3) := by decide +kernel
theorem dX6_addDays_4 : decode cX6_addDays 4 = .ok (.ifnonnull 26, 3) := by decide +kernel
theorem dX6_addDays_7 : decode cX6_addDays 7 = .ok (.aload_n 0, 1) := by decide +kernel
theorem dX6_addDays_8 : decode cX6_addDays 8 = .ok (.new 17, 3) := by decide +kernel
theorem dX6_addDays_11 : decode cX6_addDays 11 = .ok (.dup, 1) := by decide +kernel
theorem dX6_addDays_12 : decode cX6_addDays 12 = .ok (.iload_n 1, 1) := by decide +kernel
theorem dX6_addDays_13 : decode cX6_addDays 13 = .ok (.invokespecial 19, 3) := by decide +kernel
theorem dX6_addDays_16 : decode cX6_addDays 16 = .ok (.putfield 22, 3) := by decide +kernel
theorem dX6_addDays_19 : decode cX6_addDays 19 = .ok (.aload_n 0, 1) := by decide +kernel
theorem dX6_addDays_20 : decode cX6_addDays 20 = .ok (.aload_n 0, 1) := by decide +kernel
theorem dX6_addDays_21 : decode cX6_addDays 21 = .ok (.getfield 22, 3) := by decide +kernel
theorem dX6_addDays_24 : decode cX6_addDays 24 = .ok (.putfield 13, 3) := by decide +kernel
theorem dX6_addDays_27 : decode cX6_addDays 27 = .ok (.goto 40, 3) := by decide +kernel
theorem dX6_addDays_30 : decode cX6_addDays 30 = .ok (.aload_n 0, 1) := by decide +kernel
theorem dX6_addDays_31 : decode cX6_addDays 31 = .ok (.getfield 13, 3) := by decide +kernel
theorem dX6_addDays_34 : decode cX6_addDays 34 = .ok (.getfield 25, 3) := by decide +kernel
theorem dX6_addDays_37 : decode cX6_addDays 37 = .ok (.iload_n 1, 1) := by decide +kernel
theorem dX6_addDays_38 : decode cX6_addDays 38 = .ok (.if_icmp .eq 29, 3) := by decide +kernel
theorem dX6_addDays_41 : decode cX6_addDays 41 = .ok (.aload_n 0, 1) := by decide +kernel
theorem dX6_addDays_42 : decode cX6_addDays 42 = .ok (.getfield 13, 3) := by decide +kernel
theorem dX6_addDays_45 : decode cX6_addDays 45 = .ok (.new 17, 3) := by decide +kernel
theorem dX6_addDays_48 : decode cX6_addDays 48 = .ok (.dup, 1) := by decide +kernel
theorem dX6_addDays_49 : decode cX6_addDays 49 = .ok (.iload_n 1, 1) := by decide +kernel
theorem dX6_addDays_50 : decode cX6_addDays 50 = .ok (.invokespecial 19, 3) := by decide +kernel
theorem dX6_addDays_53 : decode cX6_addDays 53 = .ok (.putfield 28, 3) := by decide +kernel
theorem dX6_addDays_56 : decode cX6_addDays 56 = .ok (.aload_n 0, 1) := by decide +kernel
theorem dX6_addDays_57 : decode cX6_addDays 57 = .ok (.aload_n 0, 1) := by decide +kernel
theorem dX6_addDays_58 : decode cX6_addDays 58 = .ok (.getfield 13, 3) := by decide +kernel
theorem dX6_addDays_61 : decode cX6_addDays 61 = .ok (.getfield 28, 3) := by decide +kernel
theorem dX6_addDays_64 : decode cX6_addDays 64 = .ok (.putfield 13, 3) := by decide +kernel
theorem dX6_addDays_67 : decode cX6_addDays 67 = .ok (.aload_n 0, 1) := by decide +kernel
theorem dX6_addDays_68 : decode cX6_addDays 68 = .ok (.getfield 13, 3) := by decide +kernel
theorem dX6_addDays_71 : decode cX6_addDays 71 = .ok (.dup, 1) := by decide +kernel
theorem dX6_addDays_72 : decode cX6_addDays 72 = .ok (.getfield 31, 3) := by decide +kernel
theorem dX6_addDays_75 : decode cX6_addDays 75 = .ok (.iload_n 2, 1) := by decide +kernel
theorem dX6_addDays_76 : decode cX6_addDays 76 = .ok (.iadd, 1) := by decide +kernel
theorem dX6_addDays_77 : decode cX6_addDays 77 = .ok (.putfield 31, 3) := by decide +kernel
theorem dX6_addDays_80 : decode cX6_addDays 80 = .ok (.return_, 1) := by decide +kernel
theorem dX7_init_0 : decode cX7_init 0 = .ok (.aload_n 0, 1) := by decide +kernel
theorem dX7_init_1 : decode cX7_init 1 = .ok (.invokespecial 1, 3) := by decide +kernel
theorem dX7_init_4 : decode cX7_init 4 = .ok (.aload_n 0, 1) := by decide +kernel
theorem dX7_init_5 : decode cX7_init 5 = .ok (.iload_n 1, 1) := by decide +kernel
theorem dX7_init_6 : decode cX7_init 6 = .ok (.putfield 7, 3) := by decide +kernel
theorem dX7_init_9 : decode cX7_init 9 = .ok (.return_, 1) := by decide +kernel
theorem dJ9_abs_0f7a4_0 : decode cJ9_abs_0f7a4 0 = .ok (.iload_n 0, 1) := by decide +kernel
theorem dJ9_abs_0f7a4_1 : decode cJ9_abs_0f7a4 1 = .ok (.ifCond .ge 8, 3) := by decide +kernel
theorem dJ9_abs_0f7a4_4 : decode cJ9_abs_0f7a4 4 = .ok (.iload_n 0, 1) := by decide +kernel
theorem dJ9_abs_0f7a4_5 : decode cJ9_abs_0f7a4 5 = .ok (.ineg, 1) := by decide +kernel
theorem dJ9_abs_0f7a4_6 : decode cJ9_abs_0f7a4 6 = .ok (.goto 4, 3) := by decide +kernel
theorem dJ9_abs_0f7a4_9 : decode cJ9_abs_0f7a4 9 = .ok (.iload_n 0, 1) := by decide +kernel
theorem dJ9_abs_0f7a4_10 : decode cJ9_abs_0f7a4 10 = .ok (.ireturn, 1) := by decide +kernel
theorem dJ9_max_7cf53_0 : decode cJ9_max_7cf53 0 = .ok (.iload_n 0, 1) := by decide +kernel
theorem dJ9_max_7cf53_1 : decode cJ9_max_7cf53 1 = .ok (.iload_n 1, 1) := by decide +kernel
theorem dJ9_max_7cf53_2 : decode cJ9_max_7cf53 2 = .ok (.if_icmp .lt 7, 3) := by decide +kernel
theorem dJ9_max_7cf53_5 : decode cJ9_max_7cf53 5 = .ok (.iload_n 0, 1) := by decide +kernel
theorem dJ9_max_7cf53_6 : decode cJ9_max_7cf53 6 = .ok (.goto 4, 3) := by decide +kernel
theorem dJ9_max_7cf53_9 : decode cJ9_max_7cf53 9 = .ok (.iload_n 1, 1) := by decide +kernel
theorem dJ9_max_7cf53_10 : decode cJ9_max_7cf53 10 = .ok (.ireturn, 1) := by decide +kernel
theorem dJ9_max_f86c9_0 : decode cJ9_max_f86c9 0 = .ok (.lload_n 0, 1) := by decide +kernel
theorem dJ9_max_f86c9_1 : decode cJ9_max_f86c9 1 = .ok (.lload_n 2, 1) := by decide +kernel
theorem dJ9_max_f86c9_2 : decode cJ9_max_f86c9 2 = .ok (.lcmp, 1) := by decide +kernel
theorem dJ9_max_f86c9_3 : decode cJ9_max_f86c9 3 = .ok (.ifCond .lt 7, 3) := by decide +kernel
theorem dJ9_max_f86c9_6 : decode cJ9_max_f86c9 6 = .ok (.lload_n 0, 1) := by decide +kernel
theorem dJ9_max_f86c9_7 : decode cJ9_max_f86c9 7 = .ok (.goto 4, 3) := by decide +kernel
theorem dJ9_max_f86c9_10 : decode cJ9_max_f86c9 10 = .ok (.lload_n 2, 1) := by decide +kernel
theorem dJ9_max_f86c9_11 : decode cJ9_max_f86c9 11 = .ok (.lreturn, 1) := by decide +kernel
theorem dJ9_min_7cf53_0 : decode cJ9_min_7cf53 0 = .ok (.iload_n 0, 1) := by decide +kernel
theorem dJ9_min_7cf53_1 : decode cJ9_min_7cf53 1 = .ok (.iload_n 1, 1) := by decide +kernel
theorem dJ9_min_7cf53_2 : decode cJ9_min_7cf53 2 = .ok (.if_icmp .gt 7, 3) := by decide +kernel
theorem dJ9_min_7cf53_5 : decode cJ9_min_7cf53 5 = .ok (.iload_n 0, 1) := by decide +kernel
theorem dJ9_min_7cf53_6 : decode cJ9_min_7cf53 6 = .ok (.goto 4, 3) := by decide +kernel
theorem dJ9_min_7cf53_9 : decode cJ9_min_7cf53 9 = .ok (.iload_n 1, 1) := by decide +kernel
theorem dJ9_min_7cf53_10 : decode cJ9_min_7cf53 10 = .ok (.ireturn, 1) := by decide +kernel
end
section
abbrev wsX80 : List Cond := u_ws RX8 TX8 14
def wsX8_init_r1 : List Cond := [Cond.methodLink RX8 1 objectInit, Cond.instanceMethod objectInit, Cond.code objectInit ⟨#[0xb1]⟩ 1 none, Cond.classLink RX8 9 RX6, Cond.fieldLink RX8 11 "DikeHands" "villages" "[LDikeHands$Village;", Cond.classLink RX8 15 RX4, Cond.fieldLink RX8 17 "DikeHands" "rods" "[LDikeHands$Rod;", Cond.classLink RX8 21 RX0, Cond.fieldLink RX8 23 "DikeHands" "houses" "[LDikeHands$House;", Cond.classLink RX8 27 RX2, Cond.instantiable RX2 3, Cond.initialized RX2, Cond.fieldLink RX8 30 "DikeHands" "laws" "LDikeHands$LawBook;", Cond.classLink RX8 34 RX3, Cond.instantiable RX3 1, Cond.initialized RX3, Cond.fieldLink RX8 37 "DikeHands" "plan" "LDikeHands$Plan;", Cond.arrayClass .int, Cond.fieldLink RX8 41 "DikeHands" "levels" "[I", Cond.fieldLink RX8 45 "DikeHands" "now" "I", Cond.fieldLink RX8 49 "DikeHands" "houseCount" "I", Cond.fieldLink RX8 52 "DikeHands" "changeCount" "I", Cond.fieldLink RX8 55 "DikeHands" "chest" "I", Cond.fieldLink RX8 58 "DikeHands" "lossCounted" "I"]
def wsX8_init_r2 : List Cond := [Cond.fieldLink RX8 61 "DikeHands" "daysDone" "I", Cond.fieldLink RX8 64 "DikeHands" "daysBought" "I", Cond.fieldLink RX8 67 "DikeHands" "daysHired" "I", Cond.instantiable RX6 3, Cond.initialized RX6, Cond.instantiable RX4 5, Cond.initialized RX4, Cond.instanceMethod yX2_init, Cond.code yX2_init cX2_init 1 none, Cond.methodLink RX2 3 objectInit, Cond.classLink RX2 9 RX1, Cond.fieldLink RX2 11 "DikeHands$LawBook" "laws" "[LDikeHands$Law;", Cond.instantiable RX1 5, Cond.initialized RX1, Cond.fieldLink RX2 20 "DikeHands$LawBook" "noLaw" "LDikeHands$Law;", Cond.fieldLink RX2 24 "DikeHands$LawBook" "size" "I", Cond.methodLink RX2 17 yX1_init, Cond.instanceMethod yX1_init, Cond.code yX1_init cX1_init 4 none, Cond.methodLink RX1 3 objectInit, Cond.fieldLink RX1 9 "DikeHands$Law" "year" "I", Cond.fieldLink RX1 15 "DikeHands$Law" "daysForTenAcres" "I", Cond.fieldLink RX1 18 "DikeHands$Law" "daysForHand" "I", Cond.fieldLink RX1 21 "DikeHands$Law" "exempt" "I"]
def wsX8_init_r3 : List Cond := [Cond.fieldLink RX1 24 "DikeHands$Law" "coin" "I", Cond.instanceMethod yX3_init, Cond.code yX3_init cX3_init 1 none, Cond.methodLink RX3 5 objectInit, Cond.arrayClass .long, Cond.fieldLink RX3 11 "DikeHands$Plan" "worthWithin" "[J", Cond.instanceMethod yX6_init, Cond.code yX6_init cX6_init 1 none, Cond.methodLink RX6 1 objectInit, Cond.fieldLink RX6 7 "DikeHands$Village" "mile" "I", Cond.instanceMethod yX4_init, Cond.code yX4_init cX4_init 1 none, Cond.methodLink RX4 1 objectInit, Cond.fieldLink RX4 9 "DikeHands$Rod" "height" "I", Cond.fieldLink RX4 13 "DikeHands$Rod" "soil" "I", Cond.fieldLink RX4 16 "DikeHands$Rod" "loss" "I", Cond.fieldLink RX4 19 "DikeHands$Rod" "breaks" "I", Cond.fieldLink RX4 22 "DikeHands$Rod" "days" "I"]
def wsX8_init : List Cond := .code yX8_init cX8_init 2 none :: ((wsX8_init_r1 ++ (wsX8_init_r2 ++ wsX8_init_r3)) ++ wsX80 ++ wsX20 ++ wsX30 ++ wsX60 ++ wsX40 ++ wsX10)
def wsX8_isVillage : List Cond := .code yX8_isVillage cX8_isVillage 1 (some .boolean) :: ([.methodLink RX8 76 yX8_isWithin, .static yX8_isWithin, .initialized RX8, .code yX8_isWithin cX8_isWithin 2 (some .boolean)])
def wsX8_village : List Cond := .code yX8_village cX8_village 3 (some .boolean) :: ([.fieldLink RX8 11 "DikeHands" "villages" "[LDikeHands$Village;", .fieldLink RX8 80 "DikeHands$Village" "mile" "I", .methodLink RX8 72 yX8_isVillage, .static yX8_isVillage, .initialized RX8, .code yX8_isVillage cX8_isVillage 1 (some .boolean), .methodLink RX8 76 yX8_isWithin, .static yX8_isWithin, .code yX8_isWithin cX8_isWithin 2 (some .boolean)] ++ wsX80 ++ wsX60)
def wsX8_isRod : List Cond := .code yX8_isRod cX8_isRod 1 (some .boolean) :: ([.methodLink RX8 76 yX8_isWithin, .static yX8_isWithin, .initialized RX8, .code yX8_isWithin cX8_isWithin 2 (some .boolean)])
def wsX8_rod : List Cond := .code yX8_rod cX8_rod 4 (some .boolean) :: ([.fieldLink RX8 17 "DikeHands" "rods" "[LDikeHands$Rod;", .fieldLink RX8 86 "DikeHands$Rod" "soil" "I", .fieldLink RX8 89 "DikeHands$Rod" "loss" "I", .methodLink RX8 83 yX8_isRod, .static yX8_isRod, .initialized RX8, .code yX8_isRod cX8_isRod 1 (some .boolean), .methodLink RX8 76 yX8_isWithin, .static yX8_isWithin, .code yX8_isWithin cX8_isWithin 2 (some .boolean)] ++ wsX80 ++ wsX40)
def wsX8_law_r1 : List Cond := [Cond.fieldLink RX8 30 "DikeHands" "laws" "LDikeHands$LawBook;", Cond.classLink RX8 93 RX1, Cond.instantiable RX1 5, Cond.initialized RX1, Cond.fieldLink RX8 108 "DikeHands$LawBook" "size" "I", Cond.methodLink RX8 76 yX8_isWithin, Cond.static yX8_isWithin, Cond.initialized RX8, Cond.code yX8_isWithin cX8_isWithin 2 (some .boolean), Cond.methodLink RX8 92 yX1_canBe, Cond.static yX1_canBe, Cond.code yX1_canBe cX1_canBe 1 (some .boolean), Cond.constant RX1 27 (99999), Cond.methodLink RX8 97 yX2_isFull, Cond.instanceMethod yX2_isFull, Cond.selects RX2 yX2_isFull yX2_isFull, Cond.initialized RX2, Cond.code yX2_isFull cX2_isFull 1 (some .boolean), Cond.fieldLink RX2 24 "DikeHands$LawBook" "size" "I", Cond.methodLink RX8 101 yX1_init, Cond.instanceMethod yX1_init, Cond.code yX1_init cX1_init 4 none, Cond.methodLink RX1 3 objectInit, Cond.instanceMethod objectInit]
def wsX8_law_r2 : List Cond := [Cond.code objectInit ⟨#[0xb1]⟩ 1 none, Cond.fieldLink RX1 9 "DikeHands$Law" "year" "I", Cond.fieldLink RX1 15 "DikeHands$Law" "daysForTenAcres" "I", Cond.fieldLink RX1 18 "DikeHands$Law" "daysForHand" "I", Cond.fieldLink RX1 21 "DikeHands$Law" "exempt" "I", Cond.fieldLink RX1 24 "DikeHands$Law" "coin" "I", Cond.methodLink RX8 104 yX2_add, Cond.instanceMethod yX2_add, Cond.selects RX2 yX2_add yX2_add, Cond.code yX2_add cX2_add 2 none, Cond.fieldLink RX2 11 "DikeHands$LawBook" "laws" "[LDikeHands$Law;", Cond.methodLink RX2 28 yX2_isFull]
def wsX8_law : List Cond := .code yX8_law cX8_law 4 (some .int) :: ((wsX8_law_r1 ++ wsX8_law_r2) ++ wsX80 ++ wsX10 ++ wsX20)
def wsX8_isHolding : List Cond := .code yX8_isHolding cX8_isHolding 2 (some .boolean) :: ([.methodLink RX8 76 yX8_isWithin, .static yX8_isWithin, .initialized RX8, .code yX8_isWithin cX8_isWithin 2 (some .boolean)])
def wsX8_house_r1 : List Cond := [Cond.fieldLink RX8 49 "DikeHands" "houseCount" "I", Cond.fieldLink RX8 23 "DikeHands" "houses" "[LDikeHands$House;", Cond.classLink RX8 21 RX0, Cond.instantiable RX0 8, Cond.initialized RX0, Cond.fieldLink RX8 45 "DikeHands" "now" "I", Cond.methodLink RX8 72 yX8_isVillage, Cond.static yX8_isVillage, Cond.initialized RX8, Cond.code yX8_isVillage cX8_isVillage 1 (some .boolean), Cond.methodLink RX8 76 yX8_isWithin, Cond.static yX8_isWithin, Cond.code yX8_isWithin cX8_isWithin 2 (some .boolean), Cond.methodLink RX8 111 yX8_isHolding, Cond.static yX8_isHolding, Cond.code yX8_isHolding cX8_isHolding 2 (some .boolean), Cond.methodLink RX8 114 yX0_init, Cond.instanceMethod yX0_init, Cond.code yX0_init cX0_init 6 none, Cond.methodLink RX0 3 objectInit, Cond.instanceMethod objectInit, Cond.code objectInit ⟨#[0xb1]⟩ 1 none, Cond.arrayClass .int, Cond.fieldLink RX0 11 "DikeHands$House" "byItself" "[I"]
def wsX8_house_r2 : List Cond := [Cond.fieldLink RX0 15 "DikeHands$House" "bySubstitute" "[I", Cond.fieldLink RX0 18 "DikeHands$House" "bought" "[I", Cond.fieldLink RX0 21 "DikeHands$House" "asSubstitute" "[I", Cond.fieldLink RX0 24 "DikeHands$House" "substitute" "[I", Cond.fieldLink RX0 27 "DikeHands$House" "home" "I", Cond.fieldLink RX0 31 "DikeHands$House" "came" "I", Cond.classLink RX0 34 RX5, Cond.instantiable RX5 5, Cond.initialized RX5, Cond.fieldLink RX0 39 "DikeHands$House" "latest" "LDikeHands$Telling;", Cond.methodLink RX0 36 yX5_init, Cond.instanceMethod yX5_init, Cond.code yX5_init cX5_init 6 none, Cond.methodLink RX5 1 objectInit, Cond.fieldLink RX5 7 "DikeHands$Telling" "told" "I", Cond.fieldLink RX5 13 "DikeHands$Telling" "from" "I", Cond.fieldLink RX5 16 "DikeHands$Telling" "acres" "I", Cond.fieldLink RX5 19 "DikeHands$Telling" "hands" "I", Cond.fieldLink RX5 22 "DikeHands$Telling" "earlier" "LDikeHands$Telling;"]
def wsX8_house : List Cond := .code yX8_house cX8_house 4 (some .int) :: ((wsX8_house_r1 ++ wsX8_house_r2) ++ wsX80 ++ wsX00 ++ wsX50)
def wsX8_isHouse : List Cond := .code yX8_isHouse cX8_isHouse 2 (some .boolean) :: ([.fieldLink RX8 49 "DikeHands" "houseCount" "I", .methodLink RX8 76 yX8_isWithin, .static yX8_isWithin, .initialized RX8, .code yX8_isWithin cX8_isWithin 2 (some .boolean)] ++ wsX80)
def wsX8_change_r1 : List Cond := [Cond.fieldLink RX8 52 "DikeHands" "changeCount" "I", Cond.fieldLink RX8 45 "DikeHands" "now" "I", Cond.fieldLink RX8 23 "DikeHands" "houses" "[LDikeHands$House;", Cond.fieldLink RX8 120 "DikeHands$House" "came" "I", Cond.methodLink RX8 117 yX8_isHouse, Cond.instanceMethod yX8_isHouse, Cond.selects RX8 yX8_isHouse yX8_isHouse, Cond.initialized RX8, Cond.code yX8_isHouse cX8_isHouse 2 (some .boolean), Cond.fieldLink RX8 49 "DikeHands" "houseCount" "I", Cond.methodLink RX8 76 yX8_isWithin, Cond.static yX8_isWithin, Cond.code yX8_isWithin cX8_isWithin 2 (some .boolean), Cond.methodLink RX8 111 yX8_isHolding, Cond.static yX8_isHolding, Cond.code yX8_isHolding cX8_isHolding 2 (some .boolean), Cond.methodLink RX8 123 yX0_learn, Cond.instanceMethod yX0_learn, Cond.selects RX0 yX0_learn yX0_learn, Cond.initialized RX0, Cond.code yX0_learn cX0_learn 5 none, Cond.classLink RX0 34 RX5, Cond.instantiable RX5 5, Cond.initialized RX5]
def wsX8_change_r2 : List Cond := [Cond.fieldLink RX0 39 "DikeHands$House" "latest" "LDikeHands$Telling;", Cond.methodLink RX0 36 yX5_init, Cond.instanceMethod yX5_init, Cond.code yX5_init cX5_init 6 none, Cond.methodLink RX5 1 objectInit, Cond.instanceMethod objectInit, Cond.code objectInit ⟨#[0xb1]⟩ 1 none, Cond.fieldLink RX5 7 "DikeHands$Telling" "told" "I", Cond.fieldLink RX5 13 "DikeHands$Telling" "from" "I", Cond.fieldLink RX5 16 "DikeHands$Telling" "acres" "I", Cond.fieldLink RX5 19 "DikeHands$Telling" "hands" "I", Cond.fieldLink RX5 22 "DikeHands$Telling" "earlier" "LDikeHands$Telling;"]
def wsX8_change : List Cond := .code yX8_change cX8_change 5 (some .boolean) :: ((wsX8_change_r1 ++ wsX8_change_r2) ++ wsX80 ++ wsX00 ++ wsX50)
def wsX8_yearNow : List Cond := .code yX8_yearNow cX8_yearNow 1 (some .int) :: ([.fieldLink RX8 45 "DikeHands" "now" "I"] ++ wsX80)
def wsX8_isYearSoFar : List Cond := .code yX8_isYearSoFar cX8_isYearSoFar 2 (some .boolean) :: ([.methodLink RX8 145 yX8_yearNow, .instanceMethod yX8_yearNow, .selects RX8 yX8_yearNow yX8_yearNow, .initialized RX8, .code yX8_yearNow cX8_yearNow 1 (some .int), .fieldLink RX8 45 "DikeHands" "now" "I", .methodLink RX8 76 yX8_isWithin, .static yX8_isWithin, .code yX8_isWithin cX8_isWithin 2 (some .boolean)] ++ wsX80)
def wsX8_listed_r1 : List Cond := [Cond.fieldLink RX8 23 "DikeHands" "houses" "[LDikeHands$House;", Cond.fieldLink RX8 133 "DikeHands$Telling" "acres" "I", Cond.fieldLink RX8 138 "DikeHands$Telling" "hands" "I", Cond.methodLink RX8 117 yX8_isHouse, Cond.instanceMethod yX8_isHouse, Cond.selects RX8 yX8_isHouse yX8_isHouse, Cond.initialized RX8, Cond.code yX8_isHouse cX8_isHouse 2 (some .boolean), Cond.fieldLink RX8 49 "DikeHands" "houseCount" "I", Cond.methodLink RX8 76 yX8_isWithin, Cond.static yX8_isWithin, Cond.code yX8_isWithin cX8_isWithin 2 (some .boolean), Cond.methodLink RX8 126 yX8_isYearSoFar, Cond.instanceMethod yX8_isYearSoFar, Cond.selects RX8 yX8_isYearSoFar yX8_isYearSoFar, Cond.code yX8_isYearSoFar cX8_isYearSoFar 2 (some .boolean), Cond.methodLink RX8 145 yX8_yearNow, Cond.instanceMethod yX8_yearNow, Cond.selects RX8 yX8_yearNow yX8_yearNow, Cond.code yX8_yearNow cX8_yearNow 1 (some .int), Cond.fieldLink RX8 45 "DikeHands" "now" "I", Cond.methodLink RX8 129 yX0_toldAheadOf, Cond.instanceMethod yX0_toldAheadOf, Cond.selects RX0 yX0_toldAheadOf yX0_toldAheadOf]
def wsX8_listed_r2 : List Cond := [Cond.initialized RX0, Cond.code yX0_toldAheadOf cX0_toldAheadOf 3 (some (.object "DikeHands$Telling")), Cond.fieldLink RX0 39 "DikeHands$House" "latest" "LDikeHands$Telling;", Cond.fieldLink RX0 43 "DikeHands$Telling" "told" "I", Cond.fieldLink RX0 46 "DikeHands$Telling" "earlier" "LDikeHands$Telling;"]
def wsX8_listed : List Cond := .code yX8_listed cX8_listed 5 (some .int) :: ((wsX8_listed_r1 ++ wsX8_listed_r2) ++ wsX80 ++ wsX50 ++ wsX00)
def wsX8_daysOwed_r1 : List Cond := [Cond.fieldLink RX8 30 "DikeHands" "laws" "LDikeHands$LawBook;", Cond.methodLink RX8 129 yX0_toldAheadOf, Cond.instanceMethod yX0_toldAheadOf, Cond.selects RX0 yX0_toldAheadOf yX0_toldAheadOf, Cond.initialized RX0, Cond.code yX0_toldAheadOf cX0_toldAheadOf 3 (some (.object "DikeHands$Telling")), Cond.fieldLink RX0 39 "DikeHands$House" "latest" "LDikeHands$Telling;", Cond.fieldLink RX0 43 "DikeHands$Telling" "told" "I", Cond.fieldLink RX0 46 "DikeHands$Telling" "earlier" "LDikeHands$Telling;", Cond.methodLink RX8 182 yX2_ofYear, Cond.instanceMethod yX2_ofYear, Cond.selects RX2 yX2_ofYear yX2_ofYear, Cond.initialized RX2, Cond.code yX2_ofYear cX2_ofYear 4 (some (.object "DikeHands$Law")), Cond.fieldLink RX2 20 "DikeHands$LawBook" "noLaw" "LDikeHands$Law;", Cond.fieldLink RX2 24 "DikeHands$LawBook" "size" "I", Cond.fieldLink RX2 11 "DikeHands$LawBook" "laws" "[LDikeHands$Law;", Cond.fieldLink RX2 32 "DikeHands$Law" "year" "I", Cond.methodLink RX8 230 yX1_daysFor, Cond.instanceMethod yX1_daysFor, Cond.selects RX1 yX1_daysFor yX1_daysFor, Cond.initialized RX1, Cond.code yX1_daysFor cX1_daysFor 2 (some .int), Cond.fieldLink RX1 32 "DikeHands$Telling" "acres" "I"]
def wsX8_daysOwed_r2 : List Cond := [Cond.fieldLink RX1 21 "DikeHands$Law" "exempt" "I", Cond.fieldLink RX1 15 "DikeHands$Law" "daysForTenAcres" "I", Cond.fieldLink RX1 37 "DikeHands$Telling" "hands" "I", Cond.fieldLink RX1 18 "DikeHands$Law" "daysForHand" "I"]
def wsX8_daysOwed : List Cond := .code yX8_daysOwed cX8_daysOwed 4 (some .int) :: ((wsX8_daysOwed_r1 ++ wsX8_daysOwed_r2) ++ wsX80 ++ wsX00 ++ wsX50 ++ wsX20 ++ wsX10)
def wsX8_owed_r1 : List Cond := [Cond.fieldLink RX8 23 "DikeHands" "houses" "[LDikeHands$House;", Cond.methodLink RX8 117 yX8_isHouse, Cond.instanceMethod yX8_isHouse, Cond.selects RX8 yX8_isHouse yX8_isHouse, Cond.initialized RX8, Cond.code yX8_isHouse cX8_isHouse 2 (some .boolean), Cond.fieldLink RX8 49 "DikeHands" "houseCount" "I", Cond.methodLink RX8 76 yX8_isWithin, Cond.static yX8_isWithin, Cond.code yX8_isWithin cX8_isWithin 2 (some .boolean), Cond.methodLink RX8 126 yX8_isYearSoFar, Cond.instanceMethod yX8_isYearSoFar, Cond.selects RX8 yX8_isYearSoFar yX8_isYearSoFar, Cond.code yX8_isYearSoFar cX8_isYearSoFar 2 (some .boolean), Cond.methodLink RX8 145 yX8_yearNow, Cond.instanceMethod yX8_yearNow, Cond.selects RX8 yX8_yearNow yX8_yearNow, Cond.code yX8_yearNow cX8_yearNow 1 (some .int), Cond.fieldLink RX8 45 "DikeHands" "now" "I", Cond.methodLink RX8 141 yX8_daysOwed, Cond.instanceMethod yX8_daysOwed, Cond.selects RX8 yX8_daysOwed yX8_daysOwed, Cond.code yX8_daysOwed cX8_daysOwed 4 (some .int), Cond.fieldLink RX8 30 "DikeHands" "laws" "LDikeHands$LawBook;"]
def wsX8_owed_r2 : List Cond := [Cond.methodLink RX8 129 yX0_toldAheadOf, Cond.instanceMethod yX0_toldAheadOf, Cond.selects RX0 yX0_toldAheadOf yX0_toldAheadOf, Cond.initialized RX0, Cond.code yX0_toldAheadOf cX0_toldAheadOf 3 (some (.object "DikeHands$Telling")), Cond.fieldLink RX0 39 "DikeHands$House" "latest" "LDikeHands$Telling;", Cond.fieldLink RX0 43 "DikeHands$Telling" "told" "I", Cond.fieldLink RX0 46 "DikeHands$Telling" "earlier" "LDikeHands$Telling;", Cond.methodLink RX8 182 yX2_ofYear, Cond.instanceMethod yX2_ofYear, Cond.selects RX2 yX2_ofYear yX2_ofYear, Cond.initialized RX2, Cond.code yX2_ofYear cX2_ofYear 4 (some (.object "DikeHands$Law")), Cond.fieldLink RX2 20 "DikeHands$LawBook" "noLaw" "LDikeHands$Law;", Cond.fieldLink RX2 24 "DikeHands$LawBook" "size" "I", Cond.fieldLink RX2 11 "DikeHands$LawBook" "laws" "[LDikeHands$Law;", Cond.fieldLink RX2 32 "DikeHands$Law" "year" "I", Cond.methodLink RX8 230 yX1_daysFor, Cond.instanceMethod yX1_daysFor, Cond.selects RX1 yX1_daysFor yX1_daysFor, Cond.initialized RX1, Cond.code yX1_daysFor cX1_daysFor 2 (some .int), Cond.fieldLink RX1 32 "DikeHands$Telling" "acres" "I", Cond.fieldLink RX1 21 "DikeHands$Law" "exempt" "I"]
def wsX8_owed_r3 : List Cond := [Cond.fieldLink RX1 15 "DikeHands$Law" "daysForTenAcres" "I", Cond.fieldLink RX1 37 "DikeHands$Telling" "hands" "I", Cond.fieldLink RX1 18 "DikeHands$Law" "daysForHand" "I"]
def wsX8_owed : List Cond := .code yX8_owed cX8_owed 3 (some .int) :: ((wsX8_owed_r1 ++ (wsX8_owed_r2 ++ wsX8_owed_r3)) ++ wsX80 ++ wsX00 ++ wsX50 ++ wsX20 ++ wsX10)
def wsX8_daysOwedYet_r1 : List Cond := [Cond.methodLink RX8 237 Lib.Math.max.name, Cond.static Lib.Math.max.name, Cond.initialized "java/lang/Math", Cond.code Lib.Math.max.name Lib.Math.max.code 2 (some .int), Cond.methodLink RX8 141 yX8_daysOwed, Cond.instanceMethod yX8_daysOwed, Cond.selects RX8 yX8_daysOwed yX8_daysOwed, Cond.initialized RX8, Cond.code yX8_daysOwed cX8_daysOwed 4 (some .int), Cond.fieldLink RX8 30 "DikeHands" "laws" "LDikeHands$LawBook;", Cond.methodLink RX8 129 yX0_toldAheadOf, Cond.instanceMethod yX0_toldAheadOf, Cond.selects RX0 yX0_toldAheadOf yX0_toldAheadOf, Cond.initialized RX0, Cond.code yX0_toldAheadOf cX0_toldAheadOf 3 (some (.object "DikeHands$Telling")), Cond.fieldLink RX0 39 "DikeHands$House" "latest" "LDikeHands$Telling;", Cond.fieldLink RX0 43 "DikeHands$Telling" "told" "I", Cond.fieldLink RX0 46 "DikeHands$Telling" "earlier" "LDikeHands$Telling;", Cond.methodLink RX8 182 yX2_ofYear, Cond.instanceMethod yX2_ofYear, Cond.selects RX2 yX2_ofYear yX2_ofYear, Cond.initialized RX2, Cond.code yX2_ofYear cX2_ofYear 4 (some (.object "DikeHands$Law")), Cond.fieldLink RX2 20 "DikeHands$LawBook" "noLaw" "LDikeHands$Law;"]
def wsX8_daysOwedYet_r2 : List Cond := [Cond.fieldLink RX2 24 "DikeHands$LawBook" "size" "I", Cond.fieldLink RX2 11 "DikeHands$LawBook" "laws" "[LDikeHands$Law;", Cond.fieldLink RX2 32 "DikeHands$Law" "year" "I", Cond.methodLink RX8 230 yX1_daysFor, Cond.instanceMethod yX1_daysFor, Cond.selects RX1 yX1_daysFor yX1_daysFor, Cond.initialized RX1, Cond.code yX1_daysFor cX1_daysFor 2 (some .int), Cond.fieldLink RX1 32 "DikeHands$Telling" "acres" "I", Cond.fieldLink RX1 21 "DikeHands$Law" "exempt" "I", Cond.fieldLink RX1 15 "DikeHands$Law" "daysForTenAcres" "I", Cond.fieldLink RX1 37 "DikeHands$Telling" "hands" "I", Cond.fieldLink RX1 18 "DikeHands$Law" "daysForHand" "I", Cond.methodLink RX8 234 yX0_daysMet, Cond.instanceMethod yX0_daysMet, Cond.selects RX0 yX0_daysMet yX0_daysMet, Cond.code yX0_daysMet cX0_daysMet 2 (some .int), Cond.fieldLink RX0 11 "DikeHands$House" "byItself" "[I", Cond.fieldLink RX0 15 "DikeHands$House" "bySubstitute" "[I", Cond.fieldLink RX0 18 "DikeHands$House" "bought" "[I"]
def wsX8_daysOwedYet : List Cond := .code yX8_daysOwedYet cX8_daysOwedYet 3 (some .int) :: ((wsX8_daysOwedYet_r1 ++ wsX8_daysOwedYet_r2) ++ wsX80 ++ wsX00 ++ wsX50 ++ wsX20 ++ wsX10)
def wsX8_canSubstitute : List Cond := .code yX8_canSubstitute cX8_canSubstitute 5 (some .boolean) :: ([.fieldLink RX8 159 "DikeHands$House" "substitute" "[I", .fieldLink RX8 23 "DikeHands" "houses" "[LDikeHands$House;", .fieldLink RX8 168 "DikeHands$House" "home" "I"] ++ wsX00 ++ wsX80)
def wsX8_work_r1 : List Cond := [Cond.fieldLink RX8 45 "DikeHands" "now" "I", Cond.fieldLink RX8 23 "DikeHands" "houses" "[LDikeHands$House;", Cond.fieldLink RX8 152 "DikeHands$House" "byItself" "[I", Cond.fieldLink RX8 159 "DikeHands$House" "substitute" "[I", Cond.fieldLink RX8 162 "DikeHands$House" "bySubstitute" "[I", Cond.fieldLink RX8 165 "DikeHands$House" "asSubstitute" "[I", Cond.fieldLink RX8 11 "DikeHands" "villages" "[LDikeHands$Village;", Cond.fieldLink RX8 168 "DikeHands$House" "home" "I", Cond.fieldLink RX8 17 "DikeHands" "rods" "[LDikeHands$Rod;", Cond.fieldLink RX8 61 "DikeHands" "daysDone" "I", Cond.methodLink RX8 117 yX8_isHouse, Cond.instanceMethod yX8_isHouse, Cond.selects RX8 yX8_isHouse yX8_isHouse, Cond.initialized RX8, Cond.code yX8_isHouse cX8_isHouse 2 (some .boolean), Cond.fieldLink RX8 49 "DikeHands" "houseCount" "I", Cond.methodLink RX8 76 yX8_isWithin, Cond.static yX8_isWithin, Cond.code yX8_isWithin cX8_isWithin 2 (some .boolean), Cond.methodLink RX8 83 yX8_isRod, Cond.static yX8_isRod, Cond.code yX8_isRod cX8_isRod 1 (some .boolean), Cond.methodLink RX8 145 yX8_yearNow, Cond.instanceMethod yX8_yearNow]
def wsX8_work_r2 : List Cond := [Cond.selects RX8 yX8_yearNow yX8_yearNow, Cond.code yX8_yearNow cX8_yearNow 1 (some .int), Cond.methodLink RX8 149 yX8_daysOwedYet, Cond.instanceMethod yX8_daysOwedYet, Cond.selects RX8 yX8_daysOwedYet yX8_daysOwedYet, Cond.code yX8_daysOwedYet cX8_daysOwedYet 3 (some .int), Cond.methodLink RX8 237 Lib.Math.max.name, Cond.static Lib.Math.max.name, Cond.initialized "java/lang/Math", Cond.code Lib.Math.max.name Lib.Math.max.code 2 (some .int), Cond.methodLink RX8 141 yX8_daysOwed, Cond.instanceMethod yX8_daysOwed, Cond.selects RX8 yX8_daysOwed yX8_daysOwed, Cond.code yX8_daysOwed cX8_daysOwed 4 (some .int), Cond.fieldLink RX8 30 "DikeHands" "laws" "LDikeHands$LawBook;", Cond.methodLink RX8 129 yX0_toldAheadOf, Cond.instanceMethod yX0_toldAheadOf, Cond.selects RX0 yX0_toldAheadOf yX0_toldAheadOf, Cond.initialized RX0, Cond.code yX0_toldAheadOf cX0_toldAheadOf 3 (some (.object "DikeHands$Telling")), Cond.fieldLink RX0 39 "DikeHands$House" "latest" "LDikeHands$Telling;", Cond.fieldLink RX0 43 "DikeHands$Telling" "told" "I", Cond.fieldLink RX0 46 "DikeHands$Telling" "earlier" "LDikeHands$Telling;", Cond.methodLink RX8 182 yX2_ofYear]
def wsX8_work_r3 : List Cond := [Cond.instanceMethod yX2_ofYear, Cond.selects RX2 yX2_ofYear yX2_ofYear, Cond.initialized RX2, Cond.code yX2_ofYear cX2_ofYear 4 (some (.object "DikeHands$Law")), Cond.fieldLink RX2 20 "DikeHands$LawBook" "noLaw" "LDikeHands$Law;", Cond.fieldLink RX2 24 "DikeHands$LawBook" "size" "I", Cond.fieldLink RX2 11 "DikeHands$LawBook" "laws" "[LDikeHands$Law;", Cond.fieldLink RX2 32 "DikeHands$Law" "year" "I", Cond.methodLink RX8 230 yX1_daysFor, Cond.instanceMethod yX1_daysFor, Cond.selects RX1 yX1_daysFor yX1_daysFor, Cond.initialized RX1, Cond.code yX1_daysFor cX1_daysFor 2 (some .int), Cond.fieldLink RX1 32 "DikeHands$Telling" "acres" "I", Cond.fieldLink RX1 21 "DikeHands$Law" "exempt" "I", Cond.fieldLink RX1 15 "DikeHands$Law" "daysForTenAcres" "I", Cond.fieldLink RX1 37 "DikeHands$Telling" "hands" "I", Cond.fieldLink RX1 18 "DikeHands$Law" "daysForHand" "I", Cond.methodLink RX8 234 yX0_daysMet, Cond.instanceMethod yX0_daysMet, Cond.selects RX0 yX0_daysMet yX0_daysMet, Cond.code yX0_daysMet cX0_daysMet 2 (some .int), Cond.fieldLink RX0 11 "DikeHands$House" "byItself" "[I", Cond.fieldLink RX0 15 "DikeHands$House" "bySubstitute" "[I"]
def wsX8_work_r4 : List Cond := [Cond.fieldLink RX0 18 "DikeHands$House" "bought" "[I", Cond.methodLink RX8 155 yX8_canSubstitute, Cond.instanceMethod yX8_canSubstitute, Cond.selects RX8 yX8_canSubstitute yX8_canSubstitute, Cond.code yX8_canSubstitute cX8_canSubstitute 5 (some .boolean), Cond.methodLink RX8 171 yX6_addDays, Cond.instanceMethod yX6_addDays, Cond.selects RX6 yX6_addDays yX6_addDays, Cond.initialized RX6, Cond.code yX6_addDays cX6_addDays 3 none, Cond.fieldLink RX6 13 "DikeHands$Village" "lastWork" "LDikeHands$WorkWeek;", Cond.classLink RX6 17 RX7, Cond.instantiable RX7 3, Cond.initialized RX7, Cond.fieldLink RX6 22 "DikeHands$Village" "firstWork" "LDikeHands$WorkWeek;", Cond.fieldLink RX6 25 "DikeHands$WorkWeek" "week" "I", Cond.fieldLink RX6 28 "DikeHands$WorkWeek" "next" "LDikeHands$WorkWeek;", Cond.fieldLink RX6 31 "DikeHands$WorkWeek" "days" "I", Cond.methodLink RX6 19 yX7_init, Cond.instanceMethod yX7_init, Cond.code yX7_init cX7_init 2 none, Cond.methodLink RX7 1 objectInit, Cond.instanceMethod objectInit, Cond.code objectInit ⟨#[0xb1]⟩ 1 none]
def wsX8_work_r5 : List Cond := [Cond.fieldLink RX7 7 "DikeHands$WorkWeek" "week" "I", Cond.methodLink RX8 175 yX4_raise, Cond.instanceMethod yX4_raise, Cond.selects RX4 yX4_raise yX4_raise, Cond.initialized RX4, Cond.code yX4_raise cX4_raise 2 none, Cond.fieldLink RX4 9 "DikeHands$Rod" "height" "I", Cond.methodLink RX4 29 Lib.Math.min.name, Cond.static Lib.Math.min.name, Cond.code Lib.Math.min.name Lib.Math.min.code 2 (some .int), Cond.fieldLink RX4 22 "DikeHands$Rod" "days" "I", Cond.methodLink RX4 25 yX4_growthOfDay, Cond.instanceMethod yX4_growthOfDay, Cond.selects RX4 yX4_growthOfDay yX4_growthOfDay, Cond.code yX4_growthOfDay cX4_growthOfDay 1 (some .int), Cond.fieldLink RX4 13 "DikeHands$Rod" "soil" "I"]
def wsX8_work : List Cond := .code yX8_work cX8_work 8 (some .int) :: ((wsX8_work_r1 ++ (wsX8_work_r2 ++ (wsX8_work_r3 ++ (wsX8_work_r4 ++ wsX8_work_r5)))) ++ wsX80 ++ wsX00 ++ wsX50 ++ wsX20 ++ wsX10 ++ wsX60 ++ wsX70 ++ wsX40)
def wsX8_buy_r1 : List Cond := [Cond.fieldLink RX8 45 "DikeHands" "now" "I", Cond.fieldLink RX8 23 "DikeHands" "houses" "[LDikeHands$House;", Cond.fieldLink RX8 179 "DikeHands$House" "bought" "[I", Cond.fieldLink RX8 64 "DikeHands" "daysBought" "I", Cond.fieldLink RX8 55 "DikeHands" "chest" "I", Cond.fieldLink RX8 30 "DikeHands" "laws" "LDikeHands$LawBook;", Cond.fieldLink RX8 186 "DikeHands$Law" "coin" "I", Cond.methodLink RX8 117 yX8_isHouse, Cond.instanceMethod yX8_isHouse, Cond.selects RX8 yX8_isHouse yX8_isHouse, Cond.initialized RX8, Cond.code yX8_isHouse cX8_isHouse 2 (some .boolean), Cond.fieldLink RX8 49 "DikeHands" "houseCount" "I", Cond.methodLink RX8 76 yX8_isWithin, Cond.static yX8_isWithin, Cond.code yX8_isWithin cX8_isWithin 2 (some .boolean), Cond.methodLink RX8 145 yX8_yearNow, Cond.instanceMethod yX8_yearNow, Cond.selects RX8 yX8_yearNow yX8_yearNow, Cond.code yX8_yearNow cX8_yearNow 1 (some .int), Cond.methodLink RX8 149 yX8_daysOwedYet, Cond.instanceMethod yX8_daysOwedYet, Cond.selects RX8 yX8_daysOwedYet yX8_daysOwedYet, Cond.code yX8_daysOwedYet cX8_daysOwedYet 3 (some .int)]
def wsX8_buy_r2 : List Cond := [Cond.methodLink RX8 237 Lib.Math.max.name, Cond.static Lib.Math.max.name, Cond.initialized "java/lang/Math", Cond.code Lib.Math.max.name Lib.Math.max.code 2 (some .int), Cond.methodLink RX8 141 yX8_daysOwed, Cond.instanceMethod yX8_daysOwed, Cond.selects RX8 yX8_daysOwed yX8_daysOwed, Cond.code yX8_daysOwed cX8_daysOwed 4 (some .int), Cond.methodLink RX8 129 yX0_toldAheadOf, Cond.instanceMethod yX0_toldAheadOf, Cond.selects RX0 yX0_toldAheadOf yX0_toldAheadOf, Cond.initialized RX0, Cond.code yX0_toldAheadOf cX0_toldAheadOf 3 (some (.object "DikeHands$Telling")), Cond.fieldLink RX0 39 "DikeHands$House" "latest" "LDikeHands$Telling;", Cond.fieldLink RX0 43 "DikeHands$Telling" "told" "I", Cond.fieldLink RX0 46 "DikeHands$Telling" "earlier" "LDikeHands$Telling;", Cond.methodLink RX8 182 yX2_ofYear, Cond.instanceMethod yX2_ofYear, Cond.selects RX2 yX2_ofYear yX2_ofYear, Cond.initialized RX2, Cond.code yX2_ofYear cX2_ofYear 4 (some (.object "DikeHands$Law")), Cond.fieldLink RX2 20 "DikeHands$LawBook" "noLaw" "LDikeHands$Law;", Cond.fieldLink RX2 24 "DikeHands$LawBook" "size" "I", Cond.fieldLink RX2 11 "DikeHands$LawBook" "laws" "[LDikeHands$Law;"]
def wsX8_buy_r3 : List Cond := [Cond.fieldLink RX2 32 "DikeHands$Law" "year" "I", Cond.methodLink RX8 230 yX1_daysFor, Cond.instanceMethod yX1_daysFor, Cond.selects RX1 yX1_daysFor yX1_daysFor, Cond.initialized RX1, Cond.code yX1_daysFor cX1_daysFor 2 (some .int), Cond.fieldLink RX1 32 "DikeHands$Telling" "acres" "I", Cond.fieldLink RX1 21 "DikeHands$Law" "exempt" "I", Cond.fieldLink RX1 15 "DikeHands$Law" "daysForTenAcres" "I", Cond.fieldLink RX1 37 "DikeHands$Telling" "hands" "I", Cond.fieldLink RX1 18 "DikeHands$Law" "daysForHand" "I", Cond.methodLink RX8 234 yX0_daysMet, Cond.instanceMethod yX0_daysMet, Cond.selects RX0 yX0_daysMet yX0_daysMet, Cond.code yX0_daysMet cX0_daysMet 2 (some .int), Cond.fieldLink RX0 11 "DikeHands$House" "byItself" "[I", Cond.fieldLink RX0 15 "DikeHands$House" "bySubstitute" "[I", Cond.fieldLink RX0 18 "DikeHands$House" "bought" "[I"]
def wsX8_buy : List Cond := .code yX8_buy cX8_buy 4 (some .int) :: ((wsX8_buy_r1 ++ (wsX8_buy_r2 ++ wsX8_buy_r3)) ++ wsX80 ++ wsX00 ++ wsX10 ++ wsX50 ++ wsX20)
def wsX8_hire_r1 : List Cond := [Cond.fieldLink RX8 30 "DikeHands" "laws" "LDikeHands$LawBook;", Cond.fieldLink RX8 186 "DikeHands$Law" "coin" "I", Cond.fieldLink RX8 55 "DikeHands" "chest" "I", Cond.fieldLink RX8 17 "DikeHands" "rods" "[LDikeHands$Rod;", Cond.fieldLink RX8 67 "DikeHands" "daysHired" "I", Cond.methodLink RX8 83 yX8_isRod, Cond.static yX8_isRod, Cond.initialized RX8, Cond.code yX8_isRod cX8_isRod 1 (some .boolean), Cond.methodLink RX8 76 yX8_isWithin, Cond.static yX8_isWithin, Cond.code yX8_isWithin cX8_isWithin 2 (some .boolean), Cond.methodLink RX8 145 yX8_yearNow, Cond.instanceMethod yX8_yearNow, Cond.selects RX8 yX8_yearNow yX8_yearNow, Cond.code yX8_yearNow cX8_yearNow 1 (some .int), Cond.fieldLink RX8 45 "DikeHands" "now" "I", Cond.methodLink RX8 182 yX2_ofYear, Cond.instanceMethod yX2_ofYear, Cond.selects RX2 yX2_ofYear yX2_ofYear, Cond.initialized RX2, Cond.code yX2_ofYear cX2_ofYear 4 (some (.object "DikeHands$Law")), Cond.fieldLink RX2 20 "DikeHands$LawBook" "noLaw" "LDikeHands$Law;", Cond.fieldLink RX2 24 "DikeHands$LawBook" "size" "I"]
def wsX8_hire_r2 : List Cond := [Cond.fieldLink RX2 11 "DikeHands$LawBook" "laws" "[LDikeHands$Law;", Cond.fieldLink RX2 32 "DikeHands$Law" "year" "I", Cond.methodLink RX8 175 yX4_raise, Cond.instanceMethod yX4_raise, Cond.selects RX4 yX4_raise yX4_raise, Cond.initialized RX4, Cond.code yX4_raise cX4_raise 2 none, Cond.fieldLink RX4 9 "DikeHands$Rod" "height" "I", Cond.methodLink RX4 29 Lib.Math.min.name, Cond.static Lib.Math.min.name, Cond.initialized "java/lang/Math", Cond.code Lib.Math.min.name Lib.Math.min.code 2 (some .int), Cond.fieldLink RX4 22 "DikeHands$Rod" "days" "I", Cond.methodLink RX4 25 yX4_growthOfDay, Cond.instanceMethod yX4_growthOfDay, Cond.selects RX4 yX4_growthOfDay yX4_growthOfDay, Cond.code yX4_growthOfDay cX4_growthOfDay 1 (some .int), Cond.fieldLink RX4 13 "DikeHands$Rod" "soil" "I"]
def wsX8_hire : List Cond := .code yX8_hire cX8_hire 4 (some .int) :: ((wsX8_hire_r1 ++ wsX8_hire_r2) ++ wsX80 ++ wsX10 ++ wsX20 ++ wsX40)
def wsX8_river : List Cond := .code yX8_river cX8_river 5 (some .boolean) :: ([.fieldLink RX8 45 "DikeHands" "now" "I", .fieldLink RX8 41 "DikeHands" "levels" "[I", .methodLink RX8 76 yX8_isWithin, .static yX8_isWithin, .initialized RX8, .code yX8_isWithin cX8_isWithin 2 (some .boolean)] ++ wsX80)
def wsX8_endWeek : List Cond := .code yX8_endWeek cX8_endWeek 3 none :: ([.fieldLink RX8 58 "DikeHands" "lossCounted" "I", .fieldLink RX8 17 "DikeHands" "rods" "[LDikeHands$Rod;", .methodLink RX8 242 yX4_wear, .instanceMethod yX4_wear, .selects RX4 yX4_wear yX4_wear, .initialized RX4, .code yX4_wear cX4_wear 2 (some .int), .fieldLink RX4 9 "DikeHands$Rod" "height" "I", .fieldLink RX4 19 "DikeHands$Rod" "breaks" "I", .fieldLink RX4 16 "DikeHands$Rod" "loss" "I"] ++ wsX80 ++ wsX40)
def wsX8_go : List Cond := .code yX8_go cX8_go 3 (some .int) :: ([.fieldLink RX8 45 "DikeHands" "now" "I", .fieldLink RX8 41 "DikeHands" "levels" "[I", .methodLink RX8 76 yX8_isWithin, .static yX8_isWithin, .initialized RX8, .code yX8_isWithin cX8_isWithin 2 (some .boolean), .methodLink RX8 189 yX8_endWeek, .instanceMethod yX8_endWeek, .selects RX8 yX8_endWeek yX8_endWeek, .code yX8_endWeek cX8_endWeek 3 none, .fieldLink RX8 58 "DikeHands" "lossCounted" "I", .fieldLink RX8 17 "DikeHands" "rods" "[LDikeHands$Rod;", .methodLink RX8 242 yX4_wear, .instanceMethod yX4_wear, .selects RX4 yX4_wear yX4_wear, .initialized RX4, .code yX4_wear cX4_wear 2 (some .int), .fieldLink RX4 9 "DikeHands$Rod" "height" "I", .fieldLink RX4 19 "DikeHands$Rod" "breaks" "I", .fieldLink RX4 16 "DikeHands$Rod" "loss" "I"] ++ wsX80 ++ wsX40)
def wsX8_told_r1 : List Cond := [Cond.fieldLink RX8 23 "DikeHands" "houses" "[LDikeHands$House;", Cond.fieldLink RX8 152 "DikeHands$House" "byItself" "[I", Cond.fieldLink RX8 162 "DikeHands$House" "bySubstitute" "[I", Cond.fieldLink RX8 179 "DikeHands$House" "bought" "[I", Cond.fieldLink RX8 159 "DikeHands$House" "substitute" "[I", Cond.fieldLink RX8 165 "DikeHands$House" "asSubstitute" "[I", Cond.methodLink RX8 117 yX8_isHouse, Cond.instanceMethod yX8_isHouse, Cond.selects RX8 yX8_isHouse yX8_isHouse, Cond.initialized RX8, Cond.code yX8_isHouse cX8_isHouse 2 (some .boolean), Cond.fieldLink RX8 49 "DikeHands" "houseCount" "I", Cond.methodLink RX8 76 yX8_isWithin, Cond.static yX8_isWithin, Cond.code yX8_isWithin cX8_isWithin 2 (some .boolean), Cond.methodLink RX8 126 yX8_isYearSoFar, Cond.instanceMethod yX8_isYearSoFar, Cond.selects RX8 yX8_isYearSoFar yX8_isYearSoFar, Cond.code yX8_isYearSoFar cX8_isYearSoFar 2 (some .boolean), Cond.methodLink RX8 145 yX8_yearNow, Cond.instanceMethod yX8_yearNow, Cond.selects RX8 yX8_yearNow yX8_yearNow, Cond.code yX8_yearNow cX8_yearNow 1 (some .int), Cond.fieldLink RX8 45 "DikeHands" "now" "I"]
def wsX8_told_r2 : List Cond := [Cond.methodLink RX8 141 yX8_daysOwed, Cond.instanceMethod yX8_daysOwed, Cond.selects RX8 yX8_daysOwed yX8_daysOwed, Cond.code yX8_daysOwed cX8_daysOwed 4 (some .int), Cond.fieldLink RX8 30 "DikeHands" "laws" "LDikeHands$LawBook;", Cond.methodLink RX8 129 yX0_toldAheadOf, Cond.instanceMethod yX0_toldAheadOf, Cond.selects RX0 yX0_toldAheadOf yX0_toldAheadOf, Cond.initialized RX0, Cond.code yX0_toldAheadOf cX0_toldAheadOf 3 (some (.object "DikeHands$Telling")), Cond.fieldLink RX0 39 "DikeHands$House" "latest" "LDikeHands$Telling;", Cond.fieldLink RX0 43 "DikeHands$Telling" "told" "I", Cond.fieldLink RX0 46 "DikeHands$Telling" "earlier" "LDikeHands$Telling;", Cond.methodLink RX8 182 yX2_ofYear, Cond.instanceMethod yX2_ofYear, Cond.selects RX2 yX2_ofYear yX2_ofYear, Cond.initialized RX2, Cond.code yX2_ofYear cX2_ofYear 4 (some (.object "DikeHands$Law")), Cond.fieldLink RX2 20 "DikeHands$LawBook" "noLaw" "LDikeHands$Law;", Cond.fieldLink RX2 24 "DikeHands$LawBook" "size" "I", Cond.fieldLink RX2 11 "DikeHands$LawBook" "laws" "[LDikeHands$Law;", Cond.fieldLink RX2 32 "DikeHands$Law" "year" "I", Cond.methodLink RX8 230 yX1_daysFor, Cond.instanceMethod yX1_daysFor]
def wsX8_told_r3 : List Cond := [Cond.selects RX1 yX1_daysFor yX1_daysFor, Cond.initialized RX1, Cond.code yX1_daysFor cX1_daysFor 2 (some .int), Cond.fieldLink RX1 32 "DikeHands$Telling" "acres" "I", Cond.fieldLink RX1 21 "DikeHands$Law" "exempt" "I", Cond.fieldLink RX1 15 "DikeHands$Law" "daysForTenAcres" "I", Cond.fieldLink RX1 37 "DikeHands$Telling" "hands" "I", Cond.fieldLink RX1 18 "DikeHands$Law" "daysForHand" "I", Cond.methodLink RX8 149 yX8_daysOwedYet, Cond.instanceMethod yX8_daysOwedYet, Cond.selects RX8 yX8_daysOwedYet yX8_daysOwedYet, Cond.code yX8_daysOwedYet cX8_daysOwedYet 3 (some .int), Cond.methodLink RX8 237 Lib.Math.max.name, Cond.static Lib.Math.max.name, Cond.initialized "java/lang/Math", Cond.code Lib.Math.max.name Lib.Math.max.code 2 (some .int), Cond.methodLink RX8 234 yX0_daysMet, Cond.instanceMethod yX0_daysMet, Cond.selects RX0 yX0_daysMet yX0_daysMet, Cond.code yX0_daysMet cX0_daysMet 2 (some .int), Cond.fieldLink RX0 11 "DikeHands$House" "byItself" "[I", Cond.fieldLink RX0 15 "DikeHands$House" "bySubstitute" "[I", Cond.fieldLink RX0 18 "DikeHands$House" "bought" "[I"]
def wsX8_told : List Cond := .code yX8_told cX8_told 5 (some .int) :: ((wsX8_told_r1 ++ (wsX8_told_r2 ++ wsX8_told_r3)) ++ wsX80 ++ wsX00 ++ wsX50 ++ wsX20 ++ wsX10)
def wsX8_trueHands : List Cond := .code yX8_trueHands cX8_trueHands 5 (some .int) :: ([.fieldLink RX8 49 "DikeHands" "houseCount" "I", .fieldLink RX8 23 "DikeHands" "houses" "[LDikeHands$House;", .fieldLink RX8 168 "DikeHands$House" "home" "I", .methodLink RX8 245 yX0_handsIn, .instanceMethod yX0_handsIn, .selects RX0 yX0_handsIn yX0_handsIn, .initialized RX0, .code yX0_handsIn cX0_handsIn 5 (some .int), .fieldLink RX0 39 "DikeHands$House" "latest" "LDikeHands$Telling;", .fieldLink RX0 49 "DikeHands$Telling" "from" "I", .fieldLink RX0 52 "DikeHands$Telling" "hands" "I", .fieldLink RX0 46 "DikeHands$Telling" "earlier" "LDikeHands$Telling;"] ++ wsX80 ++ wsX00 ++ wsX50)
def wsX8_firstPaperWeek_r1 : List Cond := [Cond.fieldLink RX8 11 "DikeHands" "villages" "[LDikeHands$Village;", Cond.fieldLink RX8 248 "DikeHands$Village" "firstWork" "LDikeHands$WorkWeek;", Cond.fieldLink RX8 252 "DikeHands$WorkWeek" "days" "I", Cond.fieldLink RX8 255 "DikeHands$WorkWeek" "week" "I", Cond.fieldLink RX8 258 "DikeHands$WorkWeek" "next" "LDikeHands$WorkWeek;", Cond.methodLink RX8 72 yX8_isVillage, Cond.static yX8_isVillage, Cond.initialized RX8, Cond.code yX8_isVillage cX8_isVillage 1 (some .boolean), Cond.methodLink RX8 76 yX8_isWithin, Cond.static yX8_isWithin, Cond.code yX8_isWithin cX8_isWithin 2 (some .boolean), Cond.methodLink RX8 227 yX8_trueHands, Cond.instanceMethod yX8_trueHands, Cond.selects RX8 yX8_trueHands yX8_trueHands, Cond.code yX8_trueHands cX8_trueHands 5 (some .int), Cond.fieldLink RX8 49 "DikeHands" "houseCount" "I", Cond.fieldLink RX8 23 "DikeHands" "houses" "[LDikeHands$House;", Cond.fieldLink RX8 168 "DikeHands$House" "home" "I", Cond.methodLink RX8 245 yX0_handsIn, Cond.instanceMethod yX0_handsIn, Cond.selects RX0 yX0_handsIn yX0_handsIn, Cond.initialized RX0, Cond.code yX0_handsIn cX0_handsIn 5 (some .int)]
def wsX8_firstPaperWeek_r2 : List Cond := [Cond.fieldLink RX0 39 "DikeHands$House" "latest" "LDikeHands$Telling;", Cond.fieldLink RX0 49 "DikeHands$Telling" "from" "I", Cond.fieldLink RX0 52 "DikeHands$Telling" "hands" "I", Cond.fieldLink RX0 46 "DikeHands$Telling" "earlier" "LDikeHands$Telling;"]
def wsX8_firstPaperWeek : List Cond := .code yX8_firstPaperWeek cX8_firstPaperWeek 3 (some .int) :: ((wsX8_firstPaperWeek_r1 ++ wsX8_firstPaperWeek_r2) ++ wsX80 ++ wsX60 ++ wsX70 ++ wsX00 ++ wsX50)
def wsX8_paper_r1 : List Cond := [Cond.methodLink RX8 192 yX8_firstPaperWeek, Cond.instanceMethod yX8_firstPaperWeek, Cond.selects RX8 yX8_firstPaperWeek yX8_firstPaperWeek, Cond.initialized RX8, Cond.code yX8_firstPaperWeek cX8_firstPaperWeek 3 (some .int), Cond.fieldLink RX8 11 "DikeHands" "villages" "[LDikeHands$Village;", Cond.fieldLink RX8 248 "DikeHands$Village" "firstWork" "LDikeHands$WorkWeek;", Cond.fieldLink RX8 252 "DikeHands$WorkWeek" "days" "I", Cond.fieldLink RX8 255 "DikeHands$WorkWeek" "week" "I", Cond.fieldLink RX8 258 "DikeHands$WorkWeek" "next" "LDikeHands$WorkWeek;", Cond.methodLink RX8 72 yX8_isVillage, Cond.static yX8_isVillage, Cond.code yX8_isVillage cX8_isVillage 1 (some .boolean), Cond.methodLink RX8 76 yX8_isWithin, Cond.static yX8_isWithin, Cond.code yX8_isWithin cX8_isWithin 2 (some .boolean), Cond.methodLink RX8 227 yX8_trueHands, Cond.instanceMethod yX8_trueHands, Cond.selects RX8 yX8_trueHands yX8_trueHands, Cond.code yX8_trueHands cX8_trueHands 5 (some .int), Cond.fieldLink RX8 49 "DikeHands" "houseCount" "I", Cond.fieldLink RX8 23 "DikeHands" "houses" "[LDikeHands$House;", Cond.fieldLink RX8 168 "DikeHands$House" "home" "I", Cond.methodLink RX8 245 yX0_handsIn]
def wsX8_paper_r2 : List Cond := [Cond.instanceMethod yX0_handsIn, Cond.selects RX0 yX0_handsIn yX0_handsIn, Cond.initialized RX0, Cond.code yX0_handsIn cX0_handsIn 5 (some .int), Cond.fieldLink RX0 39 "DikeHands$House" "latest" "LDikeHands$Telling;", Cond.fieldLink RX0 49 "DikeHands$Telling" "from" "I", Cond.fieldLink RX0 52 "DikeHands$Telling" "hands" "I", Cond.fieldLink RX0 46 "DikeHands$Telling" "earlier" "LDikeHands$Telling;"]
def wsX8_paper : List Cond := .code yX8_paper cX8_paper 2 (some .boolean) :: ((wsX8_paper_r1 ++ wsX8_paper_r2) ++ wsX80 ++ wsX60 ++ wsX70 ++ wsX00 ++ wsX50)
def wsX8_paperWeek_r1 : List Cond := [Cond.methodLink RX8 192 yX8_firstPaperWeek, Cond.instanceMethod yX8_firstPaperWeek, Cond.selects RX8 yX8_firstPaperWeek yX8_firstPaperWeek, Cond.initialized RX8, Cond.code yX8_firstPaperWeek cX8_firstPaperWeek 3 (some .int), Cond.fieldLink RX8 11 "DikeHands" "villages" "[LDikeHands$Village;", Cond.fieldLink RX8 248 "DikeHands$Village" "firstWork" "LDikeHands$WorkWeek;", Cond.fieldLink RX8 252 "DikeHands$WorkWeek" "days" "I", Cond.fieldLink RX8 255 "DikeHands$WorkWeek" "week" "I", Cond.fieldLink RX8 258 "DikeHands$WorkWeek" "next" "LDikeHands$WorkWeek;", Cond.methodLink RX8 72 yX8_isVillage, Cond.static yX8_isVillage, Cond.code yX8_isVillage cX8_isVillage 1 (some .boolean), Cond.methodLink RX8 76 yX8_isWithin, Cond.static yX8_isWithin, Cond.code yX8_isWithin cX8_isWithin 2 (some .boolean), Cond.methodLink RX8 227 yX8_trueHands, Cond.instanceMethod yX8_trueHands, Cond.selects RX8 yX8_trueHands yX8_trueHands, Cond.code yX8_trueHands cX8_trueHands 5 (some .int), Cond.fieldLink RX8 49 "DikeHands" "houseCount" "I", Cond.fieldLink RX8 23 "DikeHands" "houses" "[LDikeHands$House;", Cond.fieldLink RX8 168 "DikeHands$House" "home" "I", Cond.methodLink RX8 245 yX0_handsIn]
def wsX8_paperWeek_r2 : List Cond := [Cond.instanceMethod yX0_handsIn, Cond.selects RX0 yX0_handsIn yX0_handsIn, Cond.initialized RX0, Cond.code yX0_handsIn cX0_handsIn 5 (some .int), Cond.fieldLink RX0 39 "DikeHands$House" "latest" "LDikeHands$Telling;", Cond.fieldLink RX0 49 "DikeHands$Telling" "from" "I", Cond.fieldLink RX0 52 "DikeHands$Telling" "hands" "I", Cond.fieldLink RX0 46 "DikeHands$Telling" "earlier" "LDikeHands$Telling;"]
def wsX8_paperWeek : List Cond := .code yX8_paperWeek cX8_paperWeek 2 (some .int) :: ((wsX8_paperWeek_r1 ++ wsX8_paperWeek_r2) ++ wsX80 ++ wsX60 ++ wsX70 ++ wsX00 ++ wsX50)
def wsX8_bank : List Cond := .code yX8_bank cX8_bank 4 (some .int) :: ([.fieldLink RX8 17 "DikeHands" "rods" "[LDikeHands$Rod;", .fieldLink RX8 196 "DikeHands$Rod" "height" "I", .fieldLink RX8 199 "DikeHands$Rod" "breaks" "I", .fieldLink RX8 202 "DikeHands$Rod" "days" "I", .methodLink RX8 83 yX8_isRod, .static yX8_isRod, .initialized RX8, .code yX8_isRod cX8_isRod 1 (some .boolean), .methodLink RX8 76 yX8_isWithin, .static yX8_isWithin, .code yX8_isWithin cX8_isWithin 2 (some .boolean), .methodLink RX8 205 yX4_daysTo, .instanceMethod yX4_daysTo, .selects RX4 yX4_daysTo yX4_daysTo, .initialized RX4, .code yX4_daysTo cX4_daysTo 2 (some .int), .fieldLink RX4 9 "DikeHands$Rod" "height" "I", .methodLink RX4 25 yX4_growthOfDay, .instanceMethod yX4_growthOfDay, .selects RX4 yX4_growthOfDay yX4_growthOfDay, .code yX4_growthOfDay cX4_growthOfDay 1 (some .int), .fieldLink RX4 13 "DikeHands$Rod" "soil" "I", .static yX8_dividedUp, .code yX8_dividedUp cX8_dividedUp 2 (some .int)] ++ wsX80 ++ wsX40)
def wsX8_saved_r1 : List Cond := [Cond.fieldLink RX8 37 "DikeHands" "plan" "LDikeHands$Plan;", Cond.fieldLink RX8 17 "DikeHands" "rods" "[LDikeHands$Rod;", Cond.methodLink RX8 76 yX8_isWithin, Cond.static yX8_isWithin, Cond.initialized RX8, Cond.code yX8_isWithin cX8_isWithin 2 (some .boolean), Cond.methodLink RX8 208 yX3_bestWorth, Cond.instanceMethod yX3_bestWorth, Cond.selects RX3 yX3_bestWorth yX3_bestWorth, Cond.initialized RX3, Cond.code yX3_bestWorth cX3_bestWorth 5 (some .long), Cond.fieldLink RX3 11 "DikeHands$Plan" "worthWithin" "[J", Cond.fieldLink RX3 19 "DikeHands$Rod" "height" "I", Cond.fieldLink RX3 29 "DikeHands$Rod" "loss" "I", Cond.methodLink RX3 25 yX4_daysTo, Cond.instanceMethod yX4_daysTo, Cond.selects RX4 yX4_daysTo yX4_daysTo, Cond.initialized RX4, Cond.code yX4_daysTo cX4_daysTo 2 (some .int), Cond.fieldLink RX4 9 "DikeHands$Rod" "height" "I", Cond.methodLink RX4 25 yX4_growthOfDay, Cond.instanceMethod yX4_growthOfDay, Cond.selects RX4 yX4_growthOfDay yX4_growthOfDay, Cond.code yX4_growthOfDay cX4_growthOfDay 1 (some .int)]
def wsX8_saved_r2 : List Cond := [Cond.fieldLink RX4 13 "DikeHands$Rod" "soil" "I", Cond.static yX8_dividedUp, Cond.code yX8_dividedUp cX8_dividedUp 2 (some .int), Cond.methodLink RX3 32 yX3_offer, Cond.instanceMethod yX3_offer, Cond.selects RX3 yX3_offer yX3_offer, Cond.code yX3_offer cX3_offer 6 none, Cond.methodLink RX3 36 Lib.MathLoose.max_long.x, Cond.static Lib.MathLoose.max_long.x, Cond.initialized "java/lang/Math", Cond.code Lib.MathLoose.max_long.x Lib.MathLoose.max_long.code 4 (some .long), Cond.methodLink RX8 212 yX3_lossOf, Cond.static yX3_lossOf, Cond.code yX3_lossOf cX3_lossOf 2 (some .int), Cond.constantLong RX3 42 (1073741824)]
def wsX8_saved : List Cond := .code yX8_saved cX8_saved 3 (some .int) :: ((wsX8_saved_r1 ++ wsX8_saved_r2) ++ wsX80 ++ wsX30 ++ wsX40)
def wsX8_chosen_r1 : List Cond := [Cond.fieldLink RX8 37 "DikeHands" "plan" "LDikeHands$Plan;", Cond.fieldLink RX8 17 "DikeHands" "rods" "[LDikeHands$Rod;", Cond.methodLink RX8 76 yX8_isWithin, Cond.static yX8_isWithin, Cond.initialized RX8, Cond.code yX8_isWithin cX8_isWithin 2 (some .boolean), Cond.methodLink RX8 208 yX3_bestWorth, Cond.instanceMethod yX3_bestWorth, Cond.selects RX3 yX3_bestWorth yX3_bestWorth, Cond.initialized RX3, Cond.code yX3_bestWorth cX3_bestWorth 5 (some .long), Cond.fieldLink RX3 11 "DikeHands$Plan" "worthWithin" "[J", Cond.fieldLink RX3 19 "DikeHands$Rod" "height" "I", Cond.fieldLink RX3 29 "DikeHands$Rod" "loss" "I", Cond.methodLink RX3 25 yX4_daysTo, Cond.instanceMethod yX4_daysTo, Cond.selects RX4 yX4_daysTo yX4_daysTo, Cond.initialized RX4, Cond.code yX4_daysTo cX4_daysTo 2 (some .int), Cond.fieldLink RX4 9 "DikeHands$Rod" "height" "I", Cond.methodLink RX4 25 yX4_growthOfDay, Cond.instanceMethod yX4_growthOfDay, Cond.selects RX4 yX4_growthOfDay yX4_growthOfDay, Cond.code yX4_growthOfDay cX4_growthOfDay 1 (some .int)]
def wsX8_chosen_r2 : List Cond := [Cond.fieldLink RX4 13 "DikeHands$Rod" "soil" "I", Cond.static yX8_dividedUp, Cond.code yX8_dividedUp cX8_dividedUp 2 (some .int), Cond.methodLink RX3 32 yX3_offer, Cond.instanceMethod yX3_offer, Cond.selects RX3 yX3_offer yX3_offer, Cond.code yX3_offer cX3_offer 6 none, Cond.methodLink RX3 36 Lib.MathLoose.max_long.x, Cond.static Lib.MathLoose.max_long.x, Cond.initialized "java/lang/Math", Cond.code Lib.MathLoose.max_long.x Lib.MathLoose.max_long.code 4 (some .long), Cond.methodLink RX8 216 yX3_heapOf, Cond.static yX3_heapOf, Cond.code yX3_heapOf cX3_heapOf 2 (some .int), Cond.methodLink RX3 44 yX3_lossOf, Cond.static yX3_lossOf, Cond.code yX3_lossOf cX3_lossOf 2 (some .int), Cond.constantLong RX3 42 (1073741824)]
def wsX8_chosen : List Cond := .code yX8_chosen cX8_chosen 3 (some .int) :: ((wsX8_chosen_r1 ++ wsX8_chosen_r2) ++ wsX80 ++ wsX30 ++ wsX40)
def wsX8_hoursFor : List Cond := .code yX8_hoursFor cX8_hoursFor 3 (some .int) :: ([.methodLink RX8 261 Lib.Math.abs.name, .static Lib.Math.abs.name, .initialized "java/lang/Math", .code Lib.Math.abs.name Lib.Math.abs.code 1 (some .int), .methodLink RX8 264 yX8_dividedUp, .static yX8_dividedUp, .initialized RX8, .code yX8_dividedUp cX8_dividedUp 2 (some .int)])
def wsX8_hourOfCall : List Cond := .code yX8_hourOfCall cX8_hourOfCall 3 (some .int) :: ([.fieldLink RX8 11 "DikeHands" "villages" "[LDikeHands$Village;", .fieldLink RX8 80 "DikeHands$Village" "mile" "I", .methodLink RX8 223 yX8_hoursFor, .static yX8_hoursFor, .initialized RX8, .code yX8_hoursFor cX8_hoursFor 3 (some .int), .methodLink RX8 261 Lib.Math.abs.name, .static Lib.Math.abs.name, .initialized "java/lang/Math", .code Lib.Math.abs.name Lib.Math.abs.code 1 (some .int), .methodLink RX8 264 yX8_dividedUp, .static yX8_dividedUp, .code yX8_dividedUp cX8_dividedUp 2 (some .int)] ++ wsX80 ++ wsX60)
def wsX8_called : List Cond := .code yX8_called cX8_called 3 (some .int) :: ([.methodLink RX8 72 yX8_isVillage, .static yX8_isVillage, .initialized RX8, .code yX8_isVillage cX8_isVillage 1 (some .boolean), .methodLink RX8 76 yX8_isWithin, .static yX8_isWithin, .code yX8_isWithin cX8_isWithin 2 (some .boolean), .methodLink RX8 219 yX8_hourOfCall, .instanceMethod yX8_hourOfCall, .selects RX8 yX8_hourOfCall yX8_hourOfCall, .code yX8_hourOfCall cX8_hourOfCall 3 (some .int), .fieldLink RX8 11 "DikeHands" "villages" "[LDikeHands$Village;", .fieldLink RX8 80 "DikeHands$Village" "mile" "I", .methodLink RX8 223 yX8_hoursFor, .static yX8_hoursFor, .code yX8_hoursFor cX8_hoursFor 3 (some .int), .methodLink RX8 261 Lib.Math.abs.name, .static Lib.Math.abs.name, .initialized "java/lang/Math", .code Lib.Math.abs.name Lib.Math.abs.code 1 (some .int), .methodLink RX8 264 yX8_dividedUp, .static yX8_dividedUp, .code yX8_dividedUp cX8_dividedUp 2 (some .int)] ++ wsX80 ++ wsX60)
def wsX8_arrived_r1 : List Cond := [Cond.fieldLink RX8 11 "DikeHands" "villages" "[LDikeHands$Village;", Cond.fieldLink RX8 80 "DikeHands$Village" "mile" "I", Cond.fieldLink RX8 45 "DikeHands" "now" "I", Cond.methodLink RX8 72 yX8_isVillage, Cond.static yX8_isVillage, Cond.initialized RX8, Cond.code yX8_isVillage cX8_isVillage 1 (some .boolean), Cond.methodLink RX8 76 yX8_isWithin, Cond.static yX8_isWithin, Cond.code yX8_isWithin cX8_isWithin 2 (some .boolean), Cond.methodLink RX8 83 yX8_isRod, Cond.static yX8_isRod, Cond.code yX8_isRod cX8_isRod 1 (some .boolean), Cond.methodLink RX8 223 yX8_hoursFor, Cond.static yX8_hoursFor, Cond.code yX8_hoursFor cX8_hoursFor 3 (some .int), Cond.methodLink RX8 261 Lib.Math.abs.name, Cond.static Lib.Math.abs.name, Cond.initialized "java/lang/Math", Cond.code Lib.Math.abs.name Lib.Math.abs.code 1 (some .int), Cond.methodLink RX8 264 yX8_dividedUp, Cond.static yX8_dividedUp, Cond.code yX8_dividedUp cX8_dividedUp 2 (some .int), Cond.methodLink RX8 219 yX8_hourOfCall]
def wsX8_arrived_r2 : List Cond := [Cond.instanceMethod yX8_hourOfCall, Cond.selects RX8 yX8_hourOfCall yX8_hourOfCall, Cond.code yX8_hourOfCall cX8_hourOfCall 3 (some .int), Cond.methodLink RX8 227 yX8_trueHands, Cond.instanceMethod yX8_trueHands, Cond.selects RX8 yX8_trueHands yX8_trueHands, Cond.code yX8_trueHands cX8_trueHands 5 (some .int), Cond.fieldLink RX8 49 "DikeHands" "houseCount" "I", Cond.fieldLink RX8 23 "DikeHands" "houses" "[LDikeHands$House;", Cond.fieldLink RX8 168 "DikeHands$House" "home" "I", Cond.methodLink RX8 245 yX0_handsIn, Cond.instanceMethod yX0_handsIn, Cond.selects RX0 yX0_handsIn yX0_handsIn, Cond.initialized RX0, Cond.code yX0_handsIn cX0_handsIn 5 (some .int), Cond.fieldLink RX0 39 "DikeHands$House" "latest" "LDikeHands$Telling;", Cond.fieldLink RX0 49 "DikeHands$Telling" "from" "I", Cond.fieldLink RX0 52 "DikeHands$Telling" "hands" "I", Cond.fieldLink RX0 46 "DikeHands$Telling" "earlier" "LDikeHands$Telling;"]
def wsX8_arrived : List Cond := .code yX8_arrived cX8_arrived 7 (some .int) :: ((wsX8_arrived_r1 ++ wsX8_arrived_r2) ++ wsX80 ++ wsX60 ++ wsX00 ++ wsX50)
def wsX8_count : List Cond := .code yX8_count cX8_count 2 (some .int) :: ([.fieldLink RX8 45 "DikeHands" "now" "I", .fieldLink RX8 49 "DikeHands" "houseCount" "I", .fieldLink RX8 30 "DikeHands" "laws" "LDikeHands$LawBook;", .fieldLink RX8 108 "DikeHands$LawBook" "size" "I", .fieldLink RX8 52 "DikeHands" "changeCount" "I", .fieldLink RX8 55 "DikeHands" "chest" "I", .fieldLink RX8 58 "DikeHands" "lossCounted" "I", .fieldLink RX8 61 "DikeHands" "daysDone" "I", .fieldLink RX8 64 "DikeHands" "daysBought" "I", .fieldLink RX8 67 "DikeHands" "daysHired" "I"] ++ wsX80 ++ wsX20)
set_option maxRecDepth 20000 in
theorem ggX8_init_X2_init : GoodIn wsX8_init wsX2_init := goodIn_r _ [33, 34, 2, 3, 35, 36, 37, 38, 39, 40, 41, 42, 43, 44, 45, 46, 47, 48, 49, 81, 82, 83, 93, 94, 95, 96, 97] (by decide +kernel) (by decide +kernel)
set_option maxRecDepth 20000 in
theorem gX8_init_X2_init_n29 : GoodIn wsX8_init (wsX2_init) := ggX8_init_X2_init
set_option maxRecDepth 20000 in
theorem ggX8_init_X3_init : GoodIn wsX8_init wsX3_init := goodIn_r _ [51, 52, 2, 3, 53, 54, 84] (by decide +kernel) (by decide +kernel)
set_option maxRecDepth 20000 in
theorem gX8_init_X3_init_n36 : GoodIn wsX8_init (wsX3_init) := ggX8_init_X3_init
set_option maxRecDepth 20000 in
theorem ggX8_init_X6_init : GoodIn wsX8_init wsX6_init := goodIn_r _ [56, 57, 2, 3, 58, 85, 86, 87] (by decide +kernel) (by decide +kernel)
set_option maxRecDepth 20000 in
theorem gX8_init_X6_init_n70 : GoodIn wsX8_init (wsX6_init) := ggX8_init_X6_init
set_option maxRecDepth 20000 in
theorem ggX8_init_X4_init : GoodIn wsX8_init wsX4_init := goodIn_r _ [60, 61, 2, 3, 62, 63, 64, 65, 66, 88, 89, 90, 91, 92] (by decide +kernel) (by decide +kernel)
set_option maxRecDepth 20000 in
theorem gX8_init_X4_init_n71 : GoodIn wsX8_init (wsX4_init) := ggX8_init_X4_init
theorem dX8_init_0 : decode cX8_init 0 = .ok (.aload_n 0, 1) := by decide +kernel
theorem dX8_init_1 : decode cX8_init 1 = .ok (.invokespecial 1, 3) := by decide +kernel
theorem dX8_init_4 : decode cX8_init 4 = .ok (.aload_n 0, 1) := by decide +kernel
theorem dX8_init_5 : decode cX8_init 5 = .ok (.bipush 8, 2) := by decide +kernel
theorem dX8_init_7 : decode cX8_init 7 = .ok (.anewarray 9, 3) := by decide +kernel
theorem dX8_init_10 : decode cX8_init 10 = .ok (.putfield 11, 3) := by decide +kernel
theorem dX8_init_13 : decode cX8_init 13 = .ok (.aload_n 0, 1) := by decide +kernel
theorem dX8_init_14 : decode cX8_init 14 = .ok (.bipush 30, 2) := by decide +kernel
theorem dX8_init_16 : decode cX8_init 16 = .ok (.anewarray 15, 3) := by decide +kernel
theorem dX8_init_19 : decode cX8_init 19 = .ok (.putfield 17, 3) := by decide +kernel
theorem dX8_init_22 : decode cX8_init 22 = .ok (.aload_n 0, 1) := by decide +kernel
theorem dX8_init_23 : decode cX8_init 23 = .ok (.bipush 40, 2) := by decide +kernel
theorem dX8_init_25 : decode cX8_init 25 = .ok (.anewarray 21, 3) := by decide +kernel
theorem dX8_init_28 : decode cX8_init 28 = .ok (.putfield 23, 3) := by decide +kernel
theorem dX8_init_31 : decode cX8_init 31 = .ok (.aload_n 0, 1) := by decide +kernel
theorem dX8_init_32 : decode cX8_init 32 = .ok (.new 27, 3) := by decide +kernel
theorem dX8_init_35 : decode cX8_init 35 = .ok (.dup, 1) := by decide +kernel
theorem dX8_init_36 : decode cX8_init 36 = .ok (.invokespecial 29, 3) := by decide +kernel
theorem dX8_init_39 : decode cX8_init 39 = .ok (.putfield 30, 3) := by decide +kernel
theorem dX8_init_42 : decode cX8_init 42 = .ok (.aload_n 0, 1) := by decide +kernel
theorem dX8_init_43 : decode cX8_init 43 = .ok (.new 34, 3) := by decide +kernel
theorem dX8_init_46 : decode cX8_init 46 = .ok (.dup, 1) := by decide +kernel
theorem dX8_init_47 : decode cX8_init 47 = .ok (.invokespecial 36, 3) := by decide +kernel
theorem dX8_init_50 : decode cX8_init 50 = .ok (.putfield 37, 3) := by decide +kernel
theorem dX8_init_53 : decode cX8_init 53 = .ok (.aload_n 0, 1) := by decide +kernel
theorem dX8_init_54 : decode cX8_init 54 = .ok (.sipush 1040, 3) := by decide +kernel
theorem dX8_init_57 : decode cX8_init 57 = .ok (.newarray .int, 2) := by decide +kernel
theorem dX8_init_59 : decode cX8_init 59 = .ok (.putfield 41, 3) := by decide +kernel
theorem dX8_init_62 : decode cX8_init 62 = .ok (.aload_n 0, 1) := by decide +kernel
theorem dX8_init_63 : decode cX8_init 63 = .ok (.iconst 0, 1) := by decide +kernel
theorem dX8_init_64 : decode cX8_init 64 = .ok (.putfield 45, 3) := by decide +kernel
theorem dX8_init_67 : decode cX8_init 67 = .ok (.aload_n 0, 1) := by decide +kernel
theorem dX8_init_68 : decode cX8_init 68 = .ok (.iconst 0, 1) := by decide +kernel
theorem dX8_init_69 : decode cX8_init 69 = .ok (.putfield 49, 3) := by decide +kernel
theorem dX8_init_72 : decode cX8_init 72 = .ok (.aload_n 0, 1) := by decide +kernel
theorem dX8_init_73 : decode cX8_init 73 = .ok (.iconst 0, 1) := by decide +kernel
theorem dX8_init_74 : decode cX8_init 74 = .ok (.putfield 52, 3) := by decide +kernel
theorem dX8_init_77 : decode cX8_init 77 = .ok (.aload_n 0, 1) := by decide +kernel
theorem dX8_init_78 : decode cX8_init 78 = .ok (.iconst 0, 1) := by decide +kernel
theorem dX8_init_79 : decode cX8_init 79 = .ok (.putfield 55, 3) := by decide +kernel
theorem dX8_init_82 : decode cX8_init 82 = .ok (.aload_n 0, 1) := by decide +kernel
theorem dX8_init_83 : decode cX8_init 83 = .ok (.iconst 0, 1) := by decide +kernel
theorem dX8_init_84 : decode cX8_init 84 = .ok (.putfield 58, 3) := by decide +kernel
theorem dX8_init_87 : decode cX8_init 87 = .ok (.aload_n 0, 1) := by decide +kernel
theorem dX8_init_88 : decode cX8_init 88 = .ok (.iconst 0, 1) := by decide +kernel
theorem dX8_init_89 : decode cX8_init 89 = .ok (.putfield 61, 3) := by decide +kernel
theorem dX8_init_92 : decode cX8_init 92 = .ok (.aload_n 0, 1) := by decide +kernel
theorem dX8_init_93 : decode cX8_init 93 = .ok (.iconst 0, 1) := by decide +kernel
theorem dX8_init_94 : decode cX8_init 94 = .ok (.putfield 64, 3) := by decide +kernel
theorem dX8_init_97 : decode cX8_init 97 = .ok (.aload_n 0, 1) := by decide +kernel
theorem dX8_init_98 : decode cX8_init 98 = .ok (.iconst 0, 1) := by decide +kernel
theorem dX8_init_99 : decode cX8_init 99 = .ok (.putfield 67, 3) := by decide +kernel
theorem dX8_init_102 : decode cX8_init 102 = .ok (.iconst 0, 1) := by decide +kernel
theorem dX8_init_103 : decode cX8_init 103 = .ok (.istore_n 1, 1) := by decide +kernel
theorem dX8_init_104 : decode cX8_init 104 = .ok (.iload_n 1, 1) := by decide +kernel
theorem dX8_init_105 : decode cX8_init 105 = .ok (.bipush 8, 2) := by decide +kernel
theorem dX8_init_107 : decode cX8_init 107 = .ok (.if_icmp .ge 22, 3) := by decide +kernel
theorem dX8_init_110 : decode cX8_init 110 = .ok (.aload_n 0, 1) := by decide +kernel
theorem dX8_init_111 : decode cX8_init 111 = .ok (.getfield 11, 3) := by decide +kernel
theorem dX8_init_114 : decode cX8_init 114 = .ok (.iload_n 1, 1) := by decide +kernel
theorem dX8_init_115 : decode cX8_init 115 = .ok (.new 9, 3) := by decide +kernel
theorem dX8_init_118 : decode cX8_init 118 = .ok (.dup, 1) := by decide +kernel
theorem dX8_init_119 : decode cX8_init 119 = .ok (.invokespecial 70, 3) := by decide +kernel
theorem dX8_init_122 : decode cX8_init 122 = .ok (.aastore, 1) := by decide +kernel
theorem dX8_init_123 : decode cX8_init 123 = .ok (.iinc 1 1, 3) := by decide +kernel
theorem dX8_init_126 : decode cX8_init 126 = .ok (.goto (-22), 3) := by decide +kernel
theorem dX8_init_129 : decode cX8_init 129 = .ok (.iconst 0, 1) := by decide +kernel
theorem dX8_init_130 : decode cX8_init 130 = .ok (.istore_n 1, 1) := by decide +kernel
theorem dX8_init_131 : decode cX8_init 131 = .ok (.iload_n 1, 1) := by decide +kernel
theorem dX8_init_132 : decode cX8_init 132 = .ok (.bipush 30, 2) := by decide +kernel
theorem dX8_init_134 : decode cX8_init 134 = .ok (.if_icmp .ge 22, 3) := by decide +kernel
theorem dX8_init_137 : decode cX8_init 137 = .ok (.aload_n 0, 1) := by decide +kernel
theorem dX8_init_138 : decode cX8_init 138 = .ok (.getfield 17, 3) := by decide +kernel
theorem dX8_init_141 : decode cX8_init 141 = .ok (.iload_n 1, 1) := by decide +kernel
theorem dX8_init_142 : decode cX8_init 142 = .ok (.new 15, 3) := by decide +kernel
theorem dX8_init_145 : decode cX8_init 145 = .ok (.dup, 1) := by decide +kernel
theorem dX8_init_146 : decode cX8_init 146 = .ok (.invokespecial 71, 3) := by decide +kernel
theorem dX8_init_149 : decode cX8_init 149 = .ok (.aastore, 1) := by decide +kernel
theorem dX8_init_150 : decode cX8_init 150 = .ok (.iinc 1 1, 3) := by decide +kernel
theorem dX8_init_153 : decode cX8_init 153 = .ok (.goto (-22), 3) := by decide +kernel
theorem dX8_init_156 : decode cX8_init 156 = .ok (.return_, 1) := by decide +kernel
set_option maxRecDepth 20000 in
theorem ggX8_village_X8_isVillage : GoodIn wsX8_village wsX8_isVillage := goodIn_r _ [6, 7, 8, 5, 9] (by decide +kernel) (by decide +kernel)
set_option maxRecDepth 20000 in
theorem gX8_village_X8_isVillage : GoodIn wsX8_village (va_wsS RX8 72 yX8_isVillage wsX8_isVillage) := goodIn_app (goodIn_of _ (by decide +kernel)) ggX8_village_X8_isVillage
set_option maxRecDepth 20000 in
theorem ggX8_village_X8_isWithin : GoodIn wsX8_village wsX8_isWithin := goodIn_r _ [9] (by decide +kernel) (by decide +kernel)
set_option maxRecDepth 20000 in
theorem gX8_village_X8_isWithin : GoodIn wsX8_village (va_wsS RX8 76 yX8_isWithin wsX8_isWithin) := goodIn_app (goodIn_of _ (by decide +kernel)) ggX8_village_X8_isWithin
theorem dX8_village_0 : decode cX8_village 0 = .ok (.iload_n 1, 1) := by decide +kernel
theorem dX8_village_1 : decode cX8_village 1 = .ok (.invokestatic 72, 3) := by decide +kernel
theorem dX8_village_4 : decode cX8_village 4 = .ok (.ifCond .eq 12, 3) := by decide +kernel
theorem dX8_village_7 : decode cX8_village 7 = .ok (.iload_n 2, 1) := by decide +kernel
theorem dX8_village_8 : decode cX8_village 8 = .ok (.bipush 99, 2) := by decide +kernel
theorem dX8_village_10 : decode cX8_village 10 = .ok (.invokestatic 76, 3) := by decide +kernel
theorem dX8_village_13 : decode cX8_village 13 = .ok (.ifCond .ne 5, 3) := by decide +kernel
theorem dX8_village_16 : decode cX8_village 16 = .ok (.iconst 0, 1) := by decide +kernel
theorem dX8_village_17 : decode cX8_village 17 = .ok (.ireturn, 1) := by decide +kernel
theorem dX8_village_18 : decode cX8_village 18 = .ok (.aload_n 0, 1) := by decide +kernel
theorem dX8_village_19 : decode cX8_village 19 = .ok (.getfield 11, 3) := by decide +kernel
theorem dX8_village_22 : decode cX8_village 22 = .ok (.iload_n 1, 1) := by decide +kernel
theorem dX8_village_23 : decode cX8_village 23 = .ok (.aaload, 1) := by decide +kernel
theorem dX8_village_24 : decode cX8_village 24 = .ok (.iload_n 2, 1) := by decide +kernel
theorem dX8_village_25 : decode cX8_village 25 = .ok (.putfield 80, 3) := by decide +kernel
theorem dX8_village_28 : decode cX8_village 28 = .ok (.iconst 1, 1) := by decide +kernel
theorem dX8_village_29 : decode cX8_village 29 = .ok (.ireturn, 1) := by decide +kernel
set_option maxRecDepth 20000 in
theorem ggX8_rod_X8_isRod : GoodIn wsX8_rod wsX8_isRod := goodIn_r _ [7, 8, 9, 6, 10] (by decide +kernel) (by decide +kernel)
set_option maxRecDepth 20000 in
theorem gX8_rod_X8_isRod : GoodIn wsX8_rod (va_wsS RX8 83 yX8_isRod wsX8_isRod) := goodIn_app (goodIn_of _ (by decide +kernel)) ggX8_rod_X8_isRod
set_option maxRecDepth 20000 in
theorem ggX8_rod_X8_isWithin : GoodIn wsX8_rod wsX8_isWithin := goodIn_r _ [10] (by decide +kernel) (by decide +kernel)
set_option maxRecDepth 20000 in
theorem gX8_rod_X8_isWithin : GoodIn wsX8_rod (va_wsS RX8 76 yX8_isWithin wsX8_isWithin) := goodIn_app (goodIn_of _ (by decide +kernel)) ggX8_rod_X8_isWithin
theorem dX8_rod_0 : decode cX8_rod 0 = .ok (.iload_n 1, 1) := by decide +kernel
theorem dX8_rod_1 : decode cX8_rod 1 = .ok (.invokestatic 83, 3) := by decide +kernel
theorem dX8_rod_4 : decode cX8_rod 4 = .ok (.ifCond .eq 21, 3) := by decide +kernel
theorem dX8_rod_7 : decode cX8_rod 7 = .ok (.iload_n 2, 1) := by decide +kernel
theorem dX8_rod_8 : decode cX8_rod 8 = .ok (.iconst 2, 1) := by decide +kernel
theorem dX8_rod_9 : decode cX8_rod 9 = .ok (.invokestatic 76, 3) := by decide +kernel
theorem dX8_rod_12 : decode cX8_rod 12 = .ok (.ifCond .eq 13, 3) := by decide +kernel
theorem dX8_rod_15 : decode cX8_rod 15 = .ok (.iload_n 3, 1) := by decide +kernel
theorem dX8_rod_16 : decode cX8_rod 16 = .ok (.sipush 10000, 3) := by decide +kernel
theorem dX8_rod_19 : decode cX8_rod 19 = .ok (.invokestatic 76, 3) := by decide +kernel
theorem dX8_rod_22 : decode cX8_rod 22 = .ok (.ifCond .ne 5, 3) := by decide +kernel
theorem dX8_rod_25 : decode cX8_rod 25 = .ok (.iconst 0, 1) := by decide +kernel
theorem dX8_rod_26 : decode cX8_rod 26 = .ok (.ireturn, 1) := by decide +kernel
theorem dX8_rod_27 : decode cX8_rod 27 = .ok (.aload_n 0, 1) := by decide +kernel
theorem dX8_rod_28 : decode cX8_rod 28 = .ok (.getfield 17, 3) := by decide +kernel
theorem dX8_rod_31 : decode cX8_rod 31 = .ok (.iload_n 1, 1) := by decide +kernel
theorem dX8_rod_32 : decode cX8_rod 32 = .ok (.aaload, 1) := by decide +kernel
theorem dX8_rod_33 : decode cX8_rod 33 = .ok (.iload_n 2, 1) := by decide +kernel
theorem dX8_rod_34 : decode cX8_rod 34 = .ok (.putfield 86, 3) := by decide +kernel
theorem dX8_rod_37 : decode cX8_rod 37 = .ok (.aload_n 0, 1) := by decide +kernel
theorem dX8_rod_38 : decode cX8_rod 38 = .ok (.getfield 17, 3) := by decide +kernel
theorem dX8_rod_41 : decode cX8_rod 41 = .ok (.iload_n 1, 1) := by decide +kernel
theorem dX8_rod_42 : decode cX8_rod 42 = .ok (.aaload, 1) := by decide +kernel
theorem dX8_rod_43 : decode cX8_rod 43 = .ok (.iload_n 3, 1) := by decide +kernel
theorem dX8_rod_44 : decode cX8_rod 44 = .ok (.putfield 89, 3) := by decide +kernel
theorem dX8_rod_47 : decode cX8_rod 47 = .ok (.iconst 1, 1) := by decide +kernel
theorem dX8_rod_48 : decode cX8_rod 48 = .ok (.ireturn, 1) := by decide +kernel
set_option maxRecDepth 20000 in
theorem ggX8_law_X8_isWithin : GoodIn wsX8_law wsX8_isWithin := goodIn_r _ [9] (by decide +kernel) (by decide +kernel)
set_option maxRecDepth 20000 in
theorem gX8_law_X8_isWithin : GoodIn wsX8_law (va_wsS RX8 76 yX8_isWithin wsX8_isWithin) := goodIn_app (goodIn_of _ (by decide +kernel)) ggX8_law_X8_isWithin
set_option maxRecDepth 20000 in
theorem ggX8_law_X1_canBe : GoodIn wsX8_law wsX1_canBe := goodIn_r _ [12, 13, 7, 8, 9] (by decide +kernel) (by decide +kernel)
set_option maxRecDepth 20000 in
theorem gX8_law_X1_canBe : GoodIn wsX8_law (va_wsS RX8 92 yX1_canBe wsX1_canBe) := goodIn_app (goodIn_of _ (by decide +kernel)) ggX8_law_X1_canBe
set_option maxRecDepth 20000 in
theorem ggX8_law_X2_isFull : GoodIn wsX8_law wsX2_isFull := goodIn_r _ [18, 19, 56, 57, 58] (by decide +kernel) (by decide +kernel)
set_option maxRecDepth 20000 in
theorem gX8_law_X2_isFull : GoodIn wsX8_law (wsV RX8 97 RX2 yX2_isFull wsX2_isFull) := goodIn_app (goodIn_of _ (by decide +kernel)) ggX8_law_X2_isFull
set_option maxRecDepth 20000 in
theorem ggX8_law_X1_init : GoodIn wsX8_law wsX1_init := goodIn_r _ [22, 23, 24, 25, 26, 27, 28, 29, 30, 51, 52, 53, 54, 55] (by decide +kernel) (by decide +kernel)
set_option maxRecDepth 20000 in
theorem gX8_law_X1_init : GoodIn wsX8_law (wsX1_init) := ggX8_law_X1_init
set_option maxRecDepth 20000 in
theorem ggX8_law_X2_add : GoodIn wsX8_law wsX2_add := goodIn_r _ [34, 35, 19, 36, 15, 16, 17, 18, 56, 57, 58] (by decide +kernel) (by decide +kernel)
set_option maxRecDepth 20000 in
theorem gX8_law_X2_add : GoodIn wsX8_law (wsV RX8 104 RX2 yX2_add wsX2_add) := goodIn_app (goodIn_of _ (by decide +kernel)) ggX8_law_X2_add
theorem dX8_law_0 : decode cX8_law 0 = .ok (.iload_n 1, 1) := by decide +kernel
theorem dX8_law_1 : decode cX8_law 1 = .ok (.bipush 19, 2) := by decide +kernel
theorem dX8_law_3 : decode cX8_law 3 = .ok (.invokestatic 76, 3) := by decide +kernel
theorem dX8_law_6 : decode cX8_law 6 = .ok (.ifCond .eq 29, 3) := by decide +kernel
theorem dX8_law_9 : decode cX8_law 9 = .ok (.iload_n 2, 1) := by decide +kernel
theorem dX8_law_10 : decode cX8_law 10 = .ok (.invokestatic 92, 3) := by decide +kernel
theorem dX8_law_13 : decode cX8_law 13 = .ok (.ifCond .eq 22, 3) := by decide +kernel
theorem dX8_law_16 : decode cX8_law 16 = .ok (.iload_n 3, 1) := by decide +kernel
theorem dX8_law_17 : decode cX8_law 17 = .ok (.bipush 100, 2) := by decide +kernel
theorem dX8_law_19 : decode cX8_law 19 = .ok (.invokestatic 76, 3) := by decide +kernel
theorem dX8_law_22 : decode cX8_law 22 = .ok (.ifCond .eq 13, 3) := by decide +kernel
theorem dX8_law_25 : decode cX8_law 25 = .ok (.aload_n 0, 1) := by decide +kernel
theorem dX8_law_26 : decode cX8_law 26 = .ok (.getfield 30, 3) := by decide +kernel
theorem dX8_law_29 : decode cX8_law 29 = .ok (.invokevirtual 97, 3) := by decide +kernel
theorem dX8_law_32 : decode cX8_law 32 = .ok (.ifCond .eq 5, 3) := by decide +kernel
theorem dX8_law_35 : decode cX8_law 35 = .ok (.iconst (-1), 1) := by decide +kernel
theorem dX8_law_36 : decode cX8_law 36 = .ok (.ireturn, 1) := by decide +kernel
theorem dX8_law_37 : decode cX8_law 37 = .ok (.aload_n 0, 1) := by decide +kernel
theorem dX8_law_38 : decode cX8_law 38 = .ok (.getfield 30, 3) := by decide +kernel
theorem dX8_law_41 : decode cX8_law 41 = .ok (.new 93, 3) := by decide +kernel
theorem dX8_law_44 : decode cX8_law 44 = .ok (.dup, 1) := by decide +kernel
theorem dX8_law_45 : decode cX8_law 45 = .ok (.iload_n 1, 1) := by decide +kernel
theorem dX8_law_46 : decode cX8_law 46 = .ok (.iload_n 2, 1) := by decide +kernel
theorem dX8_law_47 : decode cX8_law 47 = .ok (.iload_n 3, 1) := by decide +kernel
theorem dX8_law_48 : decode cX8_law 48 = .ok (.invokespecial 101, 3) := by decide +kernel
theorem dX8_law_51 : decode cX8_law 51 = .ok (.invokevirtual 104, 3) := by decide +kernel
theorem dX8_law_54 : decode cX8_law 54 = .ok (.aload_n 0, 1) := by decide +kernel
theorem dX8_law_55 : decode cX8_law 55 = .ok (.getfield 30, 3) := by decide +kernel
theorem dX8_law_58 : decode cX8_law 58 = .ok (.getfield 108, 3) := by decide +kernel
theorem dX8_law_61 : decode cX8_law 61 = .ok (.ireturn, 1) := by decide +kernel
set_option maxRecDepth 20000 in
theorem ggX8_house_X8_isVillage : GoodIn wsX8_house wsX8_isVillage := goodIn_r _ [10, 11, 12, 9, 13] (by decide +kernel) (by decide +kernel)
set_option maxRecDepth 20000 in
theorem gX8_house_X8_isVillage : GoodIn wsX8_house (va_wsS RX8 72 yX8_isVillage wsX8_isVillage) := goodIn_app (goodIn_of _ (by decide +kernel)) ggX8_house_X8_isVillage
set_option maxRecDepth 20000 in
theorem ggX8_house_X8_isHolding : GoodIn wsX8_house wsX8_isHolding := goodIn_r _ [16, 11, 12, 9, 13] (by decide +kernel) (by decide +kernel)
set_option maxRecDepth 20000 in
theorem gX8_house_X8_isHolding : GoodIn wsX8_house (va_wsS RX8 111 yX8_isHolding wsX8_isHolding) := goodIn_app (goodIn_of _ (by decide +kernel)) ggX8_house_X8_isHolding
set_option maxRecDepth 20000 in
theorem ggX8_house_X0_init : GoodIn wsX8_house wsX0_init := goodIn_r _ [19, 20, 21, 22, 23, 24, 25, 26, 27, 28, 29, 30, 31, 32, 33, 34, 35, 36, 37, 38, 39, 40, 41, 42, 43, 58, 59, 60, 61, 62, 63, 64, 65, 66, 67, 68, 69, 70] (by decide +kernel) (by decide +kernel)
set_option maxRecDepth 20000 in
theorem gX8_house_X0_init : GoodIn wsX8_house (wsX0_init) := ggX8_house_X0_init
theorem dX8_house_0 : decode cX8_house 0 = .ok (.iload_n 1, 1) := by decide +kernel
theorem dX8_house_1 : decode cX8_house 1 = .ok (.invokestatic 72, 3) := by decide +kernel
theorem dX8_house_4 : decode cX8_house 4 = .ok (.ifCond .eq 20, 3) := by decide +kernel
theorem dX8_house_7 : decode cX8_house 7 = .ok (.iload_n 2, 1) := by decide +kernel
theorem dX8_house_8 : decode cX8_house 8 = .ok (.iload_n 3, 1) := by decide +kernel
theorem dX8_house_9 : decode cX8_house 9 = .ok (.invokestatic 111, 3) := by decide +kernel
theorem dX8_house_12 : decode cX8_house 12 = .ok (.ifCond .eq 12, 3) := by decide +kernel
theorem dX8_house_15 : decode cX8_house 15 = .ok (.aload_n 0, 1) := by decide +kernel
theorem dX8_house_16 : decode cX8_house 16 = .ok (.getfield 49, 3) := by decide +kernel
theorem dX8_house_19 : decode cX8_house 19 = .ok (.bipush 40, 2) := by decide +kernel
theorem dX8_house_21 : decode cX8_house 21 = .ok (.if_icmp .lt 5, 3) := by decide +kernel
theorem dX8_house_24 : decode cX8_house 24 = .ok (.iconst (-1), 1) := by decide +kernel
theorem dX8_house_25 : decode cX8_house 25 = .ok (.ireturn, 1) := by decide +kernel
theorem dX8_house_26 : decode cX8_house 26 = .ok (.aload_n 0, 1) := by decide +kernel
theorem dX8_house_27 : decode cX8_house 27 = .ok (.getfield 23, 3) := by decide +kernel
theorem dX8_house_30 : decode cX8_house 30 = .ok (.aload_n 0, 1) := by decide +kernel
theorem dX8_house_31 : decode cX8_house 31 = .ok (.getfield 49, 3) := by decide +kernel
theorem dX8_house_34 : decode cX8_house 34 = .ok (.new 21, 3) := by decide +kernel
theorem dX8_house_37 : decode cX8_house 37 = .ok (.dup, 1) := by decide +kernel
theorem dX8_house_38 : decode cX8_house 38 = .ok (.iload_n 1, 1) := by decide +kernel
theorem dX8_house_39 : decode cX8_house 39 = .ok (.aload_n 0, 1) := by decide +kernel
theorem dX8_house_40 : decode cX8_house 40 = .ok (.getfield 45, 3) := by decide +kernel
theorem dX8_house_43 : decode cX8_house 43 = .ok (.iload_n 2, 1) := by decide +kernel
theorem dX8_house_44 : decode cX8_house 44 = .ok (.iload_n 3, 1) := by decide +kernel
theorem dX8_house_45 : decode cX8_house 45 = .ok (.invokespecial 114, 3) := by decide +kernel
theorem dX8_house_48 : decode cX8_house 48 = .ok (.aastore, 1) := by decide +kernel
theorem dX8_house_49 : decode cX8_house 49 = .ok (.aload_n 0, 1) := by decide +kernel
theorem dX8_house_50 : decode cX8_house 50 = .ok (.dup, 1) := by decide +kernel
theorem dX8_house_51 : decode cX8_house 51 = .ok (.getfield 49, 3) := by decide +kernel
theorem dX8_house_54 : decode cX8_house 54 = .ok (.iconst 1, 1) := by decide +kernel
theorem dX8_house_55 : decode cX8_house 55 = .ok (.iadd, 1) := by decide +kernel
theorem dX8_house_56 : decode cX8_house 56 = .ok (.putfield 49, 3) := by decide +kernel
theorem dX8_house_59 : decode cX8_house 59 = .ok (.aload_n 0, 1) := by decide +kernel
theorem dX8_house_60 : decode cX8_house 60 = .ok (.getfield 49, 3) := by decide +kernel
theorem dX8_house_63 : decode cX8_house 63 = .ok (.iconst 1, 1) := by decide +kernel
theorem dX8_house_64 : decode cX8_house 64 = .ok (.isub, 1) := by decide +kernel
theorem dX8_house_65 : decode cX8_house 65 = .ok (.ireturn, 1) := by decide +kernel
set_option maxRecDepth 20000 in
theorem ggX8_change_X8_isHouse : GoodIn wsX8_change wsX8_isHouse := goodIn_r _ [9, 10, 11, 12, 8, 13, 37, 38, 39, 40, 41, 42, 43, 44, 45, 46, 47, 48, 49, 50] (by decide +kernel) (by decide +kernel)
set_option maxRecDepth 20000 in
theorem gX8_change_X8_isHouse : GoodIn wsX8_change (wsV RX8 117 RX8 yX8_isHouse wsX8_isHouse) := goodIn_app (goodIn_of _ (by decide +kernel)) ggX8_change_X8_isHouse
set_option maxRecDepth 20000 in
theorem ggX8_change_X8_isHolding : GoodIn wsX8_change wsX8_isHolding := goodIn_r _ [16, 11, 12, 8, 13] (by decide +kernel) (by decide +kernel)
set_option maxRecDepth 20000 in
theorem gX8_change_X8_isHolding : GoodIn wsX8_change (va_wsS RX8 111 yX8_isHolding wsX8_isHolding) := goodIn_app (goodIn_of _ (by decide +kernel)) ggX8_change_X8_isHolding
set_option maxRecDepth 20000 in
theorem ggX8_change_X0_learn : GoodIn wsX8_change wsX0_learn := goodIn_r _ [21, 22, 23, 24, 25, 26, 27, 28, 29, 30, 31, 32, 33, 34, 35, 36, 59, 60, 61, 62, 63, 51, 52, 53, 54, 55, 56, 57, 58] (by decide +kernel) (by decide +kernel)
set_option maxRecDepth 20000 in
theorem gX8_change_X0_learn : GoodIn wsX8_change (wsV RX8 123 RX0 yX0_learn wsX0_learn) := goodIn_app (goodIn_of _ (by decide +kernel)) ggX8_change_X0_learn
theorem dX8_change_0 : decode cX8_change 0 = .ok (.aload_n 0, 1) := by decide +kernel
theorem dX8_change_1 : decode cX8_change 1 = .ok (.iload_n 1, 1) := by decide +kernel
theorem dX8_change_2 : decode cX8_change 2 = .ok (.invokevirtual 117, 3) := by decide +kernel
theorem dX8_change_5 : decode cX8_change 5 = .ok (.ifCond .eq 22, 3) := by decide +kernel
theorem dX8_change_8 : decode cX8_change 8 = .ok (.iload_n 3, 1) := by decide +kernel
theorem dX8_change_9 : decode cX8_change 9 = .ok (.iload 4, 2) := by decide +kernel
theorem dX8_change_11 : decode cX8_change 11 = .ok (.invokestatic 111, 3) := by decide +kernel
theorem dX8_change_14 : decode cX8_change 14 = .ok (.ifCond .eq 13, 3) := by decide +kernel
theorem dX8_change_17 : decode cX8_change 17 = .ok (.aload_n 0, 1) := by decide +kernel
theorem dX8_change_18 : decode cX8_change 18 = .ok (.getfield 52, 3) := by decide +kernel
theorem dX8_change_21 : decode cX8_change 21 = .ok (.sipush 200, 3) := by decide +kernel
theorem dX8_change_24 : decode cX8_change 24 = .ok (.if_icmp .lt 5, 3) := by decide +kernel
theorem dX8_change_27 : decode cX8_change 27 = .ok (.iconst 0, 1) := by decide +kernel
theorem dX8_change_28 : decode cX8_change 28 = .ok (.ireturn, 1) := by decide +kernel
theorem dX8_change_29 : decode cX8_change 29 = .ok (.iload_n 2, 1) := by decide +kernel
theorem dX8_change_30 : decode cX8_change 30 = .ok (.aload_n 0, 1) := by decide +kernel
theorem dX8_change_31 : decode cX8_change 31 = .ok (.getfield 45, 3) := by decide +kernel
theorem dX8_change_34 : decode cX8_change 34 = .ok (.if_icmp .gt 16, 3) := by decide +kernel
theorem dX8_change_37 : decode cX8_change 37 = .ok (.iload_n 2, 1) := by decide +kernel
theorem dX8_change_38 : decode cX8_change 38 = .ok (.aload_n 0, 1) := by decide +kernel
theorem dX8_change_39 : decode cX8_change 39 = .ok (.getfield 23, 3) := by decide +kernel
theorem dX8_change_42 : decode cX8_change 42 = .ok (.iload_n 1, 1) := by decide +kernel
theorem dX8_change_43 : decode cX8_change 43 = .ok (.aaload, 1) := by decide +kernel
theorem dX8_change_44 : decode cX8_change 44 = .ok (.getfield 120, 3) := by decide +kernel
theorem dX8_change_47 : decode cX8_change 47 = .ok (.if_icmp .ge 5, 3) := by decide +kernel
theorem dX8_change_50 : decode cX8_change 50 = .ok (.iconst 0, 1) := by decide +kernel
theorem dX8_change_51 : decode cX8_change 51 = .ok (.ireturn, 1) := by decide +kernel
theorem dX8_change_52 : decode cX8_change 52 = .ok (.aload_n 0, 1) := by decide +kernel
theorem dX8_change_53 : decode cX8_change 53 = .ok (.getfield 23, 3) := by decide +kernel
theorem dX8_change_56 : decode cX8_change 56 = .ok (.iload_n 1, 1) := by decide +kernel
theorem dX8_change_57 : decode cX8_change 57 = .ok (.aaload, 1) := by decide +kernel
theorem dX8_change_58 : decode cX8_change 58 = .ok (.aload_n 0, 1) := by decide +kernel
theorem dX8_change_59 : decode cX8_change 59 = .ok (.getfield 45, 3) := by decide +kernel
theorem dX8_change_62 : decode cX8_change 62 = .ok (.iload_n 2, 1) := by decide +kernel
theorem dX8_change_63 : decode cX8_change 63 = .ok (.iload_n 3, 1) := by decide +kernel
theorem dX8_change_64 : decode cX8_change 64 = .ok (.iload 4, 2) := by decide +kernel
theorem dX8_change_66 : decode cX8_change 66 = .ok (.invokevirtual 123, 3) := by decide +kernel
theorem dX8_change_69 : decode cX8_change 69 = .ok (.aload_n 0, 1) := by decide +kernel
theorem dX8_change_70 : decode cX8_change 70 = .ok (.dup, 1) := by decide +kernel
theorem dX8_change_71 : decode cX8_change 71 = .ok (.getfield 52, 3) := by decide +kernel
theorem dX8_change_74 : decode cX8_change 74 = .ok (.iconst 1, 1) := by decide +kernel
theorem dX8_change_75 : decode cX8_change 75 = .ok (.iadd, 1) := by decide +kernel
theorem dX8_change_76 : decode cX8_change 76 = .ok (.putfield 52, 3) := by decide +kernel
theorem dX8_change_79 : decode cX8_change 79 = .ok (.iconst 1, 1) := by decide +kernel
theorem dX8_change_80 : decode cX8_change 80 = .ok (.ireturn, 1) := by decide +kernel
set_option maxRecDepth 20000 in
theorem ggX8_listed_X8_isHouse : GoodIn wsX8_listed wsX8_isHouse := goodIn_r _ [8, 9, 10, 11, 7, 12, 30, 31, 32, 33, 34, 35, 36, 37, 38, 39, 40, 41, 42, 43] (by decide +kernel) (by decide +kernel)
set_option maxRecDepth 20000 in
theorem gX8_listed_X8_isHouse : GoodIn wsX8_listed (wsV RX8 117 RX8 yX8_isHouse wsX8_isHouse) := goodIn_app (goodIn_of _ (by decide +kernel)) ggX8_listed_X8_isHouse
set_option maxRecDepth 20000 in
theorem ggX8_listed_X8_isYearSoFar : GoodIn wsX8_listed wsX8_isYearSoFar := goodIn_r _ [16, 17, 18, 19, 7, 20, 21, 10, 11, 12, 30, 31, 32, 33, 34, 35, 36, 37, 38, 39, 40, 41, 42, 43] (by decide +kernel) (by decide +kernel)
set_option maxRecDepth 20000 in
theorem gX8_listed_X8_isYearSoFar : GoodIn wsX8_listed (wsV RX8 126 RX8 yX8_isYearSoFar wsX8_isYearSoFar) := goodIn_app (goodIn_of _ (by decide +kernel)) ggX8_listed_X8_isYearSoFar
set_option maxRecDepth 20000 in
theorem ggX8_listed_X0_toldAheadOf : GoodIn wsX8_listed wsX0_toldAheadOf := goodIn_r _ [26, 27, 28, 29, 49, 50, 51, 52, 53, 54, 55, 56, 44, 45, 46, 47, 48] (by decide +kernel) (by decide +kernel)
set_option maxRecDepth 20000 in
theorem gX8_listed_X0_toldAheadOf : GoodIn wsX8_listed (wsV RX8 129 RX0 yX0_toldAheadOf wsX0_toldAheadOf) := goodIn_app (goodIn_of _ (by decide +kernel)) ggX8_listed_X0_toldAheadOf
theorem dX8_listed_0 : decode cX8_listed 0 = .ok (.aload_n 0, 1) := by decide +kernel
theorem dX8_listed_1 : decode cX8_listed 1 = .ok (.iload_n 1, 1) := by decide +kernel
theorem dX8_listed_2 : decode cX8_listed 2 = .ok (.invokevirtual 117, 3) := by decide +kernel
theorem dX8_listed_5 : decode cX8_listed 5 = .ok (.ifCond .eq 11, 3) := by decide +kernel
theorem dX8_listed_8 : decode cX8_listed 8 = .ok (.aload_n 0, 1) := by decide +kernel
theorem dX8_listed_9 : decode cX8_listed 9 = .ok (.iload_n 2, 1) := by decide +kernel
theorem dX8_listed_10 : decode cX8_listed 10 = .ok (.invokevirtual 126, 3) := by decide +kernel
theorem dX8_listed_13 : decode cX8_listed 13 = .ok (.ifCond .ne 5, 3) := by decide +kernel
theorem dX8_listed_16 : decode cX8_listed 16 = .ok (.iconst (-1), 1) := by decide +kernel
theorem dX8_listed_17 : decode cX8_listed 17 = .ok (.ireturn, 1) := by decide +kernel
theorem dX8_listed_18 : decode cX8_listed 18 = .ok (.aload_n 0, 1) := by decide +kernel
theorem dX8_listed_19 : decode cX8_listed 19 = .ok (.getfield 23, 3) := by decide +kernel
theorem dX8_listed_22 : decode cX8_listed 22 = .ok (.iload_n 1, 1) := by decide +kernel
theorem dX8_listed_23 : decode cX8_listed 23 = .ok (.aaload, 1) := by decide +kernel
theorem dX8_listed_24 : decode cX8_listed 24 = .ok (.iload_n 2, 1) := by decide +kernel
theorem dX8_listed_25 : decode cX8_listed 25 = .ok (.bipush 52, 2) := by decide +kernel
theorem dX8_listed_27 : decode cX8_listed 27 = .ok (.imul, 1) := by decide +kernel
theorem dX8_listed_28 : decode cX8_listed 28 = .ok (.invokevirtual 129, 3) := by decide +kernel
theorem dX8_listed_31 : decode cX8_listed 31 = .ok (.astore 4, 2) := by decide +kernel
theorem dX8_listed_33 : decode cX8_listed 33 = .ok (.aload 4, 2) := by decide +kernel
theorem dX8_listed_35 : decode cX8_listed 35 = .ok (.ifnonnull 5, 3) := by decide +kernel
theorem dX8_listed_38 : decode cX8_listed 38 = .ok (.iconst (-1), 1) := by decide +kernel
theorem dX8_listed_39 : decode cX8_listed 39 = .ok (.ireturn, 1) := by decide +kernel
theorem dX8_listed_40 : decode cX8_listed 40 = .ok (.iload_n 3, 1) := by decide +kernel
theorem dX8_listed_41 : decode cX8_listed 41 = .ok (.lookupswitch 39 #[(0, 27), (1, 33)], 27) := by decide +kernel
theorem dX8_listed_68 : decode cX8_listed 68 = .ok (.aload 4, 2) := by decide +kernel
theorem dX8_listed_70 : decode cX8_listed 70 = .ok (.getfield 133, 3) := by decide +kernel
theorem dX8_listed_73 : decode cX8_listed 73 = .ok (.ireturn, 1) := by decide +kernel
theorem dX8_listed_74 : decode cX8_listed 74 = .ok (.aload 4, 2) := by decide +kernel
theorem dX8_listed_76 : decode cX8_listed 76 = .ok (.getfield 138, 3) := by decide +kernel
theorem dX8_listed_79 : decode cX8_listed 79 = .ok (.ireturn, 1) := by decide +kernel
theorem dX8_listed_80 : decode cX8_listed 80 = .ok (.iconst (-1), 1) := by decide +kernel
theorem dX8_listed_81 : decode cX8_listed 81 = .ok (.ireturn, 1) := by decide +kernel
set_option maxRecDepth 20000 in
theorem ggX8_owed_X8_isHouse : GoodIn wsX8_owed wsX8_isHouse := goodIn_r _ [6, 7, 8, 9, 5, 10, 52, 53, 54, 55, 56, 57, 58, 59, 60, 61, 62, 63, 64, 65] (by decide +kernel) (by decide +kernel)
set_option maxRecDepth 20000 in
theorem gX8_owed_X8_isHouse : GoodIn wsX8_owed (wsV RX8 117 RX8 yX8_isHouse wsX8_isHouse) := goodIn_app (goodIn_of _ (by decide +kernel)) ggX8_owed_X8_isHouse
set_option maxRecDepth 20000 in
theorem ggX8_owed_X8_isYearSoFar : GoodIn wsX8_owed wsX8_isYearSoFar := goodIn_r _ [14, 15, 16, 17, 5, 18, 19, 8, 9, 10, 52, 53, 54, 55, 56, 57, 58, 59, 60, 61, 62, 63, 64, 65] (by decide +kernel) (by decide +kernel)
set_option maxRecDepth 20000 in
theorem gX8_owed_X8_isYearSoFar : GoodIn wsX8_owed (wsV RX8 126 RX8 yX8_isYearSoFar wsX8_isYearSoFar) := goodIn_app (goodIn_of _ (by decide +kernel)) ggX8_owed_X8_isYearSoFar
set_option maxRecDepth 20000 in
theorem ggX8_owed_X8_daysOwed : GoodIn wsX8_owed wsX8_daysOwed := goodIn_r _ [23, 24, 25, 26, 27, 28, 29, 30, 31, 32, 33, 34, 35, 36, 37, 38, 39, 40, 41, 42, 43, 44, 45, 46, 47, 48, 49, 50, 51, 52, 53, 54, 55, 56, 57, 58, 59, 60, 61, 62, 63, 64, 65, 66, 67, 68, 69, 70, 71, 72, 73, 74, 75, 76, 77, 78, 79, 80, 81, 82, 83, 84, 85, 86] (by decide +kernel) (by decide +kernel)
set_option maxRecDepth 20000 in
theorem gX8_owed_X8_daysOwed : GoodIn wsX8_owed (wsV RX8 141 RX8 yX8_daysOwed wsX8_daysOwed) := goodIn_app (goodIn_of _ (by decide +kernel)) ggX8_owed_X8_daysOwed
theorem dX8_owed_0 : decode cX8_owed 0 = .ok (.aload_n 0, 1) := by decide +kernel
theorem dX8_owed_1 : decode cX8_owed 1 = .ok (.iload_n 1, 1) := by decide +kernel
theorem dX8_owed_2 : decode cX8_owed 2 = .ok (.invokevirtual 117, 3) := by decide +kernel
theorem dX8_owed_5 : decode cX8_owed 5 = .ok (.ifCond .eq 11, 3) := by decide +kernel
theorem dX8_owed_8 : decode cX8_owed 8 = .ok (.aload_n 0, 1) := by decide +kernel
theorem dX8_owed_9 : decode cX8_owed 9 = .ok (.iload_n 2, 1) := by decide +kernel
theorem dX8_owed_10 : decode cX8_owed 10 = .ok (.invokevirtual 126, 3) := by decide +kernel
theorem dX8_owed_13 : decode cX8_owed 13 = .ok (.ifCond .ne 5, 3) := by decide +kernel
theorem dX8_owed_16 : decode cX8_owed 16 = .ok (.iconst (-1), 1) := by decide +kernel
theorem dX8_owed_17 : decode cX8_owed 17 = .ok (.ireturn, 1) := by decide +kernel
theorem dX8_owed_18 : decode cX8_owed 18 = .ok (.aload_n 0, 1) := by decide +kernel
theorem dX8_owed_19 : decode cX8_owed 19 = .ok (.aload_n 0, 1) := by decide +kernel
theorem dX8_owed_20 : decode cX8_owed 20 = .ok (.getfield 23, 3) := by decide +kernel
theorem dX8_owed_23 : decode cX8_owed 23 = .ok (.iload_n 1, 1) := by decide +kernel
theorem dX8_owed_24 : decode cX8_owed 24 = .ok (.aaload, 1) := by decide +kernel
theorem dX8_owed_25 : decode cX8_owed 25 = .ok (.iload_n 2, 1) := by decide +kernel
theorem dX8_owed_26 : decode cX8_owed 26 = .ok (.invokevirtual 141, 3) := by decide +kernel
theorem dX8_owed_29 : decode cX8_owed 29 = .ok (.ireturn, 1) := by decide +kernel
set_option maxRecDepth 20000 in
theorem ggX8_work_X8_isHouse : GoodIn wsX8_work wsX8_isHouse := goodIn_r _ [15, 16, 17, 18, 14, 19, 113, 114, 115, 116, 117, 118, 119, 120, 121, 122, 123, 124, 125, 126] (by decide +kernel) (by decide +kernel)
set_option maxRecDepth 20000 in
theorem gX8_work_X8_isHouse : GoodIn wsX8_work (wsV RX8 117 RX8 yX8_isHouse wsX8_isHouse) := goodIn_app (goodIn_of _ (by decide +kernel)) ggX8_work_X8_isHouse
set_option maxRecDepth 20000 in
theorem ggX8_work_X8_isRod : GoodIn wsX8_work wsX8_isRod := goodIn_r _ [22, 17, 18, 14, 19] (by decide +kernel) (by decide +kernel)
set_option maxRecDepth 20000 in
theorem gX8_work_X8_isRod : GoodIn wsX8_work (va_wsS RX8 83 yX8_isRod wsX8_isRod) := goodIn_app (goodIn_of _ (by decide +kernel)) ggX8_work_X8_isRod
set_option maxRecDepth 20000 in
theorem ggX8_work_X8_yearNow : GoodIn wsX8_work wsX8_yearNow := goodIn_r _ [26, 1, 113, 114, 115, 116, 117, 118, 119, 120, 121, 122, 123, 124, 125, 126] (by decide +kernel) (by decide +kernel)
set_option maxRecDepth 20000 in
theorem gX8_work_X8_yearNow : GoodIn wsX8_work (wsV RX8 145 RX8 yX8_yearNow wsX8_yearNow) := goodIn_app (goodIn_of _ (by decide +kernel)) ggX8_work_X8_yearNow
set_option maxRecDepth 20000 in
theorem ggX8_work_X8_daysOwedYet : GoodIn wsX8_work wsX8_daysOwedYet := goodIn_r _ [30, 31, 32, 33, 34, 35, 36, 37, 14, 38, 39, 40, 41, 42, 43, 44, 45, 46, 47, 48, 49, 50, 51, 52, 53, 54, 55, 56, 57, 58, 59, 60, 61, 62, 63, 64, 65, 66, 67, 68, 69, 70, 71, 72, 73, 113, 114, 115, 116, 117, 118, 119, 120, 121, 122, 123, 124, 125, 126, 127, 128, 129, 130, 131, 132, 133, 134, 135, 136, 137, 138, 139, 140, 141, 142, 143, 144, 145, 146, 147] (by decide +kernel) (by decide +kernel)
set_option maxRecDepth 20000 in
theorem gX8_work_X8_daysOwedYet : GoodIn wsX8_work (wsV RX8 149 RX8 yX8_daysOwedYet wsX8_daysOwedYet) := goodIn_app (goodIn_of _ (by decide +kernel)) ggX8_work_X8_daysOwedYet
set_option maxRecDepth 20000 in
theorem ggX8_work_X8_canSubstitute : GoodIn wsX8_work wsX8_canSubstitute := goodIn_r _ [77, 4, 2, 8, 127, 128, 129, 130, 131, 132, 133, 134, 113, 114, 115, 116, 117, 118, 119, 120, 121, 122, 123, 124, 125, 126] (by decide +kernel) (by decide +kernel)
set_option maxRecDepth 20000 in
theorem gX8_work_X8_canSubstitute : GoodIn wsX8_work (wsV RX8 155 RX8 yX8_canSubstitute wsX8_canSubstitute) := goodIn_app (goodIn_of _ (by decide +kernel)) ggX8_work_X8_canSubstitute
set_option maxRecDepth 20000 in
theorem ggX8_work_X6_addDays : GoodIn wsX8_work wsX6_addDays := goodIn_r _ [82, 83, 84, 85, 86, 87, 88, 89, 90, 91, 92, 93, 94, 95, 96, 97, 148, 149, 150, 151, 152, 153] (by decide +kernel) (by decide +kernel)
set_option maxRecDepth 20000 in
theorem gX8_work_X6_addDays : GoodIn wsX8_work (wsV RX8 171 RX6 yX6_addDays wsX6_addDays) := goodIn_app (goodIn_of _ (by decide +kernel)) ggX8_work_X6_addDays
set_option maxRecDepth 20000 in
theorem ggX8_work_X4_raise : GoodIn wsX8_work wsX4_raise := goodIn_r _ [102, 103, 104, 105, 33, 106, 107, 108, 109, 110, 101, 111, 112, 154, 155, 156, 157, 158] (by decide +kernel) (by decide +kernel)
set_option maxRecDepth 20000 in
theorem gX8_work_X4_raise : GoodIn wsX8_work (wsV RX8 175 RX4 yX4_raise wsX4_raise) := goodIn_app (goodIn_of _ (by decide +kernel)) ggX8_work_X4_raise
theorem dX8_work_0 : decode cX8_work 0 = .ok (.aload_n 0, 1) := by decide +kernel
theorem dX8_work_1 : decode cX8_work 1 = .ok (.iload_n 1, 1) := by decide +kernel
theorem dX8_work_2 : decode cX8_work 2 = .ok (.invokevirtual 117, 3) := by decide +kernel
theorem dX8_work_5 : decode cX8_work 5 = .ok (.ifCond .eq 29, 3) := by decide +kernel
theorem dX8_work_8 : decode cX8_work 8 = .ok (.iload_n 2, 1) := by decide +kernel
theorem dX8_work_9 : decode cX8_work 9 = .ok (.invokestatic 83, 3) := by decide +kernel
theorem dX8_work_12 : decode cX8_work 12 = .ok (.ifCond .eq 22, 3) := by decide +kernel
theorem dX8_work_15 : decode cX8_work 15 = .ok (.aload_n 0, 1) := by decide +kernel
theorem dX8_work_16 : decode cX8_work 16 = .ok (.iload 4, 2) := by decide +kernel
theorem dX8_work_18 : decode cX8_work 18 = .ok (.invokevirtual 117, 3) := by decide +kernel
theorem dX8_work_21 : decode cX8_work 21 = .ok (.ifCond .eq 13, 3) := by decide +kernel
theorem dX8_work_24 : decode cX8_work 24 = .ok (.aload_n 0, 1) := by decide +kernel
theorem dX8_work_25 : decode cX8_work 25 = .ok (.getfield 45, 3) := by decide +kernel
theorem dX8_work_28 : decode cX8_work 28 = .ok (.sipush 1040, 3) := by decide +kernel
theorem dX8_work_31 : decode cX8_work 31 = .ok (.if_icmp .lt 5, 3) := by decide +kernel
theorem dX8_work_34 : decode cX8_work 34 = .ok (.iconst (-1), 1) := by decide +kernel
theorem dX8_work_35 : decode cX8_work 35 = .ok (.ireturn, 1) := by decide +kernel
theorem dX8_work_36 : decode cX8_work 36 = .ok (.aload_n 0, 1) := by decide +kernel
theorem dX8_work_37 : decode cX8_work 37 = .ok (.invokevirtual 145, 3) := by decide +kernel
theorem dX8_work_40 : decode cX8_work 40 = .ok (.istore 5, 2) := by decide +kernel
theorem dX8_work_42 : decode cX8_work 42 = .ok (.aload_n 0, 1) := by decide +kernel
theorem dX8_work_43 : decode cX8_work 43 = .ok (.getfield 23, 3) := by decide +kernel
theorem dX8_work_46 : decode cX8_work 46 = .ok (.iload_n 1, 1) := by decide +kernel
theorem dX8_work_47 : decode cX8_work 47 = .ok (.aaload, 1) := by decide +kernel
theorem dX8_work_48 : decode cX8_work 48 = .ok (.astore 6, 2) := by decide +kernel
theorem dX8_work_50 : decode cX8_work 50 = .ok (.aload_n 0, 1) := by decide +kernel
theorem dX8_work_51 : decode cX8_work 51 = .ok (.getfield 23, 3) := by decide +kernel
theorem dX8_work_54 : decode cX8_work 54 = .ok (.iload 4, 2) := by decide +kernel
theorem dX8_work_56 : decode cX8_work 56 = .ok (.aaload, 1) := by decide +kernel
theorem dX8_work_57 : decode cX8_work 57 = .ok (.astore 7, 2) := by decide +kernel
theorem dX8_work_59 : decode cX8_work 59 = .ok (.iload_n 3, 1) := by decide +kernel
theorem dX8_work_60 : decode cX8_work 60 = .ok (.iconst 1, 1) := by decide +kernel
theorem dX8_work_61 : decode cX8_work 61 = .ok (.if_icmp .lt 15, 3) := by decide +kernel
theorem dX8_work_64 : decode cX8_work 64 = .ok (.iload_n 3, 1) := by decide +kernel
theorem dX8_work_65 : decode cX8_work 65 = .ok (.aload_n 0, 1) := by decide +kernel
theorem dX8_work_66 : decode cX8_work 66 = .ok (.aload 7, 2) := by decide +kernel
theorem dX8_work_68 : decode cX8_work 68 = .ok (.iload 5, 2) := by decide +kernel
theorem dX8_work_70 : decode cX8_work 70 = .ok (.invokevirtual 149, 3) := by decide +kernel
theorem dX8_work_73 : decode cX8_work 73 = .ok (.if_icmp .le 5, 3) := by decide +kernel
theorem dX8_work_76 : decode cX8_work 76 = .ok (.iconst (-1), 1) := by decide +kernel
theorem dX8_work_77 : decode cX8_work 77 = .ok (.ireturn, 1) := by decide +kernel
theorem dX8_work_78 : decode cX8_work 78 = .ok (.iload_n 1, 1) := by decide +kernel
theorem dX8_work_79 : decode cX8_work 79 = .ok (.iload 4, 2) := by decide +kernel
theorem dX8_work_81 : decode cX8_work 81 = .ok (.if_icmp .ne 18, 3) := by decide +kernel
theorem dX8_work_84 : decode cX8_work 84 = .ok (.aload 7, 2) := by decide +kernel
theorem dX8_work_86 : decode cX8_work 86 = .ok (.getfield 152, 3) := by decide +kernel
theorem dX8_work_89 : decode cX8_work 89 = .ok (.iload 5, 2) := by decide +kernel
theorem dX8_work_91 : decode cX8_work 91 = .ok (.dup2, 1) := by decide +kernel
theorem dX8_work_92 : decode cX8_work 92 = .ok (.iaload, 1) := by decide +kernel
theorem dX8_work_93 : decode cX8_work 93 = .ok (.iload_n 3, 1) := by decide +kernel
theorem dX8_work_94 : decode cX8_work 94 = .ok (.iadd, 1) := by decide +kernel
theorem dX8_work_95 : decode cX8_work 95 = .ok (.iastore, 1) := by decide +kernel
theorem dX8_work_96 : decode cX8_work 96 = .ok (.goto 53, 3) := by decide +kernel
theorem dX8_work_99 : decode cX8_work 99 = .ok (.aload_n 0, 1) := by decide +kernel
theorem dX8_work_100 : decode cX8_work 100 = .ok (.iload_n 1, 1) := by decide +kernel
theorem dX8_work_101 : decode cX8_work 101 = .ok (.aload 7, 2) := by decide +kernel
theorem dX8_work_103 : decode cX8_work 103 = .ok (.iload 5, 2) := by decide +kernel
theorem dX8_work_105 : decode cX8_work 105 = .ok (.invokevirtual 155, 3) := by decide +kernel
theorem dX8_work_108 : decode cX8_work 108 = .ok (.ifCond .eq 39, 3) := by decide +kernel
theorem dX8_work_111 : decode cX8_work 111 = .ok (.aload 7, 2) := by decide +kernel
theorem dX8_work_113 : decode cX8_work 113 = .ok (.getfield 159, 3) := by decide +kernel
theorem dX8_work_116 : decode cX8_work 116 = .ok (.iload 5, 2) := by decide +kernel
theorem dX8_work_118 : decode cX8_work 118 = .ok (.iload_n 1, 1) := by decide +kernel
theorem dX8_work_119 : decode cX8_work 119 = .ok (.iastore, 1) := by decide +kernel
theorem dX8_work_120 : decode cX8_work 120 = .ok (.aload 7, 2) := by decide +kernel
theorem dX8_work_122 : decode cX8_work 122 = .ok (.getfield 162, 3) := by decide +kernel
theorem dX8_work_125 : decode cX8_work 125 = .ok (.iload 5, 2) := by decide +kernel
theorem dX8_work_127 : decode cX8_work 127 = .ok (.dup2, 1) := by decide +kernel
theorem dX8_work_128 : decode cX8_work 128 = .ok (.iaload, 1) := by decide +kernel
theorem dX8_work_129 : decode cX8_work 129 = .ok (.iload_n 3, 1) := by decide +kernel
theorem dX8_work_130 : decode cX8_work 130 = .ok (.iadd, 1) := by decide +kernel
theorem dX8_work_131 : decode cX8_work 131 = .ok (.iastore, 1) := by decide +kernel
theorem dX8_work_132 : decode cX8_work 132 = .ok (.aload 6, 2) := by decide +kernel
theorem dX8_work_134 : decode cX8_work 134 = .ok (.getfield 165, 3) := by decide +kernel
theorem dX8_work_137 : decode cX8_work 137 = .ok (.iload 5, 2) := by decide +kernel
theorem dX8_work_139 : decode cX8_work 139 = .ok (.dup2, 1) := by decide +kernel
theorem dX8_work_140 : decode cX8_work 140 = .ok (.iaload, 1) := by decide +kernel
theorem dX8_work_141 : decode cX8_work 141 = .ok (.iload_n 3, 1) := by decide +kernel
theorem dX8_work_142 : decode cX8_work 142 = .ok (.iadd, 1) := by decide +kernel
theorem dX8_work_143 : decode cX8_work 143 = .ok (.iastore, 1) := by decide +kernel
theorem dX8_work_144 : decode cX8_work 144 = .ok (.goto 5, 3) := by decide +kernel
theorem dX8_work_147 : decode cX8_work 147 = .ok (.iconst (-1), 1) := by decide +kernel
theorem dX8_work_148 : decode cX8_work 148 = .ok (.ireturn, 1) := by decide +kernel
theorem dX8_work_149 : decode cX8_work 149 = .ok (.aload_n 0, 1) := by decide +kernel
theorem dX8_work_150 : decode cX8_work 150 = .ok (.getfield 11, 3) := by decide +kernel
theorem dX8_work_153 : decode cX8_work 153 = .ok (.aload 6, 2) := by decide +kernel
theorem dX8_work_155 : decode cX8_work 155 = .ok (.getfield 168, 3) := by decide +kernel
theorem dX8_work_158 : decode cX8_work 158 = .ok (.aaload, 1) := by decide +kernel
theorem dX8_work_159 : decode cX8_work 159 = .ok (.aload_n 0, 1) := by decide +kernel
theorem dX8_work_160 : decode cX8_work 160 = .ok (.getfield 45, 3) := by decide +kernel
theorem dX8_work_163 : decode cX8_work 163 = .ok (.iload_n 3, 1) := by decide +kernel
theorem dX8_work_164 : decode cX8_work 164 = .ok (.invokevirtual 171, 3) := by decide +kernel
theorem dX8_work_167 : decode cX8_work 167 = .ok (.aload_n 0, 1) := by decide +kernel
theorem dX8_work_168 : decode cX8_work 168 = .ok (.getfield 17, 3) := by decide +kernel
theorem dX8_work_171 : decode cX8_work 171 = .ok (.iload_n 2, 1) := by decide +kernel
theorem dX8_work_172 : decode cX8_work 172 = .ok (.aaload, 1) := by decide +kernel
theorem dX8_work_173 : decode cX8_work 173 = .ok (.iload_n 3, 1) := by decide +kernel
theorem dX8_work_174 : decode cX8_work 174 = .ok (.invokevirtual 175, 3) := by decide +kernel
theorem dX8_work_177 : decode cX8_work 177 = .ok (.aload_n 0, 1) := by decide +kernel
theorem dX8_work_178 : decode cX8_work 178 = .ok (.dup, 1) := by decide +kernel
theorem dX8_work_179 : decode cX8_work 179 = .ok (.getfield 61, 3) := by decide +kernel
theorem dX8_work_182 : decode cX8_work 182 = .ok (.iload_n 3, 1) := by decide +kernel
theorem dX8_work_183 : decode cX8_work 183 = .ok (.iadd, 1) := by decide +kernel
theorem dX8_work_184 : decode cX8_work 184 = .ok (.putfield 61, 3) := by decide +kernel
theorem dX8_work_187 : decode cX8_work 187 = .ok (.aload_n 0, 1) := by decide +kernel
theorem dX8_work_188 : decode cX8_work 188 = .ok (.aload 7, 2) := by decide +kernel
theorem dX8_work_190 : decode cX8_work 190 = .ok (.iload 5, 2) := by decide +kernel
theorem dX8_work_192 : decode cX8_work 192 = .ok (.invokevirtual 149, 3) := by decide +kernel
theorem dX8_work_195 : decode cX8_work 195 = .ok (.ireturn, 1) := by decide +kernel
set_option maxRecDepth 20000 in
theorem ggX8_buy_X8_isHouse : GoodIn wsX8_buy wsX8_isHouse := goodIn_r _ [12, 13, 14, 15, 11, 16, 67, 68, 69, 70, 71, 72, 73, 74, 75, 76, 77, 78, 79, 80] (by decide +kernel) (by decide +kernel)
set_option maxRecDepth 20000 in
theorem gX8_buy_X8_isHouse : GoodIn wsX8_buy (wsV RX8 117 RX8 yX8_isHouse wsX8_isHouse) := goodIn_app (goodIn_of _ (by decide +kernel)) ggX8_buy_X8_isHouse
set_option maxRecDepth 20000 in
theorem ggX8_buy_X8_yearNow : GoodIn wsX8_buy wsX8_yearNow := goodIn_r _ [20, 1, 67, 68, 69, 70, 71, 72, 73, 74, 75, 76, 77, 78, 79, 80] (by decide +kernel) (by decide +kernel)
set_option maxRecDepth 20000 in
theorem gX8_buy_X8_yearNow : GoodIn wsX8_buy (wsV RX8 145 RX8 yX8_yearNow wsX8_yearNow) := goodIn_app (goodIn_of _ (by decide +kernel)) ggX8_buy_X8_yearNow
set_option maxRecDepth 20000 in
theorem ggX8_buy_X8_daysOwedYet : GoodIn wsX8_buy wsX8_daysOwedYet := goodIn_r _ [24, 25, 26, 27, 28, 29, 30, 31, 11, 32, 6, 33, 34, 35, 36, 37, 38, 39, 40, 41, 42, 43, 44, 45, 46, 47, 48, 49, 50, 51, 52, 53, 54, 55, 56, 57, 58, 59, 60, 61, 62, 63, 64, 65, 66, 67, 68, 69, 70, 71, 72, 73, 74, 75, 76, 77, 78, 79, 80, 81, 82, 83, 84, 85, 86, 87, 88, 94, 95, 96, 97, 98, 99, 100, 101, 89, 90, 91, 92, 93] (by decide +kernel) (by decide +kernel)
set_option maxRecDepth 20000 in
theorem gX8_buy_X8_daysOwedYet : GoodIn wsX8_buy (wsV RX8 149 RX8 yX8_daysOwedYet wsX8_daysOwedYet) := goodIn_app (goodIn_of _ (by decide +kernel)) ggX8_buy_X8_daysOwedYet
set_option maxRecDepth 20000 in
theorem ggX8_buy_X2_ofYear : GoodIn wsX8_buy wsX2_ofYear := goodIn_r _ [45, 46, 47, 48, 49, 99, 100, 101, 89, 90, 91, 92, 93] (by decide +kernel) (by decide +kernel)
set_option maxRecDepth 20000 in
theorem gX8_buy_X2_ofYear : GoodIn wsX8_buy (wsV RX8 182 RX2 yX2_ofYear wsX2_ofYear) := goodIn_app (goodIn_of _ (by decide +kernel)) ggX8_buy_X2_ofYear
theorem dX8_buy_0 : decode cX8_buy 0 = .ok (.aload_n 0, 1) := by decide +kernel
theorem dX8_buy_1 : decode cX8_buy 1 = .ok (.iload_n 1, 1) := by decide +kernel
theorem dX8_buy_2 : decode cX8_buy 2 = .ok (.invokevirtual 117, 3) := by decide +kernel
theorem dX8_buy_5 : decode cX8_buy 5 = .ok (.ifCond .eq 13, 3) := by decide +kernel
theorem dX8_buy_8 : decode cX8_buy 8 = .ok (.aload_n 0, 1) := by decide +kernel
theorem dX8_buy_9 : decode cX8_buy 9 = .ok (.getfield 45, 3) := by decide +kernel
theorem dX8_buy_12 : decode cX8_buy 12 = .ok (.sipush 1040, 3) := by decide +kernel
theorem dX8_buy_15 : decode cX8_buy 15 = .ok (.if_icmp .lt 5, 3) := by decide +kernel
theorem dX8_buy_18 : decode cX8_buy 18 = .ok (.iconst (-1), 1) := by decide +kernel
theorem dX8_buy_19 : decode cX8_buy 19 = .ok (.ireturn, 1) := by decide +kernel
theorem dX8_buy_20 : decode cX8_buy 20 = .ok (.aload_n 0, 1) := by decide +kernel
theorem dX8_buy_21 : decode cX8_buy 21 = .ok (.invokevirtual 145, 3) := by decide +kernel
theorem dX8_buy_24 : decode cX8_buy 24 = .ok (.istore_n 3, 1) := by decide +kernel
theorem dX8_buy_25 : decode cX8_buy 25 = .ok (.iload_n 2, 1) := by decide +kernel
theorem dX8_buy_26 : decode cX8_buy 26 = .ok (.iconst 1, 1) := by decide +kernel
theorem dX8_buy_27 : decode cX8_buy 27 = .ok (.if_icmp .lt 18, 3) := by decide +kernel
theorem dX8_buy_30 : decode cX8_buy 30 = .ok (.iload_n 2, 1) := by decide +kernel
theorem dX8_buy_31 : decode cX8_buy 31 = .ok (.aload_n 0, 1) := by decide +kernel
theorem dX8_buy_32 : decode cX8_buy 32 = .ok (.aload_n 0, 1) := by decide +kernel
theorem dX8_buy_33 : decode cX8_buy 33 = .ok (.getfield 23, 3) := by decide +kernel
theorem dX8_buy_36 : decode cX8_buy 36 = .ok (.iload_n 1, 1) := by decide +kernel
theorem dX8_buy_37 : decode cX8_buy 37 = .ok (.aaload, 1) := by decide +kernel
theorem dX8_buy_38 : decode cX8_buy 38 = .ok (.iload_n 3, 1) := by decide +kernel
theorem dX8_buy_39 : decode cX8_buy 39 = .ok (.invokevirtual 149, 3) := by decide +kernel
theorem dX8_buy_42 : decode cX8_buy 42 = .ok (.if_icmp .le 5, 3) := by decide +kernel
theorem dX8_buy_45 : decode cX8_buy 45 = .ok (.iconst (-1), 1) := by decide +kernel
theorem dX8_buy_46 : decode cX8_buy 46 = .ok (.ireturn, 1) := by decide +kernel
theorem dX8_buy_47 : decode cX8_buy 47 = .ok (.aload_n 0, 1) := by decide +kernel
theorem dX8_buy_48 : decode cX8_buy 48 = .ok (.getfield 23, 3) := by decide +kernel
theorem dX8_buy_51 : decode cX8_buy 51 = .ok (.iload_n 1, 1) := by decide +kernel
theorem dX8_buy_52 : decode cX8_buy 52 = .ok (.aaload, 1) := by decide +kernel
theorem dX8_buy_53 : decode cX8_buy 53 = .ok (.getfield 179, 3) := by decide +kernel
theorem dX8_buy_56 : decode cX8_buy 56 = .ok (.iload_n 3, 1) := by decide +kernel
theorem dX8_buy_57 : decode cX8_buy 57 = .ok (.dup2, 1) := by decide +kernel
theorem dX8_buy_58 : decode cX8_buy 58 = .ok (.iaload, 1) := by decide +kernel
theorem dX8_buy_59 : decode cX8_buy 59 = .ok (.iload_n 2, 1) := by decide +kernel
theorem dX8_buy_60 : decode cX8_buy 60 = .ok (.iadd, 1) := by decide +kernel
theorem dX8_buy_61 : decode cX8_buy 61 = .ok (.iastore, 1) := by decide +kernel
theorem dX8_buy_62 : decode cX8_buy 62 = .ok (.aload_n 0, 1) := by decide +kernel
theorem dX8_buy_63 : decode cX8_buy 63 = .ok (.dup, 1) := by decide +kernel
theorem dX8_buy_64 : decode cX8_buy 64 = .ok (.getfield 64, 3) := by decide +kernel
theorem dX8_buy_67 : decode cX8_buy 67 = .ok (.iload_n 2, 1) := by decide +kernel
theorem dX8_buy_68 : decode cX8_buy 68 = .ok (.iadd, 1) := by decide +kernel
theorem dX8_buy_69 : decode cX8_buy 69 = .ok (.putfield 64, 3) := by decide +kernel
theorem dX8_buy_72 : decode cX8_buy 72 = .ok (.aload_n 0, 1) := by decide +kernel
theorem dX8_buy_73 : decode cX8_buy 73 = .ok (.dup, 1) := by decide +kernel
theorem dX8_buy_74 : decode cX8_buy 74 = .ok (.getfield 55, 3) := by decide +kernel
theorem dX8_buy_77 : decode cX8_buy 77 = .ok (.iload_n 2, 1) := by decide +kernel
theorem dX8_buy_78 : decode cX8_buy 78 = .ok (.aload_n 0, 1) := by decide +kernel
theorem dX8_buy_79 : decode cX8_buy 79 = .ok (.getfield 30, 3) := by decide +kernel
theorem dX8_buy_82 : decode cX8_buy 82 = .ok (.iload_n 3, 1) := by decide +kernel
theorem dX8_buy_83 : decode cX8_buy 83 = .ok (.invokevirtual 182, 3) := by decide +kernel
theorem dX8_buy_86 : decode cX8_buy 86 = .ok (.getfield 186, 3) := by decide +kernel
theorem dX8_buy_89 : decode cX8_buy 89 = .ok (.imul, 1) := by decide +kernel
theorem dX8_buy_90 : decode cX8_buy 90 = .ok (.iadd, 1) := by decide +kernel
theorem dX8_buy_91 : decode cX8_buy 91 = .ok (.putfield 55, 3) := by decide +kernel
theorem dX8_buy_94 : decode cX8_buy 94 = .ok (.aload_n 0, 1) := by decide +kernel
theorem dX8_buy_95 : decode cX8_buy 95 = .ok (.getfield 55, 3) := by decide +kernel
theorem dX8_buy_98 : decode cX8_buy 98 = .ok (.ireturn, 1) := by decide +kernel
set_option maxRecDepth 20000 in
theorem ggX8_hire_X8_isRod : GoodIn wsX8_hire wsX8_isRod := goodIn_r _ [9, 10, 11, 8, 12] (by decide +kernel) (by decide +kernel)
set_option maxRecDepth 20000 in
theorem gX8_hire_X8_isRod : GoodIn wsX8_hire (va_wsS RX8 83 yX8_isRod wsX8_isRod) := goodIn_app (goodIn_of _ (by decide +kernel)) ggX8_hire_X8_isRod
set_option maxRecDepth 20000 in
theorem ggX8_hire_X8_yearNow : GoodIn wsX8_hire wsX8_yearNow := goodIn_r _ [16, 17, 43, 44, 45, 46, 47, 48, 49, 50, 51, 52, 53, 54, 55, 56] (by decide +kernel) (by decide +kernel)
set_option maxRecDepth 20000 in
theorem gX8_hire_X8_yearNow : GoodIn wsX8_hire (wsV RX8 145 RX8 yX8_yearNow wsX8_yearNow) := goodIn_app (goodIn_of _ (by decide +kernel)) ggX8_hire_X8_yearNow
set_option maxRecDepth 20000 in
theorem ggX8_hire_X2_ofYear : GoodIn wsX8_hire wsX2_ofYear := goodIn_r _ [22, 23, 24, 25, 26, 62, 63, 64, 57, 58, 59, 60, 61] (by decide +kernel) (by decide +kernel)
set_option maxRecDepth 20000 in
theorem gX8_hire_X2_ofYear : GoodIn wsX8_hire (wsV RX8 182 RX2 yX2_ofYear wsX2_ofYear) := goodIn_app (goodIn_of _ (by decide +kernel)) ggX8_hire_X2_ofYear
set_option maxRecDepth 20000 in
theorem ggX8_hire_X4_raise : GoodIn wsX8_hire wsX4_raise := goodIn_r _ [31, 32, 33, 34, 35, 36, 37, 38, 39, 40, 30, 41, 42, 65, 66, 67, 68, 69] (by decide +kernel) (by decide +kernel)
set_option maxRecDepth 20000 in
theorem gX8_hire_X4_raise : GoodIn wsX8_hire (wsV RX8 175 RX4 yX4_raise wsX4_raise) := goodIn_app (goodIn_of _ (by decide +kernel)) ggX8_hire_X4_raise
theorem dX8_hire_0 : decode cX8_hire 0 = .ok (.iload_n 1, 1) := by decide +kernel
theorem dX8_hire_1 : decode cX8_hire 1 = .ok (.invokestatic 83, 3) := by decide +kernel
theorem dX8_hire_4 : decode cX8_hire 4 = .ok (.ifCond .eq 15, 3) := by decide +kernel
theorem dX8_hire_7 : decode cX8_hire 7 = .ok (.iload_n 2, 1) := by decide +kernel
theorem dX8_hire_8 : decode cX8_hire 8 = .ok (.iconst 1, 1) := by decide +kernel
theorem dX8_hire_9 : decode cX8_hire 9 = .ok (.if_icmp .lt 10, 3) := by decide +kernel
theorem dX8_hire_12 : decode cX8_hire 12 = .ok (.iload_n 2, 1) := by decide +kernel
theorem dX8_hire_13 : decode cX8_hire 13 = .ok (.sipush 1000, 3) := by decide +kernel
theorem dX8_hire_16 : decode cX8_hire 16 = .ok (.if_icmp .le 5, 3) := by decide +kernel
theorem dX8_hire_19 : decode cX8_hire 19 = .ok (.iconst (-1), 1) := by decide +kernel
theorem dX8_hire_20 : decode cX8_hire 20 = .ok (.ireturn, 1) := by decide +kernel
theorem dX8_hire_21 : decode cX8_hire 21 = .ok (.aload_n 0, 1) := by decide +kernel
theorem dX8_hire_22 : decode cX8_hire 22 = .ok (.getfield 30, 3) := by decide +kernel
theorem dX8_hire_25 : decode cX8_hire 25 = .ok (.aload_n 0, 1) := by decide +kernel
theorem dX8_hire_26 : decode cX8_hire 26 = .ok (.invokevirtual 145, 3) := by decide +kernel
theorem dX8_hire_29 : decode cX8_hire 29 = .ok (.invokevirtual 182, 3) := by decide +kernel
end
section
theorem dX8_hire_32 : decode cX8_hire 32 = .ok (.getfield 186, 3) := by decide +kernel
theorem dX8_hire_35 : decode cX8_hire 35 = .ok (.istore_n 3, 1) := by decide +kernel
theorem dX8_hire_36 : decode cX8_hire 36 = .ok (.iload_n 3, 1) := by decide +kernel
theorem dX8_hire_37 : decode cX8_hire 37 = .ok (.ifCond .eq 13, 3) := by decide +kernel
theorem dX8_hire_40 : decode cX8_hire 40 = .ok (.iload_n 2, 1) := by decide +kernel
theorem dX8_hire_41 : decode cX8_hire 41 = .ok (.iload_n 3, 1) := by decide +kernel
theorem dX8_hire_42 : decode cX8_hire 42 = .ok (.imul, 1) := by decide +kernel
theorem dX8_hire_43 : decode cX8_hire 43 = .ok (.aload_n 0, 1) := by decide +kernel
theorem dX8_hire_44 : decode cX8_hire 44 = .ok (.getfield 55, 3) := by decide +kernel
theorem dX8_hire_47 : decode cX8_hire 47 = .ok (.if_icmp .le 5, 3) := by decide +kernel
theorem dX8_hire_50 : decode cX8_hire 50 = .ok (.iconst (-1), 1) := by decide +kernel
theorem dX8_hire_51 : decode cX8_hire 51 = .ok (.ireturn, 1) := by decide +kernel
theorem dX8_hire_52 : decode cX8_hire 52 = .ok (.aload_n 0, 1) := by decide +kernel
theorem dX8_hire_53 : decode cX8_hire 53 = .ok (.dup, 1) := by decide +kernel
theorem dX8_hire_54 : decode cX8_hire 54 = .ok (.getfield 55, 3) := by decide +kernel
theorem dX8_hire_57 : decode cX8_hire 57 = .ok (.iload_n 2, 1) := by decide +kernel
theorem dX8_hire_58 : decode cX8_hire 58 = .ok (.iload_n 3, 1) := by decide +kernel
theorem dX8_hire_59 : decode cX8_hire 59 = .ok (.imul, 1) := by decide +kernel
theorem dX8_hire_60 : decode cX8_hire 60 = .ok (.isub, 1) := by decide +kernel
theorem dX8_hire_61 : decode cX8_hire 61 = .ok (.putfield 55, 3) := by decide +kernel
theorem dX8_hire_64 : decode cX8_hire 64 = .ok (.aload_n 0, 1) := by decide +kernel
theorem dX8_hire_65 : decode cX8_hire 65 = .ok (.getfield 17, 3) := by decide +kernel
theorem dX8_hire_68 : decode cX8_hire 68 = .ok (.iload_n 1, 1) := by decide +kernel
theorem dX8_hire_69 : decode cX8_hire 69 = .ok (.aaload, 1) := by decide +kernel
theorem dX8_hire_70 : decode cX8_hire 70 = .ok (.iload_n 2, 1) := by decide +kernel
theorem dX8_hire_71 : decode cX8_hire 71 = .ok (.invokevirtual 175, 3) := by decide +kernel
theorem dX8_hire_74 : decode cX8_hire 74 = .ok (.aload_n 0, 1) := by decide +kernel
theorem dX8_hire_75 : decode cX8_hire 75 = .ok (.dup, 1) := by decide +kernel
theorem dX8_hire_76 : decode cX8_hire 76 = .ok (.getfield 67, 3) := by decide +kernel
theorem dX8_hire_79 : decode cX8_hire 79 = .ok (.iload_n 2, 1) := by decide +kernel
theorem dX8_hire_80 : decode cX8_hire 80 = .ok (.iadd, 1) := by decide +kernel
theorem dX8_hire_81 : decode cX8_hire 81 = .ok (.putfield 67, 3) := by decide +kernel
theorem dX8_hire_84 : decode cX8_hire 84 = .ok (.aload_n 0, 1) := by decide +kernel
theorem dX8_hire_85 : decode cX8_hire 85 = .ok (.getfield 55, 3) := by decide +kernel
theorem dX8_hire_88 : decode cX8_hire 88 = .ok (.ireturn, 1) := by decide +kernel
set_option maxRecDepth 20000 in
theorem ggX8_river_X8_isWithin : GoodIn wsX8_river wsX8_isWithin := goodIn_r _ [6] (by decide +kernel) (by decide +kernel)
set_option maxRecDepth 20000 in
theorem gX8_river_X8_isWithin : GoodIn wsX8_river (va_wsS RX8 76 yX8_isWithin wsX8_isWithin) := goodIn_app (goodIn_of _ (by decide +kernel)) ggX8_river_X8_isWithin
theorem dX8_river_0 : decode cX8_river 0 = .ok (.iload_n 1, 1) := by decide +kernel
theorem dX8_river_1 : decode cX8_river 1 = .ok (.aload_n 0, 1) := by decide +kernel
theorem dX8_river_2 : decode cX8_river 2 = .ok (.getfield 45, 3) := by decide +kernel
theorem dX8_river_5 : decode cX8_river 5 = .ok (.if_icmp .lt 25, 3) := by decide +kernel
theorem dX8_river_8 : decode cX8_river 8 = .ok (.iload_n 2, 1) := by decide +kernel
theorem dX8_river_9 : decode cX8_river 9 = .ok (.iload_n 1, 1) := by decide +kernel
theorem dX8_river_10 : decode cX8_river 10 = .ok (.if_icmp .lt 20, 3) := by decide +kernel
theorem dX8_river_13 : decode cX8_river 13 = .ok (.iload_n 2, 1) := by decide +kernel
theorem dX8_river_14 : decode cX8_river 14 = .ok (.sipush 1040, 3) := by decide +kernel
theorem dX8_river_17 : decode cX8_river 17 = .ok (.if_icmp .ge 13, 3) := by decide +kernel
theorem dX8_river_20 : decode cX8_river 20 = .ok (.iload_n 3, 1) := by decide +kernel
theorem dX8_river_21 : decode cX8_river 21 = .ok (.sipush 3000, 3) := by decide +kernel
theorem dX8_river_24 : decode cX8_river 24 = .ok (.invokestatic 76, 3) := by decide +kernel
theorem dX8_river_27 : decode cX8_river 27 = .ok (.ifCond .ne 5, 3) := by decide +kernel
theorem dX8_river_30 : decode cX8_river 30 = .ok (.iconst 0, 1) := by decide +kernel
theorem dX8_river_31 : decode cX8_river 31 = .ok (.ireturn, 1) := by decide +kernel
theorem dX8_river_32 : decode cX8_river 32 = .ok (.iload_n 1, 1) := by decide +kernel
theorem dX8_river_33 : decode cX8_river 33 = .ok (.istore 4, 2) := by decide +kernel
theorem dX8_river_35 : decode cX8_river 35 = .ok (.iload 4, 2) := by decide +kernel
theorem dX8_river_37 : decode cX8_river 37 = .ok (.iload_n 2, 1) := by decide +kernel
theorem dX8_river_38 : decode cX8_river 38 = .ok (.if_icmp .gt 17, 3) := by decide +kernel
theorem dX8_river_41 : decode cX8_river 41 = .ok (.aload_n 0, 1) := by decide +kernel
theorem dX8_river_42 : decode cX8_river 42 = .ok (.getfield 41, 3) := by decide +kernel
theorem dX8_river_45 : decode cX8_river 45 = .ok (.iload 4, 2) := by decide +kernel
theorem dX8_river_47 : decode cX8_river 47 = .ok (.iload_n 3, 1) := by decide +kernel
theorem dX8_river_48 : decode cX8_river 48 = .ok (.iastore, 1) := by decide +kernel
theorem dX8_river_49 : decode cX8_river 49 = .ok (.iinc 4 1, 3) := by decide +kernel
theorem dX8_river_52 : decode cX8_river 52 = .ok (.goto (-17), 3) := by decide +kernel
theorem dX8_river_55 : decode cX8_river 55 = .ok (.iconst 1, 1) := by decide +kernel
theorem dX8_river_56 : decode cX8_river 56 = .ok (.ireturn, 1) := by decide +kernel
set_option maxRecDepth 20000 in
theorem ggX8_go_X8_isWithin : GoodIn wsX8_go wsX8_isWithin := goodIn_r _ [6] (by decide +kernel) (by decide +kernel)
set_option maxRecDepth 20000 in
theorem gX8_go_X8_isWithin : GoodIn wsX8_go (va_wsS RX8 76 yX8_isWithin wsX8_isWithin) := goodIn_app (goodIn_of _ (by decide +kernel)) ggX8_go_X8_isWithin
set_option maxRecDepth 20000 in
theorem ggX8_go_X8_endWeek : GoodIn wsX8_go wsX8_endWeek := goodIn_r _ [10, 11, 12, 13, 14, 15, 16, 17, 18, 19, 20, 21, 22, 23, 24, 25, 26, 27, 28, 29, 30, 31, 32, 33, 34, 35, 36, 37, 38, 39] (by decide +kernel) (by decide +kernel)
set_option maxRecDepth 20000 in
theorem gX8_go_X8_endWeek : GoodIn wsX8_go (wsV RX8 189 RX8 yX8_endWeek wsX8_endWeek) := goodIn_app (goodIn_of _ (by decide +kernel)) ggX8_go_X8_endWeek
theorem dX8_go_0 : decode cX8_go 0 = .ok (.iload_n 1, 1) := by decide +kernel
theorem dX8_go_1 : decode cX8_go 1 = .ok (.bipush 104, 2) := by decide +kernel
theorem dX8_go_3 : decode cX8_go 3 = .ok (.invokestatic 76, 3) := by decide +kernel
theorem dX8_go_6 : decode cX8_go 6 = .ok (.ifCond .ne 5, 3) := by decide +kernel
theorem dX8_go_9 : decode cX8_go 9 = .ok (.iconst (-1), 1) := by decide +kernel
theorem dX8_go_10 : decode cX8_go 10 = .ok (.ireturn, 1) := by decide +kernel
theorem dX8_go_11 : decode cX8_go 11 = .ok (.iconst 0, 1) := by decide +kernel
theorem dX8_go_12 : decode cX8_go 12 = .ok (.istore_n 2, 1) := by decide +kernel
theorem dX8_go_13 : decode cX8_go 13 = .ok (.iload_n 2, 1) := by decide +kernel
theorem dX8_go_14 : decode cX8_go 14 = .ok (.iload_n 1, 1) := by decide +kernel
theorem dX8_go_15 : decode cX8_go 15 = .ok (.if_icmp .ge 42, 3) := by decide +kernel
theorem dX8_go_18 : decode cX8_go 18 = .ok (.aload_n 0, 1) := by decide +kernel
theorem dX8_go_19 : decode cX8_go 19 = .ok (.getfield 45, 3) := by decide +kernel
theorem dX8_go_22 : decode cX8_go 22 = .ok (.sipush 1040, 3) := by decide +kernel
theorem dX8_go_25 : decode cX8_go 25 = .ok (.if_icmp .ge 32, 3) := by decide +kernel
theorem dX8_go_28 : decode cX8_go 28 = .ok (.aload_n 0, 1) := by decide +kernel
theorem dX8_go_29 : decode cX8_go 29 = .ok (.aload_n 0, 1) := by decide +kernel
theorem dX8_go_30 : decode cX8_go 30 = .ok (.getfield 41, 3) := by decide +kernel
theorem dX8_go_33 : decode cX8_go 33 = .ok (.aload_n 0, 1) := by decide +kernel
theorem dX8_go_34 : decode cX8_go 34 = .ok (.getfield 45, 3) := by decide +kernel
theorem dX8_go_37 : decode cX8_go 37 = .ok (.iaload, 1) := by decide +kernel
theorem dX8_go_38 : decode cX8_go 38 = .ok (.invokevirtual 189, 3) := by decide +kernel
theorem dX8_go_41 : decode cX8_go 41 = .ok (.aload_n 0, 1) := by decide +kernel
theorem dX8_go_42 : decode cX8_go 42 = .ok (.dup, 1) := by decide +kernel
theorem dX8_go_43 : decode cX8_go 43 = .ok (.getfield 45, 3) := by decide +kernel
theorem dX8_go_46 : decode cX8_go 46 = .ok (.iconst 1, 1) := by decide +kernel
theorem dX8_go_47 : decode cX8_go 47 = .ok (.iadd, 1) := by decide +kernel
theorem dX8_go_48 : decode cX8_go 48 = .ok (.putfield 45, 3) := by decide +kernel
theorem dX8_go_51 : decode cX8_go 51 = .ok (.iinc 2 1, 3) := by decide +kernel
theorem dX8_go_54 : decode cX8_go 54 = .ok (.goto (-41), 3) := by decide +kernel
theorem dX8_go_57 : decode cX8_go 57 = .ok (.aload_n 0, 1) := by decide +kernel
theorem dX8_go_58 : decode cX8_go 58 = .ok (.getfield 45, 3) := by decide +kernel
theorem dX8_go_61 : decode cX8_go 61 = .ok (.ireturn, 1) := by decide +kernel
set_option maxRecDepth 20000 in
theorem ggX8_told_X8_isHouse : GoodIn wsX8_told wsX8_isHouse := goodIn_r _ [11, 12, 13, 14, 10, 15, 72, 73, 74, 75, 76, 77, 78, 79, 80, 81, 82, 83, 84, 85] (by decide +kernel) (by decide +kernel)
set_option maxRecDepth 20000 in
theorem gX8_told_X8_isHouse : GoodIn wsX8_told (wsV RX8 117 RX8 yX8_isHouse wsX8_isHouse) := goodIn_app (goodIn_of _ (by decide +kernel)) ggX8_told_X8_isHouse
set_option maxRecDepth 20000 in
theorem ggX8_told_X8_isYearSoFar : GoodIn wsX8_told wsX8_isYearSoFar := goodIn_r _ [19, 20, 21, 22, 10, 23, 24, 13, 14, 15, 72, 73, 74, 75, 76, 77, 78, 79, 80, 81, 82, 83, 84, 85] (by decide +kernel) (by decide +kernel)
set_option maxRecDepth 20000 in
theorem gX8_told_X8_isYearSoFar : GoodIn wsX8_told (wsV RX8 126 RX8 yX8_isYearSoFar wsX8_isYearSoFar) := goodIn_app (goodIn_of _ (by decide +kernel)) ggX8_told_X8_isYearSoFar
set_option maxRecDepth 20000 in
theorem ggX8_told_X8_daysOwed : GoodIn wsX8_told wsX8_daysOwed := goodIn_r _ [28, 29, 30, 31, 32, 33, 34, 35, 36, 37, 38, 39, 40, 41, 42, 43, 44, 45, 46, 47, 48, 49, 50, 51, 52, 53, 54, 55, 56, 72, 73, 74, 75, 76, 77, 78, 79, 80, 81, 82, 83, 84, 85, 86, 87, 88, 89, 90, 91, 92, 93, 94, 95, 96, 97, 98, 99, 100, 101, 102, 103, 104, 105, 106] (by decide +kernel) (by decide +kernel)
set_option maxRecDepth 20000 in
theorem gX8_told_X8_daysOwed : GoodIn wsX8_told (wsV RX8 141 RX8 yX8_daysOwed wsX8_daysOwed) := goodIn_app (goodIn_of _ (by decide +kernel)) ggX8_told_X8_daysOwed
set_option maxRecDepth 20000 in
theorem ggX8_told_X8_daysOwedYet : GoodIn wsX8_told wsX8_daysOwedYet := goodIn_r _ [60, 61, 62, 63, 64, 25, 26, 27, 10, 28, 29, 30, 31, 32, 33, 34, 35, 36, 37, 38, 39, 40, 41, 42, 43, 44, 45, 46, 47, 48, 49, 50, 51, 52, 53, 54, 55, 56, 65, 66, 67, 68, 69, 70, 71, 72, 73, 74, 75, 76, 77, 78, 79, 80, 81, 82, 83, 84, 85, 86, 87, 88, 89, 90, 91, 92, 93, 94, 95, 96, 97, 98, 99, 100, 101, 102, 103, 104, 105, 106] (by decide +kernel) (by decide +kernel)
set_option maxRecDepth 20000 in
theorem gX8_told_X8_daysOwedYet : GoodIn wsX8_told (wsV RX8 149 RX8 yX8_daysOwedYet wsX8_daysOwedYet) := goodIn_app (goodIn_of _ (by decide +kernel)) ggX8_told_X8_daysOwedYet
theorem dX8_told_0 : decode cX8_told 0 = .ok (.aload_n 0, 1) := by decide +kernel
theorem dX8_told_1 : decode cX8_told 1 = .ok (.iload_n 1, 1) := by decide +kernel
theorem dX8_told_2 : decode cX8_told 2 = .ok (.invokevirtual 117, 3) := by decide +kernel
theorem dX8_told_5 : decode cX8_told 5 = .ok (.ifCond .eq 11, 3) := by decide +kernel
theorem dX8_told_8 : decode cX8_told 8 = .ok (.aload_n 0, 1) := by decide +kernel
theorem dX8_told_9 : decode cX8_told 9 = .ok (.iload_n 2, 1) := by decide +kernel
theorem dX8_told_10 : decode cX8_told 10 = .ok (.invokevirtual 126, 3) := by decide +kernel
theorem dX8_told_13 : decode cX8_told 13 = .ok (.ifCond .ne 5, 3) := by decide +kernel
theorem dX8_told_16 : decode cX8_told 16 = .ok (.iconst (-1), 1) := by decide +kernel
theorem dX8_told_17 : decode cX8_told 17 = .ok (.ireturn, 1) := by decide +kernel
theorem dX8_told_18 : decode cX8_told 18 = .ok (.aload_n 0, 1) := by decide +kernel
theorem dX8_told_19 : decode cX8_told 19 = .ok (.getfield 23, 3) := by decide +kernel
theorem dX8_told_22 : decode cX8_told 22 = .ok (.iload_n 1, 1) := by decide +kernel
theorem dX8_told_23 : decode cX8_told 23 = .ok (.aaload, 1) := by decide +kernel
theorem dX8_told_24 : decode cX8_told 24 = .ok (.astore 4, 2) := by decide +kernel
theorem dX8_told_26 : decode cX8_told 26 = .ok (.iload_n 3, 1) := by decide +kernel
theorem dX8_told_27 : decode cX8_told 27 = .ok (.tableswitch 97 0 6 #[41, 49, 57, 65, 73, 81, 89], 41) := by decide +kernel
theorem dX8_told_68 : decode cX8_told 68 = .ok (.aload_n 0, 1) := by decide +kernel
theorem dX8_told_69 : decode cX8_told 69 = .ok (.aload 4, 2) := by decide +kernel
theorem dX8_told_71 : decode cX8_told 71 = .ok (.iload_n 2, 1) := by decide +kernel
theorem dX8_told_72 : decode cX8_told 72 = .ok (.invokevirtual 141, 3) := by decide +kernel
theorem dX8_told_75 : decode cX8_told 75 = .ok (.ireturn, 1) := by decide +kernel
theorem dX8_told_76 : decode cX8_told 76 = .ok (.aload 4, 2) := by decide +kernel
theorem dX8_told_78 : decode cX8_told 78 = .ok (.getfield 152, 3) := by decide +kernel
theorem dX8_told_81 : decode cX8_told 81 = .ok (.iload_n 2, 1) := by decide +kernel
theorem dX8_told_82 : decode cX8_told 82 = .ok (.iaload, 1) := by decide +kernel
theorem dX8_told_83 : decode cX8_told 83 = .ok (.ireturn, 1) := by decide +kernel
theorem dX8_told_84 : decode cX8_told 84 = .ok (.aload 4, 2) := by decide +kernel
theorem dX8_told_86 : decode cX8_told 86 = .ok (.getfield 162, 3) := by decide +kernel
theorem dX8_told_89 : decode cX8_told 89 = .ok (.iload_n 2, 1) := by decide +kernel
theorem dX8_told_90 : decode cX8_told 90 = .ok (.iaload, 1) := by decide +kernel
theorem dX8_told_91 : decode cX8_told 91 = .ok (.ireturn, 1) := by decide +kernel
theorem dX8_told_92 : decode cX8_told 92 = .ok (.aload 4, 2) := by decide +kernel
theorem dX8_told_94 : decode cX8_told 94 = .ok (.getfield 179, 3) := by decide +kernel
theorem dX8_told_97 : decode cX8_told 97 = .ok (.iload_n 2, 1) := by decide +kernel
theorem dX8_told_98 : decode cX8_told 98 = .ok (.iaload, 1) := by decide +kernel
theorem dX8_told_99 : decode cX8_told 99 = .ok (.ireturn, 1) := by decide +kernel
theorem dX8_told_100 : decode cX8_told 100 = .ok (.aload_n 0, 1) := by decide +kernel
theorem dX8_told_101 : decode cX8_told 101 = .ok (.aload 4, 2) := by decide +kernel
theorem dX8_told_103 : decode cX8_told 103 = .ok (.iload_n 2, 1) := by decide +kernel
theorem dX8_told_104 : decode cX8_told 104 = .ok (.invokevirtual 149, 3) := by decide +kernel
theorem dX8_told_107 : decode cX8_told 107 = .ok (.ireturn, 1) := by decide +kernel
theorem dX8_told_108 : decode cX8_told 108 = .ok (.aload 4, 2) := by decide +kernel
theorem dX8_told_110 : decode cX8_told 110 = .ok (.getfield 159, 3) := by decide +kernel
theorem dX8_told_113 : decode cX8_told 113 = .ok (.iload_n 2, 1) := by decide +kernel
theorem dX8_told_114 : decode cX8_told 114 = .ok (.iaload, 1) := by decide +kernel
theorem dX8_told_115 : decode cX8_told 115 = .ok (.ireturn, 1) := by decide +kernel
theorem dX8_told_116 : decode cX8_told 116 = .ok (.aload 4, 2) := by decide +kernel
theorem dX8_told_118 : decode cX8_told 118 = .ok (.getfield 165, 3) := by decide +kernel
theorem dX8_told_121 : decode cX8_told 121 = .ok (.iload_n 2, 1) := by decide +kernel
theorem dX8_told_122 : decode cX8_told 122 = .ok (.iaload, 1) := by decide +kernel
theorem dX8_told_123 : decode cX8_told 123 = .ok (.ireturn, 1) := by decide +kernel
theorem dX8_told_124 : decode cX8_told 124 = .ok (.iconst (-1), 1) := by decide +kernel
theorem dX8_told_125 : decode cX8_told 125 = .ok (.ireturn, 1) := by decide +kernel
set_option maxRecDepth 20000 in
theorem ggX8_paper_X8_firstPaperWeek : GoodIn wsX8_paper wsX8_firstPaperWeek := goodIn_r _ [5, 6, 7, 8, 9, 10, 11, 12, 4, 13, 14, 15, 16, 17, 18, 19, 20, 21, 22, 23, 24, 25, 26, 27, 28, 29, 30, 31, 32, 33, 34, 35, 36, 37, 38, 39, 40, 41, 42, 43, 44, 45, 46, 47, 48, 49, 50, 51, 52, 53, 54, 55, 56, 57, 58, 59, 60, 61, 62, 63, 64, 65] (by decide +kernel) (by decide +kernel)
set_option maxRecDepth 20000 in
theorem gX8_paper_X8_firstPaperWeek : GoodIn wsX8_paper (wsV RX8 192 RX8 yX8_firstPaperWeek wsX8_firstPaperWeek) := goodIn_app (goodIn_of _ (by decide +kernel)) ggX8_paper_X8_firstPaperWeek
theorem dX8_paper_0 : decode cX8_paper 0 = .ok (.aload_n 0, 1) := by decide +kernel
theorem dX8_paper_1 : decode cX8_paper 1 = .ok (.iload_n 1, 1) := by decide +kernel
theorem dX8_paper_2 : decode cX8_paper 2 = .ok (.invokevirtual 192, 3) := by decide +kernel
theorem dX8_paper_5 : decode cX8_paper 5 = .ok (.iconst (-1), 1) := by decide +kernel
theorem dX8_paper_6 : decode cX8_paper 6 = .ok (.if_icmp .eq 7, 3) := by decide +kernel
theorem dX8_paper_9 : decode cX8_paper 9 = .ok (.iconst 1, 1) := by decide +kernel
theorem dX8_paper_10 : decode cX8_paper 10 = .ok (.goto 4, 3) := by decide +kernel
theorem dX8_paper_13 : decode cX8_paper 13 = .ok (.iconst 0, 1) := by decide +kernel
theorem dX8_paper_14 : decode cX8_paper 14 = .ok (.ireturn, 1) := by decide +kernel
set_option maxRecDepth 20000 in
theorem ggX8_paperWeek_X8_firstPaperWeek : GoodIn wsX8_paperWeek wsX8_firstPaperWeek := goodIn_r _ [5, 6, 7, 8, 9, 10, 11, 12, 4, 13, 14, 15, 16, 17, 18, 19, 20, 21, 22, 23, 24, 25, 26, 27, 28, 29, 30, 31, 32, 33, 34, 35, 36, 37, 38, 39, 40, 41, 42, 43, 44, 45, 46, 47, 48, 49, 50, 51, 52, 53, 54, 55, 56, 57, 58, 59, 60, 61, 62, 63, 64, 65] (by decide +kernel) (by decide +kernel)
set_option maxRecDepth 20000 in
theorem gX8_paperWeek_X8_firstPaperWeek : GoodIn wsX8_paperWeek (wsV RX8 192 RX8 yX8_firstPaperWeek wsX8_firstPaperWeek) := goodIn_app (goodIn_of _ (by decide +kernel)) ggX8_paperWeek_X8_firstPaperWeek
theorem dX8_paperWeek_0 : decode cX8_paperWeek 0 = .ok (.aload_n 0, 1) := by decide +kernel
theorem dX8_paperWeek_1 : decode cX8_paperWeek 1 = .ok (.iload_n 1, 1) := by decide +kernel
theorem dX8_paperWeek_2 : decode cX8_paperWeek 2 = .ok (.invokevirtual 192, 3) := by decide +kernel
theorem dX8_paperWeek_5 : decode cX8_paperWeek 5 = .ok (.ireturn, 1) := by decide +kernel
set_option maxRecDepth 20000 in
theorem ggX8_bank_X8_isRod : GoodIn wsX8_bank wsX8_isRod := goodIn_r _ [8, 9, 10, 7, 11] (by decide +kernel) (by decide +kernel)
set_option maxRecDepth 20000 in
theorem gX8_bank_X8_isRod : GoodIn wsX8_bank (va_wsS RX8 83 yX8_isRod wsX8_isRod) := goodIn_app (goodIn_of _ (by decide +kernel)) ggX8_bank_X8_isRod
set_option maxRecDepth 20000 in
theorem ggX8_bank_X8_isWithin : GoodIn wsX8_bank wsX8_isWithin := goodIn_r _ [11] (by decide +kernel) (by decide +kernel)
set_option maxRecDepth 20000 in
theorem gX8_bank_X8_isWithin : GoodIn wsX8_bank (va_wsS RX8 76 yX8_isWithin wsX8_isWithin) := goodIn_app (goodIn_of _ (by decide +kernel)) ggX8_bank_X8_isWithin
set_option maxRecDepth 20000 in
theorem ggX8_bank_X4_daysTo : GoodIn wsX8_bank wsX4_daysTo := goodIn_r _ [16, 17, 18, 19, 20, 15, 21, 22, 23, 7, 24, 39, 40, 41, 42, 43] (by decide +kernel) (by decide +kernel)
set_option maxRecDepth 20000 in
theorem gX8_bank_X4_daysTo : GoodIn wsX8_bank (wsV RX8 205 RX4 yX4_daysTo wsX4_daysTo) := goodIn_app (goodIn_of _ (by decide +kernel)) ggX8_bank_X4_daysTo
theorem dX8_bank_0 : decode cX8_bank 0 = .ok (.iload_n 1, 1) := by decide +kernel
theorem dX8_bank_1 : decode cX8_bank 1 = .ok (.invokestatic 83, 3) := by decide +kernel
theorem dX8_bank_4 : decode cX8_bank 4 = .ok (.ifCond .ne 5, 3) := by decide +kernel
theorem dX8_bank_7 : decode cX8_bank 7 = .ok (.iconst (-1), 1) := by decide +kernel
theorem dX8_bank_8 : decode cX8_bank 8 = .ok (.ireturn, 1) := by decide +kernel
theorem dX8_bank_9 : decode cX8_bank 9 = .ok (.iload_n 2, 1) := by decide +kernel
theorem dX8_bank_10 : decode cX8_bank 10 = .ok (.tableswitch 85 0 3 #[30, 40, 50, 60], 30) := by decide +kernel
theorem dX8_bank_40 : decode cX8_bank 40 = .ok (.aload_n 0, 1) := by decide +kernel
theorem dX8_bank_41 : decode cX8_bank 41 = .ok (.getfield 17, 3) := by decide +kernel
theorem dX8_bank_44 : decode cX8_bank 44 = .ok (.iload_n 1, 1) := by decide +kernel
theorem dX8_bank_45 : decode cX8_bank 45 = .ok (.aaload, 1) := by decide +kernel
theorem dX8_bank_46 : decode cX8_bank 46 = .ok (.getfield 196, 3) := by decide +kernel
theorem dX8_bank_49 : decode cX8_bank 49 = .ok (.ireturn, 1) := by decide +kernel
theorem dX8_bank_50 : decode cX8_bank 50 = .ok (.aload_n 0, 1) := by decide +kernel
theorem dX8_bank_51 : decode cX8_bank 51 = .ok (.getfield 17, 3) := by decide +kernel
theorem dX8_bank_54 : decode cX8_bank 54 = .ok (.iload_n 1, 1) := by decide +kernel
theorem dX8_bank_55 : decode cX8_bank 55 = .ok (.aaload, 1) := by decide +kernel
theorem dX8_bank_56 : decode cX8_bank 56 = .ok (.getfield 199, 3) := by decide +kernel
theorem dX8_bank_59 : decode cX8_bank 59 = .ok (.ireturn, 1) := by decide +kernel
theorem dX8_bank_60 : decode cX8_bank 60 = .ok (.aload_n 0, 1) := by decide +kernel
theorem dX8_bank_61 : decode cX8_bank 61 = .ok (.getfield 17, 3) := by decide +kernel
theorem dX8_bank_64 : decode cX8_bank 64 = .ok (.iload_n 1, 1) := by decide +kernel
theorem dX8_bank_65 : decode cX8_bank 65 = .ok (.aaload, 1) := by decide +kernel
theorem dX8_bank_66 : decode cX8_bank 66 = .ok (.getfield 202, 3) := by decide +kernel
theorem dX8_bank_69 : decode cX8_bank 69 = .ok (.ireturn, 1) := by decide +kernel
theorem dX8_bank_70 : decode cX8_bank 70 = .ok (.iload_n 3, 1) := by decide +kernel
theorem dX8_bank_71 : decode cX8_bank 71 = .ok (.sipush 3000, 3) := by decide +kernel
theorem dX8_bank_74 : decode cX8_bank 74 = .ok (.invokestatic 76, 3) := by decide +kernel
theorem dX8_bank_77 : decode cX8_bank 77 = .ok (.ifCond .eq 16, 3) := by decide +kernel
theorem dX8_bank_80 : decode cX8_bank 80 = .ok (.aload_n 0, 1) := by decide +kernel
theorem dX8_bank_81 : decode cX8_bank 81 = .ok (.getfield 17, 3) := by decide +kernel
theorem dX8_bank_84 : decode cX8_bank 84 = .ok (.iload_n 1, 1) := by decide +kernel
theorem dX8_bank_85 : decode cX8_bank 85 = .ok (.aaload, 1) := by decide +kernel
theorem dX8_bank_86 : decode cX8_bank 86 = .ok (.iload_n 3, 1) := by decide +kernel
theorem dX8_bank_87 : decode cX8_bank 87 = .ok (.invokevirtual 205, 3) := by decide +kernel
theorem dX8_bank_90 : decode cX8_bank 90 = .ok (.goto 4, 3) := by decide +kernel
theorem dX8_bank_93 : decode cX8_bank 93 = .ok (.iconst (-1), 1) := by decide +kernel
theorem dX8_bank_94 : decode cX8_bank 94 = .ok (.ireturn, 1) := by decide +kernel
theorem dX8_bank_95 : decode cX8_bank 95 = .ok (.iconst (-1), 1) := by decide +kernel
theorem dX8_bank_96 : decode cX8_bank 96 = .ok (.ireturn, 1) := by decide +kernel
set_option maxRecDepth 20000 in
theorem ggX8_saved_X8_isWithin : GoodIn wsX8_saved wsX8_isWithin := goodIn_r _ [6] (by decide +kernel) (by decide +kernel)
set_option maxRecDepth 20000 in
theorem gX8_saved_X8_isWithin : GoodIn wsX8_saved (va_wsS RX8 76 yX8_isWithin wsX8_isWithin) := goodIn_app (goodIn_of _ (by decide +kernel)) ggX8_saved_X8_isWithin
set_option maxRecDepth 20000 in
theorem ggX8_saved_X3_bestWorth : GoodIn wsX8_saved wsX3_bestWorth := goodIn_r _ [11, 12, 13, 14, 4, 5, 6, 15, 16, 17, 18, 19, 20, 21, 22, 23, 24, 25, 26, 27, 28, 29, 30, 10, 31, 32, 33, 34, 35, 54, 55, 56, 57, 58, 59] (by decide +kernel) (by decide +kernel)
set_option maxRecDepth 20000 in
theorem gX8_saved_X3_bestWorth : GoodIn wsX8_saved (wsV RX8 208 RX3 yX3_bestWorth wsX3_bestWorth) := goodIn_app (goodIn_of _ (by decide +kernel)) ggX8_saved_X3_bestWorth
set_option maxRecDepth 20000 in
theorem ggX8_saved_X3_lossOf : GoodIn wsX8_saved wsX3_lossOf := goodIn_r _ [38, 39] (by decide +kernel) (by decide +kernel)
set_option maxRecDepth 20000 in
theorem gX8_saved_X3_lossOf : GoodIn wsX8_saved (va_wsS RX8 212 yX3_lossOf wsX3_lossOf) := goodIn_app (goodIn_of _ (by decide +kernel)) ggX8_saved_X3_lossOf
theorem dX8_saved_0 : decode cX8_saved 0 = .ok (.iload_n 1, 1) := by decide +kernel
theorem dX8_saved_1 : decode cX8_saved 1 = .ok (.sipush 300, 3) := by decide +kernel
theorem dX8_saved_4 : decode cX8_saved 4 = .ok (.invokestatic 76, 3) := by decide +kernel
theorem dX8_saved_7 : decode cX8_saved 7 = .ok (.ifCond .eq 13, 3) := by decide +kernel
theorem dX8_saved_10 : decode cX8_saved 10 = .ok (.iload_n 2, 1) := by decide +kernel
theorem dX8_saved_11 : decode cX8_saved 11 = .ok (.sipush 3000, 3) := by decide +kernel
theorem dX8_saved_14 : decode cX8_saved 14 = .ok (.invokestatic 76, 3) := by decide +kernel
theorem dX8_saved_17 : decode cX8_saved 17 = .ok (.ifCond .ne 5, 3) := by decide +kernel
theorem dX8_saved_20 : decode cX8_saved 20 = .ok (.iconst (-1), 1) := by decide +kernel
theorem dX8_saved_21 : decode cX8_saved 21 = .ok (.ireturn, 1) := by decide +kernel
theorem dX8_saved_22 : decode cX8_saved 22 = .ok (.aload_n 0, 1) := by decide +kernel
theorem dX8_saved_23 : decode cX8_saved 23 = .ok (.getfield 37, 3) := by decide +kernel
theorem dX8_saved_26 : decode cX8_saved 26 = .ok (.aload_n 0, 1) := by decide +kernel
theorem dX8_saved_27 : decode cX8_saved 27 = .ok (.getfield 17, 3) := by decide +kernel
theorem dX8_saved_30 : decode cX8_saved 30 = .ok (.iload_n 1, 1) := by decide +kernel
theorem dX8_saved_31 : decode cX8_saved 31 = .ok (.iload_n 2, 1) := by decide +kernel
theorem dX8_saved_32 : decode cX8_saved 32 = .ok (.invokevirtual 208, 3) := by decide +kernel
theorem dX8_saved_35 : decode cX8_saved 35 = .ok (.invokestatic 212, 3) := by decide +kernel
theorem dX8_saved_38 : decode cX8_saved 38 = .ok (.ireturn, 1) := by decide +kernel
set_option maxRecDepth 20000 in
theorem ggX8_chosen_X8_isWithin : GoodIn wsX8_chosen wsX8_isWithin := goodIn_r _ [6] (by decide +kernel) (by decide +kernel)
set_option maxRecDepth 20000 in
theorem gX8_chosen_X8_isWithin : GoodIn wsX8_chosen (va_wsS RX8 76 yX8_isWithin wsX8_isWithin) := goodIn_app (goodIn_of _ (by decide +kernel)) ggX8_chosen_X8_isWithin
set_option maxRecDepth 20000 in
theorem ggX8_chosen_X3_bestWorth : GoodIn wsX8_chosen wsX3_bestWorth := goodIn_r _ [11, 12, 13, 14, 4, 5, 6, 15, 16, 17, 18, 19, 20, 21, 22, 23, 24, 25, 26, 27, 28, 29, 30, 10, 31, 32, 33, 34, 35, 57, 58, 59, 60, 61, 62] (by decide +kernel) (by decide +kernel)
set_option maxRecDepth 20000 in
theorem gX8_chosen_X3_bestWorth : GoodIn wsX8_chosen (wsV RX8 208 RX3 yX3_bestWorth wsX3_bestWorth) := goodIn_app (goodIn_of _ (by decide +kernel)) ggX8_chosen_X3_bestWorth
set_option maxRecDepth 20000 in
theorem ggX8_chosen_X3_heapOf : GoodIn wsX8_chosen wsX3_heapOf := goodIn_r _ [38, 39, 40, 10, 41, 42] (by decide +kernel) (by decide +kernel)
set_option maxRecDepth 20000 in
theorem gX8_chosen_X3_heapOf : GoodIn wsX8_chosen (va_wsS RX8 216 yX3_heapOf wsX3_heapOf) := goodIn_app (goodIn_of _ (by decide +kernel)) ggX8_chosen_X3_heapOf
theorem dX8_chosen_0 : decode cX8_chosen 0 = .ok (.iload_n 1, 1) := by decide +kernel
theorem dX8_chosen_1 : decode cX8_chosen 1 = .ok (.sipush 300, 3) := by decide +kernel
theorem dX8_chosen_4 : decode cX8_chosen 4 = .ok (.invokestatic 76, 3) := by decide +kernel
theorem dX8_chosen_7 : decode cX8_chosen 7 = .ok (.ifCond .eq 13, 3) := by decide +kernel
theorem dX8_chosen_10 : decode cX8_chosen 10 = .ok (.iload_n 2, 1) := by decide +kernel
theorem dX8_chosen_11 : decode cX8_chosen 11 = .ok (.sipush 3000, 3) := by decide +kernel
theorem dX8_chosen_14 : decode cX8_chosen 14 = .ok (.invokestatic 76, 3) := by decide +kernel
theorem dX8_chosen_17 : decode cX8_chosen 17 = .ok (.ifCond .ne 5, 3) := by decide +kernel
theorem dX8_chosen_20 : decode cX8_chosen 20 = .ok (.iconst (-1), 1) := by decide +kernel
theorem dX8_chosen_21 : decode cX8_chosen 21 = .ok (.ireturn, 1) := by decide +kernel
theorem dX8_chosen_22 : decode cX8_chosen 22 = .ok (.aload_n 0, 1) := by decide +kernel
theorem dX8_chosen_23 : decode cX8_chosen 23 = .ok (.getfield 37, 3) := by decide +kernel
theorem dX8_chosen_26 : decode cX8_chosen 26 = .ok (.aload_n 0, 1) := by decide +kernel
theorem dX8_chosen_27 : decode cX8_chosen 27 = .ok (.getfield 17, 3) := by decide +kernel
theorem dX8_chosen_30 : decode cX8_chosen 30 = .ok (.iload_n 1, 1) := by decide +kernel
theorem dX8_chosen_31 : decode cX8_chosen 31 = .ok (.iload_n 2, 1) := by decide +kernel
theorem dX8_chosen_32 : decode cX8_chosen 32 = .ok (.invokevirtual 208, 3) := by decide +kernel
theorem dX8_chosen_35 : decode cX8_chosen 35 = .ok (.invokestatic 216, 3) := by decide +kernel
theorem dX8_chosen_38 : decode cX8_chosen 38 = .ok (.ireturn, 1) := by decide +kernel
set_option maxRecDepth 20000 in
theorem ggX8_called_X8_isVillage : GoodIn wsX8_called wsX8_isVillage := goodIn_r _ [4, 5, 6, 3, 7] (by decide +kernel) (by decide +kernel)
set_option maxRecDepth 20000 in
theorem gX8_called_X8_isVillage : GoodIn wsX8_called (va_wsS RX8 72 yX8_isVillage wsX8_isVillage) := goodIn_app (goodIn_of _ (by decide +kernel)) ggX8_called_X8_isVillage
set_option maxRecDepth 20000 in
theorem ggX8_called_X8_hourOfCall : GoodIn wsX8_called wsX8_hourOfCall := goodIn_r _ [11, 12, 13, 14, 15, 3, 16, 17, 18, 19, 20, 21, 22, 23, 24, 25, 26, 27, 28, 29, 30, 31, 32, 33, 34, 35, 36, 37, 38, 39, 40] (by decide +kernel) (by decide +kernel)
set_option maxRecDepth 20000 in
theorem gX8_called_X8_hourOfCall : GoodIn wsX8_called (wsV RX8 219 RX8 yX8_hourOfCall wsX8_hourOfCall) := goodIn_app (goodIn_of _ (by decide +kernel)) ggX8_called_X8_hourOfCall
theorem dX8_called_0 : decode cX8_called 0 = .ok (.iload_n 1, 1) := by decide +kernel
theorem dX8_called_1 : decode cX8_called 1 = .ok (.invokestatic 72, 3) := by decide +kernel
theorem dX8_called_4 : decode cX8_called 4 = .ok (.ifCond .eq 10, 3) := by decide +kernel
theorem dX8_called_7 : decode cX8_called 7 = .ok (.iload_n 2, 1) := by decide +kernel
theorem dX8_called_8 : decode cX8_called 8 = .ok (.invokestatic 72, 3) := by decide +kernel
theorem dX8_called_11 : decode cX8_called 11 = .ok (.ifCond .ne 5, 3) := by decide +kernel
theorem dX8_called_14 : decode cX8_called 14 = .ok (.iconst (-1), 1) := by decide +kernel
theorem dX8_called_15 : decode cX8_called 15 = .ok (.ireturn, 1) := by decide +kernel
theorem dX8_called_16 : decode cX8_called 16 = .ok (.aload_n 0, 1) := by decide +kernel
theorem dX8_called_17 : decode cX8_called 17 = .ok (.iload_n 1, 1) := by decide +kernel
theorem dX8_called_18 : decode cX8_called 18 = .ok (.iload_n 2, 1) := by decide +kernel
theorem dX8_called_19 : decode cX8_called 19 = .ok (.invokevirtual 219, 3) := by decide +kernel
theorem dX8_called_22 : decode cX8_called 22 = .ok (.ireturn, 1) := by decide +kernel
set_option maxRecDepth 20000 in
theorem ggX8_arrived_X8_isVillage : GoodIn wsX8_arrived wsX8_isVillage := goodIn_r _ [7, 8, 9, 6, 10] (by decide +kernel) (by decide +kernel)
set_option maxRecDepth 20000 in
theorem gX8_arrived_X8_isVillage : GoodIn wsX8_arrived (va_wsS RX8 72 yX8_isVillage wsX8_isVillage) := goodIn_app (goodIn_of _ (by decide +kernel)) ggX8_arrived_X8_isVillage
set_option maxRecDepth 20000 in
theorem ggX8_arrived_X8_isRod : GoodIn wsX8_arrived wsX8_isRod := goodIn_r _ [13, 8, 9, 6, 10] (by decide +kernel) (by decide +kernel)
set_option maxRecDepth 20000 in
theorem gX8_arrived_X8_isRod : GoodIn wsX8_arrived (va_wsS RX8 83 yX8_isRod wsX8_isRod) := goodIn_app (goodIn_of _ (by decide +kernel)) ggX8_arrived_X8_isRod
set_option maxRecDepth 20000 in
theorem ggX8_arrived_X8_isWithin : GoodIn wsX8_arrived wsX8_isWithin := goodIn_r _ [10] (by decide +kernel) (by decide +kernel)
set_option maxRecDepth 20000 in
theorem gX8_arrived_X8_isWithin : GoodIn wsX8_arrived (va_wsS RX8 76 yX8_isWithin wsX8_isWithin) := goodIn_app (goodIn_of _ (by decide +kernel)) ggX8_arrived_X8_isWithin
set_option maxRecDepth 20000 in
theorem ggX8_arrived_X8_hoursFor : GoodIn wsX8_arrived wsX8_hoursFor := goodIn_r _ [16, 17, 18, 19, 20, 21, 22, 6, 23] (by decide +kernel) (by decide +kernel)
set_option maxRecDepth 20000 in
theorem gX8_arrived_X8_hoursFor : GoodIn wsX8_arrived (va_wsS RX8 223 yX8_hoursFor wsX8_hoursFor) := goodIn_app (goodIn_of _ (by decide +kernel)) ggX8_arrived_X8_hoursFor
set_option maxRecDepth 20000 in
theorem ggX8_arrived_X8_hourOfCall : GoodIn wsX8_arrived wsX8_hourOfCall := goodIn_r _ [27, 1, 2, 14, 15, 6, 16, 17, 18, 19, 20, 21, 22, 23, 44, 45, 46, 47, 48, 49, 50, 51, 52, 53, 54, 55, 56, 57, 58, 59, 60] (by decide +kernel) (by decide +kernel)
set_option maxRecDepth 20000 in
theorem gX8_arrived_X8_hourOfCall : GoodIn wsX8_arrived (wsV RX8 219 RX8 yX8_hourOfCall wsX8_hourOfCall) := goodIn_app (goodIn_of _ (by decide +kernel)) ggX8_arrived_X8_hourOfCall
set_option maxRecDepth 20000 in
theorem ggX8_arrived_X8_trueHands : GoodIn wsX8_arrived wsX8_trueHands := goodIn_r _ [31, 32, 33, 34, 35, 36, 37, 38, 39, 40, 41, 42, 43, 44, 45, 46, 47, 48, 49, 50, 51, 52, 53, 54, 55, 56, 57, 61, 62, 63, 64, 65, 66, 67, 68, 69, 70, 71, 72, 73] (by decide +kernel) (by decide +kernel)
set_option maxRecDepth 20000 in
theorem gX8_arrived_X8_trueHands : GoodIn wsX8_arrived (wsV RX8 227 RX8 yX8_trueHands wsX8_trueHands) := goodIn_app (goodIn_of _ (by decide +kernel)) ggX8_arrived_X8_trueHands
theorem dX8_arrived_0 : decode cX8_arrived 0 = .ok (.iload_n 1, 1) := by decide +kernel
theorem dX8_arrived_1 : decode cX8_arrived 1 = .ok (.invokestatic 72, 3) := by decide +kernel
theorem dX8_arrived_4 : decode cX8_arrived 4 = .ok (.ifCond .eq 19, 3) := by decide +kernel
theorem dX8_arrived_7 : decode cX8_arrived 7 = .ok (.iload_n 2, 1) := by decide +kernel
theorem dX8_arrived_8 : decode cX8_arrived 8 = .ok (.invokestatic 83, 3) := by decide +kernel
theorem dX8_arrived_11 : decode cX8_arrived 11 = .ok (.ifCond .eq 12, 3) := by decide +kernel
theorem dX8_arrived_14 : decode cX8_arrived 14 = .ok (.iload_n 3, 1) := by decide +kernel
theorem dX8_arrived_15 : decode cX8_arrived 15 = .ok (.bipush 100, 2) := by decide +kernel
theorem dX8_arrived_17 : decode cX8_arrived 17 = .ok (.invokestatic 76, 3) := by decide +kernel
theorem dX8_arrived_20 : decode cX8_arrived 20 = .ok (.ifCond .ne 5, 3) := by decide +kernel
theorem dX8_arrived_23 : decode cX8_arrived 23 = .ok (.iconst (-1), 1) := by decide +kernel
theorem dX8_arrived_24 : decode cX8_arrived 24 = .ok (.ireturn, 1) := by decide +kernel
theorem dX8_arrived_25 : decode cX8_arrived 25 = .ok (.iconst 0, 1) := by decide +kernel
theorem dX8_arrived_26 : decode cX8_arrived 26 = .ok (.istore 4, 2) := by decide +kernel
theorem dX8_arrived_28 : decode cX8_arrived 28 = .ok (.iconst 0, 1) := by decide +kernel
theorem dX8_arrived_29 : decode cX8_arrived 29 = .ok (.istore 5, 2) := by decide +kernel
theorem dX8_arrived_31 : decode cX8_arrived 31 = .ok (.iload 5, 2) := by decide +kernel
theorem dX8_arrived_33 : decode cX8_arrived 33 = .ok (.bipush 8, 2) := by decide +kernel
theorem dX8_arrived_35 : decode cX8_arrived 35 = .ok (.if_icmp .ge 57, 3) := by decide +kernel
theorem dX8_arrived_38 : decode cX8_arrived 38 = .ok (.aload_n 0, 1) := by decide +kernel
theorem dX8_arrived_39 : decode cX8_arrived 39 = .ok (.getfield 11, 3) := by decide +kernel
theorem dX8_arrived_42 : decode cX8_arrived 42 = .ok (.iload 5, 2) := by decide +kernel
theorem dX8_arrived_44 : decode cX8_arrived 44 = .ok (.aaload, 1) := by decide +kernel
theorem dX8_arrived_45 : decode cX8_arrived 45 = .ok (.getfield 80, 3) := by decide +kernel
theorem dX8_arrived_48 : decode cX8_arrived 48 = .ok (.iload_n 2, 1) := by decide +kernel
theorem dX8_arrived_49 : decode cX8_arrived 49 = .ok (.iconst 3, 1) := by decide +kernel
theorem dX8_arrived_50 : decode cX8_arrived 50 = .ok (.imul, 1) := by decide +kernel
theorem dX8_arrived_51 : decode cX8_arrived 51 = .ok (.iconst 3, 1) := by decide +kernel
theorem dX8_arrived_52 : decode cX8_arrived 52 = .ok (.invokestatic 223, 3) := by decide +kernel
theorem dX8_arrived_55 : decode cX8_arrived 55 = .ok (.istore 6, 2) := by decide +kernel
theorem dX8_arrived_57 : decode cX8_arrived 57 = .ok (.aload_n 0, 1) := by decide +kernel
theorem dX8_arrived_58 : decode cX8_arrived 58 = .ok (.iload_n 1, 1) := by decide +kernel
theorem dX8_arrived_59 : decode cX8_arrived 59 = .ok (.iload 5, 2) := by decide +kernel
theorem dX8_arrived_61 : decode cX8_arrived 61 = .ok (.invokevirtual 219, 3) := by decide +kernel
theorem dX8_arrived_64 : decode cX8_arrived 64 = .ok (.iload 6, 2) := by decide +kernel
theorem dX8_arrived_66 : decode cX8_arrived 66 = .ok (.iadd, 1) := by decide +kernel
theorem dX8_arrived_67 : decode cX8_arrived 67 = .ok (.iload_n 3, 1) := by decide +kernel
theorem dX8_arrived_68 : decode cX8_arrived 68 = .ok (.if_icmp .gt 18, 3) := by decide +kernel
theorem dX8_arrived_71 : decode cX8_arrived 71 = .ok (.iload 4, 2) := by decide +kernel
theorem dX8_arrived_73 : decode cX8_arrived 73 = .ok (.aload_n 0, 1) := by decide +kernel
theorem dX8_arrived_74 : decode cX8_arrived 74 = .ok (.iload 5, 2) := by decide +kernel
theorem dX8_arrived_76 : decode cX8_arrived 76 = .ok (.aload_n 0, 1) := by decide +kernel
theorem dX8_arrived_77 : decode cX8_arrived 77 = .ok (.getfield 45, 3) := by decide +kernel
theorem dX8_arrived_80 : decode cX8_arrived 80 = .ok (.invokevirtual 227, 3) := by decide +kernel
theorem dX8_arrived_83 : decode cX8_arrived 83 = .ok (.iadd, 1) := by decide +kernel
theorem dX8_arrived_84 : decode cX8_arrived 84 = .ok (.istore 4, 2) := by decide +kernel
theorem dX8_arrived_86 : decode cX8_arrived 86 = .ok (.iinc 5 1, 3) := by decide +kernel
theorem dX8_arrived_89 : decode cX8_arrived 89 = .ok (.goto (-58), 3) := by decide +kernel
theorem dX8_arrived_92 : decode cX8_arrived 92 = .ok (.iload 4, 2) := by decide +kernel
theorem dX8_arrived_94 : decode cX8_arrived 94 = .ok (.ireturn, 1) := by decide +kernel
theorem dX8_count_0 : decode cX8_count 0 = .ok (.iload_n 1, 1) := by decide +kernel
theorem dX8_count_1 : decode cX8_count 1 = .ok (.tableswitch 99 0 8 #[51, 56, 61, 69, 74, 79, 84, 89, 94], 51) := by decide +kernel
theorem dX8_count_52 : decode cX8_count 52 = .ok (.aload_n 0, 1) := by decide +kernel
theorem dX8_count_53 : decode cX8_count 53 = .ok (.getfield 45, 3) := by decide +kernel
theorem dX8_count_56 : decode cX8_count 56 = .ok (.ireturn, 1) := by decide +kernel
theorem dX8_count_57 : decode cX8_count 57 = .ok (.aload_n 0, 1) := by decide +kernel
theorem dX8_count_58 : decode cX8_count 58 = .ok (.getfield 49, 3) := by decide +kernel
theorem dX8_count_61 : decode cX8_count 61 = .ok (.ireturn, 1) := by decide +kernel
theorem dX8_count_62 : decode cX8_count 62 = .ok (.aload_n 0, 1) := by decide +kernel
theorem dX8_count_63 : decode cX8_count 63 = .ok (.getfield 30, 3) := by decide +kernel
theorem dX8_count_66 : decode cX8_count 66 = .ok (.getfield 108, 3) := by decide +kernel
theorem dX8_count_69 : decode cX8_count 69 = .ok (.ireturn, 1) := by decide +kernel
theorem dX8_count_70 : decode cX8_count 70 = .ok (.aload_n 0, 1) := by decide +kernel
theorem dX8_count_71 : decode cX8_count 71 = .ok (.getfield 52, 3) := by decide +kernel
theorem dX8_count_74 : decode cX8_count 74 = .ok (.ireturn, 1) := by decide +kernel
theorem dX8_count_75 : decode cX8_count 75 = .ok (.aload_n 0, 1) := by decide +kernel
theorem dX8_count_76 : decode cX8_count 76 = .ok (.getfield 55, 3) := by decide +kernel
theorem dX8_count_79 : decode cX8_count 79 = .ok (.ireturn, 1) := by decide +kernel
theorem dX8_count_80 : decode cX8_count 80 = .ok (.aload_n 0, 1) := by decide +kernel
theorem dX8_count_81 : decode cX8_count 81 = .ok (.getfield 58, 3) := by decide +kernel
theorem dX8_count_84 : decode cX8_count 84 = .ok (.ireturn, 1) := by decide +kernel
theorem dX8_count_85 : decode cX8_count 85 = .ok (.aload_n 0, 1) := by decide +kernel
theorem dX8_count_86 : decode cX8_count 86 = .ok (.getfield 61, 3) := by decide +kernel
theorem dX8_count_89 : decode cX8_count 89 = .ok (.ireturn, 1) := by decide +kernel
theorem dX8_count_90 : decode cX8_count 90 = .ok (.aload_n 0, 1) := by decide +kernel
theorem dX8_count_91 : decode cX8_count 91 = .ok (.getfield 64, 3) := by decide +kernel
theorem dX8_count_94 : decode cX8_count 94 = .ok (.ireturn, 1) := by decide +kernel
theorem dX8_count_95 : decode cX8_count 95 = .ok (.aload_n 0, 1) := by decide +kernel
theorem dX8_count_96 : decode cX8_count 96 = .ok (.getfield 67, 3) := by decide +kernel
theorem dX8_count_99 : decode cX8_count 99 = .ok (.ireturn, 1) := by decide +kernel
theorem dX8_count_100 : decode cX8_count 100 = .ok (.iconst (-1), 1) := by decide +kernel
theorem dX8_count_101 : decode cX8_count 101 = .ok (.ireturn, 1) := by decide +kernel
theorem dX8_isWithin_0 : decode cX8_isWithin 0 = .ok (.iload_n 0, 1) := by decide +kernel
theorem dX8_isWithin_1 : decode cX8_isWithin 1 = .ok (.ifCond .lt 12, 3) := by decide +kernel
theorem dX8_isWithin_4 : decode cX8_isWithin 4 = .ok (.iload_n 0, 1) := by decide +kernel
theorem dX8_isWithin_5 : decode cX8_isWithin 5 = .ok (.iload_n 1, 1) := by decide +kernel
theorem dX8_isWithin_6 : decode cX8_isWithin 6 = .ok (.if_icmp .gt 7, 3) := by decide +kernel
theorem dX8_isWithin_9 : decode cX8_isWithin 9 = .ok (.iconst 1, 1) := by decide +kernel
theorem dX8_isWithin_10 : decode cX8_isWithin 10 = .ok (.goto 4, 3) := by decide +kernel
theorem dX8_isWithin_13 : decode cX8_isWithin 13 = .ok (.iconst 0, 1) := by decide +kernel
theorem dX8_isWithin_14 : decode cX8_isWithin 14 = .ok (.ireturn, 1) := by decide +kernel
set_option maxRecDepth 20000 in
theorem ggX8_isVillage_X8_isWithin : GoodIn wsX8_isVillage wsX8_isWithin := goodIn_r _ [4] (by decide +kernel) (by decide +kernel)
set_option maxRecDepth 20000 in
theorem gX8_isVillage_X8_isWithin : GoodIn wsX8_isVillage (va_wsS RX8 76 yX8_isWithin wsX8_isWithin) := goodIn_app (goodIn_of _ (by decide +kernel)) ggX8_isVillage_X8_isWithin
theorem dX8_isVillage_0 : decode cX8_isVillage 0 = .ok (.iload_n 0, 1) := by decide +kernel
theorem dX8_isVillage_1 : decode cX8_isVillage 1 = .ok (.bipush 7, 2) := by decide +kernel
theorem dX8_isVillage_3 : decode cX8_isVillage 3 = .ok (.invokestatic 76, 3) := by decide +kernel
theorem dX8_isVillage_6 : decode cX8_isVillage 6 = .ok (.ireturn, 1) := by decide +kernel
set_option maxRecDepth 20000 in
theorem ggX8_isRod_X8_isWithin : GoodIn wsX8_isRod wsX8_isWithin := goodIn_r _ [4] (by decide +kernel) (by decide +kernel)
set_option maxRecDepth 20000 in
theorem gX8_isRod_X8_isWithin : GoodIn wsX8_isRod (va_wsS RX8 76 yX8_isWithin wsX8_isWithin) := goodIn_app (goodIn_of _ (by decide +kernel)) ggX8_isRod_X8_isWithin
theorem dX8_isRod_0 : decode cX8_isRod 0 = .ok (.iload_n 0, 1) := by decide +kernel
theorem dX8_isRod_1 : decode cX8_isRod 1 = .ok (.bipush 29, 2) := by decide +kernel
theorem dX8_isRod_3 : decode cX8_isRod 3 = .ok (.invokestatic 76, 3) := by decide +kernel
theorem dX8_isRod_6 : decode cX8_isRod 6 = .ok (.ireturn, 1) := by decide +kernel
set_option maxRecDepth 20000 in
theorem ggX8_isHolding_X8_isWithin : GoodIn wsX8_isHolding wsX8_isWithin := goodIn_r _ [4] (by decide +kernel) (by decide +kernel)
set_option maxRecDepth 20000 in
theorem gX8_isHolding_X8_isWithin : GoodIn wsX8_isHolding (va_wsS RX8 76 yX8_isWithin wsX8_isWithin) := goodIn_app (goodIn_of _ (by decide +kernel)) ggX8_isHolding_X8_isWithin
theorem dX8_isHolding_0 : decode cX8_isHolding 0 = .ok (.iload_n 0, 1) := by decide +kernel
theorem dX8_isHolding_1 : decode cX8_isHolding 1 = .ok (.sipush 500, 3) := by decide +kernel
theorem dX8_isHolding_4 : decode cX8_isHolding 4 = .ok (.invokestatic 76, 3) := by decide +kernel
theorem dX8_isHolding_7 : decode cX8_isHolding 7 = .ok (.ifCond .eq 16, 3) := by decide +kernel
theorem dX8_isHolding_10 : decode cX8_isHolding 10 = .ok (.iload_n 1, 1) := by decide +kernel
theorem dX8_isHolding_11 : decode cX8_isHolding 11 = .ok (.bipush 20, 2) := by decide +kernel
theorem dX8_isHolding_13 : decode cX8_isHolding 13 = .ok (.invokestatic 76, 3) := by decide +kernel
theorem dX8_isHolding_16 : decode cX8_isHolding 16 = .ok (.ifCond .eq 7, 3) := by decide +kernel
theorem dX8_isHolding_19 : decode cX8_isHolding 19 = .ok (.iconst 1, 1) := by decide +kernel
theorem dX8_isHolding_20 : decode cX8_isHolding 20 = .ok (.goto 4, 3) := by decide +kernel
theorem dX8_isHolding_23 : decode cX8_isHolding 23 = .ok (.iconst 0, 1) := by decide +kernel
theorem dX8_isHolding_24 : decode cX8_isHolding 24 = .ok (.ireturn, 1) := by decide +kernel
set_option maxRecDepth 20000 in
theorem ggX8_isHouse_X8_isWithin : GoodIn wsX8_isHouse wsX8_isWithin := goodIn_r _ [5] (by decide +kernel) (by decide +kernel)
set_option maxRecDepth 20000 in
theorem gX8_isHouse_X8_isWithin : GoodIn wsX8_isHouse (va_wsS RX8 76 yX8_isWithin wsX8_isWithin) := goodIn_app (goodIn_of _ (by decide +kernel)) ggX8_isHouse_X8_isWithin
theorem dX8_isHouse_0 : decode cX8_isHouse 0 = .ok (.iload_n 1, 1) := by decide +kernel
theorem dX8_isHouse_1 : decode cX8_isHouse 1 = .ok (.aload_n 0, 1) := by decide +kernel
theorem dX8_isHouse_2 : decode cX8_isHouse 2 = .ok (.getfield 49, 3) := by decide +kernel
theorem dX8_isHouse_5 : decode cX8_isHouse 5 = .ok (.iconst 1, 1) := by decide +kernel
theorem dX8_isHouse_6 : decode cX8_isHouse 6 = .ok (.isub, 1) := by decide +kernel
theorem dX8_isHouse_7 : decode cX8_isHouse 7 = .ok (.invokestatic 76, 3) := by decide +kernel
theorem dX8_isHouse_10 : decode cX8_isHouse 10 = .ok (.ireturn, 1) := by decide +kernel
set_option maxRecDepth 20000 in
theorem ggX8_isYearSoFar_X8_yearNow : GoodIn wsX8_isYearSoFar wsX8_yearNow := goodIn_r _ [5, 6, 10, 11, 12, 13, 14, 15, 16, 17, 18, 19, 20, 21, 22, 23] (by decide +kernel) (by decide +kernel)
set_option maxRecDepth 20000 in
theorem gX8_isYearSoFar_X8_yearNow : GoodIn wsX8_isYearSoFar (wsV RX8 145 RX8 yX8_yearNow wsX8_yearNow) := goodIn_app (goodIn_of _ (by decide +kernel)) ggX8_isYearSoFar_X8_yearNow
set_option maxRecDepth 20000 in
theorem ggX8_isYearSoFar_X8_isWithin : GoodIn wsX8_isYearSoFar wsX8_isWithin := goodIn_r _ [9] (by decide +kernel) (by decide +kernel)
set_option maxRecDepth 20000 in
theorem gX8_isYearSoFar_X8_isWithin : GoodIn wsX8_isYearSoFar (va_wsS RX8 76 yX8_isWithin wsX8_isWithin) := goodIn_app (goodIn_of _ (by decide +kernel)) ggX8_isYearSoFar_X8_isWithin
theorem dX8_isYearSoFar_0 : decode cX8_isYearSoFar 0 = .ok (.iload_n 1, 1) := by decide +kernel
theorem dX8_isYearSoFar_1 : decode cX8_isYearSoFar 1 = .ok (.aload_n 0, 1) := by decide +kernel
theorem dX8_isYearSoFar_2 : decode cX8_isYearSoFar 2 = .ok (.invokevirtual 145, 3) := by decide +kernel
theorem dX8_isYearSoFar_5 : decode cX8_isYearSoFar 5 = .ok (.invokestatic 76, 3) := by decide +kernel
theorem dX8_isYearSoFar_8 : decode cX8_isYearSoFar 8 = .ok (.ireturn, 1) := by decide +kernel
theorem dX8_yearNow_0 : decode cX8_yearNow 0 = .ok (.aload_n 0, 1) := by decide +kernel
theorem dX8_yearNow_1 : decode cX8_yearNow 1 = .ok (.getfield 45, 3) := by decide +kernel
theorem dX8_yearNow_4 : decode cX8_yearNow 4 = .ok (.bipush 52, 2) := by decide +kernel
theorem dX8_yearNow_6 : decode cX8_yearNow 6 = .ok (.idiv, 1) := by decide +kernel
theorem dX8_yearNow_7 : decode cX8_yearNow 7 = .ok (.ireturn, 1) := by decide +kernel
set_option maxRecDepth 20000 in
theorem ggX8_daysOwed_X0_toldAheadOf : GoodIn wsX8_daysOwed wsX0_toldAheadOf := goodIn_r _ [6, 7, 8, 9, 43, 44, 45, 46, 47, 48, 49, 50, 51, 52, 53, 54, 55] (by decide +kernel) (by decide +kernel)
set_option maxRecDepth 20000 in
theorem gX8_daysOwed_X0_toldAheadOf : GoodIn wsX8_daysOwed (wsV RX8 129 RX0 yX0_toldAheadOf wsX0_toldAheadOf) := goodIn_app (goodIn_of _ (by decide +kernel)) ggX8_daysOwed_X0_toldAheadOf
set_option maxRecDepth 20000 in
theorem ggX8_daysOwed_X2_ofYear : GoodIn wsX8_daysOwed wsX2_ofYear := goodIn_r _ [14, 15, 16, 17, 18, 56, 57, 58, 59, 60, 61, 62, 63] (by decide +kernel) (by decide +kernel)
set_option maxRecDepth 20000 in
theorem gX8_daysOwed_X2_ofYear : GoodIn wsX8_daysOwed (wsV RX8 182 RX2 yX2_ofYear wsX2_ofYear) := goodIn_app (goodIn_of _ (by decide +kernel)) ggX8_daysOwed_X2_ofYear
set_option maxRecDepth 20000 in
theorem ggX8_daysOwed_X1_daysFor : GoodIn wsX8_daysOwed wsX1_daysFor := goodIn_r _ [23, 24, 25, 26, 27, 28, 51, 52, 53, 54, 55, 59, 60, 61, 62, 63] (by decide +kernel) (by decide +kernel)
set_option maxRecDepth 20000 in
theorem gX8_daysOwed_X1_daysFor : GoodIn wsX8_daysOwed (wsV RX8 230 RX1 yX1_daysFor wsX1_daysFor) := goodIn_app (goodIn_of _ (by decide +kernel)) ggX8_daysOwed_X1_daysFor
theorem dX8_daysOwed_0 : decode cX8_daysOwed 0 = .ok (.aload_n 1, 1) := by decide +kernel
theorem dX8_daysOwed_1 : decode cX8_daysOwed 1 = .ok (.iload_n 2, 1) := by decide +kernel
theorem dX8_daysOwed_2 : decode cX8_daysOwed 2 = .ok (.bipush 52, 2) := by decide +kernel
theorem dX8_daysOwed_4 : decode cX8_daysOwed 4 = .ok (.imul, 1) := by decide +kernel
theorem dX8_daysOwed_5 : decode cX8_daysOwed 5 = .ok (.invokevirtual 129, 3) := by decide +kernel
theorem dX8_daysOwed_8 : decode cX8_daysOwed 8 = .ok (.astore_n 3, 1) := by decide +kernel
theorem dX8_daysOwed_9 : decode cX8_daysOwed 9 = .ok (.aload_n 3, 1) := by decide +kernel
theorem dX8_daysOwed_10 : decode cX8_daysOwed 10 = .ok (.ifnonnull 7, 3) := by decide +kernel
theorem dX8_daysOwed_13 : decode cX8_daysOwed 13 = .ok (.iconst 0, 1) := by decide +kernel
theorem dX8_daysOwed_14 : decode cX8_daysOwed 14 = .ok (.goto 15, 3) := by decide +kernel
theorem dX8_daysOwed_17 : decode cX8_daysOwed 17 = .ok (.aload_n 0, 1) := by decide +kernel
theorem dX8_daysOwed_18 : decode cX8_daysOwed 18 = .ok (.getfield 30, 3) := by decide +kernel
theorem dX8_daysOwed_21 : decode cX8_daysOwed 21 = .ok (.iload_n 2, 1) := by decide +kernel
theorem dX8_daysOwed_22 : decode cX8_daysOwed 22 = .ok (.invokevirtual 182, 3) := by decide +kernel
theorem dX8_daysOwed_25 : decode cX8_daysOwed 25 = .ok (.aload_n 3, 1) := by decide +kernel
theorem dX8_daysOwed_26 : decode cX8_daysOwed 26 = .ok (.invokevirtual 230, 3) := by decide +kernel
theorem dX8_daysOwed_29 : decode cX8_daysOwed 29 = .ok (.ireturn, 1) := by decide +kernel
set_option maxRecDepth 20000 in
theorem ggX8_daysOwedYet_X8_daysOwed : GoodIn wsX8_daysOwedYet wsX8_daysOwed := goodIn_r _ [9, 10, 11, 12, 13, 14, 15, 16, 17, 18, 19, 20, 21, 22, 23, 24, 25, 26, 27, 28, 29, 30, 31, 32, 33, 34, 35, 36, 37, 45, 46, 47, 48, 49, 50, 51, 52, 53, 54, 55, 56, 57, 58, 59, 60, 61, 62, 63, 64, 65, 66, 67, 68, 69, 70, 71, 72, 73, 74, 75, 76, 77, 78, 79] (by decide +kernel) (by decide +kernel)
set_option maxRecDepth 20000 in
theorem gX8_daysOwedYet_X8_daysOwed : GoodIn wsX8_daysOwedYet (wsV RX8 141 RX8 yX8_daysOwed wsX8_daysOwed) := goodIn_app (goodIn_of _ (by decide +kernel)) ggX8_daysOwedYet_X8_daysOwed
set_option maxRecDepth 20000 in
theorem ggX8_daysOwedYet_X0_daysMet : GoodIn wsX8_daysOwedYet wsX0_daysMet := goodIn_r _ [41, 42, 43, 44, 59, 60, 61, 62, 63, 64, 65, 66] (by decide +kernel) (by decide +kernel)
set_option maxRecDepth 20000 in
theorem gX8_daysOwedYet_X0_daysMet : GoodIn wsX8_daysOwedYet (wsV RX8 234 RX0 yX0_daysMet wsX0_daysMet) := goodIn_app (goodIn_of _ (by decide +kernel)) ggX8_daysOwedYet_X0_daysMet
theorem dX8_daysOwedYet_0 : decode cX8_daysOwedYet 0 = .ok (.iconst 0, 1) := by decide +kernel
theorem dX8_daysOwedYet_1 : decode cX8_daysOwedYet 1 = .ok (.aload_n 0, 1) := by decide +kernel
theorem dX8_daysOwedYet_2 : decode cX8_daysOwedYet 2 = .ok (.aload_n 1, 1) := by decide +kernel
theorem dX8_daysOwedYet_3 : decode cX8_daysOwedYet 3 = .ok (.iload_n 2, 1) := by decide +kernel
theorem dX8_daysOwedYet_4 : decode cX8_daysOwedYet 4 = .ok (.invokevirtual 141, 3) := by decide +kernel
theorem dX8_daysOwedYet_7 : decode cX8_daysOwedYet 7 = .ok (.aload_n 1, 1) := by decide +kernel
theorem dX8_daysOwedYet_8 : decode cX8_daysOwedYet 8 = .ok (.iload_n 2, 1) := by decide +kernel
theorem dX8_daysOwedYet_9 : decode cX8_daysOwedYet 9 = .ok (.invokevirtual 234, 3) := by decide +kernel
theorem dX8_daysOwedYet_12 : decode cX8_daysOwedYet 12 = .ok (.isub, 1) := by decide +kernel
theorem dX8_daysOwedYet_13 : decode cX8_daysOwedYet 13 = .ok (.invokestatic 237, 3) := by decide +kernel
theorem dX8_daysOwedYet_16 : decode cX8_daysOwedYet 16 = .ok (.ireturn, 1) := by decide +kernel
theorem dX8_canSubstitute_0 : decode cX8_canSubstitute 0 = .ok (.aload_n 2, 1) := by decide +kernel
theorem dX8_canSubstitute_1 : decode cX8_canSubstitute 1 = .ok (.getfield 159, 3) := by decide +kernel
theorem dX8_canSubstitute_4 : decode cX8_canSubstitute 4 = .ok (.iload_n 3, 1) := by decide +kernel
theorem dX8_canSubstitute_5 : decode cX8_canSubstitute 5 = .ok (.iaload, 1) := by decide +kernel
theorem dX8_canSubstitute_6 : decode cX8_canSubstitute 6 = .ok (.istore 4, 2) := by decide +kernel
theorem dX8_canSubstitute_8 : decode cX8_canSubstitute 8 = .ok (.aload_n 0, 1) := by decide +kernel
theorem dX8_canSubstitute_9 : decode cX8_canSubstitute 9 = .ok (.getfield 23, 3) := by decide +kernel
theorem dX8_canSubstitute_12 : decode cX8_canSubstitute 12 = .ok (.iload_n 1, 1) := by decide +kernel
theorem dX8_canSubstitute_13 : decode cX8_canSubstitute 13 = .ok (.aaload, 1) := by decide +kernel
theorem dX8_canSubstitute_14 : decode cX8_canSubstitute 14 = .ok (.getfield 168, 3) := by decide +kernel
theorem dX8_canSubstitute_17 : decode cX8_canSubstitute 17 = .ok (.aload_n 2, 1) := by decide +kernel
theorem dX8_canSubstitute_18 : decode cX8_canSubstitute 18 = .ok (.getfield 168, 3) := by decide +kernel
theorem dX8_canSubstitute_21 : decode cX8_canSubstitute 21 = .ok (.if_icmp .ne 19, 3) := by decide +kernel
theorem dX8_canSubstitute_24 : decode cX8_canSubstitute 24 = .ok (.iload 4, 2) := by decide +kernel
theorem dX8_canSubstitute_26 : decode cX8_canSubstitute 26 = .ok (.iconst (-1), 1) := by decide +kernel
theorem dX8_canSubstitute_27 : decode cX8_canSubstitute 27 = .ok (.if_icmp .eq 9, 3) := by decide +kernel
theorem dX8_canSubstitute_30 : decode cX8_canSubstitute 30 = .ok (.iload 4, 2) := by decide +kernel
theorem dX8_canSubstitute_32 : decode cX8_canSubstitute 32 = .ok (.iload_n 1, 1) := by decide +kernel
theorem dX8_canSubstitute_33 : decode cX8_canSubstitute 33 = .ok (.if_icmp .ne 7, 3) := by decide +kernel
theorem dX8_canSubstitute_36 : decode cX8_canSubstitute 36 = .ok (.iconst 1, 1) := by decide +kernel
theorem dX8_canSubstitute_37 : decode cX8_canSubstitute 37 = .ok (.goto 4, 3) := by decide +kernel
theorem dX8_canSubstitute_40 : decode cX8_canSubstitute 40 = .ok (.iconst 0, 1) := by decide +kernel
theorem dX8_canSubstitute_41 : decode cX8_canSubstitute 41 = .ok (.ireturn, 1) := by decide +kernel
set_option maxRecDepth 20000 in
theorem ggX8_endWeek_X4_wear : GoodIn wsX8_endWeek wsX4_wear := goodIn_r _ [7, 8, 9, 10, 25, 26, 27, 28, 29] (by decide +kernel) (by decide +kernel)
set_option maxRecDepth 20000 in
theorem gX8_endWeek_X4_wear : GoodIn wsX8_endWeek (wsV RX8 242 RX4 yX4_wear wsX4_wear) := goodIn_app (goodIn_of _ (by decide +kernel)) ggX8_endWeek_X4_wear
theorem dX8_endWeek_0 : decode cX8_endWeek 0 = .ok (.iconst 0, 1) := by decide +kernel
theorem dX8_endWeek_1 : decode cX8_endWeek 1 = .ok (.istore_n 2, 1) := by decide +kernel
theorem dX8_endWeek_2 : decode cX8_endWeek 2 = .ok (.iload_n 2, 1) := by decide +kernel
theorem dX8_endWeek_3 : decode cX8_endWeek 3 = .ok (.bipush 30, 2) := by decide +kernel
theorem dX8_endWeek_5 : decode cX8_endWeek 5 = .ok (.if_icmp .ge 28, 3) := by decide +kernel
theorem dX8_endWeek_8 : decode cX8_endWeek 8 = .ok (.aload_n 0, 1) := by decide +kernel
theorem dX8_endWeek_9 : decode cX8_endWeek 9 = .ok (.dup, 1) := by decide +kernel
theorem dX8_endWeek_10 : decode cX8_endWeek 10 = .ok (.getfield 58, 3) := by decide +kernel
theorem dX8_endWeek_13 : decode cX8_endWeek 13 = .ok (.aload_n 0, 1) := by decide +kernel
theorem dX8_endWeek_14 : decode cX8_endWeek 14 = .ok (.getfield 17, 3) := by decide +kernel
theorem dX8_endWeek_17 : decode cX8_endWeek 17 = .ok (.iload_n 2, 1) := by decide +kernel
theorem dX8_endWeek_18 : decode cX8_endWeek 18 = .ok (.aaload, 1) := by decide +kernel
theorem dX8_endWeek_19 : decode cX8_endWeek 19 = .ok (.iload_n 1, 1) := by decide +kernel
theorem dX8_endWeek_20 : decode cX8_endWeek 20 = .ok (.invokevirtual 242, 3) := by decide +kernel
theorem dX8_endWeek_23 : decode cX8_endWeek 23 = .ok (.iadd, 1) := by decide +kernel
theorem dX8_endWeek_24 : decode cX8_endWeek 24 = .ok (.putfield 58, 3) := by decide +kernel
theorem dX8_endWeek_27 : decode cX8_endWeek 27 = .ok (.iinc 2 1, 3) := by decide +kernel
theorem dX8_endWeek_30 : decode cX8_endWeek 30 = .ok (.goto (-28), 3) := by decide +kernel
theorem dX8_endWeek_33 : decode cX8_endWeek 33 = .ok (.return_, 1) := by decide +kernel
set_option maxRecDepth 20000 in
theorem ggX8_trueHands_X0_handsIn : GoodIn wsX8_trueHands wsX0_handsIn := goodIn_r _ [8, 9, 10, 11, 12, 27, 28, 29, 30, 31, 32, 33, 34, 35, 36, 37, 38, 39] (by decide +kernel) (by decide +kernel)
set_option maxRecDepth 20000 in
theorem gX8_trueHands_X0_handsIn : GoodIn wsX8_trueHands (wsV RX8 245 RX0 yX0_handsIn wsX0_handsIn) := goodIn_app (goodIn_of _ (by decide +kernel)) ggX8_trueHands_X0_handsIn
theorem dX8_trueHands_0 : decode cX8_trueHands 0 = .ok (.iconst 0, 1) := by decide +kernel
theorem dX8_trueHands_1 : decode cX8_trueHands 1 = .ok (.istore_n 3, 1) := by decide +kernel
theorem dX8_trueHands_2 : decode cX8_trueHands 2 = .ok (.iconst 0, 1) := by decide +kernel
theorem dX8_trueHands_3 : decode cX8_trueHands 3 = .ok (.istore 4, 2) := by decide +kernel
theorem dX8_trueHands_5 : decode cX8_trueHands 5 = .ok (.iload 4, 2) := by decide +kernel
theorem dX8_trueHands_7 : decode cX8_trueHands 7 = .ok (.aload_n 0, 1) := by decide +kernel
theorem dX8_trueHands_8 : decode cX8_trueHands 8 = .ok (.getfield 49, 3) := by decide +kernel
theorem dX8_trueHands_11 : decode cX8_trueHands 11 = .ok (.if_icmp .ge 37, 3) := by decide +kernel
theorem dX8_trueHands_14 : decode cX8_trueHands 14 = .ok (.aload_n 0, 1) := by decide +kernel
theorem dX8_trueHands_15 : decode cX8_trueHands 15 = .ok (.getfield 23, 3) := by decide +kernel
theorem dX8_trueHands_18 : decode cX8_trueHands 18 = .ok (.iload 4, 2) := by decide +kernel
theorem dX8_trueHands_20 : decode cX8_trueHands 20 = .ok (.aaload, 1) := by decide +kernel
theorem dX8_trueHands_21 : decode cX8_trueHands 21 = .ok (.getfield 168, 3) := by decide +kernel
theorem dX8_trueHands_24 : decode cX8_trueHands 24 = .ok (.iload_n 1, 1) := by decide +kernel
theorem dX8_trueHands_25 : decode cX8_trueHands 25 = .ok (.if_icmp .ne 17, 3) := by decide +kernel
theorem dX8_trueHands_28 : decode cX8_trueHands 28 = .ok (.iload_n 3, 1) := by decide +kernel
theorem dX8_trueHands_29 : decode cX8_trueHands 29 = .ok (.aload_n 0, 1) := by decide +kernel
theorem dX8_trueHands_30 : decode cX8_trueHands 30 = .ok (.getfield 23, 3) := by decide +kernel
theorem dX8_trueHands_33 : decode cX8_trueHands 33 = .ok (.iload 4, 2) := by decide +kernel
theorem dX8_trueHands_35 : decode cX8_trueHands 35 = .ok (.aaload, 1) := by decide +kernel
theorem dX8_trueHands_36 : decode cX8_trueHands 36 = .ok (.iload_n 2, 1) := by decide +kernel
theorem dX8_trueHands_37 : decode cX8_trueHands 37 = .ok (.invokevirtual 245, 3) := by decide +kernel
theorem dX8_trueHands_40 : decode cX8_trueHands 40 = .ok (.iadd, 1) := by decide +kernel
theorem dX8_trueHands_41 : decode cX8_trueHands 41 = .ok (.istore_n 3, 1) := by decide +kernel
theorem dX8_trueHands_42 : decode cX8_trueHands 42 = .ok (.iinc 4 1, 3) := by decide +kernel
theorem dX8_trueHands_45 : decode cX8_trueHands 45 = .ok (.goto (-40), 3) := by decide +kernel
theorem dX8_trueHands_48 : decode cX8_trueHands 48 = .ok (.iload_n 3, 1) := by decide +kernel
theorem dX8_trueHands_49 : decode cX8_trueHands 49 = .ok (.ireturn, 1) := by decide +kernel
set_option maxRecDepth 20000 in
theorem ggX8_firstPaperWeek_X8_isVillage : GoodIn wsX8_firstPaperWeek wsX8_isVillage := goodIn_r _ [9, 10, 11, 8, 12] (by decide +kernel) (by decide +kernel)
set_option maxRecDepth 20000 in
theorem gX8_firstPaperWeek_X8_isVillage : GoodIn wsX8_firstPaperWeek (va_wsS RX8 72 yX8_isVillage wsX8_isVillage) := goodIn_app (goodIn_of _ (by decide +kernel)) ggX8_firstPaperWeek_X8_isVillage
set_option maxRecDepth 20000 in
theorem ggX8_firstPaperWeek_X8_trueHands : GoodIn wsX8_firstPaperWeek wsX8_trueHands := goodIn_r _ [16, 17, 18, 19, 20, 21, 22, 23, 24, 25, 26, 27, 28, 29, 30, 31, 32, 33, 34, 35, 36, 37, 38, 39, 40, 41, 42, 49, 50, 51, 52, 53, 54, 55, 56, 57, 58, 59, 60, 61] (by decide +kernel) (by decide +kernel)
set_option maxRecDepth 20000 in
theorem gX8_firstPaperWeek_X8_trueHands : GoodIn wsX8_firstPaperWeek (wsV RX8 227 RX8 yX8_trueHands wsX8_trueHands) := goodIn_app (goodIn_of _ (by decide +kernel)) ggX8_firstPaperWeek_X8_trueHands
theorem dX8_firstPaperWeek_0 : decode cX8_firstPaperWeek 0 = .ok (.iload_n 1, 1) := by decide +kernel
theorem dX8_firstPaperWeek_1 : decode cX8_firstPaperWeek 1 = .ok (.invokestatic 72, 3) := by decide +kernel
theorem dX8_firstPaperWeek_4 : decode cX8_firstPaperWeek 4 = .ok (.ifCond .ne 5, 3) := by decide +kernel
theorem dX8_firstPaperWeek_7 : decode cX8_firstPaperWeek 7 = .ok (.iconst (-1), 1) := by decide +kernel
theorem dX8_firstPaperWeek_8 : decode cX8_firstPaperWeek 8 = .ok (.ireturn, 1) := by decide +kernel
theorem dX8_firstPaperWeek_9 : decode cX8_firstPaperWeek 9 = .ok (.aload_n 0, 1) := by decide +kernel
theorem dX8_firstPaperWeek_10 : decode cX8_firstPaperWeek 10 = .ok (.getfield 11, 3) := by decide +kernel
theorem dX8_firstPaperWeek_13 : decode cX8_firstPaperWeek 13 = .ok (.iload_n 1, 1) := by decide +kernel
theorem dX8_firstPaperWeek_14 : decode cX8_firstPaperWeek 14 = .ok (.aaload, 1) := by decide +kernel
theorem dX8_firstPaperWeek_15 : decode cX8_firstPaperWeek 15 = .ok (.getfield 248, 3) := by decide +kernel
theorem dX8_firstPaperWeek_18 : decode cX8_firstPaperWeek 18 = .ok (.astore_n 2, 1) := by decide +kernel
theorem dX8_firstPaperWeek_19 : decode cX8_firstPaperWeek 19 = .ok (.aload_n 2, 1) := by decide +kernel
theorem dX8_firstPaperWeek_20 : decode cX8_firstPaperWeek 20 = .ok (.ifnull 35, 3) := by decide +kernel
theorem dX8_firstPaperWeek_23 : decode cX8_firstPaperWeek 23 = .ok (.aload_n 2, 1) := by decide +kernel
theorem dX8_firstPaperWeek_24 : decode cX8_firstPaperWeek 24 = .ok (.getfield 252, 3) := by decide +kernel
theorem dX8_firstPaperWeek_27 : decode cX8_firstPaperWeek 27 = .ok (.bipush 6, 2) := by decide +kernel
theorem dX8_firstPaperWeek_29 : decode cX8_firstPaperWeek 29 = .ok (.aload_n 0, 1) := by decide +kernel
theorem dX8_firstPaperWeek_30 : decode cX8_firstPaperWeek 30 = .ok (.iload_n 1, 1) := by decide +kernel
theorem dX8_firstPaperWeek_31 : decode cX8_firstPaperWeek 31 = .ok (.aload_n 2, 1) := by decide +kernel
theorem dX8_firstPaperWeek_32 : decode cX8_firstPaperWeek 32 = .ok (.getfield 255, 3) := by decide +kernel
theorem dX8_firstPaperWeek_35 : decode cX8_firstPaperWeek 35 = .ok (.invokevirtual 227, 3) := by decide +kernel
theorem dX8_firstPaperWeek_38 : decode cX8_firstPaperWeek 38 = .ok (.imul, 1) := by decide +kernel
theorem dX8_firstPaperWeek_39 : decode cX8_firstPaperWeek 39 = .ok (.if_icmp .le 8, 3) := by decide +kernel
theorem dX8_firstPaperWeek_42 : decode cX8_firstPaperWeek 42 = .ok (.aload_n 2, 1) := by decide +kernel
theorem dX8_firstPaperWeek_43 : decode cX8_firstPaperWeek 43 = .ok (.getfield 255, 3) := by decide +kernel
theorem dX8_firstPaperWeek_46 : decode cX8_firstPaperWeek 46 = .ok (.ireturn, 1) := by decide +kernel
theorem dX8_firstPaperWeek_47 : decode cX8_firstPaperWeek 47 = .ok (.aload_n 2, 1) := by decide +kernel
theorem dX8_firstPaperWeek_48 : decode cX8_firstPaperWeek 48 = .ok (.getfield 258, 3) := by decide +kernel
theorem dX8_firstPaperWeek_51 : decode cX8_firstPaperWeek 51 = .ok (.astore_n 2, 1) := by decide +kernel
theorem dX8_firstPaperWeek_52 : decode cX8_firstPaperWeek 52 = .ok (.goto (-33), 3) := by decide +kernel
theorem dX8_firstPaperWeek_55 : decode cX8_firstPaperWeek 55 = .ok (.iconst (-1), 1) := by decide +kernel
theorem dX8_firstPaperWeek_56 : decode cX8_firstPaperWeek 56 = .ok (.ireturn, 1) := by decide +kernel
set_option maxRecDepth 20000 in
theorem ggX8_hourOfCall_X8_hoursFor : GoodIn wsX8_hourOfCall wsX8_hoursFor := goodIn_r _ [6, 7, 8, 9, 10, 11, 12, 5, 13] (by decide +kernel) (by decide +kernel)
set_option maxRecDepth 20000 in
theorem gX8_hourOfCall_X8_hoursFor : GoodIn wsX8_hourOfCall (va_wsS RX8 223 yX8_hoursFor wsX8_hoursFor) := goodIn_app (goodIn_of _ (by decide +kernel)) ggX8_hourOfCall_X8_hoursFor
theorem dX8_hourOfCall_0 : decode cX8_hourOfCall 0 = .ok (.aload_n 0, 1) := by decide +kernel
theorem dX8_hourOfCall_1 : decode cX8_hourOfCall 1 = .ok (.getfield 11, 3) := by decide +kernel
theorem dX8_hourOfCall_4 : decode cX8_hourOfCall 4 = .ok (.iload_n 1, 1) := by decide +kernel
theorem dX8_hourOfCall_5 : decode cX8_hourOfCall 5 = .ok (.aaload, 1) := by decide +kernel
theorem dX8_hourOfCall_6 : decode cX8_hourOfCall 6 = .ok (.getfield 80, 3) := by decide +kernel
theorem dX8_hourOfCall_9 : decode cX8_hourOfCall 9 = .ok (.aload_n 0, 1) := by decide +kernel
theorem dX8_hourOfCall_10 : decode cX8_hourOfCall 10 = .ok (.getfield 11, 3) := by decide +kernel
theorem dX8_hourOfCall_13 : decode cX8_hourOfCall 13 = .ok (.iload_n 2, 1) := by decide +kernel
theorem dX8_hourOfCall_14 : decode cX8_hourOfCall 14 = .ok (.aaload, 1) := by decide +kernel
theorem dX8_hourOfCall_15 : decode cX8_hourOfCall 15 = .ok (.getfield 80, 3) := by decide +kernel
theorem dX8_hourOfCall_18 : decode cX8_hourOfCall 18 = .ok (.bipush 6, 2) := by decide +kernel
theorem dX8_hourOfCall_20 : decode cX8_hourOfCall 20 = .ok (.invokestatic 223, 3) := by decide +kernel
theorem dX8_hourOfCall_23 : decode cX8_hourOfCall 23 = .ok (.ireturn, 1) := by decide +kernel
set_option maxRecDepth 20000 in
theorem ggX8_hoursFor_X8_dividedUp : GoodIn wsX8_hoursFor wsX8_dividedUp := goodIn_r _ [8] (by decide +kernel) (by decide +kernel)
set_option maxRecDepth 20000 in
theorem gX8_hoursFor_X8_dividedUp : GoodIn wsX8_hoursFor (va_wsS RX8 264 yX8_dividedUp wsX8_dividedUp) := goodIn_app (goodIn_of _ (by decide +kernel)) ggX8_hoursFor_X8_dividedUp
theorem dX8_hoursFor_0 : decode cX8_hoursFor 0 = .ok (.iload_n 0, 1) := by decide +kernel
theorem dX8_hoursFor_1 : decode cX8_hoursFor 1 = .ok (.iload_n 1, 1) := by decide +kernel
theorem dX8_hoursFor_2 : decode cX8_hoursFor 2 = .ok (.isub, 1) := by decide +kernel
theorem dX8_hoursFor_3 : decode cX8_hoursFor 3 = .ok (.invokestatic 261, 3) := by decide +kernel
theorem dX8_hoursFor_6 : decode cX8_hoursFor 6 = .ok (.iload_n 2, 1) := by decide +kernel
theorem dX8_hoursFor_7 : decode cX8_hoursFor 7 = .ok (.invokestatic 264, 3) := by decide +kernel
theorem dX8_hoursFor_10 : decode cX8_hoursFor 10 = .ok (.ireturn, 1) := by decide +kernel
theorem dX8_dividedUp_0 : decode cX8_dividedUp 0 = .ok (.iload_n 1, 1) := by decide +kernel
theorem dX8_dividedUp_1 : decode cX8_dividedUp 1 = .ok (.ifCond .gt 7, 3) := by decide +kernel
theorem dX8_dividedUp_4 : decode cX8_dividedUp 4 = .ok (.iconst 0, 1) := by decide +kernel
theorem dX8_dividedUp_5 : decode cX8_dividedUp 5 = .ok (.goto 10, 3) := by decide +kernel
theorem dX8_dividedUp_8 : decode cX8_dividedUp 8 = .ok (.iload_n 0, 1) := by decide +kernel
theorem dX8_dividedUp_9 : decode cX8_dividedUp 9 = .ok (.iload_n 1, 1) := by decide +kernel
theorem dX8_dividedUp_10 : decode cX8_dividedUp 10 = .ok (.iadd, 1) := by decide +kernel
theorem dX8_dividedUp_11 : decode cX8_dividedUp 11 = .ok (.iconst 1, 1) := by decide +kernel
theorem dX8_dividedUp_12 : decode cX8_dividedUp 12 = .ok (.isub, 1) := by decide +kernel
theorem dX8_dividedUp_13 : decode cX8_dividedUp 13 = .ok (.iload_n 1, 1) := by decide +kernel
theorem dX8_dividedUp_14 : decode cX8_dividedUp 14 = .ok (.idiv, 1) := by decide +kernel
theorem dX8_dividedUp_15 : decode cX8_dividedUp 15 = .ok (.ireturn, 1) := by decide +kernel
end
section
def wsX9_init_r1 : List Cond := [Cond.methodLink RX9 1 objectInit, Cond.instanceMethod objectInit, Cond.code objectInit ⟨#[0xb1]⟩ 1 none, Cond.arrayClass .int, Cond.fieldLink RX9 9 "DikeHandsModel" "mile" "[I", Cond.fieldLink RX9 13 "DikeHandsModel" "height" "[I", Cond.fieldLink RX9 16 "DikeHandsModel" "soil" "[I", Cond.fieldLink RX9 19 "DikeHandsModel" "loss" "[I", Cond.fieldLink RX9 22 "DikeHandsModel" "broke" "[I", Cond.fieldLink RX9 25 "DikeHandsModel" "worked" "[I", Cond.fieldLink RX9 28 "DikeHandsModel" "village" "[I", Cond.fieldLink RX9 31 "DikeHandsModel" "came" "[I", Cond.fieldLink RX9 34 "DikeHandsModel" "firstAcres" "[I", Cond.fieldLink RX9 37 "DikeHandsModel" "firstHands" "[I", Cond.fieldLink RX9 40 "DikeHandsModel" "changeOf" "[I", Cond.fieldLink RX9 43 "DikeHandsModel" "trueFrom" "[I", Cond.fieldLink RX9 46 "DikeHandsModel" "toldAt" "[I", Cond.fieldLink RX9 49 "DikeHandsModel" "acresTo" "[I", Cond.fieldLink RX9 52 "DikeHandsModel" "handsTo" "[I", Cond.fieldLink RX9 55 "DikeHandsModel" "lawYear" "[I", Cond.fieldLink RX9 58 "DikeHandsModel" "lawWhat" "[I", Cond.fieldLink RX9 61 "DikeHandsModel" "lawCoin" "[I", Cond.fieldLink RX9 64 "DikeHandsModel" "own" "[I", Cond.fieldLink RX9 67 "DikeHandsModel" "others" "[I"]
def wsX9_init_r2 : List Cond := [Cond.fieldLink RX9 70 "DikeHandsModel" "bought" "[I", Cond.fieldLink RX9 73 "DikeHandsModel" "forOthers" "[I", Cond.fieldLink RX9 76 "DikeHandsModel" "substitute" "[I", Cond.fieldLink RX9 79 "DikeHandsModel" "did" "[I", Cond.fieldLink RX9 82 "DikeHandsModel" "level" "[I", Cond.fieldLink RX9 85 "DikeHandsModel" "most" "[I"]
def wsX9_init : List Cond := .code yX9_init cX9_init 2 none :: ((wsX9_init_r1 ++ wsX9_init_r2) ++ wsX90)
def wsX9_in : List Cond := .code yX9_in cX9_in 3 (some .boolean) :: ([])
def wsX9_isVillage : List Cond := .code yX9_isVillage cX9_isVillage 1 (some .boolean) :: ([.methodLink RX9 88 yX9_in, .static yX9_in, .initialized RX9, .code yX9_in cX9_in 3 (some .boolean)])
def wsX9_isRod : List Cond := .code yX9_isRod cX9_isRod 1 (some .boolean) :: ([.methodLink RX9 88 yX9_in, .static yX9_in, .initialized RX9, .code yX9_in cX9_in 3 (some .boolean)])
def wsX9_isHouse : List Cond := .code yX9_isHouse cX9_isHouse 2 (some .boolean) :: ([.fieldLink RX9 92 "DikeHandsModel" "houses" "I", .methodLink RX9 88 yX9_in, .static yX9_in, .initialized RX9, .code yX9_in cX9_in 3 (some .boolean)] ++ wsX90)
def wsX9_isYear : List Cond := .code yX9_isYear cX9_isYear 2 (some .boolean) :: ([.fieldLink RX9 96 "DikeHandsModel" "now" "I", .methodLink RX9 88 yX9_in, .static yX9_in, .initialized RX9, .code yX9_in cX9_in 3 (some .boolean)] ++ wsX90)
def wsX9_village : List Cond := .code yX9_village cX9_village 3 (some .boolean) :: ([.fieldLink RX9 9 "DikeHandsModel" "mile" "[I", .methodLink RX9 99 yX9_isVillage, .static yX9_isVillage, .initialized RX9, .code yX9_isVillage cX9_isVillage 1 (some .boolean), .methodLink RX9 88 yX9_in, .static yX9_in, .code yX9_in cX9_in 3 (some .boolean)] ++ wsX90)
def wsX9_rod : List Cond := .code yX9_rod cX9_rod 4 (some .boolean) :: ([.fieldLink RX9 16 "DikeHandsModel" "soil" "[I", .fieldLink RX9 19 "DikeHandsModel" "loss" "[I", .methodLink RX9 103 yX9_isRod, .static yX9_isRod, .initialized RX9, .code yX9_isRod cX9_isRod 1 (some .boolean), .methodLink RX9 88 yX9_in, .static yX9_in, .code yX9_in cX9_in 3 (some .boolean)] ++ wsX90)
def wsX9_law : List Cond := .code yX9_law cX9_law 4 (some .int) :: ([.fieldLink RX9 106 "DikeHandsModel" "laws" "I", .fieldLink RX9 55 "DikeHandsModel" "lawYear" "[I", .fieldLink RX9 58 "DikeHandsModel" "lawWhat" "[I", .fieldLink RX9 61 "DikeHandsModel" "lawCoin" "[I", .methodLink RX9 88 yX9_in, .static yX9_in, .initialized RX9, .code yX9_in cX9_in 3 (some .boolean)] ++ wsX90)
def wsX9_lawOf : List Cond := .code yX9_lawOf cX9_lawOf 4 (some .int) :: ([.fieldLink RX9 106 "DikeHandsModel" "laws" "I", .fieldLink RX9 55 "DikeHandsModel" "lawYear" "[I"] ++ wsX90)
def wsX9_coinNow : List Cond := .code yX9_coinNow cX9_coinNow 2 (some .int) :: ([.fieldLink RX9 96 "DikeHandsModel" "now" "I", .fieldLink RX9 61 "DikeHandsModel" "lawCoin" "[I", .methodLink RX9 109 yX9_lawOf, .instanceMethod yX9_lawOf, .selects RX9 yX9_lawOf yX9_lawOf, .initialized RX9, .code yX9_lawOf cX9_lawOf 4 (some .int), .fieldLink RX9 106 "DikeHandsModel" "laws" "I", .fieldLink RX9 55 "DikeHandsModel" "lawYear" "[I"] ++ wsX90)
def wsX9_house : List Cond := .code yX9_house cX9_house 4 (some .int) :: ([.fieldLink RX9 92 "DikeHandsModel" "houses" "I", .fieldLink RX9 28 "DikeHandsModel" "village" "[I", .fieldLink RX9 31 "DikeHandsModel" "came" "[I", .fieldLink RX9 96 "DikeHandsModel" "now" "I", .fieldLink RX9 34 "DikeHandsModel" "firstAcres" "[I", .fieldLink RX9 37 "DikeHandsModel" "firstHands" "[I", .methodLink RX9 99 yX9_isVillage, .static yX9_isVillage, .initialized RX9, .code yX9_isVillage cX9_isVillage 1 (some .boolean), .methodLink RX9 88 yX9_in, .static yX9_in, .code yX9_in cX9_in 3 (some .boolean)] ++ wsX90)
def wsX9_change : List Cond := .code yX9_change cX9_change 5 (some .boolean) :: ([.fieldLink RX9 31 "DikeHandsModel" "came" "[I", .fieldLink RX9 96 "DikeHandsModel" "now" "I", .fieldLink RX9 116 "DikeHandsModel" "changes" "I", .fieldLink RX9 40 "DikeHandsModel" "changeOf" "[I", .fieldLink RX9 43 "DikeHandsModel" "trueFrom" "[I", .fieldLink RX9 46 "DikeHandsModel" "toldAt" "[I", .fieldLink RX9 49 "DikeHandsModel" "acresTo" "[I", .fieldLink RX9 52 "DikeHandsModel" "handsTo" "[I", .methodLink RX9 113 yX9_isHouse, .instanceMethod yX9_isHouse, .selects RX9 yX9_isHouse yX9_isHouse, .initialized RX9, .code yX9_isHouse cX9_isHouse 2 (some .boolean), .fieldLink RX9 92 "DikeHandsModel" "houses" "I", .methodLink RX9 88 yX9_in, .static yX9_in, .code yX9_in cX9_in 3 (some .boolean)] ++ wsX90)
def wsX9_isListed : List Cond := .code yX9_isListed cX9_isListed 3 (some .boolean) :: ([.fieldLink RX9 31 "DikeHandsModel" "came" "[I"] ++ wsX90)
def wsX9_listedOf : List Cond := .code yX9_listedOf cX9_listedOf 6 (some .int) :: ([.fieldLink RX9 34 "DikeHandsModel" "firstAcres" "[I", .fieldLink RX9 37 "DikeHandsModel" "firstHands" "[I", .fieldLink RX9 116 "DikeHandsModel" "changes" "I", .fieldLink RX9 40 "DikeHandsModel" "changeOf" "[I", .fieldLink RX9 46 "DikeHandsModel" "toldAt" "[I", .fieldLink RX9 49 "DikeHandsModel" "acresTo" "[I", .fieldLink RX9 52 "DikeHandsModel" "handsTo" "[I"] ++ wsX90)
def wsX9_listed_r1 : List Cond := [Cond.methodLink RX9 113 yX9_isHouse, Cond.instanceMethod yX9_isHouse, Cond.selects RX9 yX9_isHouse yX9_isHouse, Cond.initialized RX9, Cond.code yX9_isHouse cX9_isHouse 2 (some .boolean), Cond.fieldLink RX9 92 "DikeHandsModel" "houses" "I", Cond.methodLink RX9 88 yX9_in, Cond.static yX9_in, Cond.code yX9_in cX9_in 3 (some .boolean), Cond.methodLink RX9 119 yX9_isYear, Cond.instanceMethod yX9_isYear, Cond.selects RX9 yX9_isYear yX9_isYear, Cond.code yX9_isYear cX9_isYear 2 (some .boolean), Cond.fieldLink RX9 96 "DikeHandsModel" "now" "I", Cond.methodLink RX9 122 yX9_isListed, Cond.instanceMethod yX9_isListed, Cond.selects RX9 yX9_isListed yX9_isListed, Cond.code yX9_isListed cX9_isListed 3 (some .boolean), Cond.fieldLink RX9 31 "DikeHandsModel" "came" "[I", Cond.methodLink RX9 126 yX9_listedOf, Cond.instanceMethod yX9_listedOf, Cond.selects RX9 yX9_listedOf yX9_listedOf, Cond.code yX9_listedOf cX9_listedOf 6 (some .int), Cond.fieldLink RX9 34 "DikeHandsModel" "firstAcres" "[I"]
def wsX9_listed_r2 : List Cond := [Cond.fieldLink RX9 37 "DikeHandsModel" "firstHands" "[I", Cond.fieldLink RX9 116 "DikeHandsModel" "changes" "I", Cond.fieldLink RX9 40 "DikeHandsModel" "changeOf" "[I", Cond.fieldLink RX9 46 "DikeHandsModel" "toldAt" "[I", Cond.fieldLink RX9 49 "DikeHandsModel" "acresTo" "[I", Cond.fieldLink RX9 52 "DikeHandsModel" "handsTo" "[I"]
def wsX9_listed : List Cond := .code yX9_listed cX9_listed 4 (some .int) :: ((wsX9_listed_r1 ++ wsX9_listed_r2) ++ wsX90)
def wsX9_trueHands : List Cond := .code yX9_trueHands cX9_trueHands 6 (some .int) :: ([.fieldLink RX9 31 "DikeHandsModel" "came" "[I", .fieldLink RX9 37 "DikeHandsModel" "firstHands" "[I", .fieldLink RX9 116 "DikeHandsModel" "changes" "I", .fieldLink RX9 40 "DikeHandsModel" "changeOf" "[I", .fieldLink RX9 43 "DikeHandsModel" "trueFrom" "[I", .fieldLink RX9 52 "DikeHandsModel" "handsTo" "[I"] ++ wsX90)
def wsX9_villageHands : List Cond := .code yX9_villageHands cX9_villageHands 5 (some .int) :: ([.fieldLink RX9 92 "DikeHandsModel" "houses" "I", .fieldLink RX9 28 "DikeHandsModel" "village" "[I", .methodLink RX9 130 yX9_trueHands, .instanceMethod yX9_trueHands, .selects RX9 yX9_trueHands yX9_trueHands, .initialized RX9, .code yX9_trueHands cX9_trueHands 6 (some .int), .fieldLink RX9 31 "DikeHandsModel" "came" "[I", .fieldLink RX9 37 "DikeHandsModel" "firstHands" "[I", .fieldLink RX9 116 "DikeHandsModel" "changes" "I", .fieldLink RX9 40 "DikeHandsModel" "changeOf" "[I", .fieldLink RX9 43 "DikeHandsModel" "trueFrom" "[I", .fieldLink RX9 52 "DikeHandsModel" "handsTo" "[I"] ++ wsX90)
def wsX9_owedOf : List Cond := .code yX9_owedOf cX9_owedOf 5 (some .int) :: ([.fieldLink RX9 58 "DikeHandsModel" "lawWhat" "[I", .methodLink RX9 109 yX9_lawOf, .instanceMethod yX9_lawOf, .selects RX9 yX9_lawOf yX9_lawOf, .initialized RX9, .code yX9_lawOf cX9_lawOf 4 (some .int), .fieldLink RX9 106 "DikeHandsModel" "laws" "I", .fieldLink RX9 55 "DikeHandsModel" "lawYear" "[I", .methodLink RX9 122 yX9_isListed, .instanceMethod yX9_isListed, .selects RX9 yX9_isListed yX9_isListed, .code yX9_isListed cX9_isListed 3 (some .boolean), .fieldLink RX9 31 "DikeHandsModel" "came" "[I", .methodLink RX9 126 yX9_listedOf, .instanceMethod yX9_listedOf, .selects RX9 yX9_listedOf yX9_listedOf, .code yX9_listedOf cX9_listedOf 6 (some .int), .fieldLink RX9 34 "DikeHandsModel" "firstAcres" "[I", .fieldLink RX9 37 "DikeHandsModel" "firstHands" "[I", .fieldLink RX9 116 "DikeHandsModel" "changes" "I", .fieldLink RX9 40 "DikeHandsModel" "changeOf" "[I", .fieldLink RX9 46 "DikeHandsModel" "toldAt" "[I", .fieldLink RX9 49 "DikeHandsModel" "acresTo" "[I", .fieldLink RX9 52 "DikeHandsModel" "handsTo" "[I"] ++ wsX90)
def wsX9_owed_r1 : List Cond := [Cond.methodLink RX9 113 yX9_isHouse, Cond.instanceMethod yX9_isHouse, Cond.selects RX9 yX9_isHouse yX9_isHouse, Cond.initialized RX9, Cond.code yX9_isHouse cX9_isHouse 2 (some .boolean), Cond.fieldLink RX9 92 "DikeHandsModel" "houses" "I", Cond.methodLink RX9 88 yX9_in, Cond.static yX9_in, Cond.code yX9_in cX9_in 3 (some .boolean), Cond.methodLink RX9 119 yX9_isYear, Cond.instanceMethod yX9_isYear, Cond.selects RX9 yX9_isYear yX9_isYear, Cond.code yX9_isYear cX9_isYear 2 (some .boolean), Cond.fieldLink RX9 96 "DikeHandsModel" "now" "I", Cond.methodLink RX9 134 yX9_owedOf, Cond.instanceMethod yX9_owedOf, Cond.selects RX9 yX9_owedOf yX9_owedOf, Cond.code yX9_owedOf cX9_owedOf 5 (some .int), Cond.fieldLink RX9 58 "DikeHandsModel" "lawWhat" "[I", Cond.methodLink RX9 109 yX9_lawOf, Cond.instanceMethod yX9_lawOf, Cond.selects RX9 yX9_lawOf yX9_lawOf, Cond.code yX9_lawOf cX9_lawOf 4 (some .int), Cond.fieldLink RX9 106 "DikeHandsModel" "laws" "I"]
def wsX9_owed_r2 : List Cond := [Cond.fieldLink RX9 55 "DikeHandsModel" "lawYear" "[I", Cond.methodLink RX9 122 yX9_isListed, Cond.instanceMethod yX9_isListed, Cond.selects RX9 yX9_isListed yX9_isListed, Cond.code yX9_isListed cX9_isListed 3 (some .boolean), Cond.fieldLink RX9 31 "DikeHandsModel" "came" "[I", Cond.methodLink RX9 126 yX9_listedOf, Cond.instanceMethod yX9_listedOf, Cond.selects RX9 yX9_listedOf yX9_listedOf, Cond.code yX9_listedOf cX9_listedOf 6 (some .int), Cond.fieldLink RX9 34 "DikeHandsModel" "firstAcres" "[I", Cond.fieldLink RX9 37 "DikeHandsModel" "firstHands" "[I", Cond.fieldLink RX9 116 "DikeHandsModel" "changes" "I", Cond.fieldLink RX9 40 "DikeHandsModel" "changeOf" "[I", Cond.fieldLink RX9 46 "DikeHandsModel" "toldAt" "[I", Cond.fieldLink RX9 49 "DikeHandsModel" "acresTo" "[I", Cond.fieldLink RX9 52 "DikeHandsModel" "handsTo" "[I"]
def wsX9_owed : List Cond := .code yX9_owed cX9_owed 3 (some .int) :: ((wsX9_owed_r1 ++ wsX9_owed_r2) ++ wsX90)
def wsX9_yet_r1 : List Cond := [Cond.fieldLink RX9 64 "DikeHandsModel" "own" "[I", Cond.fieldLink RX9 67 "DikeHandsModel" "others" "[I", Cond.fieldLink RX9 70 "DikeHandsModel" "bought" "[I", Cond.methodLink RX9 134 yX9_owedOf, Cond.instanceMethod yX9_owedOf, Cond.selects RX9 yX9_owedOf yX9_owedOf, Cond.initialized RX9, Cond.code yX9_owedOf cX9_owedOf 5 (some .int), Cond.fieldLink RX9 58 "DikeHandsModel" "lawWhat" "[I", Cond.methodLink RX9 109 yX9_lawOf, Cond.instanceMethod yX9_lawOf, Cond.selects RX9 yX9_lawOf yX9_lawOf, Cond.code yX9_lawOf cX9_lawOf 4 (some .int), Cond.fieldLink RX9 106 "DikeHandsModel" "laws" "I", Cond.fieldLink RX9 55 "DikeHandsModel" "lawYear" "[I", Cond.methodLink RX9 122 yX9_isListed, Cond.instanceMethod yX9_isListed, Cond.selects RX9 yX9_isListed yX9_isListed, Cond.code yX9_isListed cX9_isListed 3 (some .boolean), Cond.fieldLink RX9 31 "DikeHandsModel" "came" "[I", Cond.methodLink RX9 126 yX9_listedOf, Cond.instanceMethod yX9_listedOf, Cond.selects RX9 yX9_listedOf yX9_listedOf, Cond.code yX9_listedOf cX9_listedOf 6 (some .int)]
def wsX9_yet_r2 : List Cond := [Cond.fieldLink RX9 34 "DikeHandsModel" "firstAcres" "[I", Cond.fieldLink RX9 37 "DikeHandsModel" "firstHands" "[I", Cond.fieldLink RX9 116 "DikeHandsModel" "changes" "I", Cond.fieldLink RX9 40 "DikeHandsModel" "changeOf" "[I", Cond.fieldLink RX9 46 "DikeHandsModel" "toldAt" "[I", Cond.fieldLink RX9 49 "DikeHandsModel" "acresTo" "[I", Cond.fieldLink RX9 52 "DikeHandsModel" "handsTo" "[I"]
def wsX9_yet : List Cond := .code yX9_yet cX9_yet 5 (some .int) :: ((wsX9_yet_r1 ++ wsX9_yet_r2) ++ wsX90)
def wsX9_perDay : List Cond := .code yX9_perDay cX9_perDay 2 (some .int) :: ([.fieldLink RX9 16 "DikeHandsModel" "soil" "[I"] ++ wsX90)
def wsX9_raises : List Cond := .code yX9_raises cX9_raises 3 none :: ([.fieldLink RX9 25 "DikeHandsModel" "worked" "[I", .fieldLink RX9 13 "DikeHandsModel" "height" "[I", .methodLink RX9 137 yX9_perDay, .instanceMethod yX9_perDay, .selects RX9 yX9_perDay yX9_perDay, .initialized RX9, .code yX9_perDay cX9_perDay 2 (some .int), .fieldLink RX9 16 "DikeHandsModel" "soil" "[I"] ++ wsX90)
def wsX9_work_r1 : List Cond := [Cond.fieldLink RX9 96 "DikeHandsModel" "now" "I", Cond.fieldLink RX9 28 "DikeHandsModel" "village" "[I", Cond.fieldLink RX9 76 "DikeHandsModel" "substitute" "[I", Cond.fieldLink RX9 67 "DikeHandsModel" "others" "[I", Cond.fieldLink RX9 73 "DikeHandsModel" "forOthers" "[I", Cond.fieldLink RX9 64 "DikeHandsModel" "own" "[I", Cond.fieldLink RX9 79 "DikeHandsModel" "did" "[I", Cond.fieldLink RX9 143 "DikeHandsModel" "daysDone" "I", Cond.methodLink RX9 113 yX9_isHouse, Cond.instanceMethod yX9_isHouse, Cond.selects RX9 yX9_isHouse yX9_isHouse, Cond.initialized RX9, Cond.code yX9_isHouse cX9_isHouse 2 (some .boolean), Cond.fieldLink RX9 92 "DikeHandsModel" "houses" "I", Cond.methodLink RX9 88 yX9_in, Cond.static yX9_in, Cond.code yX9_in cX9_in 3 (some .boolean), Cond.methodLink RX9 103 yX9_isRod, Cond.static yX9_isRod, Cond.code yX9_isRod cX9_isRod 1 (some .boolean), Cond.methodLink RX9 140 yX9_yet, Cond.instanceMethod yX9_yet, Cond.selects RX9 yX9_yet yX9_yet, Cond.code yX9_yet cX9_yet 5 (some .int)]
def wsX9_work_r2 : List Cond := [Cond.fieldLink RX9 70 "DikeHandsModel" "bought" "[I", Cond.methodLink RX9 134 yX9_owedOf, Cond.instanceMethod yX9_owedOf, Cond.selects RX9 yX9_owedOf yX9_owedOf, Cond.code yX9_owedOf cX9_owedOf 5 (some .int), Cond.fieldLink RX9 58 "DikeHandsModel" "lawWhat" "[I", Cond.methodLink RX9 109 yX9_lawOf, Cond.instanceMethod yX9_lawOf, Cond.selects RX9 yX9_lawOf yX9_lawOf, Cond.code yX9_lawOf cX9_lawOf 4 (some .int), Cond.fieldLink RX9 106 "DikeHandsModel" "laws" "I", Cond.fieldLink RX9 55 "DikeHandsModel" "lawYear" "[I", Cond.methodLink RX9 122 yX9_isListed, Cond.instanceMethod yX9_isListed, Cond.selects RX9 yX9_isListed yX9_isListed, Cond.code yX9_isListed cX9_isListed 3 (some .boolean), Cond.fieldLink RX9 31 "DikeHandsModel" "came" "[I", Cond.methodLink RX9 126 yX9_listedOf, Cond.instanceMethod yX9_listedOf, Cond.selects RX9 yX9_listedOf yX9_listedOf, Cond.code yX9_listedOf cX9_listedOf 6 (some .int), Cond.fieldLink RX9 34 "DikeHandsModel" "firstAcres" "[I", Cond.fieldLink RX9 37 "DikeHandsModel" "firstHands" "[I", Cond.fieldLink RX9 116 "DikeHandsModel" "changes" "I"]
def wsX9_work_r3 : List Cond := [Cond.fieldLink RX9 40 "DikeHandsModel" "changeOf" "[I", Cond.fieldLink RX9 46 "DikeHandsModel" "toldAt" "[I", Cond.fieldLink RX9 49 "DikeHandsModel" "acresTo" "[I", Cond.fieldLink RX9 52 "DikeHandsModel" "handsTo" "[I", Cond.methodLink RX9 146 yX9_raises, Cond.instanceMethod yX9_raises, Cond.selects RX9 yX9_raises yX9_raises, Cond.code yX9_raises cX9_raises 3 none, Cond.fieldLink RX9 25 "DikeHandsModel" "worked" "[I", Cond.fieldLink RX9 13 "DikeHandsModel" "height" "[I", Cond.methodLink RX9 137 yX9_perDay, Cond.instanceMethod yX9_perDay, Cond.selects RX9 yX9_perDay yX9_perDay, Cond.code yX9_perDay cX9_perDay 2 (some .int), Cond.fieldLink RX9 16 "DikeHandsModel" "soil" "[I"]
def wsX9_work : List Cond := .code yX9_work cX9_work 7 (some .int) :: ((wsX9_work_r1 ++ (wsX9_work_r2 ++ wsX9_work_r3)) ++ wsX90)
def wsX9_buy_r1 : List Cond := [Cond.fieldLink RX9 96 "DikeHandsModel" "now" "I", Cond.fieldLink RX9 70 "DikeHandsModel" "bought" "[I", Cond.fieldLink RX9 150 "DikeHandsModel" "daysBought" "I", Cond.fieldLink RX9 153 "DikeHandsModel" "chest" "I", Cond.methodLink RX9 113 yX9_isHouse, Cond.instanceMethod yX9_isHouse, Cond.selects RX9 yX9_isHouse yX9_isHouse, Cond.initialized RX9, Cond.code yX9_isHouse cX9_isHouse 2 (some .boolean), Cond.fieldLink RX9 92 "DikeHandsModel" "houses" "I", Cond.methodLink RX9 88 yX9_in, Cond.static yX9_in, Cond.code yX9_in cX9_in 3 (some .boolean), Cond.methodLink RX9 140 yX9_yet, Cond.instanceMethod yX9_yet, Cond.selects RX9 yX9_yet yX9_yet, Cond.code yX9_yet cX9_yet 5 (some .int), Cond.fieldLink RX9 64 "DikeHandsModel" "own" "[I", Cond.fieldLink RX9 67 "DikeHandsModel" "others" "[I", Cond.methodLink RX9 134 yX9_owedOf, Cond.instanceMethod yX9_owedOf, Cond.selects RX9 yX9_owedOf yX9_owedOf, Cond.code yX9_owedOf cX9_owedOf 5 (some .int), Cond.fieldLink RX9 58 "DikeHandsModel" "lawWhat" "[I"]
def wsX9_buy_r2 : List Cond := [Cond.methodLink RX9 109 yX9_lawOf, Cond.instanceMethod yX9_lawOf, Cond.selects RX9 yX9_lawOf yX9_lawOf, Cond.code yX9_lawOf cX9_lawOf 4 (some .int), Cond.fieldLink RX9 106 "DikeHandsModel" "laws" "I", Cond.fieldLink RX9 55 "DikeHandsModel" "lawYear" "[I", Cond.methodLink RX9 122 yX9_isListed, Cond.instanceMethod yX9_isListed, Cond.selects RX9 yX9_isListed yX9_isListed, Cond.code yX9_isListed cX9_isListed 3 (some .boolean), Cond.fieldLink RX9 31 "DikeHandsModel" "came" "[I", Cond.methodLink RX9 126 yX9_listedOf, Cond.instanceMethod yX9_listedOf, Cond.selects RX9 yX9_listedOf yX9_listedOf, Cond.code yX9_listedOf cX9_listedOf 6 (some .int), Cond.fieldLink RX9 34 "DikeHandsModel" "firstAcres" "[I", Cond.fieldLink RX9 37 "DikeHandsModel" "firstHands" "[I", Cond.fieldLink RX9 116 "DikeHandsModel" "changes" "I", Cond.fieldLink RX9 40 "DikeHandsModel" "changeOf" "[I", Cond.fieldLink RX9 46 "DikeHandsModel" "toldAt" "[I", Cond.fieldLink RX9 49 "DikeHandsModel" "acresTo" "[I", Cond.fieldLink RX9 52 "DikeHandsModel" "handsTo" "[I", Cond.methodLink RX9 156 yX9_coinNow, Cond.instanceMethod yX9_coinNow]
def wsX9_buy_r3 : List Cond := [Cond.selects RX9 yX9_coinNow yX9_coinNow, Cond.code yX9_coinNow cX9_coinNow 2 (some .int), Cond.fieldLink RX9 61 "DikeHandsModel" "lawCoin" "[I"]
def wsX9_buy : List Cond := .code yX9_buy cX9_buy 3 (some .int) :: ((wsX9_buy_r1 ++ (wsX9_buy_r2 ++ wsX9_buy_r3)) ++ wsX90)
def wsX9_hire_r1 : List Cond := [Cond.fieldLink RX9 153 "DikeHandsModel" "chest" "I", Cond.fieldLink RX9 160 "DikeHandsModel" "daysHired" "I", Cond.methodLink RX9 103 yX9_isRod, Cond.static yX9_isRod, Cond.initialized RX9, Cond.code yX9_isRod cX9_isRod 1 (some .boolean), Cond.methodLink RX9 88 yX9_in, Cond.static yX9_in, Cond.code yX9_in cX9_in 3 (some .boolean), Cond.methodLink RX9 156 yX9_coinNow, Cond.instanceMethod yX9_coinNow, Cond.selects RX9 yX9_coinNow yX9_coinNow, Cond.code yX9_coinNow cX9_coinNow 2 (some .int), Cond.fieldLink RX9 96 "DikeHandsModel" "now" "I", Cond.fieldLink RX9 61 "DikeHandsModel" "lawCoin" "[I", Cond.methodLink RX9 109 yX9_lawOf, Cond.instanceMethod yX9_lawOf, Cond.selects RX9 yX9_lawOf yX9_lawOf, Cond.code yX9_lawOf cX9_lawOf 4 (some .int), Cond.fieldLink RX9 106 "DikeHandsModel" "laws" "I", Cond.fieldLink RX9 55 "DikeHandsModel" "lawYear" "[I", Cond.methodLink RX9 146 yX9_raises, Cond.instanceMethod yX9_raises, Cond.selects RX9 yX9_raises yX9_raises]
def wsX9_hire_r2 : List Cond := [Cond.code yX9_raises cX9_raises 3 none, Cond.fieldLink RX9 25 "DikeHandsModel" "worked" "[I", Cond.fieldLink RX9 13 "DikeHandsModel" "height" "[I", Cond.methodLink RX9 137 yX9_perDay, Cond.instanceMethod yX9_perDay, Cond.selects RX9 yX9_perDay yX9_perDay, Cond.code yX9_perDay cX9_perDay 2 (some .int), Cond.fieldLink RX9 16 "DikeHandsModel" "soil" "[I"]
def wsX9_hire : List Cond := .code yX9_hire cX9_hire 3 (some .int) :: ((wsX9_hire_r1 ++ wsX9_hire_r2) ++ wsX90)
def wsX9_river : List Cond := .code yX9_river cX9_river 5 (some .boolean) :: ([.fieldLink RX9 96 "DikeHandsModel" "now" "I", .fieldLink RX9 82 "DikeHandsModel" "level" "[I", .methodLink RX9 88 yX9_in, .static yX9_in, .initialized RX9, .code yX9_in cX9_in 3 (some .boolean)] ++ wsX90)
def wsX9_ends : List Cond := .code yX9_ends cX9_ends 3 none :: ([.fieldLink RX9 13 "DikeHandsModel" "height" "[I", .fieldLink RX9 22 "DikeHandsModel" "broke" "[I", .fieldLink RX9 166 "DikeHandsModel" "lost" "I", .fieldLink RX9 19 "DikeHandsModel" "loss" "[I"] ++ wsX90)
def wsX9_go : List Cond := .code yX9_go cX9_go 4 (some .int) :: ([.fieldLink RX9 96 "DikeHandsModel" "now" "I", .fieldLink RX9 82 "DikeHandsModel" "level" "[I", .methodLink RX9 88 yX9_in, .static yX9_in, .initialized RX9, .code yX9_in cX9_in 3 (some .boolean), .methodLink RX9 163 yX9_ends, .instanceMethod yX9_ends, .selects RX9 yX9_ends yX9_ends, .code yX9_ends cX9_ends 3 none, .fieldLink RX9 13 "DikeHandsModel" "height" "[I", .fieldLink RX9 22 "DikeHandsModel" "broke" "[I", .fieldLink RX9 166 "DikeHandsModel" "lost" "I", .fieldLink RX9 19 "DikeHandsModel" "loss" "[I"] ++ wsX90)
def wsX9_told_r1 : List Cond := [Cond.fieldLink RX9 64 "DikeHandsModel" "own" "[I", Cond.fieldLink RX9 67 "DikeHandsModel" "others" "[I", Cond.fieldLink RX9 70 "DikeHandsModel" "bought" "[I", Cond.fieldLink RX9 76 "DikeHandsModel" "substitute" "[I", Cond.fieldLink RX9 73 "DikeHandsModel" "forOthers" "[I", Cond.methodLink RX9 113 yX9_isHouse, Cond.instanceMethod yX9_isHouse, Cond.selects RX9 yX9_isHouse yX9_isHouse, Cond.initialized RX9, Cond.code yX9_isHouse cX9_isHouse 2 (some .boolean), Cond.fieldLink RX9 92 "DikeHandsModel" "houses" "I", Cond.methodLink RX9 88 yX9_in, Cond.static yX9_in, Cond.code yX9_in cX9_in 3 (some .boolean), Cond.methodLink RX9 119 yX9_isYear, Cond.instanceMethod yX9_isYear, Cond.selects RX9 yX9_isYear yX9_isYear, Cond.code yX9_isYear cX9_isYear 2 (some .boolean), Cond.fieldLink RX9 96 "DikeHandsModel" "now" "I", Cond.methodLink RX9 134 yX9_owedOf, Cond.instanceMethod yX9_owedOf, Cond.selects RX9 yX9_owedOf yX9_owedOf, Cond.code yX9_owedOf cX9_owedOf 5 (some .int), Cond.fieldLink RX9 58 "DikeHandsModel" "lawWhat" "[I"]
def wsX9_told_r2 : List Cond := [Cond.methodLink RX9 109 yX9_lawOf, Cond.instanceMethod yX9_lawOf, Cond.selects RX9 yX9_lawOf yX9_lawOf, Cond.code yX9_lawOf cX9_lawOf 4 (some .int), Cond.fieldLink RX9 106 "DikeHandsModel" "laws" "I", Cond.fieldLink RX9 55 "DikeHandsModel" "lawYear" "[I", Cond.methodLink RX9 122 yX9_isListed, Cond.instanceMethod yX9_isListed, Cond.selects RX9 yX9_isListed yX9_isListed, Cond.code yX9_isListed cX9_isListed 3 (some .boolean), Cond.fieldLink RX9 31 "DikeHandsModel" "came" "[I", Cond.methodLink RX9 126 yX9_listedOf, Cond.instanceMethod yX9_listedOf, Cond.selects RX9 yX9_listedOf yX9_listedOf, Cond.code yX9_listedOf cX9_listedOf 6 (some .int), Cond.fieldLink RX9 34 "DikeHandsModel" "firstAcres" "[I", Cond.fieldLink RX9 37 "DikeHandsModel" "firstHands" "[I", Cond.fieldLink RX9 116 "DikeHandsModel" "changes" "I", Cond.fieldLink RX9 40 "DikeHandsModel" "changeOf" "[I", Cond.fieldLink RX9 46 "DikeHandsModel" "toldAt" "[I", Cond.fieldLink RX9 49 "DikeHandsModel" "acresTo" "[I", Cond.fieldLink RX9 52 "DikeHandsModel" "handsTo" "[I", Cond.methodLink RX9 140 yX9_yet, Cond.instanceMethod yX9_yet]
def wsX9_told_r3 : List Cond := [Cond.selects RX9 yX9_yet yX9_yet, Cond.code yX9_yet cX9_yet 5 (some .int)]
def wsX9_told : List Cond := .code yX9_told cX9_told 5 (some .int) :: ((wsX9_told_r1 ++ (wsX9_told_r2 ++ wsX9_told_r3)) ++ wsX90)
def wsX9_paperWeek_r1 : List Cond := [Cond.fieldLink RX9 96 "DikeHandsModel" "now" "I", Cond.fieldLink RX9 79 "DikeHandsModel" "did" "[I", Cond.methodLink RX9 99 yX9_isVillage, Cond.static yX9_isVillage, Cond.initialized RX9, Cond.code yX9_isVillage cX9_isVillage 1 (some .boolean), Cond.methodLink RX9 88 yX9_in, Cond.static yX9_in, Cond.code yX9_in cX9_in 3 (some .boolean), Cond.methodLink RX9 169 yX9_villageHands, Cond.instanceMethod yX9_villageHands, Cond.selects RX9 yX9_villageHands yX9_villageHands, Cond.code yX9_villageHands cX9_villageHands 5 (some .int), Cond.fieldLink RX9 92 "DikeHandsModel" "houses" "I", Cond.fieldLink RX9 28 "DikeHandsModel" "village" "[I", Cond.methodLink RX9 130 yX9_trueHands, Cond.instanceMethod yX9_trueHands, Cond.selects RX9 yX9_trueHands yX9_trueHands, Cond.code yX9_trueHands cX9_trueHands 6 (some .int), Cond.fieldLink RX9 31 "DikeHandsModel" "came" "[I", Cond.fieldLink RX9 37 "DikeHandsModel" "firstHands" "[I", Cond.fieldLink RX9 116 "DikeHandsModel" "changes" "I", Cond.fieldLink RX9 40 "DikeHandsModel" "changeOf" "[I", Cond.fieldLink RX9 43 "DikeHandsModel" "trueFrom" "[I"]
def wsX9_paperWeek_r2 : List Cond := [Cond.fieldLink RX9 52 "DikeHandsModel" "handsTo" "[I"]
def wsX9_paperWeek : List Cond := .code yX9_paperWeek cX9_paperWeek 3 (some .int) :: ((wsX9_paperWeek_r1 ++ wsX9_paperWeek_r2) ++ wsX90)
def wsX9_paper_r1 : List Cond := [Cond.methodLink RX9 172 yX9_paperWeek, Cond.instanceMethod yX9_paperWeek, Cond.selects RX9 yX9_paperWeek yX9_paperWeek, Cond.initialized RX9, Cond.code yX9_paperWeek cX9_paperWeek 3 (some .int), Cond.fieldLink RX9 96 "DikeHandsModel" "now" "I", Cond.fieldLink RX9 79 "DikeHandsModel" "did" "[I", Cond.methodLink RX9 99 yX9_isVillage, Cond.static yX9_isVillage, Cond.code yX9_isVillage cX9_isVillage 1 (some .boolean), Cond.methodLink RX9 88 yX9_in, Cond.static yX9_in, Cond.code yX9_in cX9_in 3 (some .boolean), Cond.methodLink RX9 169 yX9_villageHands, Cond.instanceMethod yX9_villageHands, Cond.selects RX9 yX9_villageHands yX9_villageHands, Cond.code yX9_villageHands cX9_villageHands 5 (some .int), Cond.fieldLink RX9 92 "DikeHandsModel" "houses" "I", Cond.fieldLink RX9 28 "DikeHandsModel" "village" "[I", Cond.methodLink RX9 130 yX9_trueHands, Cond.instanceMethod yX9_trueHands, Cond.selects RX9 yX9_trueHands yX9_trueHands, Cond.code yX9_trueHands cX9_trueHands 6 (some .int), Cond.fieldLink RX9 31 "DikeHandsModel" "came" "[I"]
def wsX9_paper_r2 : List Cond := [Cond.fieldLink RX9 37 "DikeHandsModel" "firstHands" "[I", Cond.fieldLink RX9 116 "DikeHandsModel" "changes" "I", Cond.fieldLink RX9 40 "DikeHandsModel" "changeOf" "[I", Cond.fieldLink RX9 43 "DikeHandsModel" "trueFrom" "[I", Cond.fieldLink RX9 52 "DikeHandsModel" "handsTo" "[I"]
def wsX9_paper : List Cond := .code yX9_paper cX9_paper 2 (some .boolean) :: ((wsX9_paper_r1 ++ wsX9_paper_r2) ++ wsX90)
def wsX9_needs : List Cond := .code yX9_needs cX9_needs 4 (some .int) :: ([.fieldLink RX9 13 "DikeHandsModel" "height" "[I", .methodLink RX9 137 yX9_perDay, .instanceMethod yX9_perDay, .selects RX9 yX9_perDay yX9_perDay, .initialized RX9, .code yX9_perDay cX9_perDay 2 (some .int), .fieldLink RX9 16 "DikeHandsModel" "soil" "[I"] ++ wsX90)
def wsX9_bank : List Cond := .code yX9_bank cX9_bank 4 (some .int) :: ([.fieldLink RX9 13 "DikeHandsModel" "height" "[I", .fieldLink RX9 22 "DikeHandsModel" "broke" "[I", .fieldLink RX9 25 "DikeHandsModel" "worked" "[I", .methodLink RX9 103 yX9_isRod, .static yX9_isRod, .initialized RX9, .code yX9_isRod cX9_isRod 1 (some .boolean), .methodLink RX9 88 yX9_in, .static yX9_in, .code yX9_in cX9_in 3 (some .boolean), .methodLink RX9 175 yX9_needs, .instanceMethod yX9_needs, .selects RX9 yX9_needs yX9_needs, .code yX9_needs cX9_needs 4 (some .int), .methodLink RX9 137 yX9_perDay, .instanceMethod yX9_perDay, .selects RX9 yX9_perDay yX9_perDay, .code yX9_perDay cX9_perDay 2 (some .int), .fieldLink RX9 16 "DikeHandsModel" "soil" "[I"] ++ wsX90)
def wsX9_plans : List Cond := .code yX9_plans cX9_plans 7 none :: ([.fieldLink RX9 85 "DikeHandsModel" "most" "[I", .fieldLink RX9 19 "DikeHandsModel" "loss" "[I", .methodLink RX9 175 yX9_needs, .instanceMethod yX9_needs, .selects RX9 yX9_needs yX9_needs, .initialized RX9, .code yX9_needs cX9_needs 4 (some .int), .fieldLink RX9 13 "DikeHandsModel" "height" "[I", .methodLink RX9 137 yX9_perDay, .instanceMethod yX9_perDay, .selects RX9 yX9_perDay yX9_perDay, .code yX9_perDay cX9_perDay 2 (some .int), .fieldLink RX9 16 "DikeHandsModel" "soil" "[I"] ++ wsX90)
def wsX9_isPlan : List Cond := .code yX9_isPlan cX9_isPlan 2 (some .boolean) :: ([.methodLink RX9 88 yX9_in, .static yX9_in, .initialized RX9, .code yX9_in cX9_in 3 (some .boolean)])
def wsX9_saved : List Cond := .code yX9_saved cX9_saved 3 (some .int) :: ([.fieldLink RX9 85 "DikeHandsModel" "most" "[I", .methodLink RX9 178 yX9_isPlan, .static yX9_isPlan, .initialized RX9, .code yX9_isPlan cX9_isPlan 2 (some .boolean), .methodLink RX9 88 yX9_in, .static yX9_in, .code yX9_in cX9_in 3 (some .boolean), .methodLink RX9 181 yX9_plans, .instanceMethod yX9_plans, .selects RX9 yX9_plans yX9_plans, .code yX9_plans cX9_plans 7 none, .fieldLink RX9 19 "DikeHandsModel" "loss" "[I", .methodLink RX9 175 yX9_needs, .instanceMethod yX9_needs, .selects RX9 yX9_needs yX9_needs, .code yX9_needs cX9_needs 4 (some .int), .fieldLink RX9 13 "DikeHandsModel" "height" "[I", .methodLink RX9 137 yX9_perDay, .instanceMethod yX9_perDay, .selects RX9 yX9_perDay yX9_perDay, .code yX9_perDay cX9_perDay 2 (some .int), .fieldLink RX9 16 "DikeHandsModel" "soil" "[I"] ++ wsX90)
def wsX9_chosen : List Cond := .code yX9_chosen cX9_chosen 7 (some .int) :: ([.fieldLink RX9 85 "DikeHandsModel" "most" "[I", .methodLink RX9 178 yX9_isPlan, .static yX9_isPlan, .initialized RX9, .code yX9_isPlan cX9_isPlan 2 (some .boolean), .methodLink RX9 88 yX9_in, .static yX9_in, .code yX9_in cX9_in 3 (some .boolean), .methodLink RX9 181 yX9_plans, .instanceMethod yX9_plans, .selects RX9 yX9_plans yX9_plans, .code yX9_plans cX9_plans 7 none, .fieldLink RX9 19 "DikeHandsModel" "loss" "[I", .methodLink RX9 175 yX9_needs, .instanceMethod yX9_needs, .selects RX9 yX9_needs yX9_needs, .code yX9_needs cX9_needs 4 (some .int), .fieldLink RX9 13 "DikeHandsModel" "height" "[I", .methodLink RX9 137 yX9_perDay, .instanceMethod yX9_perDay, .selects RX9 yX9_perDay yX9_perDay, .code yX9_perDay cX9_perDay 2 (some .int), .fieldLink RX9 16 "DikeHandsModel" "soil" "[I"] ++ wsX90)
def wsX9_hours : List Cond := .code yX9_hours cX9_hours 4 (some .int) :: ([])
def wsX9_called : List Cond := .code yX9_called cX9_called 3 (some .int) :: ([.fieldLink RX9 9 "DikeHandsModel" "mile" "[I", .methodLink RX9 99 yX9_isVillage, .static yX9_isVillage, .initialized RX9, .code yX9_isVillage cX9_isVillage 1 (some .boolean), .methodLink RX9 88 yX9_in, .static yX9_in, .code yX9_in cX9_in 3 (some .boolean), .methodLink RX9 185 yX9_hours, .static yX9_hours, .code yX9_hours cX9_hours 4 (some .int)] ++ wsX90)
def wsX9_arrived_r1 : List Cond := [Cond.fieldLink RX9 9 "DikeHandsModel" "mile" "[I", Cond.fieldLink RX9 96 "DikeHandsModel" "now" "I", Cond.methodLink RX9 99 yX9_isVillage, Cond.static yX9_isVillage, Cond.initialized RX9, Cond.code yX9_isVillage cX9_isVillage 1 (some .boolean), Cond.methodLink RX9 88 yX9_in, Cond.static yX9_in, Cond.code yX9_in cX9_in 3 (some .boolean), Cond.methodLink RX9 103 yX9_isRod, Cond.static yX9_isRod, Cond.code yX9_isRod cX9_isRod 1 (some .boolean), Cond.methodLink RX9 188 yX9_called, Cond.instanceMethod yX9_called, Cond.selects RX9 yX9_called yX9_called, Cond.code yX9_called cX9_called 3 (some .int), Cond.methodLink RX9 185 yX9_hours, Cond.static yX9_hours, Cond.code yX9_hours cX9_hours 4 (some .int), Cond.methodLink RX9 169 yX9_villageHands, Cond.instanceMethod yX9_villageHands, Cond.selects RX9 yX9_villageHands yX9_villageHands, Cond.code yX9_villageHands cX9_villageHands 5 (some .int), Cond.fieldLink RX9 92 "DikeHandsModel" "houses" "I"]
def wsX9_arrived_r2 : List Cond := [Cond.fieldLink RX9 28 "DikeHandsModel" "village" "[I", Cond.methodLink RX9 130 yX9_trueHands, Cond.instanceMethod yX9_trueHands, Cond.selects RX9 yX9_trueHands yX9_trueHands, Cond.code yX9_trueHands cX9_trueHands 6 (some .int), Cond.fieldLink RX9 31 "DikeHandsModel" "came" "[I", Cond.fieldLink RX9 37 "DikeHandsModel" "firstHands" "[I", Cond.fieldLink RX9 116 "DikeHandsModel" "changes" "I", Cond.fieldLink RX9 40 "DikeHandsModel" "changeOf" "[I", Cond.fieldLink RX9 43 "DikeHandsModel" "trueFrom" "[I", Cond.fieldLink RX9 52 "DikeHandsModel" "handsTo" "[I"]
def wsX9_arrived : List Cond := .code yX9_arrived cX9_arrived 6 (some .int) :: ((wsX9_arrived_r1 ++ wsX9_arrived_r2) ++ wsX90)
def wsX9_count : List Cond := .code yX9_count cX9_count 2 (some .int) :: ([.fieldLink RX9 96 "DikeHandsModel" "now" "I", .fieldLink RX9 92 "DikeHandsModel" "houses" "I", .fieldLink RX9 106 "DikeHandsModel" "laws" "I", .fieldLink RX9 116 "DikeHandsModel" "changes" "I", .fieldLink RX9 153 "DikeHandsModel" "chest" "I", .fieldLink RX9 166 "DikeHandsModel" "lost" "I", .fieldLink RX9 143 "DikeHandsModel" "daysDone" "I", .fieldLink RX9 150 "DikeHandsModel" "daysBought" "I", .fieldLink RX9 160 "DikeHandsModel" "daysHired" "I"] ++ wsX90)
theorem dX9_init_0 : decode cX9_init 0 = .ok (.aload_n 0, 1) := by decide +kernel
theorem dX9_init_1 : decode cX9_init 1 = .ok (.invokespecial 1, 3) := by decide +kernel
theorem dX9_init_4 : decode cX9_init 4 = .ok (.aload_n 0, 1) := by decide +kernel
theorem dX9_init_5 : decode cX9_init 5 = .ok (.bipush 8, 2) := by decide +kernel
theorem dX9_init_7 : decode cX9_init 7 = .ok (.newarray .int, 2) := by decide +kernel
theorem dX9_init_9 : decode cX9_init 9 = .ok (.putfield 9, 3) := by decide +kernel
theorem dX9_init_12 : decode cX9_init 12 = .ok (.aload_n 0, 1) := by decide +kernel
theorem dX9_init_13 : decode cX9_init 13 = .ok (.bipush 30, 2) := by decide +kernel
theorem dX9_init_15 : decode cX9_init 15 = .ok (.newarray .int, 2) := by decide +kernel
theorem dX9_init_17 : decode cX9_init 17 = .ok (.putfield 13, 3) := by decide +kernel
theorem dX9_init_20 : decode cX9_init 20 = .ok (.aload_n 0, 1) := by decide +kernel
theorem dX9_init_21 : decode cX9_init 21 = .ok (.bipush 30, 2) := by decide +kernel
theorem dX9_init_23 : decode cX9_init 23 = .ok (.newarray .int, 2) := by decide +kernel
theorem dX9_init_25 : decode cX9_init 25 = .ok (.putfield 16, 3) := by decide +kernel
theorem dX9_init_28 : decode cX9_init 28 = .ok (.aload_n 0, 1) := by decide +kernel
theorem dX9_init_29 : decode cX9_init 29 = .ok (.bipush 30, 2) := by decide +kernel
theorem dX9_init_31 : decode cX9_init 31 = .ok (.newarray .int, 2) := by decide +kernel
theorem dX9_init_33 : decode cX9_init 33 = .ok (.putfield 19, 3) := by decide +kernel
theorem dX9_init_36 : decode cX9_init 36 = .ok (.aload_n 0, 1) := by decide +kernel
theorem dX9_init_37 : decode cX9_init 37 = .ok (.bipush 30, 2) := by decide +kernel
theorem dX9_init_39 : decode cX9_init 39 = .ok (.newarray .int, 2) := by decide +kernel
theorem dX9_init_41 : decode cX9_init 41 = .ok (.putfield 22, 3) := by decide +kernel
theorem dX9_init_44 : decode cX9_init 44 = .ok (.aload_n 0, 1) := by decide +kernel
theorem dX9_init_45 : decode cX9_init 45 = .ok (.bipush 30, 2) := by decide +kernel
theorem dX9_init_47 : decode cX9_init 47 = .ok (.newarray .int, 2) := by decide +kernel
theorem dX9_init_49 : decode cX9_init 49 = .ok (.putfield 25, 3) := by decide +kernel
theorem dX9_init_52 : decode cX9_init 52 = .ok (.aload_n 0, 1) := by decide +kernel
theorem dX9_init_53 : decode cX9_init 53 = .ok (.bipush 40, 2) := by decide +kernel
theorem dX9_init_55 : decode cX9_init 55 = .ok (.newarray .int, 2) := by decide +kernel
theorem dX9_init_57 : decode cX9_init 57 = .ok (.putfield 28, 3) := by decide +kernel
theorem dX9_init_60 : decode cX9_init 60 = .ok (.aload_n 0, 1) := by decide +kernel
theorem dX9_init_61 : decode cX9_init 61 = .ok (.bipush 40, 2) := by decide +kernel
theorem dX9_init_63 : decode cX9_init 63 = .ok (.newarray .int, 2) := by decide +kernel
theorem dX9_init_65 : decode cX9_init 65 = .ok (.putfield 31, 3) := by decide +kernel
theorem dX9_init_68 : decode cX9_init 68 = .ok (.aload_n 0, 1) := by decide +kernel
theorem dX9_init_69 : decode cX9_init 69 = .ok (.bipush 40, 2) := by decide +kernel
theorem dX9_init_71 : decode cX9_init 71 = .ok (.newarray .int, 2) := by decide +kernel
theorem dX9_init_73 : decode cX9_init 73 = .ok (.putfield 34, 3) := by decide +kernel
theorem dX9_init_76 : decode cX9_init 76 = .ok (.aload_n 0, 1) := by decide +kernel
theorem dX9_init_77 : decode cX9_init 77 = .ok (.bipush 40, 2) := by decide +kernel
theorem dX9_init_79 : decode cX9_init 79 = .ok (.newarray .int, 2) := by decide +kernel
theorem dX9_init_81 : decode cX9_init 81 = .ok (.putfield 37, 3) := by decide +kernel
theorem dX9_init_84 : decode cX9_init 84 = .ok (.aload_n 0, 1) := by decide +kernel
theorem dX9_init_85 : decode cX9_init 85 = .ok (.sipush 200, 3) := by decide +kernel
theorem dX9_init_88 : decode cX9_init 88 = .ok (.newarray .int, 2) := by decide +kernel
theorem dX9_init_90 : decode cX9_init 90 = .ok (.putfield 40, 3) := by decide +kernel
theorem dX9_init_93 : decode cX9_init 93 = .ok (.aload_n 0, 1) := by decide +kernel
theorem dX9_init_94 : decode cX9_init 94 = .ok (.sipush 200, 3) := by decide +kernel
theorem dX9_init_97 : decode cX9_init 97 = .ok (.newarray .int, 2) := by decide +kernel
theorem dX9_init_99 : decode cX9_init 99 = .ok (.putfield 43, 3) := by decide +kernel
theorem dX9_init_102 : decode cX9_init 102 = .ok (.aload_n 0, 1) := by decide +kernel
theorem dX9_init_103 : decode cX9_init 103 = .ok (.sipush 200, 3) := by decide +kernel
theorem dX9_init_106 : decode cX9_init 106 = .ok (.newarray .int, 2) := by decide +kernel
theorem dX9_init_108 : decode cX9_init 108 = .ok (.putfield 46, 3) := by decide +kernel
theorem dX9_init_111 : decode cX9_init 111 = .ok (.aload_n 0, 1) := by decide +kernel
theorem dX9_init_112 : decode cX9_init 112 = .ok (.sipush 200, 3) := by decide +kernel
theorem dX9_init_115 : decode cX9_init 115 = .ok (.newarray .int, 2) := by decide +kernel
theorem dX9_init_117 : decode cX9_init 117 = .ok (.putfield 49, 3) := by decide +kernel
theorem dX9_init_120 : decode cX9_init 120 = .ok (.aload_n 0, 1) := by decide +kernel
theorem dX9_init_121 : decode cX9_init 121 = .ok (.sipush 200, 3) := by decide +kernel
theorem dX9_init_124 : decode cX9_init 124 = .ok (.newarray .int, 2) := by decide +kernel
theorem dX9_init_126 : decode cX9_init 126 = .ok (.putfield 52, 3) := by decide +kernel
theorem dX9_init_129 : decode cX9_init 129 = .ok (.aload_n 0, 1) := by decide +kernel
theorem dX9_init_130 : decode cX9_init 130 = .ok (.bipush 40, 2) := by decide +kernel
theorem dX9_init_132 : decode cX9_init 132 = .ok (.newarray .int, 2) := by decide +kernel
theorem dX9_init_134 : decode cX9_init 134 = .ok (.putfield 55, 3) := by decide +kernel
theorem dX9_init_137 : decode cX9_init 137 = .ok (.aload_n 0, 1) := by decide +kernel
theorem dX9_init_138 : decode cX9_init 138 = .ok (.bipush 40, 2) := by decide +kernel
theorem dX9_init_140 : decode cX9_init 140 = .ok (.newarray .int, 2) := by decide +kernel
theorem dX9_init_142 : decode cX9_init 142 = .ok (.putfield 58, 3) := by decide +kernel
theorem dX9_init_145 : decode cX9_init 145 = .ok (.aload_n 0, 1) := by decide +kernel
theorem dX9_init_146 : decode cX9_init 146 = .ok (.bipush 40, 2) := by decide +kernel
theorem dX9_init_148 : decode cX9_init 148 = .ok (.newarray .int, 2) := by decide +kernel
theorem dX9_init_150 : decode cX9_init 150 = .ok (.putfield 61, 3) := by decide +kernel
theorem dX9_init_153 : decode cX9_init 153 = .ok (.aload_n 0, 1) := by decide +kernel
theorem dX9_init_154 : decode cX9_init 154 = .ok (.sipush 840, 3) := by decide +kernel
theorem dX9_init_157 : decode cX9_init 157 = .ok (.newarray .int, 2) := by decide +kernel
theorem dX9_init_159 : decode cX9_init 159 = .ok (.putfield 64, 3) := by decide +kernel
theorem dX9_init_162 : decode cX9_init 162 = .ok (.aload_n 0, 1) := by decide +kernel
theorem dX9_init_163 : decode cX9_init 163 = .ok (.sipush 840, 3) := by decide +kernel
theorem dX9_init_166 : decode cX9_init 166 = .ok (.newarray .int, 2) := by decide +kernel
theorem dX9_init_168 : decode cX9_init 168 = .ok (.putfield 67, 3) := by decide +kernel
theorem dX9_init_171 : decode cX9_init 171 = .ok (.aload_n 0, 1) := by decide +kernel
theorem dX9_init_172 : decode cX9_init 172 = .ok (.sipush 840, 3) := by decide +kernel
theorem dX9_init_175 : decode cX9_init 175 = .ok (.newarray .int, 2) := by decide +kernel
theorem dX9_init_177 : decode cX9_init 177 = .ok (.putfield 70, 3) := by decide +kernel
theorem dX9_init_180 : decode cX9_init 180 = .ok (.aload_n 0, 1) := by decide +kernel
theorem dX9_init_181 : decode cX9_init 181 = .ok (.sipush 840, 3) := by decide +kernel
theorem dX9_init_184 : decode cX9_init 184 = .ok (.newarray .int, 2) := by decide +kernel
theorem dX9_init_186 : decode cX9_init 186 = .ok (.putfield 73, 3) := by decide +kernel
theorem dX9_init_189 : decode cX9_init 189 = .ok (.aload_n 0, 1) := by decide +kernel
theorem dX9_init_190 : decode cX9_init 190 = .ok (.sipush 840, 3) := by decide +kernel
theorem dX9_init_193 : decode cX9_init 193 = .ok (.newarray .int, 2) := by decide +kernel
theorem dX9_init_195 : decode cX9_init 195 = .ok (.putfield 76, 3) := by decide +kernel
theorem dX9_init_198 : decode cX9_init 198 = .ok (.aload_n 0, 1) := by decide +kernel
theorem dX9_init_199 : decode cX9_init 199 = .ok (.sipush 8320, 3) := by decide +kernel
theorem dX9_init_202 : decode cX9_init 202 = .ok (.newarray .int, 2) := by decide +kernel
theorem dX9_init_204 : decode cX9_init 204 = .ok (.putfield 79, 3) := by decide +kernel
theorem dX9_init_207 : decode cX9_init 207 = .ok (.aload_n 0, 1) := by decide +kernel
theorem dX9_init_208 : decode cX9_init 208 = .ok (.sipush 1040, 3) := by decide +kernel
theorem dX9_init_211 : decode cX9_init 211 = .ok (.newarray .int, 2) := by decide +kernel
theorem dX9_init_213 : decode cX9_init 213 = .ok (.putfield 82, 3) := by decide +kernel
theorem dX9_init_216 : decode cX9_init 216 = .ok (.aload_n 0, 1) := by decide +kernel
theorem dX9_init_217 : decode cX9_init 217 = .ok (.sipush 9331, 3) := by decide +kernel
theorem dX9_init_220 : decode cX9_init 220 = .ok (.newarray .int, 2) := by decide +kernel
theorem dX9_init_222 : decode cX9_init 222 = .ok (.putfield 85, 3) := by decide +kernel
theorem dX9_init_225 : decode cX9_init 225 = .ok (.iconst 0, 1) := by decide +kernel
theorem dX9_init_226 : decode cX9_init 226 = .ok (.istore_n 1, 1) := by decide +kernel
theorem dX9_init_227 : decode cX9_init 227 = .ok (.iload_n 1, 1) := by decide +kernel
theorem dX9_init_228 : decode cX9_init 228 = .ok (.bipush 30, 2) := by decide +kernel
theorem dX9_init_230 : decode cX9_init 230 = .ok (.if_icmp .ge 18, 3) := by decide +kernel
theorem dX9_init_233 : decode cX9_init 233 = .ok (.aload_n 0, 1) := by decide +kernel
theorem dX9_init_234 : decode cX9_init 234 = .ok (.getfield 13, 3) := by decide +kernel
theorem dX9_init_237 : decode cX9_init 237 = .ok (.iload_n 1, 1) := by decide +kernel
theorem dX9_init_238 : decode cX9_init 238 = .ok (.sipush 1000, 3) := by decide +kernel
theorem dX9_init_241 : decode cX9_init 241 = .ok (.iastore, 1) := by decide +kernel
theorem dX9_init_242 : decode cX9_init 242 = .ok (.iinc 1 1, 3) := by decide +kernel
theorem dX9_init_245 : decode cX9_init 245 = .ok (.goto (-18), 3) := by decide +kernel
theorem dX9_init_248 : decode cX9_init 248 = .ok (.iconst 0, 1) := by decide +kernel
theorem dX9_init_249 : decode cX9_init 249 = .ok (.istore_n 1, 1) := by decide +kernel
theorem dX9_init_250 : decode cX9_init 250 = .ok (.iload_n 1, 1) := by decide +kernel
theorem dX9_init_251 : decode cX9_init 251 = .ok (.sipush 840, 3) := by decide +kernel
theorem dX9_init_254 : decode cX9_init 254 = .ok (.if_icmp .ge 16, 3) := by decide +kernel
theorem dX9_init_257 : decode cX9_init 257 = .ok (.aload_n 0, 1) := by decide +kernel
theorem dX9_init_258 : decode cX9_init 258 = .ok (.getfield 76, 3) := by decide +kernel
theorem dX9_init_261 : decode cX9_init 261 = .ok (.iload_n 1, 1) := by decide +kernel
theorem dX9_init_262 : decode cX9_init 262 = .ok (.iconst (-1), 1) := by decide +kernel
theorem dX9_init_263 : decode cX9_init 263 = .ok (.iastore, 1) := by decide +kernel
theorem dX9_init_264 : decode cX9_init 264 = .ok (.iinc 1 1, 3) := by decide +kernel
theorem dX9_init_267 : decode cX9_init 267 = .ok (.goto (-17), 3) := by decide +kernel
theorem dX9_init_270 : decode cX9_init 270 = .ok (.return_, 1) := by decide +kernel
theorem dX9_in_0 : decode cX9_in 0 = .ok (.iload_n 0, 1) := by decide +kernel
theorem dX9_in_1 : decode cX9_in 1 = .ok (.iload_n 1, 1) := by decide +kernel
theorem dX9_in_2 : decode cX9_in 2 = .ok (.if_icmp .lt 12, 3) := by decide +kernel
theorem dX9_in_5 : decode cX9_in 5 = .ok (.iload_n 0, 1) := by decide +kernel
theorem dX9_in_6 : decode cX9_in 6 = .ok (.iload_n 2, 1) := by decide +kernel
theorem dX9_in_7 : decode cX9_in 7 = .ok (.if_icmp .gt 7, 3) := by decide +kernel
theorem dX9_in_10 : decode cX9_in 10 = .ok (.iconst 1, 1) := by decide +kernel
theorem dX9_in_11 : decode cX9_in 11 = .ok (.goto 4, 3) := by decide +kernel
theorem dX9_in_14 : decode cX9_in 14 = .ok (.iconst 0, 1) := by decide +kernel
theorem dX9_in_15 : decode cX9_in 15 = .ok (.ireturn, 1) := by decide +kernel
set_option maxRecDepth 20000 in
theorem ggX9_isVillage_X9_in : GoodIn wsX9_isVillage wsX9_in := goodIn_r _ [4] (by decide +kernel) (by decide +kernel)
set_option maxRecDepth 20000 in
theorem gX9_isVillage_X9_in : GoodIn wsX9_isVillage (va_wsS RX9 88 yX9_in wsX9_in) := goodIn_app (goodIn_of _ (by decide +kernel)) ggX9_isVillage_X9_in
theorem dX9_isVillage_0 : decode cX9_isVillage 0 = .ok (.iload_n 0, 1) := by decide +kernel
theorem dX9_isVillage_1 : decode cX9_isVillage 1 = .ok (.iconst 0, 1) := by decide +kernel
theorem dX9_isVillage_2 : decode cX9_isVillage 2 = .ok (.bipush 7, 2) := by decide +kernel
theorem dX9_isVillage_4 : decode cX9_isVillage 4 = .ok (.invokestatic 88, 3) := by decide +kernel
theorem dX9_isVillage_7 : decode cX9_isVillage 7 = .ok (.ireturn, 1) := by decide +kernel
set_option maxRecDepth 20000 in
theorem ggX9_isRod_X9_in : GoodIn wsX9_isRod wsX9_in := goodIn_r _ [4] (by decide +kernel) (by decide +kernel)
set_option maxRecDepth 20000 in
theorem gX9_isRod_X9_in : GoodIn wsX9_isRod (va_wsS RX9 88 yX9_in wsX9_in) := goodIn_app (goodIn_of _ (by decide +kernel)) ggX9_isRod_X9_in
theorem dX9_isRod_0 : decode cX9_isRod 0 = .ok (.iload_n 0, 1) := by decide +kernel
theorem dX9_isRod_1 : decode cX9_isRod 1 = .ok (.iconst 0, 1) := by decide +kernel
theorem dX9_isRod_2 : decode cX9_isRod 2 = .ok (.bipush 29, 2) := by decide +kernel
theorem dX9_isRod_4 : decode cX9_isRod 4 = .ok (.invokestatic 88, 3) := by decide +kernel
theorem dX9_isRod_7 : decode cX9_isRod 7 = .ok (.ireturn, 1) := by decide +kernel
set_option maxRecDepth 20000 in
theorem ggX9_isHouse_X9_in : GoodIn wsX9_isHouse wsX9_in := goodIn_r _ [5] (by decide +kernel) (by decide +kernel)
set_option maxRecDepth 20000 in
theorem gX9_isHouse_X9_in : GoodIn wsX9_isHouse (va_wsS RX9 88 yX9_in wsX9_in) := goodIn_app (goodIn_of _ (by decide +kernel)) ggX9_isHouse_X9_in
theorem dX9_isHouse_0 : decode cX9_isHouse 0 = .ok (.iload_n 1, 1) := by decide +kernel
theorem dX9_isHouse_1 : decode cX9_isHouse 1 = .ok (.iconst 0, 1) := by decide +kernel
theorem dX9_isHouse_2 : decode cX9_isHouse 2 = .ok (.aload_n 0, 1) := by decide +kernel
theorem dX9_isHouse_3 : decode cX9_isHouse 3 = .ok (.getfield 92, 3) := by decide +kernel
theorem dX9_isHouse_6 : decode cX9_isHouse 6 = .ok (.iconst 1, 1) := by decide +kernel
theorem dX9_isHouse_7 : decode cX9_isHouse 7 = .ok (.isub, 1) := by decide +kernel
theorem dX9_isHouse_8 : decode cX9_isHouse 8 = .ok (.invokestatic 88, 3) := by decide +kernel
theorem dX9_isHouse_11 : decode cX9_isHouse 11 = .ok (.ireturn, 1) := by decide +kernel
set_option maxRecDepth 20000 in
theorem ggX9_isYear_X9_in : GoodIn wsX9_isYear wsX9_in := goodIn_r _ [5] (by decide +kernel) (by decide +kernel)
set_option maxRecDepth 20000 in
theorem gX9_isYear_X9_in : GoodIn wsX9_isYear (va_wsS RX9 88 yX9_in wsX9_in) := goodIn_app (goodIn_of _ (by decide +kernel)) ggX9_isYear_X9_in
theorem dX9_isYear_0 : decode cX9_isYear 0 = .ok (.iload_n 1, 1) := by decide +kernel
theorem dX9_isYear_1 : decode cX9_isYear 1 = .ok (.iconst 0, 1) := by decide +kernel
theorem dX9_isYear_2 : decode cX9_isYear 2 = .ok (.aload_n 0, 1) := by decide +kernel
theorem dX9_isYear_3 : decode cX9_isYear 3 = .ok (.getfield 96, 3) := by decide +kernel
theorem dX9_isYear_6 : decode cX9_isYear 6 = .ok (.bipush 52, 2) := by decide +kernel
theorem dX9_isYear_8 : decode cX9_isYear 8 = .ok (.idiv, 1) := by decide +kernel
theorem dX9_isYear_9 : decode cX9_isYear 9 = .ok (.invokestatic 88, 3) := by decide +kernel
theorem dX9_isYear_12 : decode cX9_isYear 12 = .ok (.ireturn, 1) := by decide +kernel
set_option maxRecDepth 20000 in
theorem ggX9_village_X9_isVillage : GoodIn wsX9_village wsX9_isVillage := goodIn_r _ [5, 6, 7, 4, 8] (by decide +kernel) (by decide +kernel)
set_option maxRecDepth 20000 in
theorem gX9_village_X9_isVillage : GoodIn wsX9_village (va_wsS RX9 99 yX9_isVillage wsX9_isVillage) := goodIn_app (goodIn_of _ (by decide +kernel)) ggX9_village_X9_isVillage
set_option maxRecDepth 20000 in
theorem ggX9_village_X9_in : GoodIn wsX9_village wsX9_in := goodIn_r _ [8] (by decide +kernel) (by decide +kernel)
set_option maxRecDepth 20000 in
theorem gX9_village_X9_in : GoodIn wsX9_village (va_wsS RX9 88 yX9_in wsX9_in) := goodIn_app (goodIn_of _ (by decide +kernel)) ggX9_village_X9_in
theorem dX9_village_0 : decode cX9_village 0 = .ok (.iload_n 1, 1) := by decide +kernel
theorem dX9_village_1 : decode cX9_village 1 = .ok (.invokestatic 99, 3) := by decide +kernel
theorem dX9_village_4 : decode cX9_village 4 = .ok (.ifCond .eq 13, 3) := by decide +kernel
theorem dX9_village_7 : decode cX9_village 7 = .ok (.iload_n 2, 1) := by decide +kernel
theorem dX9_village_8 : decode cX9_village 8 = .ok (.iconst 0, 1) := by decide +kernel
theorem dX9_village_9 : decode cX9_village 9 = .ok (.bipush 99, 2) := by decide +kernel
theorem dX9_village_11 : decode cX9_village 11 = .ok (.invokestatic 88, 3) := by decide +kernel
theorem dX9_village_14 : decode cX9_village 14 = .ok (.ifCond .ne 5, 3) := by decide +kernel
theorem dX9_village_17 : decode cX9_village 17 = .ok (.iconst 0, 1) := by decide +kernel
theorem dX9_village_18 : decode cX9_village 18 = .ok (.ireturn, 1) := by decide +kernel
theorem dX9_village_19 : decode cX9_village 19 = .ok (.aload_n 0, 1) := by decide +kernel
theorem dX9_village_20 : decode cX9_village 20 = .ok (.getfield 9, 3) := by decide +kernel
theorem dX9_village_23 : decode cX9_village 23 = .ok (.iload_n 1, 1) := by decide +kernel
theorem dX9_village_24 : decode cX9_village 24 = .ok (.iload_n 2, 1) := by decide +kernel
theorem dX9_village_25 : decode cX9_village 25 = .ok (.iastore, 1) := by decide +kernel
theorem dX9_village_26 : decode cX9_village 26 = .ok (.iconst 1, 1) := by decide +kernel
theorem dX9_village_27 : decode cX9_village 27 = .ok (.ireturn, 1) := by decide +kernel
set_option maxRecDepth 20000 in
theorem ggX9_rod_X9_isRod : GoodIn wsX9_rod wsX9_isRod := goodIn_r _ [6, 7, 8, 5, 9] (by decide +kernel) (by decide +kernel)
set_option maxRecDepth 20000 in
theorem gX9_rod_X9_isRod : GoodIn wsX9_rod (va_wsS RX9 103 yX9_isRod wsX9_isRod) := goodIn_app (goodIn_of _ (by decide +kernel)) ggX9_rod_X9_isRod
set_option maxRecDepth 20000 in
theorem ggX9_rod_X9_in : GoodIn wsX9_rod wsX9_in := goodIn_r _ [9] (by decide +kernel) (by decide +kernel)
set_option maxRecDepth 20000 in
theorem gX9_rod_X9_in : GoodIn wsX9_rod (va_wsS RX9 88 yX9_in wsX9_in) := goodIn_app (goodIn_of _ (by decide +kernel)) ggX9_rod_X9_in
theorem dX9_rod_0 : decode cX9_rod 0 = .ok (.iload_n 1, 1) := by decide +kernel
theorem dX9_rod_1 : decode cX9_rod 1 = .ok (.invokestatic 103, 3) := by decide +kernel
theorem dX9_rod_4 : decode cX9_rod 4 = .ok (.ifCond .eq 23, 3) := by decide +kernel
theorem dX9_rod_7 : decode cX9_rod 7 = .ok (.iload_n 2, 1) := by decide +kernel
theorem dX9_rod_8 : decode cX9_rod 8 = .ok (.iconst 0, 1) := by decide +kernel
theorem dX9_rod_9 : decode cX9_rod 9 = .ok (.iconst 2, 1) := by decide +kernel
theorem dX9_rod_10 : decode cX9_rod 10 = .ok (.invokestatic 88, 3) := by decide +kernel
theorem dX9_rod_13 : decode cX9_rod 13 = .ok (.ifCond .eq 14, 3) := by decide +kernel
theorem dX9_rod_16 : decode cX9_rod 16 = .ok (.iload_n 3, 1) := by decide +kernel
theorem dX9_rod_17 : decode cX9_rod 17 = .ok (.iconst 0, 1) := by decide +kernel
theorem dX9_rod_18 : decode cX9_rod 18 = .ok (.sipush 10000, 3) := by decide +kernel
theorem dX9_rod_21 : decode cX9_rod 21 = .ok (.invokestatic 88, 3) := by decide +kernel
theorem dX9_rod_24 : decode cX9_rod 24 = .ok (.ifCond .ne 5, 3) := by decide +kernel
theorem dX9_rod_27 : decode cX9_rod 27 = .ok (.iconst 0, 1) := by decide +kernel
theorem dX9_rod_28 : decode cX9_rod 28 = .ok (.ireturn, 1) := by decide +kernel
theorem dX9_rod_29 : decode cX9_rod 29 = .ok (.aload_n 0, 1) := by decide +kernel
theorem dX9_rod_30 : decode cX9_rod 30 = .ok (.getfield 16, 3) := by decide +kernel
theorem dX9_rod_33 : decode cX9_rod 33 = .ok (.iload_n 1, 1) := by decide +kernel
theorem dX9_rod_34 : decode cX9_rod 34 = .ok (.iload_n 2, 1) := by decide +kernel
theorem dX9_rod_35 : decode cX9_rod 35 = .ok (.iastore, 1) := by decide +kernel
theorem dX9_rod_36 : decode cX9_rod 36 = .ok (.aload_n 0, 1) := by decide +kernel
theorem dX9_rod_37 : decode cX9_rod 37 = .ok (.getfield 19, 3) := by decide +kernel
theorem dX9_rod_40 : decode cX9_rod 40 = .ok (.iload_n 1, 1) := by decide +kernel
theorem dX9_rod_41 : decode cX9_rod 41 = .ok (.iload_n 3, 1) := by decide +kernel
theorem dX9_rod_42 : decode cX9_rod 42 = .ok (.iastore, 1) := by decide +kernel
theorem dX9_rod_43 : decode cX9_rod 43 = .ok (.iconst 1, 1) := by decide +kernel
theorem dX9_rod_44 : decode cX9_rod 44 = .ok (.ireturn, 1) := by decide +kernel
set_option maxRecDepth 20000 in
theorem ggX9_law_X9_in : GoodIn wsX9_law wsX9_in := goodIn_r _ [8] (by decide +kernel) (by decide +kernel)
set_option maxRecDepth 20000 in
theorem gX9_law_X9_in : GoodIn wsX9_law (va_wsS RX9 88 yX9_in wsX9_in) := goodIn_app (goodIn_of _ (by decide +kernel)) ggX9_law_X9_in
theorem dX9_law_0 : decode cX9_law 0 = .ok (.iload_n 1, 1) := by decide +kernel
theorem dX9_law_1 : decode cX9_law 1 = .ok (.iconst 0, 1) := by decide +kernel
theorem dX9_law_2 : decode cX9_law 2 = .ok (.bipush 19, 2) := by decide +kernel
theorem dX9_law_4 : decode cX9_law 4 = .ok (.invokestatic 88, 3) := by decide +kernel
theorem dX9_law_7 : decode cX9_law 7 = .ok (.ifCond .eq 47, 3) := by decide +kernel
theorem dX9_law_10 : decode cX9_law 10 = .ok (.iload_n 2, 1) := by decide +kernel
theorem dX9_law_11 : decode cX9_law 11 = .ok (.ifCond .lt 43, 3) := by decide +kernel
theorem dX9_law_14 : decode cX9_law 14 = .ok (.iload_n 2, 1) := by decide +kernel
theorem dX9_law_15 : decode cX9_law 15 = .ok (.sipush 10000, 3) := by decide +kernel
theorem dX9_law_18 : decode cX9_law 18 = .ok (.idiv, 1) := by decide +kernel
theorem dX9_law_19 : decode cX9_law 19 = .ok (.bipush 9, 2) := by decide +kernel
theorem dX9_law_21 : decode cX9_law 21 = .ok (.if_icmp .gt 33, 3) := by decide +kernel
theorem dX9_law_24 : decode cX9_law 24 = .ok (.iload_n 2, 1) := by decide +kernel
theorem dX9_law_25 : decode cX9_law 25 = .ok (.sipush 1000, 3) := by decide +kernel
theorem dX9_law_28 : decode cX9_law 28 = .ok (.irem, 1) := by decide +kernel
theorem dX9_law_29 : decode cX9_law 29 = .ok (.sipush 500, 3) := by decide +kernel
theorem dX9_law_32 : decode cX9_law 32 = .ok (.if_icmp .gt 22, 3) := by decide +kernel
theorem dX9_law_35 : decode cX9_law 35 = .ok (.iload_n 3, 1) := by decide +kernel
theorem dX9_law_36 : decode cX9_law 36 = .ok (.iconst 0, 1) := by decide +kernel
theorem dX9_law_37 : decode cX9_law 37 = .ok (.bipush 100, 2) := by decide +kernel
theorem dX9_law_39 : decode cX9_law 39 = .ok (.invokestatic 88, 3) := by decide +kernel
theorem dX9_law_42 : decode cX9_law 42 = .ok (.ifCond .eq 12, 3) := by decide +kernel
theorem dX9_law_45 : decode cX9_law 45 = .ok (.aload_n 0, 1) := by decide +kernel
theorem dX9_law_46 : decode cX9_law 46 = .ok (.getfield 106, 3) := by decide +kernel
theorem dX9_law_49 : decode cX9_law 49 = .ok (.bipush 40, 2) := by decide +kernel
theorem dX9_law_51 : decode cX9_law 51 = .ok (.if_icmp .ne 5, 3) := by decide +kernel
theorem dX9_law_54 : decode cX9_law 54 = .ok (.iconst (-1), 1) := by decide +kernel
theorem dX9_law_55 : decode cX9_law 55 = .ok (.ireturn, 1) := by decide +kernel
theorem dX9_law_56 : decode cX9_law 56 = .ok (.aload_n 0, 1) := by decide +kernel
theorem dX9_law_57 : decode cX9_law 57 = .ok (.getfield 55, 3) := by decide +kernel
theorem dX9_law_60 : decode cX9_law 60 = .ok (.aload_n 0, 1) := by decide +kernel
theorem dX9_law_61 : decode cX9_law 61 = .ok (.getfield 106, 3) := by decide +kernel
theorem dX9_law_64 : decode cX9_law 64 = .ok (.iload_n 1, 1) := by decide +kernel
theorem dX9_law_65 : decode cX9_law 65 = .ok (.iastore, 1) := by decide +kernel
theorem dX9_law_66 : decode cX9_law 66 = .ok (.aload_n 0, 1) := by decide +kernel
theorem dX9_law_67 : decode cX9_law 67 = .ok (.getfield 58, 3) := by decide +kernel
theorem dX9_law_70 : decode cX9_law 70 = .ok (.aload_n 0, 1) := by decide +kernel
theorem dX9_law_71 : decode cX9_law 71 = .ok (.getfield 106, 3) := by decide +kernel
theorem dX9_law_74 : decode cX9_law 74 = .ok (.iload_n 2, 1) := by decide +kernel
theorem dX9_law_75 : decode cX9_law 75 = .ok (.iastore, 1) := by decide +kernel
theorem dX9_law_76 : decode cX9_law 76 = .ok (.aload_n 0, 1) := by decide +kernel
theorem dX9_law_77 : decode cX9_law 77 = .ok (.getfield 61, 3) := by decide +kernel
theorem dX9_law_80 : decode cX9_law 80 = .ok (.aload_n 0, 1) := by decide +kernel
theorem dX9_law_81 : decode cX9_law 81 = .ok (.getfield 106, 3) := by decide +kernel
theorem dX9_law_84 : decode cX9_law 84 = .ok (.iload_n 3, 1) := by decide +kernel
theorem dX9_law_85 : decode cX9_law 85 = .ok (.iastore, 1) := by decide +kernel
theorem dX9_law_86 : decode cX9_law 86 = .ok (.aload_n 0, 1) := by decide +kernel
theorem dX9_law_87 : decode cX9_law 87 = .ok (.dup, 1) := by decide +kernel
theorem dX9_law_88 : decode cX9_law 88 = .ok (.getfield 106, 3) := by decide +kernel
theorem dX9_law_91 : decode cX9_law 91 = .ok (.iconst 1, 1) := by decide +kernel
theorem dX9_law_92 : decode cX9_law 92 = .ok (.iadd, 1) := by decide +kernel
theorem dX9_law_93 : decode cX9_law 93 = .ok (.putfield 106, 3) := by decide +kernel
theorem dX9_law_96 : decode cX9_law 96 = .ok (.aload_n 0, 1) := by decide +kernel
theorem dX9_law_97 : decode cX9_law 97 = .ok (.getfield 106, 3) := by decide +kernel
theorem dX9_law_100 : decode cX9_law 100 = .ok (.ireturn, 1) := by decide +kernel
theorem dX9_lawOf_0 : decode cX9_lawOf 0 = .ok (.iconst (-1), 1) := by decide +kernel
theorem dX9_lawOf_1 : decode cX9_lawOf 1 = .ok (.istore_n 2, 1) := by decide +kernel
theorem dX9_lawOf_2 : decode cX9_lawOf 2 = .ok (.iconst 0, 1) := by decide +kernel
theorem dX9_lawOf_3 : decode cX9_lawOf 3 = .ok (.istore_n 3, 1) := by decide +kernel
theorem dX9_lawOf_4 : decode cX9_lawOf 4 = .ok (.iload_n 3, 1) := by decide +kernel
theorem dX9_lawOf_5 : decode cX9_lawOf 5 = .ok (.aload_n 0, 1) := by decide +kernel
theorem dX9_lawOf_6 : decode cX9_lawOf 6 = .ok (.getfield 106, 3) := by decide +kernel
theorem dX9_lawOf_9 : decode cX9_lawOf 9 = .ok (.if_icmp .ge 41, 3) := by decide +kernel
theorem dX9_lawOf_12 : decode cX9_lawOf 12 = .ok (.aload_n 0, 1) := by decide +kernel
theorem dX9_lawOf_13 : decode cX9_lawOf 13 = .ok (.getfield 55, 3) := by decide +kernel
theorem dX9_lawOf_16 : decode cX9_lawOf 16 = .ok (.iload_n 3, 1) := by decide +kernel
theorem dX9_lawOf_17 : decode cX9_lawOf 17 = .ok (.iaload, 1) := by decide +kernel
theorem dX9_lawOf_18 : decode cX9_lawOf 18 = .ok (.iload_n 1, 1) := by decide +kernel
theorem dX9_lawOf_19 : decode cX9_lawOf 19 = .ok (.if_icmp .gt 25, 3) := by decide +kernel
theorem dX9_lawOf_22 : decode cX9_lawOf 22 = .ok (.iload_n 2, 1) := by decide +kernel
theorem dX9_lawOf_23 : decode cX9_lawOf 23 = .ok (.iconst (-1), 1) := by decide +kernel
theorem dX9_lawOf_24 : decode cX9_lawOf 24 = .ok (.if_icmp .eq 18, 3) := by decide +kernel
theorem dX9_lawOf_27 : decode cX9_lawOf 27 = .ok (.aload_n 0, 1) := by decide +kernel
theorem dX9_lawOf_28 : decode cX9_lawOf 28 = .ok (.getfield 55, 3) := by decide +kernel
theorem dX9_lawOf_31 : decode cX9_lawOf 31 = .ok (.iload_n 3, 1) := by decide +kernel
theorem dX9_lawOf_32 : decode cX9_lawOf 32 = .ok (.iaload, 1) := by decide +kernel
theorem dX9_lawOf_33 : decode cX9_lawOf 33 = .ok (.aload_n 0, 1) := by decide +kernel
theorem dX9_lawOf_34 : decode cX9_lawOf 34 = .ok (.getfield 55, 3) := by decide +kernel
theorem dX9_lawOf_37 : decode cX9_lawOf 37 = .ok (.iload_n 2, 1) := by decide +kernel
theorem dX9_lawOf_38 : decode cX9_lawOf 38 = .ok (.iaload, 1) := by decide +kernel
theorem dX9_lawOf_39 : decode cX9_lawOf 39 = .ok (.if_icmp .lt 5, 3) := by decide +kernel
theorem dX9_lawOf_42 : decode cX9_lawOf 42 = .ok (.iload_n 3, 1) := by decide +kernel
theorem dX9_lawOf_43 : decode cX9_lawOf 43 = .ok (.istore_n 2, 1) := by decide +kernel
theorem dX9_lawOf_44 : decode cX9_lawOf 44 = .ok (.iinc 3 1, 3) := by decide +kernel
theorem dX9_lawOf_47 : decode cX9_lawOf 47 = .ok (.goto (-43), 3) := by decide +kernel
theorem dX9_lawOf_50 : decode cX9_lawOf 50 = .ok (.iload_n 2, 1) := by decide +kernel
theorem dX9_lawOf_51 : decode cX9_lawOf 51 = .ok (.ireturn, 1) := by decide +kernel
set_option maxRecDepth 20000 in
theorem ggX9_coinNow_X9_lawOf : GoodIn wsX9_coinNow wsX9_lawOf := goodIn_r _ [7, 8, 9, 10, 11, 12, 13, 14, 15, 16, 17, 18, 19, 20, 21, 22, 23, 24, 25, 26, 27, 28, 29, 30, 31, 32, 33, 34, 35, 36, 37, 38, 39, 40, 41, 42, 43, 44] (by decide +kernel) (by decide +kernel)
set_option maxRecDepth 20000 in
theorem gX9_coinNow_X9_lawOf : GoodIn wsX9_coinNow (wsV RX9 109 RX9 yX9_lawOf wsX9_lawOf) := goodIn_app (goodIn_of _ (by decide +kernel)) ggX9_coinNow_X9_lawOf
theorem dX9_coinNow_0 : decode cX9_coinNow 0 = .ok (.aload_n 0, 1) := by decide +kernel
theorem dX9_coinNow_1 : decode cX9_coinNow 1 = .ok (.aload_n 0, 1) := by decide +kernel
theorem dX9_coinNow_2 : decode cX9_coinNow 2 = .ok (.getfield 96, 3) := by decide +kernel
theorem dX9_coinNow_5 : decode cX9_coinNow 5 = .ok (.bipush 52, 2) := by decide +kernel
theorem dX9_coinNow_7 : decode cX9_coinNow 7 = .ok (.idiv, 1) := by decide +kernel
theorem dX9_coinNow_8 : decode cX9_coinNow 8 = .ok (.invokevirtual 109, 3) := by decide +kernel
theorem dX9_coinNow_11 : decode cX9_coinNow 11 = .ok (.istore_n 1, 1) := by decide +kernel
theorem dX9_coinNow_12 : decode cX9_coinNow 12 = .ok (.iload_n 1, 1) := by decide +kernel
theorem dX9_coinNow_13 : decode cX9_coinNow 13 = .ok (.iconst (-1), 1) := by decide +kernel
theorem dX9_coinNow_14 : decode cX9_coinNow 14 = .ok (.if_icmp .ne 7, 3) := by decide +kernel
theorem dX9_coinNow_17 : decode cX9_coinNow 17 = .ok (.iconst 0, 1) := by decide +kernel
theorem dX9_coinNow_18 : decode cX9_coinNow 18 = .ok (.goto 9, 3) := by decide +kernel
theorem dX9_coinNow_21 : decode cX9_coinNow 21 = .ok (.aload_n 0, 1) := by decide +kernel
theorem dX9_coinNow_22 : decode cX9_coinNow 22 = .ok (.getfield 61, 3) := by decide +kernel
theorem dX9_coinNow_25 : decode cX9_coinNow 25 = .ok (.iload_n 1, 1) := by decide +kernel
theorem dX9_coinNow_26 : decode cX9_coinNow 26 = .ok (.iaload, 1) := by decide +kernel
theorem dX9_coinNow_27 : decode cX9_coinNow 27 = .ok (.ireturn, 1) := by decide +kernel
set_option maxRecDepth 20000 in
theorem ggX9_house_X9_isVillage : GoodIn wsX9_house wsX9_isVillage := goodIn_r _ [10, 11, 12, 9, 13] (by decide +kernel) (by decide +kernel)
set_option maxRecDepth 20000 in
theorem gX9_house_X9_isVillage : GoodIn wsX9_house (va_wsS RX9 99 yX9_isVillage wsX9_isVillage) := goodIn_app (goodIn_of _ (by decide +kernel)) ggX9_house_X9_isVillage
set_option maxRecDepth 20000 in
theorem ggX9_house_X9_in : GoodIn wsX9_house wsX9_in := goodIn_r _ [13] (by decide +kernel) (by decide +kernel)
set_option maxRecDepth 20000 in
theorem gX9_house_X9_in : GoodIn wsX9_house (va_wsS RX9 88 yX9_in wsX9_in) := goodIn_app (goodIn_of _ (by decide +kernel)) ggX9_house_X9_in
theorem dX9_house_0 : decode cX9_house 0 = .ok (.iload_n 1, 1) := by decide +kernel
theorem dX9_house_1 : decode cX9_house 1 = .ok (.invokestatic 99, 3) := by decide +kernel
theorem dX9_house_4 : decode cX9_house 4 = .ok (.ifCond .eq 33, 3) := by decide +kernel
theorem dX9_house_7 : decode cX9_house 7 = .ok (.iload_n 2, 1) := by decide +kernel
theorem dX9_house_8 : decode cX9_house 8 = .ok (.iconst 0, 1) := by decide +kernel
theorem dX9_house_9 : decode cX9_house 9 = .ok (.sipush 500, 3) := by decide +kernel
theorem dX9_house_12 : decode cX9_house 12 = .ok (.invokestatic 88, 3) := by decide +kernel
theorem dX9_house_15 : decode cX9_house 15 = .ok (.ifCond .eq 22, 3) := by decide +kernel
theorem dX9_house_18 : decode cX9_house 18 = .ok (.iload_n 3, 1) := by decide +kernel
theorem dX9_house_19 : decode cX9_house 19 = .ok (.iconst 0, 1) := by decide +kernel
theorem dX9_house_20 : decode cX9_house 20 = .ok (.bipush 20, 2) := by decide +kernel
theorem dX9_house_22 : decode cX9_house 22 = .ok (.invokestatic 88, 3) := by decide +kernel
theorem dX9_house_25 : decode cX9_house 25 = .ok (.ifCond .eq 12, 3) := by decide +kernel
theorem dX9_house_28 : decode cX9_house 28 = .ok (.aload_n 0, 1) := by decide +kernel
theorem dX9_house_29 : decode cX9_house 29 = .ok (.getfield 92, 3) := by decide +kernel
theorem dX9_house_32 : decode cX9_house 32 = .ok (.bipush 40, 2) := by decide +kernel
theorem dX9_house_34 : decode cX9_house 34 = .ok (.if_icmp .ne 5, 3) := by decide +kernel
theorem dX9_house_37 : decode cX9_house 37 = .ok (.iconst (-1), 1) := by decide +kernel
theorem dX9_house_38 : decode cX9_house 38 = .ok (.ireturn, 1) := by decide +kernel
theorem dX9_house_39 : decode cX9_house 39 = .ok (.aload_n 0, 1) := by decide +kernel
theorem dX9_house_40 : decode cX9_house 40 = .ok (.getfield 28, 3) := by decide +kernel
theorem dX9_house_43 : decode cX9_house 43 = .ok (.aload_n 0, 1) := by decide +kernel
theorem dX9_house_44 : decode cX9_house 44 = .ok (.getfield 92, 3) := by decide +kernel
theorem dX9_house_47 : decode cX9_house 47 = .ok (.iload_n 1, 1) := by decide +kernel
theorem dX9_house_48 : decode cX9_house 48 = .ok (.iastore, 1) := by decide +kernel
theorem dX9_house_49 : decode cX9_house 49 = .ok (.aload_n 0, 1) := by decide +kernel
theorem dX9_house_50 : decode cX9_house 50 = .ok (.getfield 31, 3) := by decide +kernel
theorem dX9_house_53 : decode cX9_house 53 = .ok (.aload_n 0, 1) := by decide +kernel
theorem dX9_house_54 : decode cX9_house 54 = .ok (.getfield 92, 3) := by decide +kernel
theorem dX9_house_57 : decode cX9_house 57 = .ok (.aload_n 0, 1) := by decide +kernel
theorem dX9_house_58 : decode cX9_house 58 = .ok (.getfield 96, 3) := by decide +kernel
theorem dX9_house_61 : decode cX9_house 61 = .ok (.iastore, 1) := by decide +kernel
theorem dX9_house_62 : decode cX9_house 62 = .ok (.aload_n 0, 1) := by decide +kernel
theorem dX9_house_63 : decode cX9_house 63 = .ok (.getfield 34, 3) := by decide +kernel
theorem dX9_house_66 : decode cX9_house 66 = .ok (.aload_n 0, 1) := by decide +kernel
theorem dX9_house_67 : decode cX9_house 67 = .ok (.getfield 92, 3) := by decide +kernel
theorem dX9_house_70 : decode cX9_house 70 = .ok (.iload_n 2, 1) := by decide +kernel
theorem dX9_house_71 : decode cX9_house 71 = .ok (.iastore, 1) := by decide +kernel
theorem dX9_house_72 : decode cX9_house 72 = .ok (.aload_n 0, 1) := by decide +kernel
theorem dX9_house_73 : decode cX9_house 73 = .ok (.getfield 37, 3) := by decide +kernel
theorem dX9_house_76 : decode cX9_house 76 = .ok (.aload_n 0, 1) := by decide +kernel
theorem dX9_house_77 : decode cX9_house 77 = .ok (.getfield 92, 3) := by decide +kernel
theorem dX9_house_80 : decode cX9_house 80 = .ok (.iload_n 3, 1) := by decide +kernel
theorem dX9_house_81 : decode cX9_house 81 = .ok (.iastore, 1) := by decide +kernel
theorem dX9_house_82 : decode cX9_house 82 = .ok (.aload_n 0, 1) := by decide +kernel
theorem dX9_house_83 : decode cX9_house 83 = .ok (.dup, 1) := by decide +kernel
theorem dX9_house_84 : decode cX9_house 84 = .ok (.getfield 92, 3) := by decide +kernel
theorem dX9_house_87 : decode cX9_house 87 = .ok (.iconst 1, 1) := by decide +kernel
theorem dX9_house_88 : decode cX9_house 88 = .ok (.iadd, 1) := by decide +kernel
theorem dX9_house_89 : decode cX9_house 89 = .ok (.putfield 92, 3) := by decide +kernel
theorem dX9_house_92 : decode cX9_house 92 = .ok (.aload_n 0, 1) := by decide +kernel
theorem dX9_house_93 : decode cX9_house 93 = .ok (.getfield 92, 3) := by decide +kernel
theorem dX9_house_96 : decode cX9_house 96 = .ok (.iconst 1, 1) := by decide +kernel
theorem dX9_house_97 : decode cX9_house 97 = .ok (.isub, 1) := by decide +kernel
theorem dX9_house_98 : decode cX9_house 98 = .ok (.ireturn, 1) := by decide +kernel
set_option maxRecDepth 20000 in
theorem ggX9_change_X9_isHouse : GoodIn wsX9_change wsX9_isHouse := goodIn_r _ [13, 14, 15, 16, 12, 17, 18, 19, 20, 21, 22, 23, 24, 25, 26, 27, 28, 29, 30, 31, 32, 33, 34, 35, 36, 37, 38, 39, 40, 41, 42, 43, 44, 45, 46, 47, 48, 49, 50, 51, 52] (by decide +kernel) (by decide +kernel)
set_option maxRecDepth 20000 in
theorem gX9_change_X9_isHouse : GoodIn wsX9_change (wsV RX9 113 RX9 yX9_isHouse wsX9_isHouse) := goodIn_app (goodIn_of _ (by decide +kernel)) ggX9_change_X9_isHouse
set_option maxRecDepth 20000 in
theorem ggX9_change_X9_in : GoodIn wsX9_change wsX9_in := goodIn_r _ [17] (by decide +kernel) (by decide +kernel)
set_option maxRecDepth 20000 in
theorem gX9_change_X9_in : GoodIn wsX9_change (va_wsS RX9 88 yX9_in wsX9_in) := goodIn_app (goodIn_of _ (by decide +kernel)) ggX9_change_X9_in
theorem dX9_change_0 : decode cX9_change 0 = .ok (.aload_n 0, 1) := by decide +kernel
theorem dX9_change_1 : decode cX9_change 1 = .ok (.iload_n 1, 1) := by decide +kernel
theorem dX9_change_2 : decode cX9_change 2 = .ok (.invokevirtual 113, 3) := by decide +kernel
theorem dX9_change_5 : decode cX9_change 5 = .ok (.ifCond .eq 52, 3) := by decide +kernel
theorem dX9_change_8 : decode cX9_change 8 = .ok (.iload_n 2, 1) := by decide +kernel
theorem dX9_change_9 : decode cX9_change 9 = .ok (.aload_n 0, 1) := by decide +kernel
theorem dX9_change_10 : decode cX9_change 10 = .ok (.getfield 31, 3) := by decide +kernel
theorem dX9_change_13 : decode cX9_change 13 = .ok (.iload_n 1, 1) := by decide +kernel
theorem dX9_change_14 : decode cX9_change 14 = .ok (.iaload, 1) := by decide +kernel
theorem dX9_change_15 : decode cX9_change 15 = .ok (.aload_n 0, 1) := by decide +kernel
theorem dX9_change_16 : decode cX9_change 16 = .ok (.getfield 96, 3) := by decide +kernel
theorem dX9_change_19 : decode cX9_change 19 = .ok (.invokestatic 88, 3) := by decide +kernel
theorem dX9_change_22 : decode cX9_change 22 = .ok (.ifCond .eq 35, 3) := by decide +kernel
theorem dX9_change_25 : decode cX9_change 25 = .ok (.iload_n 3, 1) := by decide +kernel
theorem dX9_change_26 : decode cX9_change 26 = .ok (.iconst 0, 1) := by decide +kernel
theorem dX9_change_27 : decode cX9_change 27 = .ok (.sipush 500, 3) := by decide +kernel
theorem dX9_change_30 : decode cX9_change 30 = .ok (.invokestatic 88, 3) := by decide +kernel
theorem dX9_change_33 : decode cX9_change 33 = .ok (.ifCond .eq 24, 3) := by decide +kernel
theorem dX9_change_36 : decode cX9_change 36 = .ok (.iload 4, 2) := by decide +kernel
theorem dX9_change_38 : decode cX9_change 38 = .ok (.iconst 0, 1) := by decide +kernel
theorem dX9_change_39 : decode cX9_change 39 = .ok (.bipush 20, 2) := by decide +kernel
theorem dX9_change_41 : decode cX9_change 41 = .ok (.invokestatic 88, 3) := by decide +kernel
theorem dX9_change_44 : decode cX9_change 44 = .ok (.ifCond .eq 13, 3) := by decide +kernel
theorem dX9_change_47 : decode cX9_change 47 = .ok (.aload_n 0, 1) := by decide +kernel
theorem dX9_change_48 : decode cX9_change 48 = .ok (.getfield 116, 3) := by decide +kernel
theorem dX9_change_51 : decode cX9_change 51 = .ok (.sipush 200, 3) := by decide +kernel
theorem dX9_change_54 : decode cX9_change 54 = .ok (.if_icmp .ne 5, 3) := by decide +kernel
theorem dX9_change_57 : decode cX9_change 57 = .ok (.iconst 0, 1) := by decide +kernel
theorem dX9_change_58 : decode cX9_change 58 = .ok (.ireturn, 1) := by decide +kernel
theorem dX9_change_59 : decode cX9_change 59 = .ok (.aload_n 0, 1) := by decide +kernel
theorem dX9_change_60 : decode cX9_change 60 = .ok (.getfield 40, 3) := by decide +kernel
theorem dX9_change_63 : decode cX9_change 63 = .ok (.aload_n 0, 1) := by decide +kernel
theorem dX9_change_64 : decode cX9_change 64 = .ok (.getfield 116, 3) := by decide +kernel
theorem dX9_change_67 : decode cX9_change 67 = .ok (.iload_n 1, 1) := by decide +kernel
theorem dX9_change_68 : decode cX9_change 68 = .ok (.iastore, 1) := by decide +kernel
theorem dX9_change_69 : decode cX9_change 69 = .ok (.aload_n 0, 1) := by decide +kernel
theorem dX9_change_70 : decode cX9_change 70 = .ok (.getfield 43, 3) := by decide +kernel
theorem dX9_change_73 : decode cX9_change 73 = .ok (.aload_n 0, 1) := by decide +kernel
theorem dX9_change_74 : decode cX9_change 74 = .ok (.getfield 116, 3) := by decide +kernel
theorem dX9_change_77 : decode cX9_change 77 = .ok (.iload_n 2, 1) := by decide +kernel
theorem dX9_change_78 : decode cX9_change 78 = .ok (.iastore, 1) := by decide +kernel
theorem dX9_change_79 : decode cX9_change 79 = .ok (.aload_n 0, 1) := by decide +kernel
theorem dX9_change_80 : decode cX9_change 80 = .ok (.getfield 46, 3) := by decide +kernel
theorem dX9_change_83 : decode cX9_change 83 = .ok (.aload_n 0, 1) := by decide +kernel
theorem dX9_change_84 : decode cX9_change 84 = .ok (.getfield 116, 3) := by decide +kernel
theorem dX9_change_87 : decode cX9_change 87 = .ok (.aload_n 0, 1) := by decide +kernel
theorem dX9_change_88 : decode cX9_change 88 = .ok (.getfield 96, 3) := by decide +kernel
theorem dX9_change_91 : decode cX9_change 91 = .ok (.iastore, 1) := by decide +kernel
theorem dX9_change_92 : decode cX9_change 92 = .ok (.aload_n 0, 1) := by decide +kernel
theorem dX9_change_93 : decode cX9_change 93 = .ok (.getfield 49, 3) := by decide +kernel
theorem dX9_change_96 : decode cX9_change 96 = .ok (.aload_n 0, 1) := by decide +kernel
theorem dX9_change_97 : decode cX9_change 97 = .ok (.getfield 116, 3) := by decide +kernel
theorem dX9_change_100 : decode cX9_change 100 = .ok (.iload_n 3, 1) := by decide +kernel
theorem dX9_change_101 : decode cX9_change 101 = .ok (.iastore, 1) := by decide +kernel
theorem dX9_change_102 : decode cX9_change 102 = .ok (.aload_n 0, 1) := by decide +kernel
theorem dX9_change_103 : decode cX9_change 103 = .ok (.getfield 52, 3) := by decide +kernel
theorem dX9_change_106 : decode cX9_change 106 = .ok (.aload_n 0, 1) := by decide +kernel
theorem dX9_change_107 : decode cX9_change 107 = .ok (.getfield 116, 3) := by decide +kernel
theorem dX9_change_110 : decode cX9_change 110 = .ok (.iload 4, 2) := by decide +kernel
theorem dX9_change_112 : decode cX9_change 112 = .ok (.iastore, 1) := by decide +kernel
theorem dX9_change_113 : decode cX9_change 113 = .ok (.aload_n 0, 1) := by decide +kernel
theorem dX9_change_114 : decode cX9_change 114 = .ok (.dup, 1) := by decide +kernel
theorem dX9_change_115 : decode cX9_change 115 = .ok (.getfield 116, 3) := by decide +kernel
theorem dX9_change_118 : decode cX9_change 118 = .ok (.iconst 1, 1) := by decide +kernel
theorem dX9_change_119 : decode cX9_change 119 = .ok (.iadd, 1) := by decide +kernel
theorem dX9_change_120 : decode cX9_change 120 = .ok (.putfield 116, 3) := by decide +kernel
theorem dX9_change_123 : decode cX9_change 123 = .ok (.iconst 1, 1) := by decide +kernel
theorem dX9_change_124 : decode cX9_change 124 = .ok (.ireturn, 1) := by decide +kernel
theorem dX9_isListed_0 : decode cX9_isListed 0 = .ok (.aload_n 0, 1) := by decide +kernel
theorem dX9_isListed_1 : decode cX9_isListed 1 = .ok (.getfield 31, 3) := by decide +kernel
theorem dX9_isListed_4 : decode cX9_isListed 4 = .ok (.iload_n 1, 1) := by decide +kernel
theorem dX9_isListed_5 : decode cX9_isListed 5 = .ok (.iaload, 1) := by decide +kernel
theorem dX9_isListed_6 : decode cX9_isListed 6 = .ok (.bipush 52, 2) := by decide +kernel
theorem dX9_isListed_8 : decode cX9_isListed 8 = .ok (.iload_n 2, 1) := by decide +kernel
theorem dX9_isListed_9 : decode cX9_isListed 9 = .ok (.imul, 1) := by decide +kernel
theorem dX9_isListed_10 : decode cX9_isListed 10 = .ok (.if_icmp .ge 7, 3) := by decide +kernel
theorem dX9_isListed_13 : decode cX9_isListed 13 = .ok (.iconst 1, 1) := by decide +kernel
theorem dX9_isListed_14 : decode cX9_isListed 14 = .ok (.goto 4, 3) := by decide +kernel
theorem dX9_isListed_17 : decode cX9_isListed 17 = .ok (.iconst 0, 1) := by decide +kernel
theorem dX9_isListed_18 : decode cX9_isListed 18 = .ok (.ireturn, 1) := by decide +kernel
theorem dX9_listedOf_0 : decode cX9_listedOf 0 = .ok (.iload_n 3, 1) := by decide +kernel
theorem dX9_listedOf_1 : decode cX9_listedOf 1 = .ok (.ifCond .ne 12, 3) := by decide +kernel
theorem dX9_listedOf_4 : decode cX9_listedOf 4 = .ok (.aload_n 0, 1) := by decide +kernel
theorem dX9_listedOf_5 : decode cX9_listedOf 5 = .ok (.getfield 34, 3) := by decide +kernel
theorem dX9_listedOf_8 : decode cX9_listedOf 8 = .ok (.iload_n 1, 1) := by decide +kernel
theorem dX9_listedOf_9 : decode cX9_listedOf 9 = .ok (.iaload, 1) := by decide +kernel
theorem dX9_listedOf_10 : decode cX9_listedOf 10 = .ok (.goto 9, 3) := by decide +kernel
theorem dX9_listedOf_13 : decode cX9_listedOf 13 = .ok (.aload_n 0, 1) := by decide +kernel
theorem dX9_listedOf_14 : decode cX9_listedOf 14 = .ok (.getfield 37, 3) := by decide +kernel
theorem dX9_listedOf_17 : decode cX9_listedOf 17 = .ok (.iload_n 1, 1) := by decide +kernel
theorem dX9_listedOf_18 : decode cX9_listedOf 18 = .ok (.iaload, 1) := by decide +kernel
theorem dX9_listedOf_19 : decode cX9_listedOf 19 = .ok (.istore 4, 2) := by decide +kernel
theorem dX9_listedOf_21 : decode cX9_listedOf 21 = .ok (.iconst 0, 1) := by decide +kernel
theorem dX9_listedOf_22 : decode cX9_listedOf 22 = .ok (.istore 5, 2) := by decide +kernel
theorem dX9_listedOf_24 : decode cX9_listedOf 24 = .ok (.iload 5, 2) := by decide +kernel
theorem dX9_listedOf_26 : decode cX9_listedOf 26 = .ok (.aload_n 0, 1) := by decide +kernel
theorem dX9_listedOf_27 : decode cX9_listedOf 27 = .ok (.getfield 116, 3) := by decide +kernel
theorem dX9_listedOf_30 : decode cX9_listedOf 30 = .ok (.if_icmp .ge 57, 3) := by decide +kernel
theorem dX9_listedOf_33 : decode cX9_listedOf 33 = .ok (.aload_n 0, 1) := by decide +kernel
theorem dX9_listedOf_34 : decode cX9_listedOf 34 = .ok (.getfield 40, 3) := by decide +kernel
theorem dX9_listedOf_37 : decode cX9_listedOf 37 = .ok (.iload 5, 2) := by decide +kernel
theorem dX9_listedOf_39 : decode cX9_listedOf 39 = .ok (.iaload, 1) := by decide +kernel
theorem dX9_listedOf_40 : decode cX9_listedOf 40 = .ok (.iload_n 1, 1) := by decide +kernel
theorem dX9_listedOf_41 : decode cX9_listedOf 41 = .ok (.if_icmp .ne 40, 3) := by decide +kernel
theorem dX9_listedOf_44 : decode cX9_listedOf 44 = .ok (.aload_n 0, 1) := by decide +kernel
theorem dX9_listedOf_45 : decode cX9_listedOf 45 = .ok (.getfield 46, 3) := by decide +kernel
theorem dX9_listedOf_48 : decode cX9_listedOf 48 = .ok (.iload 5, 2) := by decide +kernel
theorem dX9_listedOf_50 : decode cX9_listedOf 50 = .ok (.iaload, 1) := by decide +kernel
theorem dX9_listedOf_51 : decode cX9_listedOf 51 = .ok (.bipush 52, 2) := by decide +kernel
theorem dX9_listedOf_53 : decode cX9_listedOf 53 = .ok (.iload_n 2, 1) := by decide +kernel
theorem dX9_listedOf_54 : decode cX9_listedOf 54 = .ok (.imul, 1) := by decide +kernel
theorem dX9_listedOf_55 : decode cX9_listedOf 55 = .ok (.if_icmp .ge 26, 3) := by decide +kernel
theorem dX9_listedOf_58 : decode cX9_listedOf 58 = .ok (.iload_n 3, 1) := by decide +kernel
theorem dX9_listedOf_59 : decode cX9_listedOf 59 = .ok (.ifCond .ne 13, 3) := by decide +kernel
theorem dX9_listedOf_62 : decode cX9_listedOf 62 = .ok (.aload_n 0, 1) := by decide +kernel
theorem dX9_listedOf_63 : decode cX9_listedOf 63 = .ok (.getfield 49, 3) := by decide +kernel
theorem dX9_listedOf_66 : decode cX9_listedOf 66 = .ok (.iload 5, 2) := by decide +kernel
theorem dX9_listedOf_68 : decode cX9_listedOf 68 = .ok (.iaload, 1) := by decide +kernel
theorem dX9_listedOf_69 : decode cX9_listedOf 69 = .ok (.goto 10, 3) := by decide +kernel
theorem dX9_listedOf_72 : decode cX9_listedOf 72 = .ok (.aload_n 0, 1) := by decide +kernel
theorem dX9_listedOf_73 : decode cX9_listedOf 73 = .ok (.getfield 52, 3) := by decide +kernel
theorem dX9_listedOf_76 : decode cX9_listedOf 76 = .ok (.iload 5, 2) := by decide +kernel
theorem dX9_listedOf_78 : decode cX9_listedOf 78 = .ok (.iaload, 1) := by decide +kernel
theorem dX9_listedOf_79 : decode cX9_listedOf 79 = .ok (.istore 4, 2) := by decide +kernel
theorem dX9_listedOf_81 : decode cX9_listedOf 81 = .ok (.iinc 5 1, 3) := by decide +kernel
theorem dX9_listedOf_84 : decode cX9_listedOf 84 = .ok (.goto (-60), 3) := by decide +kernel
theorem dX9_listedOf_87 : decode cX9_listedOf 87 = .ok (.iload 4, 2) := by decide +kernel
theorem dX9_listedOf_89 : decode cX9_listedOf 89 = .ok (.ireturn, 1) := by decide +kernel
set_option maxRecDepth 20000 in
theorem ggX9_listed_X9_isHouse : GoodIn wsX9_listed wsX9_isHouse := goodIn_r _ [5, 6, 7, 8, 4, 9, 31, 32, 33, 34, 35, 36, 37, 38, 39, 40, 41, 42, 43, 44, 45, 46, 47, 48, 49, 50, 51, 52, 53, 54, 55, 56, 57, 58, 59, 60, 61, 62, 63, 64, 65] (by decide +kernel) (by decide +kernel)
set_option maxRecDepth 20000 in
theorem gX9_listed_X9_isHouse : GoodIn wsX9_listed (wsV RX9 113 RX9 yX9_isHouse wsX9_isHouse) := goodIn_app (goodIn_of _ (by decide +kernel)) ggX9_listed_X9_isHouse
set_option maxRecDepth 20000 in
theorem ggX9_listed_X9_isYear : GoodIn wsX9_listed wsX9_isYear := goodIn_r _ [13, 14, 7, 8, 4, 9, 31, 32, 33, 34, 35, 36, 37, 38, 39, 40, 41, 42, 43, 44, 45, 46, 47, 48, 49, 50, 51, 52, 53, 54, 55, 56, 57, 58, 59, 60, 61, 62, 63, 64, 65] (by decide +kernel) (by decide +kernel)
set_option maxRecDepth 20000 in
theorem gX9_listed_X9_isYear : GoodIn wsX9_listed (wsV RX9 119 RX9 yX9_isYear wsX9_isYear) := goodIn_app (goodIn_of _ (by decide +kernel)) ggX9_listed_X9_isYear
set_option maxRecDepth 20000 in
theorem ggX9_listed_X9_in : GoodIn wsX9_listed wsX9_in := goodIn_r _ [9] (by decide +kernel) (by decide +kernel)
set_option maxRecDepth 20000 in
theorem gX9_listed_X9_in : GoodIn wsX9_listed (va_wsS RX9 88 yX9_in wsX9_in) := goodIn_app (goodIn_of _ (by decide +kernel)) ggX9_listed_X9_in
set_option maxRecDepth 20000 in
theorem ggX9_listed_X9_isListed : GoodIn wsX9_listed wsX9_isListed := goodIn_r _ [18, 19, 31, 32, 33, 34, 35, 36, 37, 38, 39, 40, 41, 42, 43, 44, 45, 46, 47, 48, 49, 50, 51, 52, 53, 54, 55, 56, 57, 58, 59, 60, 61, 62, 63, 64, 65] (by decide +kernel) (by decide +kernel)
set_option maxRecDepth 20000 in
theorem gX9_listed_X9_isListed : GoodIn wsX9_listed (wsV RX9 122 RX9 yX9_isListed wsX9_isListed) := goodIn_app (goodIn_of _ (by decide +kernel)) ggX9_listed_X9_isListed
set_option maxRecDepth 20000 in
theorem ggX9_listed_X9_listedOf : GoodIn wsX9_listed wsX9_listedOf := goodIn_r _ [23, 24, 25, 26, 27, 28, 29, 30, 31, 32, 33, 34, 35, 36, 37, 38, 39, 40, 41, 42, 43, 44, 45, 46, 47, 48, 49, 50, 51, 52, 53, 54, 55, 56, 57, 58, 59, 60, 61, 62, 63, 64, 65] (by decide +kernel) (by decide +kernel)
set_option maxRecDepth 20000 in
theorem gX9_listed_X9_listedOf : GoodIn wsX9_listed (wsV RX9 126 RX9 yX9_listedOf wsX9_listedOf) := goodIn_app (goodIn_of _ (by decide +kernel)) ggX9_listed_X9_listedOf
theorem dX9_listed_0 : decode cX9_listed 0 = .ok (.aload_n 0, 1) := by decide +kernel
theorem dX9_listed_1 : decode cX9_listed 1 = .ok (.iload_n 1, 1) := by decide +kernel
theorem dX9_listed_2 : decode cX9_listed 2 = .ok (.invokevirtual 113, 3) := by decide +kernel
theorem dX9_listed_5 : decode cX9_listed 5 = .ok (.ifCond .eq 29, 3) := by decide +kernel
theorem dX9_listed_8 : decode cX9_listed 8 = .ok (.aload_n 0, 1) := by decide +kernel
theorem dX9_listed_9 : decode cX9_listed 9 = .ok (.iload_n 2, 1) := by decide +kernel
theorem dX9_listed_10 : decode cX9_listed 10 = .ok (.invokevirtual 119, 3) := by decide +kernel
theorem dX9_listed_13 : decode cX9_listed 13 = .ok (.ifCond .eq 21, 3) := by decide +kernel
theorem dX9_listed_16 : decode cX9_listed 16 = .ok (.iload_n 3, 1) := by decide +kernel
theorem dX9_listed_17 : decode cX9_listed 17 = .ok (.iconst 0, 1) := by decide +kernel
theorem dX9_listed_18 : decode cX9_listed 18 = .ok (.iconst 1, 1) := by decide +kernel
theorem dX9_listed_19 : decode cX9_listed 19 = .ok (.invokestatic 88, 3) := by decide +kernel
theorem dX9_listed_22 : decode cX9_listed 22 = .ok (.ifCond .eq 12, 3) := by decide +kernel
theorem dX9_listed_25 : decode cX9_listed 25 = .ok (.aload_n 0, 1) := by decide +kernel
theorem dX9_listed_26 : decode cX9_listed 26 = .ok (.iload_n 1, 1) := by decide +kernel
theorem dX9_listed_27 : decode cX9_listed 27 = .ok (.iload_n 2, 1) := by decide +kernel
theorem dX9_listed_28 : decode cX9_listed 28 = .ok (.invokevirtual 122, 3) := by decide +kernel
theorem dX9_listed_31 : decode cX9_listed 31 = .ok (.ifCond .ne 5, 3) := by decide +kernel
theorem dX9_listed_34 : decode cX9_listed 34 = .ok (.iconst (-1), 1) := by decide +kernel
theorem dX9_listed_35 : decode cX9_listed 35 = .ok (.ireturn, 1) := by decide +kernel
theorem dX9_listed_36 : decode cX9_listed 36 = .ok (.aload_n 0, 1) := by decide +kernel
theorem dX9_listed_37 : decode cX9_listed 37 = .ok (.iload_n 1, 1) := by decide +kernel
theorem dX9_listed_38 : decode cX9_listed 38 = .ok (.iload_n 2, 1) := by decide +kernel
theorem dX9_listed_39 : decode cX9_listed 39 = .ok (.iload_n 3, 1) := by decide +kernel
theorem dX9_listed_40 : decode cX9_listed 40 = .ok (.invokevirtual 126, 3) := by decide +kernel
theorem dX9_listed_43 : decode cX9_listed 43 = .ok (.ireturn, 1) := by decide +kernel
theorem dX9_trueHands_0 : decode cX9_trueHands 0 = .ok (.iload_n 2, 1) := by decide +kernel
theorem dX9_trueHands_1 : decode cX9_trueHands 1 = .ok (.aload_n 0, 1) := by decide +kernel
theorem dX9_trueHands_2 : decode cX9_trueHands 2 = .ok (.getfield 31, 3) := by decide +kernel
theorem dX9_trueHands_5 : decode cX9_trueHands 5 = .ok (.iload_n 1, 1) := by decide +kernel
theorem dX9_trueHands_6 : decode cX9_trueHands 6 = .ok (.iaload, 1) := by decide +kernel
theorem dX9_trueHands_7 : decode cX9_trueHands 7 = .ok (.if_icmp .ge 5, 3) := by decide +kernel
theorem dX9_trueHands_10 : decode cX9_trueHands 10 = .ok (.iconst 0, 1) := by decide +kernel
theorem dX9_trueHands_11 : decode cX9_trueHands 11 = .ok (.ireturn, 1) := by decide +kernel
theorem dX9_trueHands_12 : decode cX9_trueHands 12 = .ok (.aload_n 0, 1) := by decide +kernel
theorem dX9_trueHands_13 : decode cX9_trueHands 13 = .ok (.getfield 31, 3) := by decide +kernel
theorem dX9_trueHands_16 : decode cX9_trueHands 16 = .ok (.iload_n 1, 1) := by decide +kernel
theorem dX9_trueHands_17 : decode cX9_trueHands 17 = .ok (.iaload, 1) := by decide +kernel
theorem dX9_trueHands_18 : decode cX9_trueHands 18 = .ok (.istore_n 3, 1) := by decide +kernel
theorem dX9_trueHands_19 : decode cX9_trueHands 19 = .ok (.aload_n 0, 1) := by decide +kernel
theorem dX9_trueHands_20 : decode cX9_trueHands 20 = .ok (.getfield 37, 3) := by decide +kernel
theorem dX9_trueHands_23 : decode cX9_trueHands 23 = .ok (.iload_n 1, 1) := by decide +kernel
theorem dX9_trueHands_24 : decode cX9_trueHands 24 = .ok (.iaload, 1) := by decide +kernel
theorem dX9_trueHands_25 : decode cX9_trueHands 25 = .ok (.istore 4, 2) := by decide +kernel
theorem dX9_trueHands_27 : decode cX9_trueHands 27 = .ok (.iconst 0, 1) := by decide +kernel
theorem dX9_trueHands_28 : decode cX9_trueHands 28 = .ok (.istore 5, 2) := by decide +kernel
theorem dX9_trueHands_30 : decode cX9_trueHands 30 = .ok (.iload 5, 2) := by decide +kernel
theorem dX9_trueHands_32 : decode cX9_trueHands 32 = .ok (.aload_n 0, 1) := by decide +kernel
theorem dX9_trueHands_33 : decode cX9_trueHands 33 = .ok (.getfield 116, 3) := by decide +kernel
theorem dX9_trueHands_36 : decode cX9_trueHands 36 = .ok (.if_icmp .ge 62, 3) := by decide +kernel
theorem dX9_trueHands_39 : decode cX9_trueHands 39 = .ok (.aload_n 0, 1) := by decide +kernel
theorem dX9_trueHands_40 : decode cX9_trueHands 40 = .ok (.getfield 40, 3) := by decide +kernel
theorem dX9_trueHands_43 : decode cX9_trueHands 43 = .ok (.iload 5, 2) := by decide +kernel
theorem dX9_trueHands_45 : decode cX9_trueHands 45 = .ok (.iaload, 1) := by decide +kernel
theorem dX9_trueHands_46 : decode cX9_trueHands 46 = .ok (.iload_n 1, 1) := by decide +kernel
theorem dX9_trueHands_47 : decode cX9_trueHands 47 = .ok (.if_icmp .ne 45, 3) := by decide +kernel
theorem dX9_trueHands_50 : decode cX9_trueHands 50 = .ok (.aload_n 0, 1) := by decide +kernel
theorem dX9_trueHands_51 : decode cX9_trueHands 51 = .ok (.getfield 43, 3) := by decide +kernel
theorem dX9_trueHands_54 : decode cX9_trueHands 54 = .ok (.iload 5, 2) := by decide +kernel
theorem dX9_trueHands_56 : decode cX9_trueHands 56 = .ok (.iaload, 1) := by decide +kernel
theorem dX9_trueHands_57 : decode cX9_trueHands 57 = .ok (.iload_n 2, 1) := by decide +kernel
theorem dX9_trueHands_58 : decode cX9_trueHands 58 = .ok (.if_icmp .gt 34, 3) := by decide +kernel
theorem dX9_trueHands_61 : decode cX9_trueHands 61 = .ok (.aload_n 0, 1) := by decide +kernel
theorem dX9_trueHands_62 : decode cX9_trueHands 62 = .ok (.getfield 43, 3) := by decide +kernel
theorem dX9_trueHands_65 : decode cX9_trueHands 65 = .ok (.iload 5, 2) := by decide +kernel
theorem dX9_trueHands_67 : decode cX9_trueHands 67 = .ok (.iaload, 1) := by decide +kernel
theorem dX9_trueHands_68 : decode cX9_trueHands 68 = .ok (.iload_n 3, 1) := by decide +kernel
theorem dX9_trueHands_69 : decode cX9_trueHands 69 = .ok (.if_icmp .ge 6, 3) := by decide +kernel
theorem dX9_trueHands_72 : decode cX9_trueHands 72 = .ok (.goto 20, 3) := by decide +kernel
theorem dX9_trueHands_75 : decode cX9_trueHands 75 = .ok (.aload_n 0, 1) := by decide +kernel
theorem dX9_trueHands_76 : decode cX9_trueHands 76 = .ok (.getfield 43, 3) := by decide +kernel
theorem dX9_trueHands_79 : decode cX9_trueHands 79 = .ok (.iload 5, 2) := by decide +kernel
theorem dX9_trueHands_81 : decode cX9_trueHands 81 = .ok (.iaload, 1) := by decide +kernel
theorem dX9_trueHands_82 : decode cX9_trueHands 82 = .ok (.istore_n 3, 1) := by decide +kernel
theorem dX9_trueHands_83 : decode cX9_trueHands 83 = .ok (.aload_n 0, 1) := by decide +kernel
theorem dX9_trueHands_84 : decode cX9_trueHands 84 = .ok (.getfield 52, 3) := by decide +kernel
theorem dX9_trueHands_87 : decode cX9_trueHands 87 = .ok (.iload 5, 2) := by decide +kernel
theorem dX9_trueHands_89 : decode cX9_trueHands 89 = .ok (.iaload, 1) := by decide +kernel
theorem dX9_trueHands_90 : decode cX9_trueHands 90 = .ok (.istore 4, 2) := by decide +kernel
theorem dX9_trueHands_92 : decode cX9_trueHands 92 = .ok (.iinc 5 1, 3) := by decide +kernel
theorem dX9_trueHands_95 : decode cX9_trueHands 95 = .ok (.goto (-65), 3) := by decide +kernel
theorem dX9_trueHands_98 : decode cX9_trueHands 98 = .ok (.iload 4, 2) := by decide +kernel
theorem dX9_trueHands_100 : decode cX9_trueHands 100 = .ok (.ireturn, 1) := by decide +kernel
set_option maxRecDepth 20000 in
theorem ggX9_villageHands_X9_trueHands : GoodIn wsX9_villageHands wsX9_trueHands := goodIn_r _ [7, 8, 9, 10, 11, 12, 13, 14, 15, 16, 17, 18, 19, 20, 21, 22, 23, 24, 25, 26, 27, 28, 29, 30, 31, 32, 33, 34, 35, 36, 37, 38, 39, 40, 41, 42, 43, 44, 45, 46, 47, 48] (by decide +kernel) (by decide +kernel)
set_option maxRecDepth 20000 in
theorem gX9_villageHands_X9_trueHands : GoodIn wsX9_villageHands (wsV RX9 130 RX9 yX9_trueHands wsX9_trueHands) := goodIn_app (goodIn_of _ (by decide +kernel)) ggX9_villageHands_X9_trueHands
theorem dX9_villageHands_0 : decode cX9_villageHands 0 = .ok (.iconst 0, 1) := by decide +kernel
theorem dX9_villageHands_1 : decode cX9_villageHands 1 = .ok (.istore_n 3, 1) := by decide +kernel
theorem dX9_villageHands_2 : decode cX9_villageHands 2 = .ok (.iconst 0, 1) := by decide +kernel
theorem dX9_villageHands_3 : decode cX9_villageHands 3 = .ok (.istore 4, 2) := by decide +kernel
theorem dX9_villageHands_5 : decode cX9_villageHands 5 = .ok (.iload 4, 2) := by decide +kernel
theorem dX9_villageHands_7 : decode cX9_villageHands 7 = .ok (.aload_n 0, 1) := by decide +kernel
theorem dX9_villageHands_8 : decode cX9_villageHands 8 = .ok (.getfield 92, 3) := by decide +kernel
theorem dX9_villageHands_11 : decode cX9_villageHands 11 = .ok (.if_icmp .ge 34, 3) := by decide +kernel
theorem dX9_villageHands_14 : decode cX9_villageHands 14 = .ok (.iload_n 3, 1) := by decide +kernel
theorem dX9_villageHands_15 : decode cX9_villageHands 15 = .ok (.aload_n 0, 1) := by decide +kernel
theorem dX9_villageHands_16 : decode cX9_villageHands 16 = .ok (.getfield 28, 3) := by decide +kernel
theorem dX9_villageHands_19 : decode cX9_villageHands 19 = .ok (.iload 4, 2) := by decide +kernel
theorem dX9_villageHands_21 : decode cX9_villageHands 21 = .ok (.iaload, 1) := by decide +kernel
theorem dX9_villageHands_22 : decode cX9_villageHands 22 = .ok (.iload_n 1, 1) := by decide +kernel
theorem dX9_villageHands_23 : decode cX9_villageHands 23 = .ok (.if_icmp .ne 13, 3) := by decide +kernel
theorem dX9_villageHands_26 : decode cX9_villageHands 26 = .ok (.aload_n 0, 1) := by decide +kernel
theorem dX9_villageHands_27 : decode cX9_villageHands 27 = .ok (.iload 4, 2) := by decide +kernel
theorem dX9_villageHands_29 : decode cX9_villageHands 29 = .ok (.iload_n 2, 1) := by decide +kernel
theorem dX9_villageHands_30 : decode cX9_villageHands 30 = .ok (.invokevirtual 130, 3) := by decide +kernel
theorem dX9_villageHands_33 : decode cX9_villageHands 33 = .ok (.goto 4, 3) := by decide +kernel
theorem dX9_villageHands_36 : decode cX9_villageHands 36 = .ok (.iconst 0, 1) := by decide +kernel
theorem dX9_villageHands_37 : decode cX9_villageHands 37 = .ok (.iadd, 1) := by decide +kernel
theorem dX9_villageHands_38 : decode cX9_villageHands 38 = .ok (.istore_n 3, 1) := by decide +kernel
theorem dX9_villageHands_39 : decode cX9_villageHands 39 = .ok (.iinc 4 1, 3) := by decide +kernel
theorem dX9_villageHands_42 : decode cX9_villageHands 42 = .ok (.goto (-37), 3) := by decide +kernel
theorem dX9_villageHands_45 : decode cX9_villageHands 45 = .ok (.iload_n 3, 1) := by decide +kernel
theorem dX9_villageHands_46 : decode cX9_villageHands 46 = .ok (.ireturn, 1) := by decide +kernel
set_option maxRecDepth 20000 in
theorem ggX9_owedOf_X9_lawOf : GoodIn wsX9_owedOf wsX9_lawOf := goodIn_r _ [6, 7, 8, 25, 26, 27, 28, 29, 30, 31, 32, 33, 34, 35, 36, 37, 38, 39, 40, 41, 42, 43, 44, 45, 46, 47, 48, 49, 50, 51, 52, 53, 54, 55, 56, 57, 58, 59] (by decide +kernel) (by decide +kernel)
set_option maxRecDepth 20000 in
theorem gX9_owedOf_X9_lawOf : GoodIn wsX9_owedOf (wsV RX9 109 RX9 yX9_lawOf wsX9_lawOf) := goodIn_app (goodIn_of _ (by decide +kernel)) ggX9_owedOf_X9_lawOf
set_option maxRecDepth 20000 in
theorem ggX9_owedOf_X9_isListed : GoodIn wsX9_owedOf wsX9_isListed := goodIn_r _ [12, 13, 25, 26, 27, 28, 29, 30, 31, 32, 33, 34, 35, 36, 37, 38, 39, 40, 41, 42, 43, 44, 45, 46, 47, 48, 49, 50, 51, 52, 53, 54, 55, 56, 57, 58, 59] (by decide +kernel) (by decide +kernel)
set_option maxRecDepth 20000 in
theorem gX9_owedOf_X9_isListed : GoodIn wsX9_owedOf (wsV RX9 122 RX9 yX9_isListed wsX9_isListed) := goodIn_app (goodIn_of _ (by decide +kernel)) ggX9_owedOf_X9_isListed
set_option maxRecDepth 20000 in
theorem ggX9_owedOf_X9_listedOf : GoodIn wsX9_owedOf wsX9_listedOf := goodIn_r _ [17, 18, 19, 20, 21, 22, 23, 24, 25, 26, 27, 28, 29, 30, 31, 32, 33, 34, 35, 36, 37, 38, 39, 40, 41, 42, 43, 44, 45, 46, 47, 48, 49, 50, 51, 52, 53, 54, 55, 56, 57, 58, 59] (by decide +kernel) (by decide +kernel)
set_option maxRecDepth 20000 in
theorem gX9_owedOf_X9_listedOf : GoodIn wsX9_owedOf (wsV RX9 126 RX9 yX9_listedOf wsX9_listedOf) := goodIn_app (goodIn_of _ (by decide +kernel)) ggX9_owedOf_X9_listedOf
theorem dX9_owedOf_0 : decode cX9_owedOf 0 = .ok (.aload_n 0, 1) := by decide +kernel
theorem dX9_owedOf_1 : decode cX9_owedOf 1 = .ok (.iload_n 2, 1) := by decide +kernel
theorem dX9_owedOf_2 : decode cX9_owedOf 2 = .ok (.invokevirtual 109, 3) := by decide +kernel
theorem dX9_owedOf_5 : decode cX9_owedOf 5 = .ok (.istore_n 3, 1) := by decide +kernel
theorem dX9_owedOf_6 : decode cX9_owedOf 6 = .ok (.iload_n 3, 1) := by decide +kernel
theorem dX9_owedOf_7 : decode cX9_owedOf 7 = .ok (.iconst (-1), 1) := by decide +kernel
theorem dX9_owedOf_8 : decode cX9_owedOf 8 = .ok (.if_icmp .eq 12, 3) := by decide +kernel
theorem dX9_owedOf_11 : decode cX9_owedOf 11 = .ok (.aload_n 0, 1) := by decide +kernel
theorem dX9_owedOf_12 : decode cX9_owedOf 12 = .ok (.iload_n 1, 1) := by decide +kernel
theorem dX9_owedOf_13 : decode cX9_owedOf 13 = .ok (.iload_n 2, 1) := by decide +kernel
theorem dX9_owedOf_14 : decode cX9_owedOf 14 = .ok (.invokevirtual 122, 3) := by decide +kernel
theorem dX9_owedOf_17 : decode cX9_owedOf 17 = .ok (.ifCond .ne 5, 3) := by decide +kernel
theorem dX9_owedOf_20 : decode cX9_owedOf 20 = .ok (.iconst 0, 1) := by decide +kernel
theorem dX9_owedOf_21 : decode cX9_owedOf 21 = .ok (.ireturn, 1) := by decide +kernel
theorem dX9_owedOf_22 : decode cX9_owedOf 22 = .ok (.aload_n 0, 1) := by decide +kernel
theorem dX9_owedOf_23 : decode cX9_owedOf 23 = .ok (.iload_n 1, 1) := by decide +kernel
theorem dX9_owedOf_24 : decode cX9_owedOf 24 = .ok (.iload_n 2, 1) := by decide +kernel
theorem dX9_owedOf_25 : decode cX9_owedOf 25 = .ok (.iconst 0, 1) := by decide +kernel
theorem dX9_owedOf_26 : decode cX9_owedOf 26 = .ok (.invokevirtual 126, 3) := by decide +kernel
theorem dX9_owedOf_29 : decode cX9_owedOf 29 = .ok (.istore 4, 2) := by decide +kernel
theorem dX9_owedOf_31 : decode cX9_owedOf 31 = .ok (.iload 4, 2) := by decide +kernel
theorem dX9_owedOf_33 : decode cX9_owedOf 33 = .ok (.aload_n 0, 1) := by decide +kernel
theorem dX9_owedOf_34 : decode cX9_owedOf 34 = .ok (.getfield 58, 3) := by decide +kernel
theorem dX9_owedOf_37 : decode cX9_owedOf 37 = .ok (.iload_n 3, 1) := by decide +kernel
theorem dX9_owedOf_38 : decode cX9_owedOf 38 = .ok (.iaload, 1) := by decide +kernel
theorem dX9_owedOf_39 : decode cX9_owedOf 39 = .ok (.sipush 1000, 3) := by decide +kernel
theorem dX9_owedOf_42 : decode cX9_owedOf 42 = .ok (.irem, 1) := by decide +kernel
theorem dX9_owedOf_43 : decode cX9_owedOf 43 = .ok (.if_icmp .ge 5, 3) := by decide +kernel
theorem dX9_owedOf_46 : decode cX9_owedOf 46 = .ok (.iconst 0, 1) := by decide +kernel
theorem dX9_owedOf_47 : decode cX9_owedOf 47 = .ok (.ireturn, 1) := by decide +kernel
theorem dX9_owedOf_48 : decode cX9_owedOf 48 = .ok (.iload 4, 2) := by decide +kernel
theorem dX9_owedOf_50 : decode cX9_owedOf 50 = .ok (.bipush 10, 2) := by decide +kernel
theorem dX9_owedOf_52 : decode cX9_owedOf 52 = .ok (.idiv, 1) := by decide +kernel
theorem dX9_owedOf_53 : decode cX9_owedOf 53 = .ok (.aload_n 0, 1) := by decide +kernel
theorem dX9_owedOf_54 : decode cX9_owedOf 54 = .ok (.getfield 58, 3) := by decide +kernel
theorem dX9_owedOf_57 : decode cX9_owedOf 57 = .ok (.iload_n 3, 1) := by decide +kernel
theorem dX9_owedOf_58 : decode cX9_owedOf 58 = .ok (.iaload, 1) := by decide +kernel
theorem dX9_owedOf_59 : decode cX9_owedOf 59 = .ok (.sipush 10000, 3) := by decide +kernel
theorem dX9_owedOf_62 : decode cX9_owedOf 62 = .ok (.idiv, 1) := by decide +kernel
theorem dX9_owedOf_63 : decode cX9_owedOf 63 = .ok (.imul, 1) := by decide +kernel
theorem dX9_owedOf_64 : decode cX9_owedOf 64 = .ok (.aload_n 0, 1) := by decide +kernel
theorem dX9_owedOf_65 : decode cX9_owedOf 65 = .ok (.iload_n 1, 1) := by decide +kernel
theorem dX9_owedOf_66 : decode cX9_owedOf 66 = .ok (.iload_n 2, 1) := by decide +kernel
theorem dX9_owedOf_67 : decode cX9_owedOf 67 = .ok (.iconst 1, 1) := by decide +kernel
theorem dX9_owedOf_68 : decode cX9_owedOf 68 = .ok (.invokevirtual 126, 3) := by decide +kernel
theorem dX9_owedOf_71 : decode cX9_owedOf 71 = .ok (.aload_n 0, 1) := by decide +kernel
theorem dX9_owedOf_72 : decode cX9_owedOf 72 = .ok (.getfield 58, 3) := by decide +kernel
theorem dX9_owedOf_75 : decode cX9_owedOf 75 = .ok (.iload_n 3, 1) := by decide +kernel
theorem dX9_owedOf_76 : decode cX9_owedOf 76 = .ok (.iaload, 1) := by decide +kernel
theorem dX9_owedOf_77 : decode cX9_owedOf 77 = .ok (.sipush 1000, 3) := by decide +kernel
theorem dX9_owedOf_80 : decode cX9_owedOf 80 = .ok (.idiv, 1) := by decide +kernel
theorem dX9_owedOf_81 : decode cX9_owedOf 81 = .ok (.bipush 10, 2) := by decide +kernel
theorem dX9_owedOf_83 : decode cX9_owedOf 83 = .ok (.irem, 1) := by decide +kernel
theorem dX9_owedOf_84 : decode cX9_owedOf 84 = .ok (.imul, 1) := by decide +kernel
theorem dX9_owedOf_85 : decode cX9_owedOf 85 = .ok (.iadd, 1) := by decide +kernel
theorem dX9_owedOf_86 : decode cX9_owedOf 86 = .ok (.ireturn, 1) := by decide +kernel
set_option maxRecDepth 20000 in
theorem ggX9_owed_X9_isHouse : GoodIn wsX9_owed wsX9_isHouse := goodIn_r _ [5, 6, 7, 8, 4, 9, 42, 43, 44, 45, 46, 47, 48, 49, 50, 51, 52, 53, 54, 55, 56, 57, 58, 59, 60, 61, 62, 63, 64, 65, 66, 67, 68, 69, 70, 71, 72, 73, 74, 75, 76] (by decide +kernel) (by decide +kernel)
set_option maxRecDepth 20000 in
theorem gX9_owed_X9_isHouse : GoodIn wsX9_owed (wsV RX9 113 RX9 yX9_isHouse wsX9_isHouse) := goodIn_app (goodIn_of _ (by decide +kernel)) ggX9_owed_X9_isHouse
set_option maxRecDepth 20000 in
theorem ggX9_owed_X9_isYear : GoodIn wsX9_owed wsX9_isYear := goodIn_r _ [13, 14, 7, 8, 4, 9, 42, 43, 44, 45, 46, 47, 48, 49, 50, 51, 52, 53, 54, 55, 56, 57, 58, 59, 60, 61, 62, 63, 64, 65, 66, 67, 68, 69, 70, 71, 72, 73, 74, 75, 76] (by decide +kernel) (by decide +kernel)
set_option maxRecDepth 20000 in
theorem gX9_owed_X9_isYear : GoodIn wsX9_owed (wsV RX9 119 RX9 yX9_isYear wsX9_isYear) := goodIn_app (goodIn_of _ (by decide +kernel)) ggX9_owed_X9_isYear
set_option maxRecDepth 20000 in
theorem ggX9_owed_X9_owedOf : GoodIn wsX9_owed wsX9_owedOf := goodIn_r _ [18, 19, 20, 21, 22, 4, 23, 24, 25, 26, 27, 28, 29, 30, 31, 32, 33, 34, 35, 36, 37, 38, 39, 40, 41, 42, 43, 44, 45, 46, 47, 48, 49, 50, 51, 52, 53, 54, 55, 56, 57, 58, 59, 60, 61, 62, 63, 64, 65, 66, 67, 68, 69, 70, 71, 72, 73, 74, 75, 76] (by decide +kernel) (by decide +kernel)
set_option maxRecDepth 20000 in
theorem gX9_owed_X9_owedOf : GoodIn wsX9_owed (wsV RX9 134 RX9 yX9_owedOf wsX9_owedOf) := goodIn_app (goodIn_of _ (by decide +kernel)) ggX9_owed_X9_owedOf
theorem dX9_owed_0 : decode cX9_owed 0 = .ok (.aload_n 0, 1) := by decide +kernel
theorem dX9_owed_1 : decode cX9_owed 1 = .ok (.iload_n 1, 1) := by decide +kernel
theorem dX9_owed_2 : decode cX9_owed 2 = .ok (.invokevirtual 113, 3) := by decide +kernel
theorem dX9_owed_5 : decode cX9_owed 5 = .ok (.ifCond .eq 20, 3) := by decide +kernel
theorem dX9_owed_8 : decode cX9_owed 8 = .ok (.aload_n 0, 1) := by decide +kernel
theorem dX9_owed_9 : decode cX9_owed 9 = .ok (.iload_n 2, 1) := by decide +kernel
theorem dX9_owed_10 : decode cX9_owed 10 = .ok (.invokevirtual 119, 3) := by decide +kernel
theorem dX9_owed_13 : decode cX9_owed 13 = .ok (.ifCond .eq 12, 3) := by decide +kernel
theorem dX9_owed_16 : decode cX9_owed 16 = .ok (.aload_n 0, 1) := by decide +kernel
theorem dX9_owed_17 : decode cX9_owed 17 = .ok (.iload_n 1, 1) := by decide +kernel
theorem dX9_owed_18 : decode cX9_owed 18 = .ok (.iload_n 2, 1) := by decide +kernel
theorem dX9_owed_19 : decode cX9_owed 19 = .ok (.invokevirtual 134, 3) := by decide +kernel
theorem dX9_owed_22 : decode cX9_owed 22 = .ok (.goto 4, 3) := by decide +kernel
theorem dX9_owed_25 : decode cX9_owed 25 = .ok (.iconst (-1), 1) := by decide +kernel
theorem dX9_owed_26 : decode cX9_owed 26 = .ok (.ireturn, 1) := by decide +kernel
set_option maxRecDepth 20000 in
theorem ggX9_yet_X9_owedOf : GoodIn wsX9_yet wsX9_owedOf := goodIn_r _ [8, 9, 10, 11, 12, 7, 13, 14, 15, 16, 17, 18, 19, 20, 21, 22, 23, 24, 25, 26, 27, 28, 29, 30, 31, 32, 33, 34, 35, 36, 37, 38, 39, 40, 41, 42, 43, 44, 45, 46, 47, 48, 49, 50, 51, 52, 53, 54, 55, 56, 57, 58, 59, 60, 61, 62, 63, 64, 65, 66] (by decide +kernel) (by decide +kernel)
set_option maxRecDepth 20000 in
theorem gX9_yet_X9_owedOf : GoodIn wsX9_yet (wsV RX9 134 RX9 yX9_owedOf wsX9_owedOf) := goodIn_app (goodIn_of _ (by decide +kernel)) ggX9_yet_X9_owedOf
theorem dX9_yet_0 : decode cX9_yet 0 = .ok (.bipush 21, 2) := by decide +kernel
theorem dX9_yet_2 : decode cX9_yet 2 = .ok (.iload_n 1, 1) := by decide +kernel
theorem dX9_yet_3 : decode cX9_yet 3 = .ok (.imul, 1) := by decide +kernel
theorem dX9_yet_4 : decode cX9_yet 4 = .ok (.iload_n 2, 1) := by decide +kernel
theorem dX9_yet_5 : decode cX9_yet 5 = .ok (.iadd, 1) := by decide +kernel
theorem dX9_yet_6 : decode cX9_yet 6 = .ok (.istore_n 3, 1) := by decide +kernel
theorem dX9_yet_7 : decode cX9_yet 7 = .ok (.aload_n 0, 1) := by decide +kernel
theorem dX9_yet_8 : decode cX9_yet 8 = .ok (.iload_n 1, 1) := by decide +kernel
theorem dX9_yet_9 : decode cX9_yet 9 = .ok (.iload_n 2, 1) := by decide +kernel
theorem dX9_yet_10 : decode cX9_yet 10 = .ok (.invokevirtual 134, 3) := by decide +kernel
theorem dX9_yet_13 : decode cX9_yet 13 = .ok (.aload_n 0, 1) := by decide +kernel
theorem dX9_yet_14 : decode cX9_yet 14 = .ok (.getfield 64, 3) := by decide +kernel
theorem dX9_yet_17 : decode cX9_yet 17 = .ok (.iload_n 3, 1) := by decide +kernel
theorem dX9_yet_18 : decode cX9_yet 18 = .ok (.iaload, 1) := by decide +kernel
theorem dX9_yet_19 : decode cX9_yet 19 = .ok (.isub, 1) := by decide +kernel
theorem dX9_yet_20 : decode cX9_yet 20 = .ok (.aload_n 0, 1) := by decide +kernel
theorem dX9_yet_21 : decode cX9_yet 21 = .ok (.getfield 67, 3) := by decide +kernel
theorem dX9_yet_24 : decode cX9_yet 24 = .ok (.iload_n 3, 1) := by decide +kernel
theorem dX9_yet_25 : decode cX9_yet 25 = .ok (.iaload, 1) := by decide +kernel
theorem dX9_yet_26 : decode cX9_yet 26 = .ok (.isub, 1) := by decide +kernel
theorem dX9_yet_27 : decode cX9_yet 27 = .ok (.aload_n 0, 1) := by decide +kernel
theorem dX9_yet_28 : decode cX9_yet 28 = .ok (.getfield 70, 3) := by decide +kernel
theorem dX9_yet_31 : decode cX9_yet 31 = .ok (.iload_n 3, 1) := by decide +kernel
theorem dX9_yet_32 : decode cX9_yet 32 = .ok (.iaload, 1) := by decide +kernel
theorem dX9_yet_33 : decode cX9_yet 33 = .ok (.isub, 1) := by decide +kernel
theorem dX9_yet_34 : decode cX9_yet 34 = .ok (.istore 4, 2) := by decide +kernel
theorem dX9_yet_36 : decode cX9_yet 36 = .ok (.iload 4, 2) := by decide +kernel
theorem dX9_yet_38 : decode cX9_yet 38 = .ok (.ifCond .le 8, 3) := by decide +kernel
theorem dX9_yet_41 : decode cX9_yet 41 = .ok (.iload 4, 2) := by decide +kernel
theorem dX9_yet_43 : decode cX9_yet 43 = .ok (.goto 4, 3) := by decide +kernel
theorem dX9_yet_46 : decode cX9_yet 46 = .ok (.iconst 0, 1) := by decide +kernel
theorem dX9_yet_47 : decode cX9_yet 47 = .ok (.ireturn, 1) := by decide +kernel
theorem dX9_perDay_0 : decode cX9_perDay 0 = .ok (.aload_n 0, 1) := by decide +kernel
theorem dX9_perDay_1 : decode cX9_perDay 1 = .ok (.getfield 16, 3) := by decide +kernel
theorem dX9_perDay_4 : decode cX9_perDay 4 = .ok (.iload_n 1, 1) := by decide +kernel
theorem dX9_perDay_5 : decode cX9_perDay 5 = .ok (.iaload, 1) := by decide +kernel
theorem dX9_perDay_6 : decode cX9_perDay 6 = .ok (.ifCond .ne 8, 3) := by decide +kernel
theorem dX9_perDay_9 : decode cX9_perDay 9 = .ok (.bipush 30, 2) := by decide +kernel
theorem dX9_perDay_11 : decode cX9_perDay 11 = .ok (.goto 20, 3) := by decide +kernel
theorem dX9_perDay_14 : decode cX9_perDay 14 = .ok (.aload_n 0, 1) := by decide +kernel
theorem dX9_perDay_15 : decode cX9_perDay 15 = .ok (.getfield 16, 3) := by decide +kernel
theorem dX9_perDay_18 : decode cX9_perDay 18 = .ok (.iload_n 1, 1) := by decide +kernel
theorem dX9_perDay_19 : decode cX9_perDay 19 = .ok (.iaload, 1) := by decide +kernel
theorem dX9_perDay_20 : decode cX9_perDay 20 = .ok (.iconst 1, 1) := by decide +kernel
theorem dX9_perDay_21 : decode cX9_perDay 21 = .ok (.if_icmp .ne 8, 3) := by decide +kernel
theorem dX9_perDay_24 : decode cX9_perDay 24 = .ok (.bipush 20, 2) := by decide +kernel
theorem dX9_perDay_26 : decode cX9_perDay 26 = .ok (.goto 5, 3) := by decide +kernel
theorem dX9_perDay_29 : decode cX9_perDay 29 = .ok (.bipush 10, 2) := by decide +kernel
theorem dX9_perDay_31 : decode cX9_perDay 31 = .ok (.ireturn, 1) := by decide +kernel
set_option maxRecDepth 20000 in
theorem ggX9_raises_X9_perDay : GoodIn wsX9_raises wsX9_perDay := goodIn_r _ [7, 8, 9, 10, 11, 12, 13, 14, 15, 16, 17, 18, 19, 20, 21, 22, 23, 24, 25, 26, 27, 28, 29, 30, 31, 32, 33, 34, 35, 36, 37, 38, 39, 40, 41, 42, 43] (by decide +kernel) (by decide +kernel)
set_option maxRecDepth 20000 in
theorem gX9_raises_X9_perDay : GoodIn wsX9_raises (wsV RX9 137 RX9 yX9_perDay wsX9_perDay) := goodIn_app (goodIn_of _ (by decide +kernel)) ggX9_raises_X9_perDay
theorem dX9_raises_0 : decode cX9_raises 0 = .ok (.aload_n 0, 1) := by decide +kernel
theorem dX9_raises_1 : decode cX9_raises 1 = .ok (.getfield 25, 3) := by decide +kernel
theorem dX9_raises_4 : decode cX9_raises 4 = .ok (.iload_n 1, 1) := by decide +kernel
theorem dX9_raises_5 : decode cX9_raises 5 = .ok (.dup2, 1) := by decide +kernel
theorem dX9_raises_6 : decode cX9_raises 6 = .ok (.iaload, 1) := by decide +kernel
theorem dX9_raises_7 : decode cX9_raises 7 = .ok (.iload_n 2, 1) := by decide +kernel
theorem dX9_raises_8 : decode cX9_raises 8 = .ok (.iadd, 1) := by decide +kernel
theorem dX9_raises_9 : decode cX9_raises 9 = .ok (.iastore, 1) := by decide +kernel
theorem dX9_raises_10 : decode cX9_raises 10 = .ok (.aload_n 0, 1) := by decide +kernel
theorem dX9_raises_11 : decode cX9_raises 11 = .ok (.getfield 13, 3) := by decide +kernel
theorem dX9_raises_14 : decode cX9_raises 14 = .ok (.iload_n 1, 1) := by decide +kernel
theorem dX9_raises_15 : decode cX9_raises 15 = .ok (.dup2, 1) := by decide +kernel
theorem dX9_raises_16 : decode cX9_raises 16 = .ok (.iaload, 1) := by decide +kernel
theorem dX9_raises_17 : decode cX9_raises 17 = .ok (.iload_n 2, 1) := by decide +kernel
theorem dX9_raises_18 : decode cX9_raises 18 = .ok (.aload_n 0, 1) := by decide +kernel
theorem dX9_raises_19 : decode cX9_raises 19 = .ok (.iload_n 1, 1) := by decide +kernel
theorem dX9_raises_20 : decode cX9_raises 20 = .ok (.invokevirtual 137, 3) := by decide +kernel
theorem dX9_raises_23 : decode cX9_raises 23 = .ok (.imul, 1) := by decide +kernel
theorem dX9_raises_24 : decode cX9_raises 24 = .ok (.iadd, 1) := by decide +kernel
theorem dX9_raises_25 : decode cX9_raises 25 = .ok (.iastore, 1) := by decide +kernel
theorem dX9_raises_26 : decode cX9_raises 26 = .ok (.aload_n 0, 1) := by decide +kernel
theorem dX9_raises_27 : decode cX9_raises 27 = .ok (.getfield 13, 3) := by decide +kernel
theorem dX9_raises_30 : decode cX9_raises 30 = .ok (.iload_n 1, 1) := by decide +kernel
theorem dX9_raises_31 : decode cX9_raises 31 = .ok (.iaload, 1) := by decide +kernel
theorem dX9_raises_32 : decode cX9_raises 32 = .ok (.sipush 3000, 3) := by decide +kernel
theorem dX9_raises_35 : decode cX9_raises 35 = .ok (.if_icmp .le 12, 3) := by decide +kernel
theorem dX9_raises_38 : decode cX9_raises 38 = .ok (.aload_n 0, 1) := by decide +kernel
theorem dX9_raises_39 : decode cX9_raises 39 = .ok (.getfield 13, 3) := by decide +kernel
theorem dX9_raises_42 : decode cX9_raises 42 = .ok (.iload_n 1, 1) := by decide +kernel
theorem dX9_raises_43 : decode cX9_raises 43 = .ok (.sipush 3000, 3) := by decide +kernel
end
section
theorem dX9_raises_46 : decode cX9_raises 46 = .ok (.iastore, 1) := by decide +kernel
theorem dX9_raises_47 : decode cX9_raises 47 = .ok (.return_, 1) := by decide +kernel
set_option maxRecDepth 20000 in
theorem ggX9_work_X9_isHouse : GoodIn wsX9_work wsX9_isHouse := goodIn_r _ [13, 14, 15, 16, 12, 17, 64, 65, 66, 67, 68, 69, 70, 71, 72, 73, 74, 75, 76, 77, 78, 79, 80, 81, 82, 83, 84, 85, 86, 87, 88, 89, 90, 91, 92, 93, 94, 95, 96, 97, 98] (by decide +kernel) (by decide +kernel)
set_option maxRecDepth 20000 in
theorem gX9_work_X9_isHouse : GoodIn wsX9_work (wsV RX9 113 RX9 yX9_isHouse wsX9_isHouse) := goodIn_app (goodIn_of _ (by decide +kernel)) ggX9_work_X9_isHouse
set_option maxRecDepth 20000 in
theorem ggX9_work_X9_isRod : GoodIn wsX9_work wsX9_isRod := goodIn_r _ [20, 15, 16, 12, 17] (by decide +kernel) (by decide +kernel)
set_option maxRecDepth 20000 in
theorem gX9_work_X9_isRod : GoodIn wsX9_work (va_wsS RX9 103 yX9_isRod wsX9_isRod) := goodIn_app (goodIn_of _ (by decide +kernel)) ggX9_work_X9_isRod
set_option maxRecDepth 20000 in
theorem ggX9_work_X9_yet : GoodIn wsX9_work wsX9_yet := goodIn_r _ [24, 6, 4, 25, 26, 27, 28, 12, 29, 30, 31, 32, 33, 34, 35, 36, 37, 38, 39, 40, 41, 42, 43, 44, 45, 46, 47, 48, 49, 50, 51, 52, 64, 65, 66, 67, 68, 69, 70, 71, 72, 73, 74, 75, 76, 77, 78, 79, 80, 81, 82, 83, 84, 85, 86, 87, 88, 89, 90, 91, 92, 93, 94, 95, 96, 97, 98] (by decide +kernel) (by decide +kernel)
set_option maxRecDepth 20000 in
theorem gX9_work_X9_yet : GoodIn wsX9_work (wsV RX9 140 RX9 yX9_yet wsX9_yet) := goodIn_app (goodIn_of _ (by decide +kernel)) ggX9_work_X9_yet
set_option maxRecDepth 20000 in
theorem ggX9_work_X9_in : GoodIn wsX9_work wsX9_in := goodIn_r _ [17] (by decide +kernel) (by decide +kernel)
set_option maxRecDepth 20000 in
theorem gX9_work_X9_in : GoodIn wsX9_work (va_wsS RX9 88 yX9_in wsX9_in) := goodIn_app (goodIn_of _ (by decide +kernel)) ggX9_work_X9_in
set_option maxRecDepth 20000 in
theorem ggX9_work_X9_raises : GoodIn wsX9_work wsX9_raises := goodIn_r _ [56, 57, 58, 59, 60, 61, 12, 62, 63, 64, 65, 66, 67, 68, 69, 70, 71, 72, 73, 74, 75, 76, 77, 78, 79, 80, 81, 82, 83, 84, 85, 86, 87, 88, 89, 90, 91, 92, 93, 94, 95, 96, 97, 98] (by decide +kernel) (by decide +kernel)
set_option maxRecDepth 20000 in
theorem gX9_work_X9_raises : GoodIn wsX9_work (wsV RX9 146 RX9 yX9_raises wsX9_raises) := goodIn_app (goodIn_of _ (by decide +kernel)) ggX9_work_X9_raises
theorem dX9_work_0 : decode cX9_work 0 = .ok (.aload_n 0, 1) := by decide +kernel
theorem dX9_work_1 : decode cX9_work 1 = .ok (.iload_n 1, 1) := by decide +kernel
theorem dX9_work_2 : decode cX9_work 2 = .ok (.invokevirtual 113, 3) := by decide +kernel
theorem dX9_work_5 : decode cX9_work 5 = .ok (.ifCond .eq 29, 3) := by decide +kernel
theorem dX9_work_8 : decode cX9_work 8 = .ok (.aload_n 0, 1) := by decide +kernel
theorem dX9_work_9 : decode cX9_work 9 = .ok (.iload 4, 2) := by decide +kernel
theorem dX9_work_11 : decode cX9_work 11 = .ok (.invokevirtual 113, 3) := by decide +kernel
theorem dX9_work_14 : decode cX9_work 14 = .ok (.ifCond .eq 20, 3) := by decide +kernel
theorem dX9_work_17 : decode cX9_work 17 = .ok (.iload_n 2, 1) := by decide +kernel
theorem dX9_work_18 : decode cX9_work 18 = .ok (.invokestatic 103, 3) := by decide +kernel
theorem dX9_work_21 : decode cX9_work 21 = .ok (.ifCond .eq 13, 3) := by decide +kernel
theorem dX9_work_24 : decode cX9_work 24 = .ok (.aload_n 0, 1) := by decide +kernel
theorem dX9_work_25 : decode cX9_work 25 = .ok (.getfield 96, 3) := by decide +kernel
theorem dX9_work_28 : decode cX9_work 28 = .ok (.sipush 1040, 3) := by decide +kernel
theorem dX9_work_31 : decode cX9_work 31 = .ok (.if_icmp .ne 5, 3) := by decide +kernel
theorem dX9_work_34 : decode cX9_work 34 = .ok (.iconst (-1), 1) := by decide +kernel
theorem dX9_work_35 : decode cX9_work 35 = .ok (.ireturn, 1) := by decide +kernel
theorem dX9_work_36 : decode cX9_work 36 = .ok (.aload_n 0, 1) := by decide +kernel
theorem dX9_work_37 : decode cX9_work 37 = .ok (.getfield 96, 3) := by decide +kernel
theorem dX9_work_40 : decode cX9_work 40 = .ok (.bipush 52, 2) := by decide +kernel
theorem dX9_work_42 : decode cX9_work 42 = .ok (.idiv, 1) := by decide +kernel
theorem dX9_work_43 : decode cX9_work 43 = .ok (.istore 5, 2) := by decide +kernel
theorem dX9_work_45 : decode cX9_work 45 = .ok (.bipush 21, 2) := by decide +kernel
theorem dX9_work_47 : decode cX9_work 47 = .ok (.iload 4, 2) := by decide +kernel
theorem dX9_work_49 : decode cX9_work 49 = .ok (.imul, 1) := by decide +kernel
theorem dX9_work_50 : decode cX9_work 50 = .ok (.iload 5, 2) := by decide +kernel
theorem dX9_work_52 : decode cX9_work 52 = .ok (.iadd, 1) := by decide +kernel
theorem dX9_work_53 : decode cX9_work 53 = .ok (.istore 6, 2) := by decide +kernel
theorem dX9_work_55 : decode cX9_work 55 = .ok (.iload_n 3, 1) := by decide +kernel
theorem dX9_work_56 : decode cX9_work 56 = .ok (.iconst 1, 1) := by decide +kernel
theorem dX9_work_57 : decode cX9_work 57 = .ok (.aload_n 0, 1) := by decide +kernel
theorem dX9_work_58 : decode cX9_work 58 = .ok (.iload 4, 2) := by decide +kernel
theorem dX9_work_60 : decode cX9_work 60 = .ok (.iload 5, 2) := by decide +kernel
theorem dX9_work_62 : decode cX9_work 62 = .ok (.invokevirtual 140, 3) := by decide +kernel
theorem dX9_work_65 : decode cX9_work 65 = .ok (.invokestatic 88, 3) := by decide +kernel
theorem dX9_work_68 : decode cX9_work 68 = .ok (.ifCond .ne 5, 3) := by decide +kernel
theorem dX9_work_71 : decode cX9_work 71 = .ok (.iconst (-1), 1) := by decide +kernel
theorem dX9_work_72 : decode cX9_work 72 = .ok (.ireturn, 1) := by decide +kernel
theorem dX9_work_73 : decode cX9_work 73 = .ok (.iload_n 1, 1) := by decide +kernel
theorem dX9_work_74 : decode cX9_work 74 = .ok (.iload 4, 2) := by decide +kernel
theorem dX9_work_76 : decode cX9_work 76 = .ok (.if_icmp .eq 81, 3) := by decide +kernel
theorem dX9_work_79 : decode cX9_work 79 = .ok (.aload_n 0, 1) := by decide +kernel
theorem dX9_work_80 : decode cX9_work 80 = .ok (.getfield 28, 3) := by decide +kernel
theorem dX9_work_83 : decode cX9_work 83 = .ok (.iload_n 1, 1) := by decide +kernel
theorem dX9_work_84 : decode cX9_work 84 = .ok (.iaload, 1) := by decide +kernel
theorem dX9_work_85 : decode cX9_work 85 = .ok (.aload_n 0, 1) := by decide +kernel
theorem dX9_work_86 : decode cX9_work 86 = .ok (.getfield 28, 3) := by decide +kernel
theorem dX9_work_89 : decode cX9_work 89 = .ok (.iload 4, 2) := by decide +kernel
theorem dX9_work_91 : decode cX9_work 91 = .ok (.iaload, 1) := by decide +kernel
theorem dX9_work_92 : decode cX9_work 92 = .ok (.if_icmp .ne 25, 3) := by decide +kernel
theorem dX9_work_95 : decode cX9_work 95 = .ok (.aload_n 0, 1) := by decide +kernel
theorem dX9_work_96 : decode cX9_work 96 = .ok (.getfield 76, 3) := by decide +kernel
theorem dX9_work_99 : decode cX9_work 99 = .ok (.iload 6, 2) := by decide +kernel
theorem dX9_work_101 : decode cX9_work 101 = .ok (.iaload, 1) := by decide +kernel
theorem dX9_work_102 : decode cX9_work 102 = .ok (.iconst (-1), 1) := by decide +kernel
theorem dX9_work_103 : decode cX9_work 103 = .ok (.if_icmp .eq 16, 3) := by decide +kernel
theorem dX9_work_106 : decode cX9_work 106 = .ok (.aload_n 0, 1) := by decide +kernel
theorem dX9_work_107 : decode cX9_work 107 = .ok (.getfield 76, 3) := by decide +kernel
theorem dX9_work_110 : decode cX9_work 110 = .ok (.iload 6, 2) := by decide +kernel
theorem dX9_work_112 : decode cX9_work 112 = .ok (.iaload, 1) := by decide +kernel
theorem dX9_work_113 : decode cX9_work 113 = .ok (.iload_n 1, 1) := by decide +kernel
theorem dX9_work_114 : decode cX9_work 114 = .ok (.if_icmp .eq 5, 3) := by decide +kernel
theorem dX9_work_117 : decode cX9_work 117 = .ok (.iconst (-1), 1) := by decide +kernel
theorem dX9_work_118 : decode cX9_work 118 = .ok (.ireturn, 1) := by decide +kernel
theorem dX9_work_119 : decode cX9_work 119 = .ok (.aload_n 0, 1) := by decide +kernel
theorem dX9_work_120 : decode cX9_work 120 = .ok (.getfield 76, 3) := by decide +kernel
theorem dX9_work_123 : decode cX9_work 123 = .ok (.iload 6, 2) := by decide +kernel
theorem dX9_work_125 : decode cX9_work 125 = .ok (.iload_n 1, 1) := by decide +kernel
theorem dX9_work_126 : decode cX9_work 126 = .ok (.iastore, 1) := by decide +kernel
theorem dX9_work_127 : decode cX9_work 127 = .ok (.aload_n 0, 1) := by decide +kernel
theorem dX9_work_128 : decode cX9_work 128 = .ok (.getfield 67, 3) := by decide +kernel
theorem dX9_work_131 : decode cX9_work 131 = .ok (.iload 6, 2) := by decide +kernel
theorem dX9_work_133 : decode cX9_work 133 = .ok (.dup2, 1) := by decide +kernel
theorem dX9_work_134 : decode cX9_work 134 = .ok (.iaload, 1) := by decide +kernel
theorem dX9_work_135 : decode cX9_work 135 = .ok (.iload_n 3, 1) := by decide +kernel
theorem dX9_work_136 : decode cX9_work 136 = .ok (.iadd, 1) := by decide +kernel
theorem dX9_work_137 : decode cX9_work 137 = .ok (.iastore, 1) := by decide +kernel
theorem dX9_work_138 : decode cX9_work 138 = .ok (.aload_n 0, 1) := by decide +kernel
theorem dX9_work_139 : decode cX9_work 139 = .ok (.getfield 73, 3) := by decide +kernel
theorem dX9_work_142 : decode cX9_work 142 = .ok (.bipush 21, 2) := by decide +kernel
theorem dX9_work_144 : decode cX9_work 144 = .ok (.iload_n 1, 1) := by decide +kernel
theorem dX9_work_145 : decode cX9_work 145 = .ok (.imul, 1) := by decide +kernel
theorem dX9_work_146 : decode cX9_work 146 = .ok (.iload 5, 2) := by decide +kernel
theorem dX9_work_148 : decode cX9_work 148 = .ok (.iadd, 1) := by decide +kernel
theorem dX9_work_149 : decode cX9_work 149 = .ok (.dup2, 1) := by decide +kernel
theorem dX9_work_150 : decode cX9_work 150 = .ok (.iaload, 1) := by decide +kernel
theorem dX9_work_151 : decode cX9_work 151 = .ok (.iload_n 3, 1) := by decide +kernel
theorem dX9_work_152 : decode cX9_work 152 = .ok (.iadd, 1) := by decide +kernel
theorem dX9_work_153 : decode cX9_work 153 = .ok (.iastore, 1) := by decide +kernel
theorem dX9_work_154 : decode cX9_work 154 = .ok (.goto 14, 3) := by decide +kernel
theorem dX9_work_157 : decode cX9_work 157 = .ok (.aload_n 0, 1) := by decide +kernel
theorem dX9_work_158 : decode cX9_work 158 = .ok (.getfield 64, 3) := by decide +kernel
theorem dX9_work_161 : decode cX9_work 161 = .ok (.iload 6, 2) := by decide +kernel
theorem dX9_work_163 : decode cX9_work 163 = .ok (.dup2, 1) := by decide +kernel
theorem dX9_work_164 : decode cX9_work 164 = .ok (.iaload, 1) := by decide +kernel
theorem dX9_work_165 : decode cX9_work 165 = .ok (.iload_n 3, 1) := by decide +kernel
theorem dX9_work_166 : decode cX9_work 166 = .ok (.iadd, 1) := by decide +kernel
theorem dX9_work_167 : decode cX9_work 167 = .ok (.iastore, 1) := by decide +kernel
theorem dX9_work_168 : decode cX9_work 168 = .ok (.aload_n 0, 1) := by decide +kernel
theorem dX9_work_169 : decode cX9_work 169 = .ok (.getfield 79, 3) := by decide +kernel
theorem dX9_work_172 : decode cX9_work 172 = .ok (.sipush 1040, 3) := by decide +kernel
theorem dX9_work_175 : decode cX9_work 175 = .ok (.aload_n 0, 1) := by decide +kernel
theorem dX9_work_176 : decode cX9_work 176 = .ok (.getfield 28, 3) := by decide +kernel
theorem dX9_work_179 : decode cX9_work 179 = .ok (.iload_n 1, 1) := by decide +kernel
theorem dX9_work_180 : decode cX9_work 180 = .ok (.iaload, 1) := by decide +kernel
theorem dX9_work_181 : decode cX9_work 181 = .ok (.imul, 1) := by decide +kernel
theorem dX9_work_182 : decode cX9_work 182 = .ok (.aload_n 0, 1) := by decide +kernel
theorem dX9_work_183 : decode cX9_work 183 = .ok (.getfield 96, 3) := by decide +kernel
theorem dX9_work_186 : decode cX9_work 186 = .ok (.iadd, 1) := by decide +kernel
theorem dX9_work_187 : decode cX9_work 187 = .ok (.dup2, 1) := by decide +kernel
theorem dX9_work_188 : decode cX9_work 188 = .ok (.iaload, 1) := by decide +kernel
theorem dX9_work_189 : decode cX9_work 189 = .ok (.iload_n 3, 1) := by decide +kernel
theorem dX9_work_190 : decode cX9_work 190 = .ok (.iadd, 1) := by decide +kernel
theorem dX9_work_191 : decode cX9_work 191 = .ok (.iastore, 1) := by decide +kernel
theorem dX9_work_192 : decode cX9_work 192 = .ok (.aload_n 0, 1) := by decide +kernel
theorem dX9_work_193 : decode cX9_work 193 = .ok (.dup, 1) := by decide +kernel
theorem dX9_work_194 : decode cX9_work 194 = .ok (.getfield 143, 3) := by decide +kernel
theorem dX9_work_197 : decode cX9_work 197 = .ok (.iload_n 3, 1) := by decide +kernel
theorem dX9_work_198 : decode cX9_work 198 = .ok (.iadd, 1) := by decide +kernel
theorem dX9_work_199 : decode cX9_work 199 = .ok (.putfield 143, 3) := by decide +kernel
theorem dX9_work_202 : decode cX9_work 202 = .ok (.aload_n 0, 1) := by decide +kernel
theorem dX9_work_203 : decode cX9_work 203 = .ok (.iload_n 2, 1) := by decide +kernel
theorem dX9_work_204 : decode cX9_work 204 = .ok (.iload_n 3, 1) := by decide +kernel
theorem dX9_work_205 : decode cX9_work 205 = .ok (.invokevirtual 146, 3) := by decide +kernel
theorem dX9_work_208 : decode cX9_work 208 = .ok (.aload_n 0, 1) := by decide +kernel
theorem dX9_work_209 : decode cX9_work 209 = .ok (.iload 4, 2) := by decide +kernel
theorem dX9_work_211 : decode cX9_work 211 = .ok (.iload 5, 2) := by decide +kernel
theorem dX9_work_213 : decode cX9_work 213 = .ok (.invokevirtual 140, 3) := by decide +kernel
theorem dX9_work_216 : decode cX9_work 216 = .ok (.ireturn, 1) := by decide +kernel
set_option maxRecDepth 20000 in
theorem ggX9_buy_X9_isHouse : GoodIn wsX9_buy wsX9_isHouse := goodIn_r _ [9, 10, 11, 12, 8, 13, 52, 53, 54, 55, 56, 57, 58, 59, 60, 61, 62, 63, 64, 65, 66, 67, 68, 69, 70, 71, 72, 73, 74, 75, 76, 77, 78, 79, 80, 81, 82, 83, 84, 85, 86] (by decide +kernel) (by decide +kernel)
set_option maxRecDepth 20000 in
theorem gX9_buy_X9_isHouse : GoodIn wsX9_buy (wsV RX9 113 RX9 yX9_isHouse wsX9_isHouse) := goodIn_app (goodIn_of _ (by decide +kernel)) ggX9_buy_X9_isHouse
set_option maxRecDepth 20000 in
theorem ggX9_buy_X9_yet : GoodIn wsX9_buy wsX9_yet := goodIn_r _ [17, 18, 19, 2, 20, 21, 22, 8, 23, 24, 25, 26, 27, 28, 29, 30, 31, 32, 33, 34, 35, 36, 37, 38, 39, 40, 41, 42, 43, 44, 45, 46, 52, 53, 54, 55, 56, 57, 58, 59, 60, 61, 62, 63, 64, 65, 66, 67, 68, 69, 70, 71, 72, 73, 74, 75, 76, 77, 78, 79, 80, 81, 82, 83, 84, 85, 86] (by decide +kernel) (by decide +kernel)
set_option maxRecDepth 20000 in
theorem gX9_buy_X9_yet : GoodIn wsX9_buy (wsV RX9 140 RX9 yX9_yet wsX9_yet) := goodIn_app (goodIn_of _ (by decide +kernel)) ggX9_buy_X9_yet
set_option maxRecDepth 20000 in
theorem ggX9_buy_X9_in : GoodIn wsX9_buy wsX9_in := goodIn_r _ [13] (by decide +kernel) (by decide +kernel)
set_option maxRecDepth 20000 in
theorem gX9_buy_X9_in : GoodIn wsX9_buy (va_wsS RX9 88 yX9_in wsX9_in) := goodIn_app (goodIn_of _ (by decide +kernel)) ggX9_buy_X9_in
set_option maxRecDepth 20000 in
theorem ggX9_buy_X9_coinNow : GoodIn wsX9_buy wsX9_coinNow := goodIn_r _ [50, 1, 51, 25, 26, 27, 8, 28, 29, 30, 52, 53, 54, 55, 56, 57, 58, 59, 60, 61, 62, 63, 64, 65, 66, 67, 68, 69, 70, 71, 72, 73, 74, 75, 76, 77, 78, 79, 80, 81, 82, 83, 84, 85, 86] (by decide +kernel) (by decide +kernel)
set_option maxRecDepth 20000 in
theorem gX9_buy_X9_coinNow : GoodIn wsX9_buy (wsV RX9 156 RX9 yX9_coinNow wsX9_coinNow) := goodIn_app (goodIn_of _ (by decide +kernel)) ggX9_buy_X9_coinNow
theorem dX9_buy_0 : decode cX9_buy 0 = .ok (.aload_n 0, 1) := by decide +kernel
theorem dX9_buy_1 : decode cX9_buy 1 = .ok (.iload_n 1, 1) := by decide +kernel
theorem dX9_buy_2 : decode cX9_buy 2 = .ok (.invokevirtual 113, 3) := by decide +kernel
theorem dX9_buy_5 : decode cX9_buy 5 = .ok (.ifCond .eq 33, 3) := by decide +kernel
theorem dX9_buy_8 : decode cX9_buy 8 = .ok (.aload_n 0, 1) := by decide +kernel
theorem dX9_buy_9 : decode cX9_buy 9 = .ok (.getfield 96, 3) := by decide +kernel
theorem dX9_buy_12 : decode cX9_buy 12 = .ok (.sipush 1040, 3) := by decide +kernel
theorem dX9_buy_15 : decode cX9_buy 15 = .ok (.if_icmp .eq 23, 3) := by decide +kernel
theorem dX9_buy_18 : decode cX9_buy 18 = .ok (.iload_n 2, 1) := by decide +kernel
theorem dX9_buy_19 : decode cX9_buy 19 = .ok (.iconst 1, 1) := by decide +kernel
theorem dX9_buy_20 : decode cX9_buy 20 = .ok (.aload_n 0, 1) := by decide +kernel
theorem dX9_buy_21 : decode cX9_buy 21 = .ok (.iload_n 1, 1) := by decide +kernel
theorem dX9_buy_22 : decode cX9_buy 22 = .ok (.aload_n 0, 1) := by decide +kernel
theorem dX9_buy_23 : decode cX9_buy 23 = .ok (.getfield 96, 3) := by decide +kernel
theorem dX9_buy_26 : decode cX9_buy 26 = .ok (.bipush 52, 2) := by decide +kernel
theorem dX9_buy_28 : decode cX9_buy 28 = .ok (.idiv, 1) := by decide +kernel
theorem dX9_buy_29 : decode cX9_buy 29 = .ok (.invokevirtual 140, 3) := by decide +kernel
theorem dX9_buy_32 : decode cX9_buy 32 = .ok (.invokestatic 88, 3) := by decide +kernel
theorem dX9_buy_35 : decode cX9_buy 35 = .ok (.ifCond .ne 5, 3) := by decide +kernel
theorem dX9_buy_38 : decode cX9_buy 38 = .ok (.iconst (-1), 1) := by decide +kernel
theorem dX9_buy_39 : decode cX9_buy 39 = .ok (.ireturn, 1) := by decide +kernel
theorem dX9_buy_40 : decode cX9_buy 40 = .ok (.aload_n 0, 1) := by decide +kernel
theorem dX9_buy_41 : decode cX9_buy 41 = .ok (.getfield 70, 3) := by decide +kernel
theorem dX9_buy_44 : decode cX9_buy 44 = .ok (.bipush 21, 2) := by decide +kernel
theorem dX9_buy_46 : decode cX9_buy 46 = .ok (.iload_n 1, 1) := by decide +kernel
theorem dX9_buy_47 : decode cX9_buy 47 = .ok (.imul, 1) := by decide +kernel
theorem dX9_buy_48 : decode cX9_buy 48 = .ok (.aload_n 0, 1) := by decide +kernel
theorem dX9_buy_49 : decode cX9_buy 49 = .ok (.getfield 96, 3) := by decide +kernel
theorem dX9_buy_52 : decode cX9_buy 52 = .ok (.bipush 52, 2) := by decide +kernel
theorem dX9_buy_54 : decode cX9_buy 54 = .ok (.idiv, 1) := by decide +kernel
theorem dX9_buy_55 : decode cX9_buy 55 = .ok (.iadd, 1) := by decide +kernel
theorem dX9_buy_56 : decode cX9_buy 56 = .ok (.dup2, 1) := by decide +kernel
theorem dX9_buy_57 : decode cX9_buy 57 = .ok (.iaload, 1) := by decide +kernel
theorem dX9_buy_58 : decode cX9_buy 58 = .ok (.iload_n 2, 1) := by decide +kernel
theorem dX9_buy_59 : decode cX9_buy 59 = .ok (.iadd, 1) := by decide +kernel
theorem dX9_buy_60 : decode cX9_buy 60 = .ok (.iastore, 1) := by decide +kernel
theorem dX9_buy_61 : decode cX9_buy 61 = .ok (.aload_n 0, 1) := by decide +kernel
theorem dX9_buy_62 : decode cX9_buy 62 = .ok (.dup, 1) := by decide +kernel
theorem dX9_buy_63 : decode cX9_buy 63 = .ok (.getfield 150, 3) := by decide +kernel
theorem dX9_buy_66 : decode cX9_buy 66 = .ok (.iload_n 2, 1) := by decide +kernel
theorem dX9_buy_67 : decode cX9_buy 67 = .ok (.iadd, 1) := by decide +kernel
theorem dX9_buy_68 : decode cX9_buy 68 = .ok (.putfield 150, 3) := by decide +kernel
theorem dX9_buy_71 : decode cX9_buy 71 = .ok (.aload_n 0, 1) := by decide +kernel
theorem dX9_buy_72 : decode cX9_buy 72 = .ok (.dup, 1) := by decide +kernel
theorem dX9_buy_73 : decode cX9_buy 73 = .ok (.getfield 153, 3) := by decide +kernel
theorem dX9_buy_76 : decode cX9_buy 76 = .ok (.iload_n 2, 1) := by decide +kernel
theorem dX9_buy_77 : decode cX9_buy 77 = .ok (.aload_n 0, 1) := by decide +kernel
theorem dX9_buy_78 : decode cX9_buy 78 = .ok (.invokevirtual 156, 3) := by decide +kernel
theorem dX9_buy_81 : decode cX9_buy 81 = .ok (.imul, 1) := by decide +kernel
theorem dX9_buy_82 : decode cX9_buy 82 = .ok (.iadd, 1) := by decide +kernel
theorem dX9_buy_83 : decode cX9_buy 83 = .ok (.putfield 153, 3) := by decide +kernel
theorem dX9_buy_86 : decode cX9_buy 86 = .ok (.aload_n 0, 1) := by decide +kernel
theorem dX9_buy_87 : decode cX9_buy 87 = .ok (.getfield 153, 3) := by decide +kernel
theorem dX9_buy_90 : decode cX9_buy 90 = .ok (.ireturn, 1) := by decide +kernel
set_option maxRecDepth 20000 in
theorem ggX9_hire_X9_isRod : GoodIn wsX9_hire wsX9_isRod := goodIn_r _ [6, 7, 8, 5, 9] (by decide +kernel) (by decide +kernel)
set_option maxRecDepth 20000 in
theorem gX9_hire_X9_isRod : GoodIn wsX9_hire (va_wsS RX9 103 yX9_isRod wsX9_isRod) := goodIn_app (goodIn_of _ (by decide +kernel)) ggX9_hire_X9_isRod
set_option maxRecDepth 20000 in
theorem ggX9_hire_X9_in : GoodIn wsX9_hire wsX9_in := goodIn_r _ [9] (by decide +kernel) (by decide +kernel)
set_option maxRecDepth 20000 in
theorem gX9_hire_X9_in : GoodIn wsX9_hire (va_wsS RX9 88 yX9_in wsX9_in) := goodIn_app (goodIn_of _ (by decide +kernel)) ggX9_hire_X9_in
set_option maxRecDepth 20000 in
theorem ggX9_hire_X9_coinNow : GoodIn wsX9_hire wsX9_coinNow := goodIn_r _ [13, 14, 15, 16, 17, 18, 5, 19, 20, 21, 33, 34, 35, 36, 37, 38, 39, 40, 41, 42, 43, 44, 45, 46, 47, 48, 49, 50, 51, 52, 53, 54, 55, 56, 57, 58, 59, 60, 61, 62, 63, 64, 65, 66, 67] (by decide +kernel) (by decide +kernel)
set_option maxRecDepth 20000 in
theorem gX9_hire_X9_coinNow : GoodIn wsX9_hire (wsV RX9 156 RX9 yX9_coinNow wsX9_coinNow) := goodIn_app (goodIn_of _ (by decide +kernel)) ggX9_hire_X9_coinNow
set_option maxRecDepth 20000 in
theorem ggX9_hire_X9_raises : GoodIn wsX9_hire wsX9_raises := goodIn_r _ [25, 26, 27, 28, 29, 30, 5, 31, 32, 33, 34, 35, 36, 37, 38, 39, 40, 41, 42, 43, 44, 45, 46, 47, 48, 49, 50, 51, 52, 53, 54, 55, 56, 57, 58, 59, 60, 61, 62, 63, 64, 65, 66, 67] (by decide +kernel) (by decide +kernel)
set_option maxRecDepth 20000 in
theorem gX9_hire_X9_raises : GoodIn wsX9_hire (wsV RX9 146 RX9 yX9_raises wsX9_raises) := goodIn_app (goodIn_of _ (by decide +kernel)) ggX9_hire_X9_raises
theorem dX9_hire_0 : decode cX9_hire 0 = .ok (.iload_n 1, 1) := by decide +kernel
theorem dX9_hire_1 : decode cX9_hire 1 = .ok (.invokestatic 103, 3) := by decide +kernel
theorem dX9_hire_4 : decode cX9_hire 4 = .ok (.ifCond .eq 34, 3) := by decide +kernel
theorem dX9_hire_7 : decode cX9_hire 7 = .ok (.iload_n 2, 1) := by decide +kernel
theorem dX9_hire_8 : decode cX9_hire 8 = .ok (.iconst 1, 1) := by decide +kernel
theorem dX9_hire_9 : decode cX9_hire 9 = .ok (.sipush 1000, 3) := by decide +kernel
theorem dX9_hire_12 : decode cX9_hire 12 = .ok (.invokestatic 88, 3) := by decide +kernel
theorem dX9_hire_15 : decode cX9_hire 15 = .ok (.ifCond .eq 23, 3) := by decide +kernel
theorem dX9_hire_18 : decode cX9_hire 18 = .ok (.aload_n 0, 1) := by decide +kernel
theorem dX9_hire_19 : decode cX9_hire 19 = .ok (.invokevirtual 156, 3) := by decide +kernel
theorem dX9_hire_22 : decode cX9_hire 22 = .ok (.ifCond .eq 16, 3) := by decide +kernel
theorem dX9_hire_25 : decode cX9_hire 25 = .ok (.iload_n 2, 1) := by decide +kernel
theorem dX9_hire_26 : decode cX9_hire 26 = .ok (.aload_n 0, 1) := by decide +kernel
theorem dX9_hire_27 : decode cX9_hire 27 = .ok (.invokevirtual 156, 3) := by decide +kernel
theorem dX9_hire_30 : decode cX9_hire 30 = .ok (.imul, 1) := by decide +kernel
theorem dX9_hire_31 : decode cX9_hire 31 = .ok (.aload_n 0, 1) := by decide +kernel
theorem dX9_hire_32 : decode cX9_hire 32 = .ok (.getfield 153, 3) := by decide +kernel
theorem dX9_hire_35 : decode cX9_hire 35 = .ok (.if_icmp .le 5, 3) := by decide +kernel
theorem dX9_hire_38 : decode cX9_hire 38 = .ok (.iconst (-1), 1) := by decide +kernel
theorem dX9_hire_39 : decode cX9_hire 39 = .ok (.ireturn, 1) := by decide +kernel
theorem dX9_hire_40 : decode cX9_hire 40 = .ok (.aload_n 0, 1) := by decide +kernel
theorem dX9_hire_41 : decode cX9_hire 41 = .ok (.dup, 1) := by decide +kernel
theorem dX9_hire_42 : decode cX9_hire 42 = .ok (.getfield 153, 3) := by decide +kernel
theorem dX9_hire_45 : decode cX9_hire 45 = .ok (.iload_n 2, 1) := by decide +kernel
theorem dX9_hire_46 : decode cX9_hire 46 = .ok (.aload_n 0, 1) := by decide +kernel
theorem dX9_hire_47 : decode cX9_hire 47 = .ok (.invokevirtual 156, 3) := by decide +kernel
theorem dX9_hire_50 : decode cX9_hire 50 = .ok (.imul, 1) := by decide +kernel
theorem dX9_hire_51 : decode cX9_hire 51 = .ok (.isub, 1) := by decide +kernel
theorem dX9_hire_52 : decode cX9_hire 52 = .ok (.putfield 153, 3) := by decide +kernel
theorem dX9_hire_55 : decode cX9_hire 55 = .ok (.aload_n 0, 1) := by decide +kernel
theorem dX9_hire_56 : decode cX9_hire 56 = .ok (.dup, 1) := by decide +kernel
theorem dX9_hire_57 : decode cX9_hire 57 = .ok (.getfield 160, 3) := by decide +kernel
theorem dX9_hire_60 : decode cX9_hire 60 = .ok (.iload_n 2, 1) := by decide +kernel
theorem dX9_hire_61 : decode cX9_hire 61 = .ok (.iadd, 1) := by decide +kernel
theorem dX9_hire_62 : decode cX9_hire 62 = .ok (.putfield 160, 3) := by decide +kernel
theorem dX9_hire_65 : decode cX9_hire 65 = .ok (.aload_n 0, 1) := by decide +kernel
theorem dX9_hire_66 : decode cX9_hire 66 = .ok (.iload_n 1, 1) := by decide +kernel
theorem dX9_hire_67 : decode cX9_hire 67 = .ok (.iload_n 2, 1) := by decide +kernel
theorem dX9_hire_68 : decode cX9_hire 68 = .ok (.invokevirtual 146, 3) := by decide +kernel
theorem dX9_hire_71 : decode cX9_hire 71 = .ok (.aload_n 0, 1) := by decide +kernel
theorem dX9_hire_72 : decode cX9_hire 72 = .ok (.getfield 153, 3) := by decide +kernel
theorem dX9_hire_75 : decode cX9_hire 75 = .ok (.ireturn, 1) := by decide +kernel
set_option maxRecDepth 20000 in
theorem ggX9_river_X9_in : GoodIn wsX9_river wsX9_in := goodIn_r _ [6] (by decide +kernel) (by decide +kernel)
set_option maxRecDepth 20000 in
theorem gX9_river_X9_in : GoodIn wsX9_river (va_wsS RX9 88 yX9_in wsX9_in) := goodIn_app (goodIn_of _ (by decide +kernel)) ggX9_river_X9_in
theorem dX9_river_0 : decode cX9_river 0 = .ok (.iload_n 1, 1) := by decide +kernel
theorem dX9_river_1 : decode cX9_river 1 = .ok (.aload_n 0, 1) := by decide +kernel
theorem dX9_river_2 : decode cX9_river 2 = .ok (.getfield 96, 3) := by decide +kernel
theorem dX9_river_5 : decode cX9_river 5 = .ok (.sipush 1039, 3) := by decide +kernel
theorem dX9_river_8 : decode cX9_river 8 = .ok (.invokestatic 88, 3) := by decide +kernel
theorem dX9_river_11 : decode cX9_river 11 = .ok (.ifCond .eq 25, 3) := by decide +kernel
theorem dX9_river_14 : decode cX9_river 14 = .ok (.iload_n 2, 1) := by decide +kernel
theorem dX9_river_15 : decode cX9_river 15 = .ok (.iload_n 1, 1) := by decide +kernel
theorem dX9_river_16 : decode cX9_river 16 = .ok (.sipush 1039, 3) := by decide +kernel
theorem dX9_river_19 : decode cX9_river 19 = .ok (.invokestatic 88, 3) := by decide +kernel
theorem dX9_river_22 : decode cX9_river 22 = .ok (.ifCond .eq 14, 3) := by decide +kernel
theorem dX9_river_25 : decode cX9_river 25 = .ok (.iload_n 3, 1) := by decide +kernel
theorem dX9_river_26 : decode cX9_river 26 = .ok (.iconst 0, 1) := by decide +kernel
theorem dX9_river_27 : decode cX9_river 27 = .ok (.sipush 3000, 3) := by decide +kernel
theorem dX9_river_30 : decode cX9_river 30 = .ok (.invokestatic 88, 3) := by decide +kernel
theorem dX9_river_33 : decode cX9_river 33 = .ok (.ifCond .ne 5, 3) := by decide +kernel
theorem dX9_river_36 : decode cX9_river 36 = .ok (.iconst 0, 1) := by decide +kernel
theorem dX9_river_37 : decode cX9_river 37 = .ok (.ireturn, 1) := by decide +kernel
theorem dX9_river_38 : decode cX9_river 38 = .ok (.iload_n 1, 1) := by decide +kernel
theorem dX9_river_39 : decode cX9_river 39 = .ok (.istore 4, 2) := by decide +kernel
theorem dX9_river_41 : decode cX9_river 41 = .ok (.iload 4, 2) := by decide +kernel
theorem dX9_river_43 : decode cX9_river 43 = .ok (.iload_n 2, 1) := by decide +kernel
theorem dX9_river_44 : decode cX9_river 44 = .ok (.if_icmp .gt 17, 3) := by decide +kernel
theorem dX9_river_47 : decode cX9_river 47 = .ok (.aload_n 0, 1) := by decide +kernel
theorem dX9_river_48 : decode cX9_river 48 = .ok (.getfield 82, 3) := by decide +kernel
theorem dX9_river_51 : decode cX9_river 51 = .ok (.iload 4, 2) := by decide +kernel
theorem dX9_river_53 : decode cX9_river 53 = .ok (.iload_n 3, 1) := by decide +kernel
theorem dX9_river_54 : decode cX9_river 54 = .ok (.iastore, 1) := by decide +kernel
theorem dX9_river_55 : decode cX9_river 55 = .ok (.iinc 4 1, 3) := by decide +kernel
theorem dX9_river_58 : decode cX9_river 58 = .ok (.goto (-17), 3) := by decide +kernel
theorem dX9_river_61 : decode cX9_river 61 = .ok (.iconst 1, 1) := by decide +kernel
theorem dX9_river_62 : decode cX9_river 62 = .ok (.ireturn, 1) := by decide +kernel
set_option maxRecDepth 20000 in
theorem ggX9_go_X9_in : GoodIn wsX9_go wsX9_in := goodIn_r _ [6] (by decide +kernel) (by decide +kernel)
set_option maxRecDepth 20000 in
theorem gX9_go_X9_in : GoodIn wsX9_go (va_wsS RX9 88 yX9_in wsX9_in) := goodIn_app (goodIn_of _ (by decide +kernel)) ggX9_go_X9_in
set_option maxRecDepth 20000 in
theorem ggX9_go_X9_ends : GoodIn wsX9_go wsX9_ends := goodIn_r _ [10, 11, 12, 13, 14, 15, 16, 17, 18, 19, 20, 21, 22, 23, 24, 25, 26, 27, 28, 29, 30, 31, 32, 33, 34, 35, 36, 37, 38, 39, 40, 41, 42, 43, 44, 45, 46, 47, 48, 49] (by decide +kernel) (by decide +kernel)
set_option maxRecDepth 20000 in
theorem gX9_go_X9_ends : GoodIn wsX9_go (wsV RX9 163 RX9 yX9_ends wsX9_ends) := goodIn_app (goodIn_of _ (by decide +kernel)) ggX9_go_X9_ends
theorem dX9_go_0 : decode cX9_go 0 = .ok (.iload_n 1, 1) := by decide +kernel
theorem dX9_go_1 : decode cX9_go 1 = .ok (.iconst 0, 1) := by decide +kernel
theorem dX9_go_2 : decode cX9_go 2 = .ok (.bipush 104, 2) := by decide +kernel
theorem dX9_go_4 : decode cX9_go 4 = .ok (.invokestatic 88, 3) := by decide +kernel
theorem dX9_go_7 : decode cX9_go 7 = .ok (.ifCond .ne 5, 3) := by decide +kernel
theorem dX9_go_10 : decode cX9_go 10 = .ok (.iconst (-1), 1) := by decide +kernel
theorem dX9_go_11 : decode cX9_go 11 = .ok (.ireturn, 1) := by decide +kernel
theorem dX9_go_12 : decode cX9_go 12 = .ok (.iconst 0, 1) := by decide +kernel
theorem dX9_go_13 : decode cX9_go 13 = .ok (.istore_n 2, 1) := by decide +kernel
theorem dX9_go_14 : decode cX9_go 14 = .ok (.iload_n 2, 1) := by decide +kernel
theorem dX9_go_15 : decode cX9_go 15 = .ok (.iload_n 1, 1) := by decide +kernel
theorem dX9_go_16 : decode cX9_go 16 = .ok (.if_icmp .ge 57, 3) := by decide +kernel
theorem dX9_go_19 : decode cX9_go 19 = .ok (.aload_n 0, 1) := by decide +kernel
theorem dX9_go_20 : decode cX9_go 20 = .ok (.getfield 96, 3) := by decide +kernel
theorem dX9_go_23 : decode cX9_go 23 = .ok (.sipush 1040, 3) := by decide +kernel
theorem dX9_go_26 : decode cX9_go 26 = .ok (.if_icmp .ge 47, 3) := by decide +kernel
theorem dX9_go_29 : decode cX9_go 29 = .ok (.iconst 0, 1) := by decide +kernel
theorem dX9_go_30 : decode cX9_go 30 = .ok (.istore_n 3, 1) := by decide +kernel
theorem dX9_go_31 : decode cX9_go 31 = .ok (.iload_n 3, 1) := by decide +kernel
theorem dX9_go_32 : decode cX9_go 32 = .ok (.bipush 30, 2) := by decide +kernel
theorem dX9_go_34 : decode cX9_go 34 = .ok (.if_icmp .ge 23, 3) := by decide +kernel
theorem dX9_go_37 : decode cX9_go 37 = .ok (.aload_n 0, 1) := by decide +kernel
theorem dX9_go_38 : decode cX9_go 38 = .ok (.iload_n 3, 1) := by decide +kernel
theorem dX9_go_39 : decode cX9_go 39 = .ok (.aload_n 0, 1) := by decide +kernel
theorem dX9_go_40 : decode cX9_go 40 = .ok (.getfield 82, 3) := by decide +kernel
theorem dX9_go_43 : decode cX9_go 43 = .ok (.aload_n 0, 1) := by decide +kernel
theorem dX9_go_44 : decode cX9_go 44 = .ok (.getfield 96, 3) := by decide +kernel
theorem dX9_go_47 : decode cX9_go 47 = .ok (.iaload, 1) := by decide +kernel
theorem dX9_go_48 : decode cX9_go 48 = .ok (.invokevirtual 163, 3) := by decide +kernel
theorem dX9_go_51 : decode cX9_go 51 = .ok (.iinc 3 1, 3) := by decide +kernel
theorem dX9_go_54 : decode cX9_go 54 = .ok (.goto (-23), 3) := by decide +kernel
theorem dX9_go_57 : decode cX9_go 57 = .ok (.aload_n 0, 1) := by decide +kernel
theorem dX9_go_58 : decode cX9_go 58 = .ok (.dup, 1) := by decide +kernel
theorem dX9_go_59 : decode cX9_go 59 = .ok (.getfield 96, 3) := by decide +kernel
theorem dX9_go_62 : decode cX9_go 62 = .ok (.iconst 1, 1) := by decide +kernel
theorem dX9_go_63 : decode cX9_go 63 = .ok (.iadd, 1) := by decide +kernel
theorem dX9_go_64 : decode cX9_go 64 = .ok (.putfield 96, 3) := by decide +kernel
theorem dX9_go_67 : decode cX9_go 67 = .ok (.iinc 2 1, 3) := by decide +kernel
theorem dX9_go_70 : decode cX9_go 70 = .ok (.goto (-56), 3) := by decide +kernel
theorem dX9_go_73 : decode cX9_go 73 = .ok (.aload_n 0, 1) := by decide +kernel
theorem dX9_go_74 : decode cX9_go 74 = .ok (.getfield 96, 3) := by decide +kernel
theorem dX9_go_77 : decode cX9_go 77 = .ok (.ireturn, 1) := by decide +kernel
theorem dX9_ends_0 : decode cX9_ends 0 = .ok (.iload_n 2, 1) := by decide +kernel
theorem dX9_ends_1 : decode cX9_ends 1 = .ok (.aload_n 0, 1) := by decide +kernel
theorem dX9_ends_2 : decode cX9_ends 2 = .ok (.getfield 13, 3) := by decide +kernel
theorem dX9_ends_5 : decode cX9_ends 5 = .ok (.iload_n 1, 1) := by decide +kernel
theorem dX9_ends_6 : decode cX9_ends 6 = .ok (.iaload, 1) := by decide +kernel
theorem dX9_ends_7 : decode cX9_ends 7 = .ok (.if_icmp .le 36, 3) := by decide +kernel
theorem dX9_ends_10 : decode cX9_ends 10 = .ok (.aload_n 0, 1) := by decide +kernel
theorem dX9_ends_11 : decode cX9_ends 11 = .ok (.getfield 13, 3) := by decide +kernel
theorem dX9_ends_14 : decode cX9_ends 14 = .ok (.iload_n 1, 1) := by decide +kernel
theorem dX9_ends_15 : decode cX9_ends 15 = .ok (.iconst 0, 1) := by decide +kernel
theorem dX9_ends_16 : decode cX9_ends 16 = .ok (.iastore, 1) := by decide +kernel
theorem dX9_ends_17 : decode cX9_ends 17 = .ok (.aload_n 0, 1) := by decide +kernel
theorem dX9_ends_18 : decode cX9_ends 18 = .ok (.getfield 22, 3) := by decide +kernel
theorem dX9_ends_21 : decode cX9_ends 21 = .ok (.iload_n 1, 1) := by decide +kernel
theorem dX9_ends_22 : decode cX9_ends 22 = .ok (.dup2, 1) := by decide +kernel
theorem dX9_ends_23 : decode cX9_ends 23 = .ok (.iaload, 1) := by decide +kernel
theorem dX9_ends_24 : decode cX9_ends 24 = .ok (.iconst 1, 1) := by decide +kernel
theorem dX9_ends_25 : decode cX9_ends 25 = .ok (.iadd, 1) := by decide +kernel
theorem dX9_ends_26 : decode cX9_ends 26 = .ok (.iastore, 1) := by decide +kernel
theorem dX9_ends_27 : decode cX9_ends 27 = .ok (.aload_n 0, 1) := by decide +kernel
theorem dX9_ends_28 : decode cX9_ends 28 = .ok (.dup, 1) := by decide +kernel
theorem dX9_ends_29 : decode cX9_ends 29 = .ok (.getfield 166, 3) := by decide +kernel
theorem dX9_ends_32 : decode cX9_ends 32 = .ok (.aload_n 0, 1) := by decide +kernel
theorem dX9_ends_33 : decode cX9_ends 33 = .ok (.getfield 19, 3) := by decide +kernel
theorem dX9_ends_36 : decode cX9_ends 36 = .ok (.iload_n 1, 1) := by decide +kernel
theorem dX9_ends_37 : decode cX9_ends 37 = .ok (.iaload, 1) := by decide +kernel
theorem dX9_ends_38 : decode cX9_ends 38 = .ok (.iadd, 1) := by decide +kernel
theorem dX9_ends_39 : decode cX9_ends 39 = .ok (.putfield 166, 3) := by decide +kernel
theorem dX9_ends_42 : decode cX9_ends 42 = .ok (.return_, 1) := by decide +kernel
theorem dX9_ends_43 : decode cX9_ends 43 = .ok (.aload_n 0, 1) := by decide +kernel
theorem dX9_ends_44 : decode cX9_ends 44 = .ok (.getfield 13, 3) := by decide +kernel
theorem dX9_ends_47 : decode cX9_ends 47 = .ok (.iload_n 1, 1) := by decide +kernel
theorem dX9_ends_48 : decode cX9_ends 48 = .ok (.dup2, 1) := by decide +kernel
theorem dX9_ends_49 : decode cX9_ends 49 = .ok (.iaload, 1) := by decide +kernel
theorem dX9_ends_50 : decode cX9_ends 50 = .ok (.iload_n 2, 1) := by decide +kernel
theorem dX9_ends_51 : decode cX9_ends 51 = .ok (.bipush 100, 2) := by decide +kernel
theorem dX9_ends_53 : decode cX9_ends 53 = .ok (.idiv, 1) := by decide +kernel
theorem dX9_ends_54 : decode cX9_ends 54 = .ok (.isub, 1) := by decide +kernel
theorem dX9_ends_55 : decode cX9_ends 55 = .ok (.iastore, 1) := by decide +kernel
theorem dX9_ends_56 : decode cX9_ends 56 = .ok (.aload_n 0, 1) := by decide +kernel
theorem dX9_ends_57 : decode cX9_ends 57 = .ok (.getfield 13, 3) := by decide +kernel
theorem dX9_ends_60 : decode cX9_ends 60 = .ok (.iload_n 1, 1) := by decide +kernel
theorem dX9_ends_61 : decode cX9_ends 61 = .ok (.iaload, 1) := by decide +kernel
theorem dX9_ends_62 : decode cX9_ends 62 = .ok (.ifCond .ge 10, 3) := by decide +kernel
theorem dX9_ends_65 : decode cX9_ends 65 = .ok (.aload_n 0, 1) := by decide +kernel
theorem dX9_ends_66 : decode cX9_ends 66 = .ok (.getfield 13, 3) := by decide +kernel
theorem dX9_ends_69 : decode cX9_ends 69 = .ok (.iload_n 1, 1) := by decide +kernel
theorem dX9_ends_70 : decode cX9_ends 70 = .ok (.iconst 0, 1) := by decide +kernel
theorem dX9_ends_71 : decode cX9_ends 71 = .ok (.iastore, 1) := by decide +kernel
theorem dX9_ends_72 : decode cX9_ends 72 = .ok (.return_, 1) := by decide +kernel
set_option maxRecDepth 20000 in
theorem ggX9_told_X9_isHouse : GoodIn wsX9_told wsX9_isHouse := goodIn_r _ [10, 11, 12, 13, 9, 14, 51, 52, 53, 54, 55, 56, 57, 58, 59, 60, 61, 62, 63, 64, 65, 66, 67, 68, 69, 70, 71, 72, 73, 74, 75, 76, 77, 78, 79, 80, 81, 82, 83, 84, 85] (by decide +kernel) (by decide +kernel)
set_option maxRecDepth 20000 in
theorem gX9_told_X9_isHouse : GoodIn wsX9_told (wsV RX9 113 RX9 yX9_isHouse wsX9_isHouse) := goodIn_app (goodIn_of _ (by decide +kernel)) ggX9_told_X9_isHouse
set_option maxRecDepth 20000 in
theorem ggX9_told_X9_isYear : GoodIn wsX9_told wsX9_isYear := goodIn_r _ [18, 19, 12, 13, 9, 14, 51, 52, 53, 54, 55, 56, 57, 58, 59, 60, 61, 62, 63, 64, 65, 66, 67, 68, 69, 70, 71, 72, 73, 74, 75, 76, 77, 78, 79, 80, 81, 82, 83, 84, 85] (by decide +kernel) (by decide +kernel)
set_option maxRecDepth 20000 in
theorem gX9_told_X9_isYear : GoodIn wsX9_told (wsV RX9 119 RX9 yX9_isYear wsX9_isYear) := goodIn_app (goodIn_of _ (by decide +kernel)) ggX9_told_X9_isYear
set_option maxRecDepth 20000 in
theorem ggX9_told_X9_owedOf : GoodIn wsX9_told wsX9_owedOf := goodIn_r _ [23, 24, 25, 26, 27, 9, 28, 29, 30, 31, 32, 33, 34, 35, 36, 37, 38, 39, 40, 41, 42, 43, 44, 45, 46, 51, 52, 53, 54, 55, 56, 57, 58, 59, 60, 61, 62, 63, 64, 65, 66, 67, 68, 69, 70, 71, 72, 73, 74, 75, 76, 77, 78, 79, 80, 81, 82, 83, 84, 85] (by decide +kernel) (by decide +kernel)
set_option maxRecDepth 20000 in
theorem gX9_told_X9_owedOf : GoodIn wsX9_told (wsV RX9 134 RX9 yX9_owedOf wsX9_owedOf) := goodIn_app (goodIn_of _ (by decide +kernel)) ggX9_told_X9_owedOf
set_option maxRecDepth 20000 in
theorem ggX9_told_X9_yet : GoodIn wsX9_told wsX9_yet := goodIn_r _ [50, 1, 2, 3, 20, 21, 22, 9, 23, 24, 25, 26, 27, 28, 29, 30, 31, 32, 33, 34, 35, 36, 37, 38, 39, 40, 41, 42, 43, 44, 45, 46, 51, 52, 53, 54, 55, 56, 57, 58, 59, 60, 61, 62, 63, 64, 65, 66, 67, 68, 69, 70, 71, 72, 73, 74, 75, 76, 77, 78, 79, 80, 81, 82, 83, 84, 85] (by decide +kernel) (by decide +kernel)
set_option maxRecDepth 20000 in
theorem gX9_told_X9_yet : GoodIn wsX9_told (wsV RX9 140 RX9 yX9_yet wsX9_yet) := goodIn_app (goodIn_of _ (by decide +kernel)) ggX9_told_X9_yet
theorem dX9_told_0 : decode cX9_told 0 = .ok (.aload_n 0, 1) := by decide +kernel
theorem dX9_told_1 : decode cX9_told 1 = .ok (.iload_n 1, 1) := by decide +kernel
theorem dX9_told_2 : decode cX9_told 2 = .ok (.invokevirtual 113, 3) := by decide +kernel
theorem dX9_told_5 : decode cX9_told 5 = .ok (.ifCond .eq 11, 3) := by decide +kernel
theorem dX9_told_8 : decode cX9_told 8 = .ok (.aload_n 0, 1) := by decide +kernel
theorem dX9_told_9 : decode cX9_told 9 = .ok (.iload_n 2, 1) := by decide +kernel
theorem dX9_told_10 : decode cX9_told 10 = .ok (.invokevirtual 119, 3) := by decide +kernel
theorem dX9_told_13 : decode cX9_told 13 = .ok (.ifCond .ne 5, 3) := by decide +kernel
theorem dX9_told_16 : decode cX9_told 16 = .ok (.iconst (-1), 1) := by decide +kernel
theorem dX9_told_17 : decode cX9_told 17 = .ok (.ireturn, 1) := by decide +kernel
theorem dX9_told_18 : decode cX9_told 18 = .ok (.bipush 21, 2) := by decide +kernel
theorem dX9_told_20 : decode cX9_told 20 = .ok (.iload_n 1, 1) := by decide +kernel
theorem dX9_told_21 : decode cX9_told 21 = .ok (.imul, 1) := by decide +kernel
theorem dX9_told_22 : decode cX9_told 22 = .ok (.iload_n 2, 1) := by decide +kernel
theorem dX9_told_23 : decode cX9_told 23 = .ok (.iadd, 1) := by decide +kernel
theorem dX9_told_24 : decode cX9_told 24 = .ok (.istore 4, 2) := by decide +kernel
theorem dX9_told_26 : decode cX9_told 26 = .ok (.iload_n 3, 1) := by decide +kernel
theorem dX9_told_27 : decode cX9_told 27 = .ok (.tableswitch 95 0 6 #[41, 48, 56, 64, 72, 79, 87], 41) := by decide +kernel
theorem dX9_told_68 : decode cX9_told 68 = .ok (.aload_n 0, 1) := by decide +kernel
theorem dX9_told_69 : decode cX9_told 69 = .ok (.iload_n 1, 1) := by decide +kernel
theorem dX9_told_70 : decode cX9_told 70 = .ok (.iload_n 2, 1) := by decide +kernel
theorem dX9_told_71 : decode cX9_told 71 = .ok (.invokevirtual 134, 3) := by decide +kernel
theorem dX9_told_74 : decode cX9_told 74 = .ok (.ireturn, 1) := by decide +kernel
theorem dX9_told_75 : decode cX9_told 75 = .ok (.aload_n 0, 1) := by decide +kernel
theorem dX9_told_76 : decode cX9_told 76 = .ok (.getfield 64, 3) := by decide +kernel
theorem dX9_told_79 : decode cX9_told 79 = .ok (.iload 4, 2) := by decide +kernel
theorem dX9_told_81 : decode cX9_told 81 = .ok (.iaload, 1) := by decide +kernel
theorem dX9_told_82 : decode cX9_told 82 = .ok (.ireturn, 1) := by decide +kernel
theorem dX9_told_83 : decode cX9_told 83 = .ok (.aload_n 0, 1) := by decide +kernel
theorem dX9_told_84 : decode cX9_told 84 = .ok (.getfield 67, 3) := by decide +kernel
theorem dX9_told_87 : decode cX9_told 87 = .ok (.iload 4, 2) := by decide +kernel
theorem dX9_told_89 : decode cX9_told 89 = .ok (.iaload, 1) := by decide +kernel
theorem dX9_told_90 : decode cX9_told 90 = .ok (.ireturn, 1) := by decide +kernel
theorem dX9_told_91 : decode cX9_told 91 = .ok (.aload_n 0, 1) := by decide +kernel
theorem dX9_told_92 : decode cX9_told 92 = .ok (.getfield 70, 3) := by decide +kernel
theorem dX9_told_95 : decode cX9_told 95 = .ok (.iload 4, 2) := by decide +kernel
theorem dX9_told_97 : decode cX9_told 97 = .ok (.iaload, 1) := by decide +kernel
theorem dX9_told_98 : decode cX9_told 98 = .ok (.ireturn, 1) := by decide +kernel
theorem dX9_told_99 : decode cX9_told 99 = .ok (.aload_n 0, 1) := by decide +kernel
theorem dX9_told_100 : decode cX9_told 100 = .ok (.iload_n 1, 1) := by decide +kernel
theorem dX9_told_101 : decode cX9_told 101 = .ok (.iload_n 2, 1) := by decide +kernel
theorem dX9_told_102 : decode cX9_told 102 = .ok (.invokevirtual 140, 3) := by decide +kernel
theorem dX9_told_105 : decode cX9_told 105 = .ok (.ireturn, 1) := by decide +kernel
theorem dX9_told_106 : decode cX9_told 106 = .ok (.aload_n 0, 1) := by decide +kernel
theorem dX9_told_107 : decode cX9_told 107 = .ok (.getfield 76, 3) := by decide +kernel
theorem dX9_told_110 : decode cX9_told 110 = .ok (.iload 4, 2) := by decide +kernel
theorem dX9_told_112 : decode cX9_told 112 = .ok (.iaload, 1) := by decide +kernel
theorem dX9_told_113 : decode cX9_told 113 = .ok (.ireturn, 1) := by decide +kernel
theorem dX9_told_114 : decode cX9_told 114 = .ok (.aload_n 0, 1) := by decide +kernel
theorem dX9_told_115 : decode cX9_told 115 = .ok (.getfield 73, 3) := by decide +kernel
theorem dX9_told_118 : decode cX9_told 118 = .ok (.iload 4, 2) := by decide +kernel
theorem dX9_told_120 : decode cX9_told 120 = .ok (.iaload, 1) := by decide +kernel
theorem dX9_told_121 : decode cX9_told 121 = .ok (.ireturn, 1) := by decide +kernel
theorem dX9_told_122 : decode cX9_told 122 = .ok (.iconst (-1), 1) := by decide +kernel
theorem dX9_told_123 : decode cX9_told 123 = .ok (.ireturn, 1) := by decide +kernel
set_option maxRecDepth 20000 in
theorem ggX9_paperWeek_X9_isVillage : GoodIn wsX9_paperWeek wsX9_isVillage := goodIn_r _ [6, 7, 8, 5, 9] (by decide +kernel) (by decide +kernel)
set_option maxRecDepth 20000 in
theorem gX9_paperWeek_X9_isVillage : GoodIn wsX9_paperWeek (va_wsS RX9 99 yX9_isVillage wsX9_isVillage) := goodIn_app (goodIn_of _ (by decide +kernel)) ggX9_paperWeek_X9_isVillage
set_option maxRecDepth 20000 in
theorem ggX9_paperWeek_X9_villageHands : GoodIn wsX9_paperWeek wsX9_villageHands := goodIn_r _ [13, 14, 15, 16, 17, 18, 5, 19, 20, 21, 22, 23, 24, 25, 26, 27, 28, 29, 30, 31, 32, 33, 34, 35, 36, 37, 38, 39, 40, 41, 42, 43, 44, 45, 46, 47, 48, 49, 50, 51, 52, 53, 54, 55, 56, 57, 58, 59, 60] (by decide +kernel) (by decide +kernel)
set_option maxRecDepth 20000 in
theorem gX9_paperWeek_X9_villageHands : GoodIn wsX9_paperWeek (wsV RX9 169 RX9 yX9_villageHands wsX9_villageHands) := goodIn_app (goodIn_of _ (by decide +kernel)) ggX9_paperWeek_X9_villageHands
theorem dX9_paperWeek_0 : decode cX9_paperWeek 0 = .ok (.iload_n 1, 1) := by decide +kernel
theorem dX9_paperWeek_1 : decode cX9_paperWeek 1 = .ok (.invokestatic 99, 3) := by decide +kernel
theorem dX9_paperWeek_4 : decode cX9_paperWeek 4 = .ok (.ifCond .ne 5, 3) := by decide +kernel
theorem dX9_paperWeek_7 : decode cX9_paperWeek 7 = .ok (.iconst (-1), 1) := by decide +kernel
theorem dX9_paperWeek_8 : decode cX9_paperWeek 8 = .ok (.ireturn, 1) := by decide +kernel
theorem dX9_paperWeek_9 : decode cX9_paperWeek 9 = .ok (.iconst 0, 1) := by decide +kernel
theorem dX9_paperWeek_10 : decode cX9_paperWeek 10 = .ok (.istore_n 2, 1) := by decide +kernel
theorem dX9_paperWeek_11 : decode cX9_paperWeek 11 = .ok (.iload_n 2, 1) := by decide +kernel
theorem dX9_paperWeek_12 : decode cX9_paperWeek 12 = .ok (.sipush 1040, 3) := by decide +kernel
theorem dX9_paperWeek_15 : decode cX9_paperWeek 15 = .ok (.if_icmp .ge 43, 3) := by decide +kernel
theorem dX9_paperWeek_18 : decode cX9_paperWeek 18 = .ok (.iload_n 2, 1) := by decide +kernel
theorem dX9_paperWeek_19 : decode cX9_paperWeek 19 = .ok (.aload_n 0, 1) := by decide +kernel
theorem dX9_paperWeek_20 : decode cX9_paperWeek 20 = .ok (.getfield 96, 3) := by decide +kernel
theorem dX9_paperWeek_23 : decode cX9_paperWeek 23 = .ok (.if_icmp .gt 35, 3) := by decide +kernel
theorem dX9_paperWeek_26 : decode cX9_paperWeek 26 = .ok (.aload_n 0, 1) := by decide +kernel
theorem dX9_paperWeek_27 : decode cX9_paperWeek 27 = .ok (.getfield 79, 3) := by decide +kernel
theorem dX9_paperWeek_30 : decode cX9_paperWeek 30 = .ok (.sipush 1040, 3) := by decide +kernel
theorem dX9_paperWeek_33 : decode cX9_paperWeek 33 = .ok (.iload_n 1, 1) := by decide +kernel
theorem dX9_paperWeek_34 : decode cX9_paperWeek 34 = .ok (.imul, 1) := by decide +kernel
theorem dX9_paperWeek_35 : decode cX9_paperWeek 35 = .ok (.iload_n 2, 1) := by decide +kernel
theorem dX9_paperWeek_36 : decode cX9_paperWeek 36 = .ok (.iadd, 1) := by decide +kernel
theorem dX9_paperWeek_37 : decode cX9_paperWeek 37 = .ok (.iaload, 1) := by decide +kernel
theorem dX9_paperWeek_38 : decode cX9_paperWeek 38 = .ok (.bipush 6, 2) := by decide +kernel
theorem dX9_paperWeek_40 : decode cX9_paperWeek 40 = .ok (.aload_n 0, 1) := by decide +kernel
theorem dX9_paperWeek_41 : decode cX9_paperWeek 41 = .ok (.iload_n 1, 1) := by decide +kernel
theorem dX9_paperWeek_42 : decode cX9_paperWeek 42 = .ok (.iload_n 2, 1) := by decide +kernel
theorem dX9_paperWeek_43 : decode cX9_paperWeek 43 = .ok (.invokevirtual 169, 3) := by decide +kernel
theorem dX9_paperWeek_46 : decode cX9_paperWeek 46 = .ok (.imul, 1) := by decide +kernel
theorem dX9_paperWeek_47 : decode cX9_paperWeek 47 = .ok (.if_icmp .le 5, 3) := by decide +kernel
theorem dX9_paperWeek_50 : decode cX9_paperWeek 50 = .ok (.iload_n 2, 1) := by decide +kernel
theorem dX9_paperWeek_51 : decode cX9_paperWeek 51 = .ok (.ireturn, 1) := by decide +kernel
theorem dX9_paperWeek_52 : decode cX9_paperWeek 52 = .ok (.iinc 2 1, 3) := by decide +kernel
theorem dX9_paperWeek_55 : decode cX9_paperWeek 55 = .ok (.goto (-44), 3) := by decide +kernel
theorem dX9_paperWeek_58 : decode cX9_paperWeek 58 = .ok (.iconst (-1), 1) := by decide +kernel
theorem dX9_paperWeek_59 : decode cX9_paperWeek 59 = .ok (.ireturn, 1) := by decide +kernel
set_option maxRecDepth 20000 in
theorem ggX9_paper_X9_paperWeek : GoodIn wsX9_paper wsX9_paperWeek := goodIn_r _ [5, 6, 7, 8, 9, 4, 10, 11, 12, 13, 14, 15, 16, 17, 18, 19, 20, 21, 22, 23, 24, 25, 26, 27, 28, 29, 30, 31, 32, 33, 34, 35, 36, 37, 38, 39, 40, 41, 42, 43, 44, 45, 46, 47, 48, 49, 50, 51, 52, 53, 54, 55, 56, 57, 58, 59, 60, 61, 62, 63, 64] (by decide +kernel) (by decide +kernel)
set_option maxRecDepth 20000 in
theorem gX9_paper_X9_paperWeek : GoodIn wsX9_paper (wsV RX9 172 RX9 yX9_paperWeek wsX9_paperWeek) := goodIn_app (goodIn_of _ (by decide +kernel)) ggX9_paper_X9_paperWeek
theorem dX9_paper_0 : decode cX9_paper 0 = .ok (.aload_n 0, 1) := by decide +kernel
theorem dX9_paper_1 : decode cX9_paper 1 = .ok (.iload_n 1, 1) := by decide +kernel
theorem dX9_paper_2 : decode cX9_paper 2 = .ok (.invokevirtual 172, 3) := by decide +kernel
theorem dX9_paper_5 : decode cX9_paper 5 = .ok (.iconst (-1), 1) := by decide +kernel
theorem dX9_paper_6 : decode cX9_paper 6 = .ok (.if_icmp .eq 7, 3) := by decide +kernel
theorem dX9_paper_9 : decode cX9_paper 9 = .ok (.iconst 1, 1) := by decide +kernel
theorem dX9_paper_10 : decode cX9_paper 10 = .ok (.goto 4, 3) := by decide +kernel
theorem dX9_paper_13 : decode cX9_paper 13 = .ok (.iconst 0, 1) := by decide +kernel
theorem dX9_paper_14 : decode cX9_paper 14 = .ok (.ireturn, 1) := by decide +kernel
set_option maxRecDepth 20000 in
theorem ggX9_needs_X9_perDay : GoodIn wsX9_needs wsX9_perDay := goodIn_r _ [6, 7, 8, 9, 10, 11, 12, 13, 14, 15, 16, 17, 18, 19, 20, 21, 22, 23, 24, 25, 26, 27, 28, 29, 30, 31, 32, 33, 34, 35, 36, 37, 38, 39, 40, 41, 42] (by decide +kernel) (by decide +kernel)
set_option maxRecDepth 20000 in
theorem gX9_needs_X9_perDay : GoodIn wsX9_needs (wsV RX9 137 RX9 yX9_perDay wsX9_perDay) := goodIn_app (goodIn_of _ (by decide +kernel)) ggX9_needs_X9_perDay
theorem dX9_needs_0 : decode cX9_needs 0 = .ok (.iload_n 2, 1) := by decide +kernel
theorem dX9_needs_1 : decode cX9_needs 1 = .ok (.aload_n 0, 1) := by decide +kernel
theorem dX9_needs_2 : decode cX9_needs 2 = .ok (.getfield 13, 3) := by decide +kernel
theorem dX9_needs_5 : decode cX9_needs 5 = .ok (.iload_n 1, 1) := by decide +kernel
theorem dX9_needs_6 : decode cX9_needs 6 = .ok (.iaload, 1) := by decide +kernel
theorem dX9_needs_7 : decode cX9_needs 7 = .ok (.isub, 1) := by decide +kernel
theorem dX9_needs_8 : decode cX9_needs 8 = .ok (.istore_n 3, 1) := by decide +kernel
theorem dX9_needs_9 : decode cX9_needs 9 = .ok (.iload_n 3, 1) := by decide +kernel
theorem dX9_needs_10 : decode cX9_needs 10 = .ok (.ifCond .gt 7, 3) := by decide +kernel
theorem dX9_needs_13 : decode cX9_needs 13 = .ok (.iconst 0, 1) := by decide +kernel
theorem dX9_needs_14 : decode cX9_needs 14 = .ok (.goto 18, 3) := by decide +kernel
theorem dX9_needs_17 : decode cX9_needs 17 = .ok (.iload_n 3, 1) := by decide +kernel
theorem dX9_needs_18 : decode cX9_needs 18 = .ok (.aload_n 0, 1) := by decide +kernel
theorem dX9_needs_19 : decode cX9_needs 19 = .ok (.iload_n 1, 1) := by decide +kernel
theorem dX9_needs_20 : decode cX9_needs 20 = .ok (.invokevirtual 137, 3) := by decide +kernel
theorem dX9_needs_23 : decode cX9_needs 23 = .ok (.iadd, 1) := by decide +kernel
theorem dX9_needs_24 : decode cX9_needs 24 = .ok (.iconst 1, 1) := by decide +kernel
theorem dX9_needs_25 : decode cX9_needs 25 = .ok (.isub, 1) := by decide +kernel
theorem dX9_needs_26 : decode cX9_needs 26 = .ok (.aload_n 0, 1) := by decide +kernel
theorem dX9_needs_27 : decode cX9_needs 27 = .ok (.iload_n 1, 1) := by decide +kernel
theorem dX9_needs_28 : decode cX9_needs 28 = .ok (.invokevirtual 137, 3) := by decide +kernel
theorem dX9_needs_31 : decode cX9_needs 31 = .ok (.idiv, 1) := by decide +kernel
theorem dX9_needs_32 : decode cX9_needs 32 = .ok (.ireturn, 1) := by decide +kernel
set_option maxRecDepth 20000 in
theorem ggX9_bank_X9_isRod : GoodIn wsX9_bank wsX9_isRod := goodIn_r _ [7, 8, 9, 6, 10] (by decide +kernel) (by decide +kernel)
set_option maxRecDepth 20000 in
theorem gX9_bank_X9_isRod : GoodIn wsX9_bank (va_wsS RX9 103 yX9_isRod wsX9_isRod) := goodIn_app (goodIn_of _ (by decide +kernel)) ggX9_bank_X9_isRod
set_option maxRecDepth 20000 in
theorem ggX9_bank_X9_in : GoodIn wsX9_bank wsX9_in := goodIn_r _ [10] (by decide +kernel) (by decide +kernel)
set_option maxRecDepth 20000 in
theorem gX9_bank_X9_in : GoodIn wsX9_bank (va_wsS RX9 88 yX9_in wsX9_in) := goodIn_app (goodIn_of _ (by decide +kernel)) ggX9_bank_X9_in
set_option maxRecDepth 20000 in
theorem ggX9_bank_X9_needs : GoodIn wsX9_bank wsX9_needs := goodIn_r _ [14, 1, 15, 16, 17, 6, 18, 19, 20, 21, 22, 23, 24, 25, 26, 27, 28, 29, 30, 31, 32, 33, 34, 35, 36, 37, 38, 39, 40, 41, 42, 43, 44, 45, 46, 47, 48, 49, 50, 51, 52, 53, 54] (by decide +kernel) (by decide +kernel)
set_option maxRecDepth 20000 in
theorem gX9_bank_X9_needs : GoodIn wsX9_bank (wsV RX9 175 RX9 yX9_needs wsX9_needs) := goodIn_app (goodIn_of _ (by decide +kernel)) ggX9_bank_X9_needs
theorem dX9_bank_0 : decode cX9_bank 0 = .ok (.iload_n 1, 1) := by decide +kernel
theorem dX9_bank_1 : decode cX9_bank 1 = .ok (.invokestatic 103, 3) := by decide +kernel
theorem dX9_bank_4 : decode cX9_bank 4 = .ok (.ifCond .ne 5, 3) := by decide +kernel
theorem dX9_bank_7 : decode cX9_bank 7 = .ok (.iconst (-1), 1) := by decide +kernel
theorem dX9_bank_8 : decode cX9_bank 8 = .ok (.ireturn, 1) := by decide +kernel
theorem dX9_bank_9 : decode cX9_bank 9 = .ok (.iload_n 2, 1) := by decide +kernel
theorem dX9_bank_10 : decode cX9_bank 10 = .ok (.tableswitch 73 0 3 #[30, 37, 44, 51], 30) := by decide +kernel
theorem dX9_bank_40 : decode cX9_bank 40 = .ok (.aload_n 0, 1) := by decide +kernel
theorem dX9_bank_41 : decode cX9_bank 41 = .ok (.getfield 13, 3) := by decide +kernel
theorem dX9_bank_44 : decode cX9_bank 44 = .ok (.iload_n 1, 1) := by decide +kernel
theorem dX9_bank_45 : decode cX9_bank 45 = .ok (.iaload, 1) := by decide +kernel
theorem dX9_bank_46 : decode cX9_bank 46 = .ok (.ireturn, 1) := by decide +kernel
theorem dX9_bank_47 : decode cX9_bank 47 = .ok (.aload_n 0, 1) := by decide +kernel
theorem dX9_bank_48 : decode cX9_bank 48 = .ok (.getfield 22, 3) := by decide +kernel
theorem dX9_bank_51 : decode cX9_bank 51 = .ok (.iload_n 1, 1) := by decide +kernel
theorem dX9_bank_52 : decode cX9_bank 52 = .ok (.iaload, 1) := by decide +kernel
theorem dX9_bank_53 : decode cX9_bank 53 = .ok (.ireturn, 1) := by decide +kernel
theorem dX9_bank_54 : decode cX9_bank 54 = .ok (.aload_n 0, 1) := by decide +kernel
theorem dX9_bank_55 : decode cX9_bank 55 = .ok (.getfield 25, 3) := by decide +kernel
theorem dX9_bank_58 : decode cX9_bank 58 = .ok (.iload_n 1, 1) := by decide +kernel
theorem dX9_bank_59 : decode cX9_bank 59 = .ok (.iaload, 1) := by decide +kernel
theorem dX9_bank_60 : decode cX9_bank 60 = .ok (.ireturn, 1) := by decide +kernel
theorem dX9_bank_61 : decode cX9_bank 61 = .ok (.iload_n 3, 1) := by decide +kernel
theorem dX9_bank_62 : decode cX9_bank 62 = .ok (.iconst 0, 1) := by decide +kernel
theorem dX9_bank_63 : decode cX9_bank 63 = .ok (.sipush 3000, 3) := by decide +kernel
theorem dX9_bank_66 : decode cX9_bank 66 = .ok (.invokestatic 88, 3) := by decide +kernel
theorem dX9_bank_69 : decode cX9_bank 69 = .ok (.ifCond .eq 12, 3) := by decide +kernel
theorem dX9_bank_72 : decode cX9_bank 72 = .ok (.aload_n 0, 1) := by decide +kernel
theorem dX9_bank_73 : decode cX9_bank 73 = .ok (.iload_n 1, 1) := by decide +kernel
theorem dX9_bank_74 : decode cX9_bank 74 = .ok (.iload_n 3, 1) := by decide +kernel
theorem dX9_bank_75 : decode cX9_bank 75 = .ok (.invokevirtual 175, 3) := by decide +kernel
theorem dX9_bank_78 : decode cX9_bank 78 = .ok (.goto 4, 3) := by decide +kernel
theorem dX9_bank_81 : decode cX9_bank 81 = .ok (.iconst (-1), 1) := by decide +kernel
theorem dX9_bank_82 : decode cX9_bank 82 = .ok (.ireturn, 1) := by decide +kernel
theorem dX9_bank_83 : decode cX9_bank 83 = .ok (.iconst (-1), 1) := by decide +kernel
theorem dX9_bank_84 : decode cX9_bank 84 = .ok (.ireturn, 1) := by decide +kernel
set_option maxRecDepth 20000 in
theorem ggX9_plans_X9_needs : GoodIn wsX9_plans wsX9_needs := goodIn_r _ [7, 8, 9, 10, 11, 6, 12, 13, 14, 15, 16, 17, 18, 19, 20, 21, 22, 23, 24, 25, 26, 27, 28, 29, 30, 31, 32, 33, 34, 35, 36, 37, 38, 39, 40, 41, 42, 43, 44, 45, 46, 47, 48] (by decide +kernel) (by decide +kernel)
set_option maxRecDepth 20000 in
theorem gX9_plans_X9_needs : GoodIn wsX9_plans (wsV RX9 175 RX9 yX9_needs wsX9_needs) := goodIn_app (goodIn_of _ (by decide +kernel)) ggX9_plans_X9_needs
theorem dX9_plans_0 : decode cX9_plans 0 = .ok (.iconst 0, 1) := by decide +kernel
theorem dX9_plans_1 : decode cX9_plans 1 = .ok (.istore_n 2, 1) := by decide +kernel
theorem dX9_plans_2 : decode cX9_plans 2 = .ok (.iload_n 2, 1) := by decide +kernel
theorem dX9_plans_3 : decode cX9_plans 3 = .ok (.bipush 30, 2) := by decide +kernel
theorem dX9_plans_5 : decode cX9_plans 5 = .ok (.if_icmp .gt 141, 3) := by decide +kernel
theorem dX9_plans_8 : decode cX9_plans 8 = .ok (.iconst 0, 1) := by decide +kernel
theorem dX9_plans_9 : decode cX9_plans 9 = .ok (.istore_n 3, 1) := by decide +kernel
theorem dX9_plans_10 : decode cX9_plans 10 = .ok (.iload_n 3, 1) := by decide +kernel
theorem dX9_plans_11 : decode cX9_plans 11 = .ok (.sipush 300, 3) := by decide +kernel
theorem dX9_plans_14 : decode cX9_plans 14 = .ok (.if_icmp .gt 126, 3) := by decide +kernel
theorem dX9_plans_17 : decode cX9_plans 17 = .ok (.sipush 301, 3) := by decide +kernel
theorem dX9_plans_20 : decode cX9_plans 20 = .ok (.iload_n 2, 1) := by decide +kernel
theorem dX9_plans_21 : decode cX9_plans 21 = .ok (.imul, 1) := by decide +kernel
theorem dX9_plans_22 : decode cX9_plans 22 = .ok (.iload_n 3, 1) := by decide +kernel
theorem dX9_plans_23 : decode cX9_plans 23 = .ok (.iadd, 1) := by decide +kernel
theorem dX9_plans_24 : decode cX9_plans 24 = .ok (.istore 4, 2) := by decide +kernel
theorem dX9_plans_26 : decode cX9_plans 26 = .ok (.aload_n 0, 1) := by decide +kernel
theorem dX9_plans_27 : decode cX9_plans 27 = .ok (.getfield 85, 3) := by decide +kernel
theorem dX9_plans_30 : decode cX9_plans 30 = .ok (.iload 4, 2) := by decide +kernel
theorem dX9_plans_32 : decode cX9_plans 32 = .ok (.iload_n 2, 1) := by decide +kernel
theorem dX9_plans_33 : decode cX9_plans 33 = .ok (.ifCond .ne 7, 3) := by decide +kernel
theorem dX9_plans_36 : decode cX9_plans 36 = .ok (.iconst 0, 1) := by decide +kernel
theorem dX9_plans_37 : decode cX9_plans 37 = .ok (.goto 16, 3) := by decide +kernel
theorem dX9_plans_40 : decode cX9_plans 40 = .ok (.aload_n 0, 1) := by decide +kernel
theorem dX9_plans_41 : decode cX9_plans 41 = .ok (.getfield 85, 3) := by decide +kernel
theorem dX9_plans_44 : decode cX9_plans 44 = .ok (.iload 4, 2) := by decide +kernel
theorem dX9_plans_46 : decode cX9_plans 46 = .ok (.sipush 300, 3) := by decide +kernel
theorem dX9_plans_49 : decode cX9_plans 49 = .ok (.isub, 1) := by decide +kernel
theorem dX9_plans_50 : decode cX9_plans 50 = .ok (.iconst 1, 1) := by decide +kernel
theorem dX9_plans_51 : decode cX9_plans 51 = .ok (.isub, 1) := by decide +kernel
theorem dX9_plans_52 : decode cX9_plans 52 = .ok (.iaload, 1) := by decide +kernel
theorem dX9_plans_53 : decode cX9_plans 53 = .ok (.iastore, 1) := by decide +kernel
theorem dX9_plans_54 : decode cX9_plans 54 = .ok (.iload_n 2, 1) := by decide +kernel
theorem dX9_plans_55 : decode cX9_plans 55 = .ok (.ifCond .ne 7, 3) := by decide +kernel
theorem dX9_plans_58 : decode cX9_plans 58 = .ok (.iconst 0, 1) := by decide +kernel
theorem dX9_plans_59 : decode cX9_plans 59 = .ok (.goto 11, 3) := by decide +kernel
theorem dX9_plans_62 : decode cX9_plans 62 = .ok (.aload_n 0, 1) := by decide +kernel
theorem dX9_plans_63 : decode cX9_plans 63 = .ok (.iload_n 2, 1) := by decide +kernel
theorem dX9_plans_64 : decode cX9_plans 64 = .ok (.iconst 1, 1) := by decide +kernel
theorem dX9_plans_65 : decode cX9_plans 65 = .ok (.isub, 1) := by decide +kernel
theorem dX9_plans_66 : decode cX9_plans 66 = .ok (.iload_n 1, 1) := by decide +kernel
theorem dX9_plans_67 : decode cX9_plans 67 = .ok (.invokevirtual 175, 3) := by decide +kernel
theorem dX9_plans_70 : decode cX9_plans 70 = .ok (.istore 5, 2) := by decide +kernel
theorem dX9_plans_72 : decode cX9_plans 72 = .ok (.iload 5, 2) := by decide +kernel
theorem dX9_plans_74 : decode cX9_plans 74 = .ok (.ifCond .eq 60, 3) := by decide +kernel
theorem dX9_plans_77 : decode cX9_plans 77 = .ok (.iload 5, 2) := by decide +kernel
theorem dX9_plans_79 : decode cX9_plans 79 = .ok (.iload_n 3, 1) := by decide +kernel
theorem dX9_plans_80 : decode cX9_plans 80 = .ok (.if_icmp .le 6, 3) := by decide +kernel
theorem dX9_plans_83 : decode cX9_plans 83 = .ok (.goto 51, 3) := by decide +kernel
theorem dX9_plans_86 : decode cX9_plans 86 = .ok (.aload_n 0, 1) := by decide +kernel
theorem dX9_plans_87 : decode cX9_plans 87 = .ok (.getfield 85, 3) := by decide +kernel
theorem dX9_plans_90 : decode cX9_plans 90 = .ok (.iload 4, 2) := by decide +kernel
theorem dX9_plans_92 : decode cX9_plans 92 = .ok (.sipush 300, 3) := by decide +kernel
theorem dX9_plans_95 : decode cX9_plans 95 = .ok (.isub, 1) := by decide +kernel
theorem dX9_plans_96 : decode cX9_plans 96 = .ok (.iconst 1, 1) := by decide +kernel
theorem dX9_plans_97 : decode cX9_plans 97 = .ok (.isub, 1) := by decide +kernel
theorem dX9_plans_98 : decode cX9_plans 98 = .ok (.iload 5, 2) := by decide +kernel
theorem dX9_plans_100 : decode cX9_plans 100 = .ok (.isub, 1) := by decide +kernel
theorem dX9_plans_101 : decode cX9_plans 101 = .ok (.iaload, 1) := by decide +kernel
theorem dX9_plans_102 : decode cX9_plans 102 = .ok (.aload_n 0, 1) := by decide +kernel
theorem dX9_plans_103 : decode cX9_plans 103 = .ok (.getfield 19, 3) := by decide +kernel
theorem dX9_plans_106 : decode cX9_plans 106 = .ok (.iload_n 2, 1) := by decide +kernel
theorem dX9_plans_107 : decode cX9_plans 107 = .ok (.iconst 1, 1) := by decide +kernel
theorem dX9_plans_108 : decode cX9_plans 108 = .ok (.isub, 1) := by decide +kernel
theorem dX9_plans_109 : decode cX9_plans 109 = .ok (.iaload, 1) := by decide +kernel
theorem dX9_plans_110 : decode cX9_plans 110 = .ok (.iadd, 1) := by decide +kernel
theorem dX9_plans_111 : decode cX9_plans 111 = .ok (.istore 6, 2) := by decide +kernel
theorem dX9_plans_113 : decode cX9_plans 113 = .ok (.iload 6, 2) := by decide +kernel
theorem dX9_plans_115 : decode cX9_plans 115 = .ok (.aload_n 0, 1) := by decide +kernel
theorem dX9_plans_116 : decode cX9_plans 116 = .ok (.getfield 85, 3) := by decide +kernel
theorem dX9_plans_119 : decode cX9_plans 119 = .ok (.iload 4, 2) := by decide +kernel
theorem dX9_plans_121 : decode cX9_plans 121 = .ok (.iaload, 1) := by decide +kernel
theorem dX9_plans_122 : decode cX9_plans 122 = .ok (.if_icmp .le 12, 3) := by decide +kernel
theorem dX9_plans_125 : decode cX9_plans 125 = .ok (.aload_n 0, 1) := by decide +kernel
theorem dX9_plans_126 : decode cX9_plans 126 = .ok (.getfield 85, 3) := by decide +kernel
theorem dX9_plans_129 : decode cX9_plans 129 = .ok (.iload 4, 2) := by decide +kernel
theorem dX9_plans_131 : decode cX9_plans 131 = .ok (.iload 6, 2) := by decide +kernel
theorem dX9_plans_133 : decode cX9_plans 133 = .ok (.iastore, 1) := by decide +kernel
theorem dX9_plans_134 : decode cX9_plans 134 = .ok (.iinc 3 1, 3) := by decide +kernel
theorem dX9_plans_137 : decode cX9_plans 137 = .ok (.goto (-127), 3) := by decide +kernel
theorem dX9_plans_140 : decode cX9_plans 140 = .ok (.iinc 2 1, 3) := by decide +kernel
theorem dX9_plans_143 : decode cX9_plans 143 = .ok (.goto (-141), 3) := by decide +kernel
theorem dX9_plans_146 : decode cX9_plans 146 = .ok (.return_, 1) := by decide +kernel
set_option maxRecDepth 20000 in
theorem ggX9_isPlan_X9_in : GoodIn wsX9_isPlan wsX9_in := goodIn_r _ [4] (by decide +kernel) (by decide +kernel)
set_option maxRecDepth 20000 in
theorem gX9_isPlan_X9_in : GoodIn wsX9_isPlan (va_wsS RX9 88 yX9_in wsX9_in) := goodIn_app (goodIn_of _ (by decide +kernel)) ggX9_isPlan_X9_in
theorem dX9_isPlan_0 : decode cX9_isPlan 0 = .ok (.iload_n 0, 1) := by decide +kernel
theorem dX9_isPlan_1 : decode cX9_isPlan 1 = .ok (.iconst 0, 1) := by decide +kernel
theorem dX9_isPlan_2 : decode cX9_isPlan 2 = .ok (.sipush 300, 3) := by decide +kernel
theorem dX9_isPlan_5 : decode cX9_isPlan 5 = .ok (.invokestatic 88, 3) := by decide +kernel
theorem dX9_isPlan_8 : decode cX9_isPlan 8 = .ok (.ifCond .eq 18, 3) := by decide +kernel
theorem dX9_isPlan_11 : decode cX9_isPlan 11 = .ok (.iload_n 1, 1) := by decide +kernel
theorem dX9_isPlan_12 : decode cX9_isPlan 12 = .ok (.iconst 0, 1) := by decide +kernel
theorem dX9_isPlan_13 : decode cX9_isPlan 13 = .ok (.sipush 3000, 3) := by decide +kernel
theorem dX9_isPlan_16 : decode cX9_isPlan 16 = .ok (.invokestatic 88, 3) := by decide +kernel
theorem dX9_isPlan_19 : decode cX9_isPlan 19 = .ok (.ifCond .eq 7, 3) := by decide +kernel
theorem dX9_isPlan_22 : decode cX9_isPlan 22 = .ok (.iconst 1, 1) := by decide +kernel
theorem dX9_isPlan_23 : decode cX9_isPlan 23 = .ok (.goto 4, 3) := by decide +kernel
theorem dX9_isPlan_26 : decode cX9_isPlan 26 = .ok (.iconst 0, 1) := by decide +kernel
theorem dX9_isPlan_27 : decode cX9_isPlan 27 = .ok (.ireturn, 1) := by decide +kernel
set_option maxRecDepth 20000 in
theorem ggX9_saved_X9_isPlan : GoodIn wsX9_saved wsX9_isPlan := goodIn_r _ [5, 6, 7, 4, 8] (by decide +kernel) (by decide +kernel)
set_option maxRecDepth 20000 in
theorem gX9_saved_X9_isPlan : GoodIn wsX9_saved (va_wsS RX9 178 yX9_isPlan wsX9_isPlan) := goodIn_app (goodIn_of _ (by decide +kernel)) ggX9_saved_X9_isPlan
set_option maxRecDepth 20000 in
theorem ggX9_saved_X9_plans : GoodIn wsX9_saved wsX9_plans := goodIn_r _ [12, 1, 13, 14, 15, 16, 4, 17, 18, 19, 20, 21, 22, 23, 24, 25, 26, 27, 28, 29, 30, 31, 32, 33, 34, 35, 36, 37, 38, 39, 40, 41, 42, 43, 44, 45, 46, 47, 48, 49, 50, 51, 52, 53, 54, 55, 56, 57, 58] (by decide +kernel) (by decide +kernel)
set_option maxRecDepth 20000 in
theorem gX9_saved_X9_plans : GoodIn wsX9_saved (wsV RX9 181 RX9 yX9_plans wsX9_plans) := goodIn_app (goodIn_of _ (by decide +kernel)) ggX9_saved_X9_plans
theorem dX9_saved_0 : decode cX9_saved 0 = .ok (.iload_n 1, 1) := by decide +kernel
theorem dX9_saved_1 : decode cX9_saved 1 = .ok (.iload_n 2, 1) := by decide +kernel
theorem dX9_saved_2 : decode cX9_saved 2 = .ok (.invokestatic 178, 3) := by decide +kernel
theorem dX9_saved_5 : decode cX9_saved 5 = .ok (.ifCond .ne 5, 3) := by decide +kernel
theorem dX9_saved_8 : decode cX9_saved 8 = .ok (.iconst (-1), 1) := by decide +kernel
theorem dX9_saved_9 : decode cX9_saved 9 = .ok (.ireturn, 1) := by decide +kernel
theorem dX9_saved_10 : decode cX9_saved 10 = .ok (.aload_n 0, 1) := by decide +kernel
theorem dX9_saved_11 : decode cX9_saved 11 = .ok (.iload_n 2, 1) := by decide +kernel
theorem dX9_saved_12 : decode cX9_saved 12 = .ok (.invokevirtual 181, 3) := by decide +kernel
theorem dX9_saved_15 : decode cX9_saved 15 = .ok (.aload_n 0, 1) := by decide +kernel
theorem dX9_saved_16 : decode cX9_saved 16 = .ok (.getfield 85, 3) := by decide +kernel
theorem dX9_saved_19 : decode cX9_saved 19 = .ok (.sipush 9030, 3) := by decide +kernel
theorem dX9_saved_22 : decode cX9_saved 22 = .ok (.iload_n 1, 1) := by decide +kernel
theorem dX9_saved_23 : decode cX9_saved 23 = .ok (.iadd, 1) := by decide +kernel
theorem dX9_saved_24 : decode cX9_saved 24 = .ok (.iaload, 1) := by decide +kernel
theorem dX9_saved_25 : decode cX9_saved 25 = .ok (.ireturn, 1) := by decide +kernel
set_option maxRecDepth 20000 in
theorem ggX9_chosen_X9_isPlan : GoodIn wsX9_chosen wsX9_isPlan := goodIn_r _ [5, 6, 7, 4, 8] (by decide +kernel) (by decide +kernel)
set_option maxRecDepth 20000 in
theorem gX9_chosen_X9_isPlan : GoodIn wsX9_chosen (va_wsS RX9 178 yX9_isPlan wsX9_isPlan) := goodIn_app (goodIn_of _ (by decide +kernel)) ggX9_chosen_X9_isPlan
set_option maxRecDepth 20000 in
theorem ggX9_chosen_X9_plans : GoodIn wsX9_chosen wsX9_plans := goodIn_r _ [12, 1, 13, 14, 15, 16, 4, 17, 18, 19, 20, 21, 22, 23, 24, 25, 26, 27, 28, 29, 30, 31, 32, 33, 34, 35, 36, 37, 38, 39, 40, 41, 42, 43, 44, 45, 46, 47, 48, 49, 50, 51, 52, 53, 54, 55, 56, 57, 58] (by decide +kernel) (by decide +kernel)
set_option maxRecDepth 20000 in
theorem gX9_chosen_X9_plans : GoodIn wsX9_chosen (wsV RX9 181 RX9 yX9_plans wsX9_plans) := goodIn_app (goodIn_of _ (by decide +kernel)) ggX9_chosen_X9_plans
set_option maxRecDepth 20000 in
theorem ggX9_chosen_X9_needs : GoodIn wsX9_chosen wsX9_needs := goodIn_r _ [17, 18, 19, 20, 21, 4, 22, 23, 24, 25, 26, 27, 28, 29, 30, 31, 32, 33, 34, 35, 36, 37, 38, 39, 40, 41, 42, 43, 44, 45, 46, 47, 48, 49, 50, 51, 52, 53, 54, 55, 56, 57, 58] (by decide +kernel) (by decide +kernel)
set_option maxRecDepth 20000 in
theorem gX9_chosen_X9_needs : GoodIn wsX9_chosen (wsV RX9 175 RX9 yX9_needs wsX9_needs) := goodIn_app (goodIn_of _ (by decide +kernel)) ggX9_chosen_X9_needs
theorem dX9_chosen_0 : decode cX9_chosen 0 = .ok (.iload_n 1, 1) := by decide +kernel
theorem dX9_chosen_1 : decode cX9_chosen 1 = .ok (.iload_n 2, 1) := by decide +kernel
theorem dX9_chosen_2 : decode cX9_chosen 2 = .ok (.invokestatic 178, 3) := by decide +kernel
theorem dX9_chosen_5 : decode cX9_chosen 5 = .ok (.ifCond .ne 5, 3) := by decide +kernel
theorem dX9_chosen_8 : decode cX9_chosen 8 = .ok (.iconst (-1), 1) := by decide +kernel
theorem dX9_chosen_9 : decode cX9_chosen 9 = .ok (.ireturn, 1) := by decide +kernel
theorem dX9_chosen_10 : decode cX9_chosen 10 = .ok (.aload_n 0, 1) := by decide +kernel
theorem dX9_chosen_11 : decode cX9_chosen 11 = .ok (.iload_n 2, 1) := by decide +kernel
theorem dX9_chosen_12 : decode cX9_chosen 12 = .ok (.invokevirtual 181, 3) := by decide +kernel
theorem dX9_chosen_15 : decode cX9_chosen 15 = .ok (.iconst 0, 1) := by decide +kernel
theorem dX9_chosen_16 : decode cX9_chosen 16 = .ok (.istore_n 3, 1) := by decide +kernel
theorem dX9_chosen_17 : decode cX9_chosen 17 = .ok (.iload_n 1, 1) := by decide +kernel
theorem dX9_chosen_18 : decode cX9_chosen 18 = .ok (.istore 4, 2) := by decide +kernel
theorem dX9_chosen_20 : decode cX9_chosen 20 = .ok (.bipush 30, 2) := by decide +kernel
theorem dX9_chosen_22 : decode cX9_chosen 22 = .ok (.istore 5, 2) := by decide +kernel
theorem dX9_chosen_24 : decode cX9_chosen 24 = .ok (.iload 5, 2) := by decide +kernel
theorem dX9_chosen_26 : decode cX9_chosen 26 = .ok (.ifCond .le 69, 3) := by decide +kernel
theorem dX9_chosen_29 : decode cX9_chosen 29 = .ok (.sipush 301, 3) := by decide +kernel
theorem dX9_chosen_32 : decode cX9_chosen 32 = .ok (.iload 5, 2) := by decide +kernel
theorem dX9_chosen_34 : decode cX9_chosen 34 = .ok (.imul, 1) := by decide +kernel
theorem dX9_chosen_35 : decode cX9_chosen 35 = .ok (.iload 4, 2) := by decide +kernel
theorem dX9_chosen_37 : decode cX9_chosen 37 = .ok (.iadd, 1) := by decide +kernel
theorem dX9_chosen_38 : decode cX9_chosen 38 = .ok (.istore 6, 2) := by decide +kernel
theorem dX9_chosen_40 : decode cX9_chosen 40 = .ok (.aload_n 0, 1) := by decide +kernel
theorem dX9_chosen_41 : decode cX9_chosen 41 = .ok (.getfield 85, 3) := by decide +kernel
theorem dX9_chosen_44 : decode cX9_chosen 44 = .ok (.iload 6, 2) := by decide +kernel
theorem dX9_chosen_46 : decode cX9_chosen 46 = .ok (.iaload, 1) := by decide +kernel
theorem dX9_chosen_47 : decode cX9_chosen 47 = .ok (.aload_n 0, 1) := by decide +kernel
theorem dX9_chosen_48 : decode cX9_chosen 48 = .ok (.getfield 85, 3) := by decide +kernel
theorem dX9_chosen_51 : decode cX9_chosen 51 = .ok (.iload 6, 2) := by decide +kernel
theorem dX9_chosen_53 : decode cX9_chosen 53 = .ok (.sipush 300, 3) := by decide +kernel
theorem dX9_chosen_56 : decode cX9_chosen 56 = .ok (.isub, 1) := by decide +kernel
theorem dX9_chosen_57 : decode cX9_chosen 57 = .ok (.iconst 1, 1) := by decide +kernel
theorem dX9_chosen_58 : decode cX9_chosen 58 = .ok (.isub, 1) := by decide +kernel
theorem dX9_chosen_59 : decode cX9_chosen 59 = .ok (.iaload, 1) := by decide +kernel
theorem dX9_chosen_60 : decode cX9_chosen 60 = .ok (.if_icmp .ne 6, 3) := by decide +kernel
theorem dX9_chosen_63 : decode cX9_chosen 63 = .ok (.goto 26, 3) := by decide +kernel
theorem dX9_chosen_66 : decode cX9_chosen 66 = .ok (.iload_n 3, 1) := by decide +kernel
theorem dX9_chosen_67 : decode cX9_chosen 67 = .ok (.iconst 1, 1) := by decide +kernel
theorem dX9_chosen_68 : decode cX9_chosen 68 = .ok (.iload 5, 2) := by decide +kernel
theorem dX9_chosen_70 : decode cX9_chosen 70 = .ok (.iconst 1, 1) := by decide +kernel
theorem dX9_chosen_71 : decode cX9_chosen 71 = .ok (.isub, 1) := by decide +kernel
theorem dX9_chosen_72 : decode cX9_chosen 72 = .ok (.ishl, 1) := by decide +kernel
theorem dX9_chosen_73 : decode cX9_chosen 73 = .ok (.ior, 1) := by decide +kernel
theorem dX9_chosen_74 : decode cX9_chosen 74 = .ok (.istore_n 3, 1) := by decide +kernel
theorem dX9_chosen_75 : decode cX9_chosen 75 = .ok (.iload 4, 2) := by decide +kernel
theorem dX9_chosen_77 : decode cX9_chosen 77 = .ok (.aload_n 0, 1) := by decide +kernel
theorem dX9_chosen_78 : decode cX9_chosen 78 = .ok (.iload 5, 2) := by decide +kernel
theorem dX9_chosen_80 : decode cX9_chosen 80 = .ok (.iconst 1, 1) := by decide +kernel
theorem dX9_chosen_81 : decode cX9_chosen 81 = .ok (.isub, 1) := by decide +kernel
theorem dX9_chosen_82 : decode cX9_chosen 82 = .ok (.iload_n 2, 1) := by decide +kernel
theorem dX9_chosen_83 : decode cX9_chosen 83 = .ok (.invokevirtual 175, 3) := by decide +kernel
theorem dX9_chosen_86 : decode cX9_chosen 86 = .ok (.isub, 1) := by decide +kernel
theorem dX9_chosen_87 : decode cX9_chosen 87 = .ok (.istore 4, 2) := by decide +kernel
theorem dX9_chosen_89 : decode cX9_chosen 89 = .ok (.iinc 5 (-1), 3) := by decide +kernel
theorem dX9_chosen_92 : decode cX9_chosen 92 = .ok (.goto (-68), 3) := by decide +kernel
theorem dX9_chosen_95 : decode cX9_chosen 95 = .ok (.iload_n 3, 1) := by decide +kernel
theorem dX9_chosen_96 : decode cX9_chosen 96 = .ok (.ireturn, 1) := by decide +kernel
theorem dX9_hours_0 : decode cX9_hours 0 = .ok (.iload_n 0, 1) := by decide +kernel
theorem dX9_hours_1 : decode cX9_hours 1 = .ok (.iload_n 1, 1) := by decide +kernel
theorem dX9_hours_2 : decode cX9_hours 2 = .ok (.if_icmp .ge 9, 3) := by decide +kernel
theorem dX9_hours_5 : decode cX9_hours 5 = .ok (.iload_n 1, 1) := by decide +kernel
theorem dX9_hours_6 : decode cX9_hours 6 = .ok (.iload_n 0, 1) := by decide +kernel
theorem dX9_hours_7 : decode cX9_hours 7 = .ok (.isub, 1) := by decide +kernel
theorem dX9_hours_8 : decode cX9_hours 8 = .ok (.goto 6, 3) := by decide +kernel
theorem dX9_hours_11 : decode cX9_hours 11 = .ok (.iload_n 0, 1) := by decide +kernel
theorem dX9_hours_12 : decode cX9_hours 12 = .ok (.iload_n 1, 1) := by decide +kernel
theorem dX9_hours_13 : decode cX9_hours 13 = .ok (.isub, 1) := by decide +kernel
theorem dX9_hours_14 : decode cX9_hours 14 = .ok (.istore_n 3, 1) := by decide +kernel
theorem dX9_hours_15 : decode cX9_hours 15 = .ok (.iload_n 3, 1) := by decide +kernel
theorem dX9_hours_16 : decode cX9_hours 16 = .ok (.iload_n 2, 1) := by decide +kernel
theorem dX9_hours_17 : decode cX9_hours 17 = .ok (.iadd, 1) := by decide +kernel
theorem dX9_hours_18 : decode cX9_hours 18 = .ok (.iconst 1, 1) := by decide +kernel
theorem dX9_hours_19 : decode cX9_hours 19 = .ok (.isub, 1) := by decide +kernel
theorem dX9_hours_20 : decode cX9_hours 20 = .ok (.iload_n 2, 1) := by decide +kernel
theorem dX9_hours_21 : decode cX9_hours 21 = .ok (.idiv, 1) := by decide +kernel
theorem dX9_hours_22 : decode cX9_hours 22 = .ok (.ireturn, 1) := by decide +kernel
set_option maxRecDepth 20000 in
theorem ggX9_called_X9_isVillage : GoodIn wsX9_called wsX9_isVillage := goodIn_r _ [5, 6, 7, 4, 8] (by decide +kernel) (by decide +kernel)
set_option maxRecDepth 20000 in
theorem gX9_called_X9_isVillage : GoodIn wsX9_called (va_wsS RX9 99 yX9_isVillage wsX9_isVillage) := goodIn_app (goodIn_of _ (by decide +kernel)) ggX9_called_X9_isVillage
set_option maxRecDepth 20000 in
theorem ggX9_called_X9_hours : GoodIn wsX9_called wsX9_hours := goodIn_r _ [11] (by decide +kernel) (by decide +kernel)
set_option maxRecDepth 20000 in
theorem gX9_called_X9_hours : GoodIn wsX9_called (va_wsS RX9 185 yX9_hours wsX9_hours) := goodIn_app (goodIn_of _ (by decide +kernel)) ggX9_called_X9_hours
theorem dX9_called_0 : decode cX9_called 0 = .ok (.iload_n 1, 1) := by decide +kernel
theorem dX9_called_1 : decode cX9_called 1 = .ok (.invokestatic 99, 3) := by decide +kernel
theorem dX9_called_4 : decode cX9_called 4 = .ok (.ifCond .eq 30, 3) := by decide +kernel
theorem dX9_called_7 : decode cX9_called 7 = .ok (.iload_n 2, 1) := by decide +kernel
theorem dX9_called_8 : decode cX9_called 8 = .ok (.invokestatic 99, 3) := by decide +kernel
theorem dX9_called_11 : decode cX9_called 11 = .ok (.ifCond .eq 23, 3) := by decide +kernel
theorem dX9_called_14 : decode cX9_called 14 = .ok (.aload_n 0, 1) := by decide +kernel
theorem dX9_called_15 : decode cX9_called 15 = .ok (.getfield 9, 3) := by decide +kernel
theorem dX9_called_18 : decode cX9_called 18 = .ok (.iload_n 1, 1) := by decide +kernel
theorem dX9_called_19 : decode cX9_called 19 = .ok (.iaload, 1) := by decide +kernel
theorem dX9_called_20 : decode cX9_called 20 = .ok (.aload_n 0, 1) := by decide +kernel
theorem dX9_called_21 : decode cX9_called 21 = .ok (.getfield 9, 3) := by decide +kernel
theorem dX9_called_24 : decode cX9_called 24 = .ok (.iload_n 2, 1) := by decide +kernel
theorem dX9_called_25 : decode cX9_called 25 = .ok (.iaload, 1) := by decide +kernel
theorem dX9_called_26 : decode cX9_called 26 = .ok (.bipush 6, 2) := by decide +kernel
theorem dX9_called_28 : decode cX9_called 28 = .ok (.invokestatic 185, 3) := by decide +kernel
theorem dX9_called_31 : decode cX9_called 31 = .ok (.goto 4, 3) := by decide +kernel
theorem dX9_called_34 : decode cX9_called 34 = .ok (.iconst (-1), 1) := by decide +kernel
theorem dX9_called_35 : decode cX9_called 35 = .ok (.ireturn, 1) := by decide +kernel
set_option maxRecDepth 20000 in
theorem ggX9_arrived_X9_isVillage : GoodIn wsX9_arrived wsX9_isVillage := goodIn_r _ [6, 7, 8, 5, 9] (by decide +kernel) (by decide +kernel)
set_option maxRecDepth 20000 in
theorem gX9_arrived_X9_isVillage : GoodIn wsX9_arrived (va_wsS RX9 99 yX9_isVillage wsX9_isVillage) := goodIn_app (goodIn_of _ (by decide +kernel)) ggX9_arrived_X9_isVillage
set_option maxRecDepth 20000 in
theorem ggX9_arrived_X9_isRod : GoodIn wsX9_arrived wsX9_isRod := goodIn_r _ [12, 7, 8, 5, 9] (by decide +kernel) (by decide +kernel)
set_option maxRecDepth 20000 in
theorem gX9_arrived_X9_isRod : GoodIn wsX9_arrived (va_wsS RX9 103 yX9_isRod wsX9_isRod) := goodIn_app (goodIn_of _ (by decide +kernel)) ggX9_arrived_X9_isRod
set_option maxRecDepth 20000 in
theorem ggX9_arrived_X9_in : GoodIn wsX9_arrived wsX9_in := goodIn_r _ [9] (by decide +kernel) (by decide +kernel)
set_option maxRecDepth 20000 in
theorem gX9_arrived_X9_in : GoodIn wsX9_arrived (va_wsS RX9 88 yX9_in wsX9_in) := goodIn_app (goodIn_of _ (by decide +kernel)) ggX9_arrived_X9_in
set_option maxRecDepth 20000 in
theorem ggX9_arrived_X9_called : GoodIn wsX9_arrived wsX9_called := goodIn_r _ [16, 1, 3, 4, 5, 6, 7, 8, 9, 17, 18, 19, 36, 37, 38, 39, 40, 41, 42, 43, 44, 45, 46, 47, 48, 49, 50, 51, 52, 53, 54, 55, 56, 57, 58, 59, 60, 61, 62, 63, 64, 65, 66, 67, 68, 69, 70] (by decide +kernel) (by decide +kernel)
set_option maxRecDepth 20000 in
theorem gX9_arrived_X9_called : GoodIn wsX9_arrived (wsV RX9 188 RX9 yX9_called wsX9_called) := goodIn_app (goodIn_of _ (by decide +kernel)) ggX9_arrived_X9_called
set_option maxRecDepth 20000 in
theorem ggX9_arrived_X9_hours : GoodIn wsX9_arrived wsX9_hours := goodIn_r _ [19] (by decide +kernel) (by decide +kernel)
set_option maxRecDepth 20000 in
theorem gX9_arrived_X9_hours : GoodIn wsX9_arrived (va_wsS RX9 185 yX9_hours wsX9_hours) := goodIn_app (goodIn_of _ (by decide +kernel)) ggX9_arrived_X9_hours
set_option maxRecDepth 20000 in
theorem ggX9_arrived_X9_villageHands : GoodIn wsX9_arrived wsX9_villageHands := goodIn_r _ [23, 24, 25, 26, 27, 28, 5, 29, 30, 31, 32, 33, 34, 35, 36, 37, 38, 39, 40, 41, 42, 43, 44, 45, 46, 47, 48, 49, 50, 51, 52, 53, 54, 55, 56, 57, 58, 59, 60, 61, 62, 63, 64, 65, 66, 67, 68, 69, 70] (by decide +kernel) (by decide +kernel)
set_option maxRecDepth 20000 in
theorem gX9_arrived_X9_villageHands : GoodIn wsX9_arrived (wsV RX9 169 RX9 yX9_villageHands wsX9_villageHands) := goodIn_app (goodIn_of _ (by decide +kernel)) ggX9_arrived_X9_villageHands
theorem dX9_arrived_0 : decode cX9_arrived 0 = .ok (.iload_n 1, 1) := by decide +kernel
theorem dX9_arrived_1 : decode cX9_arrived 1 = .ok (.invokestatic 99, 3) := by decide +kernel
theorem dX9_arrived_4 : decode cX9_arrived 4 = .ok (.ifCond .eq 20, 3) := by decide +kernel
theorem dX9_arrived_7 : decode cX9_arrived 7 = .ok (.iload_n 2, 1) := by decide +kernel
theorem dX9_arrived_8 : decode cX9_arrived 8 = .ok (.invokestatic 103, 3) := by decide +kernel
theorem dX9_arrived_11 : decode cX9_arrived 11 = .ok (.ifCond .eq 13, 3) := by decide +kernel
theorem dX9_arrived_14 : decode cX9_arrived 14 = .ok (.iload_n 3, 1) := by decide +kernel
theorem dX9_arrived_15 : decode cX9_arrived 15 = .ok (.iconst 0, 1) := by decide +kernel
theorem dX9_arrived_16 : decode cX9_arrived 16 = .ok (.bipush 100, 2) := by decide +kernel
theorem dX9_arrived_18 : decode cX9_arrived 18 = .ok (.invokestatic 88, 3) := by decide +kernel
theorem dX9_arrived_21 : decode cX9_arrived 21 = .ok (.ifCond .ne 5, 3) := by decide +kernel
theorem dX9_arrived_24 : decode cX9_arrived 24 = .ok (.iconst (-1), 1) := by decide +kernel
theorem dX9_arrived_25 : decode cX9_arrived 25 = .ok (.ireturn, 1) := by decide +kernel
theorem dX9_arrived_26 : decode cX9_arrived 26 = .ok (.iconst 0, 1) := by decide +kernel
theorem dX9_arrived_27 : decode cX9_arrived 27 = .ok (.istore 4, 2) := by decide +kernel
theorem dX9_arrived_29 : decode cX9_arrived 29 = .ok (.iconst 0, 1) := by decide +kernel
theorem dX9_arrived_30 : decode cX9_arrived 30 = .ok (.istore 5, 2) := by decide +kernel
theorem dX9_arrived_32 : decode cX9_arrived 32 = .ok (.iload 5, 2) := by decide +kernel
theorem dX9_arrived_34 : decode cX9_arrived 34 = .ok (.bipush 8, 2) := by decide +kernel
theorem dX9_arrived_36 : decode cX9_arrived 36 = .ok (.if_icmp .ge 50, 3) := by decide +kernel
theorem dX9_arrived_39 : decode cX9_arrived 39 = .ok (.aload_n 0, 1) := by decide +kernel
theorem dX9_arrived_40 : decode cX9_arrived 40 = .ok (.iload_n 1, 1) := by decide +kernel
theorem dX9_arrived_41 : decode cX9_arrived 41 = .ok (.iload 5, 2) := by decide +kernel
theorem dX9_arrived_43 : decode cX9_arrived 43 = .ok (.invokevirtual 188, 3) := by decide +kernel
theorem dX9_arrived_46 : decode cX9_arrived 46 = .ok (.aload_n 0, 1) := by decide +kernel
theorem dX9_arrived_47 : decode cX9_arrived 47 = .ok (.getfield 9, 3) := by decide +kernel
theorem dX9_arrived_50 : decode cX9_arrived 50 = .ok (.iload 5, 2) := by decide +kernel
theorem dX9_arrived_52 : decode cX9_arrived 52 = .ok (.iaload, 1) := by decide +kernel
theorem dX9_arrived_53 : decode cX9_arrived 53 = .ok (.iconst 3, 1) := by decide +kernel
theorem dX9_arrived_54 : decode cX9_arrived 54 = .ok (.iload_n 2, 1) := by decide +kernel
theorem dX9_arrived_55 : decode cX9_arrived 55 = .ok (.imul, 1) := by decide +kernel
theorem dX9_arrived_56 : decode cX9_arrived 56 = .ok (.iconst 3, 1) := by decide +kernel
theorem dX9_arrived_57 : decode cX9_arrived 57 = .ok (.invokestatic 185, 3) := by decide +kernel
theorem dX9_arrived_60 : decode cX9_arrived 60 = .ok (.iadd, 1) := by decide +kernel
theorem dX9_arrived_61 : decode cX9_arrived 61 = .ok (.iload_n 3, 1) := by decide +kernel
theorem dX9_arrived_62 : decode cX9_arrived 62 = .ok (.if_icmp .gt 18, 3) := by decide +kernel
theorem dX9_arrived_65 : decode cX9_arrived 65 = .ok (.iload 4, 2) := by decide +kernel
theorem dX9_arrived_67 : decode cX9_arrived 67 = .ok (.aload_n 0, 1) := by decide +kernel
theorem dX9_arrived_68 : decode cX9_arrived 68 = .ok (.iload 5, 2) := by decide +kernel
theorem dX9_arrived_70 : decode cX9_arrived 70 = .ok (.aload_n 0, 1) := by decide +kernel
theorem dX9_arrived_71 : decode cX9_arrived 71 = .ok (.getfield 96, 3) := by decide +kernel
theorem dX9_arrived_74 : decode cX9_arrived 74 = .ok (.invokevirtual 169, 3) := by decide +kernel
theorem dX9_arrived_77 : decode cX9_arrived 77 = .ok (.iadd, 1) := by decide +kernel
theorem dX9_arrived_78 : decode cX9_arrived 78 = .ok (.istore 4, 2) := by decide +kernel
theorem dX9_arrived_80 : decode cX9_arrived 80 = .ok (.iinc 5 1, 3) := by decide +kernel
theorem dX9_arrived_83 : decode cX9_arrived 83 = .ok (.goto (-51), 3) := by decide +kernel
theorem dX9_arrived_86 : decode cX9_arrived 86 = .ok (.iload 4, 2) := by decide +kernel
theorem dX9_arrived_88 : decode cX9_arrived 88 = .ok (.ireturn, 1) := by decide +kernel
theorem dX9_count_0 : decode cX9_count 0 = .ok (.iload_n 1, 1) := by decide +kernel
theorem dX9_count_1 : decode cX9_count 1 = .ok (.tableswitch 96 0 8 #[51, 56, 61, 66, 71, 76, 81, 86, 91], 51) := by decide +kernel
theorem dX9_count_52 : decode cX9_count 52 = .ok (.aload_n 0, 1) := by decide +kernel
theorem dX9_count_53 : decode cX9_count 53 = .ok (.getfield 96, 3) := by decide +kernel
theorem dX9_count_56 : decode cX9_count 56 = .ok (.ireturn, 1) := by decide +kernel
theorem dX9_count_57 : decode cX9_count 57 = .ok (.aload_n 0, 1) := by decide +kernel
theorem dX9_count_58 : decode cX9_count 58 = .ok (.getfield 92, 3) := by decide +kernel
theorem dX9_count_61 : decode cX9_count 61 = .ok (.ireturn, 1) := by decide +kernel
theorem dX9_count_62 : decode cX9_count 62 = .ok (.aload_n 0, 1) := by decide +kernel
theorem dX9_count_63 : decode cX9_count 63 = .ok (.getfield 106, 3) := by decide +kernel
theorem dX9_count_66 : decode cX9_count 66 = .ok (.ireturn, 1) := by decide +kernel
theorem dX9_count_67 : decode cX9_count 67 = .ok (.aload_n 0, 1) := by decide +kernel
theorem dX9_count_68 : decode cX9_count 68 = .ok (.getfield 116, 3) := by decide +kernel
theorem dX9_count_71 : decode cX9_count 71 = .ok (.ireturn, 1) := by decide +kernel
theorem dX9_count_72 : decode cX9_count 72 = .ok (.aload_n 0, 1) := by decide +kernel
theorem dX9_count_73 : decode cX9_count 73 = .ok (.getfield 153, 3) := by decide +kernel
theorem dX9_count_76 : decode cX9_count 76 = .ok (.ireturn, 1) := by decide +kernel
theorem dX9_count_77 : decode cX9_count 77 = .ok (.aload_n 0, 1) := by decide +kernel
theorem dX9_count_78 : decode cX9_count 78 = .ok (.getfield 166, 3) := by decide +kernel
theorem dX9_count_81 : decode cX9_count 81 = .ok (.ireturn, 1) := by decide +kernel
theorem dX9_count_82 : decode cX9_count 82 = .ok (.aload_n 0, 1) := by decide +kernel
theorem dX9_count_83 : decode cX9_count 83 = .ok (.getfield 143, 3) := by decide +kernel
theorem dX9_count_86 : decode cX9_count 86 = .ok (.ireturn, 1) := by decide +kernel
theorem dX9_count_87 : decode cX9_count 87 = .ok (.aload_n 0, 1) := by decide +kernel
theorem dX9_count_88 : decode cX9_count 88 = .ok (.getfield 150, 3) := by decide +kernel
theorem dX9_count_91 : decode cX9_count 91 = .ok (.ireturn, 1) := by decide +kernel
theorem dX9_count_92 : decode cX9_count 92 = .ok (.aload_n 0, 1) := by decide +kernel
theorem dX9_count_93 : decode cX9_count 93 = .ok (.getfield 160, 3) := by decide +kernel
theorem dX9_count_96 : decode cX9_count 96 = .ok (.ireturn, 1) := by decide +kernel
theorem dX9_count_97 : decode cX9_count 97 = .ok (.iconst (-1), 1) := by decide +kernel
theorem dX9_count_98 : decode cX9_count 98 = .ok (.ireturn, 1) := by decide +kernel
end
section
/-! the world as a map from addresses to cells -/
abbrev cls : List vw_C := [(RX0, TX0, 8), (RX1, TX1, 5), (RX2, TX2, 3), (RX3, TX3, 1), (RX4, TX4, 5), (RX5, TX5, 5), (RX6, TX6, 3), (RX7, TX7, 3), (RX8, TX8, 14), (RX9, TX9, 35)]
abbrev gT : Type := va_G × (Nat → ClassId)
abbrev gty (E : gT) : List (ClassId × FieldType) := [(E.2 0, .int), (E.2 1, .long), (E.2 2, .object RX0), (E.2 3, .object RX1), (E.2 4, .object RX4), (E.2 5, .object RX6)]
abbrev gH : Type := Nat → Option va_E
def gup (G : gH) (a : Nat) (e : va_E) : gH := fun b => if b = a then some e else G b
theorem gup_s {G : gH} {a : Nat} {e : va_E} : gup G a e a = some e := by simp [gup]
theorem gup_n {G : gH} {a b : Nat} {e : va_E} (h : b ≠ a) : gup G a e b = G b := by simp [gup, h]
theorem gup_gup {G : gH} {a : Nat} {e e' : va_E} : gup (gup G a e) a e' = gup G a e' := by
  funext b
  by_cases h : b = a <;> simp [gup, h]
def gP (E : gT) (A : Nat → Prop) (n : Nat) (G : gH) (H : Heap) : Prop := H.size = n ∧ ∀ (a : Nat) (e : va_E), G a = some e → A a ∧ va_at E.1 cls (a, e) H
def gN (U : State) : Prop := va_Nw (.methodLinkNest RX8 29 yX2_init RX8) U ∧ va_Nw (.methodLinkNest RX8 36 yX3_init RX8) U ∧ va_Nw (.methodLinkNest RX8 70 yX6_init RX8) U ∧ va_Nw (.methodLinkNest RX8 71 yX4_init RX8) U ∧ va_Nw (.methodLinkNest RX1 28 yX8_isWithin RX8) U ∧ va_Nw (.methodLinkNest RX4 35 yX8_dividedUp RX8) U ∧ va_Nw (.methodLinkNest RX3 15 yX8_isWithin RX8) U ∧ va_AO RX6 U ∧ va_AO RX4 U ∧ va_AO RX0 U ∧ va_AO RX1 U
def gK (E : gT) (U : State) : Prop := va_K E.1 cls (gty E) U ∧ gN U
theorem gK.warm {E : gT} {s U : State} (h : gK E s) (hW : s.WarmedH U.vm) : gK E U := by
  obtain ⟨h1, a, b, c, d, e, f, g, i, j, k, l⟩ := h
  exact ⟨va_K.moved hW.alike h1, a.warmM hW, b.warmM hW, c.warmM hW, d.warmM hW, e.warmM hW, f.warmM hW, g.warmM hW, i.moved hW.alike, j.moved hW.alike, k.moved hW.alike, l.moved hW.alike⟩
theorem gK.call {E : gT} {U : State} {g : JFrame} {mk : MethodId} {a : Array Value} (h : gK E U) : gK E (U.calling g mk a) := by
  obtain ⟨h1, a1, b, c, d, e, f, g1, i, j, k, l⟩ := h
  exact ⟨va_K.moved (u := U) (Vm.Alike.refl U.vm) h1, a1.same rfl rfl, b.same rfl rfl, c.same rfl rfl, d.same rfl rfl, e.same rfl rfl, f.same rfl rfl, g1.same rfl rfl, i.moved (Vm.Alike.refl U.vm), j.moved (Vm.Alike.refl U.vm), k.moved (Vm.Alike.refl U.vm), l.moved (Vm.Alike.refl U.vm)⟩
def gB (E : gT) (A : Nat → Prop) (n : Nat) (G : gH) (U : State) : Prop := gP E A n G U.heap ∧ gK E U
theorem gB.blind {E : gT} {A : Nat → Prop} {n : Nat} {G : gH} {av : List Value} : FrameBlind (va_Pc av (gB E A n G)) := fun a U g mk q => ⟨q.1, q.2.1, q.2.2.call⟩
theorem gP.one {E : gT} {A : Nat → Prop} {n : Nat} {G : gH} {H : Heap} (h : gP E A n G H) {a : Nat} {e : va_E} (he : G a = some e) : va_P E.1 cls [(a, e)] H := by
  intro k q hk
  match k, hk with
  | 0, hk => cases hk; exact (h.2 a e he).2
theorem gP.lt {E : gT} {A : Nat → Prop} {n : Nat} {G : gH} {H : Heap} (h : gP E A n G H) {a : Nat} {e : va_E} (he : G a = some e) : a < n := by
  rw [← h.1]; exact (h.2 a e he).2.lt
theorem gP.none {E : gT} {A : Nat → Prop} {n : Nat} {G : gH} {H : Heap} (h : gP E A n G H) {a : Nat} (ha : n ≤ a) : G a = none := by
  cases hg : G a with
  | none => rfl
  | some e => have := h.lt hg; omega
theorem gP.set {E : gT} {A : Nat → Prop} {n : Nat} {G : gH} {H H1 : Heap} (h : gP E A n G H) {a : Nat} {e0 e : va_E} (he : G a = some e0) (hs : H1.size = H.size) (h1 : va_at E.1 cls (a, e) H1) (oq : ∀ q : Nat, q ≠ a → H1[q]? = H[q]?) : gP E A n (gup G a e) H1 := by
  refine ⟨hs.trans h.1, fun b eb hb => ?_⟩
  by_cases hab : b = a
  · subst hab
    rw [gup_s] at hb
    cases hb
    exact ⟨(h.2 b e0 he).1, h1⟩
  · rw [gup_n hab] at hb
    exact ⟨(h.2 b eb hb).1, (h.2 b eb hb).2.kept (oq b hab)⟩
theorem gP.push {E : gT} {A : Nat → Prop} {n : Nat} {G : gH} {H H1 : Heap} (h : gP E A n G H) {e : va_E} (hA : ∀ q, n ≤ q → A q) (hs : H1.size = n + 1) (h1 : va_at E.1 cls (n, e) H1) (oq : ∀ q : Nat, q < n → H1[q]? = H[q]?) : gP E A (n + 1) (gup G n e) H1 := by
  refine ⟨hs, fun b eb hb => ?_⟩
  by_cases hab : b = n
  · subst hab
    rw [gup_s] at hb
    cases hb
    exact ⟨hA _ (Nat.le_refl _), h1⟩
  · rw [gup_n hab] at hb
    exact ⟨(h.2 b eb hb).1, (h.2 b eb hb).2.kept (oq b (h.lt hb))⟩
/-- behind something that left these cells alone -/
theorem gP.keep {E : gT} {A : Nat → Prop} {n n' : Nat} {G : gH} {H H1 : Heap} (h : gP E A n G H) (hs : H1.size = n') (oq : ∀ (a : Nat) (e : va_E), G a = some e → H1[a]? = H[a]?) : gP E A n' G H1 :=
  ⟨hs, fun b eb hb => ⟨(h.2 b eb hb).1, (h.2 b eb hb).2.kept (oq b eb hb)⟩⟩
theorem gS.new {A : Nat → Prop} {H0 H H1 : Heap} {locs : List Loc} (h : va_S A H0 H locs) (hs : H.size ≤ H1.size) (oq : ∀ q : Nat, q < H.size → H1[q]? = H[q]?) : va_S A H0 H1 locs :=
  ⟨Nat.le_trans h.1 hs, fun q h1 h2 => (oq q (Nat.lt_of_lt_of_le h1 h.1)).trans (h.2.1 q h1 h2), h.2.2⟩
section GR
variable {p : Program} {l : Launch} {e : Env} {R : Room} {s : State} {m : MethodId} {args : Array Value} {below : List Frame} {meth : Method} {c : Code} {H : Heap} {locs : List Loc} {cells slots : Nat} {Q : State → Prop}
variable {cc : ByteArray} {nL : Nat} {Ts : List Cond} {own : String} {pc : Nat} {ls : Array Slot} {rest : List Value} {E : gT} {A : Nat → Prop} {n : Nat} {G : gH} {a : Nat} {H0 : Heap}
theorem g_get (hx : p.tables.exec = Jvm.exec) (hb : c.code = cc) {ref C : String} {T : u_T} {N ci index : Nat} (hts : ∀ w ∈ Ts, w.before args s = true) (hin : ∀ w ∈ u_ws C T N, w ∈ Ts) (hown : s.vm.findClass own = some m.cls) (hK : gK E s) (hP : gP E A n G H) {fs : List Value} (he : G a = some (.inr (ci, fs))) (hc : cls[ci]? = some (C, T, N)) (k : Nat) (hk : k < N) (hlink : (Cond.fieldLink own index ref (T k).2.1 (T k).2.2.1).before args s = true) (hsame : (T k).1 = ref) {v : Value} (hv : fs[k]? = some v) (hdg : decode cc pc = .ok (.getfield index, 3))
    (kk : W p l e R s m args below meth c H locs cells slots Q (F0 m (pc + 3) ls (v :: rest))) : W p l e R s m args below meth c H locs cells slots Q (F0 m pc ls (.ref a :: rest)) :=
  va_get hx hb hts hin hown hK.1 (hP.one he) 0 rfl hc k hk hlink (fun x h => hsame ▸ h) hv hdg kk
theorem g_put (hx : p.tables.exec = Jvm.exec) (hb : c.code = cc) {ref C : String} {T : u_T} {N ci index : Nat} (hts : ∀ w ∈ Ts, w.before args s = true) (hin : ∀ w ∈ u_ws C T N, w ∈ Ts) (ty0 : Nat → FieldType) (hty : ∀ k, k < N → parseFieldDescriptor (T k).2.2.1 = some (ty0 k)) (hnm : ∀ a, a < N → ∀ b, b < N → a ≠ b → (T a).2.1 ≠ (T b).2.1) (hown : s.vm.findClass own = some m.cls) (hK : gK E s) (hP : gP E A n G H) (hS : va_S A H0 H locs) {fs : List Value} (he : G a = some (.inr (ci, fs))) (hc : cls[ci]? = some (C, T, N)) (k : Nat) (hk : k < N) (hlink : (Cond.fieldLink own index ref (T k).2.1 (T k).2.2.1).before args s = true) (hsame : (T k).1 = ref) (hfin : (T k).2.2.2 = false ∨ ((T k).2.2.2 = true ∧ meth.name = "<init>" ∧ (T k).1 = own)) {ty : FieldType} {v : Value} (hd : parseFieldDescriptor (T k).2.2.1 = some ty) (hn : narrow ty v = v) (hfit : fits ty v = true) (hl : k < fs.length)
    (hdg : decode cc pc = .ok (.putfield index, 3)) (kk : ∀ (H1 : Heap) (locs1 : List Loc), gP E A n (gup G a (.inr (ci, fs.set k v))) H1 → va_S A H0 H1 locs1 → W p l e R s m args below meth c H1 locs1 cells slots Q (F0 m (pc + 3) ls rest)) : W p l e R s m args below meth c H locs cells slots Q (F0 m pc ls (v :: .ref a :: rest)) := by
  have hap := va_apart (own := own) hts hin ty0 hty hnm hK.1 hc
  have hAa := (hP.2 a _ he).1
  obtain ⟨r, h1, cell, q1, q2, q3, q4⟩ := (hP.2 a _ he).2
  have hr : r = (C, T, N) := Option.some.inj (h1.symm.trans hc)
  subst hr
  obtain ⟨hSl, hfc, kC, hkC, hkind⟩ := hK.1.1 ci _ hc
  obtain ⟨cf, kf, fi, f, hi, hsl⟩ := hSl k hk
  have hi' : s.fieldFound? ref (T k).2.1 (T k).2.2.1 = some (cf, kf, fi, f) := hsame ▸ hi
  have hst := (u_facts hfc hkC (u_lays hts hin hk) hi).1
  have fin : ∀ H' : Heap, H'[a]? = some (cell.setSlot f.slot v) → H'.size = H.size → (∀ q : Nat, q ≠ a → H'[q]? = H[q]?) → W p l e R s m args below meth c H' (locs ++ [⟨a, f.slot⟩]) cells slots Q (F0 m (pc + 3) ls rest) := by
    intro H' e1 e2 e3
    rw [hsl] at e1
    exact kk H' _ (hP.set he e2 ⟨_, hc, t_OB.to (V := updV (vp_V fs) k v) ⟨_, e1, q2, q3, t_set q4 hap hk v⟩ (fun j _ => vp_updV_set hl v j)⟩ e3) (hS.put e2 e3 hAa)
  have hslot : f.slot < cell.slots.size := by rw [hsl]; exact k2_hasslot (q4 k hk)
  have hlay := hts _ (hin _ (u_in_lay hk))
  unfold u_lay at hlay
  rcases hfin with hf | ⟨hf, hin2, hdecl⟩
  · rw [if_neg (by rw [hf]; decide)] at hlay
    exact W.putK hx hb (f := f) ⟨hown, hlink, ⟨_, _, _, hi'⟩, hst⟩ (by rw [q2]; exact u_store hfc hkC hkind hlay hi hd hn hfit) q1 q3 hslot rfl rfl hdg fin
  · rw [if_pos hf] at hlay
    have hcf : m.cls = cf := by
      obtain ⟨_, _, c', _, _, _, -, -, hf', -, -, -, hown2, -⟩ := Cond.laysFinal_spec hlay
      have e1 : c' = cf := by have := hi.symm.trans hf'; simp at this; exact this.1.symm
      rw [hdecl] at hown2
      rw [← e1]; exact Option.some.inj (hown.symm.trans hown2)
    exact W.putFinK hx hb hown hlink hi' hst hcf hin2 (by rw [q2]; exact u_fits hfc hkC hkind (Or.inr hlay) hi hd hn hfit) q1 q3 hslot rfl rfl hdg fin
theorem g_iald (hx : p.tables.exec = Jvm.exec) (hb : c.code = cc) (hK : gK E s) (hP : gP E A n G H) {k : Nat} {f : Nat → Int32} (he : G a = some (.inl (E.2 0, k, .inl f))) {i : Int32} (hin : vp_in i k) (hdg : decode cc pc = .ok (.iaload, 1))
    (kk : W p l e R s m args below meth c H locs cells slots Q (F0 m (pc + 1) ls (.int (f i.toNatClampNeg) :: rest))) : W p l e R s m args below meth c H locs cells slots Q (F0 m pc ls (.int i :: .ref a :: rest)) :=
  va_iald hx hb hK.1 (hP.one he) 0 0 rfl rfl hin hdg kk
theorem g_lald (hx : p.tables.exec = Jvm.exec) (hb : c.code = cc) (hK : gK E s) (hP : gP E A n G H) {k : Nat} {f : Nat → Int64} (he : G a = some (.inl (E.2 1, k, .inr (.inl f)))) {i : Int32} (hin : vp_in i k) (hdg : decode cc pc = .ok (.laload, 1))
    (kk : W p l e R s m args below meth c H locs cells slots Q (F0 m (pc + 1) ls (.long (f i.toNatClampNeg) :: rest))) : W p l e R s m args below meth c H locs cells slots Q (F0 m pc ls (.int i :: .ref a :: rest)) :=
  va_lald hx hb hK.1 (hP.one he) 0 1 rfl rfl hin hdg kk
theorem g_aald (hx : p.tables.exec = Jvm.exec) (hb : c.code = cc) (hK : gK E s) (hP : gP E A n G H) {k t0 : Nat} {C : String} {cA : ClassId} {f : Nat → Option Nat} (he : G a = some (.inl (cA, k, .inr (.inr (.inr (.inr f)))))) (ht : (gty E)[t0]? = some (cA, .object C)) {i : Int32} {v : Value} (hin : vp_in i k) (hv : va_rf (f i.toNatClampNeg) = v) (hdg : decode cc pc = .ok (.aaload, 1))
    (kk : W p l e R s m args below meth c H locs cells slots Q (F0 m (pc + 1) ls (v :: rest))) : W p l e R s m args below meth c H locs cells slots Q (F0 m pc ls (.int i :: .ref a :: rest)) := by
  subst hv
  exact va_aldq hx hb hK.1 (hP.one he) 0 t0 rfl ht hin hdg kk
theorem g_alen (hx : p.tables.exec = Jvm.exec) (hb : c.code = cc) (hK : gK E s) (hP : gP E A n G H) {t0 : Nat} {ty : FieldType} {cA : ClassId} {x : vp_A} (he : G a = some (.inl (cA, x))) (ht : (gty E)[t0]? = some (cA, ty)) {v : Int32} (hv : Int32.ofNat x.1 = v) (hdg : decode cc pc = .ok (.arraylength, 1))
    (kk : W p l e R s m args below meth c H locs cells slots Q (F0 m (pc + 1) ls (.int v :: rest))) : W p l e R s m args below meth c H locs cells slots Q (F0 m pc ls (.ref a :: rest)) :=
  va_alen hx hb hK.1 (hP.one he) 0 t0 rfl ht hv hdg kk
theorem g_iast (hx : p.tables.exec = Jvm.exec) (hb : c.code = cc) (hK : gK E s) (hP : gP E A n G H) (hS : va_S A H0 H locs) {k : Nat} {f : Nat → Int32} (he : G a = some (.inl (E.2 0, k, .inl f))) {i x : Int32} (hin : vp_in i k) (hdg : decode cc pc = .ok (.iastore, 1))
    (kk : ∀ (H1 : Heap) (locs1 : List Loc), gP E A n (gup G a (.inl (E.2 0, k, .inl (upd f i.toNatClampNeg x)))) H1 → va_S A H0 H1 locs1 → W p l e R s m args below meth c H1 locs1 cells slots Q (F0 m (pc + 1) ls rest)) : W p l e R s m args below meth c H locs cells slots Q (F0 m pc ls (.int x :: .int i :: .ref a :: rest)) := by
  refine W.iast hx hb ((hP.2 a _ he).2 : H[a]? = some (vp_cell _ _)) ((hK.1.2 0 _ rfl).1 k (fun j => .int (f j))) (fun q => by cases q) (by show ¬ (i < 0 ∨ (arrV _ _ _).slots.size ≤ _); rw [arrV_size]; exact hin) rfl rfl hdg fun H1 e1 z oq => ?_
  refine kk H1 _ (hP.set he z ?_ oq) (hS.put z oq (hP.2 a _ he).1)
  show H1[a]? = some (vp_cell _ _)
  rw [e1, vp_cell_i, vp_cell_i, arrV_store]
  congr 2
  funext q
  by_cases hq : q = i.toNatClampNeg <;> simp [updV, upd, hq]
theorem g_last (hx : p.tables.exec = Jvm.exec) (hb : c.code = cc) (hK : gK E s) (hP : gP E A n G H) (hS : va_S A H0 H locs) {k : Nat} {f : Nat → Int64} (he : G a = some (.inl (E.2 1, k, .inr (.inl f)))) {i : Int32} {x : Int64} (hin : vp_in i k) (hdg : decode cc pc = .ok (.lastore, 1))
    (kk : ∀ (H1 : Heap) (locs1 : List Loc), gP E A n (gup G a (.inl (E.2 1, k, .inr (.inl (vp_updL f i.toNatClampNeg x))))) H1 → va_S A H0 H1 locs1 → W p l e R s m args below meth c H1 locs1 cells slots Q (F0 m (pc + 1) ls rest)) : W p l e R s m args below meth c H locs cells slots Q (F0 m pc ls (.long x :: .int i :: .ref a :: rest)) := by
  refine W.last hx hb ((hP.2 a _ he).2 : H[a]? = some (vp_cell _ _)) ((hK.1.2 1 _ rfl).1 k (fun j => .long (f j))) (fun q => by cases q) (by show ¬ (i < 0 ∨ (arrV _ _ _).slots.size ≤ _); rw [arrV_size]; exact hin) rfl rfl hdg fun H1 e1 z oq => ?_
  refine kk H1 _ (hP.set he z ?_ oq) (hS.put z oq (hP.2 a _ he).1)
  show H1[a]? = some (vp_cell _ _)
  rw [e1, vp_cell_l, vp_cell_l, arrV_store]
  congr 2
  funext q
  by_cases hq : q = i.toNatClampNeg <;> simp [updV, vp_updL, hq]
theorem g_aast (hx : p.tables.exec = Jvm.exec) (hb : c.code = cc) (hK : gK E s) (hP : gP E A n G H) (hS : va_S A H0 H locs) {k t0 ci v : Nat} {r : vw_C} {cA : ClassId} {f : Nat → Option Nat} {vs : List Value} (he : G a = some (.inl (cA, k, .inr (.inr (.inr (.inr f)))))) (ht : (gty E)[t0]? = some (cA, .object r.1)) (hv : G v = some (.inr (ci, vs))) (hc : cls[ci]? = some r) {i : Int32} (hin : vp_in i k) (hdg : decode cc pc = .ok (.aastore, 1))
    (kk : ∀ (H1 : Heap) (locs1 : List Loc), gP E A n (gup G a (.inl (cA, k, .inr (.inr (.inr (.inr (va_up f i.toNatClampNeg (some v)))))))) H1 → va_S A H0 H1 locs1 → W p l e R s m args below meth c H1 locs1 cells slots Q (F0 m (pc + 1) ls rest)) : W p l e R s m args below meth c H locs cells slots Q (F0 m pc ls (.ref v :: .int i :: .ref a :: rest)) := by
  have hlt : i.toNatClampNeg < k := Nat.not_le.mp fun q => hin (Or.inr q)
  have h0 : ¬ i < 0 := fun q => hin (Or.inl q)
  obtain ⟨r', hr', cellV, g1, g2, g3, -⟩ := (hP.2 v _ hv).2
  have hcls := (hK.1.1 ci r hc).2
  obtain ⟨kA, comp, k1, k2, k3, -⟩ := (hK.1.2 t0 _ ht).2
  have hcomp : comp = E.1.1 ci := Option.some.inj (k3.symm.trans hcls.1)
  subst hcomp
  obtain ⟨kC, hkC, -⟩ := hcls.2
  refine W.aast hx hb ((hP.2 a _ he).2 : H[a]? = some (vp_cell _ _)) (fun q h => by cases h) (fun h => by cases h) k1 k2 rfl hkC ⟨h0, by show _ < (arrV _ _ _).slots.size; rw [arrV_size]; exact hlt⟩ g1 (fun q h => by rw [g3] at h; cases h) (by rw [g2]; exact hkC) (by rw [g2]; exact va_assign hcls) rfl rfl hdg fun H1 e1 z oq => ?_
  refine kk H1 _ (hP.set he z ?_ oq) (hS.put z oq (hP.2 a _ he).1)
  show H1[a]? = some (vp_cell _ _)
  rw [e1, vp_cell_q, vp_cell_q, arrV_store]
  congr 2
  funext q
  by_cases hq : q = i.toNatClampNeg <;> simp [updV, va_up, hq, va_rf]
theorem g_new (hx : p.tables.exec = Jvm.exec) (hb : c.code = cc) {C : String} {T : u_T} {N ci index : Nat} (hts : ∀ w ∈ Ts, w.before args s = true) (hin : ∀ w ∈ u_ws C T N, w ∈ Ts) (ty : Nat → FieldType) (hty : ∀ k, k < N → parseFieldDescriptor (T k).2.2.1 = some (ty k)) (hown : s.vm.findClass own = some m.cls) (hcl : (Cond.classLink own index C).before args s = true) (hinst : (Cond.instantiable C N).before args s = true) (hini : (Cond.initialized C).before args s = true)
    (hK : gK E s) (hP : gP E A n G H) (hS : va_S A H0 H locs) (hA : ∀ q, n ≤ q → A q) (hc : cls[ci]? = some (C, T, N)) {fs : List Value} (hfs : ∀ j, j < N → defaultValue (ty j) = vp_V fs j) (hcells : cells + 1 ≤ R.cells) (hslots : slots + N ≤ R.slots) (hdg : decode cc pc = .ok (.new index, 3))
    (kk : ∀ (H1 : Heap), gP E A (n + 1) (gup G n (.inr (ci, fs))) H1 → va_S A H0 H1 locs → W p l e R s m args below meth c H1 locs (cells + 1) (slots + N) Q (F0 m (pc + 3) ls (.ref n :: rest))) : W p l e R s m args below meth c H locs cells slots Q (F0 m pc ls rest) := by
  have hKn := hK.1.1 ci _ hc
  refine W.newcK hx hb hown hcl hinst hini rfl hdg hcells hslots hKn.2.1 hP.1 fun H1 kC hkC e1 z1 o1 => ?_
  exact kk H1 (hP.push hA z1 ⟨_, hc, (u_born ty hts hin hKn hkC e1 hty).to hfs⟩ o1) (gS.new hS (by rw [hP.1, z1]; omega) (fun q hq => o1 q (by rw [← hP.1]; exact hq)))
theorem g_newa (hx : p.tables.exec = Jvm.exec) (hb : c.code = cc) {atype : ArrayType} (harr : (Cond.arrayClass (newarray.typeOf atype)).before args s = true) {t0 : Nat} {cA : ClassId} (ht : (gty E)[t0]? = some (cA, newarray.typeOf atype)) (hns : va_RA s cA (newarray.typeOf atype) = (s.vm.findClass ("[" ++ (newarray.typeOf atype).toString) = some cA)) (hK : gK E s) (hP : gP E A n G H) (hS : va_S A H0 H locs) (hA : ∀ q, n ≤ q → A q)
    {i : Int32} {N' : Nat} {a0 : vp_A} (ha : vp_cell cA a0 = arrV cA N' (fun _ => defaultValue (newarray.typeOf atype))) (hn : ¬ i < 0) (hN : i.toNatClampNeg = N') (hbytes : N' * componentBytes (newarray.typeOf atype) ≤ 536870912) (hcells : cells + 1 ≤ R.cells) (hslots : slots + N' ≤ R.slots) (hdg : decode cc pc = .ok (.newarray atype, 2))
    (kk : ∀ (H1 : Heap), gP E A (n + 1) (gup G n (.inl (cA, a0))) H1 → va_S A H0 H1 locs → W p l e R s m args below meth c H1 locs (cells + 1) (slots + N') Q (F0 m (pc + 2) ls (.ref n :: rest))) : W p l e R s m args below meth c H locs cells slots Q (F0 m pc ls (.int i :: rest)) := by
  refine va_newaK hx hb harr rfl hdg rfl hn hN hbytes hcells hslots hP.1 fun H1 cA' e1 z1 o1 hAr hNm => ?_
  have h2 := (hK.1.2 t0 _ ht).2
  rw [hns] at h2
  have : cA' = cA := Option.some.inj (hNm.symm.trans h2)
  subst this
  refine kk H1 (hP.push hA z1 ?_ o1) (gS.new hS (by rw [hP.1, z1]; omega) (fun q hq => o1 q (by rw [← hP.1]; exact hq)))
  show H1[n]? = some (vp_cell _ _)
  rw [ha]
  exact e1
theorem g_newq (hx : p.tables.exec = Jvm.exec) (hb : c.code = cc) {C : String} {index : Nat} (hown : s.vm.findClass own = some m.cls) (hclink : (Cond.classLink own index C).before args s = true) (hover : va_AO C s) {t0 : Nat} {cA : ClassId} (ht : (gty E)[t0]? = some (cA, .object C)) (hK : gK E s) (hP : gP E A n G H) (hS : va_S A H0 H locs) (hA : ∀ q, n ≤ q → A q)
    {i : Int32} {N' : Nat} (hn : ¬ i < 0) (hN : i.toNatClampNeg = N') (hbytes : N' * 4 ≤ 536870912) (hcells : cells + 1 ≤ R.cells) (hslots : slots + N' ≤ R.slots) (hdg : decode cc pc = .ok (.anewarray index, 3))
    (kk : ∀ (H1 : Heap), gP E A (n + 1) (gup G n (.inl (cA, N', .inr (.inr (.inr (.inr (fun _ => none))))))) H1 → va_S A H0 H1 locs → W p l e R s m args below meth c H1 locs (cells + 1) (slots + N') Q (F0 m (pc + 3) ls (.ref n :: rest))) : W p l e R s m args below meth c H locs cells slots Q (F0 m pc ls (.int i :: rest)) := by
  subst hN
  refine W.anew hx hb hown hclink (va_AO.use hover) rfl hdg rfl hn hbytes hcells hslots fun cA' kA comp f1 f2 f3 f4 => ?_
  obtain ⟨kA2, comp2, -, -, -, h4⟩ := (hK.1.2 t0 _ ht).2
  have : cA' = cA := Option.some.inj (f1.symm.trans h4)
  subst this
  have hn' := hP.1
  generalize hH1 : H.push ({ cls := cA', slots := Array.replicate i.toNatClampNeg .null, vm := .none } : Cell) = H1
  have z1 : H1.size = n + 1 := by rw [← hH1, Array.size_push, hn']
  have e1 : H1[n]? = some (arrV cA' i.toNatClampNeg (fun _ => .null)) := by rw [← hH1, ← hn', Array.getElem?_push_size, ← arrV_new]
  have o1 : ∀ q : Nat, q < n → H1[q]? = H[q]? := fun q hq => by rw [← hH1, Array.getElem?_push, if_neg (by omega)]
  have hst : W p l e R s m args below meth c H1 locs (cells + 1) (slots + i.toNatClampNeg) Q (F0 m (pc + 3) ls (.ref n :: rest)) := by
    refine kk H1 (hP.push hA z1 ?_ o1) (gS.new hS (by rw [hn', z1]; omega) (fun q hq => o1 q (by rw [← hn']; exact hq)))
    show H1[n]? = some (vp_cell _ _)
    rw [vp_cell_q]
    exact e1
  rw [← hn'] at hst
  exact hst
end GR
end
section
def gQi (E : gT) (A : Nat → Prop) (post : Int32 → Nat → gH → Prop) : Array Value → State → Outcome → State → Prop := va_Qi (fun r (u : Nat × gH) => post r u.1 u.2) (fun u t => gP E A u.1 u.2 t.heap) A
def gQl (E : gT) (A : Nat → Prop) (post : Int64 → Nat → gH → Prop) : Array Value → State → Outcome → State → Prop := va_Ql (fun r (u : Nat × gH) => post r u.1 u.2) (fun u t => gP E A u.1 u.2 t.heap) A
def gQv (E : gT) (A : Nat → Prop) (post : Nat → gH → Prop) : Array Value → State → Outcome → State → Prop := va_Qv (fun (u : Nat × gH) => post u.1 u.2) (fun u t => gP E A u.1 u.2 t.heap) A
def gQq (E : gT) (A : Nat → Prop) (post : Option Nat → Nat → gH → Prop) : Array Value → State → Outcome → State → Prop := va_Qq (fun r (u : Nat × gH) => post r u.1 u.2) (fun u t => gP E A u.1 u.2 t.heap) A
def gb (b : Bool) : Int32 := if b = true then 1 else 0
theorem gb_t : gb true = 1 := rfl
theorem gb_f : gb false = 0 := rfl
abbrev gM (l : Launch) (y : MethodName) (ws : List Cond) (rm : Room) (E : gT) (A : Nat → Prop) (n : Nat) (G : gH) (av : List Value) (Qc : Array Value → State → Outcome → State → Prop) (mc ms : Nat) : Prop := Met l y ws rm (va_Pc av (gB E A n G)) Qc mc ms A
theorem g_entry {l : Launch} {y : MethodName} {ws ws' : List Cond} {rm : Room} {E : gT} {A : Nat → Prop} {n : Nat} {G : gH} {av : List Value} {Qc : Array Value → State → Outcome → State → Prop} {mc ms : Nat} {cc : ByteArray} {maxL : Nat} {ret : Option FieldType} (hy : plainName y.cls = true) (hw : ws = .code y cc maxL ret :: ws') (hlen : (lg_sl av).length ≤ maxL)
    (kk : ∀ (p : Program) (e : Env) (s : State) (m : MethodId) (below : List Frame) (meth : Method) (c : Code), p.tables.exec = Jvm.exec → c.code = cc → meth.sig.returnType = ret → meth.locks = false → c.maxLocals = maxL → s.vm.findClass y.cls = some m.cls → meth.name = y.name → (∀ w ∈ ws, w.before av.toArray s = true) → gK E s → ∀ (H : Heap) (locs : List Loc) (ls : Array Slot), gP E A n G H → va_S A s.heap H locs → lv_has ls maxL (lv_args 0 av) → W p l e rm s m av.toArray below meth c H locs 0 0 (MQ below Qc av.toArray s mc ms A) (F0 m 0 ls [])) : gM l y ws rm E A n G av Qc mc ms := by
  refine Met.ofW (cc := cc) (maxL := maxL) (ret := ret) hy hw ?_
  intro p e s m args below meth c s₁ B hml hv
  obtain ⟨rfl, hP, hK⟩ := hv
  rw [lg_entry_eq]
  exact kk p e s m below meth c B.exec B.bytes B.returns B.notSynchronized hml (findClass_of_methodNamed B.named) (name_of_methodNamed B.named B.method).1 (atoms_spec (ws := ws) B.pre) hK s.heap [] _ hP va_S.rf (lv_entry av hlen)
section GC
variable {p : Program} {l : Launch} {e : Env} {R : Room} {s : State} {m : MethodId} {args : Array Value} {below : List Frame} {meth : Method} {c : Code} {H : Heap} {locs : List Loc} {cells slots : Nat} {Q : State → Prop}
variable {cc bytes : ByteArray} {nL maxL mc ms na index : Nat} {Ts ws : List Cond} {own C host : String} {pc : Nat} {ls : Array Slot} {rest st0 As : List Value} {E : gT} {A : Nat → Prop} {n b : Nat} {G : gH} {H0 : Heap} {y : MethodName} {ret : Option FieldType} {rm : Room} {Qc : Array Value → State → Outcome → State → Prop}
theorem g_runV (S : CallFix p m c cc nL s args Ts own) (hK : gK E s) (hP : gP E A n G H) (hM : gM l y ws rm E A n G (.ref b :: As) Qc mc ms) (cw : CallW R s args own C index y bytes maxL ret ws rm mc ms na) {ci : Nat} {fs : List Value} {T : u_T} {N : Nat} (he : G b = some (.inr (ci, fs))) (hc : cls[ci]? = some (C, T, N)) (hn : As.length = na) (hsz : ls.size = nL) (hst : st0 = As.reverse ++ .ref b :: rest) (hr : (rest.map fun v => v.category).sum ≤ 8) (hdg : decode cc pc = .ok (.invokevirtual index, 3)) (hf : cells + mc ≤ R.cells ∧ slots + ms ≤ R.slots) :
    va_Run p l e R s m args below meth c H locs cells slots mc ms (F0 m pc ls st0) rest (Qc (Value.ref b :: As).toArray) A :=
  va_runV S hM cw ⟨gB.blind, va_recv hK.1 (hP.one he) hc (q0 := 0) rfl, fun U hU hW => ⟨rfl, by rw [hU]; exact hP, hK.warm hW⟩⟩ rfl hn hsz hst (lv_room hr) hdg hf
theorem g_runS (S : CallFix p m c cc nL s args Ts own) (hK : gK E s) (hP : gP E A n G H) (hM : gM l y ws rm E A n G As Qc mc ms) (cw : CallB R s args own index y bytes maxL ret ws rm mc ms na ∧ (Cond.static y).before args s = true) (hn : As.length = na) (hsz : ls.size = nL) (hst : st0 = As.reverse ++ rest) (hr : (rest.map fun v => v.category).sum ≤ 8) (hdg : decode cc pc = .ok (.invokestatic index, 3)) (hf : cells + mc ≤ R.cells ∧ slots + ms ≤ R.slots) :
    va_Run p l e R s m args below meth c H locs cells slots mc ms (F0 m pc ls st0) rest (Qc As.toArray) A :=
  va_runS S hM cw ⟨gB.blind, fun U hU hW => ⟨rfl, by rw [hU]; exact hP, hK.warm hW⟩⟩ rfl hn hsz hst (lv_room hr) hdg hf
theorem g_runI (S : CallFix p m c cc nL s args Ts own) (hK : gK E s) (hP : gP E A n G H) (hM : gM l y ws rm E A n G (.ref b :: As) Qc mc ms) (cw : CallB R s args own index y bytes maxL none ws rm mc ms na ∧ y.name = "<init>" ∧ (Cond.instanceMethod y).before args s = true) (hn : As.length = na) (hsz : ls.size = nL) (hst : st0 = As.reverse ++ .ref b :: rest) (hr : (rest.map fun v => v.category).sum ≤ 8) (hdg : decode cc pc = .ok (.invokespecial index, 3)) (hf : cells + mc ≤ R.cells ∧ slots + ms ≤ R.slots) :
    va_Run p l e R s m args below meth c H locs cells slots mc ms (F0 m pc ls st0) rest (Qc (Value.ref b :: As).toArray) A :=
  va_runI S hM cw ⟨gB.blind, fun U hU hW => ⟨rfl, by rw [hU]; exact hP, hK.warm hW⟩⟩ rfl hn hsz hst (lv_room hr) hdg hf
theorem g_runSN (S : CallFix p m c cc nL s args Ts own) (hK : gK E s) (hP : gP E A n G H) (hM : gM l y ws rm E A n G As Qc mc ms) (cw : va_CN R s args own index y host bytes maxL ret ws rm mc ms na ∧ (Cond.static y).before args s = true ∧ True) (hn : As.length = na) (hsz : ls.size = nL) (hst : st0 = As.reverse ++ rest) (hr : (rest.map fun v => v.category).sum ≤ 8) (hdg : decode cc pc = .ok (.invokestatic index, 3)) (hf : cells + mc ≤ R.cells ∧ slots + ms ≤ R.slots) :
    va_Run p l e R s m args below meth c H locs cells slots mc ms (F0 m pc ls st0) rest (Qc As.toArray) A :=
  va_runSN S hM cw ⟨gB.blind, fun U hU hW => ⟨rfl, by rw [hU]; exact hP, hK.warm hW⟩⟩ rfl hn hsz hst (lv_room hr) hdg hf
theorem g_runIN (S : CallFix p m c cc nL s args Ts own) (hK : gK E s) (hP : gP E A n G H) (hM : gM l y ws rm E A n G (.ref b :: As) Qc mc ms) (cw : va_CN R s args own index y host bytes maxL none ws rm mc ms na ∧ y.name = "<init>" ∧ (Cond.instanceMethod y).before args s = true) (hn : As.length = na) (hsz : ls.size = nL) (hst : st0 = As.reverse ++ .ref b :: rest) (hr : (rest.map fun v => v.category).sum ≤ 8) (hdg : decode cc pc = .ok (.invokespecial index, 3)) (hf : cells + mc ≤ R.cells ∧ slots + ms ≤ R.slots) :
    va_Run p l e R s m args below meth c H locs cells slots mc ms (F0 m pc ls st0) rest (Qc (Value.ref b :: As).toArray) A :=
  va_runIN S hM cw ⟨gB.blind, fun U hU hW => ⟨rfl, by rw [hU]; exact hP, hK.warm hW⟩⟩ rfl hn hsz hst (lv_room hr) hdg hf
variable {a : Array Value}
theorem g_ci {post : Int32 → Nat → gH → Prop} (hr : va_Run p l e R s m args below meth c H locs cells slots mc ms (F0 m pc ls st0) rest (gQi E A post a) A) (hS : va_S A H0 H locs)
    (kk : ∀ (r : Int32) (n' : Nat) (G' : gH) (H1 : Heap) (locs1 : List Loc), post r n' G' → gP E A n' G' H1 → va_S A H0 H1 locs1 → W p l e R s m args below meth c H1 locs1 (cells + mc) (slots + ms) Q (F0 m (pc + 3) ls (.int r :: rest))) : W p l e R s m args below meth c H locs cells slots Q (F0 m pc ls st0) :=
  va_calli hr hS (fun _ _ h => h) (fun _ h => h) (fun r u t H1 locs1 ht _ hp hb _ _ hS1 => kk r u.1 u.2 H1 locs1 hp (by rw [← ht]; exact hb) hS1)
theorem g_cl {post : Int64 → Nat → gH → Prop} (hr : va_Run p l e R s m args below meth c H locs cells slots mc ms (F0 m pc ls st0) rest (gQl E A post a) A) (hS : va_S A H0 H locs)
    (kk : ∀ (r : Int64) (n' : Nat) (G' : gH) (H1 : Heap) (locs1 : List Loc), post r n' G' → gP E A n' G' H1 → va_S A H0 H1 locs1 → W p l e R s m args below meth c H1 locs1 (cells + mc) (slots + ms) Q (F0 m (pc + 3) ls (.long r :: rest))) : W p l e R s m args below meth c H locs cells slots Q (F0 m pc ls st0) :=
  va_calll hr hS (fun _ _ h => h) (fun _ h => h) (fun r u t H1 locs1 ht _ hp hb _ _ hS1 => kk r u.1 u.2 H1 locs1 hp (by rw [← ht]; exact hb) hS1)
theorem g_cv {post : Nat → gH → Prop} (hr : va_Run p l e R s m args below meth c H locs cells slots mc ms (F0 m pc ls st0) rest (gQv E A post a) A) (hS : va_S A H0 H locs)
    (kk : ∀ (n' : Nat) (G' : gH) (H1 : Heap) (locs1 : List Loc), post n' G' → gP E A n' G' H1 → va_S A H0 H1 locs1 → W p l e R s m args below meth c H1 locs1 (cells + mc) (slots + ms) Q (F0 m (pc + 3) ls rest)) : W p l e R s m args below meth c H locs cells slots Q (F0 m pc ls st0) :=
  va_callv hr hS (fun _ _ h => h) (fun _ h => h) (fun u t H1 locs1 ht _ hp hb _ _ hS1 => kk u.1 u.2 H1 locs1 hp (by rw [← ht]; exact hb) hS1)
theorem g_cq {post : Option Nat → Nat → gH → Prop} (hr : va_Run p l e R s m args below meth c H locs cells slots mc ms (F0 m pc ls st0) rest (gQq E A post a) A) (hS : va_S A H0 H locs)
    (kk : ∀ (r : Option Nat) (n' : Nat) (G' : gH) (H1 : Heap) (locs1 : List Loc), post r n' G' → gP E A n' G' H1 → va_S A H0 H1 locs1 → W p l e R s m args below meth c H1 locs1 (cells + mc) (slots + ms) Q (F0 m (pc + 3) ls (va_rf r :: rest))) : W p l e R s m args below meth c H locs cells slots Q (F0 m pc ls st0) :=
  va_callq hr hS (fun _ _ h => h) (fun _ h => h) (fun r u t H1 locs1 ht _ hp hb _ _ hS1 => kk r u.1 u.2 H1 locs1 hp (by rw [← ht]; exact hb) hS1)
theorem g_reti {post : Int32 → Nat → gH → Prop} {v : Int32} (hx : p.tables.exec = Jvm.exec) (hb : c.code = cc) (hr : meth.sig.returnType = some .int) (hlk : meth.locks = false) (hP : gP E A n G H) (hS : va_S A s.heap H locs) (hdg : decode cc pc = .ok (.ireturn, 1)) (hp : post v n G) : W p l e R s m args below meth c H locs cells slots (MQ below (gQi E A post) args s cells slots A) (F0 m pc ls [.int v]) :=
  W.iret hx hb hr (fun t ht _ => ⟨⟨v, (n, G), rfl, hp, by show gP E A n G t.heap; rw [ht]; exact hP⟩, hS.F ht⟩) hS.2.2 hdg hlk
theorem g_retz {post : Int32 → Nat → gH → Prop} {v : Int32} (hx : p.tables.exec = Jvm.exec) (hb : c.code = cc) (hr : meth.sig.returnType = some .boolean) (hlk : meth.locks = false) (hP : gP E A n G H) (hS : va_S A s.heap H locs) (hdg : decode cc pc = .ok (.ireturn, 1)) (hn : narrow .boolean (.int v) = .int v) (hp : post v n G) : W p l e R s m args below meth c H locs cells slots (MQ below (gQi E A post) args s cells slots A) (F0 m pc ls [.int v]) :=
  W.zret hx hb hr hn (fun t ht _ => ⟨⟨v, (n, G), rfl, hp, by show gP E A n G t.heap; rw [ht]; exact hP⟩, hS.F ht⟩) hS.2.2 hdg hlk
theorem g_retl {post : Int64 → Nat → gH → Prop} {v : Int64} (hx : p.tables.exec = Jvm.exec) (hb : c.code = cc) (hr : meth.sig.returnType = some .long) (hlk : meth.locks = false) (hP : gP E A n G H) (hS : va_S A s.heap H locs) (hdg : decode cc pc = .ok (.lreturn, 1)) (hp : post v n G) : W p l e R s m args below meth c H locs cells slots (MQ below (gQl E A post) args s cells slots A) (F0 m pc ls [.long v]) :=
  W.lret hx hb hr (fun t ht _ => ⟨⟨v, (n, G), rfl, hp, by show gP E A n G t.heap; rw [ht]; exact hP⟩, hS.F ht⟩) hS.2.2 hdg hlk
theorem g_retv {post : Nat → gH → Prop} (hx : p.tables.exec = Jvm.exec) (hb : c.code = cc) (hr : meth.sig.returnType = none) (hlk : meth.locks = false) (hP : gP E A n G H) (hS : va_S A s.heap H locs) (hdg : decode cc pc = .ok (.return_, 1)) (hp : post n G) : W p l e R s m args below meth c H locs cells slots (MQ below (gQv E A post) args s cells slots A) (F0 m pc ls []) :=
  W.vret hx hb hr (fun t ht _ => ⟨⟨(n, G), rfl, hp, by show gP E A n G t.heap; rw [ht]; exact hP⟩, hS.F ht⟩) hS.2.2 hdg hlk
theorem g_retq {post : Option Nat → Nat → gH → Prop} {v : Value} {o : String} (r : Option Nat) (hv : va_rf r = v) (hx : p.tables.exec = Jvm.exec) (hb : c.code = cc) (hr : meth.sig.returnType = some (.object o)) (hlk : meth.locks = false) (hP : gP E A n G H) (hS : va_S A s.heap H locs) (hdg : decode cc pc = .ok (.areturn, 1)) (hp : post r n G) : W p l e R s m args below meth c H locs cells slots (MQ below (gQq E A post) args s cells slots A) (F0 m pc ls [v]) := by
  subst hv
  exact W.aret hx hb hr (Or.inl ⟨_, rfl⟩) (va_rf_or r) (fun t ht _ => ⟨⟨r, (n, G), rfl, hp, by show gP E A n G t.heap; rw [ht]; exact hP⟩, hS.F ht⟩) hS.2.2 hdg hlk
theorem g_ifeq {x : Bool} {off : Int} {tgt : Nat} (hx : p.tables.exec = Jvm.exec) (hb : c.code = cc) (hdg : decode cc pc = .ok (.ifCond .eq off, 3)) (ht : (pc : Int) + off = (tgt : Int)) (kt : x = false → W p l e R s m args below meth c H locs cells slots Q (F0 m tgt ls rest)) (kf : x = true → W p l e R s m args below meth c H locs cells slots Q (F0 m (pc + 3) ls rest)) : W p l e R s m args below meth c H locs cells slots Q (F0 m pc ls (.int (gb x) :: rest)) := by
  refine lv_if_eq hx hb hdg ht (fun h => kt ?_) (fun h => kf ?_) <;> cases x <;> simp_all [gb]
theorem g_ifne {x : Bool} {off : Int} {tgt : Nat} (hx : p.tables.exec = Jvm.exec) (hb : c.code = cc) (hdg : decode cc pc = .ok (.ifCond .ne off, 3)) (ht : (pc : Int) + off = (tgt : Int)) (kt : x = true → W p l e R s m args below meth c H locs cells slots Q (F0 m tgt ls rest)) (kf : x = false → W p l e R s m args below meth c H locs cells slots Q (F0 m (pc + 3) ls rest)) : W p l e R s m args below meth c H locs cells slots Q (F0 m pc ls (.int (gb x) :: rest)) := by
  refine lv_if_ne hx hb hdg ht (fun h => kt ?_) (fun h => kf ?_) <;> cases x <;> simp_all [gb]
/-- a loop, at its head: states t, what the heap and the locals are there, what falls -/
theorem g_loop {τ : Type} (I : τ → Prop) (μ : τ → Nat) (nn : τ → Nat) (gg : τ → gH) (cel slo : τ → Nat) (lv : τ → List (Nat × Value))
    (step : ∀ t, I t → (∀ t', I t' → μ t' < μ t → ∀ (H : Heap) (locs : List Loc) (ls : Array Slot), gP E A (nn t') (gg t') H → va_S A H0 H locs → lv_has ls nL (lv t') → W p l e R s m args below meth c H locs (cel t') (slo t') Q (F0 m pc ls rest)) → ∀ (H : Heap) (locs : List Loc) (ls : Array Slot), gP E A (nn t) (gg t) H → va_S A H0 H locs → lv_has ls nL (lv t) → W p l e R s m args below meth c H locs (cel t) (slo t) Q (F0 m pc ls rest)) :
    ∀ t, I t → ∀ (H : Heap) (locs : List Loc) (ls : Array Slot), gP E A (nn t) (gg t) H → va_S A H0 H locs → lv_has ls nL (lv t) → W p l e R s m args below meth c H locs (cel t) (slo t) Q (F0 m pc ls rest) := by
  have key : ∀ (k : Nat) (t : τ), μ t < k → I t → ∀ (H : Heap) (locs : List Loc) (ls : Array Slot), gP E A (nn t) (gg t) H → va_S A H0 H locs → lv_has ls nL (lv t) → W p l e R s m args below meth c H locs (cel t) (slo t) Q (F0 m pc ls rest) := by
    intro k
    induction k with
    | zero => intro t h; omega
    | succ k ih => intro t h hI; exact step t hI (fun t' hI' h' => ih t' (by omega) hI')
  exact fun t hI => key (μ t + 1) t (by omega) hI
end GC
theorem gb_nar (b : Bool) : narrow .boolean (.int (gb b)) = .int (gb b) := by cases b <;> rfl
end
section
abbrev tn (i : Int32) : Nat := i.toNatClampNeg
/-! the reference's cells: the object at o, its arrays behind it -/
def objM (o : Nat) (c : Nat → Int32) : List Value := [.int (c 0), .ref (o + 1), .ref (o + 2), .ref (o + 3), .ref (o + 4), .ref (o + 5), .ref (o + 6), .int (c 7), .ref (o + 7), .ref (o + 8), .ref (o + 9), .ref (o + 10), .int (c 12), .ref (o + 11), .ref (o + 12), .ref (o + 13), .ref (o + 14), .ref (o + 15), .int (c 18), .ref (o + 16), .ref (o + 17), .ref (o + 18), .ref (o + 19), .ref (o + 20), .ref (o + 21), .ref (o + 22), .ref (o + 23), .ref (o + 24), .ref (o + 25), .int (c 29), .int (c 30), .int (c 31), .int (c 32), .int (c 33), .ref (o + 26)]
def lenM (k : Nat) : Nat := [8, 30, 30, 30, 30, 30, 40, 40, 40, 40, 200, 200, 200, 200, 200, 40, 40, 40, 840, 840, 840, 840, 840, 8320, 1040, 9331].getD k 0
def GM (E : gT) (o : Nat) (c : Nat → Int32) (S : Nat → Nat → Int32) : gH := fun a => if a = o then some (.inr (9, objM o c)) else if o < a ∧ a < o + 27 then some (.inl (E.2 0, lenM (a - o - 1), .inl (S (a - o - 1)))) else none
theorem GM_o {E : gT} {o : Nat} {c : Nat → Int32} {S : Nat → Nat → Int32} : GM E o c S o = some (.inr (9, objM o c)) := by simp [GM]
theorem GM_a {E : gT} {o : Nat} {c : Nat → Int32} {S : Nat → Nat → Int32} {j : Nat} (k ln : Nat) (hj : j = k + 1) (hk : k < 26) (hl : lenM k = ln) : GM E o c S (o + j) = some (.inl (E.2 0, ln, .inl (S k))) := by
  subst hj; subst hl
  have h1 : ¬ (o + (k + 1) = o) := by omega
  have h2 : o < o + (k + 1) ∧ o + (k + 1) < o + 27 := by omega
  have h3 : o + (k + 1) - o - 1 = k := by omega
  simp only [GM, if_neg h1, if_pos h2, h3]
theorem GM_put {E : gT} {o : Nat} {c : Nat → Int32} {S : Nat → Nat → Int32} {j : Nat} {k ln : Nat} {f : Nat → Int32} (hj : j = k + 1) (hk : k < 26) (hl : lenM k = ln) : gup (GM E o c S) (o + j) (.inl (E.2 0, ln, .inl f)) = GM E o c (va_up S k f) := by
  subst hj; subst hl
  funext a
  by_cases h : a = o + (k + 1)
  · subst h
    rw [gup_s, GM_a k _ rfl hk rfl, va_up_self]
  · rw [gup_n h]
    simp only [GM]
    by_cases h1 : a = o
    · simp [h1]
    · simp only [if_neg h1]
      by_cases h2 : o < a ∧ a < o + 27
      · have h3 : a - o - 1 ≠ k := by omega
        simp only [if_pos h2, va_up_ne _ _ h3]
      · simp only [if_neg h2]
theorem GM_puto {E : gT} {o : Nat} {c c' : Nat → Int32} {S : Nat → Nat → Int32} : gup (GM E o c S) o (.inr (9, objM o c')) = GM E o c' S := by
  funext a
  by_cases h : a = o
  · subst h; rw [gup_s, GM_o]
  · rw [gup_n h]; simp only [GM, if_neg h]
section GMR
variable {p : Program} {l : Launch} {e : Env} {R : Room} {s : State} {m : MethodId} {args : Array Value} {below : List Frame} {meth : Method} {c0 : Code} {H : Heap} {locs : List Loc} {cells slots : Nat} {Q : State → Prop}
variable {cc : ByteArray} {nL : Nat} {Ts : List Cond} {pc : Nat} {ls : Array Slot} {rest : List Value} {E : gT} {A : Nat → Prop} {n o : Nat} {H0 : Heap} {c : Nat → Int32} {S : Nat → Nat → Int32}
theorem m_get (hx : p.tables.exec = Jvm.exec) (hb : c0.code = cc) {index : Nat} (hts : ∀ w ∈ Ts, w.before args s = true) (hin : ∀ w ∈ u_ws RX9 TX9 35, w ∈ Ts) (hown : s.vm.findClass RX9 = some m.cls) (hK : gK E s) (hP : gP E A n (GM E o c S) H) (k : Nat) (hk : k < 35) (hlink : (Cond.fieldLink RX9 index RX9 (TX9 k).2.1 (TX9 k).2.2.1).before args s = true) (hsame : (TX9 k).1 = RX9) {v : Value} (hv : (objM o c)[k]? = some v) (hdg : decode cc pc = .ok (.getfield index, 3))
    (kk : W p l e R s m args below meth c0 H locs cells slots Q (F0 m (pc + 3) ls (v :: rest))) : W p l e R s m args below meth c0 H locs cells slots Q (F0 m pc ls (.ref o :: rest)) :=
  g_get hx hb hts hin hown hK hP GM_o rfl k hk hlink hsame hv hdg kk
theorem m_put (hx : p.tables.exec = Jvm.exec) (hb : c0.code = cc) {index : Nat} (hts : ∀ w ∈ Ts, w.before args s = true) (hin : ∀ w ∈ u_ws RX9 TX9 35, w ∈ Ts) (hown : s.vm.findClass RX9 = some m.cls) (hK : gK E s) (hP : gP E A n (GM E o c S) H) (hS : va_S A H0 H locs) (k : Nat) (hk : k < 35) (hlink : (Cond.fieldLink RX9 index RX9 (TX9 k).2.1 (TX9 k).2.2.1).before args s = true) (hsame : (TX9 k).1 = RX9) (hfin : (TX9 k).2.2.2 = false) (hd : parseFieldDescriptor (TX9 k).2.2.1 = some .int) {v : Int32} (hset : (objM o c).set k (.int v) = objM o (va_up c k v)) (hdg : decode cc pc = .ok (.putfield index, 3))
    (kk : ∀ (H1 : Heap) (locs1 : List Loc), gP E A n (GM E o (va_up c k v) S) H1 → va_S A H0 H1 locs1 → W p l e R s m args below meth c0 H1 locs1 cells slots Q (F0 m (pc + 3) ls rest)) : W p l e R s m args below meth c0 H locs cells slots Q (F0 m pc ls (.int v :: .ref o :: rest)) := by
  refine g_put hx hb hts hin tyX9 tyX9_ok nmX9 hown hK hP hS GM_o rfl k hk hlink hsame (Or.inl hfin) hd rfl rfl (by simpa [objM] using hk) hdg (fun H1 locs1 h1 h2 => kk H1 locs1 ?_ h2)
  rw [hset, GM_puto] at h1
  exact h1
theorem m_iald (hx : p.tables.exec = Jvm.exec) (hb : c0.code = cc) (hK : gK E s) (hP : gP E A n (GM E o c S) H) {j : Nat} (k ln : Nat) (hj : j = k + 1) (hk : k < 26) (hl : lenM k = ln) {i : Int32} (hin : vp_in i ln) (hdg : decode cc pc = .ok (.iaload, 1))
    (kk : W p l e R s m args below meth c0 H locs cells slots Q (F0 m (pc + 1) ls (.int (S k (tn i)) :: rest))) : W p l e R s m args below meth c0 H locs cells slots Q (F0 m pc ls (.int i :: .ref (o + j) :: rest)) :=
  g_iald hx hb hK hP (GM_a k ln hj hk hl) hin hdg kk
theorem m_iast (hx : p.tables.exec = Jvm.exec) (hb : c0.code = cc) (hK : gK E s) (hP : gP E A n (GM E o c S) H) (hS : va_S A H0 H locs) {j : Nat} (k ln : Nat) (hj : j = k + 1) (hk : k < 26) (hl : lenM k = ln) {i x : Int32} (hin : vp_in i ln) (hdg : decode cc pc = .ok (.iastore, 1))
    (kk : ∀ (H1 : Heap) (locs1 : List Loc), gP E A n (GM E o c (va_up S k (upd (S k) (tn i) x))) H1 → va_S A H0 H1 locs1 → W p l e R s m args below meth c0 H1 locs1 cells slots Q (F0 m (pc + 1) ls rest)) : W p l e R s m args below meth c0 H locs cells slots Q (F0 m pc ls (.int x :: .int i :: .ref (o + j) :: rest)) := by
  refine g_iast hx hb hK hP hS (GM_a k ln hj hk hl) hin hdg (fun H1 locs1 h1 h2 => kk H1 locs1 ?_ h2)
  rw [GM_put hj hk hl] at h1
  exact h1
end GMR
/-! numbers -/
theorem fb_rng (x : Int32) : -2147483648 ≤ x.toInt ∧ x.toInt < 2147483648 := by
  have h1 := Int32.le_toInt x
  have h2 := Int32.toInt_lt x
  omega
theorem fb_bmod {z : Int} (h1 : -2147483648 ≤ z) (h2 : z < 2147483648) : z.bmod (2 ^ 32) = z := by
  rw [Int.bmod_eq_of_le (by omega) (by omega)]
theorem fb_addI {x y : Int32} (h1 : -2147483648 ≤ x.toInt + y.toInt) (h2 : x.toInt + y.toInt < 2147483648) : (x + y).toInt = x.toInt + y.toInt := by
  rw [Int32.toInt_add, fb_bmod h1 h2]
theorem fb_subI {x y : Int32} (h1 : -2147483648 ≤ x.toInt - y.toInt) (h2 : x.toInt - y.toInt < 2147483648) : (x - y).toInt = x.toInt - y.toInt := by
  rw [Int32.toInt_sub, fb_bmod h1 h2]
theorem fb_mulI {x y : Int32} (h1 : -2147483648 ≤ x.toInt * y.toInt) (h2 : x.toInt * y.toInt < 2147483648) : (x * y).toInt = x.toInt * y.toInt := by
  rw [Int32.toInt_mul, fb_bmod h1 h2]
theorem fb_negI {x : Int32} (h : x.toInt ≠ -2147483648) : (-x).toInt = -x.toInt := by
  have := fb_rng x
  rw [Int32.toInt_neg, fb_bmod (by omega) (by omega)]
theorem fb_ofI {z : Int} (h1 : -2147483648 ≤ z) (h2 : z < 2147483648) : (Int32.ofInt z).toInt = z := by
  rw [Int32.toInt_ofInt, fb_bmod h1 h2]
theorem fb_asI (x : Int32) : Int32.ofInt x.toInt = x := Int32.ofInt_toInt x
theorem fb_rngL (x : Int64) : -9223372036854775808 ≤ x.toInt ∧ x.toInt < 9223372036854775808 := by
  have h1 := Int64.le_toInt x
  have h2 := Int64.toInt_lt x
  omega
theorem fb_bmodL {z : Int} (h1 : -9223372036854775808 ≤ z) (h2 : z < 9223372036854775808) : z.bmod (2 ^ 64) = z := by
  rw [Int.bmod_eq_of_le (by omega) (by omega)]
theorem fb_addL {x y : Int64} (h1 : -9223372036854775808 ≤ x.toInt + y.toInt) (h2 : x.toInt + y.toInt < 9223372036854775808) : (x + y).toInt = x.toInt + y.toInt := by
  rw [Int64.toInt_add, fb_bmodL h1 h2]
theorem fb_subL {x y : Int64} (h1 : -9223372036854775808 ≤ x.toInt - y.toInt) (h2 : x.toInt - y.toInt < 9223372036854775808) : (x - y).toInt = x.toInt - y.toInt := by
  rw [Int64.toInt_sub, fb_bmodL h1 h2]
theorem fb_mulL {x y : Int64} (h1 : -9223372036854775808 ≤ x.toInt * y.toInt) (h2 : x.toInt * y.toInt < 9223372036854775808) : (x * y).toInt = x.toInt * y.toInt := by
  rw [Int64.toInt_mul, fb_bmodL h1 h2]
theorem divI {x y : Int32} (hx : 0 ≤ x.toInt) (hy : 0 < y.toInt) : (x / y).toInt = x.toInt / y.toInt := by
  have h1 := fb_rng x
  have h3 : x.toInt / y.toInt ≤ x.toInt := Int.ediv_le_self _ hx
  have h4 : 0 ≤ x.toInt / y.toInt := Int.ediv_nonneg hx (by omega)
  rw [Int32.toInt_div, Int.tdiv_eq_ediv_of_nonneg hx, fb_bmod (by omega) (by omega)]
def inB (v lo hi : Int32) : Bool := decide (lo ≤ v) && decide (v ≤ hi)
theorem inB_i {v lo hi : Int32} (h : inB v lo hi = true) : lo.toInt ≤ v.toInt ∧ v.toInt ≤ hi.toInt := by
  simp only [inB, Bool.and_eq_true, decide_eq_true_eq] at h
  exact ⟨Int32.le_iff_toInt_le.mp h.1, Int32.le_iff_toInt_le.mp h.2⟩
theorem inB_of {v lo hi : Int32} (h1 : lo.toInt ≤ v.toInt) (h2 : v.toInt ≤ hi.toInt) : inB v lo hi = true := by
  simp only [inB, Bool.and_eq_true, decide_eq_true_eq]
  exact ⟨Int32.le_iff_toInt_le.mpr h1, Int32.le_iff_toInt_le.mpr h2⟩
theorem inB_vp {v hi : Int32} {N : Nat} (h : inB v 0 hi = true) (hN : hi.toInt < N) : vp_in v N := by
  have := inB_i h
  have h0 : (0 : Int32).toInt = 0 := rfl
  exact vp_in_iff.mpr ⟨by omega, by omega⟩
theorem tn_of {v : Int32} (h : 0 ≤ v.toInt) : (tn v : Int) = v.toInt := by
  have := Int32.toNat_toInt v
  simp only [tn]
  omega
theorem nI_tn {v : Int32} (h : 0 ≤ v.toInt) : nI (tn v) = v := by
  apply Int32.toInt_inj.mp
  have h1 := tn_of h
  have h2 := fb_rng v
  rw [nI_toInt (by omega), h1]
/-- what the reference's own walks need of its numbers -/
def mI (c : Nat → Int32) (S : Nat → Nat → Int32) : Prop := (0 ≤ (c 0).toInt ∧ (c 0).toInt ≤ 1040) ∧ (0 ≤ (c 7).toInt ∧ (c 7).toInt ≤ 40) ∧ (0 ≤ (c 12).toInt ∧ (c 12).toInt ≤ 200) ∧ (0 ≤ (c 18).toInt ∧ (c 18).toInt ≤ 40) ∧ ∀ h, h < 40 → 0 ≤ (S 6 h).toInt ∧ (S 6 h).toInt ≤ 7
end
section
section GMR2
variable {p : Program} {l : Launch} {e : Env} {R : Room} {s : State} {m : MethodId} {args : Array Value} {below : List Frame} {meth : Method} {c0 : Code} {H : Heap} {locs : List Loc} {cells slots : Nat} {Q : State → Prop}
variable {cc : ByteArray} {pc : Nat} {ls : Array Slot} {rest : List Value} {E : gT} {A : Nat → Prop} {n o : Nat} {H0 : Heap} {c : Nat → Int32} {S : Nat → Nat → Int32}
theorem tn_nI {i : Nat} (h : i < 2 ^ 31) : tn (nI i) = i := nI_clamp h
theorem lenM_lt : ∀ k, k < 26 → lenM k < 2 ^ 31 := by decide
theorem m_iald_n (hx : p.tables.exec = Jvm.exec) (hb : c0.code = cc) (hK : gK E s) (hP : gP E A n (GM E o c S) H) {j : Nat} (k ln : Nat) (hj : j = k + 1) (hk : k < 26) (hl : lenM k = ln) {i : Nat} (hin : i < ln) (hdg : decode cc pc = .ok (.iaload, 1))
    (kk : W p l e R s m args below meth c0 H locs cells slots Q (F0 m (pc + 1) ls (.int (S k i) :: rest))) : W p l e R s m args below meth c0 H locs cells slots Q (F0 m pc ls (.int (nI i) :: .ref (o + j) :: rest)) := by
  have h2 := lenM_lt k hk
  refine m_iald hx hb hK hP k ln hj hk hl (vp_in_nI hin (by omega)) hdg ?_
  rw [tn_nI (by omega)]
  exact kk
theorem m_iast_n (hx : p.tables.exec = Jvm.exec) (hb : c0.code = cc) (hK : gK E s) (hP : gP E A n (GM E o c S) H) (hS : va_S A H0 H locs) {j : Nat} (k ln : Nat) (hj : j = k + 1) (hk : k < 26) (hl : lenM k = ln) {i : Nat} {x : Int32} (hin : i < ln) (hdg : decode cc pc = .ok (.iastore, 1))
    (kk : ∀ (H1 : Heap) (locs1 : List Loc), gP E A n (GM E o c (va_up S k (upd (S k) i x))) H1 → va_S A H0 H1 locs1 → W p l e R s m args below meth c0 H1 locs1 cells slots Q (F0 m (pc + 1) ls rest)) : W p l e R s m args below meth c0 H locs cells slots Q (F0 m pc ls (.int x :: .int (nI i) :: .ref (o + j) :: rest)) := by
  have h2 := lenM_lt k hk
  refine m_iast hx hb hK hP hS k ln hj hk hl (vp_in_nI hin (by omega)) hdg (fun H1 locs1 h1 h3 => kk H1 locs1 ?_ h3)
  rw [tn_nI (by omega)] at h1
  exact h1
end GMR2
theorem lp_ge {x : Int32} {k : Nat} (h0 : 0 ≤ x.toInt) (hk : k < 2 ^ 31) (h : x ≤ nI k) : tn x ≤ k := by
  have h1 := Int32.le_iff_toInt_le.mp h
  rw [nI_toInt hk] at h1
  have := tn_of h0
  omega
theorem lp_lt {x : Int32} {k : Nat} (h0 : 0 ≤ x.toInt) (hk : k < 2 ^ 31) (h : ¬ x ≤ nI k) : k < tn x := by
  have h1 : ¬ x.toInt ≤ (nI k).toInt := fun q => h (Int32.le_iff_toInt_le.mpr q)
  rw [nI_toInt hk] at h1
  have := tn_of h0
  omega
theorem sw_out1 {x : Int32} (h0 : ¬ x = 0) (h1 : ¬ x = 1) : x.toInt < 0 ∨ 1 < x.toInt := by
  have a0 := lv_neT h0 (a := 0) rfl
  have a1 := lv_neT h1 (a := 1) rfl
  omega
theorem sw_out3 {x : Int32} (h0 : ¬ x = 0) (h1 : ¬ x = 1) (h2 : ¬ x = 2) (h3 : ¬ x = 3) : x.toInt < 0 ∨ 3 < x.toInt := by
  have a0 := lv_neT h0 (a := 0) rfl
  have a1 := lv_neT h1 (a := 1) rfl
  have a2 := lv_neT h2 (a := 2) rfl
  have a3 := lv_neT h3 (a := 3) rfl
  omega
theorem sw_out6 {x : Int32} (h0 : ¬ x = 0) (h1 : ¬ x = 1) (h2 : ¬ x = 2) (h3 : ¬ x = 3) (h4 : ¬ x = 4) (h5 : ¬ x = 5) (h6 : ¬ x = 6) : x.toInt < 0 ∨ 6 < x.toInt := by
  have a0 := lv_neT h0 (a := 0) rfl
  have a1 := lv_neT h1 (a := 1) rfl
  have a2 := lv_neT h2 (a := 2) rfl
  have a3 := lv_neT h3 (a := 3) rfl
  have a4 := lv_neT h4 (a := 4) rfl
  have a5 := lv_neT h5 (a := 5) rfl
  have a6 := lv_neT h6 (a := 6) rfl
  omega
theorem sw_out8 {x : Int32} (h0 : ¬ x = 0) (h1 : ¬ x = 1) (h2 : ¬ x = 2) (h3 : ¬ x = 3) (h4 : ¬ x = 4) (h5 : ¬ x = 5) (h6 : ¬ x = 6) (h7 : ¬ x = 7) (h8 : ¬ x = 8) : x.toInt < 0 ∨ 8 < x.toInt := by
  have a0 := lv_neT h0 (a := 0) rfl
  have a1 := lv_neT h1 (a := 1) rfl
  have a2 := lv_neT h2 (a := 2) rfl
  have a3 := lv_neT h3 (a := 3) rfl
  have a4 := lv_neT h4 (a := 4) rfl
  have a5 := lv_neT h5 (a := 5) rfl
  have a6 := lv_neT h6 (a := 6) rfl
  have a7 := lv_neT h7 (a := 7) rfl
  have a8 := lv_neT h8 (a := 8) rfl
  omega
end
section
theorem ne_oo {G : gH} {a b ci cj : Nat} {fs gs : List Value} (h1 : G a = some (.inr (ci, fs))) (h2 : G b = some (.inr (cj, gs))) (h : ci ≠ cj) : a ≠ b := by
  intro q; subst q; rw [h1] at h2; cases h2; exact h rfl
theorem ne_oa {G : gH} {a b : Nat} {x : Nat × List Value} {y : ClassId × vp_A} (h1 : G a = some (.inr x)) (h2 : G b = some (.inl y)) : a ≠ b := by
  intro q; subst q; rw [h1] at h2; cases h2
theorem ne_ao {G : gH} {a b : Nat} {x : Nat × List Value} {y : ClassId × vp_A} (h1 : G a = some (.inl y)) (h2 : G b = some (.inr x)) : a ≠ b := by
  intro q; subst q; rw [h1] at h2; cases h2
theorem ne_none {G : gH} {a b : Nat} {e : va_E} (h1 : G a = some e) (h2 : G b = none) : a ≠ b := by
  intro q; subst q; rw [h1] at h2; cases h2
theorem nar_q (C : String) (r : Option Nat) : narrow (.object C) (va_rf r) = va_rf r := by cases r <;> rfl
theorem fit_q (C : String) (r : Option Nat) : fits (.object C) (va_rf r) = true := by cases r <;> rfl
section QR
variable {p : Program} {l : Launch} {e : Env} {R : Room} {s : State} {m : MethodId} {args : Array Value} {below : List Frame} {meth : Method} {c : Code} {H : Heap} {locs : List Loc} {cells slots : Nat} {Q : State → Prop}
variable {cc : ByteArray} {pc : Nat} {ls : Array Slot} {rest : List Value}
theorem lv_aload_nQ (hexec : p.tables.exec = Jvm.exec) (hb : c.code = cc) {k : Fin 4} {i : Nat} {x : Option Nat} (hdg : decode cc pc = .ok (.aload_n k, 1)) (hi : (k : Nat) = i) (hl : ls[i]? = some (.val (va_rf x)))
    (kk : W p l e R s m args below meth c H locs cells slots Q (F0 m (pc + 1) ls (va_rf x :: rest))) : W p l e R s m args below meth c H locs cells slots Q (F0 m pc ls rest) := by
  cases x with
  | none => exact lv_aload_nN hexec hb hdg hi hl kk
  | some a => exact lv_aload_n hexec hb hdg hi hl kk
theorem lv_aloadQ (hexec : p.tables.exec = Jvm.exec) (hb : c.code = cc) {i : Nat} {x : Option Nat} (hdg : decode cc pc = .ok (.aload i, 2)) (hl : ls[i]? = some (.val (va_rf x)))
    (kk : W p l e R s m args below meth c H locs cells slots Q (F0 m (pc + 2) ls (va_rf x :: rest))) : W p l e R s m args below meth c H locs cells slots Q (F0 m pc ls rest) := by
  cases x with
  | none => exact lv_aloadN hexec hb hdg hl kk
  | some a => exact lv_aload hexec hb hdg hl kk
theorem catq (x : Option Nat) : (va_rf x).category = 1 := by cases x <;> rfl
theorem lv_astore_nQ (hexec : p.tables.exec = Jvm.exec) (hb : c.code = cc) {k : Fin 4} {i nL : Nat} {x : Option Nat} {lv lv' : List (Nat × Value)} (hdg : decode cc pc = .ok (.astore_n k, 1)) (hi : (k : Nat) = i) (h : lv_has ls nL lv) (hn : i < nL) (hl : (i, va_rf x) :: lv.filter (fun q => !(q.1 == i) && !(q.1 + 1 == i && q.2.category == 2)) = lv')
    (kk : ∀ ls' : Array Slot, lv_has ls' nL lv' → W p l e R s m args below meth c H locs cells slots Q (F0 m (pc + 1) ls' rest)) : W p l e R s m args below meth c H locs cells slots Q (F0 m pc ls (va_rf x :: rest)) := by
  cases x with
  | none => exact lv_astore_nN hexec hb hdg hi h hn hl kk
  | some a => exact lv_astore_n hexec hb hdg hi h hn hl kk
theorem lv_astoreQ (hexec : p.tables.exec = Jvm.exec) (hb : c.code = cc) {i nL : Nat} {x : Option Nat} {lv lv' : List (Nat × Value)} (hdg : decode cc pc = .ok (.astore i, 2)) (h : lv_has ls nL lv) (hn : i < nL) (hl : (i, va_rf x) :: lv.filter (fun q => !(q.1 == i) && !(q.1 + 1 == i && q.2.category == 2)) = lv')
    (kk : ∀ ls' : Array Slot, lv_has ls' nL lv' → W p l e R s m args below meth c H locs cells slots Q (F0 m (pc + 2) ls' rest)) : W p l e R s m args below meth c H locs cells slots Q (F0 m pc ls (va_rf x :: rest)) := by
  cases x with
  | none => exact lv_astoreN hexec hb hdg h hn hl kk
  | some a => exact lv_astore hexec hb hdg h hn hl kk
end QR
/-! pure: the class's own small functions -/
def groOf (so : Int32) : Int32 := if so = 0 then 30 else if so = 1 then 20 else 10
def divUp (a k : Int32) : Int32 := if k ≤ 0 then 0 else (a + k - 1) / k
def absOf (x : Int32) : Int32 := if 0 ≤ x then x else 0 - x
def minOf (x y : Int32) : Int32 := if y < x then y else x
def maxOf (x y : Int32) : Int32 := if x < y then y else x
end
section
def rem32 (x y : Int32) : Int32 := x - x / y * y
def hsB (c : Nat → Int32) (h : Int32) : Bool := inB h 0 (c 7 - 1)
def yrB (c : Nat → Int32) (y : Int32) : Bool := inB y 0 (c 0 / 52)
def lawN (S : Nat → Nat → Int32) (y : Int32) : Nat → Int32
  | 0 => -1
  | k + 1 => if S 15 k ≤ y ∧ (lawN S y k = -1 ∨ S 15 (tn (lawN S y k)) ≤ S 15 k) then nI k else lawN S y k
def lawOf (c : Nat → Int32) (S : Nat → Nat → Int32) (y : Int32) : Int32 := lawN S y (tn (c 18))
def coinOf (c : Nat → Int32) (S : Nat → Nat → Int32) : Int32 := if lawOf c S (c 0 / 52) = -1 then 0 else S 17 (tn (lawOf c S (c 0 / 52)))
def lstB (S : Nat → Nat → Int32) (h y : Int32) : Bool := decide (S 7 (tn h) < 52 * y)
def lisN (S : Nat → Nat → Int32) (h y w : Int32) : Nat → Int32
  | 0 => if w = 0 then S 8 (tn h) else S 9 (tn h)
  | k + 1 => if S 10 k = h ∧ S 12 k < 52 * y then (if w = 0 then S 13 k else S 14 k) else lisN S h y w k
def lisOf (c : Nat → Int32) (S : Nat → Nat → Int32) (h y w : Int32) : Int32 := lisN S h y w (tn (c 12))
def truN (S : Nat → Nat → Int32) (h w : Int32) : Nat → Int32 × Int32
  | 0 => (S 7 (tn h), S 9 (tn h))
  | k + 1 => if S 10 k = h ∧ S 11 k ≤ w ∧ (truN S h w k).1 ≤ S 11 k then (S 11 k, S 14 k) else truN S h w k
def truOf (c : Nat → Int32) (S : Nat → Nat → Int32) (h w : Int32) : Int32 := if w < S 7 (tn h) then 0 else (truN S h w (tn (c 12))).2
def vilN (c : Nat → Int32) (S : Nat → Nat → Int32) (v w : Int32) : Nat → Int32
  | 0 => 0
  | k + 1 => vilN c S v w k + (if S 6 k = v then truOf c S (nI k) w else 0)
def vilOf (c : Nat → Int32) (S : Nat → Nat → Int32) (v w : Int32) : Int32 := vilN c S v w (tn (c 7))
def oweL (c : Nat → Int32) (S : Nat → Nat → Int32) (h y b : Int32) : Int32 := if lisOf c S h y 0 < rem32 (S 16 (tn b)) 1000 then 0 else lisOf c S h y 0 / 10 * (S 16 (tn b) / 10000) + lisOf c S h y 1 * rem32 (S 16 (tn b) / 1000) 10
def oweOf (c : Nat → Int32) (S : Nat → Nat → Int32) (h y : Int32) : Int32 := if lawOf c S y = -1 then 0 else if lstB S h y = false then 0 else oweL c S h y (lawOf c S y)
def yet0 (c : Nat → Int32) (S : Nat → Nat → Int32) (h y : Int32) : Int32 := oweOf c S h y - S 18 (tn (21 * h + y)) - S 19 (tn (21 * h + y)) - S 20 (tn (21 * h + y))
def yetOf (c : Nat → Int32) (S : Nat → Nat → Int32) (h y : Int32) : Int32 := if yet0 c S h y ≤ 0 then 0 else yet0 c S h y
def perOf (S : Nat → Nat → Int32) (r : Int32) : Int32 := if S 2 (tn r) = 0 then 30 else if S 2 (tn r) = 1 then 20 else 10
def needOf (S : Nat → Nat → Int32) (r lv : Int32) : Int32 := if lv - S 1 (tn r) ≤ 0 then 0 else (lv - S 1 (tn r) + perOf S r - 1) / perOf S r
def hrsOf (a b k : Int32) : Int32 := if a < b then (b - a + k - 1) / k else (a - b + k - 1) / k
theorem perOf_ne (S : Nat → Nat → Int32) (r : Int32) : ¬ perOf S r = 0 := by
  unfold perOf
  by_cases h1 : S 2 (tn r) = 0
  · simp [h1]
  · by_cases h2 : S 2 (tn r) = 1 <;> simp [h1, h2]
theorem hsB_lt {c : Nat → Int32} {S : Nat → Nat → Int32} {h : Int32} (hI : mI c S) (hh : hsB c h = true) : 0 ≤ h.toInt ∧ h.toInt < (c 7).toInt := by
  have h1 := inB_i hh
  have h2 := hI.2.1
  have h3 : (c 7 - 1).toInt = (c 7).toInt - 1 := by rw [fb_subI] <;> (show _; have : (1 : Int32).toInt = 1 := rfl; omega)
  have h4 : (0 : Int32).toInt = 0 := rfl
  omega
theorem hsB_vp {c : Nat → Int32} {S : Nat → Nat → Int32} {h : Int32} (hI : mI c S) (hh : hsB c h = true) : vp_in h 40 := by
  have h1 := hsB_lt hI hh
  have h2 := hI.2.1
  exact vp_in_iff.mpr ⟨by omega, by omega⟩
theorem lawN_in (S : Nat → Nat → Int32) (y : Int32) : ∀ k, k < 2 ^ 31 → lawN S y k = -1 ∨ (0 ≤ (lawN S y k).toInt ∧ (lawN S y k).toInt < k)
  | 0, _ => Or.inl rfl
  | k + 1, hk => by
    have ih := lawN_in S y k (by omega)
    unfold lawN
    split
    · right; rw [nI_toInt (by omega)]; omega
    · rcases ih with h | h
      · exact Or.inl h
      · exact Or.inr (by omega)
theorem lawOf_vp {c : Nat → Int32} {S : Nat → Nat → Int32} {y : Int32} (hI : mI c S) (h : ¬ lawOf c S y = -1) : vp_in (lawOf c S y) 40 := by
  have h2 := hI.2.2.2.1
  have h3 := tn_of h2.1
  rcases lawN_in S y (tn (c 18)) (by omega) with h1 | h1
  · exact absurd h1 h
  · exact vp_in_iff.mpr ⟨h1.1, by have := h1.2; unfold lawOf; omega⟩

set_option maxHeartbeats 4000000 in
set_option maxRecDepth 100000 in
theorem kX9_in (l : Launch) (E : gT) (A : Nat → Prop) (n : Nat) (G : gH) (v lo hi : Int32)  : gM l yX9_in wsX9_in ({ frames := 0, cells := 0, slots := 0, locals := 0 } : Room) E A n G [.int v, .int lo, .int hi] (gQi E A (fun r' n' G' => gb (inB v lo hi) = r' ∧ n = n' ∧ G = G')) 0 0 := by
  refine g_entry (by decide) rfl (Nat.le_of_ble_eq_true rfl) ?_
  intro p e s m below meth c0 hx hb hr hlk hml hown hnm hts hK H locs ls hP hS hl
  have hl : lv_has ls 3 [(0, .int v), (1, .int lo), (2, .int hi)] := hl
  refine lv_iload_n hx hb dX9_in_0 rfl (lv_at hl 0 rfl) ?_
  refine lv_iload_n hx hb dX9_in_1 rfl (lv_at hl 1 rfl) ?_
  refine lv_icmp_lt (tgt := 14) hx hb dX9_in_2 (by decide) (fun b2 => ?_) (fun b2 => ?_)
  · refine lv_iconst (v := 0) hx hb dX9_in_14 (by decide) ?_
    refine g_retz hx hb hr hlk hP hS dX9_in_15 rfl ?_
    exact ⟨by simp [inB, gb, b2, Int32.not_le.mpr b2], rfl, rfl⟩
  · refine lv_iload_n hx hb dX9_in_5 rfl (lv_at hl 0 rfl) ?_
    refine lv_iload_n hx hb dX9_in_6 rfl (lv_at hl 2 rfl) ?_
    refine lv_icmp_gt (tgt := 14) hx hb dX9_in_7 (by decide) (fun b7 => ?_) (fun b7 => ?_)
    · refine lv_iconst (v := 0) hx hb dX9_in_14 (by decide) ?_
      refine g_retz hx hb hr hlk hP hS dX9_in_15 rfl ?_
      exact ⟨by simp [inB, gb, b2, Int32.not_lt.mp b2, b7, Int32.not_le.mpr b7], rfl, rfl⟩
    · refine lv_iconst (v := 1) hx hb dX9_in_10 (by decide) ?_
      refine lv_goto (tgt := 15) hx hb dX9_in_11 (by decide) ?_
      refine g_retz hx hb hr hlk hP hS dX9_in_15 rfl ?_
      exact ⟨by simp [inB, gb, b2, Int32.not_lt.mp b2, b7, Int32.not_lt.mp b7], rfl, rfl⟩
set_option maxHeartbeats 4000000 in
set_option maxRecDepth 100000 in
theorem kX9_isVillage (l : Launch) (E : gT) (A : Nat → Prop) (n : Nat) (G : gH) (v : Int32)  : gM l yX9_isVillage wsX9_isVillage ({ frames := 1, cells := 0, slots := 0, locals := 22 } : Room) E A n G [.int v] (gQi E A (fun r' n' G' => gb (inB v 0 7) = r' ∧ n = n' ∧ G = G')) 0 0 := by
  refine g_entry (by decide) rfl (Nat.le_of_ble_eq_true rfl) ?_
  intro p e s m below meth c0 hx hb hr hlk hml hown hnm hts hK H locs ls hP hS hl
  have hl : lv_has ls 1 [(0, .int v)] := hl
  refine lv_iload_n hx hb dX9_isVillage_0 rfl (lv_at hl 0 rfl) ?_
  refine lv_iconst (v := 0) hx hb dX9_isVillage_1 (by decide) ?_
  refine lv_bipush (v := 7) hx hb dX9_isVillage_2 (by decide) ?_
  refine g_ci (g_runS (As := [.int v, .int 0, .int 7]) (rest := []) ⟨hx, hb, hml, hown, hts⟩ hK hP (kX9_in l E A n G v 0 7) (va_cwS 3 hts gX9_isVillage_X9_in rfl rfl rfl (by decide +kernel) ⟨Nat.le_of_ble_eq_true rfl, Nat.le_of_ble_eq_true rfl⟩) rfl hl.1 rfl (Nat.le_of_ble_eq_true rfl) dX9_isVillage_4 ⟨Nat.le_of_ble_eq_true rfl, Nat.le_of_ble_eq_true rfl⟩) hS (fun r4 n' G' H locs hw hP hS => ?_)
  obtain ⟨rfl, rfl, rfl⟩ := hw
  refine g_retz hx hb hr hlk hP hS dX9_isVillage_7 (gb_nar _) ?_
  exact ⟨rfl, rfl, rfl⟩
set_option maxHeartbeats 4000000 in
set_option maxRecDepth 100000 in
theorem kX9_isRod (l : Launch) (E : gT) (A : Nat → Prop) (n : Nat) (G : gH) (v : Int32)  : gM l yX9_isRod wsX9_isRod ({ frames := 1, cells := 0, slots := 0, locals := 22 } : Room) E A n G [.int v] (gQi E A (fun r' n' G' => gb (inB v 0 29) = r' ∧ n = n' ∧ G = G')) 0 0 := by
  refine g_entry (by decide) rfl (Nat.le_of_ble_eq_true rfl) ?_
  intro p e s m below meth c0 hx hb hr hlk hml hown hnm hts hK H locs ls hP hS hl
  have hl : lv_has ls 1 [(0, .int v)] := hl
  refine lv_iload_n hx hb dX9_isRod_0 rfl (lv_at hl 0 rfl) ?_
  refine lv_iconst (v := 0) hx hb dX9_isRod_1 (by decide) ?_
  refine lv_bipush (v := 29) hx hb dX9_isRod_2 (by decide) ?_
  refine g_ci (g_runS (As := [.int v, .int 0, .int 29]) (rest := []) ⟨hx, hb, hml, hown, hts⟩ hK hP (kX9_in l E A n G v 0 29) (va_cwS 3 hts gX9_isRod_X9_in rfl rfl rfl (by decide +kernel) ⟨Nat.le_of_ble_eq_true rfl, Nat.le_of_ble_eq_true rfl⟩) rfl hl.1 rfl (Nat.le_of_ble_eq_true rfl) dX9_isRod_4 ⟨Nat.le_of_ble_eq_true rfl, Nat.le_of_ble_eq_true rfl⟩) hS (fun r4 n' G' H locs hw hP hS => ?_)
  obtain ⟨rfl, rfl, rfl⟩ := hw
  refine g_retz hx hb hr hlk hP hS dX9_isRod_7 (gb_nar _) ?_
  exact ⟨rfl, rfl, rfl⟩
set_option maxHeartbeats 4000000 in
set_option maxRecDepth 100000 in
theorem kX9_isHouse (l : Launch) (E : gT) (A : Nat → Prop) (n : Nat) (o : Nat) (c : Nat → Int32) (S : Nat → Nat → Int32) (v : Int32)  : gM l yX9_isHouse wsX9_isHouse ({ frames := 1, cells := 0, slots := 0, locals := 22 } : Room) E A n (GM E o c S) [.ref o, .int v] (gQi E A (fun r' n' G' => gb (hsB c v) = r' ∧ n = n' ∧ (GM E o c S) = G')) 0 0 := by
  refine g_entry (by decide) rfl (Nat.le_of_ble_eq_true rfl) ?_
  intro p e s m below meth c0 hx hb hr hlk hml hown hnm hts hK H locs ls hP hS hl
  have hin9 : ∀ w ∈ u_ws RX9 TX9 35, w ∈ wsX9_isHouse := by decide +kernel
  have hf92 := hts (.fieldLink RX9 92 "DikeHandsModel" "houses" "I") (by decide +kernel)
  have hl : lv_has ls 2 [(0, .ref o), (1, .int v)] := hl
  refine lv_iload_n hx hb dX9_isHouse_0 rfl (lv_at hl 1 rfl) ?_
  refine lv_iconst (v := 0) hx hb dX9_isHouse_1 (by decide) ?_
  refine lv_aload_n hx hb dX9_isHouse_2 rfl (lv_at hl 0 rfl) ?_
  refine m_get hx hb hts hin9 hown hK hP 7 (by decide) hf92 rfl rfl dX9_isHouse_3 ?_
  refine lv_iconst (v := 1) hx hb dX9_isHouse_6 (by decide) ?_
  refine lv_isub hx hb dX9_isHouse_7 ?_
  refine g_ci (g_runS (As := [.int v, .int 0, .int ((c 7) - 1)]) (rest := []) ⟨hx, hb, hml, hown, hts⟩ hK hP (kX9_in l E A n (GM E o c S) v 0 ((c 7) - 1)) (va_cwS 3 hts gX9_isHouse_X9_in rfl rfl rfl (by decide +kernel) ⟨Nat.le_of_ble_eq_true rfl, Nat.le_of_ble_eq_true rfl⟩) rfl hl.1 rfl (Nat.le_of_ble_eq_true rfl) dX9_isHouse_8 ⟨Nat.le_of_ble_eq_true rfl, Nat.le_of_ble_eq_true rfl⟩) hS (fun r8 n' G' H locs hw hP hS => ?_)
  obtain ⟨rfl, rfl, rfl⟩ := hw
  refine g_retz hx hb hr hlk hP hS dX9_isHouse_11 (gb_nar _) ?_
  exact ⟨rfl, rfl, rfl⟩
set_option maxHeartbeats 4000000 in
set_option maxRecDepth 100000 in
theorem kX9_isYear (l : Launch) (E : gT) (A : Nat → Prop) (n : Nat) (o : Nat) (c : Nat → Int32) (S : Nat → Nat → Int32) (v : Int32)  : gM l yX9_isYear wsX9_isYear ({ frames := 1, cells := 0, slots := 0, locals := 22 } : Room) E A n (GM E o c S) [.ref o, .int v] (gQi E A (fun r' n' G' => gb (yrB c v) = r' ∧ n = n' ∧ (GM E o c S) = G')) 0 0 := by
  refine g_entry (by decide) rfl (Nat.le_of_ble_eq_true rfl) ?_
  intro p e s m below meth c0 hx hb hr hlk hml hown hnm hts hK H locs ls hP hS hl
  have hin9 : ∀ w ∈ u_ws RX9 TX9 35, w ∈ wsX9_isYear := by decide +kernel
  have hf96 := hts (.fieldLink RX9 96 "DikeHandsModel" "now" "I") (by decide +kernel)
  have hl : lv_has ls 2 [(0, .ref o), (1, .int v)] := hl
  refine lv_iload_n hx hb dX9_isYear_0 rfl (lv_at hl 1 rfl) ?_
  refine lv_iconst (v := 0) hx hb dX9_isYear_1 (by decide) ?_
  refine lv_aload_n hx hb dX9_isYear_2 rfl (lv_at hl 0 rfl) ?_
  refine m_get hx hb hts hin9 hown hK hP 0 (by decide) hf96 rfl rfl dX9_isYear_3 ?_
  refine lv_bipush (v := 52) hx hb dX9_isYear_6 (by decide) ?_
  refine lv_idiv hx hb dX9_isYear_8 (by decide) ?_
  refine g_ci (g_runS (As := [.int v, .int 0, .int ((c 0) / 52)]) (rest := []) ⟨hx, hb, hml, hown, hts⟩ hK hP (kX9_in l E A n (GM E o c S) v 0 ((c 0) / 52)) (va_cwS 3 hts gX9_isYear_X9_in rfl rfl rfl (by decide +kernel) ⟨Nat.le_of_ble_eq_true rfl, Nat.le_of_ble_eq_true rfl⟩) rfl hl.1 rfl (Nat.le_of_ble_eq_true rfl) dX9_isYear_9 ⟨Nat.le_of_ble_eq_true rfl, Nat.le_of_ble_eq_true rfl⟩) hS (fun r9 n' G' H locs hw hP hS => ?_)
  obtain ⟨rfl, rfl, rfl⟩ := hw
  refine g_retz hx hb hr hlk hP hS dX9_isYear_12 (gb_nar _) ?_
  exact ⟨rfl, rfl, rfl⟩
set_option maxHeartbeats 4000000 in
set_option maxRecDepth 100000 in
theorem kX9_isPlan (l : Launch) (E : gT) (A : Nat → Prop) (n : Nat) (G : gH) (a b : Int32)  : gM l yX9_isPlan wsX9_isPlan ({ frames := 1, cells := 0, slots := 0, locals := 22 } : Room) E A n G [.int a, .int b] (gQi E A (fun r' n' G' => gb (inB a 0 300 && inB b 0 3000) = r' ∧ n = n' ∧ G = G')) 0 0 := by
  refine g_entry (by decide) rfl (Nat.le_of_ble_eq_true rfl) ?_
  intro p e s m below meth c0 hx hb hr hlk hml hown hnm hts hK H locs ls hP hS hl
  have hl : lv_has ls 2 [(0, .int a), (1, .int b)] := hl
  refine lv_iload_n hx hb dX9_isPlan_0 rfl (lv_at hl 0 rfl) ?_
  refine lv_iconst (v := 0) hx hb dX9_isPlan_1 (by decide) ?_
  refine lv_sipush (v := 300) hx hb dX9_isPlan_2 (by decide) ?_
  refine g_ci (g_runS (As := [.int a, .int 0, .int 300]) (rest := []) ⟨hx, hb, hml, hown, hts⟩ hK hP (kX9_in l E A n G a 0 300) (va_cwS 3 hts gX9_isPlan_X9_in rfl rfl rfl (by decide +kernel) ⟨Nat.le_of_ble_eq_true rfl, Nat.le_of_ble_eq_true rfl⟩) rfl hl.1 rfl (Nat.le_of_ble_eq_true rfl) dX9_isPlan_5 ⟨Nat.le_of_ble_eq_true rfl, Nat.le_of_ble_eq_true rfl⟩) hS (fun r5 n' G' H locs hw hP hS => ?_)
  obtain ⟨rfl, rfl, rfl⟩ := hw
  refine g_ifeq (tgt := 26) hx hb dX9_isPlan_8 (by decide) (fun b8 => ?_) (fun b8 => ?_)
  · refine lv_iconst (v := 0) hx hb dX9_isPlan_26 (by decide) ?_
    refine g_retz hx hb hr hlk hP hS dX9_isPlan_27 rfl ?_
    exact ⟨by simp [gb, b8], rfl, rfl⟩
  · refine lv_iload_n hx hb dX9_isPlan_11 rfl (lv_at hl 1 rfl) ?_
    refine lv_iconst (v := 0) hx hb dX9_isPlan_12 (by decide) ?_
    refine lv_sipush (v := 3000) hx hb dX9_isPlan_13 (by decide) ?_
    refine g_ci (g_runS (As := [.int b, .int 0, .int 3000]) (rest := []) ⟨hx, hb, hml, hown, hts⟩ hK hP (kX9_in l E A n G b 0 3000) (va_cwS 3 hts gX9_isPlan_X9_in rfl rfl rfl (by decide +kernel) ⟨Nat.le_of_ble_eq_true rfl, Nat.le_of_ble_eq_true rfl⟩) rfl hl.1 rfl (Nat.le_of_ble_eq_true rfl) dX9_isPlan_16 ⟨Nat.le_of_ble_eq_true rfl, Nat.le_of_ble_eq_true rfl⟩) hS (fun r16 n' G' H locs hw hP hS => ?_)
    obtain ⟨rfl, rfl, rfl⟩ := hw
    refine g_ifeq (tgt := 26) hx hb dX9_isPlan_19 (by decide) (fun b19 => ?_) (fun b19 => ?_)
    · refine lv_iconst (v := 0) hx hb dX9_isPlan_26 (by decide) ?_
      refine g_retz hx hb hr hlk hP hS dX9_isPlan_27 rfl ?_
      exact ⟨by simp [gb, b8, b19], rfl, rfl⟩
    · refine lv_iconst (v := 1) hx hb dX9_isPlan_22 (by decide) ?_
      refine lv_goto (tgt := 27) hx hb dX9_isPlan_23 (by decide) ?_
      refine g_retz hx hb hr hlk hP hS dX9_isPlan_27 rfl ?_
      exact ⟨by simp [gb, b8, b19], rfl, rfl⟩
set_option maxHeartbeats 4000000 in
set_option maxRecDepth 100000 in
theorem kX9_hours (l : Launch) (E : gT) (A : Nat → Prop) (n : Nat) (G : gH) (a b k : Int32) (hk : ¬ k = 0) : gM l yX9_hours wsX9_hours ({ frames := 0, cells := 0, slots := 0, locals := 0 } : Room) E A n G [.int a, .int b, .int k] (gQi E A (fun r' n' G' => hrsOf a b k = r' ∧ n = n' ∧ G = G')) 0 0 := by
  refine g_entry (by decide) rfl (Nat.le_of_ble_eq_true rfl) ?_
  intro p e s m below meth c0 hx hb hr hlk hml hown hnm hts hK H locs ls hP hS hl
  have hl : lv_has ls 4 [(0, .int a), (1, .int b), (2, .int k)] := hl
  refine lv_iload_n hx hb dX9_hours_0 rfl (lv_at hl 0 rfl) ?_
  refine lv_iload_n hx hb dX9_hours_1 rfl (lv_at hl 1 rfl) ?_
  refine lv_icmp_ge (tgt := 11) hx hb dX9_hours_2 (by decide) (fun b2 => ?_) (fun b2 => ?_)
  · refine lv_iload_n hx hb dX9_hours_11 rfl (lv_at hl 0 rfl) ?_
    refine lv_iload_n hx hb dX9_hours_12 rfl (lv_at hl 1 rfl) ?_
    refine lv_isub hx hb dX9_hours_13 ?_
    refine lv_istore_n (lv' := [(3, .int (a - b)), (0, .int a), (1, .int b), (2, .int k)]) hx hb dX9_hours_14 rfl hl (by decide) rfl (fun ls hl => ?_)
    refine lv_iload_n hx hb dX9_hours_15 rfl (lv_at hl 0 rfl) ?_
    refine lv_iload_n hx hb dX9_hours_16 rfl (lv_at hl 3 rfl) ?_
    refine lv_iadd hx hb dX9_hours_17 ?_
    refine lv_iconst (v := 1) hx hb dX9_hours_18 (by decide) ?_
    refine lv_isub hx hb dX9_hours_19 ?_
    refine lv_iload_n hx hb dX9_hours_20 rfl (lv_at hl 3 rfl) ?_
    refine lv_idiv hx hb dX9_hours_21 hk ?_
    refine g_reti hx hb hr hlk hP hS dX9_hours_22 ?_
    exact ⟨by simp [hrsOf, b2, Int32.not_lt.mpr b2], rfl, rfl⟩
  · refine lv_iload_n hx hb dX9_hours_5 rfl (lv_at hl 1 rfl) ?_
    refine lv_iload_n hx hb dX9_hours_6 rfl (lv_at hl 0 rfl) ?_
    refine lv_isub hx hb dX9_hours_7 ?_
    refine lv_goto (tgt := 14) hx hb dX9_hours_8 (by decide) ?_
    refine lv_istore_n (lv' := [(3, .int (b - a)), (0, .int a), (1, .int b), (2, .int k)]) hx hb dX9_hours_14 rfl hl (by decide) rfl (fun ls hl => ?_)
    refine lv_iload_n hx hb dX9_hours_15 rfl (lv_at hl 0 rfl) ?_
    refine lv_iload_n hx hb dX9_hours_16 rfl (lv_at hl 3 rfl) ?_
    refine lv_iadd hx hb dX9_hours_17 ?_
    refine lv_iconst (v := 1) hx hb dX9_hours_18 (by decide) ?_
    refine lv_isub hx hb dX9_hours_19 ?_
    refine lv_iload_n hx hb dX9_hours_20 rfl (lv_at hl 3 rfl) ?_
    refine lv_idiv hx hb dX9_hours_21 hk ?_
    refine g_reti hx hb hr hlk hP hS dX9_hours_22 ?_
    exact ⟨by simp [hrsOf, b2, Int32.not_le.mp b2], rfl, rfl⟩
set_option maxHeartbeats 4000000 in
set_option maxRecDepth 100000 in
theorem kX9_isListed (l : Launch) (E : gT) (A : Nat → Prop) (n : Nat) (o : Nat) (c : Nat → Int32) (S : Nat → Nat → Int32) (h y : Int32) (hh : vp_in h 40) : gM l yX9_isListed wsX9_isListed ({ frames := 0, cells := 0, slots := 0, locals := 0 } : Room) E A n (GM E o c S) [.ref o, .int h, .int y] (gQi E A (fun r' n' G' => gb (lstB S h y) = r' ∧ n = n' ∧ (GM E o c S) = G')) 0 0 := by
  refine g_entry (by decide) rfl (Nat.le_of_ble_eq_true rfl) ?_
  intro p e s m below meth c0 hx hb hr hlk hml hown hnm hts hK H locs ls hP hS hl
  have hin9 : ∀ w ∈ u_ws RX9 TX9 35, w ∈ wsX9_isListed := by decide +kernel
  have hf31 := hts (.fieldLink RX9 31 "DikeHandsModel" "came" "[I") (by decide +kernel)
  have hl : lv_has ls 3 [(0, .ref o), (1, .int h), (2, .int y)] := hl
  refine lv_aload_n hx hb dX9_isListed_0 rfl (lv_at hl 0 rfl) ?_
  refine m_get hx hb hts hin9 hown hK hP 9 (by decide) hf31 rfl rfl dX9_isListed_1 ?_
  refine lv_iload_n hx hb dX9_isListed_4 rfl (lv_at hl 1 rfl) ?_
  refine m_iald hx hb hK hP 7 40 rfl (by decide) rfl hh dX9_isListed_5 ?_
  refine lv_bipush (v := 52) hx hb dX9_isListed_6 (by decide) ?_
  refine lv_iload_n hx hb dX9_isListed_8 rfl (lv_at hl 2 rfl) ?_
  refine lv_imul hx hb dX9_isListed_9 ?_
  refine lv_icmp_ge (tgt := 17) hx hb dX9_isListed_10 (by decide) (fun b10 => ?_) (fun b10 => ?_)
  · refine lv_iconst (v := 0) hx hb dX9_isListed_17 (by decide) ?_
    refine g_retz hx hb hr hlk hP hS dX9_isListed_18 rfl ?_
    exact ⟨by simp [lstB, gb, b10, Int32.not_lt.mpr b10], rfl, rfl⟩
  · refine lv_iconst (v := 1) hx hb dX9_isListed_13 (by decide) ?_
    refine lv_goto (tgt := 18) hx hb dX9_isListed_14 (by decide) ?_
    refine g_retz hx hb hr hlk hP hS dX9_isListed_18 rfl ?_
    exact ⟨by simp [lstB, gb, b10, Int32.not_le.mp b10], rfl, rfl⟩
set_option maxHeartbeats 4000000 in
set_option maxRecDepth 100000 in
theorem kX9_perDay (l : Launch) (E : gT) (A : Nat → Prop) (n : Nat) (o : Nat) (c : Nat → Int32) (S : Nat → Nat → Int32) (r : Int32) (hh : vp_in r 30) : gM l yX9_perDay wsX9_perDay ({ frames := 0, cells := 0, slots := 0, locals := 0 } : Room) E A n (GM E o c S) [.ref o, .int r] (gQi E A (fun r' n' G' => perOf S r = r' ∧ n = n' ∧ (GM E o c S) = G')) 0 0 := by
  refine g_entry (by decide) rfl (Nat.le_of_ble_eq_true rfl) ?_
  intro p e s m below meth c0 hx hb hr hlk hml hown hnm hts hK H locs ls hP hS hl
  have hin9 : ∀ w ∈ u_ws RX9 TX9 35, w ∈ wsX9_perDay := by decide +kernel
  have hf16 := hts (.fieldLink RX9 16 "DikeHandsModel" "soil" "[I") (by decide +kernel)
  have hl : lv_has ls 2 [(0, .ref o), (1, .int r)] := hl
  refine lv_aload_n hx hb dX9_perDay_0 rfl (lv_at hl 0 rfl) ?_
  refine m_get hx hb hts hin9 hown hK hP 3 (by decide) hf16 rfl rfl dX9_perDay_1 ?_
  refine lv_iload_n hx hb dX9_perDay_4 rfl (lv_at hl 1 rfl) ?_
  refine m_iald hx hb hK hP 2 30 rfl (by decide) rfl hh dX9_perDay_5 ?_
  refine lv_if_ne (tgt := 14) hx hb dX9_perDay_6 (by decide) (fun b6 => ?_) (fun b6 => ?_)
  · refine lv_aload_n hx hb dX9_perDay_14 rfl (lv_at hl 0 rfl) ?_
    refine m_get hx hb hts hin9 hown hK hP 3 (by decide) hf16 rfl rfl dX9_perDay_15 ?_
    refine lv_iload_n hx hb dX9_perDay_18 rfl (lv_at hl 1 rfl) ?_
    refine m_iald hx hb hK hP 2 30 rfl (by decide) rfl hh dX9_perDay_19 ?_
    refine lv_iconst (v := 1) hx hb dX9_perDay_20 (by decide) ?_
    refine lv_icmp_ne (tgt := 29) hx hb dX9_perDay_21 (by decide) (fun b21 => ?_) (fun b21 => ?_)
    · refine lv_bipush (v := 10) hx hb dX9_perDay_29 (by decide) ?_
      refine g_reti hx hb hr hlk hP hS dX9_perDay_31 ?_
      exact ⟨by simp [perOf, b6, b21], rfl, rfl⟩
    · refine lv_bipush (v := 20) hx hb dX9_perDay_24 (by decide) ?_
      refine lv_goto (tgt := 31) hx hb dX9_perDay_26 (by decide) ?_
      refine g_reti hx hb hr hlk hP hS dX9_perDay_31 ?_
      exact ⟨by simp [perOf, b6, b21], rfl, rfl⟩
  · refine lv_bipush (v := 30) hx hb dX9_perDay_9 (by decide) ?_
    refine lv_goto (tgt := 31) hx hb dX9_perDay_11 (by decide) ?_
    refine g_reti hx hb hr hlk hP hS dX9_perDay_31 ?_
    exact ⟨by simp [perOf, b6], rfl, rfl⟩
set_option maxHeartbeats 4000000 in
set_option maxRecDepth 100000 in
theorem kX9_needs (l : Launch) (E : gT) (A : Nat → Prop) (n : Nat) (o : Nat) (c : Nat → Int32) (S : Nat → Nat → Int32) (r lv : Int32) (hh : vp_in r 30) : gM l yX9_needs wsX9_needs ({ frames := 1, cells := 0, slots := 0, locals := 21 } : Room) E A n (GM E o c S) [.ref o, .int r, .int lv] (gQi E A (fun r' n' G' => needOf S r lv = r' ∧ n = n' ∧ (GM E o c S) = G')) 0 0 := by
  refine g_entry (by decide) rfl (Nat.le_of_ble_eq_true rfl) ?_
  intro p e s m below meth c0 hx hb hr hlk hml hown hnm hts hK H locs ls hP hS hl
  have hin9 : ∀ w ∈ u_ws RX9 TX9 35, w ∈ wsX9_needs := by decide +kernel
  have hf13 := hts (.fieldLink RX9 13 "DikeHandsModel" "height" "[I") (by decide +kernel)
  have hl : lv_has ls 4 [(0, .ref o), (1, .int r), (2, .int lv)] := hl
  refine lv_iload_n hx hb dX9_needs_0 rfl (lv_at hl 2 rfl) ?_
  refine lv_aload_n hx hb dX9_needs_1 rfl (lv_at hl 0 rfl) ?_
  refine m_get hx hb hts hin9 hown hK hP 2 (by decide) hf13 rfl rfl dX9_needs_2 ?_
  refine lv_iload_n hx hb dX9_needs_5 rfl (lv_at hl 1 rfl) ?_
  refine m_iald hx hb hK hP 1 30 rfl (by decide) rfl hh dX9_needs_6 ?_
  refine lv_isub hx hb dX9_needs_7 ?_
  refine lv_istore_n (lv' := [(3, .int (lv - (S 1 (tn r)))), (0, .ref o), (1, .int r), (2, .int lv)]) hx hb dX9_needs_8 rfl hl (by decide) rfl (fun ls hl => ?_)
  refine lv_iload_n hx hb dX9_needs_9 rfl (lv_at hl 0 rfl) ?_
  refine lv_if_gt (tgt := 17) hx hb dX9_needs_10 (by decide) (fun b10 => ?_) (fun b10 => ?_)
  · refine lv_iload_n hx hb dX9_needs_17 rfl (lv_at hl 0 rfl) ?_
    refine lv_aload_n hx hb dX9_needs_18 rfl (lv_at hl 1 rfl) ?_
    refine lv_iload_n hx hb dX9_needs_19 rfl (lv_at hl 2 rfl) ?_
    refine g_ci (g_runV (As := [.int r]) (rest := [.int (lv - (S 1 (tn r)))]) ⟨hx, hb, hml, hown, hts⟩ hK hP (kX9_perDay l E A n o c S r hh) (cwV 1 hts gX9_needs_X9_perDay rfl rfl rfl (by decide +kernel) ⟨Nat.le_of_ble_eq_true rfl, Nat.le_of_ble_eq_true rfl⟩) GM_o rfl rfl hl.1 rfl (Nat.le_of_ble_eq_true rfl) dX9_needs_20 ⟨Nat.le_of_ble_eq_true rfl, Nat.le_of_ble_eq_true rfl⟩) hS (fun r20 n' G' H locs hw hP hS => ?_)
    obtain ⟨rfl, rfl, rfl⟩ := hw
    refine lv_iadd hx hb dX9_needs_23 ?_
    refine lv_iconst (v := 1) hx hb dX9_needs_24 (by decide) ?_
    refine lv_isub hx hb dX9_needs_25 ?_
    refine lv_aload_n hx hb dX9_needs_26 rfl (lv_at hl 1 rfl) ?_
    refine lv_iload_n hx hb dX9_needs_27 rfl (lv_at hl 2 rfl) ?_
    refine g_ci (g_runV (As := [.int r]) (rest := [.int (((lv - (S 1 (tn r))) + (perOf S r)) - 1)]) ⟨hx, hb, hml, hown, hts⟩ hK hP (kX9_perDay l E A n o c S r hh) (cwV 1 hts gX9_needs_X9_perDay rfl rfl rfl (by decide +kernel) ⟨Nat.le_of_ble_eq_true rfl, Nat.le_of_ble_eq_true rfl⟩) GM_o rfl rfl hl.1 rfl (Nat.le_of_ble_eq_true rfl) dX9_needs_28 ⟨Nat.le_of_ble_eq_true rfl, Nat.le_of_ble_eq_true rfl⟩) hS (fun r28 n' G' H locs hw hP hS => ?_)
    obtain ⟨rfl, rfl, rfl⟩ := hw
    refine lv_idiv hx hb dX9_needs_31 (perOf_ne _ _) ?_
    refine g_reti hx hb hr hlk hP hS dX9_needs_32 ?_
    exact ⟨by simp [needOf, b10, Int32.not_le.mpr b10], rfl, rfl⟩
  · refine lv_iconst (v := 0) hx hb dX9_needs_13 (by decide) ?_
    refine lv_goto (tgt := 32) hx hb dX9_needs_14 (by decide) ?_
    refine g_reti hx hb hr hlk hP hS dX9_needs_32 ?_
    exact ⟨by simp [needOf, b10, Int32.not_lt.mp b10], rfl, rfl⟩
end
section
set_option maxHeartbeats 4000000 in
set_option maxRecDepth 100000 in
theorem kX9_lawOf (l : Launch) (E : gT) (A : Nat → Prop) (n : Nat) (o : Nat) (c : Nat → Int32) (S : Nat → Nat → Int32) (y : Int32) (hI : mI c S) : gM l yX9_lawOf wsX9_lawOf ({ frames := 0, cells := 0, slots := 0, locals := 0 } : Room) E A n (GM E o c S) [.ref o, .int y] (gQi E A (fun r' n' G' => lawOf c S y = r' ∧ n = n' ∧ (GM E o c S) = G')) 0 0 := by
  refine g_entry (by decide) rfl (Nat.le_of_ble_eq_true rfl) ?_
  intro p e s m below meth c0 hx hb hr hlk hml hown hnm hts hK H locs ls hP hS hl
  have hin9 : ∀ w ∈ u_ws RX9 TX9 35, w ∈ wsX9_lawOf := by decide +kernel
  have hf55 := hts (.fieldLink RX9 55 "DikeHandsModel" "lawYear" "[I") (by decide +kernel)
  have hf106 := hts (.fieldLink RX9 106 "DikeHandsModel" "laws" "I") (by decide +kernel)
  have hl : lv_has ls 4 [(0, .ref o), (1, .int y)] := hl
  have j0 := hI.1
  have j7 := hI.2.1
  have j12 := hI.2.2.1
  have j18 := hI.2.2.2.1
  have t0_ := tn_of j0.1
  have t7_ := tn_of j7.1
  have t12_ := tn_of j12.1
  have t18_ := tn_of j18.1
  refine lv_iconst (v := (-1)) hx hb dX9_lawOf_0 (by decide) ?_
  refine lv_istore_n (lv' := [(2, .int (-1)), (0, .ref o), (1, .int y)]) hx hb dX9_lawOf_1 rfl hl (by decide) rfl (fun ls hl => ?_)
  refine lv_iconst (v := 0) hx hb dX9_lawOf_2 (by decide) ?_
  refine lv_istore_n (lv' := [(3, .int 0), (2, .int (-1)), (0, .ref o), (1, .int y)]) hx hb dX9_lawOf_3 rfl hl (by decide) rfl (fun ls hl => ?_)
  refine g_loop (τ := Nat) (fun k => k ≤ tn (c 18)) (fun k => tn (c 18) - k) (fun k => n) (fun k => (GM E o c S)) (fun k => 0) (fun k => 0) (fun k => [(0, .ref o), (1, .int y), (2, .int (lawN S y k)), (3, .int (nI k))]) ?_ 0 (Nat.zero_le _) H locs ls hP hS (lv_sub hl [2, 3, 1, 0] rfl)
  intro k hI4 ih H locs ls hP hS hl
  try dsimp only at hI4
  have hl : lv_has ls 4 [(0, .ref o), (1, .int y), (2, .int (lawN S y k)), (3, .int (nI k))] := hl
  have hP : gP E A n (GM E o c S) H := hP
  refine lv_iload_n hx hb dX9_lawOf_4 rfl (lv_at hl 3 rfl) ?_
  refine lv_aload_n hx hb dX9_lawOf_5 rfl (lv_at hl 0 rfl) ?_
  refine m_get hx hb hts hin9 hown hK hP 18 (by decide) hf106 rfl rfl dX9_lawOf_6 ?_
  refine lv_icmp_ge (tgt := 50) hx hb dX9_lawOf_9 (by decide) (fun b9 => ?_) (fun b9 => ?_)
  · have hk3 := lp_ge j18.1 (by omega) b9
    have hke : k = tn (c 18) := by omega
    subst hke
    refine lv_iload_n hx hb dX9_lawOf_50 rfl (lv_at hl 2 rfl) ?_
    refine g_reti hx hb hr hlk hP hS dX9_lawOf_51 ?_
    exact ⟨rfl, rfl, rfl⟩
  · have hk3 := lp_lt j18.1 (by omega) b9
    refine lv_aload_n hx hb dX9_lawOf_12 rfl (lv_at hl 0 rfl) ?_
    refine m_get hx hb hts hin9 hown hK hP 19 (by decide) hf55 rfl rfl dX9_lawOf_13 ?_
    refine lv_iload_n hx hb dX9_lawOf_16 rfl (lv_at hl 3 rfl) ?_
    refine m_iald_n hx hb hK hP 15 40 rfl (by decide) rfl (by omega) dX9_lawOf_17 ?_
    refine lv_iload_n hx hb dX9_lawOf_18 rfl (lv_at hl 1 rfl) ?_
    refine lv_icmp_gt (tgt := 44) hx hb dX9_lawOf_19 (by decide) (fun b19 => ?_) (fun b19 => ?_)
    · refine lv_iinc (v := (nI k) + 1) (lv' := [(3, .int ((nI k) + 1)), (0, .ref o), (1, .int y), (2, .int (lawN S y k))]) hx hb dX9_lawOf_44 hl (k := 3) rfl rfl (by decide) rfl (fun ls hl => ?_)
      refine lv_goto (tgt := 4) hx hb dX9_lawOf_47 (by decide) ?_
      refine ih (k + 1) (by omega) (by omega) H locs ls hP hS ?_
      show lv_has ls 4 [(0, .ref o), (1, .int y), (2, .int (lawN S y (k + 1))), (3, .int (nI (k + 1)))]
      rw [show lawN S y (k + 1) = lawN S y k from by first | (simp [lawN, b9, Int32.not_le.mp b9, b19, Int32.not_le.mpr b19]; done) | (exfalso; simp_all; done), ← nI_1]
      exact lv_sub hl [1, 2, 3, 0] rfl
    · refine lv_iload_n hx hb dX9_lawOf_22 rfl (lv_at hl 2 rfl) ?_
      refine lv_iconst (v := (-1)) hx hb dX9_lawOf_23 (by decide) ?_
      refine lv_icmp_eq (tgt := 42) hx hb dX9_lawOf_24 (by decide) (fun b24 => ?_) (fun b24 => ?_)
      · refine lv_iload_n hx hb dX9_lawOf_42 rfl (lv_at hl 3 rfl) ?_
        refine lv_istore_n (lv' := [(2, .int (nI k)), (0, .ref o), (1, .int y), (3, .int (nI k))]) hx hb dX9_lawOf_43 rfl hl (by decide) rfl (fun ls hl => ?_)
        refine lv_iinc (v := (nI k) + 1) (lv' := [(3, .int ((nI k) + 1)), (2, .int (nI k)), (0, .ref o), (1, .int y)]) hx hb dX9_lawOf_44 hl (k := 3) rfl rfl (by decide) rfl (fun ls hl => ?_)
        refine lv_goto (tgt := 4) hx hb dX9_lawOf_47 (by decide) ?_
        refine ih (k + 1) (by omega) (by omega) H locs ls hP hS ?_
        show lv_has ls 4 [(0, .ref o), (1, .int y), (2, .int (lawN S y (k + 1))), (3, .int (nI (k + 1)))]
        rw [show lawN S y (k + 1) = nI k from by first | (simp [lawN, b9, Int32.not_le.mp b9, b19, Int32.not_lt.mp b19, b24]; done) | (exfalso; simp_all; done), ← nI_1]
        exact lv_sub hl [2, 3, 1, 0] rfl
      · refine lv_aload_n hx hb dX9_lawOf_27 rfl (lv_at hl 0 rfl) ?_
        refine m_get hx hb hts hin9 hown hK hP 19 (by decide) hf55 rfl rfl dX9_lawOf_28 ?_
        refine lv_iload_n hx hb dX9_lawOf_31 rfl (lv_at hl 3 rfl) ?_
        refine m_iald_n hx hb hK hP 15 40 rfl (by decide) rfl (by omega) dX9_lawOf_32 ?_
        refine lv_aload_n hx hb dX9_lawOf_33 rfl (lv_at hl 0 rfl) ?_
        refine m_get hx hb hts hin9 hown hK hP 19 (by decide) hf55 rfl rfl dX9_lawOf_34 ?_
        have hv38 : vp_in (lawN S y k) 40 := by
          rcases lawN_in S y k (by omega) with h1 | h1
          · exact absurd h1 b24
          · exact vp_in_iff.mpr ⟨h1.1, by omega⟩
        refine lv_iload_n hx hb dX9_lawOf_37 rfl (lv_at hl 2 rfl) ?_
        refine m_iald hx hb hK hP 15 40 rfl (by decide) rfl hv38 dX9_lawOf_38 ?_
        refine lv_icmp_lt (tgt := 44) hx hb dX9_lawOf_39 (by decide) (fun b39 => ?_) (fun b39 => ?_)
        · refine lv_iinc (v := (nI k) + 1) (lv' := [(3, .int ((nI k) + 1)), (0, .ref o), (1, .int y), (2, .int (lawN S y k))]) hx hb dX9_lawOf_44 hl (k := 3) rfl rfl (by decide) rfl (fun ls hl => ?_)
          refine lv_goto (tgt := 4) hx hb dX9_lawOf_47 (by decide) ?_
          refine ih (k + 1) (by omega) (by omega) H locs ls hP hS ?_
          show lv_has ls 4 [(0, .ref o), (1, .int y), (2, .int (lawN S y (k + 1))), (3, .int (nI (k + 1)))]
          rw [show lawN S y (k + 1) = lawN S y k from by first | (simp [lawN, b9, Int32.not_le.mp b9, b19, Int32.not_lt.mp b19, b24, b39, Int32.not_le.mpr b39]; done) | (exfalso; simp_all; done), ← nI_1]
          exact lv_sub hl [1, 2, 3, 0] rfl
        · refine lv_iload_n hx hb dX9_lawOf_42 rfl (lv_at hl 3 rfl) ?_
          refine lv_istore_n (lv' := [(2, .int (nI k)), (0, .ref o), (1, .int y), (3, .int (nI k))]) hx hb dX9_lawOf_43 rfl hl (by decide) rfl (fun ls hl => ?_)
          refine lv_iinc (v := (nI k) + 1) (lv' := [(3, .int ((nI k) + 1)), (2, .int (nI k)), (0, .ref o), (1, .int y)]) hx hb dX9_lawOf_44 hl (k := 3) rfl rfl (by decide) rfl (fun ls hl => ?_)
          refine lv_goto (tgt := 4) hx hb dX9_lawOf_47 (by decide) ?_
          refine ih (k + 1) (by omega) (by omega) H locs ls hP hS ?_
          show lv_has ls 4 [(0, .ref o), (1, .int y), (2, .int (lawN S y (k + 1))), (3, .int (nI (k + 1)))]
          rw [show lawN S y (k + 1) = nI k from by first | (simp [lawN, b9, Int32.not_le.mp b9, b19, Int32.not_lt.mp b19, b24, b39, Int32.not_lt.mp b39]; done) | (exfalso; simp_all; done), ← nI_1]
          exact lv_sub hl [2, 3, 1, 0] rfl
set_option maxHeartbeats 4000000 in
set_option maxRecDepth 100000 in
theorem kX9_coinNow (l : Launch) (E : gT) (A : Nat → Prop) (n : Nat) (o : Nat) (c : Nat → Int32) (S : Nat → Nat → Int32)  (hI : mI c S) : gM l yX9_coinNow wsX9_coinNow ({ frames := 1, cells := 0, slots := 0, locals := 23 } : Room) E A n (GM E o c S) [.ref o] (gQi E A (fun r' n' G' => coinOf c S = r' ∧ n = n' ∧ (GM E o c S) = G')) 0 0 := by
  refine g_entry (by decide) rfl (Nat.le_of_ble_eq_true rfl) ?_
  intro p e s m below meth c0 hx hb hr hlk hml hown hnm hts hK H locs ls hP hS hl
  have hin9 : ∀ w ∈ u_ws RX9 TX9 35, w ∈ wsX9_coinNow := by decide +kernel
  have hf61 := hts (.fieldLink RX9 61 "DikeHandsModel" "lawCoin" "[I") (by decide +kernel)
  have hf96 := hts (.fieldLink RX9 96 "DikeHandsModel" "now" "I") (by decide +kernel)
  have hl : lv_has ls 2 [(0, .ref o)] := hl
  refine lv_aload_n hx hb dX9_coinNow_0 rfl (lv_at hl 0 rfl) ?_
  refine lv_aload_n hx hb dX9_coinNow_1 rfl (lv_at hl 0 rfl) ?_
  refine m_get hx hb hts hin9 hown hK hP 0 (by decide) hf96 rfl rfl dX9_coinNow_2 ?_
  refine lv_bipush (v := 52) hx hb dX9_coinNow_5 (by decide) ?_
  refine lv_idiv hx hb dX9_coinNow_7 (by decide) ?_
  refine g_ci (g_runV (As := [.int ((c 0) / 52)]) (rest := []) ⟨hx, hb, hml, hown, hts⟩ hK hP (kX9_lawOf l E A n o c S ((c 0) / 52) hI) (cwV 1 hts gX9_coinNow_X9_lawOf rfl rfl rfl (by decide +kernel) ⟨Nat.le_of_ble_eq_true rfl, Nat.le_of_ble_eq_true rfl⟩) GM_o rfl rfl hl.1 rfl (Nat.le_of_ble_eq_true rfl) dX9_coinNow_8 ⟨Nat.le_of_ble_eq_true rfl, Nat.le_of_ble_eq_true rfl⟩) hS (fun r8 n' G' H locs hw hP hS => ?_)
  obtain ⟨rfl, rfl, rfl⟩ := hw
  refine lv_istore_n (lv' := [(1, .int (lawOf c S ((c 0) / 52))), (0, .ref o)]) hx hb dX9_coinNow_11 rfl hl (by decide) rfl (fun ls hl => ?_)
  refine lv_iload_n hx hb dX9_coinNow_12 rfl (lv_at hl 0 rfl) ?_
  refine lv_iconst (v := (-1)) hx hb dX9_coinNow_13 (by decide) ?_
  refine lv_icmp_ne (tgt := 21) hx hb dX9_coinNow_14 (by decide) (fun b14 => ?_) (fun b14 => ?_)
  · refine lv_aload_n hx hb dX9_coinNow_21 rfl (lv_at hl 1 rfl) ?_
    refine m_get hx hb hts hin9 hown hK hP 21 (by decide) hf61 rfl rfl dX9_coinNow_22 ?_
    refine lv_iload_n hx hb dX9_coinNow_25 rfl (lv_at hl 0 rfl) ?_
    refine m_iald hx hb hK hP 17 40 rfl (by decide) rfl (lawOf_vp hI b14) dX9_coinNow_26 ?_
    refine g_reti hx hb hr hlk hP hS dX9_coinNow_27 ?_
    exact ⟨by first | (simp [coinOf, b14]; done) | (exfalso; simp_all; done), rfl, rfl⟩
  · refine lv_iconst (v := 0) hx hb dX9_coinNow_17 (by decide) ?_
    refine lv_goto (tgt := 27) hx hb dX9_coinNow_18 (by decide) ?_
    refine g_reti hx hb hr hlk hP hS dX9_coinNow_27 ?_
    exact ⟨by first | (simp [coinOf, b14]; done) | (exfalso; simp_all; done), rfl, rfl⟩
set_option maxHeartbeats 4000000 in
set_option maxRecDepth 100000 in
theorem kX9_listedOf (l : Launch) (E : gT) (A : Nat → Prop) (n : Nat) (o : Nat) (c : Nat → Int32) (S : Nat → Nat → Int32) (h y w : Int32) (hI : mI c S) (hh : vp_in h 40) : gM l yX9_listedOf wsX9_listedOf ({ frames := 0, cells := 0, slots := 0, locals := 0 } : Room) E A n (GM E o c S) [.ref o, .int h, .int y, .int w] (gQi E A (fun r' n' G' => lisOf c S h y w = r' ∧ n = n' ∧ (GM E o c S) = G')) 0 0 := by
  refine g_entry (by decide) rfl (Nat.le_of_ble_eq_true rfl) ?_
  intro p e s m below meth c0 hx hb hr hlk hml hown hnm hts hK H locs ls hP hS hl
  have hin9 : ∀ w ∈ u_ws RX9 TX9 35, w ∈ wsX9_listedOf := by decide +kernel
  have hf34 := hts (.fieldLink RX9 34 "DikeHandsModel" "firstAcres" "[I") (by decide +kernel)
  have hf37 := hts (.fieldLink RX9 37 "DikeHandsModel" "firstHands" "[I") (by decide +kernel)
  have hf40 := hts (.fieldLink RX9 40 "DikeHandsModel" "changeOf" "[I") (by decide +kernel)
  have hf46 := hts (.fieldLink RX9 46 "DikeHandsModel" "toldAt" "[I") (by decide +kernel)
  have hf49 := hts (.fieldLink RX9 49 "DikeHandsModel" "acresTo" "[I") (by decide +kernel)
  have hf52 := hts (.fieldLink RX9 52 "DikeHandsModel" "handsTo" "[I") (by decide +kernel)
  have hf116 := hts (.fieldLink RX9 116 "DikeHandsModel" "changes" "I") (by decide +kernel)
  have hl : lv_has ls 6 [(0, .ref o), (1, .int h), (2, .int y), (3, .int w)] := hl
  have j0 := hI.1
  have j7 := hI.2.1
  have j12 := hI.2.2.1
  have j18 := hI.2.2.2.1
  have t0_ := tn_of j0.1
  have t7_ := tn_of j7.1
  have t12_ := tn_of j12.1
  have t18_ := tn_of j18.1
  refine lv_iload_n hx hb dX9_listedOf_0 rfl (lv_at hl 3 rfl) ?_
  refine lv_if_ne (tgt := 13) hx hb dX9_listedOf_1 (by decide) (fun b1 => ?_) (fun b1 => ?_)
  · refine lv_aload_n hx hb dX9_listedOf_13 rfl (lv_at hl 0 rfl) ?_
    refine m_get hx hb hts hin9 hown hK hP 11 (by decide) hf37 rfl rfl dX9_listedOf_14 ?_
    refine lv_iload_n hx hb dX9_listedOf_17 rfl (lv_at hl 1 rfl) ?_
    refine m_iald hx hb hK hP 9 40 rfl (by decide) rfl hh dX9_listedOf_18 ?_
    rw [show S 9 (tn h) = lisN S h y w 0 from by simp [lisN, b1]]
    refine lv_istore (lv' := [(4, .int (lisN S h y w 0)), (0, .ref o), (1, .int h), (2, .int y), (3, .int w)]) hx hb dX9_listedOf_19 hl (by decide) rfl (fun ls hl => ?_)
    refine lv_iconst (v := 0) hx hb dX9_listedOf_21 (by decide) ?_
    refine lv_istore (lv' := [(5, .int 0), (4, .int (lisN S h y w 0)), (0, .ref o), (1, .int h), (2, .int y), (3, .int w)]) hx hb dX9_listedOf_22 hl (by decide) rfl (fun ls hl => ?_)
    refine g_loop (τ := Nat) (fun k => k ≤ tn (c 12)) (fun k => tn (c 12) - k) (fun k => n) (fun k => (GM E o c S)) (fun k => 0) (fun k => 0) (fun k => [(0, .ref o), (1, .int h), (2, .int y), (3, .int w), (4, .int (lisN S h y w k)), (5, .int (nI k))]) ?_ 0 (Nat.zero_le _) H locs ls hP hS (lv_sub hl [2, 3, 4, 5, 1, 0] rfl)
    intro k hI24 ih H locs ls hP hS hl
    try dsimp only at hI24
    have hl : lv_has ls 6 [(0, .ref o), (1, .int h), (2, .int y), (3, .int w), (4, .int (lisN S h y w k)), (5, .int (nI k))] := hl
    have hP : gP E A n (GM E o c S) H := hP
    refine lv_iload hx hb dX9_listedOf_24 (lv_at hl 5 rfl) ?_
    refine lv_aload_n hx hb dX9_listedOf_26 rfl (lv_at hl 0 rfl) ?_
    refine m_get hx hb hts hin9 hown hK hP 12 (by decide) hf116 rfl rfl dX9_listedOf_27 ?_
    refine lv_icmp_ge (tgt := 87) hx hb dX9_listedOf_30 (by decide) (fun b30 => ?_) (fun b30 => ?_)
    · have hk3 := lp_ge j12.1 (by omega) b30
      have hke : k = tn (c 12) := by omega
      subst hke
      refine lv_iload hx hb dX9_listedOf_87 (lv_at hl 4 rfl) ?_
      refine g_reti hx hb hr hlk hP hS dX9_listedOf_89 ?_
      exact ⟨rfl, rfl, rfl⟩
    · have hk3 := lp_lt j12.1 (by omega) b30
      refine lv_aload_n hx hb dX9_listedOf_33 rfl (lv_at hl 0 rfl) ?_
      refine m_get hx hb hts hin9 hown hK hP 13 (by decide) hf40 rfl rfl dX9_listedOf_34 ?_
      refine lv_iload hx hb dX9_listedOf_37 (lv_at hl 5 rfl) ?_
      refine m_iald_n hx hb hK hP 10 200 rfl (by decide) rfl (by omega) dX9_listedOf_39 ?_
      refine lv_iload_n hx hb dX9_listedOf_40 rfl (lv_at hl 1 rfl) ?_
      refine lv_icmp_ne (tgt := 81) hx hb dX9_listedOf_41 (by decide) (fun b41 => ?_) (fun b41 => ?_)
      · refine lv_iinc (v := (nI k) + 1) (lv' := [(5, .int ((nI k) + 1)), (0, .ref o), (1, .int h), (2, .int y), (3, .int w), (4, .int (lisN S h y w k))]) hx hb dX9_listedOf_81 hl (k := 5) rfl rfl (by decide) rfl (fun ls hl => ?_)
        refine lv_goto (tgt := 24) hx hb dX9_listedOf_84 (by decide) ?_
        refine ih (k + 1) (by omega) (by omega) H locs ls hP hS ?_
        show lv_has ls 6 [(0, .ref o), (1, .int h), (2, .int y), (3, .int w), (4, .int (lisN S h y w (k + 1))), (5, .int (nI (k + 1)))]
        rw [show lisN S h y w (k + 1) = lisN S h y w k from by first | (simp [lisN, b1, b30, Int32.not_le.mp b30, b41]; done) | (exfalso; simp_all; done), ← nI_1]
        exact lv_sub hl [1, 2, 3, 4, 5, 0] rfl
      · refine lv_aload_n hx hb dX9_listedOf_44 rfl (lv_at hl 0 rfl) ?_
        refine m_get hx hb hts hin9 hown hK hP 15 (by decide) hf46 rfl rfl dX9_listedOf_45 ?_
        refine lv_iload hx hb dX9_listedOf_48 (lv_at hl 5 rfl) ?_
        refine m_iald_n hx hb hK hP 12 200 rfl (by decide) rfl (by omega) dX9_listedOf_50 ?_
        refine lv_bipush (v := 52) hx hb dX9_listedOf_51 (by decide) ?_
        refine lv_iload_n hx hb dX9_listedOf_53 rfl (lv_at hl 2 rfl) ?_
        refine lv_imul hx hb dX9_listedOf_54 ?_
        refine lv_icmp_ge (tgt := 81) hx hb dX9_listedOf_55 (by decide) (fun b55 => ?_) (fun b55 => ?_)
        · refine lv_iinc (v := (nI k) + 1) (lv' := [(5, .int ((nI k) + 1)), (0, .ref o), (1, .int h), (2, .int y), (3, .int w), (4, .int (lisN S h y w k))]) hx hb dX9_listedOf_81 hl (k := 5) rfl rfl (by decide) rfl (fun ls hl => ?_)
          refine lv_goto (tgt := 24) hx hb dX9_listedOf_84 (by decide) ?_
          refine ih (k + 1) (by omega) (by omega) H locs ls hP hS ?_
          show lv_has ls 6 [(0, .ref o), (1, .int h), (2, .int y), (3, .int w), (4, .int (lisN S h y w (k + 1))), (5, .int (nI (k + 1)))]
          rw [show lisN S h y w (k + 1) = lisN S h y w k from by first | (simp [lisN, b1, b30, Int32.not_le.mp b30, b41, b55, Int32.not_lt.mpr b55]; done) | (exfalso; simp_all; done), ← nI_1]
          exact lv_sub hl [1, 2, 3, 4, 5, 0] rfl
        · refine lv_iload_n hx hb dX9_listedOf_58 rfl (lv_at hl 3 rfl) ?_
          refine lv_if_ne (tgt := 72) hx hb dX9_listedOf_59 (by decide) (fun b59 => ?_) (fun b59 => ?_)
          · refine lv_aload_n hx hb dX9_listedOf_72 rfl (lv_at hl 0 rfl) ?_
            refine m_get hx hb hts hin9 hown hK hP 17 (by decide) hf52 rfl rfl dX9_listedOf_73 ?_
            refine lv_iload hx hb dX9_listedOf_76 (lv_at hl 5 rfl) ?_
            refine m_iald_n hx hb hK hP 14 200 rfl (by decide) rfl (by omega) dX9_listedOf_78 ?_
            refine lv_istore (lv' := [(4, .int (S 14 k)), (0, .ref o), (1, .int h), (2, .int y), (3, .int w), (5, .int (nI k))]) hx hb dX9_listedOf_79 hl (by decide) rfl (fun ls hl => ?_)
            refine lv_iinc (v := (nI k) + 1) (lv' := [(5, .int ((nI k) + 1)), (4, .int (S 14 k)), (0, .ref o), (1, .int h), (2, .int y), (3, .int w)]) hx hb dX9_listedOf_81 hl (k := 5) rfl rfl (by decide) rfl (fun ls hl => ?_)
            refine lv_goto (tgt := 24) hx hb dX9_listedOf_84 (by decide) ?_
            refine ih (k + 1) (by omega) (by omega) H locs ls hP hS ?_
            show lv_has ls 6 [(0, .ref o), (1, .int h), (2, .int y), (3, .int w), (4, .int (lisN S h y w (k + 1))), (5, .int (nI (k + 1)))]
            rw [show lisN S h y w (k + 1) = S 14 k from by first | (simp [lisN, b1, b30, Int32.not_le.mp b30, b41, b55, Int32.not_le.mp b55, b59]; done) | (exfalso; simp_all; done), ← nI_1]
            exact lv_sub hl [2, 3, 4, 5, 1, 0] rfl
          · refine lv_aload_n hx hb dX9_listedOf_62 rfl (lv_at hl 0 rfl) ?_
            refine m_get hx hb hts hin9 hown hK hP 16 (by decide) hf49 rfl rfl dX9_listedOf_63 ?_
            refine lv_iload hx hb dX9_listedOf_66 (lv_at hl 5 rfl) ?_
            refine m_iald_n hx hb hK hP 13 200 rfl (by decide) rfl (by omega) dX9_listedOf_68 ?_
            refine lv_goto (tgt := 79) hx hb dX9_listedOf_69 (by decide) ?_
            refine lv_istore (lv' := [(4, .int (S 13 k)), (0, .ref o), (1, .int h), (2, .int y), (3, .int w), (5, .int (nI k))]) hx hb dX9_listedOf_79 hl (by decide) rfl (fun ls hl => ?_)
            refine lv_iinc (v := (nI k) + 1) (lv' := [(5, .int ((nI k) + 1)), (4, .int (S 13 k)), (0, .ref o), (1, .int h), (2, .int y), (3, .int w)]) hx hb dX9_listedOf_81 hl (k := 5) rfl rfl (by decide) rfl (fun ls hl => ?_)
            refine lv_goto (tgt := 24) hx hb dX9_listedOf_84 (by decide) ?_
            refine ih (k + 1) (by omega) (by omega) H locs ls hP hS ?_
            show lv_has ls 6 [(0, .ref o), (1, .int h), (2, .int y), (3, .int w), (4, .int (lisN S h y w (k + 1))), (5, .int (nI (k + 1)))]
            rw [show lisN S h y w (k + 1) = S 13 k from by first | (simp [lisN, b1, b30, Int32.not_le.mp b30, b41, b55, Int32.not_le.mp b55, b59]; done) | (exfalso; simp_all; done), ← nI_1]
            exact lv_sub hl [2, 3, 4, 5, 1, 0] rfl
  · refine lv_aload_n hx hb dX9_listedOf_4 rfl (lv_at hl 0 rfl) ?_
    refine m_get hx hb hts hin9 hown hK hP 10 (by decide) hf34 rfl rfl dX9_listedOf_5 ?_
    refine lv_iload_n hx hb dX9_listedOf_8 rfl (lv_at hl 1 rfl) ?_
    refine m_iald hx hb hK hP 8 40 rfl (by decide) rfl hh dX9_listedOf_9 ?_
    refine lv_goto (tgt := 19) hx hb dX9_listedOf_10 (by decide) ?_
    rw [show S 8 (tn h) = lisN S h y w 0 from by simp [lisN, b1]]
    refine lv_istore (lv' := [(4, .int (lisN S h y w 0)), (0, .ref o), (1, .int h), (2, .int y), (3, .int w)]) hx hb dX9_listedOf_19 hl (by decide) rfl (fun ls hl => ?_)
    refine lv_iconst (v := 0) hx hb dX9_listedOf_21 (by decide) ?_
    refine lv_istore (lv' := [(5, .int 0), (4, .int (lisN S h y w 0)), (0, .ref o), (1, .int h), (2, .int y), (3, .int w)]) hx hb dX9_listedOf_22 hl (by decide) rfl (fun ls hl => ?_)
    refine g_loop (τ := Nat) (fun k => k ≤ tn (c 12)) (fun k => tn (c 12) - k) (fun k => n) (fun k => (GM E o c S)) (fun k => 0) (fun k => 0) (fun k => [(0, .ref o), (1, .int h), (2, .int y), (3, .int w), (4, .int (lisN S h y w k)), (5, .int (nI k))]) ?_ 0 (Nat.zero_le _) H locs ls hP hS (lv_sub hl [2, 3, 4, 5, 1, 0] rfl)
    intro k hI24 ih H locs ls hP hS hl
    try dsimp only at hI24
    have hl : lv_has ls 6 [(0, .ref o), (1, .int h), (2, .int y), (3, .int w), (4, .int (lisN S h y w k)), (5, .int (nI k))] := hl
    have hP : gP E A n (GM E o c S) H := hP
    refine lv_iload hx hb dX9_listedOf_24 (lv_at hl 5 rfl) ?_
    refine lv_aload_n hx hb dX9_listedOf_26 rfl (lv_at hl 0 rfl) ?_
    refine m_get hx hb hts hin9 hown hK hP 12 (by decide) hf116 rfl rfl dX9_listedOf_27 ?_
    refine lv_icmp_ge (tgt := 87) hx hb dX9_listedOf_30 (by decide) (fun b30 => ?_) (fun b30 => ?_)
    · have hk3 := lp_ge j12.1 (by omega) b30
      have hke : k = tn (c 12) := by omega
      subst hke
      refine lv_iload hx hb dX9_listedOf_87 (lv_at hl 4 rfl) ?_
      refine g_reti hx hb hr hlk hP hS dX9_listedOf_89 ?_
      exact ⟨rfl, rfl, rfl⟩
    · have hk3 := lp_lt j12.1 (by omega) b30
      refine lv_aload_n hx hb dX9_listedOf_33 rfl (lv_at hl 0 rfl) ?_
      refine m_get hx hb hts hin9 hown hK hP 13 (by decide) hf40 rfl rfl dX9_listedOf_34 ?_
      refine lv_iload hx hb dX9_listedOf_37 (lv_at hl 5 rfl) ?_
      refine m_iald_n hx hb hK hP 10 200 rfl (by decide) rfl (by omega) dX9_listedOf_39 ?_
      refine lv_iload_n hx hb dX9_listedOf_40 rfl (lv_at hl 1 rfl) ?_
      refine lv_icmp_ne (tgt := 81) hx hb dX9_listedOf_41 (by decide) (fun b41 => ?_) (fun b41 => ?_)
      · refine lv_iinc (v := (nI k) + 1) (lv' := [(5, .int ((nI k) + 1)), (0, .ref o), (1, .int h), (2, .int y), (3, .int w), (4, .int (lisN S h y w k))]) hx hb dX9_listedOf_81 hl (k := 5) rfl rfl (by decide) rfl (fun ls hl => ?_)
        refine lv_goto (tgt := 24) hx hb dX9_listedOf_84 (by decide) ?_
        refine ih (k + 1) (by omega) (by omega) H locs ls hP hS ?_
        show lv_has ls 6 [(0, .ref o), (1, .int h), (2, .int y), (3, .int w), (4, .int (lisN S h y w (k + 1))), (5, .int (nI (k + 1)))]
        rw [show lisN S h y w (k + 1) = lisN S h y w k from by first | (simp [lisN, b1, b30, Int32.not_le.mp b30, b41]; done) | (exfalso; simp_all; done), ← nI_1]
        exact lv_sub hl [1, 2, 3, 4, 5, 0] rfl
      · refine lv_aload_n hx hb dX9_listedOf_44 rfl (lv_at hl 0 rfl) ?_
        refine m_get hx hb hts hin9 hown hK hP 15 (by decide) hf46 rfl rfl dX9_listedOf_45 ?_
        refine lv_iload hx hb dX9_listedOf_48 (lv_at hl 5 rfl) ?_
        refine m_iald_n hx hb hK hP 12 200 rfl (by decide) rfl (by omega) dX9_listedOf_50 ?_
        refine lv_bipush (v := 52) hx hb dX9_listedOf_51 (by decide) ?_
        refine lv_iload_n hx hb dX9_listedOf_53 rfl (lv_at hl 2 rfl) ?_
        refine lv_imul hx hb dX9_listedOf_54 ?_
        refine lv_icmp_ge (tgt := 81) hx hb dX9_listedOf_55 (by decide) (fun b55 => ?_) (fun b55 => ?_)
        · refine lv_iinc (v := (nI k) + 1) (lv' := [(5, .int ((nI k) + 1)), (0, .ref o), (1, .int h), (2, .int y), (3, .int w), (4, .int (lisN S h y w k))]) hx hb dX9_listedOf_81 hl (k := 5) rfl rfl (by decide) rfl (fun ls hl => ?_)
          refine lv_goto (tgt := 24) hx hb dX9_listedOf_84 (by decide) ?_
          refine ih (k + 1) (by omega) (by omega) H locs ls hP hS ?_
          show lv_has ls 6 [(0, .ref o), (1, .int h), (2, .int y), (3, .int w), (4, .int (lisN S h y w (k + 1))), (5, .int (nI (k + 1)))]
          rw [show lisN S h y w (k + 1) = lisN S h y w k from by first | (simp [lisN, b1, b30, Int32.not_le.mp b30, b41, b55, Int32.not_lt.mpr b55]; done) | (exfalso; simp_all; done), ← nI_1]
          exact lv_sub hl [1, 2, 3, 4, 5, 0] rfl
        · refine lv_iload_n hx hb dX9_listedOf_58 rfl (lv_at hl 3 rfl) ?_
          refine lv_if_ne (tgt := 72) hx hb dX9_listedOf_59 (by decide) (fun b59 => ?_) (fun b59 => ?_)
          · refine lv_aload_n hx hb dX9_listedOf_72 rfl (lv_at hl 0 rfl) ?_
            refine m_get hx hb hts hin9 hown hK hP 17 (by decide) hf52 rfl rfl dX9_listedOf_73 ?_
            refine lv_iload hx hb dX9_listedOf_76 (lv_at hl 5 rfl) ?_
            refine m_iald_n hx hb hK hP 14 200 rfl (by decide) rfl (by omega) dX9_listedOf_78 ?_
            refine lv_istore (lv' := [(4, .int (S 14 k)), (0, .ref o), (1, .int h), (2, .int y), (3, .int w), (5, .int (nI k))]) hx hb dX9_listedOf_79 hl (by decide) rfl (fun ls hl => ?_)
            refine lv_iinc (v := (nI k) + 1) (lv' := [(5, .int ((nI k) + 1)), (4, .int (S 14 k)), (0, .ref o), (1, .int h), (2, .int y), (3, .int w)]) hx hb dX9_listedOf_81 hl (k := 5) rfl rfl (by decide) rfl (fun ls hl => ?_)
            refine lv_goto (tgt := 24) hx hb dX9_listedOf_84 (by decide) ?_
            refine ih (k + 1) (by omega) (by omega) H locs ls hP hS ?_
            show lv_has ls 6 [(0, .ref o), (1, .int h), (2, .int y), (3, .int w), (4, .int (lisN S h y w (k + 1))), (5, .int (nI (k + 1)))]
            rw [show lisN S h y w (k + 1) = S 14 k from by first | (simp [lisN, b1, b30, Int32.not_le.mp b30, b41, b55, Int32.not_le.mp b55, b59]; done) | (exfalso; simp_all; done), ← nI_1]
            exact lv_sub hl [2, 3, 4, 5, 1, 0] rfl
          · refine lv_aload_n hx hb dX9_listedOf_62 rfl (lv_at hl 0 rfl) ?_
            refine m_get hx hb hts hin9 hown hK hP 16 (by decide) hf49 rfl rfl dX9_listedOf_63 ?_
            refine lv_iload hx hb dX9_listedOf_66 (lv_at hl 5 rfl) ?_
            refine m_iald_n hx hb hK hP 13 200 rfl (by decide) rfl (by omega) dX9_listedOf_68 ?_
            refine lv_goto (tgt := 79) hx hb dX9_listedOf_69 (by decide) ?_
            refine lv_istore (lv' := [(4, .int (S 13 k)), (0, .ref o), (1, .int h), (2, .int y), (3, .int w), (5, .int (nI k))]) hx hb dX9_listedOf_79 hl (by decide) rfl (fun ls hl => ?_)
            refine lv_iinc (v := (nI k) + 1) (lv' := [(5, .int ((nI k) + 1)), (4, .int (S 13 k)), (0, .ref o), (1, .int h), (2, .int y), (3, .int w)]) hx hb dX9_listedOf_81 hl (k := 5) rfl rfl (by decide) rfl (fun ls hl => ?_)
            refine lv_goto (tgt := 24) hx hb dX9_listedOf_84 (by decide) ?_
            refine ih (k + 1) (by omega) (by omega) H locs ls hP hS ?_
            show lv_has ls 6 [(0, .ref o), (1, .int h), (2, .int y), (3, .int w), (4, .int (lisN S h y w (k + 1))), (5, .int (nI (k + 1)))]
            rw [show lisN S h y w (k + 1) = S 13 k from by first | (simp [lisN, b1, b30, Int32.not_le.mp b30, b41, b55, Int32.not_le.mp b55, b59]; done) | (exfalso; simp_all; done), ← nI_1]
            exact lv_sub hl [2, 3, 4, 5, 1, 0] rfl
set_option maxHeartbeats 4000000 in
set_option maxRecDepth 100000 in
theorem kX9_trueHands (l : Launch) (E : gT) (A : Nat → Prop) (n : Nat) (o : Nat) (c : Nat → Int32) (S : Nat → Nat → Int32) (h w : Int32) (hI : mI c S) (hh : vp_in h 40) : gM l yX9_trueHands wsX9_trueHands ({ frames := 0, cells := 0, slots := 0, locals := 0 } : Room) E A n (GM E o c S) [.ref o, .int h, .int w] (gQi E A (fun r' n' G' => truOf c S h w = r' ∧ n = n' ∧ (GM E o c S) = G')) 0 0 := by
  refine g_entry (by decide) rfl (Nat.le_of_ble_eq_true rfl) ?_
  intro p e s m below meth c0 hx hb hr hlk hml hown hnm hts hK H locs ls hP hS hl
  have hin9 : ∀ w ∈ u_ws RX9 TX9 35, w ∈ wsX9_trueHands := by decide +kernel
  have hf31 := hts (.fieldLink RX9 31 "DikeHandsModel" "came" "[I") (by decide +kernel)
  have hf37 := hts (.fieldLink RX9 37 "DikeHandsModel" "firstHands" "[I") (by decide +kernel)
  have hf40 := hts (.fieldLink RX9 40 "DikeHandsModel" "changeOf" "[I") (by decide +kernel)
  have hf43 := hts (.fieldLink RX9 43 "DikeHandsModel" "trueFrom" "[I") (by decide +kernel)
  have hf52 := hts (.fieldLink RX9 52 "DikeHandsModel" "handsTo" "[I") (by decide +kernel)
  have hf116 := hts (.fieldLink RX9 116 "DikeHandsModel" "changes" "I") (by decide +kernel)
  have hl : lv_has ls 6 [(0, .ref o), (1, .int h), (2, .int w)] := hl
  have j0 := hI.1
  have j7 := hI.2.1
  have j12 := hI.2.2.1
  have j18 := hI.2.2.2.1
  have t0_ := tn_of j0.1
  have t7_ := tn_of j7.1
  have t12_ := tn_of j12.1
  have t18_ := tn_of j18.1
  refine lv_iload_n hx hb dX9_trueHands_0 rfl (lv_at hl 2 rfl) ?_
  refine lv_aload_n hx hb dX9_trueHands_1 rfl (lv_at hl 0 rfl) ?_
  refine m_get hx hb hts hin9 hown hK hP 9 (by decide) hf31 rfl rfl dX9_trueHands_2 ?_
  refine lv_iload_n hx hb dX9_trueHands_5 rfl (lv_at hl 1 rfl) ?_
  refine m_iald hx hb hK hP 7 40 rfl (by decide) rfl hh dX9_trueHands_6 ?_
  refine lv_icmp_ge (tgt := 12) hx hb dX9_trueHands_7 (by decide) (fun b7 => ?_) (fun b7 => ?_)
  · refine lv_aload_n hx hb dX9_trueHands_12 rfl (lv_at hl 0 rfl) ?_
    refine m_get hx hb hts hin9 hown hK hP 9 (by decide) hf31 rfl rfl dX9_trueHands_13 ?_
    refine lv_iload_n hx hb dX9_trueHands_16 rfl (lv_at hl 1 rfl) ?_
    refine m_iald hx hb hK hP 7 40 rfl (by decide) rfl hh dX9_trueHands_17 ?_
    refine lv_istore_n (lv' := [(3, .int (S 7 (tn h))), (0, .ref o), (1, .int h), (2, .int w)]) hx hb dX9_trueHands_18 rfl hl (by decide) rfl (fun ls hl => ?_)
    refine lv_aload_n hx hb dX9_trueHands_19 rfl (lv_at hl 1 rfl) ?_
    refine m_get hx hb hts hin9 hown hK hP 11 (by decide) hf37 rfl rfl dX9_trueHands_20 ?_
    refine lv_iload_n hx hb dX9_trueHands_23 rfl (lv_at hl 2 rfl) ?_
    refine m_iald hx hb hK hP 9 40 rfl (by decide) rfl hh dX9_trueHands_24 ?_
    refine lv_istore (lv' := [(4, .int (S 9 (tn h))), (3, .int (S 7 (tn h))), (0, .ref o), (1, .int h), (2, .int w)]) hx hb dX9_trueHands_25 hl (by decide) rfl (fun ls hl => ?_)
    refine lv_iconst (v := 0) hx hb dX9_trueHands_27 (by decide) ?_
    refine lv_istore (lv' := [(5, .int 0), (4, .int (S 9 (tn h))), (3, .int (S 7 (tn h))), (0, .ref o), (1, .int h), (2, .int w)]) hx hb dX9_trueHands_28 hl (by decide) rfl (fun ls hl => ?_)
    refine g_loop (τ := Nat) (fun k => k ≤ tn (c 12)) (fun k => tn (c 12) - k) (fun k => n) (fun k => (GM E o c S)) (fun k => 0) (fun k => 0) (fun k => [(0, .ref o), (1, .int h), (2, .int w), (3, .int ((truN S h w k).1)), (4, .int ((truN S h w k).2)), (5, .int (nI k))]) ?_ 0 (Nat.zero_le _) H locs ls hP hS (lv_sub hl [3, 4, 5, 2, 1, 0] rfl)
    intro k hI30 ih H locs ls hP hS hl
    try dsimp only at hI30
    have hl : lv_has ls 6 [(0, .ref o), (1, .int h), (2, .int w), (3, .int ((truN S h w k).1)), (4, .int ((truN S h w k).2)), (5, .int (nI k))] := hl
    have hP : gP E A n (GM E o c S) H := hP
    refine lv_iload hx hb dX9_trueHands_30 (lv_at hl 5 rfl) ?_
    refine lv_aload_n hx hb dX9_trueHands_32 rfl (lv_at hl 0 rfl) ?_
    refine m_get hx hb hts hin9 hown hK hP 12 (by decide) hf116 rfl rfl dX9_trueHands_33 ?_
    refine lv_icmp_ge (tgt := 98) hx hb dX9_trueHands_36 (by decide) (fun b36 => ?_) (fun b36 => ?_)
    · have hk3 := lp_ge j12.1 (by omega) b36
      have hke : k = tn (c 12) := by omega
      subst hke
      refine lv_iload hx hb dX9_trueHands_98 (lv_at hl 4 rfl) ?_
      refine g_reti hx hb hr hlk hP hS dX9_trueHands_100 ?_
      exact ⟨by simp [truOf, b7, Int32.not_lt.mpr b7], rfl, rfl⟩
    · have hk3 := lp_lt j12.1 (by omega) b36
      refine lv_aload_n hx hb dX9_trueHands_39 rfl (lv_at hl 0 rfl) ?_
      refine m_get hx hb hts hin9 hown hK hP 13 (by decide) hf40 rfl rfl dX9_trueHands_40 ?_
      refine lv_iload hx hb dX9_trueHands_43 (lv_at hl 5 rfl) ?_
      refine m_iald_n hx hb hK hP 10 200 rfl (by decide) rfl (by omega) dX9_trueHands_45 ?_
      refine lv_iload_n hx hb dX9_trueHands_46 rfl (lv_at hl 1 rfl) ?_
      refine lv_icmp_ne (tgt := 92) hx hb dX9_trueHands_47 (by decide) (fun b47 => ?_) (fun b47 => ?_)
      · refine lv_iinc (v := (nI k) + 1) (lv' := [(5, .int ((nI k) + 1)), (0, .ref o), (1, .int h), (2, .int w), (3, .int ((truN S h w k).1)), (4, .int ((truN S h w k).2))]) hx hb dX9_trueHands_92 hl (k := 5) rfl rfl (by decide) rfl (fun ls hl => ?_)
        refine lv_goto (tgt := 30) hx hb dX9_trueHands_95 (by decide) ?_
        refine ih (k + 1) (by omega) (by omega) H locs ls hP hS ?_
        show lv_has ls 6 [(0, .ref o), (1, .int h), (2, .int w), (3, .int ((truN S h w (k + 1)).1)), (4, .int ((truN S h w (k + 1)).2)), (5, .int (nI (k + 1)))]
        rw [show truN S h w (k + 1) = truN S h w k from by first | (simp [truN, b7, Int32.not_lt.mpr b7, b36, Int32.not_le.mp b36, b47]; done) | (exfalso; simp_all; done), ← nI_1]
        exact lv_sub hl [1, 2, 3, 4, 5, 0] rfl
      · refine lv_aload_n hx hb dX9_trueHands_50 rfl (lv_at hl 0 rfl) ?_
        refine m_get hx hb hts hin9 hown hK hP 14 (by decide) hf43 rfl rfl dX9_trueHands_51 ?_
        refine lv_iload hx hb dX9_trueHands_54 (lv_at hl 5 rfl) ?_
        refine m_iald_n hx hb hK hP 11 200 rfl (by decide) rfl (by omega) dX9_trueHands_56 ?_
        refine lv_iload_n hx hb dX9_trueHands_57 rfl (lv_at hl 2 rfl) ?_
        refine lv_icmp_gt (tgt := 92) hx hb dX9_trueHands_58 (by decide) (fun b58 => ?_) (fun b58 => ?_)
        · refine lv_iinc (v := (nI k) + 1) (lv' := [(5, .int ((nI k) + 1)), (0, .ref o), (1, .int h), (2, .int w), (3, .int ((truN S h w k).1)), (4, .int ((truN S h w k).2))]) hx hb dX9_trueHands_92 hl (k := 5) rfl rfl (by decide) rfl (fun ls hl => ?_)
          refine lv_goto (tgt := 30) hx hb dX9_trueHands_95 (by decide) ?_
          refine ih (k + 1) (by omega) (by omega) H locs ls hP hS ?_
          show lv_has ls 6 [(0, .ref o), (1, .int h), (2, .int w), (3, .int ((truN S h w (k + 1)).1)), (4, .int ((truN S h w (k + 1)).2)), (5, .int (nI (k + 1)))]
          rw [show truN S h w (k + 1) = truN S h w k from by first | (simp [truN, b7, Int32.not_lt.mpr b7, b36, Int32.not_le.mp b36, b47, b58, Int32.not_le.mpr b58]; done) | (exfalso; simp_all; done), ← nI_1]
          exact lv_sub hl [1, 2, 3, 4, 5, 0] rfl
        · refine lv_aload_n hx hb dX9_trueHands_61 rfl (lv_at hl 0 rfl) ?_
          refine m_get hx hb hts hin9 hown hK hP 14 (by decide) hf43 rfl rfl dX9_trueHands_62 ?_
          refine lv_iload hx hb dX9_trueHands_65 (lv_at hl 5 rfl) ?_
          refine m_iald_n hx hb hK hP 11 200 rfl (by decide) rfl (by omega) dX9_trueHands_67 ?_
          refine lv_iload_n hx hb dX9_trueHands_68 rfl (lv_at hl 3 rfl) ?_
          refine lv_icmp_ge (tgt := 75) hx hb dX9_trueHands_69 (by decide) (fun b69 => ?_) (fun b69 => ?_)
          · refine lv_aload_n hx hb dX9_trueHands_75 rfl (lv_at hl 0 rfl) ?_
            refine m_get hx hb hts hin9 hown hK hP 14 (by decide) hf43 rfl rfl dX9_trueHands_76 ?_
            refine lv_iload hx hb dX9_trueHands_79 (lv_at hl 5 rfl) ?_
            refine m_iald_n hx hb hK hP 11 200 rfl (by decide) rfl (by omega) dX9_trueHands_81 ?_
            refine lv_istore_n (lv' := [(3, .int (S 11 k)), (0, .ref o), (1, .int h), (2, .int w), (4, .int ((truN S h w k).2)), (5, .int (nI k))]) hx hb dX9_trueHands_82 rfl hl (by decide) rfl (fun ls hl => ?_)
            refine lv_aload_n hx hb dX9_trueHands_83 rfl (lv_at hl 1 rfl) ?_
            refine m_get hx hb hts hin9 hown hK hP 17 (by decide) hf52 rfl rfl dX9_trueHands_84 ?_
            refine lv_iload hx hb dX9_trueHands_87 (lv_at hl 5 rfl) ?_
            refine m_iald_n hx hb hK hP 14 200 rfl (by decide) rfl (by omega) dX9_trueHands_89 ?_
            refine lv_istore (lv' := [(4, .int (S 14 k)), (3, .int (S 11 k)), (0, .ref o), (1, .int h), (2, .int w), (5, .int (nI k))]) hx hb dX9_trueHands_90 hl (by decide) rfl (fun ls hl => ?_)
            refine lv_iinc (v := (nI k) + 1) (lv' := [(5, .int ((nI k) + 1)), (4, .int (S 14 k)), (3, .int (S 11 k)), (0, .ref o), (1, .int h), (2, .int w)]) hx hb dX9_trueHands_92 hl (k := 5) rfl rfl (by decide) rfl (fun ls hl => ?_)
            refine lv_goto (tgt := 30) hx hb dX9_trueHands_95 (by decide) ?_
            refine ih (k + 1) (by omega) (by omega) H locs ls hP hS ?_
            show lv_has ls 6 [(0, .ref o), (1, .int h), (2, .int w), (3, .int ((truN S h w (k + 1)).1)), (4, .int ((truN S h w (k + 1)).2)), (5, .int (nI (k + 1)))]
            rw [show truN S h w (k + 1) = (S 11 k, S 14 k) from by first | (simp [truN, b7, Int32.not_lt.mpr b7, b36, Int32.not_le.mp b36, b47, b58, Int32.not_lt.mp b58, b69, Int32.not_lt.mpr b69]; done) | (exfalso; simp_all; done), ← nI_1]
            exact lv_sub hl [3, 4, 5, 2, 1, 0] rfl
          · refine lv_goto (tgt := 92) hx hb dX9_trueHands_72 (by decide) ?_
            refine lv_iinc (v := (nI k) + 1) (lv' := [(5, .int ((nI k) + 1)), (0, .ref o), (1, .int h), (2, .int w), (3, .int ((truN S h w k).1)), (4, .int ((truN S h w k).2))]) hx hb dX9_trueHands_92 hl (k := 5) rfl rfl (by decide) rfl (fun ls hl => ?_)
            refine lv_goto (tgt := 30) hx hb dX9_trueHands_95 (by decide) ?_
            refine ih (k + 1) (by omega) (by omega) H locs ls hP hS ?_
            show lv_has ls 6 [(0, .ref o), (1, .int h), (2, .int w), (3, .int ((truN S h w (k + 1)).1)), (4, .int ((truN S h w (k + 1)).2)), (5, .int (nI (k + 1)))]
            rw [show truN S h w (k + 1) = truN S h w k from by first | (simp [truN, b7, Int32.not_lt.mpr b7, b36, Int32.not_le.mp b36, b47, b58, Int32.not_lt.mp b58, b69, Int32.not_le.mp b69]; done) | (exfalso; simp_all; done), ← nI_1]
            exact lv_sub hl [1, 2, 3, 4, 5, 0] rfl
  · refine lv_iconst (v := 0) hx hb dX9_trueHands_10 (by decide) ?_
    refine g_reti hx hb hr hlk hP hS dX9_trueHands_11 ?_
    exact ⟨by simp [truOf, b7, Int32.not_le.mp b7], rfl, rfl⟩
set_option maxHeartbeats 4000000 in
set_option maxRecDepth 100000 in
theorem kX9_villageHands (l : Launch) (E : gT) (A : Nat → Prop) (n : Nat) (o : Nat) (c : Nat → Int32) (S : Nat → Nat → Int32) (v w : Int32) (hI : mI c S) : gM l yX9_villageHands wsX9_villageHands ({ frames := 1, cells := 0, slots := 0, locals := 25 } : Room) E A n (GM E o c S) [.ref o, .int v, .int w] (gQi E A (fun r' n' G' => vilOf c S v w = r' ∧ n = n' ∧ (GM E o c S) = G')) 0 0 := by
  refine g_entry (by decide) rfl (Nat.le_of_ble_eq_true rfl) ?_
  intro p e s m below meth c0 hx hb hr hlk hml hown hnm hts hK H locs ls hP hS hl
  have hin9 : ∀ w ∈ u_ws RX9 TX9 35, w ∈ wsX9_villageHands := by decide +kernel
  have hf28 := hts (.fieldLink RX9 28 "DikeHandsModel" "village" "[I") (by decide +kernel)
  have hf92 := hts (.fieldLink RX9 92 "DikeHandsModel" "houses" "I") (by decide +kernel)
  have hl : lv_has ls 5 [(0, .ref o), (1, .int v), (2, .int w)] := hl
  have j0 := hI.1
  have j7 := hI.2.1
  have j12 := hI.2.2.1
  have j18 := hI.2.2.2.1
  have t0_ := tn_of j0.1
  have t7_ := tn_of j7.1
  have t12_ := tn_of j12.1
  have t18_ := tn_of j18.1
  refine lv_iconst (v := 0) hx hb dX9_villageHands_0 (by decide) ?_
  refine lv_istore_n (lv' := [(3, .int 0), (0, .ref o), (1, .int v), (2, .int w)]) hx hb dX9_villageHands_1 rfl hl (by decide) rfl (fun ls hl => ?_)
  refine lv_iconst (v := 0) hx hb dX9_villageHands_2 (by decide) ?_
  refine lv_istore (lv' := [(4, .int 0), (3, .int 0), (0, .ref o), (1, .int v), (2, .int w)]) hx hb dX9_villageHands_3 hl (by decide) rfl (fun ls hl => ?_)
  refine g_loop (τ := Nat) (fun k => k ≤ tn (c 7)) (fun k => tn (c 7) - k) (fun k => n) (fun k => (GM E o c S)) (fun k => 0) (fun k => 0) (fun k => [(0, .ref o), (1, .int v), (2, .int w), (3, .int (vilN c S v w k)), (4, .int (nI k))]) ?_ 0 (Nat.zero_le _) H locs ls hP hS (lv_sub hl [2, 3, 4, 1, 0] rfl)
  intro k hI5 ih H locs ls hP hS hl
  try dsimp only at hI5
  have hl : lv_has ls 5 [(0, .ref o), (1, .int v), (2, .int w), (3, .int (vilN c S v w k)), (4, .int (nI k))] := hl
  have hP : gP E A n (GM E o c S) H := hP
  refine lv_iload hx hb dX9_villageHands_5 (lv_at hl 4 rfl) ?_
  refine lv_aload_n hx hb dX9_villageHands_7 rfl (lv_at hl 0 rfl) ?_
  refine m_get hx hb hts hin9 hown hK hP 7 (by decide) hf92 rfl rfl dX9_villageHands_8 ?_
  refine lv_icmp_ge (tgt := 45) hx hb dX9_villageHands_11 (by decide) (fun b11 => ?_) (fun b11 => ?_)
  · have hk3 := lp_ge j7.1 (by omega) b11
    have hke : k = tn (c 7) := by omega
    subst hke
    refine lv_iload_n hx hb dX9_villageHands_45 rfl (lv_at hl 3 rfl) ?_
    refine g_reti hx hb hr hlk hP hS dX9_villageHands_46 ?_
    exact ⟨rfl, rfl, rfl⟩
  · have hk3 := lp_lt j7.1 (by omega) b11
    refine lv_iload_n hx hb dX9_villageHands_14 rfl (lv_at hl 3 rfl) ?_
    refine lv_aload_n hx hb dX9_villageHands_15 rfl (lv_at hl 0 rfl) ?_
    refine m_get hx hb hts hin9 hown hK hP 8 (by decide) hf28 rfl rfl dX9_villageHands_16 ?_
    refine lv_iload hx hb dX9_villageHands_19 (lv_at hl 4 rfl) ?_
    refine m_iald_n hx hb hK hP 6 40 rfl (by decide) rfl (by omega) dX9_villageHands_21 ?_
    refine lv_iload_n hx hb dX9_villageHands_22 rfl (lv_at hl 1 rfl) ?_
    refine lv_icmp_ne (tgt := 36) hx hb dX9_villageHands_23 (by decide) (fun b23 => ?_) (fun b23 => ?_)
    · refine lv_iconst (v := 0) hx hb dX9_villageHands_36 (by decide) ?_
      refine lv_iadd hx hb dX9_villageHands_37 ?_
      refine lv_istore_n (lv' := [(3, .int ((vilN c S v w k) + 0)), (0, .ref o), (1, .int v), (2, .int w), (4, .int (nI k))]) hx hb dX9_villageHands_38 rfl hl (by decide) rfl (fun ls hl => ?_)
      refine lv_iinc (v := (nI k) + 1) (lv' := [(4, .int ((nI k) + 1)), (3, .int ((vilN c S v w k) + 0)), (0, .ref o), (1, .int v), (2, .int w)]) hx hb dX9_villageHands_39 hl (k := 4) rfl rfl (by decide) rfl (fun ls hl => ?_)
      refine lv_goto (tgt := 5) hx hb dX9_villageHands_42 (by decide) ?_
      refine ih (k + 1) (by omega) (by omega) H locs ls hP hS ?_
      show lv_has ls 5 [(0, .ref o), (1, .int v), (2, .int w), (3, .int (vilN c S v w (k + 1))), (4, .int (nI (k + 1)))]
      rw [show vilN c S v w (k + 1) = (vilN c S v w k) + 0 from by first | (simp [vilN, b11, Int32.not_le.mp b11, b23]; done) | (exfalso; simp_all; done), ← nI_1]
      exact lv_sub hl [2, 3, 4, 1, 0] rfl
    · refine lv_aload_n hx hb dX9_villageHands_26 rfl (lv_at hl 0 rfl) ?_
      refine lv_iload hx hb dX9_villageHands_27 (lv_at hl 4 rfl) ?_
      refine lv_iload_n hx hb dX9_villageHands_29 rfl (lv_at hl 2 rfl) ?_
      refine g_ci (g_runV (As := [.int (nI k), .int w]) (rest := [.int (vilN c S v w k)]) ⟨hx, hb, hml, hown, hts⟩ hK hP (kX9_trueHands l E A n o c S (nI k) w hI (vp_in_nI (by omega) (by decide))) (cwV 2 hts gX9_villageHands_X9_trueHands rfl rfl rfl (by decide +kernel) ⟨Nat.le_of_ble_eq_true rfl, Nat.le_of_ble_eq_true rfl⟩) GM_o rfl rfl hl.1 rfl (Nat.le_of_ble_eq_true rfl) dX9_villageHands_30 ⟨Nat.le_of_ble_eq_true rfl, Nat.le_of_ble_eq_true rfl⟩) hS (fun r30 n' G' H locs hw hP hS => ?_)
      obtain ⟨rfl, rfl, rfl⟩ := hw
      refine lv_goto (tgt := 37) hx hb dX9_villageHands_33 (by decide) ?_
      refine lv_iadd hx hb dX9_villageHands_37 ?_
      refine lv_istore_n (lv' := [(3, .int ((vilN c S v w k) + (truOf c S (nI k) w))), (0, .ref o), (1, .int v), (2, .int w), (4, .int (nI k))]) hx hb dX9_villageHands_38 rfl hl (by decide) rfl (fun ls hl => ?_)
      refine lv_iinc (v := (nI k) + 1) (lv' := [(4, .int ((nI k) + 1)), (3, .int ((vilN c S v w k) + (truOf c S (nI k) w))), (0, .ref o), (1, .int v), (2, .int w)]) hx hb dX9_villageHands_39 hl (k := 4) rfl rfl (by decide) rfl (fun ls hl => ?_)
      refine lv_goto (tgt := 5) hx hb dX9_villageHands_42 (by decide) ?_
      refine ih (k + 1) (by omega) (by omega) H locs ls hP hS ?_
      show lv_has ls 5 [(0, .ref o), (1, .int v), (2, .int w), (3, .int (vilN c S v w (k + 1))), (4, .int (nI (k + 1)))]
      rw [show vilN c S v w (k + 1) = (vilN c S v w k) + (truOf c S (nI k) w) from by first | (simp [vilN, b11, Int32.not_le.mp b11, b23]; done) | (exfalso; simp_all; done), ← nI_1]
      exact lv_sub hl [2, 3, 4, 1, 0] rfl
end
section
theorem fa_upd_twice (f : Nat → Int32) (i : Nat) (x y : Int32) : upd (upd f i x) i y = upd f i y := by
  funext j; by_cases h : j = i <;> simp [upd, h]
theorem yk_vp {h y : Int32} (hh : vp_in h 40) (hy : vp_in y 21) : vp_in (21 * h + y) 840 := by
  have h1 := vp_in_iff.mp hh
  have h2 := vp_in_iff.mp hy
  have e1 : (21 : Int32).toInt = 21 := rfl
  have h3 : (21 * h).toInt = 21 * h.toInt := by rw [fb_mulI] <;> rw [e1] <;> omega
  exact vp_in_iff.mpr ⟨by rw [fb_addI] <;> omega, by rw [fb_addI] <;> omega⟩
theorem yr_now {c : Nat → Int32} {S : Nat → Nat → Int32} (hI : mI c S) : (c 0 / 52).toInt = (c 0).toInt / 52 := divI hI.1.1 (by decide)
theorem yn_vp {c : Nat → Int32} {S : Nat → Nat → Int32} (hI : mI c S) : vp_in (c 0 / 52) 21 := by
  have h1 := yr_now hI
  have h2 := hI.1
  exact vp_in_iff.mpr ⟨by omega, by omega⟩
theorem yrB_vp {c : Nat → Int32} {S : Nat → Nat → Int32} {y : Int32} (hI : mI c S) (h : yrB c y = true) : vp_in y 21 := by
  have h1 := inB_i h
  have h2 := yr_now hI
  have h3 := hI.1
  have h0 : (0 : Int32).toInt = 0 := rfl
  exact vp_in_iff.mpr ⟨by omega, by omega⟩
theorem dd_vp {c : Nat → Int32} {S : Nat → Nat → Int32} {h : Int32} (hI : mI c S) (hh : vp_in h 40) (hn : ¬ c 0 = 1040) : vp_in (1040 * S 6 (tn h) + c 0) 8320 := by
  have h1 := vp_in_iff.mp hh
  have h4 := tn_of h1.1
  have h2 := hI.2.2.2.2 (tn h) (by omega)
  have h3 := hI.1
  have h5 : (c 0).toInt ≠ 1040 := fun q => hn (Int32.toInt_inj.mp (q.trans rfl))
  have e1 : (1040 : Int32).toInt = 1040 := rfl
  have h6 : (1040 * S 6 (tn h)).toInt = 1040 * (S 6 (tn h)).toInt := by rw [fb_mulI] <;> rw [e1] <;> omega
  exact vp_in_iff.mpr ⟨by rw [fb_addI] <;> omega, by rw [fb_addI] <;> omega⟩
theorem cnt_vp {x M : Int32} {N : Nat} (h0 : 0 ≤ x.toInt) (h1 : x.toInt ≤ N) (hM : M.toInt = N) (hn : ¬ x = M) : vp_in x N := by
  have h5 : x.toInt ≠ N := fun q => hn (Int32.toInt_inj.mp (q.trans hM.symm))
  exact vp_in_iff.mpr ⟨h0, by omega⟩
def owdOf (c : Nat → Int32) (S : Nat → Nat → Int32) (h y : Int32) : Int32 := if hsB c h && yrB c y then oweOf c S h y else -1
def lstOf (c : Nat → Int32) (S : Nat → Nat → Int32) (h y w : Int32) : Int32 := if hsB c h && yrB c y && inB w 0 1 && lstB S h y then lisOf c S h y w else -1
def calOf (S : Nat → Nat → Int32) (a b : Int32) : Int32 := if inB a 0 7 && inB b 0 7 then hrsOf (S 0 (tn a)) (S 0 (tn b)) 6 else -1
def tolOf (c : Nat → Int32) (S : Nat → Nat → Int32) (h y w : Int32) : Int32 := if hsB c h && yrB c y then (if w = 0 then oweOf c S h y else if w = 1 then S 18 (tn (21 * h + y)) else if w = 2 then S 19 (tn (21 * h + y)) else if w = 3 then S 20 (tn (21 * h + y)) else if w = 4 then yetOf c S h y else if w = 5 then S 22 (tn (21 * h + y)) else if w = 6 then S 21 (tn (21 * h + y)) else -1) else -1
def cntOf (c : Nat → Int32) (w : Int32) : Int32 := if w = 0 then c 0 else if w = 1 then c 7 else if w = 2 then c 18 else if w = 3 then c 12 else if w = 4 then c 29 else if w = 5 then c 30 else if w = 6 then c 31 else if w = 7 then c 32 else if w = 8 then c 33 else -1
def bnkOf (S : Nat → Nat → Int32) (a w b : Int32) : Int32 := if inB a 0 29 then (if w = 0 then S 1 (tn a) else if w = 1 then S 4 (tn a) else if w = 2 then S 5 (tn a) else if w = 3 then (if inB b 0 3000 then needOf S a b else -1) else -1) else -1
def vilB (a b : Int32) : Bool := inB a 0 7 && inB b 0 99
def vilS (S : Nat → Nat → Int32) (a b : Int32) : Nat → Nat → Int32 := if vilB a b then va_up S 0 (upd (S 0) (tn a) b) else S
def rodB (a b d : Int32) : Bool := inB a 0 29 && inB b 0 2 && inB d 0 10000
def rodS (S : Nat → Nat → Int32) (a b d : Int32) : Nat → Nat → Int32 := if rodB a b d then va_up (va_up S 2 (upd (S 2) (tn a) b)) 3 (upd (S 3) (tn a) d) else S
def raiH (S : Nat → Nat → Int32) (a k : Int32) : Int32 := if S 1 (tn a) + k * perOf S a ≤ 3000 then S 1 (tn a) + k * perOf S a else 3000
def raiS (S : Nat → Nat → Int32) (a k : Int32) : Nat → Nat → Int32 := va_up (va_up S 5 (upd (S 5) (tn a) (S 5 (tn a) + k))) 1 (upd (S 1) (tn a) (raiH S a k))
def endH (S : Nat → Nat → Int32) (a k : Int32) : Int32 := if k ≤ S 1 (tn a) then (if 0 ≤ S 1 (tn a) - k / 100 then S 1 (tn a) - k / 100 else 0) else 0
def endS (S : Nat → Nat → Int32) (a k : Int32) : Nat → Nat → Int32 := if k ≤ S 1 (tn a) then va_up S 1 (upd (S 1) (tn a) (endH S a k)) else va_up (va_up S 1 (upd (S 1) (tn a) 0)) 4 (upd (S 4) (tn a) (S 4 (tn a) + 1))
def endC (c : Nat → Int32) (S : Nat → Nat → Int32) (a k : Int32) : Nat → Int32 := if k ≤ S 1 (tn a) then c else va_up c 30 (c 30 + S 3 (tn a))
def lawB (c : Nat → Int32) (y w k : Int32) : Bool := inB y 0 19 && decide (0 ≤ w) && decide (w / 10000 ≤ 9) && decide (rem32 w 1000 ≤ 500) && inB k 0 100 && !decide (c 18 = 40)
def lawS (c : Nat → Int32) (S : Nat → Nat → Int32) (y w k : Int32) : Nat → Nat → Int32 := if lawB c y w k then va_up (va_up (va_up S 15 (upd (S 15) (tn (c 18)) y)) 16 (upd (S 16) (tn (c 18)) w)) 17 (upd (S 17) (tn (c 18)) k) else S
def lawC (c : Nat → Int32) (y w k : Int32) : Nat → Int32 := if lawB c y w k then va_up c 18 (c 18 + 1) else c
def lawR (c : Nat → Int32) (y w k : Int32) : Int32 := if lawB c y w k then c 18 + 1 else -1
def houB (c : Nat → Int32) (v a b : Int32) : Bool := inB v 0 7 && inB a 0 500 && inB b 0 20 && !decide (c 7 = 40)
def houS (c : Nat → Int32) (S : Nat → Nat → Int32) (v a b : Int32) : Nat → Nat → Int32 := if houB c v a b then va_up (va_up (va_up (va_up S 6 (upd (S 6) (tn (c 7)) v)) 7 (upd (S 7) (tn (c 7)) (c 0))) 8 (upd (S 8) (tn (c 7)) a)) 9 (upd (S 9) (tn (c 7)) b) else S
def houC (c : Nat → Int32) (v a b : Int32) : Nat → Int32 := if houB c v a b then va_up c 7 (c 7 + 1) else c
def houR (c : Nat → Int32) (v a b : Int32) : Int32 := if houB c v a b then c 7 + 1 - 1 else -1
def chgB (c : Nat → Int32) (S : Nat → Nat → Int32) (h w a b : Int32) : Bool := hsB c h && inB w (S 7 (tn h)) (c 0) && inB a 0 500 && inB b 0 20 && !decide (c 12 = 200)
def chgS (c : Nat → Int32) (S : Nat → Nat → Int32) (h w a b : Int32) : Nat → Nat → Int32 := if chgB c S h w a b then va_up (va_up (va_up (va_up (va_up S 10 (upd (S 10) (tn (c 12)) h)) 11 (upd (S 11) (tn (c 12)) w)) 12 (upd (S 12) (tn (c 12)) (c 0))) 13 (upd (S 13) (tn (c 12)) a)) 14 (upd (S 14) (tn (c 12)) b) else S
def chgC (c : Nat → Int32) (S : Nat → Nat → Int32) (h w a b : Int32) : Nat → Int32 := if chgB c S h w a b then va_up c 12 (c 12 + 1) else c

set_option maxHeartbeats 4000000 in
set_option maxRecDepth 100000 in
theorem kX9_owedOf (l : Launch) (E : gT) (A : Nat → Prop) (n : Nat) (o : Nat) (c : Nat → Int32) (S : Nat → Nat → Int32) (h y : Int32) (hI : mI c S) (hh : vp_in h 40) : gM l yX9_owedOf wsX9_owedOf ({ frames := 1, cells := 0, slots := 0, locals := 25 } : Room) E A n (GM E o c S) [.ref o, .int h, .int y] (gQi E A (fun r' n' G' => oweOf c S h y = r' ∧ n = n' ∧ (GM E o c S) = G')) 0 0 := by
  refine g_entry (by decide) rfl (Nat.le_of_ble_eq_true rfl) ?_
  intro p e s m below meth c0 hx hb hr hlk hml hown hnm hts hK H locs ls hP hS hl
  have hin9 : ∀ w ∈ u_ws RX9 TX9 35, w ∈ wsX9_owedOf := by decide +kernel
  have hf58 := hts (.fieldLink RX9 58 "DikeHandsModel" "lawWhat" "[I") (by decide +kernel)
  have hl : lv_has ls 5 [(0, .ref o), (1, .int h), (2, .int y)] := hl
  refine lv_aload_n hx hb dX9_owedOf_0 rfl (lv_at hl 0 rfl) ?_
  refine lv_iload_n hx hb dX9_owedOf_1 rfl (lv_at hl 2 rfl) ?_
  refine g_ci (g_runV (As := [.int y]) (rest := []) ⟨hx, hb, hml, hown, hts⟩ hK hP (kX9_lawOf l E A n o c S y hI) (cwV 1 hts gX9_owedOf_X9_lawOf rfl rfl rfl (by decide +kernel) ⟨Nat.le_of_ble_eq_true rfl, Nat.le_of_ble_eq_true rfl⟩) GM_o rfl rfl hl.1 rfl (Nat.le_of_ble_eq_true rfl) dX9_owedOf_2 ⟨Nat.le_of_ble_eq_true rfl, Nat.le_of_ble_eq_true rfl⟩) hS (fun r2 n' G' H locs hw hP hS => ?_)
  obtain ⟨rfl, rfl, rfl⟩ := hw
  refine lv_istore_n (lv' := [(3, .int (lawOf c S y)), (0, .ref o), (1, .int h), (2, .int y)]) hx hb dX9_owedOf_5 rfl hl (by decide) rfl (fun ls hl => ?_)
  refine lv_iload_n hx hb dX9_owedOf_6 rfl (lv_at hl 0 rfl) ?_
  refine lv_iconst (v := (-1)) hx hb dX9_owedOf_7 (by decide) ?_
  refine lv_icmp_eq (tgt := 20) hx hb dX9_owedOf_8 (by decide) (fun b8 => ?_) (fun b8 => ?_)
  · refine lv_iconst (v := 0) hx hb dX9_owedOf_20 (by decide) ?_
    refine g_reti hx hb hr hlk hP hS dX9_owedOf_21 ?_
    exact ⟨by first | (simp [oweOf, oweL, rem32, b8]; done) | (exfalso; simp_all; done), rfl, rfl⟩
  · refine lv_aload_n hx hb dX9_owedOf_11 rfl (lv_at hl 1 rfl) ?_
    refine lv_iload_n hx hb dX9_owedOf_12 rfl (lv_at hl 2 rfl) ?_
    refine lv_iload_n hx hb dX9_owedOf_13 rfl (lv_at hl 3 rfl) ?_
    refine g_ci (g_runV (As := [.int h, .int y]) (rest := []) ⟨hx, hb, hml, hown, hts⟩ hK hP (kX9_isListed l E A n o c S h y hh) (cwV 2 hts gX9_owedOf_X9_isListed rfl rfl rfl (by decide +kernel) ⟨Nat.le_of_ble_eq_true rfl, Nat.le_of_ble_eq_true rfl⟩) GM_o rfl rfl hl.1 rfl (Nat.le_of_ble_eq_true rfl) dX9_owedOf_14 ⟨Nat.le_of_ble_eq_true rfl, Nat.le_of_ble_eq_true rfl⟩) hS (fun r14 n' G' H locs hw hP hS => ?_)
    obtain ⟨rfl, rfl, rfl⟩ := hw
    refine g_ifne (tgt := 22) hx hb dX9_owedOf_17 (by decide) (fun b17 => ?_) (fun b17 => ?_)
    · refine lv_aload_n hx hb dX9_owedOf_22 rfl (lv_at hl 1 rfl) ?_
      refine lv_iload_n hx hb dX9_owedOf_23 rfl (lv_at hl 2 rfl) ?_
      refine lv_iload_n hx hb dX9_owedOf_24 rfl (lv_at hl 3 rfl) ?_
      refine lv_iconst (v := 0) hx hb dX9_owedOf_25 (by decide) ?_
      refine g_ci (g_runV (As := [.int h, .int y, .int 0]) (rest := []) ⟨hx, hb, hml, hown, hts⟩ hK hP (kX9_listedOf l E A n o c S h y 0 hI hh) (cwV 3 hts gX9_owedOf_X9_listedOf rfl rfl rfl (by decide +kernel) ⟨Nat.le_of_ble_eq_true rfl, Nat.le_of_ble_eq_true rfl⟩) GM_o rfl rfl hl.1 rfl (Nat.le_of_ble_eq_true rfl) dX9_owedOf_26 ⟨Nat.le_of_ble_eq_true rfl, Nat.le_of_ble_eq_true rfl⟩) hS (fun r26 n' G' H locs hw hP hS => ?_)
      obtain ⟨rfl, rfl, rfl⟩ := hw
      refine lv_istore (lv' := [(4, .int (lisOf c S h y 0)), (3, .int (lawOf c S y)), (0, .ref o), (1, .int h), (2, .int y)]) hx hb dX9_owedOf_29 hl (by decide) rfl (fun ls hl => ?_)
      refine lv_iload hx hb dX9_owedOf_31 (lv_at hl 0 rfl) ?_
      refine lv_aload_n hx hb dX9_owedOf_33 rfl (lv_at hl 2 rfl) ?_
      refine m_get hx hb hts hin9 hown hK hP 20 (by decide) hf58 rfl rfl dX9_owedOf_34 ?_
      refine lv_iload_n hx hb dX9_owedOf_37 rfl (lv_at hl 1 rfl) ?_
      refine m_iald hx hb hK hP 16 40 rfl (by decide) rfl (lawOf_vp hI b8) dX9_owedOf_38 ?_
      refine lv_sipush (v := 1000) hx hb dX9_owedOf_39 (by decide) ?_
      refine lv_irem hx hb dX9_owedOf_42 (by decide) ?_
      refine lv_icmp_ge (tgt := 48) hx hb dX9_owedOf_43 (by decide) (fun b43 => ?_) (fun b43 => ?_)
      · refine lv_iload hx hb dX9_owedOf_48 (lv_at hl 0 rfl) ?_
        refine lv_bipush (v := 10) hx hb dX9_owedOf_50 (by decide) ?_
        refine lv_idiv hx hb dX9_owedOf_52 (by decide) ?_
        refine lv_aload_n hx hb dX9_owedOf_53 rfl (lv_at hl 2 rfl) ?_
        refine m_get hx hb hts hin9 hown hK hP 20 (by decide) hf58 rfl rfl dX9_owedOf_54 ?_
        refine lv_iload_n hx hb dX9_owedOf_57 rfl (lv_at hl 1 rfl) ?_
        refine m_iald hx hb hK hP 16 40 rfl (by decide) rfl (lawOf_vp hI b8) dX9_owedOf_58 ?_
        refine lv_sipush (v := 10000) hx hb dX9_owedOf_59 (by decide) ?_
        refine lv_idiv hx hb dX9_owedOf_62 (by decide) ?_
        refine lv_imul hx hb dX9_owedOf_63 ?_
        refine lv_aload_n hx hb dX9_owedOf_64 rfl (lv_at hl 2 rfl) ?_
        refine lv_iload_n hx hb dX9_owedOf_65 rfl (lv_at hl 3 rfl) ?_
        refine lv_iload_n hx hb dX9_owedOf_66 rfl (lv_at hl 4 rfl) ?_
        refine lv_iconst (v := 1) hx hb dX9_owedOf_67 (by decide) ?_
        refine g_ci (g_runV (As := [.int h, .int y, .int 1]) (rest := [.int (((lisOf c S h y 0) / 10) * ((S 16 (tn (lawOf c S y))) / 10000))]) ⟨hx, hb, hml, hown, hts⟩ hK hP (kX9_listedOf l E A n o c S h y 1 hI hh) (cwV 3 hts gX9_owedOf_X9_listedOf rfl rfl rfl (by decide +kernel) ⟨Nat.le_of_ble_eq_true rfl, Nat.le_of_ble_eq_true rfl⟩) GM_o rfl rfl hl.1 rfl (Nat.le_of_ble_eq_true rfl) dX9_owedOf_68 ⟨Nat.le_of_ble_eq_true rfl, Nat.le_of_ble_eq_true rfl⟩) hS (fun r68 n' G' H locs hw hP hS => ?_)
        obtain ⟨rfl, rfl, rfl⟩ := hw
        refine lv_aload_n hx hb dX9_owedOf_71 rfl (lv_at hl 2 rfl) ?_
        refine m_get hx hb hts hin9 hown hK hP 20 (by decide) hf58 rfl rfl dX9_owedOf_72 ?_
        refine lv_iload_n hx hb dX9_owedOf_75 rfl (lv_at hl 1 rfl) ?_
        refine m_iald hx hb hK hP 16 40 rfl (by decide) rfl (lawOf_vp hI b8) dX9_owedOf_76 ?_
        refine lv_sipush (v := 1000) hx hb dX9_owedOf_77 (by decide) ?_
        refine lv_idiv hx hb dX9_owedOf_80 (by decide) ?_
        refine lv_bipush (v := 10) hx hb dX9_owedOf_81 (by decide) ?_
        refine lv_irem hx hb dX9_owedOf_83 (by decide) ?_
        refine lv_imul hx hb dX9_owedOf_84 ?_
        refine lv_iadd hx hb dX9_owedOf_85 ?_
        refine g_reti hx hb hr hlk hP hS dX9_owedOf_86 ?_
        exact ⟨by first | (simp [oweOf, oweL, rem32, b8, b17, b43, Int32.not_lt.mpr b43]; done) | (exfalso; simp_all; done), rfl, rfl⟩
      · refine lv_iconst (v := 0) hx hb dX9_owedOf_46 (by decide) ?_
        refine g_reti hx hb hr hlk hP hS dX9_owedOf_47 ?_
        exact ⟨by first | (simp [oweOf, oweL, rem32, b8, b17, b43, Int32.not_le.mp b43]; done) | (exfalso; simp_all; done), rfl, rfl⟩
    · refine lv_iconst (v := 0) hx hb dX9_owedOf_20 (by decide) ?_
      refine g_reti hx hb hr hlk hP hS dX9_owedOf_21 ?_
      exact ⟨by first | (simp [oweOf, oweL, rem32, b8, b17]; done) | (exfalso; simp_all; done), rfl, rfl⟩
set_option maxHeartbeats 4000000 in
set_option maxRecDepth 100000 in
theorem kX9_owed (l : Launch) (E : gT) (A : Nat → Prop) (n : Nat) (o : Nat) (c : Nat → Int32) (S : Nat → Nat → Int32) (h y : Int32) (hI : mI c S) : gM l yX9_owed wsX9_owed ({ frames := 2, cells := 0, slots := 0, locals := 49 } : Room) E A n (GM E o c S) [.ref o, .int h, .int y] (gQi E A (fun r' n' G' => owdOf c S h y = r' ∧ n = n' ∧ (GM E o c S) = G')) 0 0 := by
  refine g_entry (by decide) rfl (Nat.le_of_ble_eq_true rfl) ?_
  intro p e s m below meth c0 hx hb hr hlk hml hown hnm hts hK H locs ls hP hS hl
  have hl : lv_has ls 3 [(0, .ref o), (1, .int h), (2, .int y)] := hl
  refine lv_aload_n hx hb dX9_owed_0 rfl (lv_at hl 0 rfl) ?_
  refine lv_iload_n hx hb dX9_owed_1 rfl (lv_at hl 1 rfl) ?_
  refine g_ci (g_runV (As := [.int h]) (rest := []) ⟨hx, hb, hml, hown, hts⟩ hK hP (kX9_isHouse l E A n o c S h ) (cwV 1 hts gX9_owed_X9_isHouse rfl rfl rfl (by decide +kernel) ⟨Nat.le_of_ble_eq_true rfl, Nat.le_of_ble_eq_true rfl⟩) GM_o rfl rfl hl.1 rfl (Nat.le_of_ble_eq_true rfl) dX9_owed_2 ⟨Nat.le_of_ble_eq_true rfl, Nat.le_of_ble_eq_true rfl⟩) hS (fun r2 n' G' H locs hw hP hS => ?_)
  obtain ⟨rfl, rfl, rfl⟩ := hw
  refine g_ifeq (tgt := 25) hx hb dX9_owed_5 (by decide) (fun b5 => ?_) (fun b5 => ?_)
  · refine lv_iconst (v := (-1)) hx hb dX9_owed_25 (by decide) ?_
    refine g_reti hx hb hr hlk hP hS dX9_owed_26 ?_
    exact ⟨by first | (simp [owdOf, b5]; done) | (exfalso; simp_all; done), rfl, rfl⟩
  · refine lv_aload_n hx hb dX9_owed_8 rfl (lv_at hl 0 rfl) ?_
    refine lv_iload_n hx hb dX9_owed_9 rfl (lv_at hl 2 rfl) ?_
    refine g_ci (g_runV (As := [.int y]) (rest := []) ⟨hx, hb, hml, hown, hts⟩ hK hP (kX9_isYear l E A n o c S y ) (cwV 1 hts gX9_owed_X9_isYear rfl rfl rfl (by decide +kernel) ⟨Nat.le_of_ble_eq_true rfl, Nat.le_of_ble_eq_true rfl⟩) GM_o rfl rfl hl.1 rfl (Nat.le_of_ble_eq_true rfl) dX9_owed_10 ⟨Nat.le_of_ble_eq_true rfl, Nat.le_of_ble_eq_true rfl⟩) hS (fun r10 n' G' H locs hw hP hS => ?_)
    obtain ⟨rfl, rfl, rfl⟩ := hw
    refine g_ifeq (tgt := 25) hx hb dX9_owed_13 (by decide) (fun b13 => ?_) (fun b13 => ?_)
    · refine lv_iconst (v := (-1)) hx hb dX9_owed_25 (by decide) ?_
      refine g_reti hx hb hr hlk hP hS dX9_owed_26 ?_
      exact ⟨by first | (simp [owdOf, b5, b13]; done) | (exfalso; simp_all; done), rfl, rfl⟩
    · refine lv_aload_n hx hb dX9_owed_16 rfl (lv_at hl 0 rfl) ?_
      refine lv_iload_n hx hb dX9_owed_17 rfl (lv_at hl 1 rfl) ?_
      refine lv_iload_n hx hb dX9_owed_18 rfl (lv_at hl 2 rfl) ?_
      refine g_ci (g_runV (As := [.int h, .int y]) (rest := []) ⟨hx, hb, hml, hown, hts⟩ hK hP (kX9_owedOf l E A n o c S h y hI (hsB_vp hI b5)) (cwV 2 hts gX9_owed_X9_owedOf rfl rfl rfl (by decide +kernel) ⟨Nat.le_of_ble_eq_true rfl, Nat.le_of_ble_eq_true rfl⟩) GM_o rfl rfl hl.1 rfl (Nat.le_of_ble_eq_true rfl) dX9_owed_19 ⟨Nat.le_of_ble_eq_true rfl, Nat.le_of_ble_eq_true rfl⟩) hS (fun r19 n' G' H locs hw hP hS => ?_)
      obtain ⟨rfl, rfl, rfl⟩ := hw
      refine lv_goto (tgt := 26) hx hb dX9_owed_22 (by decide) ?_
      refine g_reti hx hb hr hlk hP hS dX9_owed_26 ?_
      exact ⟨by first | (simp [owdOf, b5, b13]; done) | (exfalso; simp_all; done), rfl, rfl⟩
set_option maxHeartbeats 4000000 in
set_option maxRecDepth 100000 in
theorem kX9_yet (l : Launch) (E : gT) (A : Nat → Prop) (n : Nat) (o : Nat) (c : Nat → Int32) (S : Nat → Nat → Int32) (h y : Int32) (hI : mI c S) (hh : vp_in h 40) (hy : vp_in y 21) : gM l yX9_yet wsX9_yet ({ frames := 2, cells := 0, slots := 0, locals := 49 } : Room) E A n (GM E o c S) [.ref o, .int h, .int y] (gQi E A (fun r' n' G' => yetOf c S h y = r' ∧ n = n' ∧ (GM E o c S) = G')) 0 0 := by
  refine g_entry (by decide) rfl (Nat.le_of_ble_eq_true rfl) ?_
  intro p e s m below meth c0 hx hb hr hlk hml hown hnm hts hK H locs ls hP hS hl
  have hin9 : ∀ w ∈ u_ws RX9 TX9 35, w ∈ wsX9_yet := by decide +kernel
  have hf64 := hts (.fieldLink RX9 64 "DikeHandsModel" "own" "[I") (by decide +kernel)
  have hf67 := hts (.fieldLink RX9 67 "DikeHandsModel" "others" "[I") (by decide +kernel)
  have hf70 := hts (.fieldLink RX9 70 "DikeHandsModel" "bought" "[I") (by decide +kernel)
  have hl : lv_has ls 5 [(0, .ref o), (1, .int h), (2, .int y)] := hl
  refine lv_bipush (v := 21) hx hb dX9_yet_0 (by decide) ?_
  refine lv_iload_n hx hb dX9_yet_2 rfl (lv_at hl 1 rfl) ?_
  refine lv_imul hx hb dX9_yet_3 ?_
  refine lv_iload_n hx hb dX9_yet_4 rfl (lv_at hl 2 rfl) ?_
  refine lv_iadd hx hb dX9_yet_5 ?_
  refine lv_istore_n (lv' := [(3, .int ((21 * h) + y)), (0, .ref o), (1, .int h), (2, .int y)]) hx hb dX9_yet_6 rfl hl (by decide) rfl (fun ls hl => ?_)
  refine lv_aload_n hx hb dX9_yet_7 rfl (lv_at hl 1 rfl) ?_
  refine lv_iload_n hx hb dX9_yet_8 rfl (lv_at hl 2 rfl) ?_
  refine lv_iload_n hx hb dX9_yet_9 rfl (lv_at hl 3 rfl) ?_
  refine g_ci (g_runV (As := [.int h, .int y]) (rest := []) ⟨hx, hb, hml, hown, hts⟩ hK hP (kX9_owedOf l E A n o c S h y hI hh) (cwV 2 hts gX9_yet_X9_owedOf rfl rfl rfl (by decide +kernel) ⟨Nat.le_of_ble_eq_true rfl, Nat.le_of_ble_eq_true rfl⟩) GM_o rfl rfl hl.1 rfl (Nat.le_of_ble_eq_true rfl) dX9_yet_10 ⟨Nat.le_of_ble_eq_true rfl, Nat.le_of_ble_eq_true rfl⟩) hS (fun r10 n' G' H locs hw hP hS => ?_)
  obtain ⟨rfl, rfl, rfl⟩ := hw
  refine lv_aload_n hx hb dX9_yet_13 rfl (lv_at hl 1 rfl) ?_
  refine m_get hx hb hts hin9 hown hK hP 22 (by decide) hf64 rfl rfl dX9_yet_14 ?_
  refine lv_iload_n hx hb dX9_yet_17 rfl (lv_at hl 0 rfl) ?_
  refine m_iald hx hb hK hP 18 840 rfl (by decide) rfl (yk_vp hh hy) dX9_yet_18 ?_
  refine lv_isub hx hb dX9_yet_19 ?_
  refine lv_aload_n hx hb dX9_yet_20 rfl (lv_at hl 1 rfl) ?_
  refine m_get hx hb hts hin9 hown hK hP 23 (by decide) hf67 rfl rfl dX9_yet_21 ?_
  refine lv_iload_n hx hb dX9_yet_24 rfl (lv_at hl 0 rfl) ?_
  refine m_iald hx hb hK hP 19 840 rfl (by decide) rfl (yk_vp hh hy) dX9_yet_25 ?_
  refine lv_isub hx hb dX9_yet_26 ?_
  refine lv_aload_n hx hb dX9_yet_27 rfl (lv_at hl 1 rfl) ?_
  refine m_get hx hb hts hin9 hown hK hP 24 (by decide) hf70 rfl rfl dX9_yet_28 ?_
  refine lv_iload_n hx hb dX9_yet_31 rfl (lv_at hl 0 rfl) ?_
  refine m_iald hx hb hK hP 20 840 rfl (by decide) rfl (yk_vp hh hy) dX9_yet_32 ?_
  refine lv_isub hx hb dX9_yet_33 ?_
  refine lv_istore (lv' := [(4, .int ((((oweOf c S h y) - (S 18 (tn ((21 * h) + y)))) - (S 19 (tn ((21 * h) + y)))) - (S 20 (tn ((21 * h) + y))))), (3, .int ((21 * h) + y)), (0, .ref o), (1, .int h), (2, .int y)]) hx hb dX9_yet_34 hl (by decide) rfl (fun ls hl => ?_)
  refine lv_iload hx hb dX9_yet_36 (lv_at hl 0 rfl) ?_
  refine lv_if_le (tgt := 46) hx hb dX9_yet_38 (by decide) (fun b38 => ?_) (fun b38 => ?_)
  · refine lv_iconst (v := 0) hx hb dX9_yet_46 (by decide) ?_
    refine g_reti hx hb hr hlk hP hS dX9_yet_47 ?_
    exact ⟨by first | (simp [yetOf, yet0, b38, Int32.not_lt.mpr b38]; done) | (exfalso; simp_all; done), rfl, rfl⟩
  · refine lv_iload hx hb dX9_yet_41 (lv_at hl 0 rfl) ?_
    refine lv_goto (tgt := 47) hx hb dX9_yet_43 (by decide) ?_
    refine g_reti hx hb hr hlk hP hS dX9_yet_47 ?_
    exact ⟨by first | (simp [yetOf, yet0, b38, Int32.not_le.mp b38]; done) | (exfalso; simp_all; done), rfl, rfl⟩
set_option maxHeartbeats 4000000 in
set_option maxRecDepth 100000 in
theorem kX9_listed (l : Launch) (E : gT) (A : Nat → Prop) (n : Nat) (o : Nat) (c : Nat → Int32) (S : Nat → Nat → Int32) (h y w : Int32) (hI : mI c S) : gM l yX9_listed wsX9_listed ({ frames := 2, cells := 0, slots := 0, locals := 43 } : Room) E A n (GM E o c S) [.ref o, .int h, .int y, .int w] (gQi E A (fun r' n' G' => lstOf c S h y w = r' ∧ n = n' ∧ (GM E o c S) = G')) 0 0 := by
  refine g_entry (by decide) rfl (Nat.le_of_ble_eq_true rfl) ?_
  intro p e s m below meth c0 hx hb hr hlk hml hown hnm hts hK H locs ls hP hS hl
  have hl : lv_has ls 4 [(0, .ref o), (1, .int h), (2, .int y), (3, .int w)] := hl
  refine lv_aload_n hx hb dX9_listed_0 rfl (lv_at hl 0 rfl) ?_
  refine lv_iload_n hx hb dX9_listed_1 rfl (lv_at hl 1 rfl) ?_
  refine g_ci (g_runV (As := [.int h]) (rest := []) ⟨hx, hb, hml, hown, hts⟩ hK hP (kX9_isHouse l E A n o c S h ) (cwV 1 hts gX9_listed_X9_isHouse rfl rfl rfl (by decide +kernel) ⟨Nat.le_of_ble_eq_true rfl, Nat.le_of_ble_eq_true rfl⟩) GM_o rfl rfl hl.1 rfl (Nat.le_of_ble_eq_true rfl) dX9_listed_2 ⟨Nat.le_of_ble_eq_true rfl, Nat.le_of_ble_eq_true rfl⟩) hS (fun r2 n' G' H locs hw hP hS => ?_)
  obtain ⟨rfl, rfl, rfl⟩ := hw
  refine g_ifeq (tgt := 34) hx hb dX9_listed_5 (by decide) (fun b5 => ?_) (fun b5 => ?_)
  · refine lv_iconst (v := (-1)) hx hb dX9_listed_34 (by decide) ?_
    refine g_reti hx hb hr hlk hP hS dX9_listed_35 ?_
    exact ⟨by first | (simp [lstOf, b5]; done) | (exfalso; simp_all; done), rfl, rfl⟩
  · refine lv_aload_n hx hb dX9_listed_8 rfl (lv_at hl 0 rfl) ?_
    refine lv_iload_n hx hb dX9_listed_9 rfl (lv_at hl 2 rfl) ?_
    refine g_ci (g_runV (As := [.int y]) (rest := []) ⟨hx, hb, hml, hown, hts⟩ hK hP (kX9_isYear l E A n o c S y ) (cwV 1 hts gX9_listed_X9_isYear rfl rfl rfl (by decide +kernel) ⟨Nat.le_of_ble_eq_true rfl, Nat.le_of_ble_eq_true rfl⟩) GM_o rfl rfl hl.1 rfl (Nat.le_of_ble_eq_true rfl) dX9_listed_10 ⟨Nat.le_of_ble_eq_true rfl, Nat.le_of_ble_eq_true rfl⟩) hS (fun r10 n' G' H locs hw hP hS => ?_)
    obtain ⟨rfl, rfl, rfl⟩ := hw
    refine g_ifeq (tgt := 34) hx hb dX9_listed_13 (by decide) (fun b13 => ?_) (fun b13 => ?_)
    · refine lv_iconst (v := (-1)) hx hb dX9_listed_34 (by decide) ?_
      refine g_reti hx hb hr hlk hP hS dX9_listed_35 ?_
      exact ⟨by first | (simp [lstOf, b5, b13]; done) | (exfalso; simp_all; done), rfl, rfl⟩
    · refine lv_iload_n hx hb dX9_listed_16 rfl (lv_at hl 3 rfl) ?_
      refine lv_iconst (v := 0) hx hb dX9_listed_17 (by decide) ?_
      refine lv_iconst (v := 1) hx hb dX9_listed_18 (by decide) ?_
      refine g_ci (g_runS (As := [.int w, .int 0, .int 1]) (rest := []) ⟨hx, hb, hml, hown, hts⟩ hK hP (kX9_in l E A n (GM E o c S) w 0 1) (va_cwS 3 hts gX9_listed_X9_in rfl rfl rfl (by decide +kernel) ⟨Nat.le_of_ble_eq_true rfl, Nat.le_of_ble_eq_true rfl⟩) rfl hl.1 rfl (Nat.le_of_ble_eq_true rfl) dX9_listed_19 ⟨Nat.le_of_ble_eq_true rfl, Nat.le_of_ble_eq_true rfl⟩) hS (fun r19 n' G' H locs hw hP hS => ?_)
      obtain ⟨rfl, rfl, rfl⟩ := hw
      refine g_ifeq (tgt := 34) hx hb dX9_listed_22 (by decide) (fun b22 => ?_) (fun b22 => ?_)
      · refine lv_iconst (v := (-1)) hx hb dX9_listed_34 (by decide) ?_
        refine g_reti hx hb hr hlk hP hS dX9_listed_35 ?_
        exact ⟨by first | (simp [lstOf, b5, b13, b22]; done) | (exfalso; simp_all; done), rfl, rfl⟩
      · refine lv_aload_n hx hb dX9_listed_25 rfl (lv_at hl 0 rfl) ?_
        refine lv_iload_n hx hb dX9_listed_26 rfl (lv_at hl 1 rfl) ?_
        refine lv_iload_n hx hb dX9_listed_27 rfl (lv_at hl 2 rfl) ?_
        refine g_ci (g_runV (As := [.int h, .int y]) (rest := []) ⟨hx, hb, hml, hown, hts⟩ hK hP (kX9_isListed l E A n o c S h y (hsB_vp hI b5)) (cwV 2 hts gX9_listed_X9_isListed rfl rfl rfl (by decide +kernel) ⟨Nat.le_of_ble_eq_true rfl, Nat.le_of_ble_eq_true rfl⟩) GM_o rfl rfl hl.1 rfl (Nat.le_of_ble_eq_true rfl) dX9_listed_28 ⟨Nat.le_of_ble_eq_true rfl, Nat.le_of_ble_eq_true rfl⟩) hS (fun r28 n' G' H locs hw hP hS => ?_)
        obtain ⟨rfl, rfl, rfl⟩ := hw
        refine g_ifne (tgt := 36) hx hb dX9_listed_31 (by decide) (fun b31 => ?_) (fun b31 => ?_)
        · refine lv_aload_n hx hb dX9_listed_36 rfl (lv_at hl 0 rfl) ?_
          refine lv_iload_n hx hb dX9_listed_37 rfl (lv_at hl 1 rfl) ?_
          refine lv_iload_n hx hb dX9_listed_38 rfl (lv_at hl 2 rfl) ?_
          refine lv_iload_n hx hb dX9_listed_39 rfl (lv_at hl 3 rfl) ?_
          refine g_ci (g_runV (As := [.int h, .int y, .int w]) (rest := []) ⟨hx, hb, hml, hown, hts⟩ hK hP (kX9_listedOf l E A n o c S h y w hI (hsB_vp hI b5)) (cwV 3 hts gX9_listed_X9_listedOf rfl rfl rfl (by decide +kernel) ⟨Nat.le_of_ble_eq_true rfl, Nat.le_of_ble_eq_true rfl⟩) GM_o rfl rfl hl.1 rfl (Nat.le_of_ble_eq_true rfl) dX9_listed_40 ⟨Nat.le_of_ble_eq_true rfl, Nat.le_of_ble_eq_true rfl⟩) hS (fun r40 n' G' H locs hw hP hS => ?_)
          obtain ⟨rfl, rfl, rfl⟩ := hw
          refine g_reti hx hb hr hlk hP hS dX9_listed_43 ?_
          exact ⟨by first | (simp [lstOf, b5, b13, b22, b31]; done) | (exfalso; simp_all; done), rfl, rfl⟩
        · refine lv_iconst (v := (-1)) hx hb dX9_listed_34 (by decide) ?_
          refine g_reti hx hb hr hlk hP hS dX9_listed_35 ?_
          exact ⟨by first | (simp [lstOf, b5, b13, b22, b31]; done) | (exfalso; simp_all; done), rfl, rfl⟩
set_option maxHeartbeats 4000000 in
set_option maxRecDepth 100000 in
theorem kX9_called (l : Launch) (E : gT) (A : Nat → Prop) (n : Nat) (o : Nat) (c : Nat → Int32) (S : Nat → Nat → Int32) (a b : Int32)  : gM l yX9_called wsX9_called ({ frames := 2, cells := 0, slots := 0, locals := 42 } : Room) E A n (GM E o c S) [.ref o, .int a, .int b] (gQi E A (fun r' n' G' => calOf S a b = r' ∧ n = n' ∧ (GM E o c S) = G')) 0 0 := by
  refine g_entry (by decide) rfl (Nat.le_of_ble_eq_true rfl) ?_
  intro p e s m below meth c0 hx hb hr hlk hml hown hnm hts hK H locs ls hP hS hl
  have hin9 : ∀ w ∈ u_ws RX9 TX9 35, w ∈ wsX9_called := by decide +kernel
  have hf9 := hts (.fieldLink RX9 9 "DikeHandsModel" "mile" "[I") (by decide +kernel)
  have hl : lv_has ls 3 [(0, .ref o), (1, .int a), (2, .int b)] := hl
  refine lv_iload_n hx hb dX9_called_0 rfl (lv_at hl 1 rfl) ?_
  refine g_ci (g_runS (As := [.int a]) (rest := []) ⟨hx, hb, hml, hown, hts⟩ hK hP (kX9_isVillage l E A n (GM E o c S) a) (va_cwS 1 hts gX9_called_X9_isVillage rfl rfl rfl (by decide +kernel) ⟨Nat.le_of_ble_eq_true rfl, Nat.le_of_ble_eq_true rfl⟩) rfl hl.1 rfl (Nat.le_of_ble_eq_true rfl) dX9_called_1 ⟨Nat.le_of_ble_eq_true rfl, Nat.le_of_ble_eq_true rfl⟩) hS (fun r1 n' G' H locs hw hP hS => ?_)
  obtain ⟨rfl, rfl, rfl⟩ := hw
  refine g_ifeq (tgt := 34) hx hb dX9_called_4 (by decide) (fun b4 => ?_) (fun b4 => ?_)
  · refine lv_iconst (v := (-1)) hx hb dX9_called_34 (by decide) ?_
    refine g_reti hx hb hr hlk hP hS dX9_called_35 ?_
    exact ⟨by first | (simp [calOf, b4]; done) | (exfalso; simp_all; done), rfl, rfl⟩
  · refine lv_iload_n hx hb dX9_called_7 rfl (lv_at hl 2 rfl) ?_
    refine g_ci (g_runS (As := [.int b]) (rest := []) ⟨hx, hb, hml, hown, hts⟩ hK hP (kX9_isVillage l E A n (GM E o c S) b) (va_cwS 1 hts gX9_called_X9_isVillage rfl rfl rfl (by decide +kernel) ⟨Nat.le_of_ble_eq_true rfl, Nat.le_of_ble_eq_true rfl⟩) rfl hl.1 rfl (Nat.le_of_ble_eq_true rfl) dX9_called_8 ⟨Nat.le_of_ble_eq_true rfl, Nat.le_of_ble_eq_true rfl⟩) hS (fun r8 n' G' H locs hw hP hS => ?_)
    obtain ⟨rfl, rfl, rfl⟩ := hw
    refine g_ifeq (tgt := 34) hx hb dX9_called_11 (by decide) (fun b11 => ?_) (fun b11 => ?_)
    · refine lv_iconst (v := (-1)) hx hb dX9_called_34 (by decide) ?_
      refine g_reti hx hb hr hlk hP hS dX9_called_35 ?_
      exact ⟨by first | (simp [calOf, b4, b11]; done) | (exfalso; simp_all; done), rfl, rfl⟩
    · refine lv_aload_n hx hb dX9_called_14 rfl (lv_at hl 0 rfl) ?_
      refine m_get hx hb hts hin9 hown hK hP 1 (by decide) hf9 rfl rfl dX9_called_15 ?_
      refine lv_iload_n hx hb dX9_called_18 rfl (lv_at hl 1 rfl) ?_
      refine m_iald hx hb hK hP 0 8 rfl (by decide) rfl (inB_vp b4 (by decide)) dX9_called_19 ?_
      refine lv_aload_n hx hb dX9_called_20 rfl (lv_at hl 0 rfl) ?_
      refine m_get hx hb hts hin9 hown hK hP 1 (by decide) hf9 rfl rfl dX9_called_21 ?_
      refine lv_iload_n hx hb dX9_called_24 rfl (lv_at hl 2 rfl) ?_
      refine m_iald hx hb hK hP 0 8 rfl (by decide) rfl (inB_vp b11 (by decide)) dX9_called_25 ?_
      refine lv_bipush (v := 6) hx hb dX9_called_26 (by decide) ?_
      refine g_ci (g_runS (As := [.int (S 0 (tn a)), .int (S 0 (tn b)), .int 6]) (rest := []) ⟨hx, hb, hml, hown, hts⟩ hK hP (kX9_hours l E A n (GM E o c S) (S 0 (tn a)) (S 0 (tn b)) 6 (by decide)) (va_cwS 3 hts gX9_called_X9_hours rfl rfl rfl (by decide +kernel) ⟨Nat.le_of_ble_eq_true rfl, Nat.le_of_ble_eq_true rfl⟩) rfl hl.1 rfl (Nat.le_of_ble_eq_true rfl) dX9_called_28 ⟨Nat.le_of_ble_eq_true rfl, Nat.le_of_ble_eq_true rfl⟩) hS (fun r28 n' G' H locs hw hP hS => ?_)
      obtain ⟨rfl, rfl, rfl⟩ := hw
      refine lv_goto (tgt := 35) hx hb dX9_called_31 (by decide) ?_
      refine g_reti hx hb hr hlk hP hS dX9_called_35 ?_
      exact ⟨by first | (simp [calOf, b4, b11]; done) | (exfalso; simp_all; done), rfl, rfl⟩
set_option maxHeartbeats 4000000 in
set_option maxRecDepth 100000 in
theorem kX9_told (l : Launch) (E : gT) (A : Nat → Prop) (n : Nat) (o : Nat) (c : Nat → Int32) (S : Nat → Nat → Int32) (h y w : Int32) (hI : mI c S) : gM l yX9_told wsX9_told ({ frames := 3, cells := 0, slots := 0, locals := 73 } : Room) E A n (GM E o c S) [.ref o, .int h, .int y, .int w] (gQi E A (fun r' n' G' => tolOf c S h y w = r' ∧ n = n' ∧ (GM E o c S) = G')) 0 0 := by
  refine g_entry (by decide) rfl (Nat.le_of_ble_eq_true rfl) ?_
  intro p e s m below meth c0 hx hb hr hlk hml hown hnm hts hK H locs ls hP hS hl
  have hin9 : ∀ w ∈ u_ws RX9 TX9 35, w ∈ wsX9_told := by decide +kernel
  have hf64 := hts (.fieldLink RX9 64 "DikeHandsModel" "own" "[I") (by decide +kernel)
  have hf67 := hts (.fieldLink RX9 67 "DikeHandsModel" "others" "[I") (by decide +kernel)
  have hf70 := hts (.fieldLink RX9 70 "DikeHandsModel" "bought" "[I") (by decide +kernel)
  have hf73 := hts (.fieldLink RX9 73 "DikeHandsModel" "forOthers" "[I") (by decide +kernel)
  have hf76 := hts (.fieldLink RX9 76 "DikeHandsModel" "substitute" "[I") (by decide +kernel)
  have hl : lv_has ls 5 [(0, .ref o), (1, .int h), (2, .int y), (3, .int w)] := hl
  refine lv_aload_n hx hb dX9_told_0 rfl (lv_at hl 0 rfl) ?_
  refine lv_iload_n hx hb dX9_told_1 rfl (lv_at hl 1 rfl) ?_
  refine g_ci (g_runV (As := [.int h]) (rest := []) ⟨hx, hb, hml, hown, hts⟩ hK hP (kX9_isHouse l E A n o c S h ) (cwV 1 hts gX9_told_X9_isHouse rfl rfl rfl (by decide +kernel) ⟨Nat.le_of_ble_eq_true rfl, Nat.le_of_ble_eq_true rfl⟩) GM_o rfl rfl hl.1 rfl (Nat.le_of_ble_eq_true rfl) dX9_told_2 ⟨Nat.le_of_ble_eq_true rfl, Nat.le_of_ble_eq_true rfl⟩) hS (fun r2 n' G' H locs hw hP hS => ?_)
  obtain ⟨rfl, rfl, rfl⟩ := hw
  refine g_ifeq (tgt := 16) hx hb dX9_told_5 (by decide) (fun b5 => ?_) (fun b5 => ?_)
  · refine lv_iconst (v := (-1)) hx hb dX9_told_16 (by decide) ?_
    refine g_reti hx hb hr hlk hP hS dX9_told_17 ?_
    exact ⟨by first | (simp [tolOf, b5]; done) | (exfalso; simp_all; done), rfl, rfl⟩
  · refine lv_aload_n hx hb dX9_told_8 rfl (lv_at hl 0 rfl) ?_
    refine lv_iload_n hx hb dX9_told_9 rfl (lv_at hl 2 rfl) ?_
    refine g_ci (g_runV (As := [.int y]) (rest := []) ⟨hx, hb, hml, hown, hts⟩ hK hP (kX9_isYear l E A n o c S y ) (cwV 1 hts gX9_told_X9_isYear rfl rfl rfl (by decide +kernel) ⟨Nat.le_of_ble_eq_true rfl, Nat.le_of_ble_eq_true rfl⟩) GM_o rfl rfl hl.1 rfl (Nat.le_of_ble_eq_true rfl) dX9_told_10 ⟨Nat.le_of_ble_eq_true rfl, Nat.le_of_ble_eq_true rfl⟩) hS (fun r10 n' G' H locs hw hP hS => ?_)
    obtain ⟨rfl, rfl, rfl⟩ := hw
    refine g_ifne (tgt := 18) hx hb dX9_told_13 (by decide) (fun b13 => ?_) (fun b13 => ?_)
    · refine lv_bipush (v := 21) hx hb dX9_told_18 (by decide) ?_
      refine lv_iload_n hx hb dX9_told_20 rfl (lv_at hl 1 rfl) ?_
      refine lv_imul hx hb dX9_told_21 ?_
      refine lv_iload_n hx hb dX9_told_22 rfl (lv_at hl 2 rfl) ?_
      refine lv_iadd hx hb dX9_told_23 ?_
      refine lv_istore (lv' := [(4, .int ((21 * h) + y)), (0, .ref o), (1, .int h), (2, .int y), (3, .int w)]) hx hb dX9_told_24 hl (by decide) rfl (fun ls hl => ?_)
      refine lv_iload_n hx hb dX9_told_26 rfl (lv_at hl 4 rfl) ?_
      by_cases s27_0 : w = 0
      · refine lv_tableIn (tgt := 68) hx hb dX9_told_27 (by rw [s27_0]; decide) (by rw [s27_0]; decide) (by rw [s27_0]; rfl) (by decide) ?_
        refine lv_aload_n hx hb dX9_told_68 rfl (lv_at hl 1 rfl) ?_
        refine lv_iload_n hx hb dX9_told_69 rfl (lv_at hl 2 rfl) ?_
        refine lv_iload_n hx hb dX9_told_70 rfl (lv_at hl 3 rfl) ?_
        refine g_ci (g_runV (As := [.int h, .int y]) (rest := []) ⟨hx, hb, hml, hown, hts⟩ hK hP (kX9_owedOf l E A n o c S h y hI (hsB_vp hI b5)) (cwV 2 hts gX9_told_X9_owedOf rfl rfl rfl (by decide +kernel) ⟨Nat.le_of_ble_eq_true rfl, Nat.le_of_ble_eq_true rfl⟩) GM_o rfl rfl hl.1 rfl (Nat.le_of_ble_eq_true rfl) dX9_told_71 ⟨Nat.le_of_ble_eq_true rfl, Nat.le_of_ble_eq_true rfl⟩) hS (fun r71 n' G' H locs hw hP hS => ?_)
        obtain ⟨rfl, rfl, rfl⟩ := hw
        refine g_reti hx hb hr hlk hP hS dX9_told_74 ?_
        exact ⟨by first | (simp [tolOf, b5, b13, s27_0]; done) | (exfalso; simp_all; done), rfl, rfl⟩
      by_cases s27_1 : w = 1
      · refine lv_tableIn (tgt := 75) hx hb dX9_told_27 (by rw [s27_1]; decide) (by rw [s27_1]; decide) (by rw [s27_1]; rfl) (by decide) ?_
        refine lv_aload_n hx hb dX9_told_75 rfl (lv_at hl 1 rfl) ?_
        refine m_get hx hb hts hin9 hown hK hP 22 (by decide) hf64 rfl rfl dX9_told_76 ?_
        refine lv_iload hx hb dX9_told_79 (lv_at hl 0 rfl) ?_
        refine m_iald hx hb hK hP 18 840 rfl (by decide) rfl (yk_vp (hsB_vp hI b5) (yrB_vp hI b13)) dX9_told_81 ?_
        refine g_reti hx hb hr hlk hP hS dX9_told_82 ?_
        exact ⟨by first | (simp [tolOf, b5, b13, s27_0, s27_1]; done) | (exfalso; simp_all; done), rfl, rfl⟩
      by_cases s27_2 : w = 2
      · refine lv_tableIn (tgt := 83) hx hb dX9_told_27 (by rw [s27_2]; decide) (by rw [s27_2]; decide) (by rw [s27_2]; rfl) (by decide) ?_
        refine lv_aload_n hx hb dX9_told_83 rfl (lv_at hl 1 rfl) ?_
        refine m_get hx hb hts hin9 hown hK hP 23 (by decide) hf67 rfl rfl dX9_told_84 ?_
        refine lv_iload hx hb dX9_told_87 (lv_at hl 0 rfl) ?_
        refine m_iald hx hb hK hP 19 840 rfl (by decide) rfl (yk_vp (hsB_vp hI b5) (yrB_vp hI b13)) dX9_told_89 ?_
        refine g_reti hx hb hr hlk hP hS dX9_told_90 ?_
        exact ⟨by first | (simp [tolOf, b5, b13, s27_0, s27_1, s27_2]; done) | (exfalso; simp_all; done), rfl, rfl⟩
      by_cases s27_3 : w = 3
      · refine lv_tableIn (tgt := 91) hx hb dX9_told_27 (by rw [s27_3]; decide) (by rw [s27_3]; decide) (by rw [s27_3]; rfl) (by decide) ?_
        refine lv_aload_n hx hb dX9_told_91 rfl (lv_at hl 1 rfl) ?_
        refine m_get hx hb hts hin9 hown hK hP 24 (by decide) hf70 rfl rfl dX9_told_92 ?_
        refine lv_iload hx hb dX9_told_95 (lv_at hl 0 rfl) ?_
        refine m_iald hx hb hK hP 20 840 rfl (by decide) rfl (yk_vp (hsB_vp hI b5) (yrB_vp hI b13)) dX9_told_97 ?_
        refine g_reti hx hb hr hlk hP hS dX9_told_98 ?_
        exact ⟨by first | (simp [tolOf, b5, b13, s27_0, s27_1, s27_2, s27_3]; done) | (exfalso; simp_all; done), rfl, rfl⟩
      by_cases s27_4 : w = 4
      · refine lv_tableIn (tgt := 99) hx hb dX9_told_27 (by rw [s27_4]; decide) (by rw [s27_4]; decide) (by rw [s27_4]; rfl) (by decide) ?_
        refine lv_aload_n hx hb dX9_told_99 rfl (lv_at hl 1 rfl) ?_
        refine lv_iload_n hx hb dX9_told_100 rfl (lv_at hl 2 rfl) ?_
        refine lv_iload_n hx hb dX9_told_101 rfl (lv_at hl 3 rfl) ?_
        refine g_ci (g_runV (As := [.int h, .int y]) (rest := []) ⟨hx, hb, hml, hown, hts⟩ hK hP (kX9_yet l E A n o c S h y hI (hsB_vp hI b5) (yrB_vp hI b13)) (cwV 2 hts gX9_told_X9_yet rfl rfl rfl (by decide +kernel) ⟨Nat.le_of_ble_eq_true rfl, Nat.le_of_ble_eq_true rfl⟩) GM_o rfl rfl hl.1 rfl (Nat.le_of_ble_eq_true rfl) dX9_told_102 ⟨Nat.le_of_ble_eq_true rfl, Nat.le_of_ble_eq_true rfl⟩) hS (fun r102 n' G' H locs hw hP hS => ?_)
        obtain ⟨rfl, rfl, rfl⟩ := hw
        refine g_reti hx hb hr hlk hP hS dX9_told_105 ?_
        exact ⟨by first | (simp [tolOf, b5, b13, s27_0, s27_1, s27_2, s27_3, s27_4]; done) | (exfalso; simp_all; done), rfl, rfl⟩
      by_cases s27_5 : w = 5
      · refine lv_tableIn (tgt := 106) hx hb dX9_told_27 (by rw [s27_5]; decide) (by rw [s27_5]; decide) (by rw [s27_5]; rfl) (by decide) ?_
        refine lv_aload_n hx hb dX9_told_106 rfl (lv_at hl 1 rfl) ?_
        refine m_get hx hb hts hin9 hown hK hP 26 (by decide) hf76 rfl rfl dX9_told_107 ?_
        refine lv_iload hx hb dX9_told_110 (lv_at hl 0 rfl) ?_
        refine m_iald hx hb hK hP 22 840 rfl (by decide) rfl (yk_vp (hsB_vp hI b5) (yrB_vp hI b13)) dX9_told_112 ?_
        refine g_reti hx hb hr hlk hP hS dX9_told_113 ?_
        exact ⟨by first | (simp [tolOf, b5, b13, s27_0, s27_1, s27_2, s27_3, s27_4, s27_5]; done) | (exfalso; simp_all; done), rfl, rfl⟩
      by_cases s27_6 : w = 6
      · refine lv_tableIn (tgt := 114) hx hb dX9_told_27 (by rw [s27_6]; decide) (by rw [s27_6]; decide) (by rw [s27_6]; rfl) (by decide) ?_
        refine lv_aload_n hx hb dX9_told_114 rfl (lv_at hl 1 rfl) ?_
        refine m_get hx hb hts hin9 hown hK hP 25 (by decide) hf73 rfl rfl dX9_told_115 ?_
        refine lv_iload hx hb dX9_told_118 (lv_at hl 0 rfl) ?_
        refine m_iald hx hb hK hP 21 840 rfl (by decide) rfl (yk_vp (hsB_vp hI b5) (yrB_vp hI b13)) dX9_told_120 ?_
        refine g_reti hx hb hr hlk hP hS dX9_told_121 ?_
        exact ⟨by first | (simp [tolOf, b5, b13, s27_0, s27_1, s27_2, s27_3, s27_4, s27_5, s27_6]; done) | (exfalso; simp_all; done), rfl, rfl⟩
      refine lv_tableOut (tgt := 122) hx hb dX9_told_27 (sw_out6 s27_0 s27_1 s27_2 s27_3 s27_4 s27_5 s27_6) (by decide) ?_
      refine lv_iconst (v := (-1)) hx hb dX9_told_122 (by decide) ?_
      refine g_reti hx hb hr hlk hP hS dX9_told_123 ?_
      exact ⟨by first | (simp [tolOf, b5, b13, s27_0, s27_1, s27_2, s27_3, s27_4, s27_5, s27_6]; done) | (exfalso; simp_all; done), rfl, rfl⟩
    · refine lv_iconst (v := (-1)) hx hb dX9_told_16 (by decide) ?_
      refine g_reti hx hb hr hlk hP hS dX9_told_17 ?_
      exact ⟨by first | (simp [tolOf, b5, b13]; done) | (exfalso; simp_all; done), rfl, rfl⟩
set_option maxHeartbeats 4000000 in
set_option maxRecDepth 100000 in
theorem kX9_count (l : Launch) (E : gT) (A : Nat → Prop) (n : Nat) (o : Nat) (c : Nat → Int32) (S : Nat → Nat → Int32) (w : Int32)  : gM l yX9_count wsX9_count ({ frames := 0, cells := 0, slots := 0, locals := 0 } : Room) E A n (GM E o c S) [.ref o, .int w] (gQi E A (fun r' n' G' => cntOf c w = r' ∧ n = n' ∧ (GM E o c S) = G')) 0 0 := by
  refine g_entry (by decide) rfl (Nat.le_of_ble_eq_true rfl) ?_
  intro p e s m below meth c0 hx hb hr hlk hml hown hnm hts hK H locs ls hP hS hl
  have hin9 : ∀ w ∈ u_ws RX9 TX9 35, w ∈ wsX9_count := by decide +kernel
  have hf92 := hts (.fieldLink RX9 92 "DikeHandsModel" "houses" "I") (by decide +kernel)
  have hf96 := hts (.fieldLink RX9 96 "DikeHandsModel" "now" "I") (by decide +kernel)
  have hf106 := hts (.fieldLink RX9 106 "DikeHandsModel" "laws" "I") (by decide +kernel)
  have hf116 := hts (.fieldLink RX9 116 "DikeHandsModel" "changes" "I") (by decide +kernel)
  have hf143 := hts (.fieldLink RX9 143 "DikeHandsModel" "daysDone" "I") (by decide +kernel)
  have hf150 := hts (.fieldLink RX9 150 "DikeHandsModel" "daysBought" "I") (by decide +kernel)
  have hf153 := hts (.fieldLink RX9 153 "DikeHandsModel" "chest" "I") (by decide +kernel)
  have hf160 := hts (.fieldLink RX9 160 "DikeHandsModel" "daysHired" "I") (by decide +kernel)
  have hf166 := hts (.fieldLink RX9 166 "DikeHandsModel" "lost" "I") (by decide +kernel)
  have hl : lv_has ls 2 [(0, .ref o), (1, .int w)] := hl
  refine lv_iload_n hx hb dX9_count_0 rfl (lv_at hl 1 rfl) ?_
  by_cases s1_0 : w = 0
  · refine lv_tableIn (tgt := 52) hx hb dX9_count_1 (by rw [s1_0]; decide) (by rw [s1_0]; decide) (by rw [s1_0]; rfl) (by decide) ?_
    refine lv_aload_n hx hb dX9_count_52 rfl (lv_at hl 0 rfl) ?_
    refine m_get hx hb hts hin9 hown hK hP 0 (by decide) hf96 rfl rfl dX9_count_53 ?_
    refine g_reti hx hb hr hlk hP hS dX9_count_56 ?_
    exact ⟨by first | (simp [cntOf, s1_0]; done) | (exfalso; simp_all; done), rfl, rfl⟩
  by_cases s1_1 : w = 1
  · refine lv_tableIn (tgt := 57) hx hb dX9_count_1 (by rw [s1_1]; decide) (by rw [s1_1]; decide) (by rw [s1_1]; rfl) (by decide) ?_
    refine lv_aload_n hx hb dX9_count_57 rfl (lv_at hl 0 rfl) ?_
    refine m_get hx hb hts hin9 hown hK hP 7 (by decide) hf92 rfl rfl dX9_count_58 ?_
    refine g_reti hx hb hr hlk hP hS dX9_count_61 ?_
    exact ⟨by first | (simp [cntOf, s1_0, s1_1]; done) | (exfalso; simp_all; done), rfl, rfl⟩
  by_cases s1_2 : w = 2
  · refine lv_tableIn (tgt := 62) hx hb dX9_count_1 (by rw [s1_2]; decide) (by rw [s1_2]; decide) (by rw [s1_2]; rfl) (by decide) ?_
    refine lv_aload_n hx hb dX9_count_62 rfl (lv_at hl 0 rfl) ?_
    refine m_get hx hb hts hin9 hown hK hP 18 (by decide) hf106 rfl rfl dX9_count_63 ?_
    refine g_reti hx hb hr hlk hP hS dX9_count_66 ?_
    exact ⟨by first | (simp [cntOf, s1_0, s1_1, s1_2]; done) | (exfalso; simp_all; done), rfl, rfl⟩
  by_cases s1_3 : w = 3
  · refine lv_tableIn (tgt := 67) hx hb dX9_count_1 (by rw [s1_3]; decide) (by rw [s1_3]; decide) (by rw [s1_3]; rfl) (by decide) ?_
    refine lv_aload_n hx hb dX9_count_67 rfl (lv_at hl 0 rfl) ?_
    refine m_get hx hb hts hin9 hown hK hP 12 (by decide) hf116 rfl rfl dX9_count_68 ?_
    refine g_reti hx hb hr hlk hP hS dX9_count_71 ?_
    exact ⟨by first | (simp [cntOf, s1_0, s1_1, s1_2, s1_3]; done) | (exfalso; simp_all; done), rfl, rfl⟩
  by_cases s1_4 : w = 4
  · refine lv_tableIn (tgt := 72) hx hb dX9_count_1 (by rw [s1_4]; decide) (by rw [s1_4]; decide) (by rw [s1_4]; rfl) (by decide) ?_
    refine lv_aload_n hx hb dX9_count_72 rfl (lv_at hl 0 rfl) ?_
    refine m_get hx hb hts hin9 hown hK hP 29 (by decide) hf153 rfl rfl dX9_count_73 ?_
    refine g_reti hx hb hr hlk hP hS dX9_count_76 ?_
    exact ⟨by first | (simp [cntOf, s1_0, s1_1, s1_2, s1_3, s1_4]; done) | (exfalso; simp_all; done), rfl, rfl⟩
  by_cases s1_5 : w = 5
  · refine lv_tableIn (tgt := 77) hx hb dX9_count_1 (by rw [s1_5]; decide) (by rw [s1_5]; decide) (by rw [s1_5]; rfl) (by decide) ?_
    refine lv_aload_n hx hb dX9_count_77 rfl (lv_at hl 0 rfl) ?_
    refine m_get hx hb hts hin9 hown hK hP 30 (by decide) hf166 rfl rfl dX9_count_78 ?_
    refine g_reti hx hb hr hlk hP hS dX9_count_81 ?_
    exact ⟨by first | (simp [cntOf, s1_0, s1_1, s1_2, s1_3, s1_4, s1_5]; done) | (exfalso; simp_all; done), rfl, rfl⟩
  by_cases s1_6 : w = 6
  · refine lv_tableIn (tgt := 82) hx hb dX9_count_1 (by rw [s1_6]; decide) (by rw [s1_6]; decide) (by rw [s1_6]; rfl) (by decide) ?_
    refine lv_aload_n hx hb dX9_count_82 rfl (lv_at hl 0 rfl) ?_
    refine m_get hx hb hts hin9 hown hK hP 31 (by decide) hf143 rfl rfl dX9_count_83 ?_
    refine g_reti hx hb hr hlk hP hS dX9_count_86 ?_
    exact ⟨by first | (simp [cntOf, s1_0, s1_1, s1_2, s1_3, s1_4, s1_5, s1_6]; done) | (exfalso; simp_all; done), rfl, rfl⟩
  by_cases s1_7 : w = 7
  · refine lv_tableIn (tgt := 87) hx hb dX9_count_1 (by rw [s1_7]; decide) (by rw [s1_7]; decide) (by rw [s1_7]; rfl) (by decide) ?_
    refine lv_aload_n hx hb dX9_count_87 rfl (lv_at hl 0 rfl) ?_
    refine m_get hx hb hts hin9 hown hK hP 32 (by decide) hf150 rfl rfl dX9_count_88 ?_
    refine g_reti hx hb hr hlk hP hS dX9_count_91 ?_
    exact ⟨by first | (simp [cntOf, s1_0, s1_1, s1_2, s1_3, s1_4, s1_5, s1_6, s1_7]; done) | (exfalso; simp_all; done), rfl, rfl⟩
  by_cases s1_8 : w = 8
  · refine lv_tableIn (tgt := 92) hx hb dX9_count_1 (by rw [s1_8]; decide) (by rw [s1_8]; decide) (by rw [s1_8]; rfl) (by decide) ?_
    refine lv_aload_n hx hb dX9_count_92 rfl (lv_at hl 0 rfl) ?_
    refine m_get hx hb hts hin9 hown hK hP 33 (by decide) hf160 rfl rfl dX9_count_93 ?_
    refine g_reti hx hb hr hlk hP hS dX9_count_96 ?_
    exact ⟨by first | (simp [cntOf, s1_0, s1_1, s1_2, s1_3, s1_4, s1_5, s1_6, s1_7, s1_8]; done) | (exfalso; simp_all; done), rfl, rfl⟩
  refine lv_tableOut (tgt := 97) hx hb dX9_count_1 (sw_out8 s1_0 s1_1 s1_2 s1_3 s1_4 s1_5 s1_6 s1_7 s1_8) (by decide) ?_
  refine lv_iconst (v := (-1)) hx hb dX9_count_97 (by decide) ?_
  refine g_reti hx hb hr hlk hP hS dX9_count_98 ?_
  exact ⟨by first | (simp [cntOf, s1_0, s1_1, s1_2, s1_3, s1_4, s1_5, s1_6, s1_7, s1_8]; done) | (exfalso; simp_all; done), rfl, rfl⟩
set_option maxHeartbeats 4000000 in
set_option maxRecDepth 100000 in
theorem kX9_bank (l : Launch) (E : gT) (A : Nat → Prop) (n : Nat) (o : Nat) (c : Nat → Int32) (S : Nat → Nat → Int32) (a w b : Int32)  : gM l yX9_bank wsX9_bank ({ frames := 2, cells := 0, slots := 0, locals := 44 } : Room) E A n (GM E o c S) [.ref o, .int a, .int w, .int b] (gQi E A (fun r' n' G' => bnkOf S a w b = r' ∧ n = n' ∧ (GM E o c S) = G')) 0 0 := by
  refine g_entry (by decide) rfl (Nat.le_of_ble_eq_true rfl) ?_
  intro p e s m below meth c0 hx hb hr hlk hml hown hnm hts hK H locs ls hP hS hl
  have hin9 : ∀ w ∈ u_ws RX9 TX9 35, w ∈ wsX9_bank := by decide +kernel
  have hf13 := hts (.fieldLink RX9 13 "DikeHandsModel" "height" "[I") (by decide +kernel)
  have hf22 := hts (.fieldLink RX9 22 "DikeHandsModel" "broke" "[I") (by decide +kernel)
  have hf25 := hts (.fieldLink RX9 25 "DikeHandsModel" "worked" "[I") (by decide +kernel)
  have hl : lv_has ls 4 [(0, .ref o), (1, .int a), (2, .int w), (3, .int b)] := hl
  refine lv_iload_n hx hb dX9_bank_0 rfl (lv_at hl 1 rfl) ?_
  refine g_ci (g_runS (As := [.int a]) (rest := []) ⟨hx, hb, hml, hown, hts⟩ hK hP (kX9_isRod l E A n (GM E o c S) a) (va_cwS 1 hts gX9_bank_X9_isRod rfl rfl rfl (by decide +kernel) ⟨Nat.le_of_ble_eq_true rfl, Nat.le_of_ble_eq_true rfl⟩) rfl hl.1 rfl (Nat.le_of_ble_eq_true rfl) dX9_bank_1 ⟨Nat.le_of_ble_eq_true rfl, Nat.le_of_ble_eq_true rfl⟩) hS (fun r1 n' G' H locs hw hP hS => ?_)
  obtain ⟨rfl, rfl, rfl⟩ := hw
  refine g_ifne (tgt := 9) hx hb dX9_bank_4 (by decide) (fun b4 => ?_) (fun b4 => ?_)
  · refine lv_iload_n hx hb dX9_bank_9 rfl (lv_at hl 2 rfl) ?_
    by_cases s10_0 : w = 0
    · refine lv_tableIn (tgt := 40) hx hb dX9_bank_10 (by rw [s10_0]; decide) (by rw [s10_0]; decide) (by rw [s10_0]; rfl) (by decide) ?_
      refine lv_aload_n hx hb dX9_bank_40 rfl (lv_at hl 0 rfl) ?_
      refine m_get hx hb hts hin9 hown hK hP 2 (by decide) hf13 rfl rfl dX9_bank_41 ?_
      refine lv_iload_n hx hb dX9_bank_44 rfl (lv_at hl 1 rfl) ?_
      refine m_iald hx hb hK hP 1 30 rfl (by decide) rfl (inB_vp b4 (by decide)) dX9_bank_45 ?_
      refine g_reti hx hb hr hlk hP hS dX9_bank_46 ?_
      exact ⟨by first | (simp [bnkOf, b4, s10_0]; done) | (exfalso; simp_all; done), rfl, rfl⟩
    by_cases s10_1 : w = 1
    · refine lv_tableIn (tgt := 47) hx hb dX9_bank_10 (by rw [s10_1]; decide) (by rw [s10_1]; decide) (by rw [s10_1]; rfl) (by decide) ?_
      refine lv_aload_n hx hb dX9_bank_47 rfl (lv_at hl 0 rfl) ?_
      refine m_get hx hb hts hin9 hown hK hP 5 (by decide) hf22 rfl rfl dX9_bank_48 ?_
      refine lv_iload_n hx hb dX9_bank_51 rfl (lv_at hl 1 rfl) ?_
      refine m_iald hx hb hK hP 4 30 rfl (by decide) rfl (inB_vp b4 (by decide)) dX9_bank_52 ?_
      refine g_reti hx hb hr hlk hP hS dX9_bank_53 ?_
      exact ⟨by first | (simp [bnkOf, b4, s10_0, s10_1]; done) | (exfalso; simp_all; done), rfl, rfl⟩
    by_cases s10_2 : w = 2
    · refine lv_tableIn (tgt := 54) hx hb dX9_bank_10 (by rw [s10_2]; decide) (by rw [s10_2]; decide) (by rw [s10_2]; rfl) (by decide) ?_
      refine lv_aload_n hx hb dX9_bank_54 rfl (lv_at hl 0 rfl) ?_
      refine m_get hx hb hts hin9 hown hK hP 6 (by decide) hf25 rfl rfl dX9_bank_55 ?_
      refine lv_iload_n hx hb dX9_bank_58 rfl (lv_at hl 1 rfl) ?_
      refine m_iald hx hb hK hP 5 30 rfl (by decide) rfl (inB_vp b4 (by decide)) dX9_bank_59 ?_
      refine g_reti hx hb hr hlk hP hS dX9_bank_60 ?_
      exact ⟨by first | (simp [bnkOf, b4, s10_0, s10_1, s10_2]; done) | (exfalso; simp_all; done), rfl, rfl⟩
    by_cases s10_3 : w = 3
    · refine lv_tableIn (tgt := 61) hx hb dX9_bank_10 (by rw [s10_3]; decide) (by rw [s10_3]; decide) (by rw [s10_3]; rfl) (by decide) ?_
      refine lv_iload_n hx hb dX9_bank_61 rfl (lv_at hl 3 rfl) ?_
      refine lv_iconst (v := 0) hx hb dX9_bank_62 (by decide) ?_
      refine lv_sipush (v := 3000) hx hb dX9_bank_63 (by decide) ?_
      refine g_ci (g_runS (As := [.int b, .int 0, .int 3000]) (rest := []) ⟨hx, hb, hml, hown, hts⟩ hK hP (kX9_in l E A n (GM E o c S) b 0 3000) (va_cwS 3 hts gX9_bank_X9_in rfl rfl rfl (by decide +kernel) ⟨Nat.le_of_ble_eq_true rfl, Nat.le_of_ble_eq_true rfl⟩) rfl hl.1 rfl (Nat.le_of_ble_eq_true rfl) dX9_bank_66 ⟨Nat.le_of_ble_eq_true rfl, Nat.le_of_ble_eq_true rfl⟩) hS (fun r66 n' G' H locs hw hP hS => ?_)
      obtain ⟨rfl, rfl, rfl⟩ := hw
      refine g_ifeq (tgt := 81) hx hb dX9_bank_69 (by decide) (fun b69 => ?_) (fun b69 => ?_)
      · refine lv_iconst (v := (-1)) hx hb dX9_bank_81 (by decide) ?_
        refine g_reti hx hb hr hlk hP hS dX9_bank_82 ?_
        exact ⟨by first | (simp [bnkOf, b4, s10_0, s10_1, s10_2, s10_3, b69]; done) | (exfalso; simp_all; done), rfl, rfl⟩
      · refine lv_aload_n hx hb dX9_bank_72 rfl (lv_at hl 0 rfl) ?_
        refine lv_iload_n hx hb dX9_bank_73 rfl (lv_at hl 1 rfl) ?_
        refine lv_iload_n hx hb dX9_bank_74 rfl (lv_at hl 3 rfl) ?_
        refine g_ci (g_runV (As := [.int a, .int b]) (rest := []) ⟨hx, hb, hml, hown, hts⟩ hK hP (kX9_needs l E A n o c S a b (inB_vp b4 (by decide))) (cwV 2 hts gX9_bank_X9_needs rfl rfl rfl (by decide +kernel) ⟨Nat.le_of_ble_eq_true rfl, Nat.le_of_ble_eq_true rfl⟩) GM_o rfl rfl hl.1 rfl (Nat.le_of_ble_eq_true rfl) dX9_bank_75 ⟨Nat.le_of_ble_eq_true rfl, Nat.le_of_ble_eq_true rfl⟩) hS (fun r75 n' G' H locs hw hP hS => ?_)
        obtain ⟨rfl, rfl, rfl⟩ := hw
        refine lv_goto (tgt := 82) hx hb dX9_bank_78 (by decide) ?_
        refine g_reti hx hb hr hlk hP hS dX9_bank_82 ?_
        exact ⟨by first | (simp [bnkOf, b4, s10_0, s10_1, s10_2, s10_3, b69]; done) | (exfalso; simp_all; done), rfl, rfl⟩
    refine lv_tableOut (tgt := 83) hx hb dX9_bank_10 (sw_out3 s10_0 s10_1 s10_2 s10_3) (by decide) ?_
    refine lv_iconst (v := (-1)) hx hb dX9_bank_83 (by decide) ?_
    refine g_reti hx hb hr hlk hP hS dX9_bank_84 ?_
    exact ⟨by first | (simp [bnkOf, b4, s10_0, s10_1, s10_2, s10_3]; done) | (exfalso; simp_all; done), rfl, rfl⟩
  · refine lv_iconst (v := (-1)) hx hb dX9_bank_7 (by decide) ?_
    refine g_reti hx hb hr hlk hP hS dX9_bank_8 ?_
    exact ⟨by first | (simp [bnkOf, b4]; done) | (exfalso; simp_all; done), rfl, rfl⟩
set_option maxHeartbeats 4000000 in
set_option maxRecDepth 100000 in
theorem kX9_village (l : Launch) (E : gT) (A : Nat → Prop) (n : Nat) (o : Nat) (c : Nat → Int32) (S : Nat → Nat → Int32) (a b : Int32)  : gM l yX9_village wsX9_village ({ frames := 2, cells := 0, slots := 0, locals := 42 } : Room) E A n (GM E o c S) [.ref o, .int a, .int b] (gQi E A (fun r' n' G' => gb (vilB a b) = r' ∧ n = n' ∧ (GM E o c (vilS S a b)) = G')) 0 0 := by
  refine g_entry (by decide) rfl (Nat.le_of_ble_eq_true rfl) ?_
  intro p e s m below meth c0 hx hb hr hlk hml hown hnm hts hK H locs ls hP hS hl
  have hin9 : ∀ w ∈ u_ws RX9 TX9 35, w ∈ wsX9_village := by decide +kernel
  have hf9 := hts (.fieldLink RX9 9 "DikeHandsModel" "mile" "[I") (by decide +kernel)
  have hl : lv_has ls 3 [(0, .ref o), (1, .int a), (2, .int b)] := hl
  refine lv_iload_n hx hb dX9_village_0 rfl (lv_at hl 1 rfl) ?_
  refine g_ci (g_runS (As := [.int a]) (rest := []) ⟨hx, hb, hml, hown, hts⟩ hK hP (kX9_isVillage l E A n (GM E o c S) a) (va_cwS 1 hts gX9_village_X9_isVillage rfl rfl rfl (by decide +kernel) ⟨Nat.le_of_ble_eq_true rfl, Nat.le_of_ble_eq_true rfl⟩) rfl hl.1 rfl (Nat.le_of_ble_eq_true rfl) dX9_village_1 ⟨Nat.le_of_ble_eq_true rfl, Nat.le_of_ble_eq_true rfl⟩) hS (fun r1 n' G' H locs hw hP hS => ?_)
  obtain ⟨rfl, rfl, rfl⟩ := hw
  refine g_ifeq (tgt := 17) hx hb dX9_village_4 (by decide) (fun b4 => ?_) (fun b4 => ?_)
  · refine lv_iconst (v := 0) hx hb dX9_village_17 (by decide) ?_
    refine g_retz hx hb hr hlk hP hS dX9_village_18 rfl ?_
    exact ⟨by first | (simp [vilB, vilS, gb, bx_uu, fa_upd_twice, b4]; done) | (exfalso; simp_all; done), rfl, by first | rfl | (first | (simp [vilB, vilS, gb, bx_uu, fa_upd_twice, b4]; done) | (exfalso; simp_all; done))⟩
  · refine lv_iload_n hx hb dX9_village_7 rfl (lv_at hl 2 rfl) ?_
    refine lv_iconst (v := 0) hx hb dX9_village_8 (by decide) ?_
    refine lv_bipush (v := 99) hx hb dX9_village_9 (by decide) ?_
    refine g_ci (g_runS (As := [.int b, .int 0, .int 99]) (rest := []) ⟨hx, hb, hml, hown, hts⟩ hK hP (kX9_in l E A n (GM E o c S) b 0 99) (va_cwS 3 hts gX9_village_X9_in rfl rfl rfl (by decide +kernel) ⟨Nat.le_of_ble_eq_true rfl, Nat.le_of_ble_eq_true rfl⟩) rfl hl.1 rfl (Nat.le_of_ble_eq_true rfl) dX9_village_11 ⟨Nat.le_of_ble_eq_true rfl, Nat.le_of_ble_eq_true rfl⟩) hS (fun r11 n' G' H locs hw hP hS => ?_)
    obtain ⟨rfl, rfl, rfl⟩ := hw
    refine g_ifne (tgt := 19) hx hb dX9_village_14 (by decide) (fun b14 => ?_) (fun b14 => ?_)
    · refine lv_aload_n hx hb dX9_village_19 rfl (lv_at hl 0 rfl) ?_
      refine m_get hx hb hts hin9 hown hK hP 1 (by decide) hf9 rfl rfl dX9_village_20 ?_
      refine lv_iload_n hx hb dX9_village_23 rfl (lv_at hl 1 rfl) ?_
      refine lv_iload_n hx hb dX9_village_24 rfl (lv_at hl 2 rfl) ?_
      refine m_iast hx hb hK hP hS 0 8 rfl (by decide) rfl (inB_vp b4 (by decide)) dX9_village_25 (fun H locs hP hS => ?_)
      have hP : gP E A n (GM E o c (va_up S 0 (upd (S 0) (tn a) b))) H := hP
      refine lv_iconst (v := 1) hx hb dX9_village_26 (by decide) ?_
      refine g_retz hx hb hr hlk hP hS dX9_village_27 rfl ?_
      exact ⟨by first | (simp [vilB, vilS, gb, bx_uu, fa_upd_twice, b4, b14]; done) | (exfalso; simp_all; done), rfl, by first | rfl | (first | (simp [vilB, vilS, gb, bx_uu, fa_upd_twice, b4, b14]; done) | (exfalso; simp_all; done))⟩
    · refine lv_iconst (v := 0) hx hb dX9_village_17 (by decide) ?_
      refine g_retz hx hb hr hlk hP hS dX9_village_18 rfl ?_
      exact ⟨by first | (simp [vilB, vilS, gb, bx_uu, fa_upd_twice, b4, b14]; done) | (exfalso; simp_all; done), rfl, by first | rfl | (first | (simp [vilB, vilS, gb, bx_uu, fa_upd_twice, b4, b14]; done) | (exfalso; simp_all; done))⟩
set_option maxHeartbeats 4000000 in
set_option maxRecDepth 100000 in
theorem kX9_rod (l : Launch) (E : gT) (A : Nat → Prop) (n : Nat) (o : Nat) (c : Nat → Int32) (S : Nat → Nat → Int32) (a b d : Int32)  : gM l yX9_rod wsX9_rod ({ frames := 2, cells := 0, slots := 0, locals := 42 } : Room) E A n (GM E o c S) [.ref o, .int a, .int b, .int d] (gQi E A (fun r' n' G' => gb (rodB a b d) = r' ∧ n = n' ∧ (GM E o c (rodS S a b d)) = G')) 0 0 := by
  refine g_entry (by decide) rfl (Nat.le_of_ble_eq_true rfl) ?_
  intro p e s m below meth c0 hx hb hr hlk hml hown hnm hts hK H locs ls hP hS hl
  have hin9 : ∀ w ∈ u_ws RX9 TX9 35, w ∈ wsX9_rod := by decide +kernel
  have hf16 := hts (.fieldLink RX9 16 "DikeHandsModel" "soil" "[I") (by decide +kernel)
  have hf19 := hts (.fieldLink RX9 19 "DikeHandsModel" "loss" "[I") (by decide +kernel)
  have hl : lv_has ls 4 [(0, .ref o), (1, .int a), (2, .int b), (3, .int d)] := hl
  refine lv_iload_n hx hb dX9_rod_0 rfl (lv_at hl 1 rfl) ?_
  refine g_ci (g_runS (As := [.int a]) (rest := []) ⟨hx, hb, hml, hown, hts⟩ hK hP (kX9_isRod l E A n (GM E o c S) a) (va_cwS 1 hts gX9_rod_X9_isRod rfl rfl rfl (by decide +kernel) ⟨Nat.le_of_ble_eq_true rfl, Nat.le_of_ble_eq_true rfl⟩) rfl hl.1 rfl (Nat.le_of_ble_eq_true rfl) dX9_rod_1 ⟨Nat.le_of_ble_eq_true rfl, Nat.le_of_ble_eq_true rfl⟩) hS (fun r1 n' G' H locs hw hP hS => ?_)
  obtain ⟨rfl, rfl, rfl⟩ := hw
  refine g_ifeq (tgt := 27) hx hb dX9_rod_4 (by decide) (fun b4 => ?_) (fun b4 => ?_)
  · refine lv_iconst (v := 0) hx hb dX9_rod_27 (by decide) ?_
    refine g_retz hx hb hr hlk hP hS dX9_rod_28 rfl ?_
    exact ⟨by first | (simp [rodB, rodS, gb, bx_uu, fa_upd_twice, b4]; done) | (exfalso; simp_all; done), rfl, by first | rfl | (first | (simp [rodB, rodS, gb, bx_uu, fa_upd_twice, b4]; done) | (exfalso; simp_all; done))⟩
  · refine lv_iload_n hx hb dX9_rod_7 rfl (lv_at hl 2 rfl) ?_
    refine lv_iconst (v := 0) hx hb dX9_rod_8 (by decide) ?_
    refine lv_iconst (v := 2) hx hb dX9_rod_9 (by decide) ?_
    refine g_ci (g_runS (As := [.int b, .int 0, .int 2]) (rest := []) ⟨hx, hb, hml, hown, hts⟩ hK hP (kX9_in l E A n (GM E o c S) b 0 2) (va_cwS 3 hts gX9_rod_X9_in rfl rfl rfl (by decide +kernel) ⟨Nat.le_of_ble_eq_true rfl, Nat.le_of_ble_eq_true rfl⟩) rfl hl.1 rfl (Nat.le_of_ble_eq_true rfl) dX9_rod_10 ⟨Nat.le_of_ble_eq_true rfl, Nat.le_of_ble_eq_true rfl⟩) hS (fun r10 n' G' H locs hw hP hS => ?_)
    obtain ⟨rfl, rfl, rfl⟩ := hw
    refine g_ifeq (tgt := 27) hx hb dX9_rod_13 (by decide) (fun b13 => ?_) (fun b13 => ?_)
    · refine lv_iconst (v := 0) hx hb dX9_rod_27 (by decide) ?_
      refine g_retz hx hb hr hlk hP hS dX9_rod_28 rfl ?_
      exact ⟨by first | (simp [rodB, rodS, gb, bx_uu, fa_upd_twice, b4, b13]; done) | (exfalso; simp_all; done), rfl, by first | rfl | (first | (simp [rodB, rodS, gb, bx_uu, fa_upd_twice, b4, b13]; done) | (exfalso; simp_all; done))⟩
    · refine lv_iload_n hx hb dX9_rod_16 rfl (lv_at hl 3 rfl) ?_
      refine lv_iconst (v := 0) hx hb dX9_rod_17 (by decide) ?_
      refine lv_sipush (v := 10000) hx hb dX9_rod_18 (by decide) ?_
      refine g_ci (g_runS (As := [.int d, .int 0, .int 10000]) (rest := []) ⟨hx, hb, hml, hown, hts⟩ hK hP (kX9_in l E A n (GM E o c S) d 0 10000) (va_cwS 3 hts gX9_rod_X9_in rfl rfl rfl (by decide +kernel) ⟨Nat.le_of_ble_eq_true rfl, Nat.le_of_ble_eq_true rfl⟩) rfl hl.1 rfl (Nat.le_of_ble_eq_true rfl) dX9_rod_21 ⟨Nat.le_of_ble_eq_true rfl, Nat.le_of_ble_eq_true rfl⟩) hS (fun r21 n' G' H locs hw hP hS => ?_)
      obtain ⟨rfl, rfl, rfl⟩ := hw
      refine g_ifne (tgt := 29) hx hb dX9_rod_24 (by decide) (fun b24 => ?_) (fun b24 => ?_)
      · refine lv_aload_n hx hb dX9_rod_29 rfl (lv_at hl 0 rfl) ?_
        refine m_get hx hb hts hin9 hown hK hP 3 (by decide) hf16 rfl rfl dX9_rod_30 ?_
        refine lv_iload_n hx hb dX9_rod_33 rfl (lv_at hl 1 rfl) ?_
        refine lv_iload_n hx hb dX9_rod_34 rfl (lv_at hl 2 rfl) ?_
        refine m_iast hx hb hK hP hS 2 30 rfl (by decide) rfl (inB_vp b4 (by decide)) dX9_rod_35 (fun H locs hP hS => ?_)
        have hP : gP E A n (GM E o c (va_up S 2 (upd (S 2) (tn a) b))) H := hP
        refine lv_aload_n hx hb dX9_rod_36 rfl (lv_at hl 0 rfl) ?_
        refine m_get hx hb hts hin9 hown hK hP 4 (by decide) hf19 rfl rfl dX9_rod_37 ?_
        refine lv_iload_n hx hb dX9_rod_40 rfl (lv_at hl 1 rfl) ?_
        refine lv_iload_n hx hb dX9_rod_41 rfl (lv_at hl 3 rfl) ?_
        refine m_iast hx hb hK hP hS 3 30 rfl (by decide) rfl (inB_vp b4 (by decide)) dX9_rod_42 (fun H locs hP hS => ?_)
        have hP : gP E A n (GM E o c (va_up (va_up S 2 (upd (S 2) (tn a) b)) 3 (upd (S 3) (tn a) d))) H := hP
        refine lv_iconst (v := 1) hx hb dX9_rod_43 (by decide) ?_
        refine g_retz hx hb hr hlk hP hS dX9_rod_44 rfl ?_
        exact ⟨by first | (simp [rodB, rodS, gb, bx_uu, fa_upd_twice, b4, b13, b24]; done) | (exfalso; simp_all; done), rfl, by first | rfl | (first | (simp [rodB, rodS, gb, bx_uu, fa_upd_twice, b4, b13, b24]; done) | (exfalso; simp_all; done))⟩
      · refine lv_iconst (v := 0) hx hb dX9_rod_27 (by decide) ?_
        refine g_retz hx hb hr hlk hP hS dX9_rod_28 rfl ?_
        exact ⟨by first | (simp [rodB, rodS, gb, bx_uu, fa_upd_twice, b4, b13, b24]; done) | (exfalso; simp_all; done), rfl, by first | rfl | (first | (simp [rodB, rodS, gb, bx_uu, fa_upd_twice, b4, b13, b24]; done) | (exfalso; simp_all; done))⟩
set_option maxHeartbeats 4000000 in
set_option maxRecDepth 100000 in
theorem kX9_raises (l : Launch) (E : gT) (A : Nat → Prop) (n : Nat) (o : Nat) (c : Nat → Int32) (S : Nat → Nat → Int32) (a k : Int32) (hh : vp_in a 30) : gM l yX9_raises wsX9_raises ({ frames := 1, cells := 0, slots := 0, locals := 21 } : Room) E A n (GM E o c S) [.ref o, .int a, .int k] (gQv E A (fun n' G' => n = n' ∧ (GM E o c (raiS S a k)) = G')) 0 0 := by
  refine g_entry (by decide) rfl (Nat.le_of_ble_eq_true rfl) ?_
  intro p e s m below meth c0 hx hb hr hlk hml hown hnm hts hK H locs ls hP hS hl
  have hin9 : ∀ w ∈ u_ws RX9 TX9 35, w ∈ wsX9_raises := by decide +kernel
  have hf13 := hts (.fieldLink RX9 13 "DikeHandsModel" "height" "[I") (by decide +kernel)
  have hf25 := hts (.fieldLink RX9 25 "DikeHandsModel" "worked" "[I") (by decide +kernel)
  have hl : lv_has ls 3 [(0, .ref o), (1, .int a), (2, .int k)] := hl
  refine lv_aload_n hx hb dX9_raises_0 rfl (lv_at hl 0 rfl) ?_
  refine m_get hx hb hts hin9 hown hK hP 6 (by decide) hf25 rfl rfl dX9_raises_1 ?_
  refine lv_iload_n hx hb dX9_raises_4 rfl (lv_at hl 1 rfl) ?_
  refine lv_dup2_11 hx hb dX9_raises_5 rfl rfl ?_
  refine m_iald hx hb hK hP 5 30 rfl (by decide) rfl hh dX9_raises_6 ?_
  refine lv_iload_n hx hb dX9_raises_7 rfl (lv_at hl 2 rfl) ?_
  refine lv_iadd hx hb dX9_raises_8 ?_
  refine m_iast hx hb hK hP hS 5 30 rfl (by decide) rfl hh dX9_raises_9 (fun H locs hP hS => ?_)
  have hP : gP E A n (GM E o c (va_up S 5 (upd (S 5) (tn a) ((S 5 (tn a)) + k)))) H := hP
  refine lv_aload_n hx hb dX9_raises_10 rfl (lv_at hl 0 rfl) ?_
  refine m_get hx hb hts hin9 hown hK hP 2 (by decide) hf13 rfl rfl dX9_raises_11 ?_
  refine lv_iload_n hx hb dX9_raises_14 rfl (lv_at hl 1 rfl) ?_
  refine lv_dup2_11 hx hb dX9_raises_15 rfl rfl ?_
  refine m_iald hx hb hK hP 1 30 rfl (by decide) rfl hh dX9_raises_16 ?_
  refine lv_iload_n hx hb dX9_raises_17 rfl (lv_at hl 2 rfl) ?_
  refine lv_aload_n hx hb dX9_raises_18 rfl (lv_at hl 0 rfl) ?_
  refine lv_iload_n hx hb dX9_raises_19 rfl (lv_at hl 1 rfl) ?_
  refine g_ci (g_runV (As := [.int a]) (rest := [.int k, .int (S 1 (tn a)), .int a, .ref (o + 2)]) ⟨hx, hb, hml, hown, hts⟩ hK hP (kX9_perDay l E A n o c (va_up S 5 (upd (S 5) (tn a) ((S 5 (tn a)) + k))) a hh) (cwV 1 hts gX9_raises_X9_perDay rfl rfl rfl (by decide +kernel) ⟨Nat.le_of_ble_eq_true rfl, Nat.le_of_ble_eq_true rfl⟩) GM_o rfl rfl hl.1 rfl (Nat.le_of_ble_eq_true rfl) dX9_raises_20 ⟨Nat.le_of_ble_eq_true rfl, Nat.le_of_ble_eq_true rfl⟩) hS (fun r20 n' G' H locs hw hP hS => ?_)
  obtain ⟨rfl, rfl, rfl⟩ := hw
  refine lv_imul hx hb dX9_raises_23 ?_
  refine lv_iadd hx hb dX9_raises_24 ?_
  refine m_iast hx hb hK hP hS 1 30 rfl (by decide) rfl hh dX9_raises_25 (fun H locs hP hS => ?_)
  have hP : gP E A n (GM E o c (va_up (va_up S 5 (upd (S 5) (tn a) ((S 5 (tn a)) + k))) 1 (upd (S 1) (tn a) ((S 1 (tn a)) + (k * (perOf (va_up S 5 (upd (S 5) (tn a) ((S 5 (tn a)) + k))) a)))))) H := hP
  refine lv_aload_n hx hb dX9_raises_26 rfl (lv_at hl 0 rfl) ?_
  refine m_get hx hb hts hin9 hown hK hP 2 (by decide) hf13 rfl rfl dX9_raises_27 ?_
  refine lv_iload_n hx hb dX9_raises_30 rfl (lv_at hl 1 rfl) ?_
  refine m_iald hx hb hK hP 1 30 rfl (by decide) rfl hh dX9_raises_31 ?_
  refine W.eq (g2 := F0 m 32 ls [.int ((S 1 (tn a)) + (k * (perOf (va_up S 5 (upd (S 5) (tn a) ((S 5 (tn a)) + k))) a)))]) (by rw [show (va_up (va_up S 5 (upd (S 5) (tn a) ((S 5 (tn a)) + k))) 1 (upd (S 1) (tn a) ((S 1 (tn a)) + (k * (perOf (va_up S 5 (upd (S 5) (tn a) ((S 5 (tn a)) + k))) a))))) 1 (tn a) = ((S 1 (tn a)) + (k * (perOf (va_up S 5 (upd (S 5) (tn a) ((S 5 (tn a)) + k))) a))) from pk_us]) ?_
  refine lv_sipush (v := 3000) hx hb dX9_raises_32 (by decide) ?_
  refine lv_icmp_le (tgt := 47) hx hb dX9_raises_35 (by decide) (fun b35 => ?_) (fun b35 => ?_)
  · refine g_retv hx hb hr hlk hP hS dX9_raises_47 ?_
    have e1 : perOf (va_up S 5 (upd (S 5) (tn a) (S 5 (tn a) + k))) a = perOf S a := rfl
    rw [e1] at b35
    refine ⟨rfl, ?_⟩
    rw [e1]
    simp [raiS, raiH, bx_uu, fa_upd_twice, b35, Int32.not_lt.mpr b35]
  · refine lv_aload_n hx hb dX9_raises_38 rfl (lv_at hl 0 rfl) ?_
    refine m_get hx hb hts hin9 hown hK hP 2 (by decide) hf13 rfl rfl dX9_raises_39 ?_
    refine lv_iload_n hx hb dX9_raises_42 rfl (lv_at hl 1 rfl) ?_
    refine lv_sipush (v := 3000) hx hb dX9_raises_43 (by decide) ?_
    refine m_iast hx hb hK hP hS 1 30 rfl (by decide) rfl hh dX9_raises_46 (fun H locs hP hS => ?_)
    have hP : gP E A n (GM E o c (va_up (va_up (va_up S 5 (upd (S 5) (tn a) ((S 5 (tn a)) + k))) 1 (upd (S 1) (tn a) ((S 1 (tn a)) + (k * (perOf (va_up S 5 (upd (S 5) (tn a) ((S 5 (tn a)) + k))) a))))) 1 (upd (upd (S 1) (tn a) ((S 1 (tn a)) + (k * (perOf (va_up S 5 (upd (S 5) (tn a) ((S 5 (tn a)) + k))) a)))) (tn a) 3000))) H := hP
    refine g_retv hx hb hr hlk hP hS dX9_raises_47 ?_
    have e1 : perOf (va_up S 5 (upd (S 5) (tn a) (S 5 (tn a) + k))) a = perOf S a := rfl
    rw [e1] at b35
    refine ⟨rfl, ?_⟩
    rw [e1]
    simp [raiS, raiH, bx_uu, fa_upd_twice, b35, Int32.not_le.mp b35]
set_option maxHeartbeats 4000000 in
set_option maxRecDepth 100000 in
theorem kX9_ends (l : Launch) (E : gT) (A : Nat → Prop) (n : Nat) (o : Nat) (c : Nat → Int32) (S : Nat → Nat → Int32) (a k : Int32) (hh : vp_in a 30) : gM l yX9_ends wsX9_ends ({ frames := 0, cells := 0, slots := 0, locals := 0 } : Room) E A n (GM E o c S) [.ref o, .int a, .int k] (gQv E A (fun n' G' => n = n' ∧ (GM E o (endC c S a k) (endS S a k)) = G')) 0 0 := by
  refine g_entry (by decide) rfl (Nat.le_of_ble_eq_true rfl) ?_
  intro p e s m below meth c0 hx hb hr hlk hml hown hnm hts hK H locs ls hP hS hl
  have hin9 : ∀ w ∈ u_ws RX9 TX9 35, w ∈ wsX9_ends := by decide +kernel
  have hf13 := hts (.fieldLink RX9 13 "DikeHandsModel" "height" "[I") (by decide +kernel)
  have hf19 := hts (.fieldLink RX9 19 "DikeHandsModel" "loss" "[I") (by decide +kernel)
  have hf22 := hts (.fieldLink RX9 22 "DikeHandsModel" "broke" "[I") (by decide +kernel)
  have hf166 := hts (.fieldLink RX9 166 "DikeHandsModel" "lost" "I") (by decide +kernel)
  have hl : lv_has ls 3 [(0, .ref o), (1, .int a), (2, .int k)] := hl
  refine lv_iload_n hx hb dX9_ends_0 rfl (lv_at hl 2 rfl) ?_
  refine lv_aload_n hx hb dX9_ends_1 rfl (lv_at hl 0 rfl) ?_
  refine m_get hx hb hts hin9 hown hK hP 2 (by decide) hf13 rfl rfl dX9_ends_2 ?_
  refine lv_iload_n hx hb dX9_ends_5 rfl (lv_at hl 1 rfl) ?_
  refine m_iald hx hb hK hP 1 30 rfl (by decide) rfl hh dX9_ends_6 ?_
  refine lv_icmp_le (tgt := 43) hx hb dX9_ends_7 (by decide) (fun b7 => ?_) (fun b7 => ?_)
  · refine lv_aload_n hx hb dX9_ends_43 rfl (lv_at hl 0 rfl) ?_
    refine m_get hx hb hts hin9 hown hK hP 2 (by decide) hf13 rfl rfl dX9_ends_44 ?_
    refine lv_iload_n hx hb dX9_ends_47 rfl (lv_at hl 1 rfl) ?_
    refine lv_dup2_11 hx hb dX9_ends_48 rfl rfl ?_
    refine m_iald hx hb hK hP 1 30 rfl (by decide) rfl hh dX9_ends_49 ?_
    refine lv_iload_n hx hb dX9_ends_50 rfl (lv_at hl 2 rfl) ?_
    refine lv_bipush (v := 100) hx hb dX9_ends_51 (by decide) ?_
    refine lv_idiv hx hb dX9_ends_53 (by decide) ?_
    refine lv_isub hx hb dX9_ends_54 ?_
    refine m_iast hx hb hK hP hS 1 30 rfl (by decide) rfl hh dX9_ends_55 (fun H locs hP hS => ?_)
    have hP : gP E A n (GM E o c (va_up S 1 (upd (S 1) (tn a) ((S 1 (tn a)) - (k / 100))))) H := hP
    refine lv_aload_n hx hb dX9_ends_56 rfl (lv_at hl 0 rfl) ?_
    refine m_get hx hb hts hin9 hown hK hP 2 (by decide) hf13 rfl rfl dX9_ends_57 ?_
    refine lv_iload_n hx hb dX9_ends_60 rfl (lv_at hl 1 rfl) ?_
    refine m_iald hx hb hK hP 1 30 rfl (by decide) rfl hh dX9_ends_61 ?_
    refine W.eq (g2 := F0 m 62 ls [.int ((S 1 (tn a)) - (k / 100))]) (by rw [show (va_up S 1 (upd (S 1) (tn a) ((S 1 (tn a)) - (k / 100)))) 1 (tn a) = ((S 1 (tn a)) - (k / 100)) from pk_us]) ?_
    refine lv_if_ge (tgt := 72) hx hb dX9_ends_62 (by decide) (fun b62 => ?_) (fun b62 => ?_)
    · refine g_retv hx hb hr hlk hP hS dX9_ends_72 ?_
      exact ⟨rfl, by first | rfl | (first | (simp [endS, endC, endH, bx_uu, fa_upd_twice, b7, Int32.not_lt.mpr b7, b62, Int32.not_lt.mpr b62]; done) | (exfalso; simp_all; done))⟩
    · refine lv_aload_n hx hb dX9_ends_65 rfl (lv_at hl 0 rfl) ?_
      refine m_get hx hb hts hin9 hown hK hP 2 (by decide) hf13 rfl rfl dX9_ends_66 ?_
      refine lv_iload_n hx hb dX9_ends_69 rfl (lv_at hl 1 rfl) ?_
      refine lv_iconst (v := 0) hx hb dX9_ends_70 (by decide) ?_
      refine m_iast hx hb hK hP hS 1 30 rfl (by decide) rfl hh dX9_ends_71 (fun H locs hP hS => ?_)
      have hP : gP E A n (GM E o c (va_up (va_up S 1 (upd (S 1) (tn a) ((S 1 (tn a)) - (k / 100)))) 1 (upd (upd (S 1) (tn a) ((S 1 (tn a)) - (k / 100))) (tn a) 0))) H := hP
      refine g_retv hx hb hr hlk hP hS dX9_ends_72 ?_
      exact ⟨rfl, by first | rfl | (first | (simp [endS, endC, endH, bx_uu, fa_upd_twice, b7, Int32.not_lt.mpr b7, b62, Int32.not_le.mp b62]; done) | (exfalso; simp_all; done))⟩
  · refine lv_aload_n hx hb dX9_ends_10 rfl (lv_at hl 0 rfl) ?_
    refine m_get hx hb hts hin9 hown hK hP 2 (by decide) hf13 rfl rfl dX9_ends_11 ?_
    refine lv_iload_n hx hb dX9_ends_14 rfl (lv_at hl 1 rfl) ?_
    refine lv_iconst (v := 0) hx hb dX9_ends_15 (by decide) ?_
    refine m_iast hx hb hK hP hS 1 30 rfl (by decide) rfl hh dX9_ends_16 (fun H locs hP hS => ?_)
    have hP : gP E A n (GM E o c (va_up S 1 (upd (S 1) (tn a) 0))) H := hP
    refine lv_aload_n hx hb dX9_ends_17 rfl (lv_at hl 0 rfl) ?_
    refine m_get hx hb hts hin9 hown hK hP 5 (by decide) hf22 rfl rfl dX9_ends_18 ?_
    refine lv_iload_n hx hb dX9_ends_21 rfl (lv_at hl 1 rfl) ?_
    refine lv_dup2_11 hx hb dX9_ends_22 rfl rfl ?_
    refine m_iald hx hb hK hP 4 30 rfl (by decide) rfl hh dX9_ends_23 ?_
    refine lv_iconst (v := 1) hx hb dX9_ends_24 (by decide) ?_
    refine lv_iadd hx hb dX9_ends_25 ?_
    refine m_iast hx hb hK hP hS 4 30 rfl (by decide) rfl hh dX9_ends_26 (fun H locs hP hS => ?_)
    have hP : gP E A n (GM E o c (va_up (va_up S 1 (upd (S 1) (tn a) 0)) 4 (upd (S 4) (tn a) ((S 4 (tn a)) + 1)))) H := hP
    refine lv_aload_n hx hb dX9_ends_27 rfl (lv_at hl 0 rfl) ?_
    refine lv_dup hx hb dX9_ends_28 rfl ?_
    refine m_get hx hb hts hin9 hown hK hP 30 (by decide) hf166 rfl rfl dX9_ends_29 ?_
    refine lv_aload_n hx hb dX9_ends_32 rfl (lv_at hl 0 rfl) ?_
    refine m_get hx hb hts hin9 hown hK hP 4 (by decide) hf19 rfl rfl dX9_ends_33 ?_
    refine lv_iload_n hx hb dX9_ends_36 rfl (lv_at hl 1 rfl) ?_
    refine m_iald hx hb hK hP 3 30 rfl (by decide) rfl hh dX9_ends_37 ?_
    refine lv_iadd hx hb dX9_ends_38 ?_
    refine m_put hx hb hts hin9 hown hK hP hS 30 (by decide) hf166 rfl rfl (by decide +kernel) rfl dX9_ends_39 (fun H locs hP hS => ?_)
    have hP : gP E A n (GM E o (va_up c 30 ((c 30) + (S 3 (tn a)))) (va_up (va_up S 1 (upd (S 1) (tn a) 0)) 4 (upd (S 4) (tn a) ((S 4 (tn a)) + 1)))) H := hP
    refine g_retv hx hb hr hlk hP hS dX9_ends_42 ?_
    exact ⟨rfl, by first | rfl | (first | (simp [endS, endC, endH, bx_uu, fa_upd_twice, b7, Int32.not_le.mp b7]; done) | (exfalso; simp_all; done))⟩
end
section
def wrkB (c : Nat → Int32) (S : Nat → Nat → Int32) (h a k f : Int32) : Bool := hsB c h && hsB c f && inB a 0 29 && !decide (c 0 = 1040) && inB k 1 (yetOf c S f (c 0 / 52)) && (decide (h = f) || (decide (S 6 (tn h) = S 6 (tn f)) && (decide (S 22 (tn (21 * f + c 0 / 52)) = -1) || decide (S 22 (tn (21 * f + c 0 / 52)) = h))))
def wrk1 (c : Nat → Int32) (S : Nat → Nat → Int32) (h k f : Int32) : Nat → Nat → Int32 := if h = f then va_up S 18 (upd (S 18) (tn (21 * f + c 0 / 52)) (S 18 (tn (21 * f + c 0 / 52)) + k)) else va_up (va_up (va_up S 22 (upd (S 22) (tn (21 * f + c 0 / 52)) h)) 19 (upd (S 19) (tn (21 * f + c 0 / 52)) (S 19 (tn (21 * f + c 0 / 52)) + k))) 21 (upd (S 21) (tn (21 * h + c 0 / 52)) (S 21 (tn (21 * h + c 0 / 52)) + k))
def wrk2 (c : Nat → Int32) (S : Nat → Nat → Int32) (h k f : Int32) : Nat → Nat → Int32 := va_up (wrk1 c S h k f) 23 (upd (S 23) (tn (1040 * S 6 (tn h) + c 0)) (S 23 (tn (1040 * S 6 (tn h) + c 0)) + k))
def wrkS (c : Nat → Int32) (S : Nat → Nat → Int32) (h a k f : Int32) : Nat → Nat → Int32 := if wrkB c S h a k f then raiS (wrk2 c S h k f) a k else S
def wrkC (c : Nat → Int32) (S : Nat → Nat → Int32) (h a k f : Int32) : Nat → Int32 := if wrkB c S h a k f then va_up c 31 (c 31 + k) else c
def wrkR (c : Nat → Int32) (S : Nat → Nat → Int32) (h a k f : Int32) : Int32 := if wrkB c S h a k f then yetOf (va_up c 31 (c 31 + k)) (raiS (wrk2 c S h k f) a k) f (c 0 / 52) else -1
def buyB (c : Nat → Int32) (S : Nat → Nat → Int32) (h k : Int32) : Bool := hsB c h && !decide (c 0 = 1040) && inB k 1 (yetOf c S h (c 0 / 52))
def buyT (c : Nat → Int32) (S : Nat → Nat → Int32) (h k : Int32) : Nat → Nat → Int32 := va_up S 20 (upd (S 20) (tn (21 * h + c 0 / 52)) (S 20 (tn (21 * h + c 0 / 52)) + k))
def buyS (c : Nat → Int32) (S : Nat → Nat → Int32) (h k : Int32) : Nat → Nat → Int32 := if buyB c S h k then buyT c S h k else S
def buyX (c : Nat → Int32) (S : Nat → Nat → Int32) (h k : Int32) : Int32 := c 29 + k * coinOf (va_up c 32 (c 32 + k)) (buyT c S h k)
def buyC (c : Nat → Int32) (S : Nat → Nat → Int32) (h k : Int32) : Nat → Int32 := if buyB c S h k then va_up (va_up c 32 (c 32 + k)) 29 (buyX c S h k) else c
def buyR (c : Nat → Int32) (S : Nat → Nat → Int32) (h k : Int32) : Int32 := if buyB c S h k then buyX c S h k else -1
def hirB (c : Nat → Int32) (S : Nat → Nat → Int32) (a k : Int32) : Bool := inB a 0 29 && inB k 1 1000 && !decide (coinOf c S = 0) && decide (k * coinOf c S ≤ c 29)
def hirS (c : Nat → Int32) (S : Nat → Nat → Int32) (a k : Int32) : Nat → Nat → Int32 := if hirB c S a k then raiS S a k else S
def hirC (c : Nat → Int32) (S : Nat → Nat → Int32) (a k : Int32) : Nat → Int32 := if hirB c S a k then va_up (va_up c 29 (c 29 - k * coinOf c S)) 33 (c 33 + k) else c
def hirR (c : Nat → Int32) (S : Nat → Nat → Int32) (a k : Int32) : Int32 := if hirB c S a k then c 29 - k * coinOf c S else -1

set_option maxHeartbeats 4000000 in
set_option maxRecDepth 100000 in
theorem kX9_law (l : Launch) (E : gT) (A : Nat → Prop) (n : Nat) (o : Nat) (c : Nat → Int32) (S : Nat → Nat → Int32) (y w k : Int32) (hI : mI c S) : gM l yX9_law wsX9_law ({ frames := 1, cells := 0, slots := 0, locals := 22 } : Room) E A n (GM E o c S) [.ref o, .int y, .int w, .int k] (gQi E A (fun r' n' G' => lawR c y w k = r' ∧ n = n' ∧ (GM E o (lawC c y w k) (lawS c S y w k)) = G')) 0 0 := by
  refine g_entry (by decide) rfl (Nat.le_of_ble_eq_true rfl) ?_
  intro p e s m below meth c0 hx hb hr hlk hml hown hnm hts hK H locs ls hP hS hl
  have hin9 : ∀ w ∈ u_ws RX9 TX9 35, w ∈ wsX9_law := by decide +kernel
  have hf55 := hts (.fieldLink RX9 55 "DikeHandsModel" "lawYear" "[I") (by decide +kernel)
  have hf58 := hts (.fieldLink RX9 58 "DikeHandsModel" "lawWhat" "[I") (by decide +kernel)
  have hf61 := hts (.fieldLink RX9 61 "DikeHandsModel" "lawCoin" "[I") (by decide +kernel)
  have hf106 := hts (.fieldLink RX9 106 "DikeHandsModel" "laws" "I") (by decide +kernel)
  have hl : lv_has ls 4 [(0, .ref o), (1, .int y), (2, .int w), (3, .int k)] := hl
  refine lv_iload_n hx hb dX9_law_0 rfl (lv_at hl 1 rfl) ?_
  refine lv_iconst (v := 0) hx hb dX9_law_1 (by decide) ?_
  refine lv_bipush (v := 19) hx hb dX9_law_2 (by decide) ?_
  refine g_ci (g_runS (As := [.int y, .int 0, .int 19]) (rest := []) ⟨hx, hb, hml, hown, hts⟩ hK hP (kX9_in l E A n (GM E o c S) y 0 19) (va_cwS 3 hts gX9_law_X9_in rfl rfl rfl (by decide +kernel) ⟨Nat.le_of_ble_eq_true rfl, Nat.le_of_ble_eq_true rfl⟩) rfl hl.1 rfl (Nat.le_of_ble_eq_true rfl) dX9_law_4 ⟨Nat.le_of_ble_eq_true rfl, Nat.le_of_ble_eq_true rfl⟩) hS (fun r4 n' G' H locs hw hP hS => ?_)
  obtain ⟨rfl, rfl, rfl⟩ := hw
  refine g_ifeq (tgt := 54) hx hb dX9_law_7 (by decide) (fun b7 => ?_) (fun b7 => ?_)
  · refine lv_iconst (v := (-1)) hx hb dX9_law_54 (by decide) ?_
    refine g_reti hx hb hr hlk hP hS dX9_law_55 ?_
    exact ⟨by first | (simp [lawR, lawS, lawC, lawB, rem32, bx_uu, fa_upd_twice, b7]; done) | (exfalso; simp_all; done), rfl, by first | rfl | (first | (simp [lawR, lawS, lawC, lawB, rem32, bx_uu, fa_upd_twice, b7]; done) | (exfalso; simp_all; done))⟩
  · refine lv_iload_n hx hb dX9_law_10 rfl (lv_at hl 2 rfl) ?_
    refine lv_if_lt (tgt := 54) hx hb dX9_law_11 (by decide) (fun b11 => ?_) (fun b11 => ?_)
    · refine lv_iconst (v := (-1)) hx hb dX9_law_54 (by decide) ?_
      refine g_reti hx hb hr hlk hP hS dX9_law_55 ?_
      exact ⟨by first | (simp [lawR, lawS, lawC, lawB, rem32, bx_uu, fa_upd_twice, b7, b11, Int32.not_le.mpr b11]; done) | (exfalso; simp_all; done), rfl, by first | rfl | (first | (simp [lawR, lawS, lawC, lawB, rem32, bx_uu, fa_upd_twice, b7, b11, Int32.not_le.mpr b11]; done) | (exfalso; simp_all; done))⟩
    · refine lv_iload_n hx hb dX9_law_14 rfl (lv_at hl 2 rfl) ?_
      refine lv_sipush (v := 10000) hx hb dX9_law_15 (by decide) ?_
      refine lv_idiv hx hb dX9_law_18 (by decide) ?_
      refine lv_bipush (v := 9) hx hb dX9_law_19 (by decide) ?_
      refine lv_icmp_gt (tgt := 54) hx hb dX9_law_21 (by decide) (fun b21 => ?_) (fun b21 => ?_)
      · refine lv_iconst (v := (-1)) hx hb dX9_law_54 (by decide) ?_
        refine g_reti hx hb hr hlk hP hS dX9_law_55 ?_
        exact ⟨by first | (simp [lawR, lawS, lawC, lawB, rem32, bx_uu, fa_upd_twice, b7, b11, Int32.not_lt.mp b11, b21, Int32.not_le.mpr b21]; done) | (exfalso; simp_all; done), rfl, by first | rfl | (first | (simp [lawR, lawS, lawC, lawB, rem32, bx_uu, fa_upd_twice, b7, b11, Int32.not_lt.mp b11, b21, Int32.not_le.mpr b21]; done) | (exfalso; simp_all; done))⟩
      · refine lv_iload_n hx hb dX9_law_24 rfl (lv_at hl 2 rfl) ?_
        refine lv_sipush (v := 1000) hx hb dX9_law_25 (by decide) ?_
        refine lv_irem hx hb dX9_law_28 (by decide) ?_
        refine lv_sipush (v := 500) hx hb dX9_law_29 (by decide) ?_
        refine lv_icmp_gt (tgt := 54) hx hb dX9_law_32 (by decide) (fun b32 => ?_) (fun b32 => ?_)
        · refine lv_iconst (v := (-1)) hx hb dX9_law_54 (by decide) ?_
          refine g_reti hx hb hr hlk hP hS dX9_law_55 ?_
          exact ⟨by first | (simp [lawR, lawS, lawC, lawB, rem32, bx_uu, fa_upd_twice, b7, b11, Int32.not_lt.mp b11, b21, Int32.not_lt.mp b21, b32, Int32.not_le.mpr b32]; done) | (exfalso; simp_all; done), rfl, by first | rfl | (first | (simp [lawR, lawS, lawC, lawB, rem32, bx_uu, fa_upd_twice, b7, b11, Int32.not_lt.mp b11, b21, Int32.not_lt.mp b21, b32, Int32.not_le.mpr b32]; done) | (exfalso; simp_all; done))⟩
        · refine lv_iload_n hx hb dX9_law_35 rfl (lv_at hl 3 rfl) ?_
          refine lv_iconst (v := 0) hx hb dX9_law_36 (by decide) ?_
          refine lv_bipush (v := 100) hx hb dX9_law_37 (by decide) ?_
          refine g_ci (g_runS (As := [.int k, .int 0, .int 100]) (rest := []) ⟨hx, hb, hml, hown, hts⟩ hK hP (kX9_in l E A n (GM E o c S) k 0 100) (va_cwS 3 hts gX9_law_X9_in rfl rfl rfl (by decide +kernel) ⟨Nat.le_of_ble_eq_true rfl, Nat.le_of_ble_eq_true rfl⟩) rfl hl.1 rfl (Nat.le_of_ble_eq_true rfl) dX9_law_39 ⟨Nat.le_of_ble_eq_true rfl, Nat.le_of_ble_eq_true rfl⟩) hS (fun r39 n' G' H locs hw hP hS => ?_)
          obtain ⟨rfl, rfl, rfl⟩ := hw
          refine g_ifeq (tgt := 54) hx hb dX9_law_42 (by decide) (fun b42 => ?_) (fun b42 => ?_)
          · refine lv_iconst (v := (-1)) hx hb dX9_law_54 (by decide) ?_
            refine g_reti hx hb hr hlk hP hS dX9_law_55 ?_
            exact ⟨by first | (simp [lawR, lawS, lawC, lawB, rem32, bx_uu, fa_upd_twice, b7, b11, Int32.not_lt.mp b11, b21, Int32.not_lt.mp b21, b32, Int32.not_lt.mp b32, b42]; done) | (exfalso; simp_all; done), rfl, by first | rfl | (first | (simp [lawR, lawS, lawC, lawB, rem32, bx_uu, fa_upd_twice, b7, b11, Int32.not_lt.mp b11, b21, Int32.not_lt.mp b21, b32, Int32.not_lt.mp b32, b42]; done) | (exfalso; simp_all; done))⟩
          · refine lv_aload_n hx hb dX9_law_45 rfl (lv_at hl 0 rfl) ?_
            refine m_get (v := .int (c 18)) hx hb hts hin9 hown hK hP 18 (by decide) hf106 rfl rfl dX9_law_46 ?_
            refine lv_bipush (v := 40) hx hb dX9_law_49 (by decide) ?_
            refine lv_icmp_ne (tgt := 56) hx hb dX9_law_51 (by decide) (fun b51 => ?_) (fun b51 => ?_)
            · refine lv_aload_n hx hb dX9_law_56 rfl (lv_at hl 0 rfl) ?_
              refine m_get (v := .ref (o + 16)) hx hb hts hin9 hown hK hP 19 (by decide) hf55 rfl rfl dX9_law_57 ?_
              refine lv_aload_n hx hb dX9_law_60 rfl (lv_at hl 0 rfl) ?_
              refine m_get (v := .int (c 18)) hx hb hts hin9 hown hK hP 18 (by decide) hf106 rfl rfl dX9_law_61 ?_
              refine lv_iload_n hx hb dX9_law_64 rfl (lv_at hl 1 rfl) ?_
              refine m_iast hx hb hK hP hS 15 40 rfl (by decide) rfl (cnt_vp hI.2.2.2.1.1 hI.2.2.2.1.2 rfl b51) dX9_law_65 (fun H locs hP hS => ?_)
              have hP : gP E A n (GM E o c (va_up S 15 (upd (S 15) (tn (c 18)) y))) H := hP
              refine lv_aload_n hx hb dX9_law_66 rfl (lv_at hl 0 rfl) ?_
              refine m_get (v := .ref (o + 17)) hx hb hts hin9 hown hK hP 20 (by decide) hf58 rfl rfl dX9_law_67 ?_
              refine lv_aload_n hx hb dX9_law_70 rfl (lv_at hl 0 rfl) ?_
              refine m_get (v := .int (c 18)) hx hb hts hin9 hown hK hP 18 (by decide) hf106 rfl rfl dX9_law_71 ?_
              refine lv_iload_n hx hb dX9_law_74 rfl (lv_at hl 2 rfl) ?_
              refine m_iast hx hb hK hP hS 16 40 rfl (by decide) rfl (cnt_vp hI.2.2.2.1.1 hI.2.2.2.1.2 rfl b51) dX9_law_75 (fun H locs hP hS => ?_)
              have hP : gP E A n (GM E o c (va_up (va_up S 15 (upd (S 15) (tn (c 18)) y)) 16 (upd (S 16) (tn (c 18)) w))) H := hP
              refine lv_aload_n hx hb dX9_law_76 rfl (lv_at hl 0 rfl) ?_
              refine m_get (v := .ref (o + 18)) hx hb hts hin9 hown hK hP 21 (by decide) hf61 rfl rfl dX9_law_77 ?_
              refine lv_aload_n hx hb dX9_law_80 rfl (lv_at hl 0 rfl) ?_
              refine m_get (v := .int (c 18)) hx hb hts hin9 hown hK hP 18 (by decide) hf106 rfl rfl dX9_law_81 ?_
              refine lv_iload_n hx hb dX9_law_84 rfl (lv_at hl 3 rfl) ?_
              refine m_iast hx hb hK hP hS 17 40 rfl (by decide) rfl (cnt_vp hI.2.2.2.1.1 hI.2.2.2.1.2 rfl b51) dX9_law_85 (fun H locs hP hS => ?_)
              have hP : gP E A n (GM E o c (va_up (va_up (va_up S 15 (upd (S 15) (tn (c 18)) y)) 16 (upd (S 16) (tn (c 18)) w)) 17 (upd (S 17) (tn (c 18)) k))) H := hP
              refine lv_aload_n hx hb dX9_law_86 rfl (lv_at hl 0 rfl) ?_
              refine lv_dup hx hb dX9_law_87 rfl ?_
              refine m_get (v := .int (c 18)) hx hb hts hin9 hown hK hP 18 (by decide) hf106 rfl rfl dX9_law_88 ?_
              refine lv_iconst (v := 1) hx hb dX9_law_91 (by decide) ?_
              refine lv_iadd hx hb dX9_law_92 ?_
              refine m_put hx hb hts hin9 hown hK hP hS 18 (by decide) hf106 rfl rfl (by decide +kernel) rfl dX9_law_93 (fun H locs hP hS => ?_)
              have hP : gP E A n (GM E o (va_up c 18 ((c 18) + 1)) (va_up (va_up (va_up S 15 (upd (S 15) (tn (c 18)) y)) 16 (upd (S 16) (tn (c 18)) w)) 17 (upd (S 17) (tn (c 18)) k))) H := hP
              refine lv_aload_n hx hb dX9_law_96 rfl (lv_at hl 0 rfl) ?_
              refine m_get (v := .int ((c 18) + 1)) hx hb hts hin9 hown hK hP 18 (by decide) hf106 rfl rfl dX9_law_97 ?_
              refine g_reti hx hb hr hlk hP hS dX9_law_100 ?_
              exact ⟨by first | (simp [lawR, lawS, lawC, lawB, rem32, bx_uu, fa_upd_twice, b7, b11, Int32.not_lt.mp b11, b21, Int32.not_lt.mp b21, b32, Int32.not_lt.mp b32, b42, b51]; done) | (exfalso; simp_all; done), rfl, by first | rfl | (first | (simp [lawR, lawS, lawC, lawB, rem32, bx_uu, fa_upd_twice, b7, b11, Int32.not_lt.mp b11, b21, Int32.not_lt.mp b21, b32, Int32.not_lt.mp b32, b42, b51]; done) | (exfalso; simp_all; done))⟩
            · refine lv_iconst (v := (-1)) hx hb dX9_law_54 (by decide) ?_
              refine g_reti hx hb hr hlk hP hS dX9_law_55 ?_
              exact ⟨by first | (simp [lawR, lawS, lawC, lawB, rem32, bx_uu, fa_upd_twice, b7, b11, Int32.not_lt.mp b11, b21, Int32.not_lt.mp b21, b32, Int32.not_lt.mp b32, b42, b51]; done) | (exfalso; simp_all; done), rfl, by first | rfl | (first | (simp [lawR, lawS, lawC, lawB, rem32, bx_uu, fa_upd_twice, b7, b11, Int32.not_lt.mp b11, b21, Int32.not_lt.mp b21, b32, Int32.not_lt.mp b32, b42, b51]; done) | (exfalso; simp_all; done))⟩
set_option maxHeartbeats 4000000 in
set_option maxRecDepth 100000 in
theorem kX9_house (l : Launch) (E : gT) (A : Nat → Prop) (n : Nat) (o : Nat) (c : Nat → Int32) (S : Nat → Nat → Int32) (v a b : Int32) (hI : mI c S) : gM l yX9_house wsX9_house ({ frames := 2, cells := 0, slots := 0, locals := 42 } : Room) E A n (GM E o c S) [.ref o, .int v, .int a, .int b] (gQi E A (fun r' n' G' => houR c v a b = r' ∧ n = n' ∧ (GM E o (houC c v a b) (houS c S v a b)) = G')) 0 0 := by
  refine g_entry (by decide) rfl (Nat.le_of_ble_eq_true rfl) ?_
  intro p e s m below meth c0 hx hb hr hlk hml hown hnm hts hK H locs ls hP hS hl
  have hin9 : ∀ w ∈ u_ws RX9 TX9 35, w ∈ wsX9_house := by decide +kernel
  have hf28 := hts (.fieldLink RX9 28 "DikeHandsModel" "village" "[I") (by decide +kernel)
  have hf31 := hts (.fieldLink RX9 31 "DikeHandsModel" "came" "[I") (by decide +kernel)
  have hf34 := hts (.fieldLink RX9 34 "DikeHandsModel" "firstAcres" "[I") (by decide +kernel)
  have hf37 := hts (.fieldLink RX9 37 "DikeHandsModel" "firstHands" "[I") (by decide +kernel)
  have hf92 := hts (.fieldLink RX9 92 "DikeHandsModel" "houses" "I") (by decide +kernel)
  have hf96 := hts (.fieldLink RX9 96 "DikeHandsModel" "now" "I") (by decide +kernel)
  have hl : lv_has ls 4 [(0, .ref o), (1, .int v), (2, .int a), (3, .int b)] := hl
  refine lv_iload_n hx hb dX9_house_0 rfl (lv_at hl 1 rfl) ?_
  refine g_ci (g_runS (As := [.int v]) (rest := []) ⟨hx, hb, hml, hown, hts⟩ hK hP (kX9_isVillage l E A n (GM E o c S) v) (va_cwS 1 hts gX9_house_X9_isVillage rfl rfl rfl (by decide +kernel) ⟨Nat.le_of_ble_eq_true rfl, Nat.le_of_ble_eq_true rfl⟩) rfl hl.1 rfl (Nat.le_of_ble_eq_true rfl) dX9_house_1 ⟨Nat.le_of_ble_eq_true rfl, Nat.le_of_ble_eq_true rfl⟩) hS (fun r1 n' G' H locs hw hP hS => ?_)
  obtain ⟨rfl, rfl, rfl⟩ := hw
  refine g_ifeq (tgt := 37) hx hb dX9_house_4 (by decide) (fun b4 => ?_) (fun b4 => ?_)
  · refine lv_iconst (v := (-1)) hx hb dX9_house_37 (by decide) ?_
    refine g_reti hx hb hr hlk hP hS dX9_house_38 ?_
    exact ⟨by first | (simp [houR, houS, houC, houB, bx_uu, fa_upd_twice, b4]; done) | (exfalso; simp_all; done), rfl, by first | rfl | (first | (simp [houR, houS, houC, houB, bx_uu, fa_upd_twice, b4]; done) | (exfalso; simp_all; done))⟩
  · refine lv_iload_n hx hb dX9_house_7 rfl (lv_at hl 2 rfl) ?_
    refine lv_iconst (v := 0) hx hb dX9_house_8 (by decide) ?_
    refine lv_sipush (v := 500) hx hb dX9_house_9 (by decide) ?_
    refine g_ci (g_runS (As := [.int a, .int 0, .int 500]) (rest := []) ⟨hx, hb, hml, hown, hts⟩ hK hP (kX9_in l E A n (GM E o c S) a 0 500) (va_cwS 3 hts gX9_house_X9_in rfl rfl rfl (by decide +kernel) ⟨Nat.le_of_ble_eq_true rfl, Nat.le_of_ble_eq_true rfl⟩) rfl hl.1 rfl (Nat.le_of_ble_eq_true rfl) dX9_house_12 ⟨Nat.le_of_ble_eq_true rfl, Nat.le_of_ble_eq_true rfl⟩) hS (fun r12 n' G' H locs hw hP hS => ?_)
    obtain ⟨rfl, rfl, rfl⟩ := hw
    refine g_ifeq (tgt := 37) hx hb dX9_house_15 (by decide) (fun b15 => ?_) (fun b15 => ?_)
    · refine lv_iconst (v := (-1)) hx hb dX9_house_37 (by decide) ?_
      refine g_reti hx hb hr hlk hP hS dX9_house_38 ?_
      exact ⟨by first | (simp [houR, houS, houC, houB, bx_uu, fa_upd_twice, b4, b15]; done) | (exfalso; simp_all; done), rfl, by first | rfl | (first | (simp [houR, houS, houC, houB, bx_uu, fa_upd_twice, b4, b15]; done) | (exfalso; simp_all; done))⟩
    · refine lv_iload_n hx hb dX9_house_18 rfl (lv_at hl 3 rfl) ?_
      refine lv_iconst (v := 0) hx hb dX9_house_19 (by decide) ?_
      refine lv_bipush (v := 20) hx hb dX9_house_20 (by decide) ?_
      refine g_ci (g_runS (As := [.int b, .int 0, .int 20]) (rest := []) ⟨hx, hb, hml, hown, hts⟩ hK hP (kX9_in l E A n (GM E o c S) b 0 20) (va_cwS 3 hts gX9_house_X9_in rfl rfl rfl (by decide +kernel) ⟨Nat.le_of_ble_eq_true rfl, Nat.le_of_ble_eq_true rfl⟩) rfl hl.1 rfl (Nat.le_of_ble_eq_true rfl) dX9_house_22 ⟨Nat.le_of_ble_eq_true rfl, Nat.le_of_ble_eq_true rfl⟩) hS (fun r22 n' G' H locs hw hP hS => ?_)
      obtain ⟨rfl, rfl, rfl⟩ := hw
      refine g_ifeq (tgt := 37) hx hb dX9_house_25 (by decide) (fun b25 => ?_) (fun b25 => ?_)
      · refine lv_iconst (v := (-1)) hx hb dX9_house_37 (by decide) ?_
        refine g_reti hx hb hr hlk hP hS dX9_house_38 ?_
        exact ⟨by first | (simp [houR, houS, houC, houB, bx_uu, fa_upd_twice, b4, b15, b25]; done) | (exfalso; simp_all; done), rfl, by first | rfl | (first | (simp [houR, houS, houC, houB, bx_uu, fa_upd_twice, b4, b15, b25]; done) | (exfalso; simp_all; done))⟩
      · refine lv_aload_n hx hb dX9_house_28 rfl (lv_at hl 0 rfl) ?_
        refine m_get (v := .int (c 7)) hx hb hts hin9 hown hK hP 7 (by decide) hf92 rfl rfl dX9_house_29 ?_
        refine lv_bipush (v := 40) hx hb dX9_house_32 (by decide) ?_
        refine lv_icmp_ne (tgt := 39) hx hb dX9_house_34 (by decide) (fun b34 => ?_) (fun b34 => ?_)
        · refine lv_aload_n hx hb dX9_house_39 rfl (lv_at hl 0 rfl) ?_
          refine m_get (v := .ref (o + 7)) hx hb hts hin9 hown hK hP 8 (by decide) hf28 rfl rfl dX9_house_40 ?_
          refine lv_aload_n hx hb dX9_house_43 rfl (lv_at hl 0 rfl) ?_
          refine m_get (v := .int (c 7)) hx hb hts hin9 hown hK hP 7 (by decide) hf92 rfl rfl dX9_house_44 ?_
          refine lv_iload_n hx hb dX9_house_47 rfl (lv_at hl 1 rfl) ?_
          refine m_iast hx hb hK hP hS 6 40 rfl (by decide) rfl (cnt_vp hI.2.1.1 hI.2.1.2 rfl b34) dX9_house_48 (fun H locs hP hS => ?_)
          have hP : gP E A n (GM E o c (va_up S 6 (upd (S 6) (tn (c 7)) v))) H := hP
          refine lv_aload_n hx hb dX9_house_49 rfl (lv_at hl 0 rfl) ?_
          refine m_get (v := .ref (o + 8)) hx hb hts hin9 hown hK hP 9 (by decide) hf31 rfl rfl dX9_house_50 ?_
          refine lv_aload_n hx hb dX9_house_53 rfl (lv_at hl 0 rfl) ?_
          refine m_get (v := .int (c 7)) hx hb hts hin9 hown hK hP 7 (by decide) hf92 rfl rfl dX9_house_54 ?_
          refine lv_aload_n hx hb dX9_house_57 rfl (lv_at hl 0 rfl) ?_
          refine m_get (v := .int (c 0)) hx hb hts hin9 hown hK hP 0 (by decide) hf96 rfl rfl dX9_house_58 ?_
          refine m_iast hx hb hK hP hS 7 40 rfl (by decide) rfl (cnt_vp hI.2.1.1 hI.2.1.2 rfl b34) dX9_house_61 (fun H locs hP hS => ?_)
          have hP : gP E A n (GM E o c (va_up (va_up S 6 (upd (S 6) (tn (c 7)) v)) 7 (upd (S 7) (tn (c 7)) (c 0)))) H := hP
          refine lv_aload_n hx hb dX9_house_62 rfl (lv_at hl 0 rfl) ?_
          refine m_get (v := .ref (o + 9)) hx hb hts hin9 hown hK hP 10 (by decide) hf34 rfl rfl dX9_house_63 ?_
          refine lv_aload_n hx hb dX9_house_66 rfl (lv_at hl 0 rfl) ?_
          refine m_get (v := .int (c 7)) hx hb hts hin9 hown hK hP 7 (by decide) hf92 rfl rfl dX9_house_67 ?_
          refine lv_iload_n hx hb dX9_house_70 rfl (lv_at hl 2 rfl) ?_
          refine m_iast hx hb hK hP hS 8 40 rfl (by decide) rfl (cnt_vp hI.2.1.1 hI.2.1.2 rfl b34) dX9_house_71 (fun H locs hP hS => ?_)
          have hP : gP E A n (GM E o c (va_up (va_up (va_up S 6 (upd (S 6) (tn (c 7)) v)) 7 (upd (S 7) (tn (c 7)) (c 0))) 8 (upd (S 8) (tn (c 7)) a))) H := hP
          refine lv_aload_n hx hb dX9_house_72 rfl (lv_at hl 0 rfl) ?_
          refine m_get (v := .ref (o + 10)) hx hb hts hin9 hown hK hP 11 (by decide) hf37 rfl rfl dX9_house_73 ?_
          refine lv_aload_n hx hb dX9_house_76 rfl (lv_at hl 0 rfl) ?_
          refine m_get (v := .int (c 7)) hx hb hts hin9 hown hK hP 7 (by decide) hf92 rfl rfl dX9_house_77 ?_
          refine lv_iload_n hx hb dX9_house_80 rfl (lv_at hl 3 rfl) ?_
          refine m_iast hx hb hK hP hS 9 40 rfl (by decide) rfl (cnt_vp hI.2.1.1 hI.2.1.2 rfl b34) dX9_house_81 (fun H locs hP hS => ?_)
          have hP : gP E A n (GM E o c (va_up (va_up (va_up (va_up S 6 (upd (S 6) (tn (c 7)) v)) 7 (upd (S 7) (tn (c 7)) (c 0))) 8 (upd (S 8) (tn (c 7)) a)) 9 (upd (S 9) (tn (c 7)) b))) H := hP
          refine lv_aload_n hx hb dX9_house_82 rfl (lv_at hl 0 rfl) ?_
          refine lv_dup hx hb dX9_house_83 rfl ?_
          refine m_get (v := .int (c 7)) hx hb hts hin9 hown hK hP 7 (by decide) hf92 rfl rfl dX9_house_84 ?_
          refine lv_iconst (v := 1) hx hb dX9_house_87 (by decide) ?_
          refine lv_iadd hx hb dX9_house_88 ?_
          refine m_put hx hb hts hin9 hown hK hP hS 7 (by decide) hf92 rfl rfl (by decide +kernel) rfl dX9_house_89 (fun H locs hP hS => ?_)
          have hP : gP E A n (GM E o (va_up c 7 ((c 7) + 1)) (va_up (va_up (va_up (va_up S 6 (upd (S 6) (tn (c 7)) v)) 7 (upd (S 7) (tn (c 7)) (c 0))) 8 (upd (S 8) (tn (c 7)) a)) 9 (upd (S 9) (tn (c 7)) b))) H := hP
          refine lv_aload_n hx hb dX9_house_92 rfl (lv_at hl 0 rfl) ?_
          refine m_get (v := .int ((c 7) + 1)) hx hb hts hin9 hown hK hP 7 (by decide) hf92 rfl rfl dX9_house_93 ?_
          refine lv_iconst (v := 1) hx hb dX9_house_96 (by decide) ?_
          refine lv_isub hx hb dX9_house_97 ?_
          refine g_reti hx hb hr hlk hP hS dX9_house_98 ?_
          exact ⟨by first | (simp [houR, houS, houC, houB, bx_uu, fa_upd_twice, b4, b15, b25, b34]; done) | (exfalso; simp_all; done), rfl, by first | rfl | (first | (simp [houR, houS, houC, houB, bx_uu, fa_upd_twice, b4, b15, b25, b34]; done) | (exfalso; simp_all; done))⟩
        · refine lv_iconst (v := (-1)) hx hb dX9_house_37 (by decide) ?_
          refine g_reti hx hb hr hlk hP hS dX9_house_38 ?_
          exact ⟨by first | (simp [houR, houS, houC, houB, bx_uu, fa_upd_twice, b4, b15, b25, b34]; done) | (exfalso; simp_all; done), rfl, by first | rfl | (first | (simp [houR, houS, houC, houB, bx_uu, fa_upd_twice, b4, b15, b25, b34]; done) | (exfalso; simp_all; done))⟩
set_option maxHeartbeats 4000000 in
set_option maxRecDepth 100000 in
theorem kX9_change (l : Launch) (E : gT) (A : Nat → Prop) (n : Nat) (o : Nat) (c : Nat → Int32) (S : Nat → Nat → Int32) (h w a b : Int32) (hI : mI c S) : gM l yX9_change wsX9_change ({ frames := 2, cells := 0, slots := 0, locals := 43 } : Room) E A n (GM E o c S) [.ref o, .int h, .int w, .int a, .int b] (gQi E A (fun r' n' G' => gb (chgB c S h w a b) = r' ∧ n = n' ∧ (GM E o (chgC c S h w a b) (chgS c S h w a b)) = G')) 0 0 := by
  refine g_entry (by decide) rfl (Nat.le_of_ble_eq_true rfl) ?_
  intro p e s m below meth c0 hx hb hr hlk hml hown hnm hts hK H locs ls hP hS hl
  have hin9 : ∀ w ∈ u_ws RX9 TX9 35, w ∈ wsX9_change := by decide +kernel
  have hf31 := hts (.fieldLink RX9 31 "DikeHandsModel" "came" "[I") (by decide +kernel)
  have hf40 := hts (.fieldLink RX9 40 "DikeHandsModel" "changeOf" "[I") (by decide +kernel)
  have hf43 := hts (.fieldLink RX9 43 "DikeHandsModel" "trueFrom" "[I") (by decide +kernel)
  have hf46 := hts (.fieldLink RX9 46 "DikeHandsModel" "toldAt" "[I") (by decide +kernel)
  have hf49 := hts (.fieldLink RX9 49 "DikeHandsModel" "acresTo" "[I") (by decide +kernel)
  have hf52 := hts (.fieldLink RX9 52 "DikeHandsModel" "handsTo" "[I") (by decide +kernel)
  have hf96 := hts (.fieldLink RX9 96 "DikeHandsModel" "now" "I") (by decide +kernel)
  have hf116 := hts (.fieldLink RX9 116 "DikeHandsModel" "changes" "I") (by decide +kernel)
  have hl : lv_has ls 5 [(0, .ref o), (1, .int h), (2, .int w), (3, .int a), (4, .int b)] := hl
  refine lv_aload_n hx hb dX9_change_0 rfl (lv_at hl 0 rfl) ?_
  refine lv_iload_n hx hb dX9_change_1 rfl (lv_at hl 1 rfl) ?_
  refine g_ci (g_runV (As := [.int h]) (rest := []) ⟨hx, hb, hml, hown, hts⟩ hK hP (kX9_isHouse l E A n o c S h ) (cwV 1 hts gX9_change_X9_isHouse rfl rfl rfl (by decide +kernel) ⟨Nat.le_of_ble_eq_true rfl, Nat.le_of_ble_eq_true rfl⟩) GM_o rfl rfl hl.1 rfl (Nat.le_of_ble_eq_true rfl) dX9_change_2 ⟨Nat.le_of_ble_eq_true rfl, Nat.le_of_ble_eq_true rfl⟩) hS (fun r2 n' G' H locs hw hP hS => ?_)
  obtain ⟨rfl, rfl, rfl⟩ := hw
  refine g_ifeq (tgt := 57) hx hb dX9_change_5 (by decide) (fun b5 => ?_) (fun b5 => ?_)
  · refine lv_iconst (v := 0) hx hb dX9_change_57 (by decide) ?_
    refine g_retz hx hb hr hlk hP hS dX9_change_58 rfl ?_
    exact ⟨by first | (simp [chgS, chgC, chgB, gb, bx_uu, fa_upd_twice, b5]; done) | (exfalso; simp_all; done), rfl, by first | rfl | (first | (simp [chgS, chgC, chgB, gb, bx_uu, fa_upd_twice, b5]; done) | (exfalso; simp_all; done))⟩
  · refine lv_iload_n hx hb dX9_change_8 rfl (lv_at hl 2 rfl) ?_
    refine lv_aload_n hx hb dX9_change_9 rfl (lv_at hl 0 rfl) ?_
    refine m_get (v := .ref (o + 8)) hx hb hts hin9 hown hK hP 9 (by decide) hf31 rfl rfl dX9_change_10 ?_
    refine lv_iload_n hx hb dX9_change_13 rfl (lv_at hl 1 rfl) ?_
    refine m_iald hx hb hK hP 7 40 rfl (by decide) rfl (hsB_vp hI b5) dX9_change_14 ?_
    refine lv_aload_n hx hb dX9_change_15 rfl (lv_at hl 0 rfl) ?_
    refine m_get (v := .int (c 0)) hx hb hts hin9 hown hK hP 0 (by decide) hf96 rfl rfl dX9_change_16 ?_
    refine g_ci (g_runS (As := [.int w, .int (S 7 (tn h)), .int (c 0)]) (rest := []) ⟨hx, hb, hml, hown, hts⟩ hK hP (kX9_in l E A n (GM E o c S) w (S 7 (tn h)) (c 0)) (va_cwS 3 hts gX9_change_X9_in rfl rfl rfl (by decide +kernel) ⟨Nat.le_of_ble_eq_true rfl, Nat.le_of_ble_eq_true rfl⟩) rfl hl.1 rfl (Nat.le_of_ble_eq_true rfl) dX9_change_19 ⟨Nat.le_of_ble_eq_true rfl, Nat.le_of_ble_eq_true rfl⟩) hS (fun r19 n' G' H locs hw hP hS => ?_)
    obtain ⟨rfl, rfl, rfl⟩ := hw
    refine g_ifeq (tgt := 57) hx hb dX9_change_22 (by decide) (fun b22 => ?_) (fun b22 => ?_)
    · refine lv_iconst (v := 0) hx hb dX9_change_57 (by decide) ?_
      refine g_retz hx hb hr hlk hP hS dX9_change_58 rfl ?_
      exact ⟨by first | (simp [chgS, chgC, chgB, gb, bx_uu, fa_upd_twice, b5, b22]; done) | (exfalso; simp_all; done), rfl, by first | rfl | (first | (simp [chgS, chgC, chgB, gb, bx_uu, fa_upd_twice, b5, b22]; done) | (exfalso; simp_all; done))⟩
    · refine lv_iload_n hx hb dX9_change_25 rfl (lv_at hl 3 rfl) ?_
      refine lv_iconst (v := 0) hx hb dX9_change_26 (by decide) ?_
      refine lv_sipush (v := 500) hx hb dX9_change_27 (by decide) ?_
      refine g_ci (g_runS (As := [.int a, .int 0, .int 500]) (rest := []) ⟨hx, hb, hml, hown, hts⟩ hK hP (kX9_in l E A n (GM E o c S) a 0 500) (va_cwS 3 hts gX9_change_X9_in rfl rfl rfl (by decide +kernel) ⟨Nat.le_of_ble_eq_true rfl, Nat.le_of_ble_eq_true rfl⟩) rfl hl.1 rfl (Nat.le_of_ble_eq_true rfl) dX9_change_30 ⟨Nat.le_of_ble_eq_true rfl, Nat.le_of_ble_eq_true rfl⟩) hS (fun r30 n' G' H locs hw hP hS => ?_)
      obtain ⟨rfl, rfl, rfl⟩ := hw
      refine g_ifeq (tgt := 57) hx hb dX9_change_33 (by decide) (fun b33 => ?_) (fun b33 => ?_)
      · refine lv_iconst (v := 0) hx hb dX9_change_57 (by decide) ?_
        refine g_retz hx hb hr hlk hP hS dX9_change_58 rfl ?_
        exact ⟨by first | (simp [chgS, chgC, chgB, gb, bx_uu, fa_upd_twice, b5, b22, b33]; done) | (exfalso; simp_all; done), rfl, by first | rfl | (first | (simp [chgS, chgC, chgB, gb, bx_uu, fa_upd_twice, b5, b22, b33]; done) | (exfalso; simp_all; done))⟩
      · refine lv_iload hx hb dX9_change_36 (lv_at hl 4 rfl) ?_
        refine lv_iconst (v := 0) hx hb dX9_change_38 (by decide) ?_
        refine lv_bipush (v := 20) hx hb dX9_change_39 (by decide) ?_
        refine g_ci (g_runS (As := [.int b, .int 0, .int 20]) (rest := []) ⟨hx, hb, hml, hown, hts⟩ hK hP (kX9_in l E A n (GM E o c S) b 0 20) (va_cwS 3 hts gX9_change_X9_in rfl rfl rfl (by decide +kernel) ⟨Nat.le_of_ble_eq_true rfl, Nat.le_of_ble_eq_true rfl⟩) rfl hl.1 rfl (Nat.le_of_ble_eq_true rfl) dX9_change_41 ⟨Nat.le_of_ble_eq_true rfl, Nat.le_of_ble_eq_true rfl⟩) hS (fun r41 n' G' H locs hw hP hS => ?_)
        obtain ⟨rfl, rfl, rfl⟩ := hw
        refine g_ifeq (tgt := 57) hx hb dX9_change_44 (by decide) (fun b44 => ?_) (fun b44 => ?_)
        · refine lv_iconst (v := 0) hx hb dX9_change_57 (by decide) ?_
          refine g_retz hx hb hr hlk hP hS dX9_change_58 rfl ?_
          exact ⟨by first | (simp [chgS, chgC, chgB, gb, bx_uu, fa_upd_twice, b5, b22, b33, b44]; done) | (exfalso; simp_all; done), rfl, by first | rfl | (first | (simp [chgS, chgC, chgB, gb, bx_uu, fa_upd_twice, b5, b22, b33, b44]; done) | (exfalso; simp_all; done))⟩
        · refine lv_aload_n hx hb dX9_change_47 rfl (lv_at hl 0 rfl) ?_
          refine m_get (v := .int (c 12)) hx hb hts hin9 hown hK hP 12 (by decide) hf116 rfl rfl dX9_change_48 ?_
          refine lv_sipush (v := 200) hx hb dX9_change_51 (by decide) ?_
          refine lv_icmp_ne (tgt := 59) hx hb dX9_change_54 (by decide) (fun b54 => ?_) (fun b54 => ?_)
          · refine lv_aload_n hx hb dX9_change_59 rfl (lv_at hl 0 rfl) ?_
            refine m_get (v := .ref (o + 11)) hx hb hts hin9 hown hK hP 13 (by decide) hf40 rfl rfl dX9_change_60 ?_
            refine lv_aload_n hx hb dX9_change_63 rfl (lv_at hl 0 rfl) ?_
            refine m_get (v := .int (c 12)) hx hb hts hin9 hown hK hP 12 (by decide) hf116 rfl rfl dX9_change_64 ?_
            refine lv_iload_n hx hb dX9_change_67 rfl (lv_at hl 1 rfl) ?_
            refine m_iast hx hb hK hP hS 10 200 rfl (by decide) rfl (cnt_vp hI.2.2.1.1 hI.2.2.1.2 rfl b54) dX9_change_68 (fun H locs hP hS => ?_)
            have hP : gP E A n (GM E o c (va_up S 10 (upd (S 10) (tn (c 12)) h))) H := hP
            refine lv_aload_n hx hb dX9_change_69 rfl (lv_at hl 0 rfl) ?_
            refine m_get (v := .ref (o + 12)) hx hb hts hin9 hown hK hP 14 (by decide) hf43 rfl rfl dX9_change_70 ?_
            refine lv_aload_n hx hb dX9_change_73 rfl (lv_at hl 0 rfl) ?_
            refine m_get (v := .int (c 12)) hx hb hts hin9 hown hK hP 12 (by decide) hf116 rfl rfl dX9_change_74 ?_
            refine lv_iload_n hx hb dX9_change_77 rfl (lv_at hl 2 rfl) ?_
            refine m_iast hx hb hK hP hS 11 200 rfl (by decide) rfl (cnt_vp hI.2.2.1.1 hI.2.2.1.2 rfl b54) dX9_change_78 (fun H locs hP hS => ?_)
            have hP : gP E A n (GM E o c (va_up (va_up S 10 (upd (S 10) (tn (c 12)) h)) 11 (upd (S 11) (tn (c 12)) w))) H := hP
            refine lv_aload_n hx hb dX9_change_79 rfl (lv_at hl 0 rfl) ?_
            refine m_get (v := .ref (o + 13)) hx hb hts hin9 hown hK hP 15 (by decide) hf46 rfl rfl dX9_change_80 ?_
            refine lv_aload_n hx hb dX9_change_83 rfl (lv_at hl 0 rfl) ?_
            refine m_get (v := .int (c 12)) hx hb hts hin9 hown hK hP 12 (by decide) hf116 rfl rfl dX9_change_84 ?_
            refine lv_aload_n hx hb dX9_change_87 rfl (lv_at hl 0 rfl) ?_
            refine m_get (v := .int (c 0)) hx hb hts hin9 hown hK hP 0 (by decide) hf96 rfl rfl dX9_change_88 ?_
            refine m_iast hx hb hK hP hS 12 200 rfl (by decide) rfl (cnt_vp hI.2.2.1.1 hI.2.2.1.2 rfl b54) dX9_change_91 (fun H locs hP hS => ?_)
            have hP : gP E A n (GM E o c (va_up (va_up (va_up S 10 (upd (S 10) (tn (c 12)) h)) 11 (upd (S 11) (tn (c 12)) w)) 12 (upd (S 12) (tn (c 12)) (c 0)))) H := hP
            refine lv_aload_n hx hb dX9_change_92 rfl (lv_at hl 0 rfl) ?_
            refine m_get (v := .ref (o + 14)) hx hb hts hin9 hown hK hP 16 (by decide) hf49 rfl rfl dX9_change_93 ?_
            refine lv_aload_n hx hb dX9_change_96 rfl (lv_at hl 0 rfl) ?_
            refine m_get (v := .int (c 12)) hx hb hts hin9 hown hK hP 12 (by decide) hf116 rfl rfl dX9_change_97 ?_
            refine lv_iload_n hx hb dX9_change_100 rfl (lv_at hl 3 rfl) ?_
            refine m_iast hx hb hK hP hS 13 200 rfl (by decide) rfl (cnt_vp hI.2.2.1.1 hI.2.2.1.2 rfl b54) dX9_change_101 (fun H locs hP hS => ?_)
            have hP : gP E A n (GM E o c (va_up (va_up (va_up (va_up S 10 (upd (S 10) (tn (c 12)) h)) 11 (upd (S 11) (tn (c 12)) w)) 12 (upd (S 12) (tn (c 12)) (c 0))) 13 (upd (S 13) (tn (c 12)) a))) H := hP
            refine lv_aload_n hx hb dX9_change_102 rfl (lv_at hl 0 rfl) ?_
            refine m_get (v := .ref (o + 15)) hx hb hts hin9 hown hK hP 17 (by decide) hf52 rfl rfl dX9_change_103 ?_
            refine lv_aload_n hx hb dX9_change_106 rfl (lv_at hl 0 rfl) ?_
            refine m_get (v := .int (c 12)) hx hb hts hin9 hown hK hP 12 (by decide) hf116 rfl rfl dX9_change_107 ?_
            refine lv_iload hx hb dX9_change_110 (lv_at hl 4 rfl) ?_
            refine m_iast hx hb hK hP hS 14 200 rfl (by decide) rfl (cnt_vp hI.2.2.1.1 hI.2.2.1.2 rfl b54) dX9_change_112 (fun H locs hP hS => ?_)
            have hP : gP E A n (GM E o c (va_up (va_up (va_up (va_up (va_up S 10 (upd (S 10) (tn (c 12)) h)) 11 (upd (S 11) (tn (c 12)) w)) 12 (upd (S 12) (tn (c 12)) (c 0))) 13 (upd (S 13) (tn (c 12)) a)) 14 (upd (S 14) (tn (c 12)) b))) H := hP
            refine lv_aload_n hx hb dX9_change_113 rfl (lv_at hl 0 rfl) ?_
            refine lv_dup hx hb dX9_change_114 rfl ?_
            refine m_get (v := .int (c 12)) hx hb hts hin9 hown hK hP 12 (by decide) hf116 rfl rfl dX9_change_115 ?_
            refine lv_iconst (v := 1) hx hb dX9_change_118 (by decide) ?_
            refine lv_iadd hx hb dX9_change_119 ?_
            refine m_put hx hb hts hin9 hown hK hP hS 12 (by decide) hf116 rfl rfl (by decide +kernel) rfl dX9_change_120 (fun H locs hP hS => ?_)
            have hP : gP E A n (GM E o (va_up c 12 ((c 12) + 1)) (va_up (va_up (va_up (va_up (va_up S 10 (upd (S 10) (tn (c 12)) h)) 11 (upd (S 11) (tn (c 12)) w)) 12 (upd (S 12) (tn (c 12)) (c 0))) 13 (upd (S 13) (tn (c 12)) a)) 14 (upd (S 14) (tn (c 12)) b))) H := hP
            refine lv_iconst (v := 1) hx hb dX9_change_123 (by decide) ?_
            refine g_retz hx hb hr hlk hP hS dX9_change_124 rfl ?_
            exact ⟨by first | (simp [chgS, chgC, chgB, gb, bx_uu, fa_upd_twice, b5, b22, b33, b44, b54]; done) | (exfalso; simp_all; done), rfl, by first | rfl | (first | (simp [chgS, chgC, chgB, gb, bx_uu, fa_upd_twice, b5, b22, b33, b44, b54]; done) | (exfalso; simp_all; done))⟩
          · refine lv_iconst (v := 0) hx hb dX9_change_57 (by decide) ?_
            refine g_retz hx hb hr hlk hP hS dX9_change_58 rfl ?_
            exact ⟨by first | (simp [chgS, chgC, chgB, gb, bx_uu, fa_upd_twice, b5, b22, b33, b44, b54]; done) | (exfalso; simp_all; done), rfl, by first | rfl | (first | (simp [chgS, chgC, chgB, gb, bx_uu, fa_upd_twice, b5, b22, b33, b44, b54]; done) | (exfalso; simp_all; done))⟩
set_option maxHeartbeats 4000000 in
set_option maxRecDepth 100000 in
theorem kX9_work (l : Launch) (E : gT) (A : Nat → Prop) (n : Nat) (o : Nat) (c : Nat → Int32) (S : Nat → Nat → Int32) (h a k f : Int32) (hI : mI c S) : gM l yX9_work wsX9_work ({ frames := 3, cells := 0, slots := 0, locals := 73 } : Room) E A n (GM E o c S) [.ref o, .int h, .int a, .int k, .int f] (gQi E A (fun r' n' G' => wrkR c S h a k f = r' ∧ n = n' ∧ (GM E o (wrkC c S h a k f) (wrkS c S h a k f)) = G')) 0 0 := by
  refine g_entry (by decide) rfl (Nat.le_of_ble_eq_true rfl) ?_
  intro p e s m below meth c0 hx hb hr hlk hml hown hnm hts hK H locs ls hP hS hl
  have hin9 : ∀ w ∈ u_ws RX9 TX9 35, w ∈ wsX9_work := by decide +kernel
  have hf28 := hts (.fieldLink RX9 28 "DikeHandsModel" "village" "[I") (by decide +kernel)
  have hf64 := hts (.fieldLink RX9 64 "DikeHandsModel" "own" "[I") (by decide +kernel)
  have hf67 := hts (.fieldLink RX9 67 "DikeHandsModel" "others" "[I") (by decide +kernel)
  have hf73 := hts (.fieldLink RX9 73 "DikeHandsModel" "forOthers" "[I") (by decide +kernel)
  have hf76 := hts (.fieldLink RX9 76 "DikeHandsModel" "substitute" "[I") (by decide +kernel)
  have hf79 := hts (.fieldLink RX9 79 "DikeHandsModel" "did" "[I") (by decide +kernel)
  have hf96 := hts (.fieldLink RX9 96 "DikeHandsModel" "now" "I") (by decide +kernel)
  have hf143 := hts (.fieldLink RX9 143 "DikeHandsModel" "daysDone" "I") (by decide +kernel)
  have hl : lv_has ls 7 [(0, .ref o), (1, .int h), (2, .int a), (3, .int k), (4, .int f)] := hl
  refine lv_aload_n hx hb dX9_work_0 rfl (lv_at hl 0 rfl) ?_
  refine lv_iload_n hx hb dX9_work_1 rfl (lv_at hl 1 rfl) ?_
  refine g_ci (g_runV (As := [.int h]) (rest := []) ⟨hx, hb, hml, hown, hts⟩ hK hP (kX9_isHouse l E A n o c S h ) (cwV 1 hts gX9_work_X9_isHouse rfl rfl rfl (by decide +kernel) ⟨Nat.le_of_ble_eq_true rfl, Nat.le_of_ble_eq_true rfl⟩) GM_o rfl rfl hl.1 rfl (Nat.le_of_ble_eq_true rfl) dX9_work_2 ⟨Nat.le_of_ble_eq_true rfl, Nat.le_of_ble_eq_true rfl⟩) hS (fun r2 n' G' H locs hw hP hS => ?_)
  obtain ⟨rfl, rfl, rfl⟩ := hw
  refine g_ifeq (tgt := 34) hx hb dX9_work_5 (by decide) (fun b5 => ?_) (fun b5 => ?_)
  · refine lv_iconst (v := (-1)) hx hb dX9_work_34 (by decide) ?_
    refine g_reti hx hb hr hlk hP hS dX9_work_35 ?_
    exact ⟨by first | (simp [wrkR, wrkS, wrkC, wrkB, wrk1, wrk2, bx_uu, fa_upd_twice, b5]; done) | (exfalso; simp_all; done), rfl, by first | rfl | (first | (simp [wrkR, wrkS, wrkC, wrkB, wrk1, wrk2, bx_uu, fa_upd_twice, b5]; done) | (exfalso; simp_all; done))⟩
  · refine lv_aload_n hx hb dX9_work_8 rfl (lv_at hl 0 rfl) ?_
    refine lv_iload hx hb dX9_work_9 (lv_at hl 4 rfl) ?_
    refine g_ci (g_runV (As := [.int f]) (rest := []) ⟨hx, hb, hml, hown, hts⟩ hK hP (kX9_isHouse l E A n o c S f ) (cwV 1 hts gX9_work_X9_isHouse rfl rfl rfl (by decide +kernel) ⟨Nat.le_of_ble_eq_true rfl, Nat.le_of_ble_eq_true rfl⟩) GM_o rfl rfl hl.1 rfl (Nat.le_of_ble_eq_true rfl) dX9_work_11 ⟨Nat.le_of_ble_eq_true rfl, Nat.le_of_ble_eq_true rfl⟩) hS (fun r11 n' G' H locs hw hP hS => ?_)
    obtain ⟨rfl, rfl, rfl⟩ := hw
    refine g_ifeq (tgt := 34) hx hb dX9_work_14 (by decide) (fun b14 => ?_) (fun b14 => ?_)
    · refine lv_iconst (v := (-1)) hx hb dX9_work_34 (by decide) ?_
      refine g_reti hx hb hr hlk hP hS dX9_work_35 ?_
      exact ⟨by first | (simp [wrkR, wrkS, wrkC, wrkB, wrk1, wrk2, bx_uu, fa_upd_twice, b5, b14]; done) | (exfalso; simp_all; done), rfl, by first | rfl | (first | (simp [wrkR, wrkS, wrkC, wrkB, wrk1, wrk2, bx_uu, fa_upd_twice, b5, b14]; done) | (exfalso; simp_all; done))⟩
    · refine lv_iload_n hx hb dX9_work_17 rfl (lv_at hl 2 rfl) ?_
      refine g_ci (g_runS (As := [.int a]) (rest := []) ⟨hx, hb, hml, hown, hts⟩ hK hP (kX9_isRod l E A n (GM E o c S) a) (va_cwS 1 hts gX9_work_X9_isRod rfl rfl rfl (by decide +kernel) ⟨Nat.le_of_ble_eq_true rfl, Nat.le_of_ble_eq_true rfl⟩) rfl hl.1 rfl (Nat.le_of_ble_eq_true rfl) dX9_work_18 ⟨Nat.le_of_ble_eq_true rfl, Nat.le_of_ble_eq_true rfl⟩) hS (fun r18 n' G' H locs hw hP hS => ?_)
      obtain ⟨rfl, rfl, rfl⟩ := hw
      refine g_ifeq (tgt := 34) hx hb dX9_work_21 (by decide) (fun b21 => ?_) (fun b21 => ?_)
      · refine lv_iconst (v := (-1)) hx hb dX9_work_34 (by decide) ?_
        refine g_reti hx hb hr hlk hP hS dX9_work_35 ?_
        exact ⟨by first | (simp [wrkR, wrkS, wrkC, wrkB, wrk1, wrk2, bx_uu, fa_upd_twice, b5, b14, b21]; done) | (exfalso; simp_all; done), rfl, by first | rfl | (first | (simp [wrkR, wrkS, wrkC, wrkB, wrk1, wrk2, bx_uu, fa_upd_twice, b5, b14, b21]; done) | (exfalso; simp_all; done))⟩
      · refine lv_aload_n hx hb dX9_work_24 rfl (lv_at hl 0 rfl) ?_
        refine m_get (v := .int (c 0)) hx hb hts hin9 hown hK hP 0 (by decide) hf96 rfl rfl dX9_work_25 ?_
        refine lv_sipush (v := 1040) hx hb dX9_work_28 (by decide) ?_
        refine lv_icmp_ne (tgt := 36) hx hb dX9_work_31 (by decide) (fun b31 => ?_) (fun b31 => ?_)
        · refine lv_aload_n hx hb dX9_work_36 rfl (lv_at hl 0 rfl) ?_
          refine m_get (v := .int (c 0)) hx hb hts hin9 hown hK hP 0 (by decide) hf96 rfl rfl dX9_work_37 ?_
          refine lv_bipush (v := 52) hx hb dX9_work_40 (by decide) ?_
          refine lv_idiv hx hb dX9_work_42 (by decide) ?_
          refine lv_istore (lv' := [(5, .int ((c 0) / 52)), (0, .ref o), (1, .int h), (2, .int a), (3, .int k), (4, .int f)]) hx hb dX9_work_43 hl (by decide) rfl (fun ls hl => ?_)
          refine lv_bipush (v := 21) hx hb dX9_work_45 (by decide) ?_
          refine lv_iload hx hb dX9_work_47 (lv_at hl 5 rfl) ?_
          refine lv_imul hx hb dX9_work_49 ?_
          refine lv_iload hx hb dX9_work_50 (lv_at hl 0 rfl) ?_
          refine lv_iadd hx hb dX9_work_52 ?_
          refine lv_istore (lv' := [(6, .int ((21 * f) + ((c 0) / 52))), (5, .int ((c 0) / 52)), (0, .ref o), (1, .int h), (2, .int a), (3, .int k), (4, .int f)]) hx hb dX9_work_53 hl (by decide) rfl (fun ls hl => ?_)
          refine lv_iload_n hx hb dX9_work_55 rfl (lv_at hl 5 rfl) ?_
          refine lv_iconst (v := 1) hx hb dX9_work_56 (by decide) ?_
          refine lv_aload_n hx hb dX9_work_57 rfl (lv_at hl 2 rfl) ?_
          refine lv_iload hx hb dX9_work_58 (lv_at hl 6 rfl) ?_
          refine lv_iload hx hb dX9_work_60 (lv_at hl 1 rfl) ?_
          refine g_ci (g_runV (As := [.int f, .int ((c 0) / 52)]) (rest := [.int 1, .int k]) ⟨hx, hb, hml, hown, hts⟩ hK hP (kX9_yet l E A n o c S f ((c 0) / 52) hI (hsB_vp hI b14) (yn_vp hI)) (cwV 2 hts gX9_work_X9_yet rfl rfl rfl (by decide +kernel) ⟨Nat.le_of_ble_eq_true rfl, Nat.le_of_ble_eq_true rfl⟩) GM_o rfl rfl hl.1 rfl (Nat.le_of_ble_eq_true rfl) dX9_work_62 ⟨Nat.le_of_ble_eq_true rfl, Nat.le_of_ble_eq_true rfl⟩) hS (fun r62 n' G' H locs hw hP hS => ?_)
          obtain ⟨rfl, rfl, rfl⟩ := hw
          refine g_ci (g_runS (As := [.int k, .int 1, .int (yetOf c S f ((c 0) / 52))]) (rest := []) ⟨hx, hb, hml, hown, hts⟩ hK hP (kX9_in l E A n (GM E o c S) k 1 (yetOf c S f ((c 0) / 52))) (va_cwS 3 hts gX9_work_X9_in rfl rfl rfl (by decide +kernel) ⟨Nat.le_of_ble_eq_true rfl, Nat.le_of_ble_eq_true rfl⟩) rfl hl.1 rfl (Nat.le_of_ble_eq_true rfl) dX9_work_65 ⟨Nat.le_of_ble_eq_true rfl, Nat.le_of_ble_eq_true rfl⟩) hS (fun r65 n' G' H locs hw hP hS => ?_)
          obtain ⟨rfl, rfl, rfl⟩ := hw
          refine g_ifne (tgt := 73) hx hb dX9_work_68 (by decide) (fun b68 => ?_) (fun b68 => ?_)
          · refine lv_iload_n hx hb dX9_work_73 rfl (lv_at hl 3 rfl) ?_
            refine lv_iload hx hb dX9_work_74 (lv_at hl 6 rfl) ?_
            refine lv_icmp_eq (tgt := 157) hx hb dX9_work_76 (by decide) (fun b76 => ?_) (fun b76 => ?_)
            · refine lv_aload_n hx hb dX9_work_157 rfl (lv_at hl 2 rfl) ?_
              refine m_get (v := .ref (o + 19)) hx hb hts hin9 hown hK hP 22 (by decide) hf64 rfl rfl dX9_work_158 ?_
              refine lv_iload hx hb dX9_work_161 (lv_at hl 0 rfl) ?_
              refine lv_dup2_11 hx hb dX9_work_163 rfl rfl ?_
              refine m_iald hx hb hK hP 18 840 rfl (by decide) rfl (yk_vp (hsB_vp hI b14) (yn_vp hI)) dX9_work_164 ?_
              refine lv_iload_n hx hb dX9_work_165 rfl (lv_at hl 5 rfl) ?_
              refine lv_iadd hx hb dX9_work_166 ?_
              refine m_iast hx hb hK hP hS 18 840 rfl (by decide) rfl (yk_vp (hsB_vp hI b14) (yn_vp hI)) dX9_work_167 (fun H locs hP hS => ?_)
              have hP : gP E A n (GM E o c (va_up S 18 (upd (S 18) (tn ((21 * f) + ((c 0) / 52))) ((S 18 (tn ((21 * f) + ((c 0) / 52)))) + k)))) H := hP
              refine lv_aload_n hx hb dX9_work_168 rfl (lv_at hl 2 rfl) ?_
              refine m_get (v := .ref (o + 24)) hx hb hts hin9 hown hK hP 27 (by decide) hf79 rfl rfl dX9_work_169 ?_
              refine lv_sipush (v := 1040) hx hb dX9_work_172 (by decide) ?_
              refine lv_aload_n hx hb dX9_work_175 rfl (lv_at hl 2 rfl) ?_
              refine m_get (v := .ref (o + 7)) hx hb hts hin9 hown hK hP 8 (by decide) hf28 rfl rfl dX9_work_176 ?_
              refine lv_iload_n hx hb dX9_work_179 rfl (lv_at hl 3 rfl) ?_
              refine m_iald hx hb hK hP 6 40 rfl (by decide) rfl (hsB_vp hI b5) dX9_work_180 ?_
              refine lv_imul hx hb dX9_work_181 ?_
              refine lv_aload_n hx hb dX9_work_182 rfl (lv_at hl 2 rfl) ?_
              refine m_get (v := .int (c 0)) hx hb hts hin9 hown hK hP 0 (by decide) hf96 rfl rfl dX9_work_183 ?_
              refine lv_iadd hx hb dX9_work_186 ?_
              refine lv_dup2_11 hx hb dX9_work_187 rfl rfl ?_
              refine m_iald hx hb hK hP 23 8320 rfl (by decide) rfl (dd_vp hI (hsB_vp hI b5) b31) dX9_work_188 ?_
              refine lv_iload_n hx hb dX9_work_189 rfl (lv_at hl 5 rfl) ?_
              refine lv_iadd hx hb dX9_work_190 ?_
              refine m_iast hx hb hK hP hS 23 8320 rfl (by decide) rfl (dd_vp hI (hsB_vp hI b5) b31) dX9_work_191 (fun H locs hP hS => ?_)
              have hP : gP E A n (GM E o c (va_up (va_up S 18 (upd (S 18) (tn ((21 * f) + ((c 0) / 52))) ((S 18 (tn ((21 * f) + ((c 0) / 52)))) + k))) 23 (upd (S 23) (tn ((1040 * (S 6 (tn h))) + (c 0))) ((S 23 (tn ((1040 * (S 6 (tn h))) + (c 0)))) + k)))) H := hP
              refine lv_aload_n hx hb dX9_work_192 rfl (lv_at hl 2 rfl) ?_
              refine lv_dup hx hb dX9_work_193 rfl ?_
              refine m_get (v := .int (c 31)) hx hb hts hin9 hown hK hP 31 (by decide) hf143 rfl rfl dX9_work_194 ?_
              refine lv_iload_n hx hb dX9_work_197 rfl (lv_at hl 5 rfl) ?_
              refine lv_iadd hx hb dX9_work_198 ?_
              refine m_put hx hb hts hin9 hown hK hP hS 31 (by decide) hf143 rfl rfl (by decide +kernel) rfl dX9_work_199 (fun H locs hP hS => ?_)
              have hP : gP E A n (GM E o (va_up c 31 ((c 31) + k)) (va_up (va_up S 18 (upd (S 18) (tn ((21 * f) + ((c 0) / 52))) ((S 18 (tn ((21 * f) + ((c 0) / 52)))) + k))) 23 (upd (S 23) (tn ((1040 * (S 6 (tn h))) + (c 0))) ((S 23 (tn ((1040 * (S 6 (tn h))) + (c 0)))) + k)))) H := hP
              refine lv_aload_n hx hb dX9_work_202 rfl (lv_at hl 2 rfl) ?_
              refine lv_iload_n hx hb dX9_work_203 rfl (lv_at hl 4 rfl) ?_
              refine lv_iload_n hx hb dX9_work_204 rfl (lv_at hl 5 rfl) ?_
              refine g_cv (g_runV (As := [.int a, .int k]) (rest := []) ⟨hx, hb, hml, hown, hts⟩ hK hP (kX9_raises l E A n o (va_up c 31 ((c 31) + k)) (va_up (va_up S 18 (upd (S 18) (tn ((21 * f) + ((c 0) / 52))) ((S 18 (tn ((21 * f) + ((c 0) / 52)))) + k))) 23 (upd (S 23) (tn ((1040 * (S 6 (tn h))) + (c 0))) ((S 23 (tn ((1040 * (S 6 (tn h))) + (c 0)))) + k))) a k (inB_vp b21 (by decide))) (cwV 2 hts gX9_work_X9_raises rfl rfl rfl (by decide +kernel) ⟨Nat.le_of_ble_eq_true rfl, Nat.le_of_ble_eq_true rfl⟩) GM_o rfl rfl hl.1 rfl (Nat.le_of_ble_eq_true rfl) dX9_work_205 ⟨Nat.le_of_ble_eq_true rfl, Nat.le_of_ble_eq_true rfl⟩) hS (fun n' G' H locs hw hP hS => ?_)
              obtain ⟨rfl, rfl⟩ := hw
              refine lv_aload_n hx hb dX9_work_208 rfl (lv_at hl 2 rfl) ?_
              refine lv_iload hx hb dX9_work_209 (lv_at hl 6 rfl) ?_
              refine lv_iload hx hb dX9_work_211 (lv_at hl 1 rfl) ?_
              refine g_ci (g_runV (As := [.int f, .int ((c 0) / 52)]) (rest := []) ⟨hx, hb, hml, hown, hts⟩ hK hP (kX9_yet l E A n o (va_up c 31 ((c 31) + k)) (raiS (va_up (va_up S 18 (upd (S 18) (tn ((21 * f) + ((c 0) / 52))) ((S 18 (tn ((21 * f) + ((c 0) / 52)))) + k))) 23 (upd (S 23) (tn ((1040 * (S 6 (tn h))) + (c 0))) ((S 23 (tn ((1040 * (S 6 (tn h))) + (c 0)))) + k))) a k) f ((c 0) / 52) hI (hsB_vp hI b14) (yn_vp hI)) (cwV 2 hts gX9_work_X9_yet rfl rfl rfl (by decide +kernel) ⟨Nat.le_of_ble_eq_true rfl, Nat.le_of_ble_eq_true rfl⟩) GM_o rfl rfl hl.1 rfl (Nat.le_of_ble_eq_true rfl) dX9_work_213 ⟨Nat.le_of_ble_eq_true rfl, Nat.le_of_ble_eq_true rfl⟩) hS (fun r213 n' G' H locs hw hP hS => ?_)
              obtain ⟨rfl, rfl, rfl⟩ := hw
              refine g_reti hx hb hr hlk hP hS dX9_work_216 ?_
              exact ⟨by first | (simp [wrkR, wrkS, wrkC, wrkB, wrk1, wrk2, bx_uu, fa_upd_twice, b5, b14, b21, b31, b68, b76]; done) | (exfalso; simp_all; done), rfl, by first | rfl | (first | (simp [wrkR, wrkS, wrkC, wrkB, wrk1, wrk2, bx_uu, fa_upd_twice, b5, b14, b21, b31, b68, b76]; done) | (exfalso; simp_all; done))⟩
            · refine lv_aload_n hx hb dX9_work_79 rfl (lv_at hl 2 rfl) ?_
              refine m_get (v := .ref (o + 7)) hx hb hts hin9 hown hK hP 8 (by decide) hf28 rfl rfl dX9_work_80 ?_
              refine lv_iload_n hx hb dX9_work_83 rfl (lv_at hl 3 rfl) ?_
              refine m_iald hx hb hK hP 6 40 rfl (by decide) rfl (hsB_vp hI b5) dX9_work_84 ?_
              refine lv_aload_n hx hb dX9_work_85 rfl (lv_at hl 2 rfl) ?_
              refine m_get (v := .ref (o + 7)) hx hb hts hin9 hown hK hP 8 (by decide) hf28 rfl rfl dX9_work_86 ?_
              refine lv_iload hx hb dX9_work_89 (lv_at hl 6 rfl) ?_
              refine m_iald hx hb hK hP 6 40 rfl (by decide) rfl (hsB_vp hI b14) dX9_work_91 ?_
              refine lv_icmp_ne (tgt := 117) hx hb dX9_work_92 (by decide) (fun b92 => ?_) (fun b92 => ?_)
              · refine lv_iconst (v := (-1)) hx hb dX9_work_117 (by decide) ?_
                refine g_reti hx hb hr hlk hP hS dX9_work_118 ?_
                exact ⟨by first | (simp [wrkR, wrkS, wrkC, wrkB, wrk1, wrk2, bx_uu, fa_upd_twice, b5, b14, b21, b31, b68, b76, b92]; done) | (exfalso; simp_all; done), rfl, by first | rfl | (first | (simp [wrkR, wrkS, wrkC, wrkB, wrk1, wrk2, bx_uu, fa_upd_twice, b5, b14, b21, b31, b68, b76, b92]; done) | (exfalso; simp_all; done))⟩
              · refine lv_aload_n hx hb dX9_work_95 rfl (lv_at hl 2 rfl) ?_
                refine m_get (v := .ref (o + 23)) hx hb hts hin9 hown hK hP 26 (by decide) hf76 rfl rfl dX9_work_96 ?_
                refine lv_iload hx hb dX9_work_99 (lv_at hl 0 rfl) ?_
                refine m_iald hx hb hK hP 22 840 rfl (by decide) rfl (yk_vp (hsB_vp hI b14) (yn_vp hI)) dX9_work_101 ?_
                refine lv_iconst (v := (-1)) hx hb dX9_work_102 (by decide) ?_
                refine lv_icmp_eq (tgt := 119) hx hb dX9_work_103 (by decide) (fun b103 => ?_) (fun b103 => ?_)
                · refine lv_aload_n hx hb dX9_work_119 rfl (lv_at hl 2 rfl) ?_
                  refine m_get (v := .ref (o + 23)) hx hb hts hin9 hown hK hP 26 (by decide) hf76 rfl rfl dX9_work_120 ?_
                  refine lv_iload hx hb dX9_work_123 (lv_at hl 0 rfl) ?_
                  refine lv_iload_n hx hb dX9_work_125 rfl (lv_at hl 3 rfl) ?_
                  refine m_iast hx hb hK hP hS 22 840 rfl (by decide) rfl (yk_vp (hsB_vp hI b14) (yn_vp hI)) dX9_work_126 (fun H locs hP hS => ?_)
                  have hP : gP E A n (GM E o c (va_up S 22 (upd (S 22) (tn ((21 * f) + ((c 0) / 52))) h))) H := hP
                  refine lv_aload_n hx hb dX9_work_127 rfl (lv_at hl 2 rfl) ?_
                  refine m_get (v := .ref (o + 20)) hx hb hts hin9 hown hK hP 23 (by decide) hf67 rfl rfl dX9_work_128 ?_
                  refine lv_iload hx hb dX9_work_131 (lv_at hl 0 rfl) ?_
                  refine lv_dup2_11 hx hb dX9_work_133 rfl rfl ?_
                  refine m_iald hx hb hK hP 19 840 rfl (by decide) rfl (yk_vp (hsB_vp hI b14) (yn_vp hI)) dX9_work_134 ?_
                  refine lv_iload_n hx hb dX9_work_135 rfl (lv_at hl 5 rfl) ?_
                  refine lv_iadd hx hb dX9_work_136 ?_
                  refine m_iast hx hb hK hP hS 19 840 rfl (by decide) rfl (yk_vp (hsB_vp hI b14) (yn_vp hI)) dX9_work_137 (fun H locs hP hS => ?_)
                  have hP : gP E A n (GM E o c (va_up (va_up S 22 (upd (S 22) (tn ((21 * f) + ((c 0) / 52))) h)) 19 (upd (S 19) (tn ((21 * f) + ((c 0) / 52))) ((S 19 (tn ((21 * f) + ((c 0) / 52)))) + k)))) H := hP
                  refine lv_aload_n hx hb dX9_work_138 rfl (lv_at hl 2 rfl) ?_
                  refine m_get (v := .ref (o + 22)) hx hb hts hin9 hown hK hP 25 (by decide) hf73 rfl rfl dX9_work_139 ?_
                  refine lv_bipush (v := 21) hx hb dX9_work_142 (by decide) ?_
                  refine lv_iload_n hx hb dX9_work_144 rfl (lv_at hl 3 rfl) ?_
                  refine lv_imul hx hb dX9_work_145 ?_
                  refine lv_iload hx hb dX9_work_146 (lv_at hl 1 rfl) ?_
                  refine lv_iadd hx hb dX9_work_148 ?_
                  refine lv_dup2_11 hx hb dX9_work_149 rfl rfl ?_
                  refine m_iald hx hb hK hP 21 840 rfl (by decide) rfl (yk_vp (hsB_vp hI b5) (yn_vp hI)) dX9_work_150 ?_
                  refine lv_iload_n hx hb dX9_work_151 rfl (lv_at hl 5 rfl) ?_
                  refine lv_iadd hx hb dX9_work_152 ?_
                  refine m_iast hx hb hK hP hS 21 840 rfl (by decide) rfl (yk_vp (hsB_vp hI b5) (yn_vp hI)) dX9_work_153 (fun H locs hP hS => ?_)
                  have hP : gP E A n (GM E o c (va_up (va_up (va_up S 22 (upd (S 22) (tn ((21 * f) + ((c 0) / 52))) h)) 19 (upd (S 19) (tn ((21 * f) + ((c 0) / 52))) ((S 19 (tn ((21 * f) + ((c 0) / 52)))) + k))) 21 (upd (S 21) (tn ((21 * h) + ((c 0) / 52))) ((S 21 (tn ((21 * h) + ((c 0) / 52)))) + k)))) H := hP
                  refine lv_goto (tgt := 168) hx hb dX9_work_154 (by decide) ?_
                  refine lv_aload_n hx hb dX9_work_168 rfl (lv_at hl 2 rfl) ?_
                  refine m_get (v := .ref (o + 24)) hx hb hts hin9 hown hK hP 27 (by decide) hf79 rfl rfl dX9_work_169 ?_
                  refine lv_sipush (v := 1040) hx hb dX9_work_172 (by decide) ?_
                  refine lv_aload_n hx hb dX9_work_175 rfl (lv_at hl 2 rfl) ?_
                  refine m_get (v := .ref (o + 7)) hx hb hts hin9 hown hK hP 8 (by decide) hf28 rfl rfl dX9_work_176 ?_
                  refine lv_iload_n hx hb dX9_work_179 rfl (lv_at hl 3 rfl) ?_
                  refine m_iald hx hb hK hP 6 40 rfl (by decide) rfl (hsB_vp hI b5) dX9_work_180 ?_
                  refine lv_imul hx hb dX9_work_181 ?_
                  refine lv_aload_n hx hb dX9_work_182 rfl (lv_at hl 2 rfl) ?_
                  refine m_get (v := .int (c 0)) hx hb hts hin9 hown hK hP 0 (by decide) hf96 rfl rfl dX9_work_183 ?_
                  refine lv_iadd hx hb dX9_work_186 ?_
                  refine lv_dup2_11 hx hb dX9_work_187 rfl rfl ?_
                  refine m_iald hx hb hK hP 23 8320 rfl (by decide) rfl (dd_vp hI (hsB_vp hI b5) b31) dX9_work_188 ?_
                  refine lv_iload_n hx hb dX9_work_189 rfl (lv_at hl 5 rfl) ?_
                  refine lv_iadd hx hb dX9_work_190 ?_
                  refine m_iast hx hb hK hP hS 23 8320 rfl (by decide) rfl (dd_vp hI (hsB_vp hI b5) b31) dX9_work_191 (fun H locs hP hS => ?_)
                  have hP : gP E A n (GM E o c (va_up (va_up (va_up (va_up S 22 (upd (S 22) (tn ((21 * f) + ((c 0) / 52))) h)) 19 (upd (S 19) (tn ((21 * f) + ((c 0) / 52))) ((S 19 (tn ((21 * f) + ((c 0) / 52)))) + k))) 21 (upd (S 21) (tn ((21 * h) + ((c 0) / 52))) ((S 21 (tn ((21 * h) + ((c 0) / 52)))) + k))) 23 (upd (S 23) (tn ((1040 * (S 6 (tn h))) + (c 0))) ((S 23 (tn ((1040 * (S 6 (tn h))) + (c 0)))) + k)))) H := hP
                  refine lv_aload_n hx hb dX9_work_192 rfl (lv_at hl 2 rfl) ?_
                  refine lv_dup hx hb dX9_work_193 rfl ?_
                  refine m_get (v := .int (c 31)) hx hb hts hin9 hown hK hP 31 (by decide) hf143 rfl rfl dX9_work_194 ?_
                  refine lv_iload_n hx hb dX9_work_197 rfl (lv_at hl 5 rfl) ?_
                  refine lv_iadd hx hb dX9_work_198 ?_
                  refine m_put hx hb hts hin9 hown hK hP hS 31 (by decide) hf143 rfl rfl (by decide +kernel) rfl dX9_work_199 (fun H locs hP hS => ?_)
                  have hP : gP E A n (GM E o (va_up c 31 ((c 31) + k)) (va_up (va_up (va_up (va_up S 22 (upd (S 22) (tn ((21 * f) + ((c 0) / 52))) h)) 19 (upd (S 19) (tn ((21 * f) + ((c 0) / 52))) ((S 19 (tn ((21 * f) + ((c 0) / 52)))) + k))) 21 (upd (S 21) (tn ((21 * h) + ((c 0) / 52))) ((S 21 (tn ((21 * h) + ((c 0) / 52)))) + k))) 23 (upd (S 23) (tn ((1040 * (S 6 (tn h))) + (c 0))) ((S 23 (tn ((1040 * (S 6 (tn h))) + (c 0)))) + k)))) H := hP
                  refine lv_aload_n hx hb dX9_work_202 rfl (lv_at hl 2 rfl) ?_
                  refine lv_iload_n hx hb dX9_work_203 rfl (lv_at hl 4 rfl) ?_
                  refine lv_iload_n hx hb dX9_work_204 rfl (lv_at hl 5 rfl) ?_
                  refine g_cv (g_runV (As := [.int a, .int k]) (rest := []) ⟨hx, hb, hml, hown, hts⟩ hK hP (kX9_raises l E A n o (va_up c 31 ((c 31) + k)) (va_up (va_up (va_up (va_up S 22 (upd (S 22) (tn ((21 * f) + ((c 0) / 52))) h)) 19 (upd (S 19) (tn ((21 * f) + ((c 0) / 52))) ((S 19 (tn ((21 * f) + ((c 0) / 52)))) + k))) 21 (upd (S 21) (tn ((21 * h) + ((c 0) / 52))) ((S 21 (tn ((21 * h) + ((c 0) / 52)))) + k))) 23 (upd (S 23) (tn ((1040 * (S 6 (tn h))) + (c 0))) ((S 23 (tn ((1040 * (S 6 (tn h))) + (c 0)))) + k))) a k (inB_vp b21 (by decide))) (cwV 2 hts gX9_work_X9_raises rfl rfl rfl (by decide +kernel) ⟨Nat.le_of_ble_eq_true rfl, Nat.le_of_ble_eq_true rfl⟩) GM_o rfl rfl hl.1 rfl (Nat.le_of_ble_eq_true rfl) dX9_work_205 ⟨Nat.le_of_ble_eq_true rfl, Nat.le_of_ble_eq_true rfl⟩) hS (fun n' G' H locs hw hP hS => ?_)
                  obtain ⟨rfl, rfl⟩ := hw
                  refine lv_aload_n hx hb dX9_work_208 rfl (lv_at hl 2 rfl) ?_
                  refine lv_iload hx hb dX9_work_209 (lv_at hl 6 rfl) ?_
                  refine lv_iload hx hb dX9_work_211 (lv_at hl 1 rfl) ?_
                  refine g_ci (g_runV (As := [.int f, .int ((c 0) / 52)]) (rest := []) ⟨hx, hb, hml, hown, hts⟩ hK hP (kX9_yet l E A n o (va_up c 31 ((c 31) + k)) (raiS (va_up (va_up (va_up (va_up S 22 (upd (S 22) (tn ((21 * f) + ((c 0) / 52))) h)) 19 (upd (S 19) (tn ((21 * f) + ((c 0) / 52))) ((S 19 (tn ((21 * f) + ((c 0) / 52)))) + k))) 21 (upd (S 21) (tn ((21 * h) + ((c 0) / 52))) ((S 21 (tn ((21 * h) + ((c 0) / 52)))) + k))) 23 (upd (S 23) (tn ((1040 * (S 6 (tn h))) + (c 0))) ((S 23 (tn ((1040 * (S 6 (tn h))) + (c 0)))) + k))) a k) f ((c 0) / 52) hI (hsB_vp hI b14) (yn_vp hI)) (cwV 2 hts gX9_work_X9_yet rfl rfl rfl (by decide +kernel) ⟨Nat.le_of_ble_eq_true rfl, Nat.le_of_ble_eq_true rfl⟩) GM_o rfl rfl hl.1 rfl (Nat.le_of_ble_eq_true rfl) dX9_work_213 ⟨Nat.le_of_ble_eq_true rfl, Nat.le_of_ble_eq_true rfl⟩) hS (fun r213 n' G' H locs hw hP hS => ?_)
                  obtain ⟨rfl, rfl, rfl⟩ := hw
                  refine g_reti hx hb hr hlk hP hS dX9_work_216 ?_
                  exact ⟨by first | (simp [wrkR, wrkS, wrkC, wrkB, wrk1, wrk2, bx_uu, fa_upd_twice, b5, b14, b21, b31, b68, b76, b92, b103]; done) | (exfalso; simp_all; done), rfl, by first | rfl | (first | (simp [wrkR, wrkS, wrkC, wrkB, wrk1, wrk2, bx_uu, fa_upd_twice, b5, b14, b21, b31, b68, b76, b92, b103]; done) | (exfalso; simp_all; done))⟩
                · refine lv_aload_n hx hb dX9_work_106 rfl (lv_at hl 2 rfl) ?_
                  refine m_get (v := .ref (o + 23)) hx hb hts hin9 hown hK hP 26 (by decide) hf76 rfl rfl dX9_work_107 ?_
                  refine lv_iload hx hb dX9_work_110 (lv_at hl 0 rfl) ?_
                  refine m_iald hx hb hK hP 22 840 rfl (by decide) rfl (yk_vp (hsB_vp hI b14) (yn_vp hI)) dX9_work_112 ?_
                  refine lv_iload_n hx hb dX9_work_113 rfl (lv_at hl 3 rfl) ?_
                  refine lv_icmp_eq (tgt := 119) hx hb dX9_work_114 (by decide) (fun b114 => ?_) (fun b114 => ?_)
                  · refine lv_aload_n hx hb dX9_work_119 rfl (lv_at hl 2 rfl) ?_
                    refine m_get (v := .ref (o + 23)) hx hb hts hin9 hown hK hP 26 (by decide) hf76 rfl rfl dX9_work_120 ?_
                    refine lv_iload hx hb dX9_work_123 (lv_at hl 0 rfl) ?_
                    refine lv_iload_n hx hb dX9_work_125 rfl (lv_at hl 3 rfl) ?_
                    refine m_iast hx hb hK hP hS 22 840 rfl (by decide) rfl (yk_vp (hsB_vp hI b14) (yn_vp hI)) dX9_work_126 (fun H locs hP hS => ?_)
                    have hP : gP E A n (GM E o c (va_up S 22 (upd (S 22) (tn ((21 * f) + ((c 0) / 52))) h))) H := hP
                    refine lv_aload_n hx hb dX9_work_127 rfl (lv_at hl 2 rfl) ?_
                    refine m_get (v := .ref (o + 20)) hx hb hts hin9 hown hK hP 23 (by decide) hf67 rfl rfl dX9_work_128 ?_
                    refine lv_iload hx hb dX9_work_131 (lv_at hl 0 rfl) ?_
                    refine lv_dup2_11 hx hb dX9_work_133 rfl rfl ?_
                    refine m_iald hx hb hK hP 19 840 rfl (by decide) rfl (yk_vp (hsB_vp hI b14) (yn_vp hI)) dX9_work_134 ?_
                    refine lv_iload_n hx hb dX9_work_135 rfl (lv_at hl 5 rfl) ?_
                    refine lv_iadd hx hb dX9_work_136 ?_
                    refine m_iast hx hb hK hP hS 19 840 rfl (by decide) rfl (yk_vp (hsB_vp hI b14) (yn_vp hI)) dX9_work_137 (fun H locs hP hS => ?_)
                    have hP : gP E A n (GM E o c (va_up (va_up S 22 (upd (S 22) (tn ((21 * f) + ((c 0) / 52))) h)) 19 (upd (S 19) (tn ((21 * f) + ((c 0) / 52))) ((S 19 (tn ((21 * f) + ((c 0) / 52)))) + k)))) H := hP
                    refine lv_aload_n hx hb dX9_work_138 rfl (lv_at hl 2 rfl) ?_
                    refine m_get (v := .ref (o + 22)) hx hb hts hin9 hown hK hP 25 (by decide) hf73 rfl rfl dX9_work_139 ?_
                    refine lv_bipush (v := 21) hx hb dX9_work_142 (by decide) ?_
                    refine lv_iload_n hx hb dX9_work_144 rfl (lv_at hl 3 rfl) ?_
                    refine lv_imul hx hb dX9_work_145 ?_
                    refine lv_iload hx hb dX9_work_146 (lv_at hl 1 rfl) ?_
                    refine lv_iadd hx hb dX9_work_148 ?_
                    refine lv_dup2_11 hx hb dX9_work_149 rfl rfl ?_
                    refine m_iald hx hb hK hP 21 840 rfl (by decide) rfl (yk_vp (hsB_vp hI b5) (yn_vp hI)) dX9_work_150 ?_
                    refine lv_iload_n hx hb dX9_work_151 rfl (lv_at hl 5 rfl) ?_
                    refine lv_iadd hx hb dX9_work_152 ?_
                    refine m_iast hx hb hK hP hS 21 840 rfl (by decide) rfl (yk_vp (hsB_vp hI b5) (yn_vp hI)) dX9_work_153 (fun H locs hP hS => ?_)
                    have hP : gP E A n (GM E o c (va_up (va_up (va_up S 22 (upd (S 22) (tn ((21 * f) + ((c 0) / 52))) h)) 19 (upd (S 19) (tn ((21 * f) + ((c 0) / 52))) ((S 19 (tn ((21 * f) + ((c 0) / 52)))) + k))) 21 (upd (S 21) (tn ((21 * h) + ((c 0) / 52))) ((S 21 (tn ((21 * h) + ((c 0) / 52)))) + k)))) H := hP
                    refine lv_goto (tgt := 168) hx hb dX9_work_154 (by decide) ?_
                    refine lv_aload_n hx hb dX9_work_168 rfl (lv_at hl 2 rfl) ?_
                    refine m_get (v := .ref (o + 24)) hx hb hts hin9 hown hK hP 27 (by decide) hf79 rfl rfl dX9_work_169 ?_
                    refine lv_sipush (v := 1040) hx hb dX9_work_172 (by decide) ?_
                    refine lv_aload_n hx hb dX9_work_175 rfl (lv_at hl 2 rfl) ?_
                    refine m_get (v := .ref (o + 7)) hx hb hts hin9 hown hK hP 8 (by decide) hf28 rfl rfl dX9_work_176 ?_
                    refine lv_iload_n hx hb dX9_work_179 rfl (lv_at hl 3 rfl) ?_
                    refine m_iald hx hb hK hP 6 40 rfl (by decide) rfl (hsB_vp hI b5) dX9_work_180 ?_
                    refine lv_imul hx hb dX9_work_181 ?_
                    refine lv_aload_n hx hb dX9_work_182 rfl (lv_at hl 2 rfl) ?_
                    refine m_get (v := .int (c 0)) hx hb hts hin9 hown hK hP 0 (by decide) hf96 rfl rfl dX9_work_183 ?_
                    refine lv_iadd hx hb dX9_work_186 ?_
                    refine lv_dup2_11 hx hb dX9_work_187 rfl rfl ?_
                    refine m_iald hx hb hK hP 23 8320 rfl (by decide) rfl (dd_vp hI (hsB_vp hI b5) b31) dX9_work_188 ?_
                    refine lv_iload_n hx hb dX9_work_189 rfl (lv_at hl 5 rfl) ?_
                    refine lv_iadd hx hb dX9_work_190 ?_
                    refine m_iast hx hb hK hP hS 23 8320 rfl (by decide) rfl (dd_vp hI (hsB_vp hI b5) b31) dX9_work_191 (fun H locs hP hS => ?_)
                    have hP : gP E A n (GM E o c (va_up (va_up (va_up (va_up S 22 (upd (S 22) (tn ((21 * f) + ((c 0) / 52))) h)) 19 (upd (S 19) (tn ((21 * f) + ((c 0) / 52))) ((S 19 (tn ((21 * f) + ((c 0) / 52)))) + k))) 21 (upd (S 21) (tn ((21 * h) + ((c 0) / 52))) ((S 21 (tn ((21 * h) + ((c 0) / 52)))) + k))) 23 (upd (S 23) (tn ((1040 * (S 6 (tn h))) + (c 0))) ((S 23 (tn ((1040 * (S 6 (tn h))) + (c 0)))) + k)))) H := hP
                    refine lv_aload_n hx hb dX9_work_192 rfl (lv_at hl 2 rfl) ?_
                    refine lv_dup hx hb dX9_work_193 rfl ?_
                    refine m_get (v := .int (c 31)) hx hb hts hin9 hown hK hP 31 (by decide) hf143 rfl rfl dX9_work_194 ?_
                    refine lv_iload_n hx hb dX9_work_197 rfl (lv_at hl 5 rfl) ?_
                    refine lv_iadd hx hb dX9_work_198 ?_
                    refine m_put hx hb hts hin9 hown hK hP hS 31 (by decide) hf143 rfl rfl (by decide +kernel) rfl dX9_work_199 (fun H locs hP hS => ?_)
                    have hP : gP E A n (GM E o (va_up c 31 ((c 31) + k)) (va_up (va_up (va_up (va_up S 22 (upd (S 22) (tn ((21 * f) + ((c 0) / 52))) h)) 19 (upd (S 19) (tn ((21 * f) + ((c 0) / 52))) ((S 19 (tn ((21 * f) + ((c 0) / 52)))) + k))) 21 (upd (S 21) (tn ((21 * h) + ((c 0) / 52))) ((S 21 (tn ((21 * h) + ((c 0) / 52)))) + k))) 23 (upd (S 23) (tn ((1040 * (S 6 (tn h))) + (c 0))) ((S 23 (tn ((1040 * (S 6 (tn h))) + (c 0)))) + k)))) H := hP
                    refine lv_aload_n hx hb dX9_work_202 rfl (lv_at hl 2 rfl) ?_
                    refine lv_iload_n hx hb dX9_work_203 rfl (lv_at hl 4 rfl) ?_
                    refine lv_iload_n hx hb dX9_work_204 rfl (lv_at hl 5 rfl) ?_
                    refine g_cv (g_runV (As := [.int a, .int k]) (rest := []) ⟨hx, hb, hml, hown, hts⟩ hK hP (kX9_raises l E A n o (va_up c 31 ((c 31) + k)) (va_up (va_up (va_up (va_up S 22 (upd (S 22) (tn ((21 * f) + ((c 0) / 52))) h)) 19 (upd (S 19) (tn ((21 * f) + ((c 0) / 52))) ((S 19 (tn ((21 * f) + ((c 0) / 52)))) + k))) 21 (upd (S 21) (tn ((21 * h) + ((c 0) / 52))) ((S 21 (tn ((21 * h) + ((c 0) / 52)))) + k))) 23 (upd (S 23) (tn ((1040 * (S 6 (tn h))) + (c 0))) ((S 23 (tn ((1040 * (S 6 (tn h))) + (c 0)))) + k))) a k (inB_vp b21 (by decide))) (cwV 2 hts gX9_work_X9_raises rfl rfl rfl (by decide +kernel) ⟨Nat.le_of_ble_eq_true rfl, Nat.le_of_ble_eq_true rfl⟩) GM_o rfl rfl hl.1 rfl (Nat.le_of_ble_eq_true rfl) dX9_work_205 ⟨Nat.le_of_ble_eq_true rfl, Nat.le_of_ble_eq_true rfl⟩) hS (fun n' G' H locs hw hP hS => ?_)
                    obtain ⟨rfl, rfl⟩ := hw
                    refine lv_aload_n hx hb dX9_work_208 rfl (lv_at hl 2 rfl) ?_
                    refine lv_iload hx hb dX9_work_209 (lv_at hl 6 rfl) ?_
                    refine lv_iload hx hb dX9_work_211 (lv_at hl 1 rfl) ?_
                    refine g_ci (g_runV (As := [.int f, .int ((c 0) / 52)]) (rest := []) ⟨hx, hb, hml, hown, hts⟩ hK hP (kX9_yet l E A n o (va_up c 31 ((c 31) + k)) (raiS (va_up (va_up (va_up (va_up S 22 (upd (S 22) (tn ((21 * f) + ((c 0) / 52))) h)) 19 (upd (S 19) (tn ((21 * f) + ((c 0) / 52))) ((S 19 (tn ((21 * f) + ((c 0) / 52)))) + k))) 21 (upd (S 21) (tn ((21 * h) + ((c 0) / 52))) ((S 21 (tn ((21 * h) + ((c 0) / 52)))) + k))) 23 (upd (S 23) (tn ((1040 * (S 6 (tn h))) + (c 0))) ((S 23 (tn ((1040 * (S 6 (tn h))) + (c 0)))) + k))) a k) f ((c 0) / 52) hI (hsB_vp hI b14) (yn_vp hI)) (cwV 2 hts gX9_work_X9_yet rfl rfl rfl (by decide +kernel) ⟨Nat.le_of_ble_eq_true rfl, Nat.le_of_ble_eq_true rfl⟩) GM_o rfl rfl hl.1 rfl (Nat.le_of_ble_eq_true rfl) dX9_work_213 ⟨Nat.le_of_ble_eq_true rfl, Nat.le_of_ble_eq_true rfl⟩) hS (fun r213 n' G' H locs hw hP hS => ?_)
                    obtain ⟨rfl, rfl, rfl⟩ := hw
                    refine g_reti hx hb hr hlk hP hS dX9_work_216 ?_
                    exact ⟨by first | (simp [wrkR, wrkS, wrkC, wrkB, wrk1, wrk2, bx_uu, fa_upd_twice, b5, b14, b21, b31, b68, b76, b92, b103, b114]; done) | (exfalso; simp_all; done), rfl, by first | rfl | (first | (simp [wrkR, wrkS, wrkC, wrkB, wrk1, wrk2, bx_uu, fa_upd_twice, b5, b14, b21, b31, b68, b76, b92, b103, b114]; done) | (exfalso; simp_all; done))⟩
                  · refine lv_iconst (v := (-1)) hx hb dX9_work_117 (by decide) ?_
                    refine g_reti hx hb hr hlk hP hS dX9_work_118 ?_
                    exact ⟨by first | (simp [wrkR, wrkS, wrkC, wrkB, wrk1, wrk2, bx_uu, fa_upd_twice, b5, b14, b21, b31, b68, b76, b92, b103, b114]; done) | (exfalso; simp_all; done), rfl, by first | rfl | (first | (simp [wrkR, wrkS, wrkC, wrkB, wrk1, wrk2, bx_uu, fa_upd_twice, b5, b14, b21, b31, b68, b76, b92, b103, b114]; done) | (exfalso; simp_all; done))⟩
          · refine lv_iconst (v := (-1)) hx hb dX9_work_71 (by decide) ?_
            refine g_reti hx hb hr hlk hP hS dX9_work_72 ?_
            exact ⟨by first | (simp [wrkR, wrkS, wrkC, wrkB, wrk1, wrk2, bx_uu, fa_upd_twice, b5, b14, b21, b31, b68]; done) | (exfalso; simp_all; done), rfl, by first | rfl | (first | (simp [wrkR, wrkS, wrkC, wrkB, wrk1, wrk2, bx_uu, fa_upd_twice, b5, b14, b21, b31, b68]; done) | (exfalso; simp_all; done))⟩
        · refine lv_iconst (v := (-1)) hx hb dX9_work_34 (by decide) ?_
          refine g_reti hx hb hr hlk hP hS dX9_work_35 ?_
          exact ⟨by first | (simp [wrkR, wrkS, wrkC, wrkB, wrk1, wrk2, bx_uu, fa_upd_twice, b5, b14, b21, b31]; done) | (exfalso; simp_all; done), rfl, by first | rfl | (first | (simp [wrkR, wrkS, wrkC, wrkB, wrk1, wrk2, bx_uu, fa_upd_twice, b5, b14, b21, b31]; done) | (exfalso; simp_all; done))⟩
set_option maxHeartbeats 4000000 in
set_option maxRecDepth 100000 in
theorem kX9_buy (l : Launch) (E : gT) (A : Nat → Prop) (n : Nat) (o : Nat) (c : Nat → Int32) (S : Nat → Nat → Int32) (h k : Int32) (hI : mI c S) : gM l yX9_buy wsX9_buy ({ frames := 3, cells := 0, slots := 0, locals := 73 } : Room) E A n (GM E o c S) [.ref o, .int h, .int k] (gQi E A (fun r' n' G' => buyR c S h k = r' ∧ n = n' ∧ (GM E o (buyC c S h k) (buyS c S h k)) = G')) 0 0 := by
  refine g_entry (by decide) rfl (Nat.le_of_ble_eq_true rfl) ?_
  intro p e s m below meth c0 hx hb hr hlk hml hown hnm hts hK H locs ls hP hS hl
  have hin9 : ∀ w ∈ u_ws RX9 TX9 35, w ∈ wsX9_buy := by decide +kernel
  have hf70 := hts (.fieldLink RX9 70 "DikeHandsModel" "bought" "[I") (by decide +kernel)
  have hf96 := hts (.fieldLink RX9 96 "DikeHandsModel" "now" "I") (by decide +kernel)
  have hf150 := hts (.fieldLink RX9 150 "DikeHandsModel" "daysBought" "I") (by decide +kernel)
  have hf153 := hts (.fieldLink RX9 153 "DikeHandsModel" "chest" "I") (by decide +kernel)
  have hl : lv_has ls 3 [(0, .ref o), (1, .int h), (2, .int k)] := hl
  refine lv_aload_n hx hb dX9_buy_0 rfl (lv_at hl 0 rfl) ?_
  refine lv_iload_n hx hb dX9_buy_1 rfl (lv_at hl 1 rfl) ?_
  refine g_ci (g_runV (As := [.int h]) (rest := []) ⟨hx, hb, hml, hown, hts⟩ hK hP (kX9_isHouse l E A n o c S h ) (cwV 1 hts gX9_buy_X9_isHouse rfl rfl rfl (by decide +kernel) ⟨Nat.le_of_ble_eq_true rfl, Nat.le_of_ble_eq_true rfl⟩) GM_o rfl rfl hl.1 rfl (Nat.le_of_ble_eq_true rfl) dX9_buy_2 ⟨Nat.le_of_ble_eq_true rfl, Nat.le_of_ble_eq_true rfl⟩) hS (fun r2 n' G' H locs hw hP hS => ?_)
  obtain ⟨rfl, rfl, rfl⟩ := hw
  refine g_ifeq (tgt := 38) hx hb dX9_buy_5 (by decide) (fun b5 => ?_) (fun b5 => ?_)
  · refine lv_iconst (v := (-1)) hx hb dX9_buy_38 (by decide) ?_
    refine g_reti hx hb hr hlk hP hS dX9_buy_39 ?_
    exact ⟨by first | (simp [buyR, buyS, buyC, buyB, buyT, buyX, bx_uu, fa_upd_twice, b5]; done) | (exfalso; simp_all; done), rfl, by first | rfl | (first | (simp [buyR, buyS, buyC, buyB, buyT, buyX, bx_uu, fa_upd_twice, b5]; done) | (exfalso; simp_all; done))⟩
  · refine lv_aload_n hx hb dX9_buy_8 rfl (lv_at hl 0 rfl) ?_
    refine m_get (v := .int (c 0)) hx hb hts hin9 hown hK hP 0 (by decide) hf96 rfl rfl dX9_buy_9 ?_
    refine lv_sipush (v := 1040) hx hb dX9_buy_12 (by decide) ?_
    refine lv_icmp_eq (tgt := 38) hx hb dX9_buy_15 (by decide) (fun b15 => ?_) (fun b15 => ?_)
    · refine lv_iconst (v := (-1)) hx hb dX9_buy_38 (by decide) ?_
      refine g_reti hx hb hr hlk hP hS dX9_buy_39 ?_
      exact ⟨by first | (simp [buyR, buyS, buyC, buyB, buyT, buyX, bx_uu, fa_upd_twice, b5, b15]; done) | (exfalso; simp_all; done), rfl, by first | rfl | (first | (simp [buyR, buyS, buyC, buyB, buyT, buyX, bx_uu, fa_upd_twice, b5, b15]; done) | (exfalso; simp_all; done))⟩
    · refine lv_iload_n hx hb dX9_buy_18 rfl (lv_at hl 2 rfl) ?_
      refine lv_iconst (v := 1) hx hb dX9_buy_19 (by decide) ?_
      refine lv_aload_n hx hb dX9_buy_20 rfl (lv_at hl 0 rfl) ?_
      refine lv_iload_n hx hb dX9_buy_21 rfl (lv_at hl 1 rfl) ?_
      refine lv_aload_n hx hb dX9_buy_22 rfl (lv_at hl 0 rfl) ?_
      refine m_get (v := .int (c 0)) hx hb hts hin9 hown hK hP 0 (by decide) hf96 rfl rfl dX9_buy_23 ?_
      refine lv_bipush (v := 52) hx hb dX9_buy_26 (by decide) ?_
      refine lv_idiv hx hb dX9_buy_28 (by decide) ?_
      refine g_ci (g_runV (As := [.int h, .int ((c 0) / 52)]) (rest := [.int 1, .int k]) ⟨hx, hb, hml, hown, hts⟩ hK hP (kX9_yet l E A n o c S h ((c 0) / 52) hI (hsB_vp hI b5) (yn_vp hI)) (cwV 2 hts gX9_buy_X9_yet rfl rfl rfl (by decide +kernel) ⟨Nat.le_of_ble_eq_true rfl, Nat.le_of_ble_eq_true rfl⟩) GM_o rfl rfl hl.1 rfl (Nat.le_of_ble_eq_true rfl) dX9_buy_29 ⟨Nat.le_of_ble_eq_true rfl, Nat.le_of_ble_eq_true rfl⟩) hS (fun r29 n' G' H locs hw hP hS => ?_)
      obtain ⟨rfl, rfl, rfl⟩ := hw
      refine g_ci (g_runS (As := [.int k, .int 1, .int (yetOf c S h ((c 0) / 52))]) (rest := []) ⟨hx, hb, hml, hown, hts⟩ hK hP (kX9_in l E A n (GM E o c S) k 1 (yetOf c S h ((c 0) / 52))) (va_cwS 3 hts gX9_buy_X9_in rfl rfl rfl (by decide +kernel) ⟨Nat.le_of_ble_eq_true rfl, Nat.le_of_ble_eq_true rfl⟩) rfl hl.1 rfl (Nat.le_of_ble_eq_true rfl) dX9_buy_32 ⟨Nat.le_of_ble_eq_true rfl, Nat.le_of_ble_eq_true rfl⟩) hS (fun r32 n' G' H locs hw hP hS => ?_)
      obtain ⟨rfl, rfl, rfl⟩ := hw
      refine g_ifne (tgt := 40) hx hb dX9_buy_35 (by decide) (fun b35 => ?_) (fun b35 => ?_)
      · refine lv_aload_n hx hb dX9_buy_40 rfl (lv_at hl 0 rfl) ?_
        refine m_get (v := .ref (o + 21)) hx hb hts hin9 hown hK hP 24 (by decide) hf70 rfl rfl dX9_buy_41 ?_
        refine lv_bipush (v := 21) hx hb dX9_buy_44 (by decide) ?_
        refine lv_iload_n hx hb dX9_buy_46 rfl (lv_at hl 1 rfl) ?_
        refine lv_imul hx hb dX9_buy_47 ?_
        refine lv_aload_n hx hb dX9_buy_48 rfl (lv_at hl 0 rfl) ?_
        refine m_get (v := .int (c 0)) hx hb hts hin9 hown hK hP 0 (by decide) hf96 rfl rfl dX9_buy_49 ?_
        refine lv_bipush (v := 52) hx hb dX9_buy_52 (by decide) ?_
        refine lv_idiv hx hb dX9_buy_54 (by decide) ?_
        refine lv_iadd hx hb dX9_buy_55 ?_
        refine lv_dup2_11 hx hb dX9_buy_56 rfl rfl ?_
        refine m_iald hx hb hK hP 20 840 rfl (by decide) rfl (yk_vp (hsB_vp hI b5) (yn_vp hI)) dX9_buy_57 ?_
        refine lv_iload_n hx hb dX9_buy_58 rfl (lv_at hl 2 rfl) ?_
        refine lv_iadd hx hb dX9_buy_59 ?_
        refine m_iast hx hb hK hP hS 20 840 rfl (by decide) rfl (yk_vp (hsB_vp hI b5) (yn_vp hI)) dX9_buy_60 (fun H locs hP hS => ?_)
        have hP : gP E A n (GM E o c (va_up S 20 (upd (S 20) (tn ((21 * h) + ((c 0) / 52))) ((S 20 (tn ((21 * h) + ((c 0) / 52)))) + k)))) H := hP
        refine lv_aload_n hx hb dX9_buy_61 rfl (lv_at hl 0 rfl) ?_
        refine lv_dup hx hb dX9_buy_62 rfl ?_
        refine m_get (v := .int (c 32)) hx hb hts hin9 hown hK hP 32 (by decide) hf150 rfl rfl dX9_buy_63 ?_
        refine lv_iload_n hx hb dX9_buy_66 rfl (lv_at hl 2 rfl) ?_
        refine lv_iadd hx hb dX9_buy_67 ?_
        refine m_put hx hb hts hin9 hown hK hP hS 32 (by decide) hf150 rfl rfl (by decide +kernel) rfl dX9_buy_68 (fun H locs hP hS => ?_)
        have hP : gP E A n (GM E o (va_up c 32 ((c 32) + k)) (va_up S 20 (upd (S 20) (tn ((21 * h) + ((c 0) / 52))) ((S 20 (tn ((21 * h) + ((c 0) / 52)))) + k)))) H := hP
        refine lv_aload_n hx hb dX9_buy_71 rfl (lv_at hl 0 rfl) ?_
        refine lv_dup hx hb dX9_buy_72 rfl ?_
        refine m_get (v := .int (c 29)) hx hb hts hin9 hown hK hP 29 (by decide) hf153 rfl rfl dX9_buy_73 ?_
        refine lv_iload_n hx hb dX9_buy_76 rfl (lv_at hl 2 rfl) ?_
        refine lv_aload_n hx hb dX9_buy_77 rfl (lv_at hl 0 rfl) ?_
        refine g_ci (g_runV (As := []) (rest := [.int k, .int (c 29), .ref o]) ⟨hx, hb, hml, hown, hts⟩ hK hP (kX9_coinNow l E A n o (va_up c 32 ((c 32) + k)) (va_up S 20 (upd (S 20) (tn ((21 * h) + ((c 0) / 52))) ((S 20 (tn ((21 * h) + ((c 0) / 52)))) + k)))  hI) (cwV 0 hts gX9_buy_X9_coinNow rfl rfl rfl (by decide +kernel) ⟨Nat.le_of_ble_eq_true rfl, Nat.le_of_ble_eq_true rfl⟩) GM_o rfl rfl hl.1 rfl (Nat.le_of_ble_eq_true rfl) dX9_buy_78 ⟨Nat.le_of_ble_eq_true rfl, Nat.le_of_ble_eq_true rfl⟩) hS (fun r78 n' G' H locs hw hP hS => ?_)
        obtain ⟨rfl, rfl, rfl⟩ := hw
        refine lv_imul hx hb dX9_buy_81 ?_
        refine lv_iadd hx hb dX9_buy_82 ?_
        refine m_put hx hb hts hin9 hown hK hP hS 29 (by decide) hf153 rfl rfl (by decide +kernel) rfl dX9_buy_83 (fun H locs hP hS => ?_)
        have hP : gP E A n (GM E o (va_up (va_up c 32 ((c 32) + k)) 29 ((c 29) + (k * (coinOf (va_up c 32 ((c 32) + k)) (va_up S 20 (upd (S 20) (tn ((21 * h) + ((c 0) / 52))) ((S 20 (tn ((21 * h) + ((c 0) / 52)))) + k))))))) (va_up S 20 (upd (S 20) (tn ((21 * h) + ((c 0) / 52))) ((S 20 (tn ((21 * h) + ((c 0) / 52)))) + k)))) H := hP
        refine lv_aload_n hx hb dX9_buy_86 rfl (lv_at hl 0 rfl) ?_
        refine m_get (v := .int ((c 29) + (k * (coinOf (va_up c 32 ((c 32) + k)) (va_up S 20 (upd (S 20) (tn ((21 * h) + ((c 0) / 52))) ((S 20 (tn ((21 * h) + ((c 0) / 52)))) + k))))))) hx hb hts hin9 hown hK hP 29 (by decide) hf153 rfl rfl dX9_buy_87 ?_
        refine g_reti hx hb hr hlk hP hS dX9_buy_90 ?_
        exact ⟨by first | (simp [buyR, buyS, buyC, buyB, buyT, buyX, bx_uu, fa_upd_twice, b5, b15, b35]; done) | (exfalso; simp_all; done), rfl, by first | rfl | (first | (simp [buyR, buyS, buyC, buyB, buyT, buyX, bx_uu, fa_upd_twice, b5, b15, b35]; done) | (exfalso; simp_all; done))⟩
      · refine lv_iconst (v := (-1)) hx hb dX9_buy_38 (by decide) ?_
        refine g_reti hx hb hr hlk hP hS dX9_buy_39 ?_
        exact ⟨by first | (simp [buyR, buyS, buyC, buyB, buyT, buyX, bx_uu, fa_upd_twice, b5, b15, b35]; done) | (exfalso; simp_all; done), rfl, by first | rfl | (first | (simp [buyR, buyS, buyC, buyB, buyT, buyX, bx_uu, fa_upd_twice, b5, b15, b35]; done) | (exfalso; simp_all; done))⟩
set_option maxHeartbeats 4000000 in
set_option maxRecDepth 100000 in
theorem kX9_hire (l : Launch) (E : gT) (A : Nat → Prop) (n : Nat) (o : Nat) (c : Nat → Int32) (S : Nat → Nat → Int32) (a k : Int32) (hI : mI c S) : gM l yX9_hire wsX9_hire ({ frames := 2, cells := 0, slots := 0, locals := 44 } : Room) E A n (GM E o c S) [.ref o, .int a, .int k] (gQi E A (fun r' n' G' => hirR c S a k = r' ∧ n = n' ∧ (GM E o (hirC c S a k) (hirS c S a k)) = G')) 0 0 := by
  refine g_entry (by decide) rfl (Nat.le_of_ble_eq_true rfl) ?_
  intro p e s m below meth c0 hx hb hr hlk hml hown hnm hts hK H locs ls hP hS hl
  have hin9 : ∀ w ∈ u_ws RX9 TX9 35, w ∈ wsX9_hire := by decide +kernel
  have hf153 := hts (.fieldLink RX9 153 "DikeHandsModel" "chest" "I") (by decide +kernel)
  have hf160 := hts (.fieldLink RX9 160 "DikeHandsModel" "daysHired" "I") (by decide +kernel)
  have hl : lv_has ls 3 [(0, .ref o), (1, .int a), (2, .int k)] := hl
  refine lv_iload_n hx hb dX9_hire_0 rfl (lv_at hl 1 rfl) ?_
  refine g_ci (g_runS (As := [.int a]) (rest := []) ⟨hx, hb, hml, hown, hts⟩ hK hP (kX9_isRod l E A n (GM E o c S) a) (va_cwS 1 hts gX9_hire_X9_isRod rfl rfl rfl (by decide +kernel) ⟨Nat.le_of_ble_eq_true rfl, Nat.le_of_ble_eq_true rfl⟩) rfl hl.1 rfl (Nat.le_of_ble_eq_true rfl) dX9_hire_1 ⟨Nat.le_of_ble_eq_true rfl, Nat.le_of_ble_eq_true rfl⟩) hS (fun r1 n' G' H locs hw hP hS => ?_)
  obtain ⟨rfl, rfl, rfl⟩ := hw
  refine g_ifeq (tgt := 38) hx hb dX9_hire_4 (by decide) (fun b4 => ?_) (fun b4 => ?_)
  · refine lv_iconst (v := (-1)) hx hb dX9_hire_38 (by decide) ?_
    refine g_reti hx hb hr hlk hP hS dX9_hire_39 ?_
    exact ⟨by first | (simp [hirR, hirS, hirC, hirB, bx_uu, fa_upd_twice, b4]; done) | (exfalso; simp_all; done), rfl, by first | rfl | (first | (simp [hirR, hirS, hirC, hirB, bx_uu, fa_upd_twice, b4]; done) | (exfalso; simp_all; done))⟩
  · refine lv_iload_n hx hb dX9_hire_7 rfl (lv_at hl 2 rfl) ?_
    refine lv_iconst (v := 1) hx hb dX9_hire_8 (by decide) ?_
    refine lv_sipush (v := 1000) hx hb dX9_hire_9 (by decide) ?_
    refine g_ci (g_runS (As := [.int k, .int 1, .int 1000]) (rest := []) ⟨hx, hb, hml, hown, hts⟩ hK hP (kX9_in l E A n (GM E o c S) k 1 1000) (va_cwS 3 hts gX9_hire_X9_in rfl rfl rfl (by decide +kernel) ⟨Nat.le_of_ble_eq_true rfl, Nat.le_of_ble_eq_true rfl⟩) rfl hl.1 rfl (Nat.le_of_ble_eq_true rfl) dX9_hire_12 ⟨Nat.le_of_ble_eq_true rfl, Nat.le_of_ble_eq_true rfl⟩) hS (fun r12 n' G' H locs hw hP hS => ?_)
    obtain ⟨rfl, rfl, rfl⟩ := hw
    refine g_ifeq (tgt := 38) hx hb dX9_hire_15 (by decide) (fun b15 => ?_) (fun b15 => ?_)
    · refine lv_iconst (v := (-1)) hx hb dX9_hire_38 (by decide) ?_
      refine g_reti hx hb hr hlk hP hS dX9_hire_39 ?_
      exact ⟨by first | (simp [hirR, hirS, hirC, hirB, bx_uu, fa_upd_twice, b4, b15]; done) | (exfalso; simp_all; done), rfl, by first | rfl | (first | (simp [hirR, hirS, hirC, hirB, bx_uu, fa_upd_twice, b4, b15]; done) | (exfalso; simp_all; done))⟩
    · refine lv_aload_n hx hb dX9_hire_18 rfl (lv_at hl 0 rfl) ?_
      refine g_ci (g_runV (As := []) (rest := []) ⟨hx, hb, hml, hown, hts⟩ hK hP (kX9_coinNow l E A n o c S  hI) (cwV 0 hts gX9_hire_X9_coinNow rfl rfl rfl (by decide +kernel) ⟨Nat.le_of_ble_eq_true rfl, Nat.le_of_ble_eq_true rfl⟩) GM_o rfl rfl hl.1 rfl (Nat.le_of_ble_eq_true rfl) dX9_hire_19 ⟨Nat.le_of_ble_eq_true rfl, Nat.le_of_ble_eq_true rfl⟩) hS (fun r19 n' G' H locs hw hP hS => ?_)
      obtain ⟨rfl, rfl, rfl⟩ := hw
      refine lv_if_eq (tgt := 38) hx hb dX9_hire_22 (by decide) (fun b22 => ?_) (fun b22 => ?_)
      · refine lv_iconst (v := (-1)) hx hb dX9_hire_38 (by decide) ?_
        refine g_reti hx hb hr hlk hP hS dX9_hire_39 ?_
        exact ⟨by first | (simp [hirR, hirS, hirC, hirB, bx_uu, fa_upd_twice, b4, b15, b22]; done) | (exfalso; simp_all; done), rfl, by first | rfl | (first | (simp [hirR, hirS, hirC, hirB, bx_uu, fa_upd_twice, b4, b15, b22]; done) | (exfalso; simp_all; done))⟩
      · refine lv_iload_n hx hb dX9_hire_25 rfl (lv_at hl 2 rfl) ?_
        refine lv_aload_n hx hb dX9_hire_26 rfl (lv_at hl 0 rfl) ?_
        refine g_ci (g_runV (As := []) (rest := [.int k]) ⟨hx, hb, hml, hown, hts⟩ hK hP (kX9_coinNow l E A n o c S  hI) (cwV 0 hts gX9_hire_X9_coinNow rfl rfl rfl (by decide +kernel) ⟨Nat.le_of_ble_eq_true rfl, Nat.le_of_ble_eq_true rfl⟩) GM_o rfl rfl hl.1 rfl (Nat.le_of_ble_eq_true rfl) dX9_hire_27 ⟨Nat.le_of_ble_eq_true rfl, Nat.le_of_ble_eq_true rfl⟩) hS (fun r27 n' G' H locs hw hP hS => ?_)
        obtain ⟨rfl, rfl, rfl⟩ := hw
        refine lv_imul hx hb dX9_hire_30 ?_
        refine lv_aload_n hx hb dX9_hire_31 rfl (lv_at hl 0 rfl) ?_
        refine m_get (v := .int (c 29)) hx hb hts hin9 hown hK hP 29 (by decide) hf153 rfl rfl dX9_hire_32 ?_
        refine lv_icmp_le (tgt := 40) hx hb dX9_hire_35 (by decide) (fun b35 => ?_) (fun b35 => ?_)
        · refine lv_aload_n hx hb dX9_hire_40 rfl (lv_at hl 0 rfl) ?_
          refine lv_dup hx hb dX9_hire_41 rfl ?_
          refine m_get (v := .int (c 29)) hx hb hts hin9 hown hK hP 29 (by decide) hf153 rfl rfl dX9_hire_42 ?_
          refine lv_iload_n hx hb dX9_hire_45 rfl (lv_at hl 2 rfl) ?_
          refine lv_aload_n hx hb dX9_hire_46 rfl (lv_at hl 0 rfl) ?_
          refine g_ci (g_runV (As := []) (rest := [.int k, .int (c 29), .ref o]) ⟨hx, hb, hml, hown, hts⟩ hK hP (kX9_coinNow l E A n o c S  hI) (cwV 0 hts gX9_hire_X9_coinNow rfl rfl rfl (by decide +kernel) ⟨Nat.le_of_ble_eq_true rfl, Nat.le_of_ble_eq_true rfl⟩) GM_o rfl rfl hl.1 rfl (Nat.le_of_ble_eq_true rfl) dX9_hire_47 ⟨Nat.le_of_ble_eq_true rfl, Nat.le_of_ble_eq_true rfl⟩) hS (fun r47 n' G' H locs hw hP hS => ?_)
          obtain ⟨rfl, rfl, rfl⟩ := hw
          refine lv_imul hx hb dX9_hire_50 ?_
          refine lv_isub hx hb dX9_hire_51 ?_
          refine m_put hx hb hts hin9 hown hK hP hS 29 (by decide) hf153 rfl rfl (by decide +kernel) rfl dX9_hire_52 (fun H locs hP hS => ?_)
          have hP : gP E A n (GM E o (va_up c 29 ((c 29) - (k * (coinOf c S)))) S) H := hP
          refine lv_aload_n hx hb dX9_hire_55 rfl (lv_at hl 0 rfl) ?_
          refine lv_dup hx hb dX9_hire_56 rfl ?_
          refine m_get (v := .int (c 33)) hx hb hts hin9 hown hK hP 33 (by decide) hf160 rfl rfl dX9_hire_57 ?_
          refine lv_iload_n hx hb dX9_hire_60 rfl (lv_at hl 2 rfl) ?_
          refine lv_iadd hx hb dX9_hire_61 ?_
          refine m_put hx hb hts hin9 hown hK hP hS 33 (by decide) hf160 rfl rfl (by decide +kernel) rfl dX9_hire_62 (fun H locs hP hS => ?_)
          have hP : gP E A n (GM E o (va_up (va_up c 29 ((c 29) - (k * (coinOf c S)))) 33 ((c 33) + k)) S) H := hP
          refine lv_aload_n hx hb dX9_hire_65 rfl (lv_at hl 0 rfl) ?_
          refine lv_iload_n hx hb dX9_hire_66 rfl (lv_at hl 1 rfl) ?_
          refine lv_iload_n hx hb dX9_hire_67 rfl (lv_at hl 2 rfl) ?_
          refine g_cv (g_runV (As := [.int a, .int k]) (rest := []) ⟨hx, hb, hml, hown, hts⟩ hK hP (kX9_raises l E A n o (va_up (va_up c 29 ((c 29) - (k * (coinOf c S)))) 33 ((c 33) + k)) S a k (inB_vp b4 (by decide))) (cwV 2 hts gX9_hire_X9_raises rfl rfl rfl (by decide +kernel) ⟨Nat.le_of_ble_eq_true rfl, Nat.le_of_ble_eq_true rfl⟩) GM_o rfl rfl hl.1 rfl (Nat.le_of_ble_eq_true rfl) dX9_hire_68 ⟨Nat.le_of_ble_eq_true rfl, Nat.le_of_ble_eq_true rfl⟩) hS (fun n' G' H locs hw hP hS => ?_)
          obtain ⟨rfl, rfl⟩ := hw
          refine lv_aload_n hx hb dX9_hire_71 rfl (lv_at hl 0 rfl) ?_
          refine m_get (v := .int ((c 29) - (k * (coinOf c S)))) hx hb hts hin9 hown hK hP 29 (by decide) hf153 rfl rfl dX9_hire_72 ?_
          refine g_reti hx hb hr hlk hP hS dX9_hire_75 ?_
          exact ⟨by first | (simp [hirR, hirS, hirC, hirB, bx_uu, fa_upd_twice, b4, b15, b22, b35, Int32.not_lt.mpr b35]; done) | (exfalso; simp_all; done), rfl, by first | rfl | (first | (simp [hirR, hirS, hirC, hirB, bx_uu, fa_upd_twice, b4, b15, b22, b35, Int32.not_lt.mpr b35]; done) | (exfalso; simp_all; done))⟩
        · refine lv_iconst (v := (-1)) hx hb dX9_hire_38 (by decide) ?_
          refine g_reti hx hb hr hlk hP hS dX9_hire_39 ?_
          exact ⟨by first | (simp [hirR, hirS, hirC, hirB, bx_uu, fa_upd_twice, b4, b15, b22, b35, Int32.not_le.mp b35]; done) | (exfalso; simp_all; done), rfl, by first | rfl | (first | (simp [hirR, hirS, hirC, hirB, bx_uu, fa_upd_twice, b4, b15, b22, b35, Int32.not_le.mp b35]; done) | (exfalso; simp_all; done))⟩
end
section
abbrev gCS : Type := (Nat → Int32) × (Nat → Nat → Int32)
theorem lp_gt {x : Int32} {k : Nat} (h0 : 0 ≤ x.toInt) (hk : k < 2 ^ 31) (h : x < nI k) : tn x < k := by
  have h1 := Int32.lt_iff_toInt_lt.mp h
  rw [nI_toInt hk] at h1
  have := tn_of h0
  omega
theorem lp_ngt {x : Int32} {k : Nat} (h0 : 0 ≤ x.toInt) (hk : k < 2 ^ 31) (h : ¬ x < nI k) : k ≤ tn x := by
  have h1 : ¬ x.toInt < (nI k).toInt := fun q => h (Int32.lt_iff_toInt_lt.mpr q)
  rw [nI_toInt hk] at h1
  have := tn_of h0
  omega
theorem va_up_id {α : Type} (S : Nat → α) (k : Nat) : va_up S k (S k) = S := by
  funext j; by_cases h : j = k <;> simp [va_up, h]
def rivF (f : Nat → Int32) (lo hi : Nat) (k : Int32) : Nat → Int32 := fun w => if lo ≤ w ∧ w < hi then k else f w
theorem rivF_0 (f : Nat → Int32) (lo : Nat) (k : Int32) : rivF f lo lo k = f := by
  funext w; simp only [rivF]; rw [if_neg (by omega)]
theorem rivF_s (f : Nat → Int32) {lo i : Nat} (k : Int32) (h : lo ≤ i) : upd (rivF f lo i k) i k = rivF f lo (i + 1) k := by
  funext w
  simp only [upd, rivF]
  by_cases h1 : w = i
  · rw [if_pos h1, if_pos (by omega)]
  · rw [if_neg h1]
    by_cases h2 : lo ≤ w ∧ w < i
    · rw [if_pos h2, if_pos (by omega)]
    · rw [if_neg h2, if_neg (by omega)]
def rivB (c : Nat → Int32) (a b k : Int32) : Bool := inB a (c 0) 1039 && inB b a 1039 && inB k 0 3000
def rivS (c : Nat → Int32) (S : Nat → Nat → Int32) (a b k : Int32) : Nat → Nat → Int32 := if rivB c a b k then va_up S 24 (rivF (S 24) (tn a) (tn b + 1) k) else S
theorem inB_of3 {v lo : Int32} {c : Nat → Int32} (h0 : 0 ≤ lo.toInt) (h : inB v lo 1039 = true) : vp_in v 1040 := by
  have h1 := inB_i h
  have h2 : (1039 : Int32).toInt = 1039 := rfl
  exact vp_in_iff.mpr ⟨by omega, by omega⟩
def endN (u : gCS) : Nat → gCS
  | 0 => u
  | k + 1 => (endC (endN u k).1 (endN u k).2 (nI k) ((endN u k).2 24 (tn ((endN u k).1 0))), endS (endN u k).2 (nI k) ((endN u k).2 24 (tn ((endN u k).1 0))))
def wk1 (u : gCS) : gCS := (va_up (endN u 30).1 0 ((endN u 30).1 0 + 1), (endN u 30).2)
def wkN (u : gCS) : Nat → gCS
  | 0 => u
  | k + 1 => wk1 (wkN u k)
theorem endN_c (u : gCS) (j : Nat) (hj : j ≠ 30) : ∀ k, (endN u k).1 j = u.1 j
  | 0 => rfl
  | k + 1 => by
    have ih := endN_c u j hj k
    simp only [endN, endC]
    split
    · exact ih
    · rw [va_up_ne _ _ hj]; exact ih
theorem endN_S (u : gCS) (j : Nat) (h1 : j ≠ 1) (h4 : j ≠ 4) : ∀ k, (endN u k).2 j = u.2 j
  | 0 => rfl
  | k + 1 => by
    have ih := endN_S u j h1 h4 k
    simp only [endN, endS]
    split
    · rw [va_up_ne _ _ h1]; exact ih
    · rw [va_up_ne _ _ h4, va_up_ne _ _ h1]; exact ih
theorem wkN_0 (u : gCS) : ∀ k, (wkN u k).1 0 = u.1 0 + nI k
  | 0 => by rw [nI_0]; exact (Int32.add_zero _).symm
  | k + 1 => by
    have ih := wkN_0 u k
    have h0 := endN_c (wkN u k) 0 (by decide) 30
    simp only [wkN, wk1]
    rw [va_up_self, h0, ih, Int32.add_assoc, nI_1]
theorem wkN_s1 (u : gCS) (k : Nat) : (wkN u (k + 1)).1 = va_up (endN (wkN u k) 30).1 0 ((endN (wkN u k) 30).1 0 + 1) := by simp only [wkN, wk1]
theorem wkN_s2 (u : gCS) (k : Nat) : (wkN u (k + 1)).2 = (endN (wkN u k) 30).2 := by simp only [wkN, wk1]
theorem endN_s1 (u : gCS) (k : Nat) : (endN u (k + 1)).1 = endC (endN u k).1 (endN u k).2 (nI k) ((endN u k).2 24 (tn ((endN u k).1 0))) := rfl
theorem endN_s2 (u : gCS) (k : Nat) : (endN u (k + 1)).2 = endS (endN u k).2 (nI k) ((endN u k).2 24 (tn ((endN u k).1 0))) := rfl
def goB (k : Int32) : Bool := inB k 0 104
def goU (c : Nat → Int32) (S : Nat → Nat → Int32) (k : Int32) : gCS := if goB k then wkN (c, S) (min (tn k) (1040 - tn (c 0))) else (c, S)
def goR (c : Nat → Int32) (S : Nat → Nat → Int32) (k : Int32) : Int32 := if goB k then (goU c S k).1 0 else -1
def papF (c : Nat → Int32) (S : Nat → Nat → Int32) (v : Int32) : Nat → Nat → Int32
  | 0, _ => -1
  | f + 1, w => if S 23 (tn (1040 * v + nI w)) ≤ 6 * vilOf c S v (nI w) then papF c S v f (w + 1) else nI w
def papOf (c : Nat → Int32) (S : Nat → Nat → Int32) (v : Int32) : Int32 := if inB v 0 7 then papF c S v (min 1040 (tn (c 0) + 1)) 0 else -1
theorem did_vp {v : Int32} {w : Nat} (hv : inB v 0 7 = true) (hw : w < 1040) : vp_in (1040 * v + nI w) 8320 := by
  have h1 := inB_i hv
  have e1 : (1040 : Int32).toInt = 1040 := rfl
  have e2 : (0 : Int32).toInt = 0 := rfl
  have e3 : (7 : Int32).toInt = 7 := rfl
  have e4 : (nI w).toInt = w := nI_toInt (by omega)
  have h6 : (1040 * v).toInt = 1040 * v.toInt := by rw [fb_mulI] <;> rw [e1] <;> omega
  exact vp_in_iff.mpr ⟨by rw [fb_addI] <;> omega, by rw [fb_addI] <;> omega⟩
def arrN (c : Nat → Int32) (S : Nat → Nat → Int32) (a b d : Int32) : Nat → Int32
  | 0 => 0
  | v + 1 => if calOf S a (nI v) + hrsOf (S 0 v) (3 * b) 3 ≤ d then arrN c S a b d v + vilOf c S (nI v) (c 0) else arrN c S a b d v
def arrOf (c : Nat → Int32) (S : Nat → Nat → Int32) (a b d : Int32) : Int32 := if inB a 0 7 && inB b 0 29 && inB d 0 100 then arrN c S a b d 8 else -1
def plM (S : Nat → Nat → Int32) (d : Int32) : Nat → Nat → Int32
  | 0, _ => 0
  | k + 1, w => if needOf S (nI k) d = 0 ∨ nI w < needOf S (nI k) d then plM S d k w else if plM S d k (w - tn (needOf S (nI k) d)) + S 3 k ≤ plM S d k w then plM S d k w else plM S d k (w - tn (needOf S (nI k) d)) + S 3 k
def plF (S : Nat → Nat → Int32) (d : Int32) (t : Nat) : Nat → Int32 := fun i => if i < t then plM S d (i / 301) (i % 301) else S 25 i
theorem plF_0 (S : Nat → Nat → Int32) (d : Int32) : plF S d 0 = S 25 := by
  funext i; simp [plF]
theorem plF_in (S : Nat → Nat → Int32) (d : Int32) {t k w : Nat} (h : 301 * k + w < t) (hw : w < 301) : plF S d t (301 * k + w) = plM S d k w := by
  simp only [plF]
  rw [if_pos h, show (301 * k + w) / 301 = k by omega, show (301 * k + w) % 301 = w by omega]
theorem plF_s (S : Nat → Nat → Int32) (d : Int32) {k w : Nat} (hw : w < 301) : upd (plF S d (301 * k + w)) (301 * k + w) (plM S d k w) = plF S d (301 * k + w + 1) := by
  funext i
  simp only [upd]
  by_cases h1 : i = 301 * k + w
  · rw [if_pos h1, h1, plF_in S d (by omega) hw]
  · rw [if_neg h1]
    simp only [plF]
    by_cases h2 : i < 301 * k + w
    · rw [if_pos h2, if_pos (by omega)]
    · rw [if_neg h2, if_neg (by omega)]
def chO (S : Nat → Nat → Int32) (d : Int32) : Nat → Nat → Int32 → Int32
  | 0, _, z => z
  | k + 1, w, z => if plM S d (k + 1) w = plM S d k w then chO S d k w z else chO S d k (w - tn (needOf S (nI k) d)) (z ||| ((1 : Int32) <<< (nI k &&& 31)))
def savB (a b : Int32) : Bool := inB a 0 300 && inB b 0 3000
def savS (S : Nat → Nat → Int32) (a b : Int32) : Nat → Nat → Int32 := if savB a b then va_up S 25 (plF S b 9331) else S
def savR (S : Nat → Nat → Int32) (a b : Int32) : Int32 := if savB a b then plM S b 30 (tn a) else -1
def choR (S : Nat → Nat → Int32) (a b : Int32) : Int32 := if savB a b then chO S b 30 (tn a) 0 else -1

set_option maxHeartbeats 1000000 in
set_option maxRecDepth 100000 in
theorem kX9_river (l : Launch) (E : gT) (A : Nat → Prop) (n : Nat) (o : Nat) (c : Nat → Int32) (S : Nat → Nat → Int32) (a b k : Int32) (hI : mI c S) : gM l yX9_river wsX9_river ({ frames := 1, cells := 0, slots := 0, locals := 22 } : Room) E A n (GM E o c S) [.ref o, .int a, .int b, .int k] (gQi E A (fun r' n' G' => gb (rivB c a b k) = r' ∧ n = n' ∧ (GM E o c (rivS c S a b k)) = G')) 0 0 := by
  refine g_entry (by decide) rfl (Nat.le_of_ble_eq_true rfl) ?_
  intro p e s m below meth c0 hx hb hr hlk hml hown hnm hts hK H locs ls hP hS hl
  have hin9 : ∀ w ∈ u_ws RX9 TX9 35, w ∈ wsX9_river := by decide +kernel
  have hf82 := hts (.fieldLink RX9 82 "DikeHandsModel" "level" "[I") (by decide +kernel)
  have hf96 := hts (.fieldLink RX9 96 "DikeHandsModel" "now" "I") (by decide +kernel)
  have hl : lv_has ls 5 [(0, .ref o), (1, .int a), (2, .int b), (3, .int k)] := hl
  have j0 := hI.1
  have j7 := hI.2.1
  have j12 := hI.2.2.1
  have j18 := hI.2.2.2.1
  have t0_ := tn_of j0.1
  have t7_ := tn_of j7.1
  have t12_ := tn_of j12.1
  have t18_ := tn_of j18.1
  refine lv_iload_n hx hb dX9_river_0 rfl (lv_at hl 1 rfl) ?_
  refine lv_aload_n hx hb dX9_river_1 rfl (lv_at hl 0 rfl) ?_
  refine m_get (v := .int (c 0)) hx hb hts hin9 hown hK hP 0 (by decide) hf96 rfl rfl dX9_river_2 ?_
  refine lv_sipush (v := 1039) hx hb dX9_river_5 (by decide) ?_
  refine g_ci (g_runS (As := [.int a, .int (c 0), .int 1039]) (rest := []) ⟨hx, hb, hml, hown, hts⟩ hK hP (kX9_in l E A n (GM E o c S) a (c 0) 1039) (va_cwS 3 hts gX9_river_X9_in rfl rfl rfl (by decide +kernel) ⟨Nat.le_of_ble_eq_true rfl, Nat.le_of_ble_eq_true rfl⟩) rfl hl.1 rfl (Nat.le_of_ble_eq_true rfl) dX9_river_8 ⟨Nat.le_of_ble_eq_true rfl, Nat.le_of_ble_eq_true rfl⟩) hS (fun r8 n' G' H locs hw hP hS => ?_)
  obtain ⟨rfl, rfl, rfl⟩ := hw
  refine g_ifeq (tgt := 36) hx hb dX9_river_11 (by decide) (fun b11 => ?_) (fun b11 => ?_)
  · refine lv_iconst (v := 0) hx hb dX9_river_36 (by decide) ?_
    refine g_retz hx hb hr hlk hP hS dX9_river_37 rfl ?_
    exact ⟨by first | (simp [rivB, gb, b11]; done) | (exfalso; simp_all; done), rfl, by first | (simp [rivB, rivS, b11]; done) | (exfalso; simp_all; done)⟩
  · refine lv_iload_n hx hb dX9_river_14 rfl (lv_at hl 2 rfl) ?_
    refine lv_iload_n hx hb dX9_river_15 rfl (lv_at hl 1 rfl) ?_
    refine lv_sipush (v := 1039) hx hb dX9_river_16 (by decide) ?_
    refine g_ci (g_runS (As := [.int b, .int a, .int 1039]) (rest := []) ⟨hx, hb, hml, hown, hts⟩ hK hP (kX9_in l E A n (GM E o c S) b a 1039) (va_cwS 3 hts gX9_river_X9_in rfl rfl rfl (by decide +kernel) ⟨Nat.le_of_ble_eq_true rfl, Nat.le_of_ble_eq_true rfl⟩) rfl hl.1 rfl (Nat.le_of_ble_eq_true rfl) dX9_river_19 ⟨Nat.le_of_ble_eq_true rfl, Nat.le_of_ble_eq_true rfl⟩) hS (fun r19 n' G' H locs hw hP hS => ?_)
    obtain ⟨rfl, rfl, rfl⟩ := hw
    refine g_ifeq (tgt := 36) hx hb dX9_river_22 (by decide) (fun b22 => ?_) (fun b22 => ?_)
    · refine lv_iconst (v := 0) hx hb dX9_river_36 (by decide) ?_
      refine g_retz hx hb hr hlk hP hS dX9_river_37 rfl ?_
      exact ⟨by first | (simp [rivB, gb, b11, b22]; done) | (exfalso; simp_all; done), rfl, by first | (simp [rivB, rivS, b11, b22]; done) | (exfalso; simp_all; done)⟩
    · refine lv_iload_n hx hb dX9_river_25 rfl (lv_at hl 3 rfl) ?_
      refine lv_iconst (v := 0) hx hb dX9_river_26 (by decide) ?_
      refine lv_sipush (v := 3000) hx hb dX9_river_27 (by decide) ?_
      refine g_ci (g_runS (As := [.int k, .int 0, .int 3000]) (rest := []) ⟨hx, hb, hml, hown, hts⟩ hK hP (kX9_in l E A n (GM E o c S) k 0 3000) (va_cwS 3 hts gX9_river_X9_in rfl rfl rfl (by decide +kernel) ⟨Nat.le_of_ble_eq_true rfl, Nat.le_of_ble_eq_true rfl⟩) rfl hl.1 rfl (Nat.le_of_ble_eq_true rfl) dX9_river_30 ⟨Nat.le_of_ble_eq_true rfl, Nat.le_of_ble_eq_true rfl⟩) hS (fun r30 n' G' H locs hw hP hS => ?_)
      obtain ⟨rfl, rfl, rfl⟩ := hw
      refine g_ifne (tgt := 38) hx hb dX9_river_33 (by decide) (fun b33 => ?_) (fun b33 => ?_)
      · obtain ⟨ai, hai, rfl⟩ := vp_in_of (inB_of3 (c := c) hI.1.1 b11) (by decide)
        have hb2 : vp_in b 1040 := inB_of3 (c := c) (by rw [nI_toInt (by omega)]; omega) b22
        obtain ⟨bi, hbi, rfl⟩ := vp_in_of hb2 (by decide)
        have hab : ai ≤ bi := by
          have h1 := inB_i b22
          rw [nI_toInt (by omega), nI_toInt (by omega)] at h1
          omega
        have hP : gP E A n (GM E o c (va_up S 24 (rivF (S 24) ai ai k))) H := by rw [rivF_0, va_up_id]; exact hP
        refine lv_iload_n hx hb dX9_river_38 rfl (lv_at hl 1 rfl) ?_
        refine lv_istore (lv' := [(4, .int (nI ai)), (0, .ref o), (1, .int (nI ai)), (2, .int (nI bi)), (3, .int k)]) hx hb dX9_river_39 hl (by decide) rfl (fun ls hl => ?_)
        refine g_loop (τ := Nat) (fun i => ai ≤ i ∧ i ≤ bi + 1) (fun i => bi + 1 - i) (fun i => n) (fun i => GM E o c (va_up S 24 (rivF (S 24) ai i k))) (fun i => 0) (fun i => 0) (fun i => [(0, .ref o), (1, .int (nI ai)), (2, .int (nI bi)), (3, .int k), (4, .int (nI i))]) ?_ ai (⟨Nat.le_refl _, by omega⟩) H locs ls hP hS (lv_sub hl [1, 2, 3, 4, 0] rfl)
        intro i hI41 ih H locs ls hP hS hl
        try dsimp only at hI41
        have hl : lv_has ls 5 [(0, .ref o), (1, .int (nI ai)), (2, .int (nI bi)), (3, .int k), (4, .int (nI i))] := hl
        have hP : gP E A n (GM E o c (va_up S 24 (rivF (S 24) ai i k))) H := hP
        refine lv_iload hx hb dX9_river_41 (lv_at hl 4 rfl) ?_
        refine lv_iload_n hx hb dX9_river_43 rfl (lv_at hl 2 rfl) ?_
        refine lv_icmp_gt (tgt := 61) hx hb dX9_river_44 (by decide) (fun b44 => ?_) (fun b44 => ?_)
        · have hk3 := lp_gt (by rw [nI_toInt (by omega)]; omega) (by omega) b44
          rw [tn_nI (by omega)] at hk3
          have hke : i = bi + 1 := by omega
          subst hke
          refine lv_iconst (v := 1) hx hb dX9_river_61 (by decide) ?_
          refine g_retz hx hb hr hlk hP hS dX9_river_62 rfl ?_
          exact ⟨by first | (simp [rivB, gb, b11, b22, b33]; done) | (exfalso; simp_all; done), rfl, by rw [rivS, if_pos (by first | (simp [rivB, b11, b22, b33]; done) | (exfalso; simp_all; done)), tn_nI (by omega), tn_nI (by omega)]⟩
        · have hk3 := lp_ngt (by rw [nI_toInt (by omega)]; omega) (by omega) b44
          rw [tn_nI (by omega)] at hk3
          refine lv_aload_n hx hb dX9_river_47 rfl (lv_at hl 0 rfl) ?_
          refine m_get (v := .ref (o + 25)) hx hb hts hin9 hown hK hP 28 (by decide) hf82 rfl rfl dX9_river_48 ?_
          refine lv_iload hx hb dX9_river_51 (lv_at hl 4 rfl) ?_
          refine lv_iload_n hx hb dX9_river_53 rfl (lv_at hl 3 rfl) ?_
          refine m_iast_n hx hb hK hP hS 24 1040 rfl (by decide) rfl (by omega) dX9_river_54 (fun H locs hP hS => ?_)
          have hP : gP E A n (GM E o c (va_up (va_up S 24 (rivF (S 24) ai i k)) 24 (upd (rivF (S 24) ai i k) i k))) H := hP
          refine lv_iinc (v := (nI i) + 1) (lv' := [(4, .int ((nI i) + 1)), (0, .ref o), (1, .int (nI ai)), (2, .int (nI bi)), (3, .int k)]) hx hb dX9_river_55 hl (k := 4) rfl rfl (by decide) rfl (fun ls hl => ?_)
          refine lv_goto (tgt := 41) hx hb dX9_river_58 (by decide) ?_
          rw [rivF_s _ _ (by omega), bx_uu] at hP
          refine ih (i + 1) (by omega) (by omega) H locs ls hP hS ?_
          show lv_has ls 5 [(0, .ref o), (1, .int (nI ai)), (2, .int (nI bi)), (3, .int k), (4, .int (nI (i + 1)))]
          rw [← nI_1]
          exact lv_sub hl [1, 2, 3, 4, 0] rfl
      · refine lv_iconst (v := 0) hx hb dX9_river_36 (by decide) ?_
        refine g_retz hx hb hr hlk hP hS dX9_river_37 rfl ?_
        exact ⟨by first | (simp [rivB, gb, b11, b22, b33]; done) | (exfalso; simp_all; done), rfl, by first | (simp [rivB, rivS, b11, b22, b33]; done) | (exfalso; simp_all; done)⟩
set_option maxHeartbeats 1000000 in
set_option maxRecDepth 100000 in
theorem kX9_go (l : Launch) (E : gT) (A : Nat → Prop) (n : Nat) (o : Nat) (c : Nat → Int32) (S : Nat → Nat → Int32) (w : Int32) (hI : mI c S) : gM l yX9_go wsX9_go ({ frames := 1, cells := 0, slots := 0, locals := 22 } : Room) E A n (GM E o c S) [.ref o, .int w] (gQi E A (fun r' n' G' => goR c S w = r' ∧ n = n' ∧ (GM E o ((goU c S w).1) ((goU c S w).2)) = G')) 0 0 := by
  refine g_entry (by decide) rfl (Nat.le_of_ble_eq_true rfl) ?_
  intro p e s m below meth c0 hx hb hr hlk hml hown hnm hts hK H locs ls hP hS hl
  have hin9 : ∀ w ∈ u_ws RX9 TX9 35, w ∈ wsX9_go := by decide +kernel
  have hf82 := hts (.fieldLink RX9 82 "DikeHandsModel" "level" "[I") (by decide +kernel)
  have hf96 := hts (.fieldLink RX9 96 "DikeHandsModel" "now" "I") (by decide +kernel)
  have hl : lv_has ls 4 [(0, .ref o), (1, .int w)] := hl
  have j0 := hI.1
  have j7 := hI.2.1
  have j12 := hI.2.2.1
  have j18 := hI.2.2.2.1
  have t0_ := tn_of j0.1
  have t7_ := tn_of j7.1
  have t12_ := tn_of j12.1
  have t18_ := tn_of j18.1
  refine lv_iload_n hx hb dX9_go_0 rfl (lv_at hl 1 rfl) ?_
  refine lv_iconst (v := 0) hx hb dX9_go_1 (by decide) ?_
  refine lv_bipush (v := 104) hx hb dX9_go_2 (by decide) ?_
  refine g_ci (g_runS (As := [.int w, .int 0, .int 104]) (rest := []) ⟨hx, hb, hml, hown, hts⟩ hK hP (kX9_in l E A n (GM E o c S) w 0 104) (va_cwS 3 hts gX9_go_X9_in rfl rfl rfl (by decide +kernel) ⟨Nat.le_of_ble_eq_true rfl, Nat.le_of_ble_eq_true rfl⟩) rfl hl.1 rfl (Nat.le_of_ble_eq_true rfl) dX9_go_4 ⟨Nat.le_of_ble_eq_true rfl, Nat.le_of_ble_eq_true rfl⟩) hS (fun r4 n' G' H locs hw hP hS => ?_)
  obtain ⟨rfl, rfl, rfl⟩ := hw
  refine g_ifne (tgt := 12) hx hb dX9_go_7 (by decide) (fun b7 => ?_) (fun b7 => ?_)
  · have hw := inB_i b7
    have hw0 : 0 ≤ w.toInt := hw.1
    have hw1 : w.toInt ≤ 104 := hw.2
    have htw := tn_of hw0
    refine lv_iconst (v := 0) hx hb dX9_go_12 (by decide) ?_
    refine lv_istore_n (lv' := [(2, .int 0), (0, .ref o), (1, .int w)]) hx hb dX9_go_13 rfl hl (by decide) rfl (fun ls hl => ?_)
    refine g_loop (τ := Nat) (fun k => k ≤ tn w ∧ k ≤ 1040 - tn (c 0)) (fun k => tn w - k) (fun k => n) (fun k => GM E o (wkN (c, S) k).1 (wkN (c, S) k).2) (fun k => 0) (fun k => 0) (fun k => [(0, .ref o), (1, .int w), (2, .int (nI k))]) ?_ 0 (⟨Nat.zero_le _, Nat.zero_le _⟩) H locs ls hP hS (lv_sub hl [1, 2, 0] rfl)
    intro k hI14 ih H locs ls hP hS hl
    try dsimp only at hI14
    have hl : lv_has ls 4 [(0, .ref o), (1, .int w), (2, .int (nI k))] := hl
    have hP : gP E A n (GM E o (wkN (c, S) k).1 (wkN (c, S) k).2) H := hP
    have hnow : ((wkN (c, S) k).1 0).toInt = (c 0).toInt + k := by
      rw [wkN_0]
      show (c 0 + nI k).toInt = _
      rw [fb_addI] <;> rw [nI_toInt (by omega)] <;> omega
    refine lv_iload_n hx hb dX9_go_14 rfl (lv_at hl 2 rfl) ?_
    refine lv_iload_n hx hb dX9_go_15 rfl (lv_at hl 1 rfl) ?_
    refine lv_icmp_ge (tgt := 73) hx hb dX9_go_16 (by decide) (fun b16 => ?_) (fun b16 => ?_)
    · have hk3 := lp_ge hw0 (by omega) b16
      have hke : k = min (tn w) (1040 - tn (c 0)) := by omega
      refine lv_aload_n hx hb dX9_go_73 rfl (lv_at hl 0 rfl) ?_
      refine m_get (v := .int (((wkN (c, S) k).1) 0)) hx hb hts hin9 hown hK hP 0 (by decide) hf96 rfl rfl dX9_go_74 ?_
      refine g_reti hx hb hr hlk hP hS dX9_go_77 ?_
      have hb7 : goB w = true := b7
      exact ⟨by rw [goR, if_pos hb7, goU, if_pos hb7, ← hke], rfl, by rw [goU, if_pos hb7, ← hke]⟩
    · have hk3 := lp_lt hw0 (by omega) b16
      refine lv_aload_n hx hb dX9_go_19 rfl (lv_at hl 0 rfl) ?_
      refine m_get (v := .int (((wkN (c, S) k).1) 0)) hx hb hts hin9 hown hK hP 0 (by decide) hf96 rfl rfl dX9_go_20 ?_
      refine lv_sipush (v := 1040) hx hb dX9_go_23 (by decide) ?_
      refine lv_icmp_ge (tgt := 73) hx hb dX9_go_26 (by decide) (fun b26 => ?_) (fun b26 => ?_)
      · have hz : (1040 : Int) ≤ ((wkN (c, S) k).1 0).toInt := Int32.le_iff_toInt_le.mp b26
        rw [hnow] at hz
        have hke : k = min (tn w) (1040 - tn (c 0)) := by omega
        refine lv_aload_n hx hb dX9_go_73 rfl (lv_at hl 0 rfl) ?_
        refine m_get (v := .int (((wkN (c, S) k).1) 0)) hx hb hts hin9 hown hK hP 0 (by decide) hf96 rfl rfl dX9_go_74 ?_
        refine g_reti hx hb hr hlk hP hS dX9_go_77 ?_
        have hb7 : goB w = true := b7
        exact ⟨by rw [goR, if_pos hb7, goU, if_pos hb7, ← hke], rfl, by rw [goU, if_pos hb7, ← hke]⟩
      · have hz : ¬ (1040 : Int) ≤ ((wkN (c, S) k).1 0).toInt := fun q => b26 (Int32.le_iff_toInt_le.mpr q)
        rw [hnow] at hz
        have hvn : vp_in ((wkN (c, S) k).1 0) 1040 := vp_in_iff.mpr ⟨by omega, by omega⟩
        refine lv_iconst (v := 0) hx hb dX9_go_29 (by decide) ?_
        refine lv_istore_n (lv' := [(3, .int 0), (0, .ref o), (1, .int w), (2, .int (nI k))]) hx hb dX9_go_30 rfl hl (by decide) rfl (fun ls hl => ?_)
        refine g_loop (τ := Nat) (fun i => i ≤ 30) (fun i => 30 - i) (fun i => n) (fun i => GM E o (endN (wkN (c, S) k) i).1 (endN (wkN (c, S) k) i).2) (fun i => 0) (fun i => 0) (fun i => [(0, .ref o), (1, .int w), (2, .int (nI k)), (3, .int (nI i))]) ?_ 0 (Nat.zero_le _) H locs ls hP hS (lv_sub hl [1, 2, 3, 0] rfl)
        intro i hI31 ih2 H locs ls hP hS hl
        try dsimp only at hI31
        have hl : lv_has ls 4 [(0, .ref o), (1, .int w), (2, .int (nI k)), (3, .int (nI i))] := hl
        have hP : gP E A n (GM E o (endN (wkN (c, S) k) i).1 (endN (wkN (c, S) k) i).2) H := hP
        refine lv_iload_n hx hb dX9_go_31 rfl (lv_at hl 3 rfl) ?_
        refine lv_bipush (v := 30) hx hb dX9_go_32 (by decide) ?_
        refine lv_icmp_ge (tgt := 57) hx hb dX9_go_34 (by decide) (fun b34 => ?_) (fun b34 => ?_)
        · have hk4 := lp_ge (x := 30) (by decide) (by omega) b34
          have hk5 : tn 30 = 30 := by decide
          have hi30 : i = 30 := by omega
          subst hi30
          refine lv_aload_n hx hb dX9_go_57 rfl (lv_at hl 0 rfl) ?_
          refine lv_dup hx hb dX9_go_58 rfl ?_
          refine m_get (v := .int (((endN (wkN (c, S) k) 30).1) 0)) hx hb hts hin9 hown hK hP 0 (by decide) hf96 rfl rfl dX9_go_59 ?_
          refine lv_iconst (v := 1) hx hb dX9_go_62 (by decide) ?_
          refine lv_iadd hx hb dX9_go_63 ?_
          refine m_put hx hb hts hin9 hown hK hP hS 0 (by decide) hf96 rfl rfl (by decide +kernel) rfl dX9_go_64 (fun H locs hP hS => ?_)
          have hP : gP E A n (GM E o (va_up ((endN (wkN (c, S) k) 30).1) 0 ((((endN (wkN (c, S) k) 30).1) 0) + 1)) ((endN (wkN (c, S) k) 30).2)) H := hP
          refine lv_iinc (v := (nI k) + 1) (lv' := [(2, .int ((nI k) + 1)), (0, .ref o), (1, .int w), (3, .int (nI 30))]) hx hb dX9_go_67 hl (k := 2) rfl rfl (by decide) rfl (fun ls hl => ?_)
          refine lv_goto (tgt := 14) hx hb dX9_go_70 (by decide) ?_
          have hP : gP E A n (GM E o (wkN (c, S) (k + 1)).1 (wkN (c, S) (k + 1)).2) H := by rw [wkN_s1, wkN_s2]; exact hP
          refine ih (k + 1) (by omega) (by omega) H locs ls hP hS ?_
          show lv_has ls 4 [(0, .ref o), (1, .int w), (2, .int (nI (k + 1)))]
          rw [← nI_1]
          exact lv_sub hl [1, 2, 0] rfl
        · have hk4 := lp_lt (x := 30) (by decide) (by omega) b34
          have hk5 : tn 30 = 30 := by decide
          have hvn2 : vp_in ((endN (wkN (c, S) k) i).1 0) 1040 := by rw [endN_c _ 0 (by decide)]; exact hvn
          refine lv_aload_n hx hb dX9_go_37 rfl (lv_at hl 0 rfl) ?_
          refine lv_iload_n hx hb dX9_go_38 rfl (lv_at hl 3 rfl) ?_
          refine lv_aload_n hx hb dX9_go_39 rfl (lv_at hl 0 rfl) ?_
          refine m_get (v := .ref (o + 25)) hx hb hts hin9 hown hK hP 28 (by decide) hf82 rfl rfl dX9_go_40 ?_
          refine lv_aload_n hx hb dX9_go_43 rfl (lv_at hl 0 rfl) ?_
          refine m_get (v := .int (((endN (wkN (c, S) k) i).1) 0)) hx hb hts hin9 hown hK hP 0 (by decide) hf96 rfl rfl dX9_go_44 ?_
          refine m_iald hx hb hK hP 24 1040 rfl (by decide) rfl hvn2 dX9_go_47 ?_
          refine g_cv (g_runV (As := [.int (nI i), .int (((endN (wkN (c, S) k) i).2) 24 (tn (((endN (wkN (c, S) k) i).1) 0)))]) (rest := []) ⟨hx, hb, hml, hown, hts⟩ hK hP (kX9_ends l E A n o ((endN (wkN (c, S) k) i).1) ((endN (wkN (c, S) k) i).2) (nI i) (((endN (wkN (c, S) k) i).2) 24 (tn (((endN (wkN (c, S) k) i).1) 0))) (vp_in_nI (by omega) (by decide))) (cwV 2 hts gX9_go_X9_ends rfl rfl rfl (by decide +kernel) ⟨Nat.le_of_ble_eq_true rfl, Nat.le_of_ble_eq_true rfl⟩) GM_o rfl rfl hl.1 rfl (Nat.le_of_ble_eq_true rfl) dX9_go_48 ⟨Nat.le_of_ble_eq_true rfl, Nat.le_of_ble_eq_true rfl⟩) hS (fun n' G' H locs hw hP hS => ?_)
          obtain ⟨rfl, rfl⟩ := hw
          refine lv_iinc (v := (nI i) + 1) (lv' := [(3, .int ((nI i) + 1)), (0, .ref o), (1, .int w), (2, .int (nI k))]) hx hb dX9_go_51 hl (k := 3) rfl rfl (by decide) rfl (fun ls hl => ?_)
          refine lv_goto (tgt := 31) hx hb dX9_go_54 (by decide) ?_
          have hP : gP E A n (GM E o (endN (wkN (c, S) k) (i + 1)).1 (endN (wkN (c, S) k) (i + 1)).2) H := by rw [endN_s1, endN_s2]; exact hP
          refine ih2 (i + 1) (by omega) (by omega) H locs ls hP hS ?_
          show lv_has ls 4 [(0, .ref o), (1, .int w), (2, .int (nI k)), (3, .int (nI (i + 1)))]
          rw [← nI_1]
          exact lv_sub hl [1, 2, 3, 0] rfl
  · refine lv_iconst (v := (-1)) hx hb dX9_go_10 (by decide) ?_
    refine g_reti hx hb hr hlk hP hS dX9_go_11 ?_
    exact ⟨by rw [goR, if_neg (by rw [goB, b7]; decide)], rfl, by rw [goU, if_neg (by rw [goB, b7]; decide)]⟩
set_option maxHeartbeats 1000000 in
set_option maxRecDepth 100000 in
theorem kX9_paperWeek (l : Launch) (E : gT) (A : Nat → Prop) (n : Nat) (o : Nat) (c : Nat → Int32) (S : Nat → Nat → Int32) (v : Int32) (hI : mI c S) : gM l yX9_paperWeek wsX9_paperWeek ({ frames := 2, cells := 0, slots := 0, locals := 49 } : Room) E A n (GM E o c S) [.ref o, .int v] (gQi E A (fun r' n' G' => papOf c S v = r' ∧ n = n' ∧ (GM E o c S) = G')) 0 0 := by
  refine g_entry (by decide) rfl (Nat.le_of_ble_eq_true rfl) ?_
  intro p e s m below meth c0 hx hb hr hlk hml hown hnm hts hK H locs ls hP hS hl
  have hin9 : ∀ w ∈ u_ws RX9 TX9 35, w ∈ wsX9_paperWeek := by decide +kernel
  have hf79 := hts (.fieldLink RX9 79 "DikeHandsModel" "did" "[I") (by decide +kernel)
  have hf96 := hts (.fieldLink RX9 96 "DikeHandsModel" "now" "I") (by decide +kernel)
  have hl : lv_has ls 3 [(0, .ref o), (1, .int v)] := hl
  have j0 := hI.1
  have j7 := hI.2.1
  have j12 := hI.2.2.1
  have j18 := hI.2.2.2.1
  have t0_ := tn_of j0.1
  have t7_ := tn_of j7.1
  have t12_ := tn_of j12.1
  have t18_ := tn_of j18.1
  refine lv_iload_n hx hb dX9_paperWeek_0 rfl (lv_at hl 1 rfl) ?_
  refine g_ci (g_runS (As := [.int v]) (rest := []) ⟨hx, hb, hml, hown, hts⟩ hK hP (kX9_isVillage l E A n (GM E o c S) v) (va_cwS 1 hts gX9_paperWeek_X9_isVillage rfl rfl rfl (by decide +kernel) ⟨Nat.le_of_ble_eq_true rfl, Nat.le_of_ble_eq_true rfl⟩) rfl hl.1 rfl (Nat.le_of_ble_eq_true rfl) dX9_paperWeek_1 ⟨Nat.le_of_ble_eq_true rfl, Nat.le_of_ble_eq_true rfl⟩) hS (fun r1 n' G' H locs hw hP hS => ?_)
  obtain ⟨rfl, rfl, rfl⟩ := hw
  refine g_ifne (tgt := 9) hx hb dX9_paperWeek_4 (by decide) (fun b4 => ?_) (fun b4 => ?_)
  · refine lv_iconst (v := 0) hx hb dX9_paperWeek_9 (by decide) ?_
    refine lv_istore_n (lv' := [(2, .int 0), (0, .ref o), (1, .int v)]) hx hb dX9_paperWeek_10 rfl hl (by decide) rfl (fun ls hl => ?_)
    refine g_loop (τ := Nat) (fun w => w ≤ min 1040 (tn (c 0) + 1) ∧ papF c S v (min 1040 (tn (c 0) + 1)) 0 = papF c S v (min 1040 (tn (c 0) + 1) - w) w) (fun w => min 1040 (tn (c 0) + 1) - w) (fun w => n) (fun w => (GM E o c S)) (fun w => 0) (fun w => 0) (fun w => [(0, .ref o), (1, .int v), (2, .int (nI w))]) ?_ 0 (⟨Nat.zero_le _, rfl⟩) H locs ls hP hS (lv_sub hl [1, 2, 0] rfl)
    intro w hI11 ih H locs ls hP hS hl
    try dsimp only at hI11
    have hl : lv_has ls 3 [(0, .ref o), (1, .int v), (2, .int (nI w))] := hl
    have hP : gP E A n (GM E o c S) H := hP
    refine lv_iload_n hx hb dX9_paperWeek_11 rfl (lv_at hl 2 rfl) ?_
    refine lv_sipush (v := 1040) hx hb dX9_paperWeek_12 (by decide) ?_
    refine lv_icmp_ge (tgt := 58) hx hb dX9_paperWeek_15 (by decide) (fun b15 => ?_) (fun b15 => ?_)
    · have hk3 := lp_ge (x := 1040) (by decide) (by omega) b15
      have hk5 : tn 1040 = 1040 := by decide
      refine lv_iconst (v := (-1)) hx hb dX9_paperWeek_58 (by decide) ?_
      refine g_reti hx hb hr hlk hP hS dX9_paperWeek_59 ?_
      refine ⟨?_, rfl, rfl⟩
      rw [papOf, if_pos b4, hI11.2, show min 1040 (tn (c 0) + 1) - w = 0 by omega, papF]
    · have hk3 := lp_lt (x := 1040) (by decide) (by omega) b15
      have hk5 : tn 1040 = 1040 := by decide
      refine lv_iload_n hx hb dX9_paperWeek_18 rfl (lv_at hl 2 rfl) ?_
      refine lv_aload_n hx hb dX9_paperWeek_19 rfl (lv_at hl 0 rfl) ?_
      refine m_get (v := .int (c 0)) hx hb hts hin9 hown hK hP 0 (by decide) hf96 rfl rfl dX9_paperWeek_20 ?_
      refine lv_icmp_gt (tgt := 58) hx hb dX9_paperWeek_23 (by decide) (fun b23 => ?_) (fun b23 => ?_)
      · have hk4 := lp_gt j0.1 (by omega) b23
        refine lv_iconst (v := (-1)) hx hb dX9_paperWeek_58 (by decide) ?_
        refine g_reti hx hb hr hlk hP hS dX9_paperWeek_59 ?_
        refine ⟨?_, rfl, rfl⟩
        rw [papOf, if_pos b4, hI11.2, show min 1040 (tn (c 0) + 1) - w = 0 by omega, papF]
      · have hk4 := lp_ngt j0.1 (by omega) b23
        refine lv_aload_n hx hb dX9_paperWeek_26 rfl (lv_at hl 0 rfl) ?_
        refine m_get (v := .ref (o + 24)) hx hb hts hin9 hown hK hP 27 (by decide) hf79 rfl rfl dX9_paperWeek_27 ?_
        refine lv_sipush (v := 1040) hx hb dX9_paperWeek_30 (by decide) ?_
        refine lv_iload_n hx hb dX9_paperWeek_33 rfl (lv_at hl 1 rfl) ?_
        refine lv_imul hx hb dX9_paperWeek_34 ?_
        refine lv_iload_n hx hb dX9_paperWeek_35 rfl (lv_at hl 2 rfl) ?_
        refine lv_iadd hx hb dX9_paperWeek_36 ?_
        refine m_iald hx hb hK hP 23 8320 rfl (by decide) rfl (did_vp b4 (by omega)) dX9_paperWeek_37 ?_
        refine lv_bipush (v := 6) hx hb dX9_paperWeek_38 (by decide) ?_
        refine lv_aload_n hx hb dX9_paperWeek_40 rfl (lv_at hl 0 rfl) ?_
        refine lv_iload_n hx hb dX9_paperWeek_41 rfl (lv_at hl 1 rfl) ?_
        refine lv_iload_n hx hb dX9_paperWeek_42 rfl (lv_at hl 2 rfl) ?_
        refine g_ci (g_runV (As := [.int v, .int (nI w)]) (rest := [.int 6, .int (S 23 (tn ((1040 * v) + (nI w))))]) ⟨hx, hb, hml, hown, hts⟩ hK hP (kX9_villageHands l E A n o c S v (nI w) hI) (cwV 2 hts gX9_paperWeek_X9_villageHands rfl rfl rfl (by decide +kernel) ⟨Nat.le_of_ble_eq_true rfl, Nat.le_of_ble_eq_true rfl⟩) GM_o rfl rfl hl.1 rfl (Nat.le_of_ble_eq_true rfl) dX9_paperWeek_43 ⟨Nat.le_of_ble_eq_true rfl, Nat.le_of_ble_eq_true rfl⟩) hS (fun r43 n' G' H locs hw hP hS => ?_)
        obtain ⟨rfl, rfl, rfl⟩ := hw
        refine lv_imul hx hb dX9_paperWeek_46 ?_
        refine lv_icmp_le (tgt := 52) hx hb dX9_paperWeek_47 (by decide) (fun b47 => ?_) (fun b47 => ?_)
        · refine lv_iinc (v := (nI w) + 1) (lv' := [(2, .int ((nI w) + 1)), (0, .ref o), (1, .int v)]) hx hb dX9_paperWeek_52 hl (k := 2) rfl rfl (by decide) rfl (fun ls hl => ?_)
          refine lv_goto (tgt := 11) hx hb dX9_paperWeek_55 (by decide) ?_
          have hstep : papF c S v (min 1040 (tn (c 0) + 1) - w) w = papF c S v (min 1040 (tn (c 0) + 1) - (w + 1)) (w + 1) := by
            rw [show min 1040 (tn (c 0) + 1) - w = (min 1040 (tn (c 0) + 1) - (w + 1)) + 1 by omega, papF, if_pos b47]
          refine ih (w + 1) (⟨by omega, hI11.2.trans hstep⟩) (by omega) H locs ls hP hS ?_
          show lv_has ls 3 [(0, .ref o), (1, .int v), (2, .int (nI (w + 1)))]
          rw [← nI_1]
          exact lv_sub hl [1, 2, 0] rfl
        · refine lv_iload_n hx hb dX9_paperWeek_50 rfl (lv_at hl 2 rfl) ?_
          refine g_reti hx hb hr hlk hP hS dX9_paperWeek_51 ?_
          refine ⟨?_, rfl, rfl⟩
          rw [papOf, if_pos b4, hI11.2, show min 1040 (tn (c 0) + 1) - w = (min 1040 (tn (c 0) + 1) - (w + 1)) + 1 by omega, papF, if_neg b47]
  · refine lv_iconst (v := (-1)) hx hb dX9_paperWeek_7 (by decide) ?_
    refine g_reti hx hb hr hlk hP hS dX9_paperWeek_8 ?_
    exact ⟨by rw [papOf, if_neg (by rw [b4]; decide)], rfl, rfl⟩
set_option maxHeartbeats 1000000 in
set_option maxRecDepth 100000 in
theorem kX9_paper (l : Launch) (E : gT) (A : Nat → Prop) (n : Nat) (o : Nat) (c : Nat → Int32) (S : Nat → Nat → Int32) (v : Int32) (hI : mI c S) : gM l yX9_paper wsX9_paper ({ frames := 3, cells := 0, slots := 0, locals := 71 } : Room) E A n (GM E o c S) [.ref o, .int v] (gQi E A (fun r' n' G' => gb (!decide (papOf c S v = -1)) = r' ∧ n = n' ∧ (GM E o c S) = G')) 0 0 := by
  refine g_entry (by decide) rfl (Nat.le_of_ble_eq_true rfl) ?_
  intro p e s m below meth c0 hx hb hr hlk hml hown hnm hts hK H locs ls hP hS hl
  have hl : lv_has ls 2 [(0, .ref o), (1, .int v)] := hl
  refine lv_aload_n hx hb dX9_paper_0 rfl (lv_at hl 0 rfl) ?_
  refine lv_iload_n hx hb dX9_paper_1 rfl (lv_at hl 1 rfl) ?_
  refine g_ci (g_runV (As := [.int v]) (rest := []) ⟨hx, hb, hml, hown, hts⟩ hK hP (kX9_paperWeek l E A n o c S v hI) (cwV 1 hts gX9_paper_X9_paperWeek rfl rfl rfl (by decide +kernel) ⟨Nat.le_of_ble_eq_true rfl, Nat.le_of_ble_eq_true rfl⟩) GM_o rfl rfl hl.1 rfl (Nat.le_of_ble_eq_true rfl) dX9_paper_2 ⟨Nat.le_of_ble_eq_true rfl, Nat.le_of_ble_eq_true rfl⟩) hS (fun r2 n' G' H locs hw hP hS => ?_)
  obtain ⟨rfl, rfl, rfl⟩ := hw
  refine lv_iconst (v := (-1)) hx hb dX9_paper_5 (by decide) ?_
  refine lv_icmp_eq (tgt := 13) hx hb dX9_paper_6 (by decide) (fun b6 => ?_) (fun b6 => ?_)
  · refine lv_iconst (v := 0) hx hb dX9_paper_13 (by decide) ?_
    refine g_retz hx hb hr hlk hP hS dX9_paper_14 rfl ?_
    exact ⟨by first | (simp [gb, b6]; done) | (exfalso; simp_all; done), rfl, rfl⟩
  · refine lv_iconst (v := 1) hx hb dX9_paper_9 (by decide) ?_
    refine lv_goto (tgt := 14) hx hb dX9_paper_10 (by decide) ?_
    refine g_retz hx hb hr hlk hP hS dX9_paper_14 rfl ?_
    exact ⟨by first | (simp [gb, b6]; done) | (exfalso; simp_all; done), rfl, rfl⟩
set_option maxHeartbeats 1000000 in
set_option maxRecDepth 100000 in
theorem kX9_arrived (l : Launch) (E : gT) (A : Nat → Prop) (n : Nat) (o : Nat) (c : Nat → Int32) (S : Nat → Nat → Int32) (a b d : Int32) (hI : mI c S) : gM l yX9_arrived wsX9_arrived ({ frames := 3, cells := 0, slots := 0, locals := 64 } : Room) E A n (GM E o c S) [.ref o, .int a, .int b, .int d] (gQi E A (fun r' n' G' => arrOf c S a b d = r' ∧ n = n' ∧ (GM E o c S) = G')) 0 0 := by
  refine g_entry (by decide) rfl (Nat.le_of_ble_eq_true rfl) ?_
  intro p e s m below meth c0 hx hb hr hlk hml hown hnm hts hK H locs ls hP hS hl
  have hin9 : ∀ w ∈ u_ws RX9 TX9 35, w ∈ wsX9_arrived := by decide +kernel
  have hf9 := hts (.fieldLink RX9 9 "DikeHandsModel" "mile" "[I") (by decide +kernel)
  have hf96 := hts (.fieldLink RX9 96 "DikeHandsModel" "now" "I") (by decide +kernel)
  have hl : lv_has ls 6 [(0, .ref o), (1, .int a), (2, .int b), (3, .int d)] := hl
  have j0 := hI.1
  have j7 := hI.2.1
  have j12 := hI.2.2.1
  have j18 := hI.2.2.2.1
  have t0_ := tn_of j0.1
  have t7_ := tn_of j7.1
  have t12_ := tn_of j12.1
  have t18_ := tn_of j18.1
  refine lv_iload_n hx hb dX9_arrived_0 rfl (lv_at hl 1 rfl) ?_
  refine g_ci (g_runS (As := [.int a]) (rest := []) ⟨hx, hb, hml, hown, hts⟩ hK hP (kX9_isVillage l E A n (GM E o c S) a) (va_cwS 1 hts gX9_arrived_X9_isVillage rfl rfl rfl (by decide +kernel) ⟨Nat.le_of_ble_eq_true rfl, Nat.le_of_ble_eq_true rfl⟩) rfl hl.1 rfl (Nat.le_of_ble_eq_true rfl) dX9_arrived_1 ⟨Nat.le_of_ble_eq_true rfl, Nat.le_of_ble_eq_true rfl⟩) hS (fun r1 n' G' H locs hw hP hS => ?_)
  obtain ⟨rfl, rfl, rfl⟩ := hw
  refine g_ifeq (tgt := 24) hx hb dX9_arrived_4 (by decide) (fun b4 => ?_) (fun b4 => ?_)
  · refine lv_iconst (v := (-1)) hx hb dX9_arrived_24 (by decide) ?_
    refine g_reti hx hb hr hlk hP hS dX9_arrived_25 ?_
    exact ⟨by first | (simp [arrOf, b4]; done) | (exfalso; simp_all; done), rfl, rfl⟩
  · refine lv_iload_n hx hb dX9_arrived_7 rfl (lv_at hl 2 rfl) ?_
    refine g_ci (g_runS (As := [.int b]) (rest := []) ⟨hx, hb, hml, hown, hts⟩ hK hP (kX9_isRod l E A n (GM E o c S) b) (va_cwS 1 hts gX9_arrived_X9_isRod rfl rfl rfl (by decide +kernel) ⟨Nat.le_of_ble_eq_true rfl, Nat.le_of_ble_eq_true rfl⟩) rfl hl.1 rfl (Nat.le_of_ble_eq_true rfl) dX9_arrived_8 ⟨Nat.le_of_ble_eq_true rfl, Nat.le_of_ble_eq_true rfl⟩) hS (fun r8 n' G' H locs hw hP hS => ?_)
    obtain ⟨rfl, rfl, rfl⟩ := hw
    refine g_ifeq (tgt := 24) hx hb dX9_arrived_11 (by decide) (fun b11 => ?_) (fun b11 => ?_)
    · refine lv_iconst (v := (-1)) hx hb dX9_arrived_24 (by decide) ?_
      refine g_reti hx hb hr hlk hP hS dX9_arrived_25 ?_
      exact ⟨by first | (simp [arrOf, b4, b11]; done) | (exfalso; simp_all; done), rfl, rfl⟩
    · refine lv_iload_n hx hb dX9_arrived_14 rfl (lv_at hl 3 rfl) ?_
      refine lv_iconst (v := 0) hx hb dX9_arrived_15 (by decide) ?_
      refine lv_bipush (v := 100) hx hb dX9_arrived_16 (by decide) ?_
      refine g_ci (g_runS (As := [.int d, .int 0, .int 100]) (rest := []) ⟨hx, hb, hml, hown, hts⟩ hK hP (kX9_in l E A n (GM E o c S) d 0 100) (va_cwS 3 hts gX9_arrived_X9_in rfl rfl rfl (by decide +kernel) ⟨Nat.le_of_ble_eq_true rfl, Nat.le_of_ble_eq_true rfl⟩) rfl hl.1 rfl (Nat.le_of_ble_eq_true rfl) dX9_arrived_18 ⟨Nat.le_of_ble_eq_true rfl, Nat.le_of_ble_eq_true rfl⟩) hS (fun r18 n' G' H locs hw hP hS => ?_)
      obtain ⟨rfl, rfl, rfl⟩ := hw
      refine g_ifne (tgt := 26) hx hb dX9_arrived_21 (by decide) (fun b21 => ?_) (fun b21 => ?_)
      · refine lv_iconst (v := 0) hx hb dX9_arrived_26 (by decide) ?_
        refine lv_istore (lv' := [(4, .int 0), (0, .ref o), (1, .int a), (2, .int b), (3, .int d)]) hx hb dX9_arrived_27 hl (by decide) rfl (fun ls hl => ?_)
        refine lv_iconst (v := 0) hx hb dX9_arrived_29 (by decide) ?_
        refine lv_istore (lv' := [(5, .int 0), (4, .int 0), (0, .ref o), (1, .int a), (2, .int b), (3, .int d)]) hx hb dX9_arrived_30 hl (by decide) rfl (fun ls hl => ?_)
        refine g_loop (τ := Nat) (fun v => v ≤ 8) (fun v => 8 - v) (fun v => n) (fun v => (GM E o c S)) (fun v => 0) (fun v => 0) (fun v => [(0, .ref o), (1, .int a), (2, .int b), (3, .int d), (4, .int (arrN c S a b d v)), (5, .int (nI v))]) ?_ 0 (Nat.zero_le _) H locs ls hP hS (lv_sub hl [2, 3, 4, 5, 1, 0] rfl)
        intro v hI32 ih H locs ls hP hS hl
        try dsimp only at hI32
        have hl : lv_has ls 6 [(0, .ref o), (1, .int a), (2, .int b), (3, .int d), (4, .int (arrN c S a b d v)), (5, .int (nI v))] := hl
        have hP : gP E A n (GM E o c S) H := hP
        refine lv_iload hx hb dX9_arrived_32 (lv_at hl 5 rfl) ?_
        refine lv_bipush (v := 8) hx hb dX9_arrived_34 (by decide) ?_
        refine lv_icmp_ge (tgt := 86) hx hb dX9_arrived_36 (by decide) (fun b36 => ?_) (fun b36 => ?_)
        · have hk3 := lp_ge (x := 8) (by decide) (by omega) b36
          have hk5 : tn 8 = 8 := by decide
          have hke : v = 8 := by omega
          subst hke
          refine lv_iload hx hb dX9_arrived_86 (lv_at hl 4 rfl) ?_
          refine g_reti hx hb hr hlk hP hS dX9_arrived_88 ?_
          exact ⟨by first | (simp [arrOf, b4, b11, b21]; done) | (exfalso; simp_all; done), rfl, rfl⟩
        · have hk3 := lp_lt (x := 8) (by decide) (by omega) b36
          have hk5 : tn 8 = 8 := by decide
          refine lv_aload_n hx hb dX9_arrived_39 rfl (lv_at hl 0 rfl) ?_
          refine lv_iload_n hx hb dX9_arrived_40 rfl (lv_at hl 1 rfl) ?_
          refine lv_iload hx hb dX9_arrived_41 (lv_at hl 5 rfl) ?_
          refine g_ci (g_runV (As := [.int a, .int (nI v)]) (rest := []) ⟨hx, hb, hml, hown, hts⟩ hK hP (kX9_called l E A n o c S a (nI v) ) (cwV 2 hts gX9_arrived_X9_called rfl rfl rfl (by decide +kernel) ⟨Nat.le_of_ble_eq_true rfl, Nat.le_of_ble_eq_true rfl⟩) GM_o rfl rfl hl.1 rfl (Nat.le_of_ble_eq_true rfl) dX9_arrived_43 ⟨Nat.le_of_ble_eq_true rfl, Nat.le_of_ble_eq_true rfl⟩) hS (fun r43 n' G' H locs hw hP hS => ?_)
          obtain ⟨rfl, rfl, rfl⟩ := hw
          refine lv_aload_n hx hb dX9_arrived_46 rfl (lv_at hl 0 rfl) ?_
          refine m_get (v := .ref (o + 1)) hx hb hts hin9 hown hK hP 1 (by decide) hf9 rfl rfl dX9_arrived_47 ?_
          refine lv_iload hx hb dX9_arrived_50 (lv_at hl 5 rfl) ?_
          refine m_iald_n hx hb hK hP 0 8 rfl (by decide) rfl (by omega) dX9_arrived_52 ?_
          refine lv_iconst (v := 3) hx hb dX9_arrived_53 (by decide) ?_
          refine lv_iload_n hx hb dX9_arrived_54 rfl (lv_at hl 2 rfl) ?_
          refine lv_imul hx hb dX9_arrived_55 ?_
          refine lv_iconst (v := 3) hx hb dX9_arrived_56 (by decide) ?_
          refine g_ci (g_runS (As := [.int (S 0 v), .int (3 * b), .int 3]) (rest := [.int (calOf S a (nI v))]) ⟨hx, hb, hml, hown, hts⟩ hK hP (kX9_hours l E A n (GM E o c S) (S 0 v) (3 * b) 3 (by decide)) (va_cwS 3 hts gX9_arrived_X9_hours rfl rfl rfl (by decide +kernel) ⟨Nat.le_of_ble_eq_true rfl, Nat.le_of_ble_eq_true rfl⟩) rfl hl.1 rfl (Nat.le_of_ble_eq_true rfl) dX9_arrived_57 ⟨Nat.le_of_ble_eq_true rfl, Nat.le_of_ble_eq_true rfl⟩) hS (fun r57 n' G' H locs hw hP hS => ?_)
          obtain ⟨rfl, rfl, rfl⟩ := hw
          refine lv_iadd hx hb dX9_arrived_60 ?_
          refine lv_iload_n hx hb dX9_arrived_61 rfl (lv_at hl 3 rfl) ?_
          refine lv_icmp_gt (tgt := 80) hx hb dX9_arrived_62 (by decide) (fun b62 => ?_) (fun b62 => ?_)
          · refine lv_iinc (v := (nI v) + 1) (lv' := [(5, .int ((nI v) + 1)), (0, .ref o), (1, .int a), (2, .int b), (3, .int d), (4, .int (arrN c S a b d v))]) hx hb dX9_arrived_80 hl (k := 5) rfl rfl (by decide) rfl (fun ls hl => ?_)
            refine lv_goto (tgt := 32) hx hb dX9_arrived_83 (by decide) ?_
            refine ih (v + 1) (by omega) (by omega) H locs ls hP hS ?_
            show lv_has ls 6 [(0, .ref o), (1, .int a), (2, .int b), (3, .int d), (4, .int (arrN c S a b d (v + 1))), (5, .int (nI (v + 1)))]
            rw [show arrN c S a b d (v + 1) = arrN c S a b d v from by first | (simp [arrN, b4, b11, b21, b36, Int32.not_le.mp b36, b62, Int32.not_le.mpr b62]; done) | (exfalso; simp_all; done), ← nI_1]
            exact lv_sub hl [1, 2, 3, 4, 5, 0] rfl
          · refine lv_iload hx hb dX9_arrived_65 (lv_at hl 4 rfl) ?_
            refine lv_aload_n hx hb dX9_arrived_67 rfl (lv_at hl 0 rfl) ?_
            refine lv_iload hx hb dX9_arrived_68 (lv_at hl 5 rfl) ?_
            refine lv_aload_n hx hb dX9_arrived_70 rfl (lv_at hl 0 rfl) ?_
            refine m_get (v := .int (c 0)) hx hb hts hin9 hown hK hP 0 (by decide) hf96 rfl rfl dX9_arrived_71 ?_
            refine g_ci (g_runV (As := [.int (nI v), .int (c 0)]) (rest := [.int (arrN c S a b d v)]) ⟨hx, hb, hml, hown, hts⟩ hK hP (kX9_villageHands l E A n o c S (nI v) (c 0) hI) (cwV 2 hts gX9_arrived_X9_villageHands rfl rfl rfl (by decide +kernel) ⟨Nat.le_of_ble_eq_true rfl, Nat.le_of_ble_eq_true rfl⟩) GM_o rfl rfl hl.1 rfl (Nat.le_of_ble_eq_true rfl) dX9_arrived_74 ⟨Nat.le_of_ble_eq_true rfl, Nat.le_of_ble_eq_true rfl⟩) hS (fun r74 n' G' H locs hw hP hS => ?_)
            obtain ⟨rfl, rfl, rfl⟩ := hw
            refine lv_iadd hx hb dX9_arrived_77 ?_
            refine lv_istore (lv' := [(4, .int ((arrN c S a b d v) + (vilOf c S (nI v) (c 0)))), (0, .ref o), (1, .int a), (2, .int b), (3, .int d), (5, .int (nI v))]) hx hb dX9_arrived_78 hl (by decide) rfl (fun ls hl => ?_)
            refine lv_iinc (v := (nI v) + 1) (lv' := [(5, .int ((nI v) + 1)), (4, .int ((arrN c S a b d v) + (vilOf c S (nI v) (c 0)))), (0, .ref o), (1, .int a), (2, .int b), (3, .int d)]) hx hb dX9_arrived_80 hl (k := 5) rfl rfl (by decide) rfl (fun ls hl => ?_)
            refine lv_goto (tgt := 32) hx hb dX9_arrived_83 (by decide) ?_
            refine ih (v + 1) (by omega) (by omega) H locs ls hP hS ?_
            show lv_has ls 6 [(0, .ref o), (1, .int a), (2, .int b), (3, .int d), (4, .int (arrN c S a b d (v + 1))), (5, .int (nI (v + 1)))]
            rw [show arrN c S a b d (v + 1) = (arrN c S a b d v) + (vilOf c S (nI v) (c 0)) from by first | (simp [arrN, b4, b11, b21, b36, Int32.not_le.mp b36, b62, Int32.not_lt.mp b62]; done) | (exfalso; simp_all; done), ← nI_1]
            exact lv_sub hl [2, 3, 4, 5, 1, 0] rfl
      · refine lv_iconst (v := (-1)) hx hb dX9_arrived_24 (by decide) ?_
        refine g_reti hx hb hr hlk hP hS dX9_arrived_25 ?_
        exact ⟨by first | (simp [arrOf, b4, b11, b21]; done) | (exfalso; simp_all; done), rfl, rfl⟩
end
section
def mH (S : Nat → Nat → Int32) : Prop := ∀ r, r < 30 → 0 ≤ (S 1 r).toInt ∧ (S 1 r).toInt ≤ 3000
theorem perOf_rng (S : Nat → Nat → Int32) (r : Int32) : (perOf S r).toInt = 30 ∨ (perOf S r).toInt = 20 ∨ (perOf S r).toInt = 10 := by
  unfold perOf
  by_cases h1 : S 2 (tn r) = 0
  · simp only [h1]; left; rfl
  · by_cases h2 : S 2 (tn r) = 1
    · simp only [h2]; right; left; rfl
    · simp only [h1, h2, if_false]; right; right; rfl
theorem needOf_rng {S : Nat → Nat → Int32} {d : Int32} {r : Nat} (hH : mH S) (hd : inB d 0 3000 = true) (hr : r < 30) : 0 ≤ (needOf S (nI r) d).toInt ∧ (needOf S (nI r) d).toInt ≤ 300 := by
  have h1 := hH r hr
  have h2 := inB_i hd
  have e0 : (0 : Int32).toInt = 0 := rfl
  have e1 : (1 : Int32).toInt = 1 := rfl
  have e2 : (3000 : Int32).toInt = 3000 := rfl
  have h3 : (d - S 1 (tn (nI r))).toInt = d.toInt - (S 1 r).toInt := by rw [tn_nI (by omega), fb_subI] <;> omega
  have hp := perOf_rng S (nI r)
  unfold needOf
  split
  · decide
  · rename_i hc
    have hc2 : ¬ (d - S 1 (tn (nI r))).toInt ≤ 0 := fun q => hc (Int32.le_iff_toInt_le.mpr q)
    have h4 : (d - S 1 (tn (nI r)) + perOf S (nI r)).toInt = (d - S 1 (tn (nI r))).toInt + (perOf S (nI r)).toInt := by rw [fb_addI] <;> omega
    have h5 : (d - S 1 (tn (nI r)) + perOf S (nI r) - 1).toInt = (d - S 1 (tn (nI r))).toInt + (perOf S (nI r)).toInt - 1 := by rw [fb_subI] <;> omega
    rw [divI (by omega) (by omega), h5, h3]
    rcases hp with q | q | q <;> rw [q] <;> omega
theorem idx301 (k w : Nat) : nI (301 * (k + 1) + w) - 300 - 1 = nI (301 * k + w) := by
  show nI (301 * (k + 1) + w) - nI 300 - nI 1 = _
  have e1 : nI (301 * (k + 1) + w) - nI 300 = nI (301 * (k + 1) + w - 300) := pk_sub (by omega)
  have e2 : nI (301 * (k + 1) + w - 300) - nI 1 = nI (301 * (k + 1) + w - 300 - 1) := pk_sub (by omega)
  rw [e1, e2, show 301 * (k + 1) + w - 300 - 1 = 301 * k + w by omega]
theorem at301 (k w : Nat) : (301 : Int32) * nI k + nI w = nI (301 * k + w) := by
  rw [show (301 : Int32) = nI 301 from rfl, pk_mul, nI_add]
theorem idxsub {x : Int32} {b w : Nat} (h0 : 0 ≤ x.toInt) (hw : tn x ≤ w) : nI (b + w) - x = nI (b + (w - tn x)) := by
  have h1 : nI (b + w) - x = nI (b + w) - nI (tn x) := by rw [nI_tn h0]
  rw [h1, pk_sub (by omega), show b + w - tn x = b + (w - tn x) by omega]
theorem idxsub0 {x : Int32} {w : Nat} (h0 : 0 ≤ x.toInt) (hw : tn x ≤ w) : nI w - x = nI (w - tn x) := by
  have h1 : nI w - x = nI w - nI (tn x) := by rw [nI_tn h0]
  rw [h1, pk_sub (by omega)]
theorem lp_le {x : Int32} {k : Nat} (h0 : 0 ≤ x.toInt) (hk : k < 2 ^ 31) (h : x ≤ nI k) : tn x ≤ k := lp_ge h0 hk h
theorem plM_eq1 {S : Nat → Nat → Int32} {d : Int32} {k w : Nat} (h : needOf S (nI k) d = 0 ∨ nI w < needOf S (nI k) d) : plM S d (k + 1) w = plM S d k w := by rw [plM, if_pos h]
theorem plM_eq2 {S : Nat → Nat → Int32} {d : Int32} {k w : Nat} (h : ¬ (needOf S (nI k) d = 0 ∨ nI w < needOf S (nI k) d)) (h2 : plM S d k (w - tn (needOf S (nI k) d)) + S 3 k ≤ plM S d k w) : plM S d (k + 1) w = plM S d k w := by rw [plM, if_neg h, if_pos h2]
theorem plM_eq3 {S : Nat → Nat → Int32} {d : Int32} {k w : Nat} (h : ¬ (needOf S (nI k) d = 0 ∨ nI w < needOf S (nI k) d)) (h2 : ¬ plM S d k (w - tn (needOf S (nI k) d)) + S 3 k ≤ plM S d k w) : plM S d (k + 1) w = plM S d k (w - tn (needOf S (nI k) d)) + S 3 k := by rw [plM, if_neg h, if_neg h2]
theorem plM_ne {S : Nat → Nat → Int32} {d : Int32} {k w : Nat} (h : ¬ plM S d (k + 1) w = plM S d k w) : ¬ nI w < needOf S (nI k) d := fun q => h (plM_eq1 (Or.inr q))

set_option maxHeartbeats 1000000 in
set_option maxRecDepth 100000 in
theorem kX9_plans (l : Launch) (E : gT) (A : Nat → Prop) (n : Nat) (o : Nat) (c : Nat → Int32) (S : Nat → Nat → Int32) (d : Int32) (hH : mH S) (hd : inB d 0 3000 = true) : gM l yX9_plans wsX9_plans ({ frames := 2, cells := 0, slots := 0, locals := 44 } : Room) E A n (GM E o c S) [.ref o, .int d] (gQv E A (fun n' G' => n = n' ∧ (GM E o c (va_up S 25 (plF S d 9331))) = G')) 0 0 := by
  refine g_entry (by decide) rfl (Nat.le_of_ble_eq_true rfl) ?_
  intro p e s m below meth c0 hx hb hr hlk hml hown hnm hts hK H locs ls hP hS hl
  have hin9 : ∀ wq ∈ u_ws RX9 TX9 35, wq ∈ wsX9_plans := by decide +kernel
  have hf19 := hts (.fieldLink RX9 19 "DikeHandsModel" "loss" "[I") (by decide +kernel)
  have hf85 := hts (.fieldLink RX9 85 "DikeHandsModel" "most" "[I") (by decide +kernel)
  have hl : lv_has ls 7 [(0, .ref o), (1, .int d)] := hl
  have hP : gP E A n (GM E o c (va_up S 25 (plF S d 0))) H := by rw [plF_0, va_up_id]; exact hP
  refine lv_iconst (v := 0) hx hb dX9_plans_0 (by decide) ?_
  refine lv_istore_n (lv' := [(2, .int 0), (0, .ref o), (1, .int d)]) hx hb dX9_plans_1 rfl hl (by decide) rfl (fun ls hl => ?_)
  refine g_loop (τ := Nat) (fun kq => kq ≤ 31) (fun kq => 31 - kq) (fun kq => n) (fun kq => GM E o c (va_up S 25 (plF S d (301 * kq)))) (fun kq => 0) (fun kq => 0) (fun kq => [(0, .ref o), (1, .int d), (2, .int (nI kq))]) ?_ 0 (Nat.zero_le _) H locs ls hP hS (lv_sub hl [1, 2, 0] rfl)
  intro kq hI2 ih H locs ls hP hS hl
  try dsimp only at hI2
  have hl : lv_has ls 7 [(0, .ref o), (1, .int d), (2, .int (nI kq))] := hl
  have hP : gP E A n (GM E o c (va_up S 25 (plF S d (301 * kq)))) H := hP
  refine lv_iload_n hx hb dX9_plans_2 rfl (lv_at hl 2 rfl) ?_
  refine lv_bipush (v := 30) hx hb dX9_plans_3 (by decide) ?_
  refine lv_icmp_gt (tgt := 146) hx hb dX9_plans_5 (by decide) (fun b5 => ?_) (fun b5 => ?_)
  · have hk3 := lp_gt (x := 30) (by decide) (by omega) b5
    have hk5 : tn 30 = 30 := by decide
    have hk7 : kq = 31 := by omega
    refine g_retv hx hb hr hlk hP hS dX9_plans_146 ?_
    exact ⟨rfl, by rw [show (9331 : Nat) = 301 * kq by omega]⟩
  · have hk3 := lp_ngt (x := 30) (by decide) (by omega) b5
    have hk5 : tn 30 = 30 := by decide
    refine lv_iconst (v := 0) hx hb dX9_plans_8 (by decide) ?_
    refine lv_istore_n (lv' := [(3, .int 0), (0, .ref o), (1, .int d), (2, .int (nI kq))]) hx hb dX9_plans_9 rfl hl (by decide) rfl (fun ls hl => ?_)
    refine g_loop (τ := Nat) (fun wq => wq ≤ 301) (fun wq => 301 - wq) (fun wq => n) (fun wq => GM E o c (va_up S 25 (plF S d (301 * kq + wq)))) (fun wq => 0) (fun wq => 0) (fun wq => [(0, .ref o), (1, .int d), (2, .int (nI kq)), (3, .int (nI wq))]) ?_ 0 (Nat.zero_le _) H locs ls hP hS (lv_sub hl [1, 2, 3, 0] rfl)
    intro wq hI10 ih2 H locs ls hP hS hl
    try dsimp only at hI10
    have hl : lv_has ls 7 [(0, .ref o), (1, .int d), (2, .int (nI kq)), (3, .int (nI wq))] := hl
    have hP : gP E A n (GM E o c (va_up S 25 (plF S d (301 * kq + wq)))) H := hP
    refine lv_iload_n hx hb dX9_plans_10 rfl (lv_at hl 3 rfl) ?_
    refine lv_sipush (v := 300) hx hb dX9_plans_11 (by decide) ?_
    refine lv_icmp_gt (tgt := 140) hx hb dX9_plans_14 (by decide) (fun b14 => ?_) (fun b14 => ?_)
    · have hk4 := lp_gt (x := 300) (by decide) (by omega) b14
      have hk6 : tn 300 = 300 := by decide
      have hw3 : wq = 301 := by omega
      refine lv_iinc (v := (nI kq) + 1) (lv' := [(2, .int ((nI kq) + 1)), (0, .ref o), (1, .int d), (3, .int (nI wq))]) hx hb dX9_plans_140 hl (k := 2) rfl rfl (by decide) rfl (fun ls hl => ?_)
      refine lv_goto (tgt := 2) hx hb dX9_plans_143 (by decide) ?_
      have hP : gP E A n (GM E o c (va_up S 25 (plF S d (301 * (kq + 1))))) H := by rw [show 301 * (kq + 1) = 301 * kq + wq by omega]; exact hP
      refine ih (kq + 1) (by omega) (by omega) H locs ls hP hS ?_
      show lv_has ls 7 [(0, .ref o), (1, .int d), (2, .int (nI (kq + 1)))]
      rw [← nI_1]
      exact lv_sub hl [1, 2, 0] rfl
    · have hk4 := lp_ngt (x := 300) (by decide) (by omega) b14
      have hk6 : tn 300 = 300 := by decide
      refine lv_sipush (v := 301) hx hb dX9_plans_17 (by decide) ?_
      refine lv_iload_n hx hb dX9_plans_20 rfl (lv_at hl 2 rfl) ?_
      refine lv_imul hx hb dX9_plans_21 ?_
      refine lv_iload_n hx hb dX9_plans_22 rfl (lv_at hl 3 rfl) ?_
      refine lv_iadd hx hb dX9_plans_23 ?_
      rw [at301]
      refine lv_istore (lv' := [(4, .int (nI (301 * kq + wq))), (0, .ref o), (1, .int d), (2, .int (nI kq)), (3, .int (nI wq))]) hx hb dX9_plans_24 hl (by decide) rfl (fun ls hl => ?_)
      refine lv_aload_n hx hb dX9_plans_26 rfl (lv_at hl 1 rfl) ?_
      refine m_get (v := .ref (o + 26)) hx hb hts hin9 hown hK hP 34 (by decide) hf85 rfl rfl dX9_plans_27 ?_
      refine lv_iload hx hb dX9_plans_30 (lv_at hl 0 rfl) ?_
      refine lv_iload_n hx hb dX9_plans_32 rfl (lv_at hl 3 rfl) ?_
      refine lv_if_ne (tgt := 40) hx hb dX9_plans_33 (by decide) (fun b33 => ?_) (fun b33 => ?_)
      · have hk0 : kq ≠ 0 := fun q => b33 (by rw [q]; rfl)
        obtain ⟨k2, rfl⟩ : ∃ j, kq = j + 1 := ⟨kq - 1, by omega⟩
        refine lv_aload_n hx hb dX9_plans_40 rfl (lv_at hl 1 rfl) ?_
        refine m_get (v := .ref (o + 26)) hx hb hts hin9 hown hK hP 34 (by decide) hf85 rfl rfl dX9_plans_41 ?_
        refine lv_iload hx hb dX9_plans_44 (lv_at hl 0 rfl) ?_
        refine lv_sipush (v := 300) hx hb dX9_plans_46 (by decide) ?_
        refine lv_isub hx hb dX9_plans_49 ?_
        refine lv_iconst (v := 1) hx hb dX9_plans_50 (by decide) ?_
        refine lv_isub hx hb dX9_plans_51 ?_
        rw [idx301]
        refine m_iald_n hx hb hK hP 25 9331 rfl (by decide) rfl (by omega) dX9_plans_52 ?_
        refine W.eq (g2 := F0 m 53 ls [.int ((plF S d (301 * (k2 + 1) + wq)) (301 * k2 + wq)), .int (nI (301 * (k2 + 1) + wq)), .ref (o + 26)]) rfl ?_
        rw [plF_in S d (by omega) (by omega)]
        refine m_iast_n hx hb hK hP hS 25 9331 rfl (by decide) rfl (by omega) dX9_plans_53 (fun H locs hP hS => ?_)
        have hP : gP E A n (GM E o c (va_up (va_up S 25 (plF S d (301 * (k2 + 1) + wq))) 25 (upd (plF S d (301 * (k2 + 1) + wq)) (301 * (k2 + 1) + wq) (plM S d k2 wq)))) H := hP
        refine lv_iload_n hx hb dX9_plans_54 rfl (lv_at hl 3 rfl) ?_
        refine lv_if_ne (tgt := 62) hx hb dX9_plans_55 (by decide) (fun _ => ?_) (fun b55 => absurd b55 b33)
        refine lv_aload_n hx hb dX9_plans_62 rfl (lv_at hl 1 rfl) ?_
        refine lv_iload_n hx hb dX9_plans_63 rfl (lv_at hl 3 rfl) ?_
        refine lv_iconst (v := 1) hx hb dX9_plans_64 (by decide) ?_
        refine lv_isub hx hb dX9_plans_65 ?_
        refine lv_iload_n hx hb dX9_plans_66 rfl (lv_at hl 2 rfl) ?_
        rw [nI_pred]
        refine g_ci (g_runV (As := [.int (nI k2), .int d]) (rest := []) ⟨hx, hb, hml, hown, hts⟩ hK hP (kX9_needs l E A n o c (va_up (va_up S 25 (plF S d (301 * (k2 + 1) + wq))) 25 (upd (plF S d (301 * (k2 + 1) + wq)) (301 * (k2 + 1) + wq) (plM S d k2 wq))) (nI k2) d (vp_in_nI (by omega) (by decide))) (cwV 2 hts gX9_plans_X9_needs rfl rfl rfl (by decide +kernel) ⟨Nat.le_of_ble_eq_true rfl, Nat.le_of_ble_eq_true rfl⟩) GM_o rfl rfl hl.1 rfl (Nat.le_of_ble_eq_true rfl) dX9_plans_67 ⟨Nat.le_of_ble_eq_true rfl, Nat.le_of_ble_eq_true rfl⟩) hS (fun r67 n' G' H locs hw hP hS => ?_)
        obtain ⟨rfl, rfl, rfl⟩ := hw
        rw [show needOf (va_up (va_up S 25 (plF S d (301 * (k2 + 1) + wq))) 25 (upd (plF S d (301 * (k2 + 1) + wq)) (301 * (k2 + 1) + wq) (plM S d k2 wq))) (nI k2) d = needOf S (nI k2) d from rfl]
        refine lv_topi (fun nd e_nd => ?_)
        refine lv_istore (lv' := [(5, .int nd), (4, .int (nI (301 * (k2 + 1) + wq))), (0, .ref o), (1, .int d), (2, .int (nI (k2 + 1))), (3, .int (nI wq))]) hx hb dX9_plans_70 hl (by decide) rfl (fun ls hl => ?_)
        refine lv_iload hx hb dX9_plans_72 (lv_at hl 0 rfl) ?_
        refine lv_if_eq (tgt := 134) hx hb dX9_plans_74 (by decide) (fun b74 => ?_) (fun b74 => ?_)
        · refine lv_iinc (v := (nI wq) + 1) (lv' := [(3, .int ((nI wq) + 1)), (5, .int nd), (4, .int (nI (301 * (k2 + 1) + wq))), (0, .ref o), (1, .int d), (2, .int (nI (k2 + 1)))]) hx hb dX9_plans_134 hl (k := 5) rfl rfl (by decide) rfl (fun ls hl => ?_)
          refine lv_goto (tgt := 10) hx hb dX9_plans_137 (by decide) ?_
          try rw [bx_uu] at hP
          try rw [bx_uu] at hP
          try rw [fa_upd_twice] at hP
          have hval : plM S d k2 wq = plM S d (k2 + 1) wq := (plM_eq1 (Or.inl (e_nd.symm.trans b74))).symm
          rw [hval, plF_s S d (by omega)] at hP
          have hP : gP E A n (GM E o c (va_up S 25 (plF S d (301 * (k2 + 1) + (wq + 1))))) H := hP
          refine ih2 (wq + 1) (by omega) (by omega) H locs ls hP hS ?_
          show lv_has ls 7 [(0, .ref o), (1, .int d), (2, .int (nI (k2 + 1))), (3, .int (nI (wq + 1)))]
          rw [← nI_1 wq]
          exact lv_sub hl [3, 4, 5, 0] rfl
        · refine lv_iload hx hb dX9_plans_77 (lv_at hl 0 rfl) ?_
          refine lv_iload_n hx hb dX9_plans_79 rfl (lv_at hl 5 rfl) ?_
          refine lv_icmp_le (tgt := 86) hx hb dX9_plans_80 (by decide) (fun b80 => ?_) (fun b80 => ?_)
          · have hnd0 : 0 ≤ nd.toInt := by rw [e_nd]; exact (needOf_rng hH hd (by omega)).1
            have hndw : tn nd ≤ wq := lp_ge hnd0 (by omega) b80
            refine lv_aload_n hx hb dX9_plans_86 rfl (lv_at hl 2 rfl) ?_
            refine m_get (v := .ref (o + 26)) hx hb hts hin9 hown hK hP 34 (by decide) hf85 rfl rfl dX9_plans_87 ?_
            refine lv_iload hx hb dX9_plans_90 (lv_at hl 1 rfl) ?_
            refine lv_sipush (v := 300) hx hb dX9_plans_92 (by decide) ?_
            refine lv_isub hx hb dX9_plans_95 ?_
            refine lv_iconst (v := 1) hx hb dX9_plans_96 (by decide) ?_
            refine lv_isub hx hb dX9_plans_97 ?_
            rw [idx301]
            refine lv_iload hx hb dX9_plans_98 (lv_at hl 0 rfl) ?_
            refine lv_isub hx hb dX9_plans_100 ?_
            rw [idxsub hnd0 hndw]
            refine m_iald_n hx hb hK hP 25 9331 rfl (by decide) rfl (by omega) dX9_plans_101 ?_
            refine W.eq (g2 := F0 m 102 ls [.int ((upd (plF S d (301 * (k2 + 1) + wq)) (301 * (k2 + 1) + wq) (plM S d k2 wq)) (301 * k2 + (wq - tn nd)))]) rfl ?_
            rw [pk_un (by omega), plF_in S d (by omega) (by omega)]
            refine lv_aload_n hx hb dX9_plans_102 rfl (lv_at hl 2 rfl) ?_
            refine m_get (v := .ref (o + 4)) hx hb hts hin9 hown hK hP 4 (by decide) hf19 rfl rfl dX9_plans_103 ?_
            refine lv_iload_n hx hb dX9_plans_106 rfl (lv_at hl 4 rfl) ?_
            refine lv_iconst (v := 1) hx hb dX9_plans_107 (by decide) ?_
            refine lv_isub hx hb dX9_plans_108 ?_
            rw [nI_pred]
            refine m_iald_n hx hb hK hP 3 30 rfl (by decide) rfl (by omega) dX9_plans_109 ?_
            refine lv_iadd hx hb dX9_plans_110 ?_
            refine lv_istore (lv' := [(6, .int ((plM S d k2 (wq - tn nd)) + (S 3 k2))), (5, .int nd), (4, .int (nI (301 * (k2 + 1) + wq))), (0, .ref o), (1, .int d), (2, .int (nI (k2 + 1))), (3, .int (nI wq))]) hx hb dX9_plans_111 hl (by decide) rfl (fun ls hl => ?_)
            refine lv_iload hx hb dX9_plans_113 (lv_at hl 0 rfl) ?_
            refine lv_aload_n hx hb dX9_plans_115 rfl (lv_at hl 3 rfl) ?_
            refine m_get (v := .ref (o + 26)) hx hb hts hin9 hown hK hP 34 (by decide) hf85 rfl rfl dX9_plans_116 ?_
            refine lv_iload hx hb dX9_plans_119 (lv_at hl 2 rfl) ?_
            refine m_iald_n hx hb hK hP 25 9331 rfl (by decide) rfl (by omega) dX9_plans_121 ?_
            refine W.eq (g2 := F0 m 122 ls [.int (plM S d k2 wq), .int ((plM S d k2 (wq - tn nd)) + (S 3 k2))]) (by rw [show (va_up (va_up S 25 (plF S d (301 * (k2 + 1) + wq))) 25 (upd (plF S d (301 * (k2 + 1) + wq)) (301 * (k2 + 1) + wq) (plM S d k2 wq))) 25 (301 * (k2 + 1) + wq) = (plM S d k2 wq) from pk_us]) ?_
            refine lv_icmp_le (tgt := 134) hx hb dX9_plans_122 (by decide) (fun b122 => ?_) (fun b122 => ?_)
            · refine lv_iinc (v := (nI wq) + 1) (lv' := [(3, .int ((nI wq) + 1)), (6, .int ((plM S d k2 (wq - tn nd)) + (S 3 k2))), (5, .int nd), (4, .int (nI (301 * (k2 + 1) + wq))), (0, .ref o), (1, .int d), (2, .int (nI (k2 + 1)))]) hx hb dX9_plans_134 hl (k := 6) rfl rfl (by decide) rfl (fun ls hl => ?_)
              refine lv_goto (tgt := 10) hx hb dX9_plans_137 (by decide) ?_
              try rw [bx_uu] at hP
              try rw [bx_uu] at hP
              try rw [fa_upd_twice] at hP
              have hval : plM S d k2 wq = plM S d (k2 + 1) wq := (plM_eq2 (by rw [← e_nd]; exact fun q => q.elim b74 (fun q => absurd b80 (Int32.not_le.mpr q))) (by rw [← e_nd]; exact b122)).symm
              rw [hval, plF_s S d (by omega)] at hP
              have hP : gP E A n (GM E o c (va_up S 25 (plF S d (301 * (k2 + 1) + (wq + 1))))) H := hP
              refine ih2 (wq + 1) (by omega) (by omega) H locs ls hP hS ?_
              show lv_has ls 7 [(0, .ref o), (1, .int d), (2, .int (nI (k2 + 1))), (3, .int (nI (wq + 1)))]
              rw [← nI_1 wq]
              exact lv_sub hl [4, 5, 6, 0] rfl
            · refine lv_aload_n hx hb dX9_plans_125 rfl (lv_at hl 3 rfl) ?_
              refine m_get (v := .ref (o + 26)) hx hb hts hin9 hown hK hP 34 (by decide) hf85 rfl rfl dX9_plans_126 ?_
              refine lv_iload hx hb dX9_plans_129 (lv_at hl 2 rfl) ?_
              refine lv_iload hx hb dX9_plans_131 (lv_at hl 0 rfl) ?_
              refine m_iast_n hx hb hK hP hS 25 9331 rfl (by decide) rfl (by omega) dX9_plans_133 (fun H locs hP hS => ?_)
              have hP : gP E A n (GM E o c (va_up (va_up (va_up S 25 (plF S d (301 * (k2 + 1) + wq))) 25 (upd (plF S d (301 * (k2 + 1) + wq)) (301 * (k2 + 1) + wq) (plM S d k2 wq))) 25 (upd (upd (plF S d (301 * (k2 + 1) + wq)) (301 * (k2 + 1) + wq) (plM S d k2 wq)) (301 * (k2 + 1) + wq) ((plM S d k2 (wq - tn nd)) + (S 3 k2))))) H := hP
              refine lv_iinc (v := (nI wq) + 1) (lv' := [(3, .int ((nI wq) + 1)), (6, .int ((plM S d k2 (wq - tn nd)) + (S 3 k2))), (5, .int nd), (4, .int (nI (301 * (k2 + 1) + wq))), (0, .ref o), (1, .int d), (2, .int (nI (k2 + 1)))]) hx hb dX9_plans_134 hl (k := 6) rfl rfl (by decide) rfl (fun ls hl => ?_)
              refine lv_goto (tgt := 10) hx hb dX9_plans_137 (by decide) ?_
              try rw [bx_uu] at hP
              try rw [bx_uu] at hP
              try rw [fa_upd_twice] at hP
              have hval : plM S d k2 (wq - tn nd) + S 3 k2 = plM S d (k2 + 1) wq := by rw [e_nd]; exact (plM_eq3 (by rw [← e_nd]; exact fun q => q.elim b74 (fun q => absurd b80 (Int32.not_le.mpr q))) (by rw [← e_nd]; exact b122)).symm
              rw [hval, plF_s S d (by omega)] at hP
              have hP : gP E A n (GM E o c (va_up S 25 (plF S d (301 * (k2 + 1) + (wq + 1))))) H := hP
              refine ih2 (wq + 1) (by omega) (by omega) H locs ls hP hS ?_
              show lv_has ls 7 [(0, .ref o), (1, .int d), (2, .int (nI (k2 + 1))), (3, .int (nI (wq + 1)))]
              rw [← nI_1 wq]
              exact lv_sub hl [4, 5, 6, 0] rfl
          · refine lv_goto (tgt := 134) hx hb dX9_plans_83 (by decide) ?_
            refine lv_iinc (v := (nI wq) + 1) (lv' := [(3, .int ((nI wq) + 1)), (5, .int nd), (4, .int (nI (301 * (k2 + 1) + wq))), (0, .ref o), (1, .int d), (2, .int (nI (k2 + 1)))]) hx hb dX9_plans_134 hl (k := 5) rfl rfl (by decide) rfl (fun ls hl => ?_)
            refine lv_goto (tgt := 10) hx hb dX9_plans_137 (by decide) ?_
            try rw [bx_uu] at hP
            try rw [bx_uu] at hP
            try rw [fa_upd_twice] at hP
            have hval : plM S d k2 wq = plM S d (k2 + 1) wq := (plM_eq1 (Or.inr (by rw [← e_nd]; exact Int32.not_le.mp b80))).symm
            rw [hval, plF_s S d (by omega)] at hP
            have hP : gP E A n (GM E o c (va_up S 25 (plF S d (301 * (k2 + 1) + (wq + 1))))) H := hP
            refine ih2 (wq + 1) (by omega) (by omega) H locs ls hP hS ?_
            show lv_has ls 7 [(0, .ref o), (1, .int d), (2, .int (nI (k2 + 1))), (3, .int (nI (wq + 1)))]
            rw [← nI_1 wq]
            exact lv_sub hl [3, 4, 5, 0] rfl
      · obtain rfl : kq = 0 := (nI_eq (by omega) (by decide)).mp (b33.trans nI_0.symm)
        refine lv_iconst (v := 0) hx hb dX9_plans_36 (by decide) ?_
        refine lv_goto (tgt := 53) hx hb dX9_plans_37 (by decide) ?_
        refine m_iast_n hx hb hK hP hS 25 9331 rfl (by decide) rfl (by omega) dX9_plans_53 (fun H locs hP hS => ?_)
        have hP : gP E A n (GM E o c (va_up (va_up S 25 (plF S d (301 * 0 + wq))) 25 (upd (plF S d (301 * 0 + wq)) (301 * 0 + wq) 0))) H := hP
        refine lv_iload_n hx hb dX9_plans_54 rfl (lv_at hl 3 rfl) ?_
        refine lv_if_ne (tgt := 62) hx hb dX9_plans_55 (by decide) (fun b55 => absurd b33 b55) (fun _ => ?_)
        refine lv_iconst (v := 0) hx hb dX9_plans_58 (by decide) ?_
        refine lv_goto (tgt := 70) hx hb dX9_plans_59 (by decide) ?_
        refine lv_istore (lv' := [(5, .int 0), (4, .int (nI (301 * 0 + wq))), (0, .ref o), (1, .int d), (2, .int (nI 0)), (3, .int (nI wq))]) hx hb dX9_plans_70 hl (by decide) rfl (fun ls hl => ?_)
        refine lv_iload hx hb dX9_plans_72 (lv_at hl 0 rfl) ?_
        refine lv_if_eq (tgt := 134) hx hb dX9_plans_74 (by decide) (fun _ => ?_) (fun b74 => absurd rfl b74)
        refine lv_iinc (v := (nI wq) + 1) (lv' := [(3, .int ((nI wq) + 1)), (5, .int 0), (4, .int (nI (301 * 0 + wq))), (0, .ref o), (1, .int d), (2, .int (nI 0))]) hx hb dX9_plans_134 hl (k := 5) rfl rfl (by decide) rfl (fun ls hl => ?_)
        refine lv_goto (tgt := 10) hx hb dX9_plans_137 (by decide) ?_
        try rw [bx_uu] at hP
        try rw [bx_uu] at hP
        try rw [fa_upd_twice] at hP
        have hval : (0 : Int32) = plM S d 0 wq := rfl
        rw [hval, plF_s S d (by omega)] at hP
        have hP : gP E A n (GM E o c (va_up S 25 (plF S d (301 * 0 + (wq + 1))))) H := hP
        refine ih2 (wq + 1) (by omega) (by omega) H locs ls hP hS ?_
        show lv_has ls 7 [(0, .ref o), (1, .int d), (2, .int (nI 0)), (3, .int (nI (wq + 1)))]
        rw [← nI_1 wq]
        exact lv_sub hl [3, 4, 5, 0] rfl
set_option maxHeartbeats 1000000 in
set_option maxRecDepth 100000 in
theorem kX9_saved (l : Launch) (E : gT) (A : Nat → Prop) (n : Nat) (o : Nat) (c : Nat → Int32) (S : Nat → Nat → Int32) (a b : Int32) (hH : mH S) : gM l yX9_saved wsX9_saved ({ frames := 3, cells := 0, slots := 0, locals := 70 } : Room) E A n (GM E o c S) [.ref o, .int a, .int b] (gQi E A (fun r' n' G' => savR S a b = r' ∧ n = n' ∧ (GM E o c (savS S a b)) = G')) 0 0 := by
  refine g_entry (by decide) rfl (Nat.le_of_ble_eq_true rfl) ?_
  intro p e s m below meth c0 hx hb hr hlk hml hown hnm hts hK H locs ls hP hS hl
  have hin9 : ∀ wq ∈ u_ws RX9 TX9 35, wq ∈ wsX9_saved := by decide +kernel
  have hf85 := hts (.fieldLink RX9 85 "DikeHandsModel" "most" "[I") (by decide +kernel)
  have hl : lv_has ls 3 [(0, .ref o), (1, .int a), (2, .int b)] := hl
  refine lv_iload_n hx hb dX9_saved_0 rfl (lv_at hl 1 rfl) ?_
  refine lv_iload_n hx hb dX9_saved_1 rfl (lv_at hl 2 rfl) ?_
  refine g_ci (g_runS (As := [.int a, .int b]) (rest := []) ⟨hx, hb, hml, hown, hts⟩ hK hP (kX9_isPlan l E A n (GM E o c S) a b) (va_cwS 2 hts gX9_saved_X9_isPlan rfl rfl rfl (by decide +kernel) ⟨Nat.le_of_ble_eq_true rfl, Nat.le_of_ble_eq_true rfl⟩) rfl hl.1 rfl (Nat.le_of_ble_eq_true rfl) dX9_saved_2 ⟨Nat.le_of_ble_eq_true rfl, Nat.le_of_ble_eq_true rfl⟩) hS (fun r2 n' G' H locs hw hP hS => ?_)
  obtain ⟨rfl, rfl, rfl⟩ := hw
  refine g_ifne (tgt := 10) hx hb dX9_saved_5 (by decide) (fun b5 => ?_) (fun b5 => ?_)
  · refine lv_aload_n hx hb dX9_saved_10 rfl (lv_at hl 0 rfl) ?_
    refine lv_iload_n hx hb dX9_saved_11 rfl (lv_at hl 2 rfl) ?_
    have hb2 : inB b 0 3000 = true := by
      cases hq : inB b 0 3000
      · rw [hq] at b5; simp at b5
      · rfl
    have ha2 : inB a 0 300 = true := by
      cases hq : inB a 0 300
      · rw [hq] at b5; simp at b5
      · rfl
    refine g_cv (g_runV (As := [.int b]) (rest := []) ⟨hx, hb, hml, hown, hts⟩ hK hP (kX9_plans l E A n o c S b hH hb2) (cwV 1 hts gX9_saved_X9_plans rfl rfl rfl (by decide +kernel) ⟨Nat.le_of_ble_eq_true rfl, Nat.le_of_ble_eq_true rfl⟩) GM_o rfl rfl hl.1 rfl (Nat.le_of_ble_eq_true rfl) dX9_saved_12 ⟨Nat.le_of_ble_eq_true rfl, Nat.le_of_ble_eq_true rfl⟩) hS (fun n' G' H locs hw hP hS => ?_)
    obtain ⟨rfl, rfl⟩ := hw
    refine lv_aload_n hx hb dX9_saved_15 rfl (lv_at hl 0 rfl) ?_
    refine m_get (v := .ref (o + 26)) hx hb hts hin9 hown hK hP 34 (by decide) hf85 rfl rfl dX9_saved_16 ?_
    refine lv_sipush (v := 9030) hx hb dX9_saved_19 (by decide) ?_
    refine lv_iload_n hx hb dX9_saved_22 rfl (lv_at hl 1 rfl) ?_
    refine lv_iadd hx hb dX9_saved_23 ?_
    obtain ⟨ai, hai, rfl⟩ := vp_in_of (inB_vp (N := 301) ha2 (by decide)) (by decide)
    rw [show (9030 : Int32) + nI ai = nI (301 * 30 + ai) from by rw [show (9030 : Int32) = nI 9030 from rfl, nI_add]]
    refine m_iald_n hx hb hK hP 25 9331 rfl (by decide) rfl (by omega) dX9_saved_24 ?_
    refine W.eq (g2 := F0 m 25 ls [.int ((plF S b 9331) (301 * 30 + ai))]) rfl ?_
    rw [plF_in S b (by omega) (by omega)]
    refine g_reti hx hb hr hlk hP hS dX9_saved_25 ?_
    have hB : savB (nI ai) b = true := b5
    exact ⟨by rw [savR, if_pos hB, tn_nI (by omega)], rfl, by rw [savS, if_pos hB]⟩
  · refine lv_iconst (v := (-1)) hx hb dX9_saved_8 (by decide) ?_
    refine g_reti hx hb hr hlk hP hS dX9_saved_9 ?_
    have hB : ¬ savB a b = true := by rw [savB, b5]; decide
    exact ⟨by rw [savR, if_neg hB], rfl, by rw [savS, if_neg hB]⟩
set_option maxHeartbeats 1000000 in
set_option maxRecDepth 100000 in
theorem kX9_chosen (l : Launch) (E : gT) (A : Nat → Prop) (n : Nat) (o : Nat) (c : Nat → Int32) (S : Nat → Nat → Int32) (a b : Int32) (hH : mH S) : gM l yX9_chosen wsX9_chosen ({ frames := 3, cells := 0, slots := 0, locals := 70 } : Room) E A n (GM E o c S) [.ref o, .int a, .int b] (gQi E A (fun r' n' G' => choR S a b = r' ∧ n = n' ∧ (GM E o c (savS S a b)) = G')) 0 0 := by
  refine g_entry (by decide) rfl (Nat.le_of_ble_eq_true rfl) ?_
  intro p e s m below meth c0 hx hb hr hlk hml hown hnm hts hK H locs ls hP hS hl
  have hin9 : ∀ wq ∈ u_ws RX9 TX9 35, wq ∈ wsX9_chosen := by decide +kernel
  have hf85 := hts (.fieldLink RX9 85 "DikeHandsModel" "most" "[I") (by decide +kernel)
  have hl : lv_has ls 7 [(0, .ref o), (1, .int a), (2, .int b)] := hl
  refine lv_iload_n hx hb dX9_chosen_0 rfl (lv_at hl 1 rfl) ?_
  refine lv_iload_n hx hb dX9_chosen_1 rfl (lv_at hl 2 rfl) ?_
  refine g_ci (g_runS (As := [.int a, .int b]) (rest := []) ⟨hx, hb, hml, hown, hts⟩ hK hP (kX9_isPlan l E A n (GM E o c S) a b) (va_cwS 2 hts gX9_chosen_X9_isPlan rfl rfl rfl (by decide +kernel) ⟨Nat.le_of_ble_eq_true rfl, Nat.le_of_ble_eq_true rfl⟩) rfl hl.1 rfl (Nat.le_of_ble_eq_true rfl) dX9_chosen_2 ⟨Nat.le_of_ble_eq_true rfl, Nat.le_of_ble_eq_true rfl⟩) hS (fun r2 n' G' H locs hw hP hS => ?_)
  obtain ⟨rfl, rfl, rfl⟩ := hw
  refine g_ifne (tgt := 10) hx hb dX9_chosen_5 (by decide) (fun b5 => ?_) (fun b5 => ?_)
  · refine lv_aload_n hx hb dX9_chosen_10 rfl (lv_at hl 0 rfl) ?_
    refine lv_iload_n hx hb dX9_chosen_11 rfl (lv_at hl 2 rfl) ?_
    have hb2 : inB b 0 3000 = true := by
      cases hq : inB b 0 3000
      · rw [hq] at b5; simp at b5
      · rfl
    have ha2 : inB a 0 300 = true := by
      cases hq : inB a 0 300
      · rw [hq] at b5; simp at b5
      · rfl
    refine g_cv (g_runV (As := [.int b]) (rest := []) ⟨hx, hb, hml, hown, hts⟩ hK hP (kX9_plans l E A n o c S b hH hb2) (cwV 1 hts gX9_chosen_X9_plans rfl rfl rfl (by decide +kernel) ⟨Nat.le_of_ble_eq_true rfl, Nat.le_of_ble_eq_true rfl⟩) GM_o rfl rfl hl.1 rfl (Nat.le_of_ble_eq_true rfl) dX9_chosen_12 ⟨Nat.le_of_ble_eq_true rfl, Nat.le_of_ble_eq_true rfl⟩) hS (fun n' G' H locs hw hP hS => ?_)
    obtain ⟨rfl, rfl⟩ := hw
    obtain ⟨ai, hai, rfl⟩ := vp_in_of (inB_vp (N := 301) ha2 (by decide)) (by decide)
    refine lv_iconst (v := 0) hx hb dX9_chosen_15 (by decide) ?_
    refine lv_istore_n (lv' := [(3, .int 0), (0, .ref o), (1, .int (nI ai)), (2, .int b)]) hx hb dX9_chosen_16 rfl hl (by decide) rfl (fun ls hl => ?_)
    refine lv_iload_n hx hb dX9_chosen_17 rfl (lv_at hl 2 rfl) ?_
    refine lv_istore (lv' := [(4, .int (nI ai)), (3, .int 0), (0, .ref o), (1, .int (nI ai)), (2, .int b)]) hx hb dX9_chosen_18 hl (by decide) rfl (fun ls hl => ?_)
    refine lv_bipush (v := 30) hx hb dX9_chosen_20 (by decide) ?_
    refine lv_istore (lv' := [(5, .int 30), (4, .int (nI ai)), (3, .int 0), (0, .ref o), (1, .int (nI ai)), (2, .int b)]) hx hb dX9_chosen_22 hl (by decide) rfl (fun ls hl => ?_)
    refine g_loop (τ := Nat × Nat × Int32) (fun ⟨kq, wq, zq⟩ => kq ≤ 30 ∧ wq ≤ 300 ∧ chO S b 30 ai 0 = chO S b kq wq zq) (fun ⟨kq, wq, zq⟩ => kq) (fun ⟨kq, wq, zq⟩ => n) (fun ⟨kq, wq, zq⟩ => GM E o c (va_up S 25 (plF S b 9331))) (fun ⟨kq, wq, zq⟩ => 0) (fun ⟨kq, wq, zq⟩ => 0) (fun ⟨kq, wq, zq⟩ => [(0, .ref o), (1, .int (nI ai)), (2, .int b), (3, .int zq), (4, .int (nI wq)), (5, .int (nI kq))]) ?_ (30, ai, 0) (⟨by omega, by omega, rfl⟩) H locs ls hP hS (lv_sub hl [3, 4, 5, 2, 1, 0] rfl)
    intro t hI24 ih H locs ls hP hS hl
    obtain ⟨kq, wq, zq⟩ := t
    try dsimp only at hI24
    have hl : lv_has ls 7 [(0, .ref o), (1, .int (nI ai)), (2, .int b), (3, .int zq), (4, .int (nI wq)), (5, .int (nI kq))] := hl
    have hP : gP E A n (GM E o c (va_up S 25 (plF S b 9331))) H := hP
    refine lv_iload hx hb dX9_chosen_24 (lv_at hl 5 rfl) ?_
    refine lv_if_le (tgt := 95) hx hb dX9_chosen_26 (by decide) (fun b26 => ?_) (fun b26 => ?_)
    · have hk0 : kq = 0 := by
        have h1 := Int32.le_iff_toInt_le.mp b26
        rw [nI_toInt (by omega)] at h1
        have e0 : (0 : Int32).toInt = 0 := rfl
        omega
      refine lv_iload_n hx hb dX9_chosen_95 rfl (lv_at hl 3 rfl) ?_
      refine g_reti hx hb hr hlk hP hS dX9_chosen_96 ?_
      have hB : savB (nI ai) b = true := b5
      exact ⟨by rw [choR, if_pos hB, tn_nI (by omega), hI24.2.2, hk0, chO], rfl, by rw [savS, if_pos hB]⟩
    · have hk0 : kq ≠ 0 := fun q => b26 (by rw [q]; decide)
      obtain ⟨k2, rfl⟩ : ∃ j, kq = j + 1 := ⟨kq - 1, by omega⟩
      refine lv_sipush (v := 301) hx hb dX9_chosen_29 (by decide) ?_
      refine lv_iload hx hb dX9_chosen_32 (lv_at hl 5 rfl) ?_
      refine lv_imul hx hb dX9_chosen_34 ?_
      refine lv_iload hx hb dX9_chosen_35 (lv_at hl 4 rfl) ?_
      refine lv_iadd hx hb dX9_chosen_37 ?_
      rw [at301]
      refine lv_istore (lv' := [(6, .int (nI (301 * (k2 + 1) + wq))), (0, .ref o), (1, .int (nI ai)), (2, .int b), (3, .int zq), (4, .int (nI wq)), (5, .int (nI (k2 + 1)))]) hx hb dX9_chosen_38 hl (by decide) rfl (fun ls hl => ?_)
      refine lv_aload_n hx hb dX9_chosen_40 rfl (lv_at hl 1 rfl) ?_
      refine m_get (v := .ref (o + 26)) hx hb hts hin9 hown hK hP 34 (by decide) hf85 rfl rfl dX9_chosen_41 ?_
      refine lv_iload hx hb dX9_chosen_44 (lv_at hl 0 rfl) ?_
      refine m_iald_n hx hb hK hP 25 9331 rfl (by decide) rfl (by omega) dX9_chosen_46 ?_
      refine W.eq (g2 := F0 m 47 ls [.int ((plF S b 9331) (301 * (k2 + 1) + wq))]) rfl ?_
      rw [plF_in S b (by omega) (by omega)]
      refine lv_aload_n hx hb dX9_chosen_47 rfl (lv_at hl 1 rfl) ?_
      refine m_get (v := .ref (o + 26)) hx hb hts hin9 hown hK hP 34 (by decide) hf85 rfl rfl dX9_chosen_48 ?_
      refine lv_iload hx hb dX9_chosen_51 (lv_at hl 0 rfl) ?_
      refine lv_sipush (v := 300) hx hb dX9_chosen_53 (by decide) ?_
      refine lv_isub hx hb dX9_chosen_56 ?_
      refine lv_iconst (v := 1) hx hb dX9_chosen_57 (by decide) ?_
      refine lv_isub hx hb dX9_chosen_58 ?_
      rw [idx301]
      refine m_iald_n hx hb hK hP 25 9331 rfl (by decide) rfl (by omega) dX9_chosen_59 ?_
      refine W.eq (g2 := F0 m 60 ls [.int ((plF S b 9331) (301 * k2 + wq)), .int (plM S b (k2 + 1) wq)]) rfl ?_
      rw [plF_in S b (by omega) (by omega)]
      refine lv_icmp_ne (tgt := 66) hx hb dX9_chosen_60 (by decide) (fun b60 => ?_) (fun b60 => ?_)
      · refine lv_iload_n hx hb dX9_chosen_66 rfl (lv_at hl 4 rfl) ?_
        refine lv_iconst (v := 1) hx hb dX9_chosen_67 (by decide) ?_
        refine lv_iload hx hb dX9_chosen_68 (lv_at hl 6 rfl) ?_
        refine lv_iconst (v := 1) hx hb dX9_chosen_70 (by decide) ?_
        refine lv_isub hx hb dX9_chosen_71 ?_
        rw [nI_pred]
        refine lv_ishl hx hb dX9_chosen_72 ?_
        refine lv_ior hx hb dX9_chosen_73 ?_
        refine lv_istore_n (lv' := [(3, .int (zq ||| (1 <<< ((nI k2) &&& 31)))), (6, .int (nI (301 * (k2 + 1) + wq))), (0, .ref o), (1, .int (nI ai)), (2, .int b), (4, .int (nI wq)), (5, .int (nI (k2 + 1)))]) hx hb dX9_chosen_74 rfl hl (by decide) rfl (fun ls hl => ?_)
        refine lv_iload hx hb dX9_chosen_75 (lv_at hl 5 rfl) ?_
        refine lv_aload_n hx hb dX9_chosen_77 rfl (lv_at hl 2 rfl) ?_
        refine lv_iload hx hb dX9_chosen_78 (lv_at hl 6 rfl) ?_
        refine lv_iconst (v := 1) hx hb dX9_chosen_80 (by decide) ?_
        refine lv_isub hx hb dX9_chosen_81 ?_
        refine lv_iload_n hx hb dX9_chosen_82 rfl (lv_at hl 4 rfl) ?_
        rw [nI_pred]
        refine g_ci (g_runV (As := [.int (nI k2), .int b]) (rest := [.int (nI wq)]) ⟨hx, hb, hml, hown, hts⟩ hK hP (kX9_needs l E A n o c (va_up S 25 (plF S b 9331)) (nI k2) b (vp_in_nI (by omega) (by decide))) (cwV 2 hts gX9_chosen_X9_needs rfl rfl rfl (by decide +kernel) ⟨Nat.le_of_ble_eq_true rfl, Nat.le_of_ble_eq_true rfl⟩) GM_o rfl rfl hl.1 rfl (Nat.le_of_ble_eq_true rfl) dX9_chosen_83 ⟨Nat.le_of_ble_eq_true rfl, Nat.le_of_ble_eq_true rfl⟩) hS (fun r83 n' G' H locs hw hP hS => ?_)
        obtain ⟨rfl, rfl, rfl⟩ := hw
        rw [show needOf (va_up S 25 (plF S b 9331)) (nI k2) b = needOf S (nI k2) b from rfl]
        have hnd := needOf_rng hH hb2 (show k2 < 30 by omega)
        have hndw : tn (needOf S (nI k2) b) ≤ wq := lp_ge hnd.1 (by omega) (Int32.not_lt.mp (plM_ne b60))
        refine lv_isub hx hb dX9_chosen_86 ?_
        rw [idxsub0 hnd.1 hndw]
        refine lv_istore (lv' := [(4, .int (nI (wq - tn (needOf S (nI k2) b)))), (3, .int (zq ||| (1 <<< ((nI k2) &&& 31)))), (6, .int (nI (301 * (k2 + 1) + wq))), (0, .ref o), (1, .int (nI ai)), (2, .int b), (5, .int (nI (k2 + 1)))]) hx hb dX9_chosen_87 hl (by decide) rfl (fun ls hl => ?_)
        refine lv_iinc (v := (nI (k2 + 1)) + (-1)) (lv' := [(5, .int ((nI (k2 + 1)) + (-1))), (4, .int (nI (wq - tn (needOf S (nI k2) b)))), (3, .int (zq ||| (1 <<< ((nI k2) &&& 31)))), (6, .int (nI (301 * (k2 + 1) + wq))), (0, .ref o), (1, .int (nI ai)), (2, .int b)]) hx hb dX9_chosen_89 hl (k := 6) rfl rfl (by decide) rfl (fun ls hl => ?_)
        rw [pk_m1] at hl
        refine lv_goto (tgt := 24) hx hb dX9_chosen_92 (by decide) ?_
        have hch : chO S b (k2 + 1) wq zq = chO S b k2 (wq - tn (needOf S (nI k2) b)) (zq ||| ((1 : Int32) <<< (nI k2 &&& 31))) := by rw [chO, if_neg b60]
        refine ih (k2, wq - tn (needOf S (nI k2) b), zq ||| ((1 : Int32) <<< (nI k2 &&& 31))) (⟨by omega, by omega, hI24.2.2.trans hch⟩) (by show k2 < k2 + 1; omega) H locs ls hP hS ?_
        show lv_has ls 7 [(0, .ref o), (1, .int (nI ai)), (2, .int b), (3, .int (zq ||| ((1 : Int32) <<< (nI k2 &&& 31)))), (4, .int (nI (wq - tn (needOf S (nI k2) b)))), (5, .int (nI k2))]
        exact lv_sub hl [4, 5, 6, 2, 1, 0] rfl
      · refine lv_goto (tgt := 89) hx hb dX9_chosen_63 (by decide) ?_
        refine lv_iinc (v := (nI (k2 + 1)) + (-1)) (lv' := [(5, .int ((nI (k2 + 1)) + (-1))), (6, .int (nI (301 * (k2 + 1) + wq))), (0, .ref o), (1, .int (nI ai)), (2, .int b), (3, .int zq), (4, .int (nI wq))]) hx hb dX9_chosen_89 hl (k := 6) rfl rfl (by decide) rfl (fun ls hl => ?_)
        rw [pk_m1] at hl
        refine lv_goto (tgt := 24) hx hb dX9_chosen_92 (by decide) ?_
        have hch : chO S b (k2 + 1) wq zq = chO S b k2 wq zq := by rw [chO, if_pos b60]
        refine ih (k2, wq, zq) (⟨by omega, by omega, hI24.2.2.trans hch⟩) (by show k2 < k2 + 1; omega) H locs ls hP hS ?_
        show lv_has ls 7 [(0, .ref o), (1, .int (nI ai)), (2, .int b), (3, .int zq), (4, .int (nI wq)), (5, .int (nI k2))]
        exact lv_sub hl [2, 3, 4, 5, 6, 0] rfl
  · refine lv_iconst (v := (-1)) hx hb dX9_chosen_8 (by decide) ?_
    refine g_reti hx hb hr hlk hP hS dX9_chosen_9 ?_
    have hB : ¬ savB a b = true := by rw [savB, b5]; decide
    exact ⟨by rw [choR, if_neg hB], rfl, by rw [savS, if_neg hB]⟩
end
section
set_option maxHeartbeats 1000000 in
set_option maxRecDepth 100000 in
theorem kX8_isWithin (l : Launch) (E : gT) (A : Nat → Prop) (n : Nat) (G : gH) (v hi : Int32) : gM l yX8_isWithin wsX8_isWithin ({ frames := 0, cells := 0, slots := 0, locals := 0 } : Room) E A n G [.int v, .int hi] (gQi E A (fun r' n' G' => (gb (inB v 0 hi)) = r' ∧ n = n' ∧ G = G')) 0 0 := by
  refine g_entry (by decide) rfl (Nat.le_of_ble_eq_true rfl) ?_
  intro p e s m below meth c0 hx hb hr hlk hml hown hnm hts hK H locs ls hP hS hl
  have hl : lv_has ls 2 [(0, .int v), (1, .int hi)] := hl
  refine lv_iload_n hx hb dX8_isWithin_0 rfl (lv_at hl 0 rfl) ?_
  refine lv_if_lt (tgt := 13) hx hb dX8_isWithin_1 (by decide) (fun b1 => ?_) (fun b1 => ?_)
  · refine lv_iconst (v := 0) hx hb dX8_isWithin_13 (by decide) ?_
    refine g_retz hx hb hr hlk hP hS dX8_isWithin_14 rfl ?_
    exact ⟨by first | (simp [inB, gb, b1, Int32.not_le.mpr b1]; done) | (exfalso; simp_all; done), rfl, rfl⟩
  · refine lv_iload_n hx hb dX8_isWithin_4 rfl (lv_at hl 0 rfl) ?_
    refine lv_iload_n hx hb dX8_isWithin_5 rfl (lv_at hl 1 rfl) ?_
    refine lv_icmp_gt (tgt := 13) hx hb dX8_isWithin_6 (by decide) (fun b6 => ?_) (fun b6 => ?_)
    · refine lv_iconst (v := 0) hx hb dX8_isWithin_13 (by decide) ?_
      refine g_retz hx hb hr hlk hP hS dX8_isWithin_14 rfl ?_
      exact ⟨by first | (simp [inB, gb, b1, Int32.not_lt.mp b1, b6, Int32.not_le.mpr b6]; done) | (exfalso; simp_all; done), rfl, rfl⟩
    · refine lv_iconst (v := 1) hx hb dX8_isWithin_9 (by decide) ?_
      refine lv_goto (tgt := 14) hx hb dX8_isWithin_10 (by decide) ?_
      refine g_retz hx hb hr hlk hP hS dX8_isWithin_14 rfl ?_
      exact ⟨by first | (simp [inB, gb, b1, Int32.not_lt.mp b1, b6, Int32.not_lt.mp b6]; done) | (exfalso; simp_all; done), rfl, rfl⟩
set_option maxHeartbeats 1000000 in
set_option maxRecDepth 100000 in
theorem kX8_isVillage (l : Launch) (E : gT) (A : Nat → Prop) (n : Nat) (G : gH) (v : Int32) : gM l yX8_isVillage wsX8_isVillage ({ frames := 1, cells := 0, slots := 0, locals := 21 } : Room) E A n G [.int v] (gQi E A (fun r' n' G' => (gb (inB v 0 7)) = r' ∧ n = n' ∧ G = G')) 0 0 := by
  refine g_entry (by decide) rfl (Nat.le_of_ble_eq_true rfl) ?_
  intro p e s m below meth c0 hx hb hr hlk hml hown hnm hts hK H locs ls hP hS hl
  have hl : lv_has ls 1 [(0, .int v)] := hl
  refine lv_iload_n hx hb dX8_isVillage_0 rfl (lv_at hl 0 rfl) ?_
  refine lv_bipush (v := 7) hx hb dX8_isVillage_1 (by decide) ?_
  refine g_ci (g_runS (As := [.int v, .int 7]) (rest := []) ⟨hx, hb, hml, hown, hts⟩ hK hP (kX8_isWithin l E A n G v 7) (va_cwS 2 hts gX8_isVillage_X8_isWithin rfl rfl rfl (by decide +kernel) ⟨Nat.le_of_ble_eq_true rfl, Nat.le_of_ble_eq_true rfl⟩) rfl hl.1 rfl (Nat.le_of_ble_eq_true rfl) dX8_isVillage_3 ⟨Nat.le_of_ble_eq_true rfl, Nat.le_of_ble_eq_true rfl⟩) hS (fun r3 n' G' H locs hw hP hS => ?_)
  obtain ⟨rfl, rfl, rfl⟩ := hw
  refine g_retz hx hb hr hlk hP hS dX8_isVillage_6 (gb_nar _) ?_
  exact ⟨rfl, rfl, rfl⟩
set_option maxHeartbeats 1000000 in
set_option maxRecDepth 100000 in
theorem kX8_isRod (l : Launch) (E : gT) (A : Nat → Prop) (n : Nat) (G : gH) (v : Int32) : gM l yX8_isRod wsX8_isRod ({ frames := 1, cells := 0, slots := 0, locals := 21 } : Room) E A n G [.int v] (gQi E A (fun r' n' G' => (gb (inB v 0 29)) = r' ∧ n = n' ∧ G = G')) 0 0 := by
  refine g_entry (by decide) rfl (Nat.le_of_ble_eq_true rfl) ?_
  intro p e s m below meth c0 hx hb hr hlk hml hown hnm hts hK H locs ls hP hS hl
  have hl : lv_has ls 1 [(0, .int v)] := hl
  refine lv_iload_n hx hb dX8_isRod_0 rfl (lv_at hl 0 rfl) ?_
  refine lv_bipush (v := 29) hx hb dX8_isRod_1 (by decide) ?_
  refine g_ci (g_runS (As := [.int v, .int 29]) (rest := []) ⟨hx, hb, hml, hown, hts⟩ hK hP (kX8_isWithin l E A n G v 29) (va_cwS 2 hts gX8_isRod_X8_isWithin rfl rfl rfl (by decide +kernel) ⟨Nat.le_of_ble_eq_true rfl, Nat.le_of_ble_eq_true rfl⟩) rfl hl.1 rfl (Nat.le_of_ble_eq_true rfl) dX8_isRod_3 ⟨Nat.le_of_ble_eq_true rfl, Nat.le_of_ble_eq_true rfl⟩) hS (fun r3 n' G' H locs hw hP hS => ?_)
  obtain ⟨rfl, rfl, rfl⟩ := hw
  refine g_retz hx hb hr hlk hP hS dX8_isRod_6 (gb_nar _) ?_
  exact ⟨rfl, rfl, rfl⟩
set_option maxHeartbeats 1000000 in
set_option maxRecDepth 100000 in
theorem kX8_isHolding (l : Launch) (E : gT) (A : Nat → Prop) (n : Nat) (G : gH) (a b : Int32) : gM l yX8_isHolding wsX8_isHolding ({ frames := 1, cells := 0, slots := 0, locals := 21 } : Room) E A n G [.int a, .int b] (gQi E A (fun r' n' G' => (gb (inB a 0 500 && inB b 0 20)) = r' ∧ n = n' ∧ G = G')) 0 0 := by
  refine g_entry (by decide) rfl (Nat.le_of_ble_eq_true rfl) ?_
  intro p e s m below meth c0 hx hb hr hlk hml hown hnm hts hK H locs ls hP hS hl
  have hl : lv_has ls 2 [(0, .int a), (1, .int b)] := hl
  refine lv_iload_n hx hb dX8_isHolding_0 rfl (lv_at hl 0 rfl) ?_
  refine lv_sipush (v := 500) hx hb dX8_isHolding_1 (by decide) ?_
  refine g_ci (g_runS (As := [.int a, .int 500]) (rest := []) ⟨hx, hb, hml, hown, hts⟩ hK hP (kX8_isWithin l E A n G a 500) (va_cwS 2 hts gX8_isHolding_X8_isWithin rfl rfl rfl (by decide +kernel) ⟨Nat.le_of_ble_eq_true rfl, Nat.le_of_ble_eq_true rfl⟩) rfl hl.1 rfl (Nat.le_of_ble_eq_true rfl) dX8_isHolding_4 ⟨Nat.le_of_ble_eq_true rfl, Nat.le_of_ble_eq_true rfl⟩) hS (fun r4 n' G' H locs hw hP hS => ?_)
  obtain ⟨rfl, rfl, rfl⟩ := hw
  refine g_ifeq (tgt := 23) hx hb dX8_isHolding_7 (by decide) (fun b7 => ?_) (fun b7 => ?_)
  · refine lv_iconst (v := 0) hx hb dX8_isHolding_23 (by decide) ?_
    refine g_retz hx hb hr hlk hP hS dX8_isHolding_24 rfl ?_
    exact ⟨by first | (simp [gb, b7]; done) | (exfalso; simp_all; done), rfl, rfl⟩
  · refine lv_iload_n hx hb dX8_isHolding_10 rfl (lv_at hl 1 rfl) ?_
    refine lv_bipush (v := 20) hx hb dX8_isHolding_11 (by decide) ?_
    refine g_ci (g_runS (As := [.int b, .int 20]) (rest := []) ⟨hx, hb, hml, hown, hts⟩ hK hP (kX8_isWithin l E A n G b 20) (va_cwS 2 hts gX8_isHolding_X8_isWithin rfl rfl rfl (by decide +kernel) ⟨Nat.le_of_ble_eq_true rfl, Nat.le_of_ble_eq_true rfl⟩) rfl hl.1 rfl (Nat.le_of_ble_eq_true rfl) dX8_isHolding_13 ⟨Nat.le_of_ble_eq_true rfl, Nat.le_of_ble_eq_true rfl⟩) hS (fun r13 n' G' H locs hw hP hS => ?_)
    obtain ⟨rfl, rfl, rfl⟩ := hw
    refine g_ifeq (tgt := 23) hx hb dX8_isHolding_16 (by decide) (fun b16 => ?_) (fun b16 => ?_)
    · refine lv_iconst (v := 0) hx hb dX8_isHolding_23 (by decide) ?_
      refine g_retz hx hb hr hlk hP hS dX8_isHolding_24 rfl ?_
      exact ⟨by first | (simp [gb, b7, b16]; done) | (exfalso; simp_all; done), rfl, rfl⟩
    · refine lv_iconst (v := 1) hx hb dX8_isHolding_19 (by decide) ?_
      refine lv_goto (tgt := 24) hx hb dX8_isHolding_20 (by decide) ?_
      refine g_retz hx hb hr hlk hP hS dX8_isHolding_24 rfl ?_
      exact ⟨by first | (simp [gb, b7, b16]; done) | (exfalso; simp_all; done), rfl, rfl⟩
set_option maxHeartbeats 1000000 in
set_option maxRecDepth 100000 in
theorem kX8_dividedUp (l : Launch) (E : gT) (A : Nat → Prop) (n : Nat) (G : gH) (a d : Int32) : gM l yX8_dividedUp wsX8_dividedUp ({ frames := 0, cells := 0, slots := 0, locals := 0 } : Room) E A n G [.int a, .int d] (gQi E A (fun r' n' G' => (divUp a d) = r' ∧ n = n' ∧ G = G')) 0 0 := by
  refine g_entry (by decide) rfl (Nat.le_of_ble_eq_true rfl) ?_
  intro p e s m below meth c0 hx hb hr hlk hml hown hnm hts hK H locs ls hP hS hl
  have hl : lv_has ls 2 [(0, .int a), (1, .int d)] := hl
  refine lv_iload_n hx hb dX8_dividedUp_0 rfl (lv_at hl 1 rfl) ?_
  refine lv_if_gt (tgt := 8) hx hb dX8_dividedUp_1 (by decide) (fun b1 => ?_) (fun b1 => ?_)
  · refine lv_iload_n hx hb dX8_dividedUp_8 rfl (lv_at hl 0 rfl) ?_
    refine lv_iload_n hx hb dX8_dividedUp_9 rfl (lv_at hl 1 rfl) ?_
    refine lv_iadd hx hb dX8_dividedUp_10 ?_
    refine lv_iconst (v := 1) hx hb dX8_dividedUp_11 (by decide) ?_
    refine lv_isub hx hb dX8_dividedUp_12 ?_
    refine lv_iload_n hx hb dX8_dividedUp_13 rfl (lv_at hl 1 rfl) ?_
    refine lv_idiv hx hb dX8_dividedUp_14 (fun q => absurd b1 (by rw [q]; decide)) ?_
    refine g_reti hx hb hr hlk hP hS dX8_dividedUp_15 ?_
    exact ⟨by first | (simp [divUp, b1, Int32.not_le.mpr b1]; done) | (exfalso; simp_all; done), rfl, rfl⟩
  · refine lv_iconst (v := 0) hx hb dX8_dividedUp_4 (by decide) ?_
    refine lv_goto (tgt := 15) hx hb dX8_dividedUp_5 (by decide) ?_
    refine g_reti hx hb hr hlk hP hS dX8_dividedUp_15 ?_
    exact ⟨by first | (simp [divUp, b1, Int32.not_lt.mp b1]; done) | (exfalso; simp_all; done), rfl, rfl⟩
set_option maxHeartbeats 1000000 in
set_option maxRecDepth 100000 in
theorem kX8_hoursFor (l : Launch) (E : gT) (A : Nat → Prop) (n : Nat) (G : gH) (a b d : Int32) : gM l yX8_hoursFor wsX8_hoursFor ({ frames := 1, cells := 0, slots := 0, locals := 21 } : Room) E A n G [.int a, .int b, .int d] (gQi E A (fun r' n' G' => (divUp (absOf (a - b)) d) = r' ∧ n = n' ∧ G = G')) 0 0 := by
  refine g_entry (by decide) rfl (Nat.le_of_ble_eq_true rfl) ?_
  intro p e s m below meth c0 hx hb hr hlk hml hown hnm hts hK H locs ls hP hS hl
  have hl : lv_has ls 3 [(0, .int a), (1, .int b), (2, .int d)] := hl
  refine lv_iload_n hx hb dX8_hoursFor_0 rfl (lv_at hl 0 rfl) ?_
  refine lv_iload_n hx hb dX8_hoursFor_1 rfl (lv_at hl 1 rfl) ?_
  refine lv_isub hx hb dX8_hoursFor_2 ?_
  refine va_mabs hx hb (by rw [hml]; exact hl.1.symm) hown (hts (.methodLink RX8 261 Lib.Math.abs.name) (by decide +kernel)) (hts (.static Lib.Math.abs.name) (by decide +kernel)) (hts (.initialized "java/lang/Math") (by decide +kernel)) (hts (.code Lib.Math.abs.name Lib.Math.abs.code 1 (some .int)) (by decide +kernel)) (Nat.le_of_ble_eq_true rfl) (Nat.le_of_ble_eq_true rfl) (Nat.le_of_ble_eq_true rfl) (Nat.le_of_ble_eq_true rfl) dX8_hoursFor_3 ?_
  refine lv_iload_n hx hb dX8_hoursFor_6 rfl (lv_at hl 2 rfl) ?_
  refine g_ci (g_runS (As := [.int (if 0 ≤ (a - b) then (a - b) else 0 - (a - b)), .int d]) (rest := []) ⟨hx, hb, hml, hown, hts⟩ hK hP (kX8_dividedUp l E A n G (if 0 ≤ (a - b) then (a - b) else 0 - (a - b)) d) (va_cwS 2 hts gX8_hoursFor_X8_dividedUp rfl rfl rfl (by decide +kernel) ⟨Nat.le_of_ble_eq_true rfl, Nat.le_of_ble_eq_true rfl⟩) rfl hl.1 rfl (Nat.le_of_ble_eq_true rfl) dX8_hoursFor_7 ⟨Nat.le_of_ble_eq_true rfl, Nat.le_of_ble_eq_true rfl⟩) hS (fun r7 n' G' H locs hw hP hS => ?_)
  obtain ⟨rfl, rfl, rfl⟩ := hw
  refine g_reti hx hb hr hlk hP hS dX8_hoursFor_10 ?_
  exact ⟨rfl, rfl, rfl⟩
set_option maxHeartbeats 1000000 in
set_option maxRecDepth 100000 in
theorem kX1_canBe (l : Launch) (E : gT) (A : Nat → Prop) (n : Nat) (G : gH) (w : Int32) : gM l yX1_canBe wsX1_canBe ({ frames := 1, cells := 0, slots := 0, locals := 21 } : Room) E A n G [.int w] (gQi E A (fun r' n' G' => (gb (inB w 0 99999 && decide (rem32 w 1000 ≤ 500))) = r' ∧ n = n' ∧ G = G')) 0 0 := by
  refine g_entry (by decide) rfl (Nat.le_of_ble_eq_true rfl) ?_
  intro p e s m below meth c0 hx hb hr hlk hml hown hnm hts hK H locs ls hP hS hl
  have hl : lv_has ls 1 [(0, .int w)] := hl
  refine lv_iload_n hx hb dX1_canBe_0 rfl (lv_at hl 0 rfl) ?_
  refine lv_ldc (v := 99999) hx hb hown (hts (.constant RX1 27 (99999)) (by decide +kernel)) dX1_canBe_1 ?_
  refine g_ci (g_runSN (As := [.int w, .int 99999]) (rest := []) ⟨hx, hb, hml, hown, hts⟩ hK hP (kX8_isWithin l E A n G w 99999) ⟨va_cnB 2 hts gX1_canBe_X8_isWithin_n28 rfl rfl rfl hK.2.2.2.2.2.1 (hts (.initialized RX8) (by decide +kernel)) (by decide +kernel) ⟨Nat.le_of_ble_eq_true rfl, Nat.le_of_ble_eq_true rfl⟩, hts (.static yX8_isWithin) (by decide +kernel), trivial⟩ rfl hl.1 rfl (Nat.le_of_ble_eq_true rfl) dX1_canBe_3 ⟨Nat.le_of_ble_eq_true rfl, Nat.le_of_ble_eq_true rfl⟩) hS (fun r3 n' G' H locs hw hP hS => ?_)
  obtain ⟨rfl, rfl, rfl⟩ := hw
  refine g_ifeq (tgt := 24) hx hb dX1_canBe_6 (by decide) (fun b6 => ?_) (fun b6 => ?_)
  · refine lv_iconst (v := 0) hx hb dX1_canBe_24 (by decide) ?_
    refine g_retz hx hb hr hlk hP hS dX1_canBe_25 rfl ?_
    exact ⟨by first | (simp [gb, rem32, b6]; done) | (exfalso; simp_all; done), rfl, rfl⟩
  · refine lv_iload_n hx hb dX1_canBe_9 rfl (lv_at hl 0 rfl) ?_
    refine lv_sipush (v := 1000) hx hb dX1_canBe_10 (by decide) ?_
    refine lv_irem hx hb dX1_canBe_13 (by decide) ?_
    refine lv_sipush (v := 500) hx hb dX1_canBe_14 (by decide) ?_
    refine lv_icmp_gt (tgt := 24) hx hb dX1_canBe_17 (by decide) (fun b17 => ?_) (fun b17 => ?_)
    · refine lv_iconst (v := 0) hx hb dX1_canBe_24 (by decide) ?_
      refine g_retz hx hb hr hlk hP hS dX1_canBe_25 rfl ?_
      exact ⟨by first | (simp [gb, rem32, b6, b17, Int32.not_le.mpr b17]; done) | (exfalso; simp_all; done), rfl, rfl⟩
    · refine lv_iconst (v := 1) hx hb dX1_canBe_20 (by decide) ?_
      refine lv_goto (tgt := 25) hx hb dX1_canBe_21 (by decide) ?_
      refine g_retz hx hb hr hlk hP hS dX1_canBe_25 rfl ?_
      exact ⟨by first | (simp [gb, rem32, b6, b17, Int32.not_lt.mp b17]; done) | (exfalso; simp_all; done), rfl, rfl⟩
set_option maxHeartbeats 1000000 in
set_option maxRecDepth 100000 in
theorem kX4_growthOfDay (l : Launch) (E : gT) (A : Nat → Prop) (n : Nat) (G : gH) (a : Nat) (ht so lo br da : Int32) (fa : G a = some (.inr (4, [.int ht, .int so, .int lo, .int br, .int da]))) : gM l yX4_growthOfDay wsX4_growthOfDay ({ frames := 0, cells := 0, slots := 0, locals := 0 } : Room) E A n G [.ref a] (gQi E A (fun r' n' G' => (groOf so) = r' ∧ n = n' ∧ G = G')) 0 0 := by
  refine g_entry (by decide) rfl (Nat.le_of_ble_eq_true rfl) ?_
  intro p e s m below meth c0 hx hb hr hlk hml hown hnm hts hK H locs ls hP hS hl
  have hin4 : ∀ w ∈ u_ws RX4 TX4 5, w ∈ wsX4_growthOfDay := by decide +kernel
  have hf13 := hts (.fieldLink RX4 13 "DikeHands$Rod" "soil" "I") (by decide +kernel)
  have hl : lv_has ls 1 [(0, .ref a)] := hl
  refine lv_aload_n hx hb dX4_growthOfDay_0 rfl (lv_at hl 0 rfl) ?_
  refine g_get (ci := 4) hx hb hts hin4 hown hK hP fa rfl 1 (by decide) hf13 rfl rfl dX4_growthOfDay_1 ?_
  by_cases s4_0 : so = 0
  · refine lv_lookup (tgt := 32) hx hb dX4_growthOfDay_4 (by decide) (by first | (rw [s4_0]; done) | (rw [s4_0]; rfl)) (by decide) ?_
    refine lv_bipush (v := 30) hx hb dX4_growthOfDay_32 (by decide) ?_
    refine g_reti hx hb hr hlk hP hS dX4_growthOfDay_34 ?_
    exact ⟨by first | (simp [groOf, s4_0]; done) | (exfalso; simp_all; done), rfl, rfl⟩
  by_cases s4_1 : so = 1
  · refine lv_lookup (tgt := 35) hx hb dX4_growthOfDay_4 (by decide) (by first | (rw [s4_1]; done) | (rw [s4_1]; rfl)) (by decide) ?_
    refine lv_bipush (v := 20) hx hb dX4_growthOfDay_35 (by decide) ?_
    refine g_reti hx hb hr hlk hP hS dX4_growthOfDay_37 ?_
    exact ⟨by first | (simp [groOf, s4_0, s4_1]; done) | (exfalso; simp_all; done), rfl, rfl⟩
  refine lv_lookup (off := 34) (tgt := 38) hx hb dX4_growthOfDay_4 (by decide) (by show Op.lookupswitch.offset [(0, 28), (1, 31)] _ _ = _; rw [lv_osw (a := 0) s4_0 rfl]; rw [lv_osw (a := 1) s4_1 rfl]; first | done | rfl) (by decide) ?_
  refine lv_bipush (v := 10) hx hb dX4_growthOfDay_38 (by decide) ?_
  refine g_reti hx hb hr hlk hP hS dX4_growthOfDay_40 ?_
  exact ⟨by first | (simp [groOf, s4_0, s4_1]; done) | (exfalso; simp_all; done), rfl, rfl⟩
set_option maxHeartbeats 1000000 in
set_option maxRecDepth 100000 in
theorem kX4_raise (l : Launch) (E : gT) (A : Nat → Prop) (n : Nat) (G : gH) (a : Nat) (ht so lo br da : Int32) (k : Int32) (fa : G a = some (.inr (4, [.int ht, .int so, .int lo, .int br, .int da]))) : gM l yX4_raise wsX4_raise ({ frames := 1, cells := 0, slots := 0, locals := 21 } : Room) E A n G [.ref a, .int k] (gQv E A (fun n' G' => n = n' ∧ (gup G a (.inr (4, [.int (minOf 3000 (ht + k * groOf so)), .int so, .int lo, .int br, .int (da + k)]))) = G')) 0 0 := by
  refine g_entry (by decide) rfl (Nat.le_of_ble_eq_true rfl) ?_
  intro p e s m below meth c0 hx hb hr hlk hml hown hnm hts hK H locs ls hP hS hl
  have hin4 : ∀ w ∈ u_ws RX4 TX4 5, w ∈ wsX4_raise := by decide +kernel
  have hf9 := hts (.fieldLink RX4 9 "DikeHands$Rod" "height" "I") (by decide +kernel)
  have hf22 := hts (.fieldLink RX4 22 "DikeHands$Rod" "days" "I") (by decide +kernel)
  have hl : lv_has ls 2 [(0, .ref a), (1, .int k)] := hl
  refine lv_aload_n hx hb dX4_raise_0 rfl (lv_at hl 0 rfl) ?_
  refine lv_sipush (v := 3000) hx hb dX4_raise_1 (by decide) ?_
  refine lv_aload_n hx hb dX4_raise_4 rfl (lv_at hl 0 rfl) ?_
  refine g_get (ci := 4) hx hb hts hin4 hown hK hP fa rfl 0 (by decide) hf9 rfl rfl dX4_raise_5 ?_
  refine lv_iload_n hx hb dX4_raise_8 rfl (lv_at hl 1 rfl) ?_
  refine lv_aload_n hx hb dX4_raise_9 rfl (lv_at hl 0 rfl) ?_
  refine g_ci (g_runV (As := []) (rest := [.int k, .int ht, .int 3000, .ref a]) ⟨hx, hb, hml, hown, hts⟩ hK hP (kX4_growthOfDay l E A n G a ht so lo br da  fa) (cwV 0 hts gX4_raise_X4_growthOfDay rfl rfl rfl (by decide +kernel) ⟨Nat.le_of_ble_eq_true rfl, Nat.le_of_ble_eq_true rfl⟩) fa rfl rfl hl.1 rfl (Nat.le_of_ble_eq_true rfl) dX4_raise_10 ⟨Nat.le_of_ble_eq_true rfl, Nat.le_of_ble_eq_true rfl⟩) hS (fun r10 n' G' H locs hw hP hS => ?_)
  obtain ⟨rfl, rfl, rfl⟩ := hw
  refine lv_imul hx hb dX4_raise_13 ?_
  refine lv_iadd hx hb dX4_raise_14 ?_
  refine va_mmin hx hb (by rw [hml]; exact hl.1.symm) hown (hts (.methodLink RX4 29 Lib.Math.min.name) (by decide +kernel)) (hts (.static Lib.Math.min.name) (by decide +kernel)) (hts (.initialized "java/lang/Math") (by decide +kernel)) (hts (.code Lib.Math.min.name Lib.Math.min.code 2 (some .int)) (by decide +kernel)) (Nat.le_of_ble_eq_true rfl) (Nat.le_of_ble_eq_true rfl) (Nat.le_of_ble_eq_true rfl) (Nat.le_of_ble_eq_true rfl) dX4_raise_15 ?_
  refine g_put (ci := 4) (ty := .int) (v := .int (if (ht + (k * (groOf so))) < 3000 then (ht + (k * (groOf so))) else 3000)) hx hb hts hin4 tyX4 tyX4_ok nmX4 hown hK hP hS fa rfl 0 (by decide) hf9 rfl (Or.inl rfl) (by decide +kernel) rfl rfl (Nat.le_of_ble_eq_true rfl) dX4_raise_18 (fun H locs hP hS => ?_)
  have q1_a : (gup G a (.inr (4, [.int (if (ht + (k * (groOf so))) < 3000 then (ht + (k * (groOf so))) else 3000), .int so, .int lo, .int br, .int da]))) a = some (.inr (4, [.int (if (ht + (k * (groOf so))) < 3000 then (ht + (k * (groOf so))) else 3000), .int so, .int lo, .int br, .int da])) := gup_s
  have hP : gP E A n (gup G a (.inr (4, [.int (if (ht + (k * (groOf so))) < 3000 then (ht + (k * (groOf so))) else 3000), .int so, .int lo, .int br, .int da]))) H := hP
  refine lv_aload_n hx hb dX4_raise_21 rfl (lv_at hl 0 rfl) ?_
  refine lv_dup hx hb dX4_raise_22 rfl ?_
  refine g_get (ci := 4) hx hb hts hin4 hown hK hP q1_a rfl 4 (by decide) hf22 rfl rfl dX4_raise_23 ?_
  refine lv_iload_n hx hb dX4_raise_26 rfl (lv_at hl 1 rfl) ?_
  refine lv_iadd hx hb dX4_raise_27 ?_
  refine g_put (ci := 4) (ty := .int) (v := .int (da + k)) hx hb hts hin4 tyX4 tyX4_ok nmX4 hown hK hP hS q1_a rfl 4 (by decide) hf22 rfl (Or.inl rfl) (by decide +kernel) rfl rfl (Nat.le_of_ble_eq_true rfl) dX4_raise_28 (fun H locs hP hS => ?_)
  have q2_a : (gup (gup G a (.inr (4, [.int (if (ht + (k * (groOf so))) < 3000 then (ht + (k * (groOf so))) else 3000), .int so, .int lo, .int br, .int da]))) a (.inr (4, [.int (if (ht + (k * (groOf so))) < 3000 then (ht + (k * (groOf so))) else 3000), .int so, .int lo, .int br, .int (da + k)]))) a = some (.inr (4, [.int (if (ht + (k * (groOf so))) < 3000 then (ht + (k * (groOf so))) else 3000), .int so, .int lo, .int br, .int (da + k)])) := gup_s
  have hP : gP E A n (gup (gup G a (.inr (4, [.int (if (ht + (k * (groOf so))) < 3000 then (ht + (k * (groOf so))) else 3000), .int so, .int lo, .int br, .int da]))) a (.inr (4, [.int (if (ht + (k * (groOf so))) < 3000 then (ht + (k * (groOf so))) else 3000), .int so, .int lo, .int br, .int (da + k)]))) H := hP
  refine g_retv hx hb hr hlk hP hS dX4_raise_31 ?_
  exact ⟨rfl, by rw [gup_gup]; rfl⟩
set_option maxHeartbeats 1000000 in
set_option maxRecDepth 100000 in
theorem kX4_daysTo (l : Launch) (E : gT) (A : Nat → Prop) (n : Nat) (G : gH) (a : Nat) (ht so lo br da : Int32) (k : Int32) (fa : G a = some (.inr (4, [.int ht, .int so, .int lo, .int br, .int da]))) : gM l yX4_daysTo wsX4_daysTo ({ frames := 1, cells := 0, slots := 0, locals := 21 } : Room) E A n G [.ref a, .int k] (gQi E A (fun r' n' G' => (if ht < k then divUp (k - ht) (groOf so) else 0) = r' ∧ n = n' ∧ G = G')) 0 0 := by
  refine g_entry (by decide) rfl (Nat.le_of_ble_eq_true rfl) ?_
  intro p e s m below meth c0 hx hb hr hlk hml hown hnm hts hK H locs ls hP hS hl
  have hin4 : ∀ w ∈ u_ws RX4 TX4 5, w ∈ wsX4_daysTo := by decide +kernel
  have hf9 := hts (.fieldLink RX4 9 "DikeHands$Rod" "height" "I") (by decide +kernel)
  have hl : lv_has ls 2 [(0, .ref a), (1, .int k)] := hl
  refine lv_iload_n hx hb dX4_daysTo_0 rfl (lv_at hl 1 rfl) ?_
  refine lv_aload_n hx hb dX4_daysTo_1 rfl (lv_at hl 0 rfl) ?_
  refine g_get (ci := 4) hx hb hts hin4 hown hK hP fa rfl 0 (by decide) hf9 rfl rfl dX4_daysTo_2 ?_
  refine lv_icmp_gt (tgt := 12) hx hb dX4_daysTo_5 (by decide) (fun b5 => ?_) (fun b5 => ?_)
  · refine lv_iload_n hx hb dX4_daysTo_12 rfl (lv_at hl 1 rfl) ?_
    refine lv_aload_n hx hb dX4_daysTo_13 rfl (lv_at hl 0 rfl) ?_
    refine g_get (ci := 4) hx hb hts hin4 hown hK hP fa rfl 0 (by decide) hf9 rfl rfl dX4_daysTo_14 ?_
    refine lv_isub hx hb dX4_daysTo_17 ?_
    refine lv_aload_n hx hb dX4_daysTo_18 rfl (lv_at hl 0 rfl) ?_
    refine g_ci (g_runV (As := []) (rest := [.int (k - ht)]) ⟨hx, hb, hml, hown, hts⟩ hK hP (kX4_growthOfDay l E A n G a ht so lo br da  fa) (cwV 0 hts gX4_daysTo_X4_growthOfDay rfl rfl rfl (by decide +kernel) ⟨Nat.le_of_ble_eq_true rfl, Nat.le_of_ble_eq_true rfl⟩) fa rfl rfl hl.1 rfl (Nat.le_of_ble_eq_true rfl) dX4_daysTo_19 ⟨Nat.le_of_ble_eq_true rfl, Nat.le_of_ble_eq_true rfl⟩) hS (fun r19 n' G' H locs hw hP hS => ?_)
    obtain ⟨rfl, rfl, rfl⟩ := hw
    refine g_ci (g_runSN (As := [.int (k - ht), .int (groOf so)]) (rest := []) ⟨hx, hb, hml, hown, hts⟩ hK hP (kX8_dividedUp l E A n G (k - ht) (groOf so)) ⟨va_cnB 2 hts gX4_daysTo_X8_dividedUp_n35 rfl rfl rfl hK.2.2.2.2.2.2.1 (hts (.initialized RX8) (by decide +kernel)) (by decide +kernel) ⟨Nat.le_of_ble_eq_true rfl, Nat.le_of_ble_eq_true rfl⟩, hts (.static yX8_dividedUp) (by decide +kernel), trivial⟩ rfl hl.1 rfl (Nat.le_of_ble_eq_true rfl) dX4_daysTo_22 ⟨Nat.le_of_ble_eq_true rfl, Nat.le_of_ble_eq_true rfl⟩) hS (fun r22 n' G' H locs hw hP hS => ?_)
    obtain ⟨rfl, rfl, rfl⟩ := hw
    refine g_reti hx hb hr hlk hP hS dX4_daysTo_25 ?_
    exact ⟨by first | (simp [b5, Int32.not_le.mpr b5]; done) | (exfalso; simp_all; done), rfl, rfl⟩
  · refine lv_iconst (v := 0) hx hb dX4_daysTo_8 (by decide) ?_
    refine lv_goto (tgt := 25) hx hb dX4_daysTo_9 (by decide) ?_
    refine g_reti hx hb hr hlk hP hS dX4_daysTo_25 ?_
    exact ⟨by first | (simp [b5, Int32.not_lt.mp b5]; done) | (exfalso; simp_all; done), rfl, rfl⟩
set_option maxHeartbeats 1000000 in
set_option maxRecDepth 100000 in
theorem kX4_wear (l : Launch) (E : gT) (A : Nat → Prop) (n : Nat) (G : gH) (a : Nat) (ht so lo br da : Int32) (k : Int32) (fa : G a = some (.inr (4, [.int ht, .int so, .int lo, .int br, .int da]))) : gM l yX4_wear wsX4_wear ({ frames := 0, cells := 0, slots := 0, locals := 0 } : Room) E A n G [.ref a, .int k] (gQi E A (fun r' n' G' => (if k ≤ ht then 0 else lo) = r' ∧ n = n' ∧ (gup G a (if k ≤ ht then .inr (4, [.int (ht - k / 100), .int so, .int lo, .int br, .int da]) else .inr (4, [.int 0, .int so, .int lo, .int (br + 1), .int da]))) = G')) 0 0 := by
  refine g_entry (by decide) rfl (Nat.le_of_ble_eq_true rfl) ?_
  intro p e s m below meth c0 hx hb hr hlk hml hown hnm hts hK H locs ls hP hS hl
  have hin4 : ∀ w ∈ u_ws RX4 TX4 5, w ∈ wsX4_wear := by decide +kernel
  have hf9 := hts (.fieldLink RX4 9 "DikeHands$Rod" "height" "I") (by decide +kernel)
  have hf16 := hts (.fieldLink RX4 16 "DikeHands$Rod" "loss" "I") (by decide +kernel)
  have hf19 := hts (.fieldLink RX4 19 "DikeHands$Rod" "breaks" "I") (by decide +kernel)
  have hl : lv_has ls 2 [(0, .ref a), (1, .int k)] := hl
  refine lv_iload_n hx hb dX4_wear_0 rfl (lv_at hl 1 rfl) ?_
  refine lv_aload_n hx hb dX4_wear_1 rfl (lv_at hl 0 rfl) ?_
  refine g_get (ci := 4) hx hb hts hin4 hown hK hP fa rfl 0 (by decide) hf9 rfl rfl dX4_wear_2 ?_
  refine lv_icmp_le (tgt := 28) hx hb dX4_wear_5 (by decide) (fun b5 => ?_) (fun b5 => ?_)
  · refine lv_aload_n hx hb dX4_wear_28 rfl (lv_at hl 0 rfl) ?_
    refine lv_dup hx hb dX4_wear_29 rfl ?_
    refine g_get (ci := 4) hx hb hts hin4 hown hK hP fa rfl 0 (by decide) hf9 rfl rfl dX4_wear_30 ?_
    refine lv_iload_n hx hb dX4_wear_33 rfl (lv_at hl 1 rfl) ?_
    refine lv_bipush (v := 100) hx hb dX4_wear_34 (by decide) ?_
    refine lv_idiv hx hb dX4_wear_36 (by decide) ?_
    refine lv_isub hx hb dX4_wear_37 ?_
    refine g_put (ci := 4) (ty := .int) (v := .int (ht - (k / 100))) hx hb hts hin4 tyX4 tyX4_ok nmX4 hown hK hP hS fa rfl 0 (by decide) hf9 rfl (Or.inl rfl) (by decide +kernel) rfl rfl (Nat.le_of_ble_eq_true rfl) dX4_wear_38 (fun H locs hP hS => ?_)
    have q3_a : (gup G a (.inr (4, [.int (ht - (k / 100)), .int so, .int lo, .int br, .int da]))) a = some (.inr (4, [.int (ht - (k / 100)), .int so, .int lo, .int br, .int da])) := gup_s
    have hP : gP E A n (gup G a (.inr (4, [.int (ht - (k / 100)), .int so, .int lo, .int br, .int da]))) H := hP
    refine lv_iconst (v := 0) hx hb dX4_wear_41 (by decide) ?_
    refine g_reti hx hb hr hlk hP hS dX4_wear_42 ?_
    exact ⟨by first | (simp [b5, Int32.not_lt.mpr b5]; done) | (exfalso; simp_all; done), rfl, by first | (simp [gup_gup, b5, Int32.not_lt.mpr b5]; done) | (exfalso; simp_all; done)⟩
  · refine lv_aload_n hx hb dX4_wear_8 rfl (lv_at hl 0 rfl) ?_
    refine lv_iconst (v := 0) hx hb dX4_wear_9 (by decide) ?_
    refine g_put (ci := 4) (ty := .int) (v := .int 0) hx hb hts hin4 tyX4 tyX4_ok nmX4 hown hK hP hS fa rfl 0 (by decide) hf9 rfl (Or.inl rfl) (by decide +kernel) rfl rfl (Nat.le_of_ble_eq_true rfl) dX4_wear_10 (fun H locs hP hS => ?_)
    have q4_a : (gup G a (.inr (4, [.int 0, .int so, .int lo, .int br, .int da]))) a = some (.inr (4, [.int 0, .int so, .int lo, .int br, .int da])) := gup_s
    have hP : gP E A n (gup G a (.inr (4, [.int 0, .int so, .int lo, .int br, .int da]))) H := hP
    refine lv_aload_n hx hb dX4_wear_13 rfl (lv_at hl 0 rfl) ?_
    refine lv_dup hx hb dX4_wear_14 rfl ?_
    refine g_get (ci := 4) hx hb hts hin4 hown hK hP q4_a rfl 3 (by decide) hf19 rfl rfl dX4_wear_15 ?_
    refine lv_iconst (v := 1) hx hb dX4_wear_18 (by decide) ?_
    refine lv_iadd hx hb dX4_wear_19 ?_
    refine g_put (ci := 4) (ty := .int) (v := .int (br + 1)) hx hb hts hin4 tyX4 tyX4_ok nmX4 hown hK hP hS q4_a rfl 3 (by decide) hf19 rfl (Or.inl rfl) (by decide +kernel) rfl rfl (Nat.le_of_ble_eq_true rfl) dX4_wear_20 (fun H locs hP hS => ?_)
    have q5_a : (gup (gup G a (.inr (4, [.int 0, .int so, .int lo, .int br, .int da]))) a (.inr (4, [.int 0, .int so, .int lo, .int (br + 1), .int da]))) a = some (.inr (4, [.int 0, .int so, .int lo, .int (br + 1), .int da])) := gup_s
    have hP : gP E A n (gup (gup G a (.inr (4, [.int 0, .int so, .int lo, .int br, .int da]))) a (.inr (4, [.int 0, .int so, .int lo, .int (br + 1), .int da]))) H := hP
    refine lv_aload_n hx hb dX4_wear_23 rfl (lv_at hl 0 rfl) ?_
    refine g_get (ci := 4) hx hb hts hin4 hown hK hP q5_a rfl 2 (by decide) hf16 rfl rfl dX4_wear_24 ?_
    refine g_reti hx hb hr hlk hP hS dX4_wear_27 ?_
    exact ⟨by first | (simp [b5, Int32.not_le.mp b5]; done) | (exfalso; simp_all; done), rfl, by first | (simp [gup_gup, b5, Int32.not_le.mp b5]; done) | (exfalso; simp_all; done)⟩
set_option maxHeartbeats 1000000 in
set_option maxRecDepth 100000 in
theorem kX4_init (l : Launch) (E : gT) (A : Nat → Prop) (n : Nat) (G : gH) (a : Nat) (fa : G a = some (.inr (4, [.int 0, .int 0, .int 0, .int 0, .int 0]))) : gM l yX4_init wsX4_init ({ frames := 1, cells := 0, slots := 0, locals := 20 } : Room) E A n G [.ref a] (gQv E A (fun n' G' => n = n' ∧ (gup G a (.inr (4, [.int 1000, .int 0, .int 0, .int 0, .int 0]))) = G')) 0 0 := by
  refine g_entry (by decide) rfl (Nat.le_of_ble_eq_true rfl) ?_
  intro p e s m below meth c0 hx hb hr hlk hml hown hnm hts hK H locs ls hP hS hl
  have hin4 : ∀ w ∈ u_ws RX4 TX4 5, w ∈ wsX4_init := by decide +kernel
  have hf9 := hts (.fieldLink RX4 9 "DikeHands$Rod" "height" "I") (by decide +kernel)
  have hf13 := hts (.fieldLink RX4 13 "DikeHands$Rod" "soil" "I") (by decide +kernel)
  have hf16 := hts (.fieldLink RX4 16 "DikeHands$Rod" "loss" "I") (by decide +kernel)
  have hf19 := hts (.fieldLink RX4 19 "DikeHands$Rod" "breaks" "I") (by decide +kernel)
  have hf22 := hts (.fieldLink RX4 22 "DikeHands$Rod" "days" "I") (by decide +kernel)
  have hl : lv_has ls 1 [(0, .ref a)] := hl
  refine lv_aload_n hx hb dX4_init_0 rfl (lv_at hl 0 rfl) ?_
  refine W.objInit hx hb hown (hts (.methodLink RX4 1 objectInit) (by decide +kernel)) (hts (.instanceMethod objectInit) (by decide +kernel)) (hts (.code objectInit ⟨#[0xb1]⟩ 1 none) (by decide +kernel)) rfl (by rw [hml]; exact hl.1) rfl dX4_init_1 (Nat.le_of_ble_eq_true rfl) (Nat.le_of_ble_eq_true rfl) ?_
  refine W.eq (g2 := F0 m 4 ls []) rfl ?_
  refine lv_aload_n hx hb dX4_init_4 rfl (lv_at hl 0 rfl) ?_
  refine lv_sipush (v := 1000) hx hb dX4_init_5 (by decide) ?_
  refine g_put (ci := 4) (ty := .int) (v := .int 1000) hx hb hts hin4 tyX4 tyX4_ok nmX4 hown hK hP hS fa rfl 0 (by decide) hf9 rfl (Or.inl rfl) (by decide +kernel) rfl rfl (Nat.le_of_ble_eq_true rfl) dX4_init_8 (fun H locs hP hS => ?_)
  have q6_a : (gup G a (.inr (4, [.int 1000, .int 0, .int 0, .int 0, .int 0]))) a = some (.inr (4, [.int 1000, .int 0, .int 0, .int 0, .int 0])) := gup_s
  have hP : gP E A n (gup G a (.inr (4, [.int 1000, .int 0, .int 0, .int 0, .int 0]))) H := hP
  refine lv_aload_n hx hb dX4_init_11 rfl (lv_at hl 0 rfl) ?_
  refine lv_iconst (v := 0) hx hb dX4_init_12 (by decide) ?_
  refine g_put (ci := 4) (ty := .int) (v := .int 0) hx hb hts hin4 tyX4 tyX4_ok nmX4 hown hK hP hS q6_a rfl 1 (by decide) hf13 rfl (Or.inl rfl) (by decide +kernel) rfl rfl (Nat.le_of_ble_eq_true rfl) dX4_init_13 (fun H locs hP hS => ?_)
  have q7_a : (gup (gup G a (.inr (4, [.int 1000, .int 0, .int 0, .int 0, .int 0]))) a (.inr (4, [.int 1000, .int 0, .int 0, .int 0, .int 0]))) a = some (.inr (4, [.int 1000, .int 0, .int 0, .int 0, .int 0])) := gup_s
  have hP : gP E A n (gup (gup G a (.inr (4, [.int 1000, .int 0, .int 0, .int 0, .int 0]))) a (.inr (4, [.int 1000, .int 0, .int 0, .int 0, .int 0]))) H := hP
  refine lv_aload_n hx hb dX4_init_16 rfl (lv_at hl 0 rfl) ?_
  refine lv_iconst (v := 0) hx hb dX4_init_17 (by decide) ?_
  refine g_put (ci := 4) (ty := .int) (v := .int 0) hx hb hts hin4 tyX4 tyX4_ok nmX4 hown hK hP hS q7_a rfl 2 (by decide) hf16 rfl (Or.inl rfl) (by decide +kernel) rfl rfl (Nat.le_of_ble_eq_true rfl) dX4_init_18 (fun H locs hP hS => ?_)
  have q8_a : (gup (gup (gup G a (.inr (4, [.int 1000, .int 0, .int 0, .int 0, .int 0]))) a (.inr (4, [.int 1000, .int 0, .int 0, .int 0, .int 0]))) a (.inr (4, [.int 1000, .int 0, .int 0, .int 0, .int 0]))) a = some (.inr (4, [.int 1000, .int 0, .int 0, .int 0, .int 0])) := gup_s
  have hP : gP E A n (gup (gup (gup G a (.inr (4, [.int 1000, .int 0, .int 0, .int 0, .int 0]))) a (.inr (4, [.int 1000, .int 0, .int 0, .int 0, .int 0]))) a (.inr (4, [.int 1000, .int 0, .int 0, .int 0, .int 0]))) H := hP
  refine lv_aload_n hx hb dX4_init_21 rfl (lv_at hl 0 rfl) ?_
  refine lv_iconst (v := 0) hx hb dX4_init_22 (by decide) ?_
  refine g_put (ci := 4) (ty := .int) (v := .int 0) hx hb hts hin4 tyX4 tyX4_ok nmX4 hown hK hP hS q8_a rfl 3 (by decide) hf19 rfl (Or.inl rfl) (by decide +kernel) rfl rfl (Nat.le_of_ble_eq_true rfl) dX4_init_23 (fun H locs hP hS => ?_)
  have q9_a : (gup (gup (gup (gup G a (.inr (4, [.int 1000, .int 0, .int 0, .int 0, .int 0]))) a (.inr (4, [.int 1000, .int 0, .int 0, .int 0, .int 0]))) a (.inr (4, [.int 1000, .int 0, .int 0, .int 0, .int 0]))) a (.inr (4, [.int 1000, .int 0, .int 0, .int 0, .int 0]))) a = some (.inr (4, [.int 1000, .int 0, .int 0, .int 0, .int 0])) := gup_s
  have hP : gP E A n (gup (gup (gup (gup G a (.inr (4, [.int 1000, .int 0, .int 0, .int 0, .int 0]))) a (.inr (4, [.int 1000, .int 0, .int 0, .int 0, .int 0]))) a (.inr (4, [.int 1000, .int 0, .int 0, .int 0, .int 0]))) a (.inr (4, [.int 1000, .int 0, .int 0, .int 0, .int 0]))) H := hP
  refine lv_aload_n hx hb dX4_init_26 rfl (lv_at hl 0 rfl) ?_
  refine lv_iconst (v := 0) hx hb dX4_init_27 (by decide) ?_
  refine g_put (ci := 4) (ty := .int) (v := .int 0) hx hb hts hin4 tyX4 tyX4_ok nmX4 hown hK hP hS q9_a rfl 4 (by decide) hf22 rfl (Or.inl rfl) (by decide +kernel) rfl rfl (Nat.le_of_ble_eq_true rfl) dX4_init_28 (fun H locs hP hS => ?_)
  have q10_a : (gup (gup (gup (gup (gup G a (.inr (4, [.int 1000, .int 0, .int 0, .int 0, .int 0]))) a (.inr (4, [.int 1000, .int 0, .int 0, .int 0, .int 0]))) a (.inr (4, [.int 1000, .int 0, .int 0, .int 0, .int 0]))) a (.inr (4, [.int 1000, .int 0, .int 0, .int 0, .int 0]))) a (.inr (4, [.int 1000, .int 0, .int 0, .int 0, .int 0]))) a = some (.inr (4, [.int 1000, .int 0, .int 0, .int 0, .int 0])) := gup_s
  have hP : gP E A n (gup (gup (gup (gup (gup G a (.inr (4, [.int 1000, .int 0, .int 0, .int 0, .int 0]))) a (.inr (4, [.int 1000, .int 0, .int 0, .int 0, .int 0]))) a (.inr (4, [.int 1000, .int 0, .int 0, .int 0, .int 0]))) a (.inr (4, [.int 1000, .int 0, .int 0, .int 0, .int 0]))) a (.inr (4, [.int 1000, .int 0, .int 0, .int 0, .int 0]))) H := hP
  refine g_retv hx hb hr hlk hP hS dX4_init_31 ?_
  exact ⟨rfl, by simp only [gup_gup]⟩
set_option maxHeartbeats 1000000 in
set_option maxRecDepth 100000 in
theorem kX6_init (l : Launch) (E : gT) (A : Nat → Prop) (n : Nat) (G : gH) (a : Nat) (fa : G a = some (.inr (6, [.int 0, .null, .null]))) : gM l yX6_init wsX6_init ({ frames := 1, cells := 0, slots := 0, locals := 20 } : Room) E A n G [.ref a] (gQv E A (fun n' G' => n = n' ∧ (gup G a (.inr (6, [.int 0, .null, .null]))) = G')) 0 0 := by
  refine g_entry (by decide) rfl (Nat.le_of_ble_eq_true rfl) ?_
  intro p e s m below meth c0 hx hb hr hlk hml hown hnm hts hK H locs ls hP hS hl
  have hin6 : ∀ w ∈ u_ws RX6 TX6 3, w ∈ wsX6_init := by decide +kernel
  have hf7 := hts (.fieldLink RX6 7 "DikeHands$Village" "mile" "I") (by decide +kernel)
  have hl : lv_has ls 1 [(0, .ref a)] := hl
  refine lv_aload_n hx hb dX6_init_0 rfl (lv_at hl 0 rfl) ?_
  refine W.objInit hx hb hown (hts (.methodLink RX6 1 objectInit) (by decide +kernel)) (hts (.instanceMethod objectInit) (by decide +kernel)) (hts (.code objectInit ⟨#[0xb1]⟩ 1 none) (by decide +kernel)) rfl (by rw [hml]; exact hl.1) rfl dX6_init_1 (Nat.le_of_ble_eq_true rfl) (Nat.le_of_ble_eq_true rfl) ?_
  refine W.eq (g2 := F0 m 4 ls []) rfl ?_
  refine lv_aload_n hx hb dX6_init_4 rfl (lv_at hl 0 rfl) ?_
  refine lv_iconst (v := 0) hx hb dX6_init_5 (by decide) ?_
  refine g_put (ci := 6) (ty := .int) (v := .int 0) hx hb hts hin6 tyX6 tyX6_ok nmX6 hown hK hP hS fa rfl 0 (by decide) hf7 rfl (Or.inl rfl) (by decide +kernel) rfl rfl (Nat.le_of_ble_eq_true rfl) dX6_init_6 (fun H locs hP hS => ?_)
  have q11_a : (gup G a (.inr (6, [.int 0, .null, .null]))) a = some (.inr (6, [.int 0, .null, .null])) := gup_s
  have hP : gP E A n (gup G a (.inr (6, [.int 0, .null, .null]))) H := hP
  refine g_retv hx hb hr hlk hP hS dX6_init_9 ?_
  exact ⟨rfl, rfl⟩
set_option maxHeartbeats 1000000 in
set_option maxRecDepth 100000 in
theorem kX7_init (l : Launch) (E : gT) (A : Nat → Prop) (n : Nat) (G : gH) (a : Nat) (k : Int32) (fa : G a = some (.inr (7, [.int 0, .int 0, .null]))) : gM l yX7_init wsX7_init ({ frames := 1, cells := 0, slots := 0, locals := 20 } : Room) E A n G [.ref a, .int k] (gQv E A (fun n' G' => n = n' ∧ (gup G a (.inr (7, [.int k, .int 0, .null]))) = G')) 0 0 := by
  refine g_entry (by decide) rfl (Nat.le_of_ble_eq_true rfl) ?_
  intro p e s m below meth c0 hx hb hr hlk hml hown hnm hts hK H locs ls hP hS hl
  have hin7 : ∀ w ∈ u_ws RX7 TX7 3, w ∈ wsX7_init := by decide +kernel
  have hf7 := hts (.fieldLink RX7 7 "DikeHands$WorkWeek" "week" "I") (by decide +kernel)
  have hl : lv_has ls 2 [(0, .ref a), (1, .int k)] := hl
  refine lv_aload_n hx hb dX7_init_0 rfl (lv_at hl 0 rfl) ?_
  refine W.objInit hx hb hown (hts (.methodLink RX7 1 objectInit) (by decide +kernel)) (hts (.instanceMethod objectInit) (by decide +kernel)) (hts (.code objectInit ⟨#[0xb1]⟩ 1 none) (by decide +kernel)) rfl (by rw [hml]; exact hl.1) rfl dX7_init_1 (Nat.le_of_ble_eq_true rfl) (Nat.le_of_ble_eq_true rfl) ?_
  refine W.eq (g2 := F0 m 4 ls []) rfl ?_
  refine lv_aload_n hx hb dX7_init_4 rfl (lv_at hl 0 rfl) ?_
  refine lv_iload_n hx hb dX7_init_5 rfl (lv_at hl 1 rfl) ?_
  refine g_put (ci := 7) (ty := .int) (v := .int k) hx hb hts hin7 tyX7 tyX7_ok nmX7 hown hK hP hS fa rfl 0 (by decide) hf7 rfl (Or.inr ⟨rfl, hnm, rfl⟩) (by decide +kernel) rfl rfl (Nat.le_of_ble_eq_true rfl) dX7_init_6 (fun H locs hP hS => ?_)
  have q12_a : (gup G a (.inr (7, [.int k, .int 0, .null]))) a = some (.inr (7, [.int k, .int 0, .null])) := gup_s
  have hP : gP E A n (gup G a (.inr (7, [.int k, .int 0, .null]))) H := hP
  refine g_retv hx hb hr hlk hP hS dX7_init_9 ?_
  exact ⟨rfl, rfl⟩
set_option maxHeartbeats 1000000 in
set_option maxRecDepth 100000 in
theorem kX5_init (l : Launch) (E : gT) (A : Nat → Prop) (n : Nat) (G : gH) (a : Nat) (x y z w : Int32) (r : Option Nat) (fa : G a = some (.inr (5, [.int 0, .int 0, .int 0, .int 0, .null]))) : gM l yX5_init wsX5_init ({ frames := 1, cells := 0, slots := 0, locals := 20 } : Room) E A n G [.ref a, .int x, .int y, .int z, .int w, va_rf r] (gQv E A (fun n' G' => n = n' ∧ (gup G a (.inr (5, [.int x, .int y, .int z, .int w, va_rf r]))) = G')) 0 0 := by
  refine g_entry (by decide) rfl (by cases r <;> exact Nat.le_of_ble_eq_true rfl) ?_
  intro p e s m below meth c0 hx hb hr hlk hml hown hnm hts hK H locs ls hP hS hl
  have hin5 : ∀ w ∈ u_ws RX5 TX5 5, w ∈ wsX5_init := by decide +kernel
  have hf7 := hts (.fieldLink RX5 7 "DikeHands$Telling" "told" "I") (by decide +kernel)
  have hf13 := hts (.fieldLink RX5 13 "DikeHands$Telling" "from" "I") (by decide +kernel)
  have hf16 := hts (.fieldLink RX5 16 "DikeHands$Telling" "acres" "I") (by decide +kernel)
  have hf19 := hts (.fieldLink RX5 19 "DikeHands$Telling" "hands" "I") (by decide +kernel)
  have hf22 := hts (.fieldLink RX5 22 "DikeHands$Telling" "earlier" "LDikeHands$Telling;") (by decide +kernel)
  have hl : lv_has ls 6 [(0, .ref a), (1, .int x), (2, .int y), (3, .int z), (4, .int w), (5, va_rf r)] := hl
  refine lv_aload_n hx hb dX5_init_0 rfl (lv_at hl 0 rfl) ?_
  refine W.objInit hx hb hown (hts (.methodLink RX5 1 objectInit) (by decide +kernel)) (hts (.instanceMethod objectInit) (by decide +kernel)) (hts (.code objectInit ⟨#[0xb1]⟩ 1 none) (by decide +kernel)) rfl (by rw [hml]; exact hl.1) rfl dX5_init_1 (Nat.le_of_ble_eq_true rfl) (Nat.le_of_ble_eq_true rfl) ?_
  refine W.eq (g2 := F0 m 4 ls []) rfl ?_
  refine lv_aload_n hx hb dX5_init_4 rfl (lv_at hl 0 rfl) ?_
  refine lv_iload_n hx hb dX5_init_5 rfl (lv_at hl 1 rfl) ?_
  refine g_put (ci := 5) (ty := .int) (v := .int x) hx hb hts hin5 tyX5 tyX5_ok nmX5 hown hK hP hS fa rfl 0 (by decide) hf7 rfl (Or.inr ⟨rfl, hnm, rfl⟩) (by decide +kernel) rfl rfl (Nat.le_of_ble_eq_true rfl) dX5_init_6 (fun H locs hP hS => ?_)
  have q13_a : (gup G a (.inr (5, [.int x, .int 0, .int 0, .int 0, .null]))) a = some (.inr (5, [.int x, .int 0, .int 0, .int 0, .null])) := gup_s
  have hP : gP E A n (gup G a (.inr (5, [.int x, .int 0, .int 0, .int 0, .null]))) H := hP
  refine lv_aload_n hx hb dX5_init_9 rfl (lv_at hl 0 rfl) ?_
  refine lv_iload_n hx hb dX5_init_10 rfl (lv_at hl 2 rfl) ?_
  refine g_put (ci := 5) (ty := .int) (v := .int y) hx hb hts hin5 tyX5 tyX5_ok nmX5 hown hK hP hS q13_a rfl 1 (by decide) hf13 rfl (Or.inr ⟨rfl, hnm, rfl⟩) (by decide +kernel) rfl rfl (Nat.le_of_ble_eq_true rfl) dX5_init_11 (fun H locs hP hS => ?_)
  have q14_a : (gup (gup G a (.inr (5, [.int x, .int 0, .int 0, .int 0, .null]))) a (.inr (5, [.int x, .int y, .int 0, .int 0, .null]))) a = some (.inr (5, [.int x, .int y, .int 0, .int 0, .null])) := gup_s
  have hP : gP E A n (gup (gup G a (.inr (5, [.int x, .int 0, .int 0, .int 0, .null]))) a (.inr (5, [.int x, .int y, .int 0, .int 0, .null]))) H := hP
  refine lv_aload_n hx hb dX5_init_14 rfl (lv_at hl 0 rfl) ?_
  refine lv_iload_n hx hb dX5_init_15 rfl (lv_at hl 3 rfl) ?_
  refine g_put (ci := 5) (ty := .int) (v := .int z) hx hb hts hin5 tyX5 tyX5_ok nmX5 hown hK hP hS q14_a rfl 2 (by decide) hf16 rfl (Or.inr ⟨rfl, hnm, rfl⟩) (by decide +kernel) rfl rfl (Nat.le_of_ble_eq_true rfl) dX5_init_16 (fun H locs hP hS => ?_)
  have q15_a : (gup (gup (gup G a (.inr (5, [.int x, .int 0, .int 0, .int 0, .null]))) a (.inr (5, [.int x, .int y, .int 0, .int 0, .null]))) a (.inr (5, [.int x, .int y, .int z, .int 0, .null]))) a = some (.inr (5, [.int x, .int y, .int z, .int 0, .null])) := gup_s
  have hP : gP E A n (gup (gup (gup G a (.inr (5, [.int x, .int 0, .int 0, .int 0, .null]))) a (.inr (5, [.int x, .int y, .int 0, .int 0, .null]))) a (.inr (5, [.int x, .int y, .int z, .int 0, .null]))) H := hP
  refine lv_aload_n hx hb dX5_init_19 rfl (lv_at hl 0 rfl) ?_
  refine lv_iload hx hb dX5_init_20 (lv_at hl 4 rfl) ?_
  refine g_put (ci := 5) (ty := .int) (v := .int w) hx hb hts hin5 tyX5 tyX5_ok nmX5 hown hK hP hS q15_a rfl 3 (by decide) hf19 rfl (Or.inr ⟨rfl, hnm, rfl⟩) (by decide +kernel) rfl rfl (Nat.le_of_ble_eq_true rfl) dX5_init_22 (fun H locs hP hS => ?_)
  have q16_a : (gup (gup (gup (gup G a (.inr (5, [.int x, .int 0, .int 0, .int 0, .null]))) a (.inr (5, [.int x, .int y, .int 0, .int 0, .null]))) a (.inr (5, [.int x, .int y, .int z, .int 0, .null]))) a (.inr (5, [.int x, .int y, .int z, .int w, .null]))) a = some (.inr (5, [.int x, .int y, .int z, .int w, .null])) := gup_s
  have hP : gP E A n (gup (gup (gup (gup G a (.inr (5, [.int x, .int 0, .int 0, .int 0, .null]))) a (.inr (5, [.int x, .int y, .int 0, .int 0, .null]))) a (.inr (5, [.int x, .int y, .int z, .int 0, .null]))) a (.inr (5, [.int x, .int y, .int z, .int w, .null]))) H := hP
  refine lv_aload_n hx hb dX5_init_25 rfl (lv_at hl 0 rfl) ?_
  refine lv_aloadQ hx hb dX5_init_26 (lv_at hl 5 rfl) ?_
  refine g_put (ci := 5) (ty := (.object "DikeHands$Telling")) (v := va_rf r) hx hb hts hin5 tyX5 tyX5_ok nmX5 hown hK hP hS q16_a rfl 4 (by decide) hf22 rfl (Or.inr ⟨rfl, hnm, rfl⟩) (by decide +kernel) (nar_q _ _) (fit_q _ _) (Nat.le_of_ble_eq_true rfl) dX5_init_28 (fun H locs hP hS => ?_)
  have q17_a : (gup (gup (gup (gup (gup G a (.inr (5, [.int x, .int 0, .int 0, .int 0, .null]))) a (.inr (5, [.int x, .int y, .int 0, .int 0, .null]))) a (.inr (5, [.int x, .int y, .int z, .int 0, .null]))) a (.inr (5, [.int x, .int y, .int z, .int w, .null]))) a (.inr (5, [.int x, .int y, .int z, .int w, va_rf r]))) a = some (.inr (5, [.int x, .int y, .int z, .int w, va_rf r])) := gup_s
  have hP : gP E A n (gup (gup (gup (gup (gup G a (.inr (5, [.int x, .int 0, .int 0, .int 0, .null]))) a (.inr (5, [.int x, .int y, .int 0, .int 0, .null]))) a (.inr (5, [.int x, .int y, .int z, .int 0, .null]))) a (.inr (5, [.int x, .int y, .int z, .int w, .null]))) a (.inr (5, [.int x, .int y, .int z, .int w, va_rf r]))) H := hP
  refine g_retv hx hb hr hlk hP hS dX5_init_31 ?_
  exact ⟨rfl, by simp only [gup_gup]⟩
set_option maxHeartbeats 1000000 in
set_option maxRecDepth 100000 in
theorem kX1_init (l : Launch) (E : gT) (A : Nat → Prop) (n : Nat) (G : gH) (a : Nat) (y w k : Int32) (fa : G a = some (.inr (1, [.int 0, .int 0, .int 0, .int 0, .int 0]))) : gM l yX1_init wsX1_init ({ frames := 1, cells := 0, slots := 0, locals := 20 } : Room) E A n G [.ref a, .int y, .int w, .int k] (gQv E A (fun n' G' => n = n' ∧ (gup G a (.inr (1, [.int y, .int (w / 10000), .int (rem32 w 10000 / 1000), .int (rem32 w 1000), .int k]))) = G')) 0 0 := by
  refine g_entry (by decide) rfl (Nat.le_of_ble_eq_true rfl) ?_
  intro p e s m below meth c0 hx hb hr hlk hml hown hnm hts hK H locs ls hP hS hl
  have hin1 : ∀ w ∈ u_ws RX1 TX1 5, w ∈ wsX1_init := by decide +kernel
  have hf9 := hts (.fieldLink RX1 9 "DikeHands$Law" "year" "I") (by decide +kernel)
  have hf15 := hts (.fieldLink RX1 15 "DikeHands$Law" "daysForTenAcres" "I") (by decide +kernel)
  have hf18 := hts (.fieldLink RX1 18 "DikeHands$Law" "daysForHand" "I") (by decide +kernel)
  have hf21 := hts (.fieldLink RX1 21 "DikeHands$Law" "exempt" "I") (by decide +kernel)
  have hf24 := hts (.fieldLink RX1 24 "DikeHands$Law" "coin" "I") (by decide +kernel)
  have hl : lv_has ls 4 [(0, .ref a), (1, .int y), (2, .int w), (3, .int k)] := hl
  refine lv_aload_n hx hb dX1_init_0 rfl (lv_at hl 0 rfl) ?_
  refine W.objInit hx hb hown (hts (.methodLink RX1 3 objectInit) (by decide +kernel)) (hts (.instanceMethod objectInit) (by decide +kernel)) (hts (.code objectInit ⟨#[0xb1]⟩ 1 none) (by decide +kernel)) rfl (by rw [hml]; exact hl.1) rfl dX1_init_1 (Nat.le_of_ble_eq_true rfl) (Nat.le_of_ble_eq_true rfl) ?_
  refine W.eq (g2 := F0 m 4 ls []) rfl ?_
  refine lv_aload_n hx hb dX1_init_4 rfl (lv_at hl 0 rfl) ?_
  refine lv_iload_n hx hb dX1_init_5 rfl (lv_at hl 1 rfl) ?_
  refine g_put (ci := 1) (ty := .int) (v := .int y) hx hb hts hin1 tyX1 tyX1_ok nmX1 hown hK hP hS fa rfl 0 (by decide) hf9 rfl (Or.inr ⟨rfl, hnm, rfl⟩) (by decide +kernel) rfl rfl (Nat.le_of_ble_eq_true rfl) dX1_init_6 (fun H locs hP hS => ?_)
  have q18_a : (gup G a (.inr (1, [.int y, .int 0, .int 0, .int 0, .int 0]))) a = some (.inr (1, [.int y, .int 0, .int 0, .int 0, .int 0])) := gup_s
  have hP : gP E A n (gup G a (.inr (1, [.int y, .int 0, .int 0, .int 0, .int 0]))) H := hP
  refine lv_aload_n hx hb dX1_init_9 rfl (lv_at hl 0 rfl) ?_
  refine lv_iload_n hx hb dX1_init_10 rfl (lv_at hl 2 rfl) ?_
  refine lv_sipush (v := 10000) hx hb dX1_init_11 (by decide) ?_
  refine lv_idiv hx hb dX1_init_14 (by decide) ?_
  refine g_put (ci := 1) (ty := .int) (v := .int (w / 10000)) hx hb hts hin1 tyX1 tyX1_ok nmX1 hown hK hP hS q18_a rfl 1 (by decide) hf15 rfl (Or.inr ⟨rfl, hnm, rfl⟩) (by decide +kernel) rfl rfl (Nat.le_of_ble_eq_true rfl) dX1_init_15 (fun H locs hP hS => ?_)
  have q19_a : (gup (gup G a (.inr (1, [.int y, .int 0, .int 0, .int 0, .int 0]))) a (.inr (1, [.int y, .int (w / 10000), .int 0, .int 0, .int 0]))) a = some (.inr (1, [.int y, .int (w / 10000), .int 0, .int 0, .int 0])) := gup_s
  have hP : gP E A n (gup (gup G a (.inr (1, [.int y, .int 0, .int 0, .int 0, .int 0]))) a (.inr (1, [.int y, .int (w / 10000), .int 0, .int 0, .int 0]))) H := hP
  refine lv_aload_n hx hb dX1_init_18 rfl (lv_at hl 0 rfl) ?_
  refine lv_iload_n hx hb dX1_init_19 rfl (lv_at hl 2 rfl) ?_
  refine lv_sipush (v := 10000) hx hb dX1_init_20 (by decide) ?_
  refine lv_irem hx hb dX1_init_23 (by decide) ?_
  refine lv_sipush (v := 1000) hx hb dX1_init_24 (by decide) ?_
  refine lv_idiv hx hb dX1_init_27 (by decide) ?_
  refine g_put (ci := 1) (ty := .int) (v := .int ((w - w / 10000 * 10000) / 1000)) hx hb hts hin1 tyX1 tyX1_ok nmX1 hown hK hP hS q19_a rfl 2 (by decide) hf18 rfl (Or.inr ⟨rfl, hnm, rfl⟩) (by decide +kernel) rfl rfl (Nat.le_of_ble_eq_true rfl) dX1_init_28 (fun H locs hP hS => ?_)
  have q20_a : (gup (gup (gup G a (.inr (1, [.int y, .int 0, .int 0, .int 0, .int 0]))) a (.inr (1, [.int y, .int (w / 10000), .int 0, .int 0, .int 0]))) a (.inr (1, [.int y, .int (w / 10000), .int ((w - w / 10000 * 10000) / 1000), .int 0, .int 0]))) a = some (.inr (1, [.int y, .int (w / 10000), .int ((w - w / 10000 * 10000) / 1000), .int 0, .int 0])) := gup_s
  have hP : gP E A n (gup (gup (gup G a (.inr (1, [.int y, .int 0, .int 0, .int 0, .int 0]))) a (.inr (1, [.int y, .int (w / 10000), .int 0, .int 0, .int 0]))) a (.inr (1, [.int y, .int (w / 10000), .int ((w - w / 10000 * 10000) / 1000), .int 0, .int 0]))) H := hP
  refine lv_aload_n hx hb dX1_init_31 rfl (lv_at hl 0 rfl) ?_
  refine lv_iload_n hx hb dX1_init_32 rfl (lv_at hl 2 rfl) ?_
  refine lv_sipush (v := 1000) hx hb dX1_init_33 (by decide) ?_
  refine lv_irem hx hb dX1_init_36 (by decide) ?_
  refine g_put (ci := 1) (ty := .int) (v := .int (w - w / 1000 * 1000)) hx hb hts hin1 tyX1 tyX1_ok nmX1 hown hK hP hS q20_a rfl 3 (by decide) hf21 rfl (Or.inr ⟨rfl, hnm, rfl⟩) (by decide +kernel) rfl rfl (Nat.le_of_ble_eq_true rfl) dX1_init_37 (fun H locs hP hS => ?_)
  have q21_a : (gup (gup (gup (gup G a (.inr (1, [.int y, .int 0, .int 0, .int 0, .int 0]))) a (.inr (1, [.int y, .int (w / 10000), .int 0, .int 0, .int 0]))) a (.inr (1, [.int y, .int (w / 10000), .int ((w - w / 10000 * 10000) / 1000), .int 0, .int 0]))) a (.inr (1, [.int y, .int (w / 10000), .int ((w - w / 10000 * 10000) / 1000), .int (w - w / 1000 * 1000), .int 0]))) a = some (.inr (1, [.int y, .int (w / 10000), .int ((w - w / 10000 * 10000) / 1000), .int (w - w / 1000 * 1000), .int 0])) := gup_s
  have hP : gP E A n (gup (gup (gup (gup G a (.inr (1, [.int y, .int 0, .int 0, .int 0, .int 0]))) a (.inr (1, [.int y, .int (w / 10000), .int 0, .int 0, .int 0]))) a (.inr (1, [.int y, .int (w / 10000), .int ((w - w / 10000 * 10000) / 1000), .int 0, .int 0]))) a (.inr (1, [.int y, .int (w / 10000), .int ((w - w / 10000 * 10000) / 1000), .int (w - w / 1000 * 1000), .int 0]))) H := hP
  refine lv_aload_n hx hb dX1_init_40 rfl (lv_at hl 0 rfl) ?_
  refine lv_iload_n hx hb dX1_init_41 rfl (lv_at hl 3 rfl) ?_
  refine g_put (ci := 1) (ty := .int) (v := .int k) hx hb hts hin1 tyX1 tyX1_ok nmX1 hown hK hP hS q21_a rfl 4 (by decide) hf24 rfl (Or.inr ⟨rfl, hnm, rfl⟩) (by decide +kernel) rfl rfl (Nat.le_of_ble_eq_true rfl) dX1_init_42 (fun H locs hP hS => ?_)
  have q22_a : (gup (gup (gup (gup (gup G a (.inr (1, [.int y, .int 0, .int 0, .int 0, .int 0]))) a (.inr (1, [.int y, .int (w / 10000), .int 0, .int 0, .int 0]))) a (.inr (1, [.int y, .int (w / 10000), .int ((w - w / 10000 * 10000) / 1000), .int 0, .int 0]))) a (.inr (1, [.int y, .int (w / 10000), .int ((w - w / 10000 * 10000) / 1000), .int (w - w / 1000 * 1000), .int 0]))) a (.inr (1, [.int y, .int (w / 10000), .int ((w - w / 10000 * 10000) / 1000), .int (w - w / 1000 * 1000), .int k]))) a = some (.inr (1, [.int y, .int (w / 10000), .int ((w - w / 10000 * 10000) / 1000), .int (w - w / 1000 * 1000), .int k])) := gup_s
  have hP : gP E A n (gup (gup (gup (gup (gup G a (.inr (1, [.int y, .int 0, .int 0, .int 0, .int 0]))) a (.inr (1, [.int y, .int (w / 10000), .int 0, .int 0, .int 0]))) a (.inr (1, [.int y, .int (w / 10000), .int ((w - w / 10000 * 10000) / 1000), .int 0, .int 0]))) a (.inr (1, [.int y, .int (w / 10000), .int ((w - w / 10000 * 10000) / 1000), .int (w - w / 1000 * 1000), .int 0]))) a (.inr (1, [.int y, .int (w / 10000), .int ((w - w / 10000 * 10000) / 1000), .int (w - w / 1000 * 1000), .int k]))) H := hP
  refine g_retv hx hb hr hlk hP hS dX1_init_45 ?_
  exact ⟨rfl, by simp only [gup_gup]; rfl⟩
end
section
abbrev tlT : Type := Int32 × Int32 × Int32 × Int32
def telC (q : tlT) (r : Option Nat) : va_E := .inr (5, [.int q.1, .int q.2.1, .int q.2.2.1, .int q.2.2.2, va_rf r])
def tel (G : gH) : Option Nat → List tlT → Prop
  | r, [] => r = none
  | r, q :: L => ∃ a nx, r = some a ∧ G a = some (telC q nx) ∧ tel G nx L
def fstT (w : Int32) : List tlT → Option tlT
  | [] => none
  | q :: L => if q.1 < w then some q else fstT w L
def tres (G : gH) (r : Option Nat) (o : Option tlT) : Prop := match o with
  | none => r = none
  | some q => ∃ a nx, r = some a ∧ G a = some (telC q nx)
def hanF (w : Int32) : List tlT → Int32 × Int32 → Int32 × Int32
  | [], u => u
  | q :: L, u => hanF w L (if q.2.1 ≤ w ∧ u.1 < q.2.1 then (q.2.1, q.2.2.2) else u)
def lawE (S : Nat → Nat → Int32) (i : Nat) : va_E := .inr (1, [.int (S 15 i), .int (S 16 i / 10000), .int (rem32 (S 16 i) 10000 / 1000), .int (rem32 (S 16 i) 1000), .int (S 17 i)])
def lbA (S : Nat → Nat → Int32) (la : Nat → Nat) (nl : Nat) (y : Int32) (k : Nat) : Nat := if lawN S y k = -1 then nl else la (tn (lawN S y k))
def lbY (S : Nat → Nat → Int32) (y : Int32) (k : Nat) : Int32 := if lawN S y k = -1 then 0 else S 15 (tn (lawN S y k))
theorem lbY_0 (S : Nat → Nat → Int32) (y : Int32) : lbY S y 0 = 0 := rfl

set_option maxHeartbeats 1000000 in
set_option maxRecDepth 100000 in
theorem kX0_learn (l : Launch) (E : gT) (A : Nat → Prop) (n : Nat) (G : gH) (a a1 a2 a3 a4 a5 : Nat) (r : Option Nat) (hm cm : Int32) (x y z wq : Int32) (fa : G a = some (.inr (0, [.int hm, .int cm, .ref a1, .ref a2, .ref a3, .ref a4, .ref a5, va_rf r]))) (hA : ∀ q, n ≤ q → A q) : gM l yX0_learn wsX0_learn ({ frames := 2, cells := 1, slots := 5, locals := 45 } : Room) E A n G [.ref a, .int x, .int y, .int z, .int wq] (gQv E A (fun n' G' => n + 1 = n' ∧ (gup (gup G n (telC (x, y, z, wq) r)) a (.inr (0, [.int hm, .int cm, .ref a1, .ref a2, .ref a3, .ref a4, .ref a5, .ref n]))) = G')) 1 5 := by
  refine g_entry (by decide) rfl (Nat.le_of_ble_eq_true rfl) ?_
  intro p e s m below meth c0 hx hb hr hlk hml hown hnm hts hK H locs ls hP hS hl
  have hin0 : ∀ wq ∈ u_ws RX0 TX0 8, wq ∈ wsX0_learn := by decide +kernel
  have hin5 : ∀ wq ∈ u_ws RX5 TX5 5, wq ∈ wsX0_learn := by decide +kernel
  have hf39 := hts (.fieldLink RX0 39 "DikeHands$House" "latest" "LDikeHands$Telling;") (by decide +kernel)
  have hl : lv_has ls 5 [(0, .ref a), (1, .int x), (2, .int y), (3, .int z), (4, .int wq)] := hl
  refine lv_aload_n hx hb dX0_learn_0 rfl (lv_at hl 0 rfl) ?_
  have z23_0 := Nat.ne_of_lt (hP.lt fa)
  refine g_new (ci := 5) (fs := [.int 0, .int 0, .int 0, .int 0, .null]) hx hb hts hin5 tyX5 tyX5_ok hown (hts (.classLink RX0 34 RX5) (by decide +kernel)) (hts (.instantiable RX5 5) (by decide +kernel)) (hts (.initialized RX5) (by decide +kernel)) hK hP hS hA rfl (by decide) (Nat.le_of_ble_eq_true rfl) (Nat.le_of_ble_eq_true rfl) dX0_learn_1 (fun H hP hS => ?_)
  have q23_0 : (gup G n (.inr (5, [.int 0, .int 0, .int 0, .int 0, .null]))) a = some (.inr (0, [.int hm, .int cm, .ref a1, .ref a2, .ref a3, .ref a4, .ref a5, va_rf r])) := (gup_n z23_0).trans fa
  have q23_a : (gup G n (.inr (5, [.int 0, .int 0, .int 0, .int 0, .null]))) n = some (.inr (5, [.int 0, .int 0, .int 0, .int 0, .null])) := gup_s
  have hP : gP E A (n + 1) (gup G n (.inr (5, [.int 0, .int 0, .int 0, .int 0, .null]))) H := hP
  have hA : ∀ q, n + 1 ≤ q → A q := fun q h => hA q (by omega)
  refine lv_dup hx hb dX0_learn_4 rfl ?_
  refine lv_iload_n hx hb dX0_learn_5 rfl (lv_at hl 1 rfl) ?_
  refine lv_iload_n hx hb dX0_learn_6 rfl (lv_at hl 2 rfl) ?_
  refine lv_iload_n hx hb dX0_learn_7 rfl (lv_at hl 3 rfl) ?_
  refine lv_iload hx hb dX0_learn_8 (lv_at hl 4 rfl) ?_
  refine lv_aload_n hx hb dX0_learn_10 rfl (lv_at hl 0 rfl) ?_
  refine g_get (ci := 0) hx hb hts hin0 hown hK hP q23_0 rfl 7 (by decide) hf39 rfl rfl dX0_learn_11 ?_
  refine g_cv (g_runI (As := [.int x, .int y, .int z, .int wq, va_rf r]) (rest := [.ref n, .ref a]) ⟨hx, hb, hml, hown, hts⟩ hK hP (kX5_init l E A (n + 1) (gup G n (.inr (5, [.int 0, .int 0, .int 0, .int 0, .null]))) n x y z wq r q23_a) (cwI 5 hts gX0_learn_X5_init rfl rfl rfl (hts (.initialized RX5) (by decide +kernel)) (hts (.methodLink RX0 36 yX5_init) (by decide +kernel)) (hts (.instanceMethod yX5_init) (by decide +kernel)) rfl (by decide +kernel) ⟨Nat.le_of_ble_eq_true rfl, Nat.le_of_ble_eq_true rfl⟩) rfl hl.1 rfl (Nat.le_of_ble_eq_true rfl) dX0_learn_14 ⟨Nat.le_of_ble_eq_true rfl, Nat.le_of_ble_eq_true rfl⟩) hS (fun n' G' H locs hw hP hS => ?_)
  obtain ⟨rfl, rfl⟩ := hw
  have q24_0 : (gup (gup G n (.inr (5, [.int 0, .int 0, .int 0, .int 0, .null]))) n (.inr (5, [.int x, .int y, .int z, .int wq, va_rf r]))) a = some (.inr (0, [.int hm, .int cm, .ref a1, .ref a2, .ref a3, .ref a4, .ref a5, va_rf r])) := (gup_n (ne_oo q23_0 q23_a (by decide))).trans q23_0
  have q24_a : (gup (gup G n (.inr (5, [.int 0, .int 0, .int 0, .int 0, .null]))) n (.inr (5, [.int x, .int y, .int z, .int wq, va_rf r]))) n = some (.inr (5, [.int x, .int y, .int z, .int wq, va_rf r])) := gup_s
  have hP : gP E A (n + 1) (gup (gup G n (.inr (5, [.int 0, .int 0, .int 0, .int 0, .null]))) n (.inr (5, [.int x, .int y, .int z, .int wq, va_rf r]))) H := hP
  refine g_put (ci := 0) (ty := (.object "DikeHands$Telling")) (v := .ref n) hx hb hts hin0 tyX0 tyX0_ok nmX0 hown hK hP hS q24_0 rfl 7 (by decide) hf39 rfl (Or.inl rfl) (by decide +kernel) rfl rfl (Nat.le_of_ble_eq_true rfl) dX0_learn_17 (fun H locs hP hS => ?_)
  have q25_0 : (gup (gup (gup G n (.inr (5, [.int 0, .int 0, .int 0, .int 0, .null]))) n (.inr (5, [.int x, .int y, .int z, .int wq, va_rf r]))) a (.inr (0, [.int hm, .int cm, .ref a1, .ref a2, .ref a3, .ref a4, .ref a5, .ref n]))) n = some (.inr (5, [.int x, .int y, .int z, .int wq, va_rf r])) := (gup_n (ne_oo q24_a q24_0 (by decide))).trans q24_a
  have q25_a : (gup (gup (gup G n (.inr (5, [.int 0, .int 0, .int 0, .int 0, .null]))) n (.inr (5, [.int x, .int y, .int z, .int wq, va_rf r]))) a (.inr (0, [.int hm, .int cm, .ref a1, .ref a2, .ref a3, .ref a4, .ref a5, .ref n]))) a = some (.inr (0, [.int hm, .int cm, .ref a1, .ref a2, .ref a3, .ref a4, .ref a5, .ref n])) := gup_s
  have hP : gP E A (n + 1) (gup (gup (gup G n (.inr (5, [.int 0, .int 0, .int 0, .int 0, .null]))) n (.inr (5, [.int x, .int y, .int z, .int wq, va_rf r]))) a (.inr (0, [.int hm, .int cm, .ref a1, .ref a2, .ref a3, .ref a4, .ref a5, .ref n]))) H := hP
  refine g_retv hx hb hr hlk hP hS dX0_learn_20 ?_
  exact ⟨rfl, by simp only [gup_gup]; rfl⟩
set_option maxHeartbeats 1000000 in
set_option maxRecDepth 100000 in
theorem kX0_daysMet (l : Launch) (E : gT) (A : Nat → Prop) (n : Nat) (G : gH) (a a1 a2 a3 a4 a5 : Nat) (r : Option Nat) (hm cm : Int32) (f1 f2 f3 : Nat → Int32) (y : Int32) (fa : G a = some (.inr (0, [.int hm, .int cm, .ref a1, .ref a2, .ref a3, .ref a4, .ref a5, va_rf r]))) (fb : G a1 = some (.inl (E.2 0, 21, .inl f1))) (fc : G a2 = some (.inl (E.2 0, 21, .inl f2))) (fd : G a3 = some (.inl (E.2 0, 21, .inl f3))) (hy : vp_in y 21) : gM l yX0_daysMet wsX0_daysMet ({ frames := 0, cells := 0, slots := 0, locals := 0 } : Room) E A n G [.ref a, .int y] (gQi E A (fun r' n' G' => (f1 (tn y) + f2 (tn y) + f3 (tn y)) = r' ∧ n = n' ∧ G = G')) 0 0 := by
  refine g_entry (by decide) rfl (Nat.le_of_ble_eq_true rfl) ?_
  intro p e s m below meth c0 hx hb hr hlk hml hown hnm hts hK H locs ls hP hS hl
  have hin0 : ∀ wq ∈ u_ws RX0 TX0 8, wq ∈ wsX0_daysMet := by decide +kernel
  have hf11 := hts (.fieldLink RX0 11 "DikeHands$House" "byItself" "[I") (by decide +kernel)
  have hf15 := hts (.fieldLink RX0 15 "DikeHands$House" "bySubstitute" "[I") (by decide +kernel)
  have hf18 := hts (.fieldLink RX0 18 "DikeHands$House" "bought" "[I") (by decide +kernel)
  have hl : lv_has ls 2 [(0, .ref a), (1, .int y)] := hl
  refine lv_aload_n hx hb dX0_daysMet_0 rfl (lv_at hl 0 rfl) ?_
  refine g_get (ci := 0) hx hb hts hin0 hown hK hP fa rfl 2 (by decide) hf11 rfl rfl dX0_daysMet_1 ?_
  refine lv_iload_n hx hb dX0_daysMet_4 rfl (lv_at hl 1 rfl) ?_
  refine g_iald hx hb hK hP fb hy dX0_daysMet_5 ?_
  refine lv_aload_n hx hb dX0_daysMet_6 rfl (lv_at hl 0 rfl) ?_
  refine g_get (ci := 0) hx hb hts hin0 hown hK hP fa rfl 3 (by decide) hf15 rfl rfl dX0_daysMet_7 ?_
  refine lv_iload_n hx hb dX0_daysMet_10 rfl (lv_at hl 1 rfl) ?_
  refine g_iald hx hb hK hP fc hy dX0_daysMet_11 ?_
  refine lv_iadd hx hb dX0_daysMet_12 ?_
  refine lv_aload_n hx hb dX0_daysMet_13 rfl (lv_at hl 0 rfl) ?_
  refine g_get (ci := 0) hx hb hts hin0 hown hK hP fa rfl 4 (by decide) hf18 rfl rfl dX0_daysMet_14 ?_
  refine lv_iload_n hx hb dX0_daysMet_17 rfl (lv_at hl 1 rfl) ?_
  refine g_iald hx hb hK hP fd hy dX0_daysMet_18 ?_
  refine lv_iadd hx hb dX0_daysMet_19 ?_
  refine g_reti hx hb hr hlk hP hS dX0_daysMet_20 ?_
  exact ⟨rfl, rfl, rfl⟩
set_option maxHeartbeats 1000000 in
set_option maxRecDepth 100000 in
theorem kX0_toldAheadOf (l : Launch) (E : gT) (A : Nat → Prop) (n : Nat) (G : gH) (a a1 a2 a3 a4 a5 : Nat) (r : Option Nat) (hm cm : Int32) (L : List tlT) (y : Int32) (fa : G a = some (.inr (0, [.int hm, .int cm, .ref a1, .ref a2, .ref a3, .ref a4, .ref a5, va_rf r]))) (hT : tel G r L) : gM l yX0_toldAheadOf wsX0_toldAheadOf ({ frames := 0, cells := 0, slots := 0, locals := 0 } : Room) E A n G [.ref a, .int y] (gQq E A (fun r' n' G' => tres G r' (fstT y L) ∧ n = n' ∧ G = G')) 0 0 := by
  refine g_entry (by decide) rfl (Nat.le_of_ble_eq_true rfl) ?_
  intro p e s m below meth c0 hx hb hr hlk hml hown hnm hts hK H locs ls hP hS hl
  have hin0 : ∀ wq ∈ u_ws RX0 TX0 8, wq ∈ wsX0_toldAheadOf := by decide +kernel
  have hin5 : ∀ wq ∈ u_ws RX5 TX5 5, wq ∈ wsX0_toldAheadOf := by decide +kernel
  have hf39 := hts (.fieldLink RX0 39 "DikeHands$House" "latest" "LDikeHands$Telling;") (by decide +kernel)
  have hf43 := hts (.fieldLink RX0 43 "DikeHands$Telling" "told" "I") (by decide +kernel)
  have hf46 := hts (.fieldLink RX0 46 "DikeHands$Telling" "earlier" "LDikeHands$Telling;") (by decide +kernel)
  have hl : lv_has ls 3 [(0, .ref a), (1, .int y)] := hl
  refine lv_aload_n hx hb dX0_toldAheadOf_0 rfl (lv_at hl 0 rfl) ?_
  refine g_get (ci := 0) hx hb hts hin0 hown hK hP fa rfl 7 (by decide) hf39 rfl rfl dX0_toldAheadOf_1 ?_
  refine lv_astore_nQ (lv' := [(2, va_rf r), (0, .ref a), (1, .int y)]) hx hb dX0_toldAheadOf_4 rfl hl (by decide) rfl (fun ls hl => ?_)
  refine g_loop (τ := List tlT × Option Nat) (fun t => tel G t.2 t.1 ∧ fstT y L = fstT y t.1) (fun t => t.1.length) (fun _ => n) (fun _ => G) (fun _ => 0) (fun _ => 0) (fun t => [(0, .ref a), (1, .int y), (2, va_rf t.2)]) ?_ (L, r) ⟨hT, rfl⟩ H locs ls hP hS (lv_sub hl [1, 2, 0] rfl)
  intro t hI5 ih H locs ls hP hS hl
  obtain ⟨L1, r1⟩ := t
  try dsimp only at hI5
  rcases L1 with _ | ⟨q, L2⟩
  · have hr1 : r1 = none := hI5.1
    subst hr1
    have hl : lv_has ls 3 [(0, .ref a), (1, .int y), (2, .null)] := hl
    refine lv_aload_nN hx hb dX0_toldAheadOf_5 rfl (lv_at hl 2 rfl) ?_
    refine lv_ifnullN (tgt := 27) hx hb dX0_toldAheadOf_6 (by decide) ?_
    refine lv_null hx hb dX0_toldAheadOf_27 ?_
    refine g_retq none rfl hx hb hr hlk hP hS dX0_toldAheadOf_28 ?_
    exact ⟨by rw [hI5.2]; rfl, rfl, rfl⟩
  · obtain ⟨aq, nx, hr1, fq, ht⟩ := hI5.1
    subst hr1
    have hl : lv_has ls 3 [(0, .ref a), (1, .int y), (2, .ref aq)] := hl
    refine lv_aload_n hx hb dX0_toldAheadOf_5 rfl (lv_at hl 2 rfl) ?_
    refine lv_ifnull hx hb dX0_toldAheadOf_6 ?_
    refine lv_aload_n hx hb dX0_toldAheadOf_9 rfl (lv_at hl 2 rfl) ?_
    refine g_get (ci := 5) hx hb hts hin5 hown hK hP fq rfl 0 (by decide) hf43 rfl rfl dX0_toldAheadOf_10 ?_
    refine lv_iload_n hx hb dX0_toldAheadOf_13 rfl (lv_at hl 1 rfl) ?_
    refine lv_icmp_ge (tgt := 19) hx hb dX0_toldAheadOf_14 (by decide) (fun b14 => ?_) (fun b14 => ?_)
    · refine lv_aload_n hx hb dX0_toldAheadOf_19 rfl (lv_at hl 2 rfl) ?_
      refine g_get (ci := 5) hx hb hts hin5 hown hK hP fq rfl 4 (by decide) hf46 rfl rfl dX0_toldAheadOf_20 ?_
      refine lv_astore_nQ (lv' := [(2, va_rf nx), (0, .ref a), (1, .int y)]) hx hb dX0_toldAheadOf_23 rfl hl (by decide) rfl (fun ls hl => ?_)
      refine lv_goto (tgt := 5) hx hb dX0_toldAheadOf_24 (by decide) ?_
      refine ih (L2, nx) ⟨ht, hI5.2.trans (by rw [fstT, if_neg (Int32.not_lt.mpr b14)])⟩ (by show L2.length < (q :: L2).length; simp) H locs ls hP hS ?_
      exact lv_sub hl [1, 2, 0] rfl
    · refine lv_aload_n hx hb dX0_toldAheadOf_17 rfl (lv_at hl 2 rfl) ?_
      refine g_retq (some aq) rfl hx hb hr hlk hP hS dX0_toldAheadOf_18 ?_
      exact ⟨by rw [hI5.2, fstT, if_pos (Int32.not_le.mp b14)]; exact ⟨aq, nx, rfl, fq⟩, rfl, rfl⟩
set_option maxHeartbeats 1000000 in
set_option maxRecDepth 100000 in
theorem kX0_handsIn (l : Launch) (E : gT) (A : Nat → Prop) (n : Nat) (G : gH) (a a1 a2 a3 a4 a5 : Nat) (r : Option Nat) (hm cm : Int32) (L : List tlT) (y : Int32) (fa : G a = some (.inr (0, [.int hm, .int cm, .ref a1, .ref a2, .ref a3, .ref a4, .ref a5, va_rf r]))) (hT : tel G r L) : gM l yX0_handsIn wsX0_handsIn ({ frames := 0, cells := 0, slots := 0, locals := 0 } : Room) E A n G [.ref a, .int y] (gQi E A (fun r' n' G' => ((hanF y L (-1, 0)).2) = r' ∧ n = n' ∧ G = G')) 0 0 := by
  refine g_entry (by decide) rfl (Nat.le_of_ble_eq_true rfl) ?_
  intro p e s m below meth c0 hx hb hr hlk hml hown hnm hts hK H locs ls hP hS hl
  have hin0 : ∀ wq ∈ u_ws RX0 TX0 8, wq ∈ wsX0_handsIn := by decide +kernel
  have hin5 : ∀ wq ∈ u_ws RX5 TX5 5, wq ∈ wsX0_handsIn := by decide +kernel
  have hf39 := hts (.fieldLink RX0 39 "DikeHands$House" "latest" "LDikeHands$Telling;") (by decide +kernel)
  have hf46 := hts (.fieldLink RX0 46 "DikeHands$Telling" "earlier" "LDikeHands$Telling;") (by decide +kernel)
  have hf49 := hts (.fieldLink RX0 49 "DikeHands$Telling" "from" "I") (by decide +kernel)
  have hf52 := hts (.fieldLink RX0 52 "DikeHands$Telling" "hands" "I") (by decide +kernel)
  have hl : lv_has ls 5 [(0, .ref a), (1, .int y)] := hl
  refine lv_iconst (v := (-1)) hx hb dX0_handsIn_0 (by decide) ?_
  refine lv_istore_n (lv' := [(2, .int (-1)), (0, .ref a), (1, .int y)]) hx hb dX0_handsIn_1 rfl hl (by decide) rfl (fun ls hl => ?_)
  refine lv_iconst (v := 0) hx hb dX0_handsIn_2 (by decide) ?_
  refine lv_istore_n (lv' := [(3, .int 0), (2, .int (-1)), (0, .ref a), (1, .int y)]) hx hb dX0_handsIn_3 rfl hl (by decide) rfl (fun ls hl => ?_)
  refine lv_aload_n hx hb dX0_handsIn_4 rfl (lv_at hl 2 rfl) ?_
  refine g_get (ci := 0) hx hb hts hin0 hown hK hP fa rfl 7 (by decide) hf39 rfl rfl dX0_handsIn_5 ?_
  refine lv_astoreQ (lv' := [(4, va_rf r), (3, .int 0), (2, .int (-1)), (0, .ref a), (1, .int y)]) hx hb dX0_handsIn_8 hl (by decide) rfl (fun ls hl => ?_)
  refine g_loop (τ := List tlT × Option Nat × (Int32 × Int32)) (fun t => tel G t.2.1 t.1 ∧ hanF y L (-1, 0) = hanF y t.1 t.2.2) (fun t => t.1.length) (fun _ => n) (fun _ => G) (fun _ => 0) (fun _ => 0) (fun t => [(0, .ref a), (1, .int y), (2, .int t.2.2.1), (3, .int t.2.2.2), (4, va_rf t.2.1)]) ?_ (L, r, (-1, 0)) ⟨hT, rfl⟩ H locs ls hP hS (lv_sub hl [3, 4, 2, 1, 0] rfl)
  intro t hI10 ih H locs ls hP hS hl
  obtain ⟨L1, r1, u⟩ := t
  try dsimp only at hI10
  rcases L1 with _ | ⟨q, L2⟩
  · have hr1 : r1 = none := hI10.1
    subst hr1
    have hl : lv_has ls 5 [(0, .ref a), (1, .int y), (2, .int u.1), (3, .int u.2), (4, .null)] := hl
    refine lv_aloadN hx hb dX0_handsIn_10 (lv_at hl 4 rfl) ?_
    refine lv_ifnullN (tgt := 55) hx hb dX0_handsIn_12 (by decide) ?_
    refine lv_iload_n hx hb dX0_handsIn_55 rfl (lv_at hl 3 rfl) ?_
    refine g_reti hx hb hr hlk hP hS dX0_handsIn_56 ?_
    exact ⟨by rw [hI10.2]; rfl, rfl, rfl⟩
  · obtain ⟨aq, nx, hr1, fq, ht⟩ := hI10.1
    subst hr1
    have hl : lv_has ls 5 [(0, .ref a), (1, .int y), (2, .int u.1), (3, .int u.2), (4, .ref aq)] := hl
    refine lv_aload hx hb dX0_handsIn_10 (lv_at hl 4 rfl) ?_
    refine lv_ifnull hx hb dX0_handsIn_12 ?_
    refine lv_aload hx hb dX0_handsIn_15 (lv_at hl 4 rfl) ?_
    refine g_get (ci := 5) hx hb hts hin5 hown hK hP fq rfl 1 (by decide) hf49 rfl rfl dX0_handsIn_17 ?_
    refine lv_iload_n hx hb dX0_handsIn_20 rfl (lv_at hl 1 rfl) ?_
    refine lv_icmp_gt (tgt := 45) hx hb dX0_handsIn_21 (by decide) (fun b21 => ?_) (fun b21 => ?_)
    · refine lv_aload hx hb dX0_handsIn_45 (lv_at hl 4 rfl) ?_
      refine g_get (ci := 5) hx hb hts hin5 hown hK hP fq rfl 4 (by decide) hf46 rfl rfl dX0_handsIn_47 ?_
      refine lv_astoreQ (lv' := [(4, va_rf nx), (0, .ref a), (1, .int y), (2, .int u.1), (3, .int u.2)]) hx hb dX0_handsIn_50 hl (by decide) rfl (fun ls hl => ?_)
      refine lv_goto (tgt := 10) hx hb dX0_handsIn_52 (by decide) ?_
      have hst : hanF y (q :: L2) u = hanF y L2 u := by
        rw [hanF]; first | (simp [b21, Int32.not_le.mpr b21]; done) | (exfalso; simp_all; done)
      refine ih (L2, nx, u) ⟨ht, hI10.2.trans hst⟩ (by show L2.length < (q :: L2).length; simp) H locs ls hP hS ?_
      exact lv_sub hl [1, 2, 3, 4, 0] rfl
    · refine lv_aload hx hb dX0_handsIn_24 (lv_at hl 4 rfl) ?_
      refine g_get (ci := 5) hx hb hts hin5 hown hK hP fq rfl 1 (by decide) hf49 rfl rfl dX0_handsIn_26 ?_
      refine lv_iload_n hx hb dX0_handsIn_29 rfl (lv_at hl 2 rfl) ?_
      refine lv_icmp_le (tgt := 45) hx hb dX0_handsIn_30 (by decide) (fun b30 => ?_) (fun b30 => ?_)
      · refine lv_aload hx hb dX0_handsIn_45 (lv_at hl 4 rfl) ?_
        refine g_get (ci := 5) hx hb hts hin5 hown hK hP fq rfl 4 (by decide) hf46 rfl rfl dX0_handsIn_47 ?_
        refine lv_astoreQ (lv' := [(4, va_rf nx), (0, .ref a), (1, .int y), (2, .int u.1), (3, .int u.2)]) hx hb dX0_handsIn_50 hl (by decide) rfl (fun ls hl => ?_)
        refine lv_goto (tgt := 10) hx hb dX0_handsIn_52 (by decide) ?_
        have hst : hanF y (q :: L2) u = hanF y L2 u := by
          rw [hanF]; first | (simp [b21, Int32.not_lt.mp b21, b30, Int32.not_lt.mpr b30]; done) | (exfalso; simp_all; done)
        refine ih (L2, nx, u) ⟨ht, hI10.2.trans hst⟩ (by show L2.length < (q :: L2).length; simp) H locs ls hP hS ?_
        exact lv_sub hl [1, 2, 3, 4, 0] rfl
      · refine lv_aload hx hb dX0_handsIn_33 (lv_at hl 4 rfl) ?_
        refine g_get (ci := 5) hx hb hts hin5 hown hK hP fq rfl 1 (by decide) hf49 rfl rfl dX0_handsIn_35 ?_
        refine lv_istore_n (lv' := [(2, .int q.2.1), (0, .ref a), (1, .int y), (3, .int u.2), (4, .ref aq)]) hx hb dX0_handsIn_38 rfl hl (by decide) rfl (fun ls hl => ?_)
        refine lv_aload hx hb dX0_handsIn_39 (lv_at hl 4 rfl) ?_
        refine g_get (ci := 5) hx hb hts hin5 hown hK hP fq rfl 3 (by decide) hf52 rfl rfl dX0_handsIn_41 ?_
        refine lv_istore_n (lv' := [(3, .int q.2.2.2), (2, .int q.2.1), (0, .ref a), (1, .int y), (4, .ref aq)]) hx hb dX0_handsIn_44 rfl hl (by decide) rfl (fun ls hl => ?_)
        refine lv_aload hx hb dX0_handsIn_45 (lv_at hl 4 rfl) ?_
        refine g_get (ci := 5) hx hb hts hin5 hown hK hP fq rfl 4 (by decide) hf46 rfl rfl dX0_handsIn_47 ?_
        refine lv_astoreQ (lv' := [(4, va_rf nx), (3, .int q.2.2.2), (2, .int q.2.1), (0, .ref a), (1, .int y)]) hx hb dX0_handsIn_50 hl (by decide) rfl (fun ls hl => ?_)
        refine lv_goto (tgt := 10) hx hb dX0_handsIn_52 (by decide) ?_
        have hst : hanF y (q :: L2) u = hanF y L2 (q.2.1, q.2.2.2) := by
          rw [hanF]; first | (simp [b21, Int32.not_lt.mp b21, b30, Int32.not_le.mp b30]; done) | (exfalso; simp_all; done)
        refine ih (L2, nx, (q.2.1, q.2.2.2)) ⟨ht, hI10.2.trans hst⟩ (by show L2.length < (q :: L2).length; simp) H locs ls hP hS ?_
        exact lv_sub hl [3, 4, 2, 1, 0] rfl
set_option maxHeartbeats 1000000 in
set_option maxRecDepth 100000 in
theorem kX1_daysFor (l : Launch) (E : gT) (A : Nat → Prop) (n : Nat) (G : gH) (a b : Nat) (q : tlT) (nx : Option Nat) (ly lt lh lx lc : Int32) (fa : G a = some (.inr (1, [.int ly, .int lt, .int lh, .int lx, .int lc]))) (fb : G b = some (telC q nx)) : gM l yX1_daysFor wsX1_daysFor ({ frames := 0, cells := 0, slots := 0, locals := 0 } : Room) E A n G [.ref a, .ref b] (gQi E A (fun r' n' G' => (if q.2.2.1 < lx then 0 else q.2.2.1 / 10 * lt + q.2.2.2 * lh) = r' ∧ n = n' ∧ G = G')) 0 0 := by
  refine g_entry (by decide) rfl (Nat.le_of_ble_eq_true rfl) ?_
  intro p e s m below meth c0 hx hb hr hlk hml hown hnm hts hK H locs ls hP hS hl
  have hin1 : ∀ wq ∈ u_ws RX1 TX1 5, wq ∈ wsX1_daysFor := by decide +kernel
  have hin5 : ∀ wq ∈ u_ws RX5 TX5 5, wq ∈ wsX1_daysFor := by decide +kernel
  have hf15 := hts (.fieldLink RX1 15 "DikeHands$Law" "daysForTenAcres" "I") (by decide +kernel)
  have hf18 := hts (.fieldLink RX1 18 "DikeHands$Law" "daysForHand" "I") (by decide +kernel)
  have hf21 := hts (.fieldLink RX1 21 "DikeHands$Law" "exempt" "I") (by decide +kernel)
  have hf32 := hts (.fieldLink RX1 32 "DikeHands$Telling" "acres" "I") (by decide +kernel)
  have hf37 := hts (.fieldLink RX1 37 "DikeHands$Telling" "hands" "I") (by decide +kernel)
  have hl : lv_has ls 2 [(0, .ref a), (1, .ref b)] := hl
  refine lv_aload_n hx hb dX1_daysFor_0 rfl (lv_at hl 1 rfl) ?_
  refine g_get (ci := 5) hx hb hts hin5 hown hK hP fb rfl 2 (by decide) hf32 rfl rfl dX1_daysFor_1 ?_
  refine lv_aload_n hx hb dX1_daysFor_4 rfl (lv_at hl 0 rfl) ?_
  refine g_get (ci := 1) hx hb hts hin1 hown hK hP fa rfl 3 (by decide) hf21 rfl rfl dX1_daysFor_5 ?_
  refine lv_icmp_ge (tgt := 13) hx hb dX1_daysFor_8 (by decide) (fun b8 => ?_) (fun b8 => ?_)
  · refine lv_aload_n hx hb dX1_daysFor_13 rfl (lv_at hl 1 rfl) ?_
    refine g_get (ci := 5) hx hb hts hin5 hown hK hP fb rfl 2 (by decide) hf32 rfl rfl dX1_daysFor_14 ?_
    refine lv_bipush (v := 10) hx hb dX1_daysFor_17 (by decide) ?_
    refine lv_idiv hx hb dX1_daysFor_19 (by decide) ?_
    refine lv_aload_n hx hb dX1_daysFor_20 rfl (lv_at hl 0 rfl) ?_
    refine g_get (ci := 1) hx hb hts hin1 hown hK hP fa rfl 1 (by decide) hf15 rfl rfl dX1_daysFor_21 ?_
    refine lv_imul hx hb dX1_daysFor_24 ?_
    refine lv_aload_n hx hb dX1_daysFor_25 rfl (lv_at hl 1 rfl) ?_
    refine g_get (ci := 5) hx hb hts hin5 hown hK hP fb rfl 3 (by decide) hf37 rfl rfl dX1_daysFor_26 ?_
    refine lv_aload_n hx hb dX1_daysFor_29 rfl (lv_at hl 0 rfl) ?_
    refine g_get (ci := 1) hx hb hts hin1 hown hK hP fa rfl 2 (by decide) hf18 rfl rfl dX1_daysFor_30 ?_
    refine lv_imul hx hb dX1_daysFor_33 ?_
    refine lv_iadd hx hb dX1_daysFor_34 ?_
    refine g_reti hx hb hr hlk hP hS dX1_daysFor_35 ?_
    exact ⟨by first | (simp [b8, Int32.not_lt.mpr b8]; done) | (exfalso; simp_all; done), rfl, rfl⟩
  · refine lv_iconst (v := 0) hx hb dX1_daysFor_11 (by decide) ?_
    refine g_reti hx hb hr hlk hP hS dX1_daysFor_12 ?_
    exact ⟨by first | (simp [b8, Int32.not_le.mp b8]; done) | (exfalso; simp_all; done), rfl, rfl⟩
set_option maxHeartbeats 1000000 in
set_option maxRecDepth 100000 in
theorem kX2_isFull (l : Launch) (E : gT) (A : Nat → Prop) (n : Nat) (G : gH) (a a1 a2 : Nat) (kq : Int32) (fa : G a = some (.inr (2, [.ref a1, .ref a2, .int kq]))) : gM l yX2_isFull wsX2_isFull ({ frames := 0, cells := 0, slots := 0, locals := 0 } : Room) E A n G [.ref a] (gQi E A (fun r' n' G' => (gb (decide (40 ≤ kq))) = r' ∧ n = n' ∧ G = G')) 0 0 := by
  refine g_entry (by decide) rfl (Nat.le_of_ble_eq_true rfl) ?_
  intro p e s m below meth c0 hx hb hr hlk hml hown hnm hts hK H locs ls hP hS hl
  have hin2 : ∀ wq ∈ u_ws RX2 TX2 3, wq ∈ wsX2_isFull := by decide +kernel
  have hf24 := hts (.fieldLink RX2 24 "DikeHands$LawBook" "size" "I") (by decide +kernel)
  have hl : lv_has ls 1 [(0, .ref a)] := hl
  refine lv_aload_n hx hb dX2_isFull_0 rfl (lv_at hl 0 rfl) ?_
  refine g_get (ci := 2) hx hb hts hin2 hown hK hP fa rfl 2 (by decide) hf24 rfl rfl dX2_isFull_1 ?_
  refine lv_bipush (v := 40) hx hb dX2_isFull_4 (by decide) ?_
  refine lv_icmp_lt (tgt := 13) hx hb dX2_isFull_6 (by decide) (fun b6 => ?_) (fun b6 => ?_)
  · refine lv_iconst (v := 0) hx hb dX2_isFull_13 (by decide) ?_
    refine g_retz hx hb hr hlk hP hS dX2_isFull_14 rfl ?_
    exact ⟨by first | (simp [gb, b6, Int32.not_le.mpr b6]; done) | (exfalso; simp_all; done), rfl, rfl⟩
  · refine lv_iconst (v := 1) hx hb dX2_isFull_9 (by decide) ?_
    refine lv_goto (tgt := 14) hx hb dX2_isFull_10 (by decide) ?_
    refine g_retz hx hb hr hlk hP hS dX2_isFull_14 rfl ?_
    exact ⟨by first | (simp [gb, b6, Int32.not_lt.mp b6]; done) | (exfalso; simp_all; done), rfl, rfl⟩
set_option maxHeartbeats 1000000 in
set_option maxRecDepth 100000 in
theorem kX2_add (l : Launch) (E : gT) (A : Nat → Prop) (n : Nat) (G : gH) (a a1 a2 b : Nat) (kq : Nat) (f : Nat → Option Nat) (vs : List Value) (hk : kq < 40) (fa : G a = some (.inr (2, [.ref a1, .ref a2, .int (nI kq)]))) (fb : G a1 = some (.inl (E.2 3, 40, .inr (.inr (.inr (.inr f)))))) (fc : G b = some (.inr (1, vs))) : gM l yX2_add wsX2_add ({ frames := 1, cells := 0, slots := 0, locals := 20 } : Room) E A n G [.ref a, .ref b] (gQv E A (fun n' G' => n = n' ∧ (gup (gup G a1 (.inl (E.2 3, 40, .inr (.inr (.inr (.inr (va_up f kq (some b)))))))) a (.inr (2, [.ref a1, .ref a2, .int (nI (kq + 1))]))) = G')) 0 0 := by
  refine g_entry (by decide) rfl (Nat.le_of_ble_eq_true rfl) ?_
  intro p e s m below meth c0 hx hb hr hlk hml hown hnm hts hK H locs ls hP hS hl
  have hin2 : ∀ wq ∈ u_ws RX2 TX2 3, wq ∈ wsX2_add := by decide +kernel
  have hf11 := hts (.fieldLink RX2 11 "DikeHands$LawBook" "laws" "[LDikeHands$Law;") (by decide +kernel)
  have hf24 := hts (.fieldLink RX2 24 "DikeHands$LawBook" "size" "I") (by decide +kernel)
  have hl : lv_has ls 2 [(0, .ref a), (1, .ref b)] := hl
  refine lv_aload_n hx hb dX2_add_0 rfl (lv_at hl 0 rfl) ?_
  refine g_ci (g_runV (As := []) (rest := []) ⟨hx, hb, hml, hown, hts⟩ hK hP (kX2_isFull l E A n G a a1 a2 (nI kq) fa) (cwV 0 hts gX2_add_X2_isFull rfl rfl rfl (by decide +kernel) ⟨Nat.le_of_ble_eq_true rfl, Nat.le_of_ble_eq_true rfl⟩) fa rfl rfl hl.1 rfl (Nat.le_of_ble_eq_true rfl) dX2_add_1 ⟨Nat.le_of_ble_eq_true rfl, Nat.le_of_ble_eq_true rfl⟩) hS (fun r1 n' G' H locs hw hP hS => ?_)
  obtain ⟨rfl, rfl, rfl⟩ := hw
  refine g_ifne (tgt := 27) hx hb dX2_add_4 (by decide) (fun b4 => absurd (decide_eq_true_eq.mp b4) (nI_ge hk (by decide))) (fun _ => ?_)
  refine lv_aload_n hx hb dX2_add_7 rfl (lv_at hl 0 rfl) ?_
  refine g_get (ci := 2) hx hb hts hin2 hown hK hP fa rfl 0 (by decide) hf11 rfl rfl dX2_add_8 ?_
  refine lv_aload_n hx hb dX2_add_11 rfl (lv_at hl 0 rfl) ?_
  refine g_get (ci := 2) hx hb hts hin2 hown hK hP fa rfl 2 (by decide) hf24 rfl rfl dX2_add_12 ?_
  refine lv_aload_n hx hb dX2_add_15 rfl (lv_at hl 1 rfl) ?_
  refine g_aast (t0 := 3) (ci := 1) hx hb hK hP hS fb rfl fc rfl (vp_in_nI hk (by decide)) dX2_add_16 (fun H locs hP hS => ?_)
  have q26_0 : (gup G a1 (.inl (E.2 3, 40, .inr (.inr (.inr (.inr (va_up f (tn (nI kq)) (some b)))))))) a = some (.inr (2, [.ref a1, .ref a2, .int (nI kq)])) := (gup_n (ne_oa fa fb)).trans fa
  have q26_1 : (gup G a1 (.inl (E.2 3, 40, .inr (.inr (.inr (.inr (va_up f (tn (nI kq)) (some b)))))))) b = some (.inr (1, vs)) := (gup_n (ne_oa fc fb)).trans fc
  have q26_a : (gup G a1 (.inl (E.2 3, 40, .inr (.inr (.inr (.inr (va_up f (tn (nI kq)) (some b)))))))) a1 = some (.inl (E.2 3, 40, .inr (.inr (.inr (.inr (va_up f (tn (nI kq)) (some b))))))) := gup_s
  have hP : gP E A n (gup G a1 (.inl (E.2 3, 40, .inr (.inr (.inr (.inr (va_up f (tn (nI kq)) (some b)))))))) H := hP
  refine lv_aload_n hx hb dX2_add_17 rfl (lv_at hl 0 rfl) ?_
  refine lv_dup hx hb dX2_add_18 rfl ?_
  refine g_get (ci := 2) hx hb hts hin2 hown hK hP q26_0 rfl 2 (by decide) hf24 rfl rfl dX2_add_19 ?_
  refine lv_iconst (v := 1) hx hb dX2_add_22 (by decide) ?_
  refine lv_iadd hx hb dX2_add_23 ?_
  refine g_put (ci := 2) (ty := .int) (v := .int ((nI kq) + 1)) hx hb hts hin2 tyX2 tyX2_ok nmX2 hown hK hP hS q26_0 rfl 2 (by decide) hf24 rfl (Or.inl rfl) (by decide +kernel) rfl rfl (Nat.le_of_ble_eq_true rfl) dX2_add_24 (fun H locs hP hS => ?_)
  have q27_0 : (gup (gup G a1 (.inl (E.2 3, 40, .inr (.inr (.inr (.inr (va_up f (tn (nI kq)) (some b)))))))) a (.inr (2, [.ref a1, .ref a2, .int ((nI kq) + 1)]))) b = some (.inr (1, vs)) := (gup_n (ne_oo q26_1 q26_0 (by decide))).trans q26_1
  have q27_1 : (gup (gup G a1 (.inl (E.2 3, 40, .inr (.inr (.inr (.inr (va_up f (tn (nI kq)) (some b)))))))) a (.inr (2, [.ref a1, .ref a2, .int ((nI kq) + 1)]))) a1 = some (.inl (E.2 3, 40, .inr (.inr (.inr (.inr (va_up f (tn (nI kq)) (some b))))))) := (gup_n (ne_ao q26_a q26_0)).trans q26_a
  have q27_a : (gup (gup G a1 (.inl (E.2 3, 40, .inr (.inr (.inr (.inr (va_up f (tn (nI kq)) (some b)))))))) a (.inr (2, [.ref a1, .ref a2, .int ((nI kq) + 1)]))) a = some (.inr (2, [.ref a1, .ref a2, .int ((nI kq) + 1)])) := gup_s
  have hP : gP E A n (gup (gup G a1 (.inl (E.2 3, 40, .inr (.inr (.inr (.inr (va_up f (tn (nI kq)) (some b)))))))) a (.inr (2, [.ref a1, .ref a2, .int ((nI kq) + 1)]))) H := hP
  refine g_retv hx hb hr hlk hP hS dX2_add_27 ?_
  exact ⟨rfl, by rw [← nI_1, show tn (nI kq) = kq from tn_nI (by omega)]⟩
set_option maxHeartbeats 1000000 in
set_option maxRecDepth 100000 in
theorem kX2_ofYear (l : Launch) (E : gT) (A : Nat → Prop) (n : Nat) (G : gH) (a a1 a2 : Nat) (S : Nat → Nat → Int32) (la : Nat → Nat) (kn : Nat) (f : Nat → Option Nat) (y : Int32) (hkn : kn ≤ 40) (fa : G a = some (.inr (2, [.ref a1, .ref a2, .int (nI kn)]))) (fb : G a1 = some (.inl (E.2 3, 40, .inr (.inr (.inr (.inr f)))))) (fc : G a2 = some (.inr (1, [.int 0, .int 0, .int 0, .int 0, .int 0]))) (hla : ∀ i, i < kn → f i = some (la i) ∧ G (la i) = some (lawE S i)) (hyr : ∀ i, i < kn → 0 ≤ (S 15 i).toInt) : gM l yX2_ofYear wsX2_ofYear ({ frames := 0, cells := 0, slots := 0, locals := 0 } : Room) E A n G [.ref a, .int y] (gQq E A (fun r' n' G' => some (lbA S la a2 y kn) = r' ∧ n = n' ∧ G = G')) 0 0 := by
  refine g_entry (by decide) rfl (Nat.le_of_ble_eq_true rfl) ?_
  intro p e s m below meth c0 hx hb hr hlk hml hown hnm hts hK H locs ls hP hS hl
  have hin1 : ∀ wq ∈ u_ws RX1 TX1 5, wq ∈ wsX2_ofYear := by decide +kernel
  have hin2 : ∀ wq ∈ u_ws RX2 TX2 3, wq ∈ wsX2_ofYear := by decide +kernel
  have hf11 := hts (.fieldLink RX2 11 "DikeHands$LawBook" "laws" "[LDikeHands$Law;") (by decide +kernel)
  have hf20 := hts (.fieldLink RX2 20 "DikeHands$LawBook" "noLaw" "LDikeHands$Law;") (by decide +kernel)
  have hf24 := hts (.fieldLink RX2 24 "DikeHands$LawBook" "size" "I") (by decide +kernel)
  have hf32 := hts (.fieldLink RX2 32 "DikeHands$Law" "year" "I") (by decide +kernel)
  have hl : lv_has ls 4 [(0, .ref a), (1, .int y)] := hl
  refine lv_aload_n hx hb dX2_ofYear_0 rfl (lv_at hl 0 rfl) ?_
  refine g_get (ci := 2) hx hb hts hin2 hown hK hP fa rfl 1 (by decide) hf20 rfl rfl dX2_ofYear_1 ?_
  refine lv_astore_n (lv' := [(2, .ref a2), (0, .ref a), (1, .int y)]) hx hb dX2_ofYear_4 rfl hl (by decide) rfl (fun ls hl => ?_)
  refine lv_iconst (v := 0) hx hb dX2_ofYear_5 (by decide) ?_
  refine lv_istore_n (lv' := [(3, .int 0), (2, .ref a2), (0, .ref a), (1, .int y)]) hx hb dX2_ofYear_6 rfl hl (by decide) rfl (fun ls hl => ?_)
  refine g_loop (τ := Nat) (fun kq => kq ≤ kn) (fun kq => kn - kq) (fun kq => n) (fun kq => G) (fun kq => 0) (fun kq => 0) (fun kq => [(0, .ref a), (1, .int y), (2, .ref (lbA S la a2 y kq)), (3, .int (nI kq))]) ?_ 0 (Nat.zero_le _) H locs ls hP hS (lv_sub hl [2, 3, 1, 0] rfl)
  intro kq hI7 ih H locs ls hP hS hl
  try dsimp only at hI7
  have hl : lv_has ls 4 [(0, .ref a), (1, .int y), (2, .ref (lbA S la a2 y kq)), (3, .int (nI kq))] := hl
  have hP : gP E A n G H := hP
  refine lv_iload_n hx hb dX2_ofYear_7 rfl (lv_at hl 3 rfl) ?_
  refine lv_aload_n hx hb dX2_ofYear_8 rfl (lv_at hl 0 rfl) ?_
  refine g_get (ci := 2) hx hb hts hin2 hown hK hP fa rfl 2 (by decide) hf24 rfl rfl dX2_ofYear_9 ?_
  refine lv_icmp_ge (tgt := 57) hx hb dX2_ofYear_12 (by decide) (fun b12 => ?_) (fun b12 => ?_)
  · have hk3 := lp_ge (by rw [nI_toInt (by omega)]; omega) (by omega) b12
    rw [tn_nI (by omega)] at hk3
    have hke : kq = kn := by omega
    refine lv_aload_n hx hb dX2_ofYear_57 rfl (lv_at hl 2 rfl) ?_
    refine g_retq (some (lbA S la a2 y kq)) rfl hx hb hr hlk hP hS dX2_ofYear_58 ?_
    exact ⟨by rw [hke], rfl, rfl⟩
  · have hk3 := lp_lt (by rw [nI_toInt (by omega)]; omega) (by omega) b12
    rw [tn_nI (by omega)] at hk3
    have fl : G (la kq) = some (lawE S kq) := (hla kq hk3).2
    obtain ⟨z1, z2, z3, z4, fz⟩ : ∃ z1 z2 z3 z4 : Int32, G (lbA S la a2 y kq) = some (.inr (1, [.int (lbY S y kq), .int z1, .int z2, .int z3, .int z4])) := by
      unfold lbA lbY
      rcases lawN_in S y kq (by omega) with h1 | h1
      · rw [if_pos h1, if_pos h1]; exact ⟨_, _, _, _, fc⟩
      · have h2 : ¬ lawN S y kq = -1 := fun q => by rw [q] at h1; exact absurd h1.1 (by decide)
        have h3 := tn_of h1.1
        rw [if_neg h2, if_neg h2]; exact ⟨_, _, _, _, (hla _ (by omega)).2⟩
    refine lv_aload_n hx hb dX2_ofYear_15 rfl (lv_at hl 0 rfl) ?_
    refine g_get (ci := 2) hx hb hts hin2 hown hK hP fa rfl 0 (by decide) hf11 rfl rfl dX2_ofYear_16 ?_
    refine lv_iload_n hx hb dX2_ofYear_19 rfl (lv_at hl 3 rfl) ?_
    refine g_aald (t0 := 3) (v := .ref (la kq)) hx hb hK hP fb rfl (vp_in_nI (by omega) (by decide)) (show va_rf (f (tn (nI kq))) = _ by rw [tn_nI (by omega), (hla kq hk3).1]; rfl) dX2_ofYear_20 ?_
    refine g_get (ci := 1) hx hb hts hin1 hown hK hP fl rfl 0 (by decide) hf32 rfl rfl dX2_ofYear_21 ?_
    refine lv_iload_n hx hb dX2_ofYear_24 rfl (lv_at hl 1 rfl) ?_
    refine lv_icmp_gt (tgt := 51) hx hb dX2_ofYear_25 (by decide) (fun b25 => ?_) (fun b25 => ?_)
    · refine lv_iinc (v := (nI kq) + 1) (lv' := [(3, .int ((nI kq) + 1)), (0, .ref a), (1, .int y), (2, .ref (lbA S la a2 y kq))]) hx hb dX2_ofYear_51 hl (k := 3) rfl rfl (by decide) rfl (fun ls hl => ?_)
      refine lv_goto (tgt := 7) hx hb dX2_ofYear_54 (by decide) ?_
      have hy0 := hyr kq hk3
      have hN : lawN S y (kq + 1) = lawN S y kq := by
        rw [lawN, if_neg]
        exact fun q => absurd q.1 (Int32.not_le.mpr b25)
      have hA2 : lbA S la a2 y (kq + 1) = lbA S la a2 y kq := by rw [lbA, hN, lbA]
      refine ih (kq + 1) (by omega) (by omega) H locs ls hP hS ?_
      show lv_has ls 4 [(0, .ref a), (1, .int y), (2, .ref (lbA S la a2 y (kq + 1))), (3, .int (nI (kq + 1)))]
      rw [hA2, ← nI_1 kq]
      exact lv_sub hl [1, 2, 3, 0] rfl
    · refine lv_aload_n hx hb dX2_ofYear_28 rfl (lv_at hl 0 rfl) ?_
      refine g_get (ci := 2) hx hb hts hin2 hown hK hP fa rfl 0 (by decide) hf11 rfl rfl dX2_ofYear_29 ?_
      refine lv_iload_n hx hb dX2_ofYear_32 rfl (lv_at hl 3 rfl) ?_
      refine g_aald (t0 := 3) (v := .ref (la kq)) hx hb hK hP fb rfl (vp_in_nI (by omega) (by decide)) (show va_rf (f (tn (nI kq))) = _ by rw [tn_nI (by omega), (hla kq hk3).1]; rfl) dX2_ofYear_33 ?_
      refine g_get (ci := 1) hx hb hts hin1 hown hK hP fl rfl 0 (by decide) hf32 rfl rfl dX2_ofYear_34 ?_
      refine lv_aload_n hx hb dX2_ofYear_37 rfl (lv_at hl 2 rfl) ?_
      refine g_get (ci := 1) hx hb hts hin1 hown hK hP fz rfl 0 (by decide) hf32 rfl rfl dX2_ofYear_38 ?_
      refine lv_icmp_lt (tgt := 51) hx hb dX2_ofYear_41 (by decide) (fun b41 => ?_) (fun b41 => ?_)
      · refine lv_iinc (v := (nI kq) + 1) (lv' := [(3, .int ((nI kq) + 1)), (0, .ref a), (1, .int y), (2, .ref (lbA S la a2 y kq))]) hx hb dX2_ofYear_51 hl (k := 3) rfl rfl (by decide) rfl (fun ls hl => ?_)
        refine lv_goto (tgt := 7) hx hb dX2_ofYear_54 (by decide) ?_
        have hy0 := hyr kq hk3
        have hN : lawN S y (kq + 1) = lawN S y kq := by
          rw [lawN, if_neg]
          intro q
          rcases q.2 with h1 | h1
          · rw [lbY, if_pos h1] at b41
            have := Int32.lt_iff_toInt_lt.mp b41
            have e0 : (0 : Int32).toInt = 0 := rfl
            omega
          · by_cases h2 : lawN S y kq = -1
            · rw [lbY, if_pos h2] at b41
              have := Int32.lt_iff_toInt_lt.mp b41
              have e0 : (0 : Int32).toInt = 0 := rfl
              omega
            · rw [lbY, if_neg h2] at b41; exact absurd h1 (Int32.not_le.mpr b41)
        have hA2 : lbA S la a2 y (kq + 1) = lbA S la a2 y kq := by rw [lbA, hN, lbA]
        refine ih (kq + 1) (by omega) (by omega) H locs ls hP hS ?_
        show lv_has ls 4 [(0, .ref a), (1, .int y), (2, .ref (lbA S la a2 y (kq + 1))), (3, .int (nI (kq + 1)))]
        rw [hA2, ← nI_1 kq]
        exact lv_sub hl [1, 2, 3, 0] rfl
      · refine lv_aload_n hx hb dX2_ofYear_44 rfl (lv_at hl 0 rfl) ?_
        refine g_get (ci := 2) hx hb hts hin2 hown hK hP fa rfl 0 (by decide) hf11 rfl rfl dX2_ofYear_45 ?_
        refine lv_iload_n hx hb dX2_ofYear_48 rfl (lv_at hl 3 rfl) ?_
        refine g_aald (t0 := 3) (v := .ref (la kq)) hx hb hK hP fb rfl (vp_in_nI (by omega) (by decide)) (show va_rf (f (tn (nI kq))) = _ by rw [tn_nI (by omega), (hla kq hk3).1]; rfl) dX2_ofYear_49 ?_
        refine lv_astore_n (lv' := [(2, .ref (la kq)), (0, .ref a), (1, .int y), (3, .int (nI kq))]) hx hb dX2_ofYear_50 rfl hl (by decide) rfl (fun ls hl => ?_)
        refine lv_iinc (v := (nI kq) + 1) (lv' := [(3, .int ((nI kq) + 1)), (2, .ref (la kq)), (0, .ref a), (1, .int y)]) hx hb dX2_ofYear_51 hl (k := 3) rfl rfl (by decide) rfl (fun ls hl => ?_)
        refine lv_goto (tgt := 7) hx hb dX2_ofYear_54 (by decide) ?_
        have hy0 := hyr kq hk3
        have hN : lawN S y (kq + 1) = nI kq := by
          rw [lawN, if_pos]
          refine ⟨Int32.not_lt.mp b25, ?_⟩
          by_cases h1 : lawN S y kq = -1
          · exact Or.inl h1
          · right; have h2 := Int32.not_lt.mp b41; rw [lbY, if_neg h1] at h2; exact h2
        have hA2 : lbA S la a2 y (kq + 1) = la kq := by
          rw [lbA, hN, if_neg (fun q => by have := congrArg Int32.toInt q; rw [nI_toInt (by omega)] at this; exact absurd this (by have e1 : (-1 : Int32).toInt = -1 := rfl; omega)), tn_nI (by omega)]
        refine ih (kq + 1) (by omega) (by omega) H locs ls hP hS ?_
        show lv_has ls 4 [(0, .ref a), (1, .int y), (2, .ref (lbA S la a2 y (kq + 1))), (3, .int (nI (kq + 1)))]
        rw [hA2, ← nI_1 kq]
        exact lv_sub hl [2, 3, 1, 0] rfl
end

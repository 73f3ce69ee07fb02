def wsX5_init : List Cond := .code yX5_init cX5_init 6 none :: ([.methodLink RX5 1 objectInit, .instanceMethod objectInit, .code objectInit ⟨#[0xb1]⟩ 1 none, .fieldLink RX5 7 "DikeHands$Telling" "told" "I", .fieldLink RX5 13 "DikeHands$Telling" "from" "I", .fieldLink RX5 16 "DikeHands$Telling" "acres" "I", .fieldLink RX5 19 "DikeHands$Telling" "hands" "I", .fieldLink RX5 22 "DikeHands$Telling" "earlier" "LDikeHands$Telling;"] ++ wsX50)
def wsX0_init : List Cond := .code yX0_init cX0_init 6 none :: ([.methodLink RX0 3 objectInit, .instanceMethod objectInit, .code objectInit ⟨#[0xb1]⟩ 1 none, .arrayClass .int, .fieldLink RX0 11 "DikeHands$House" "byItself" "[I", .fieldLink RX0 15 "DikeHands$House" "bySubstitute" "[I", .fieldLink RX0 18 "DikeHands$House" "bought" "[I", .fieldLink RX0 21 "DikeHands$House" "asSubstitute" "[I", .fieldLink RX0 24 "DikeHands$House" "substitute" "[I", .fieldLink RX0 27 "DikeHands$House" "home" "I", .fieldLink RX0 31 "DikeHands$House" "came" "I", .classLink RX0 34 RX5, .instantiable RX5 5, .initialized RX5, .fieldLink RX0 39 "DikeHands$House" "latest" "LDikeHands$Telling;", .methodLink RX0 36 yX5_init, .instanceMethod yX5_init, .code yX5_init cX5_init 6 none, .methodLink RX5 1 objectInit, .fieldLink RX5 7 "DikeHands$Telling" "told" "I", .fieldLink RX5 13 "DikeHands$Telling" "from" "I", .fieldLink RX5 16 "DikeHands$Telling" "acres" "I", .fieldLink RX5 19 "DikeHands$Telling" "hands" "I", .fieldLink RX5 22 "DikeHands$Telling" "earlier" "LDikeHands$Telling;"] ++ wsX00 ++ wsX50)
def wsX0_learn : List Cond := .code yX0_learn cX0_learn 5 none :: ([.classLink RX0 34 RX5, .instantiable RX5 5, .initialized RX5, .fieldLink RX0 39 "DikeHands$House" "latest" "LDikeHands$Telling;", .methodLink RX0 36 yX5_init, .instanceMethod yX5_init, .code yX5_init cX5_init 6 none, .methodLink RX5 1 objectInit, .instanceMethod objectInit, .code objectInit ⟨#[0xb1]⟩ 1 none, .fieldLink RX5 7 "DikeHands$Telling" "told" "I", .fieldLink RX5 13 "DikeHands$Telling" "from" "I", .fieldLink RX5 16 "DikeHands$Telling" "acres" "I", .fieldLink RX5 19 "DikeHands$Telling" "hands" "I", .fieldLink RX5 22 "DikeHands$Telling" "earlier" "LDikeHands$Telling;"] ++ wsX50 ++ wsX00)
def wsX0_toldAheadOf : List Cond := .code yX0_toldAheadOf cX0_toldAheadOf 3 (some (.object "DikeHands$Telling")) :: ([.fieldLink RX0 39 "DikeHands$House" "latest" "LDikeHands$Telling;", .fieldLink RX0 43 "DikeHands$Telling" "told" "I", .fieldLink RX0 46 "DikeHands$Telling" "earlier" "LDikeHands$Telling;"] ++ wsX00 ++ wsX50)
def wsX0_handsIn : List Cond := .code yX0_handsIn cX0_handsIn 5 (some .int) :: ([.fieldLink RX0 39 "DikeHands$House" "latest" "LDikeHands$Telling;", .fieldLink RX0 49 "DikeHands$Telling" "from" "I", .fieldLink RX0 52 "DikeHands$Telling" "hands" "I", .fieldLink RX0 46 "DikeHands$Telling" "earlier" "LDikeHands$Telling;"] ++ wsX00 ++ wsX50)
def wsX0_daysMet : List Cond := .code yX0_daysMet cX0_daysMet 2 (some .int) :: ([.fieldLink RX0 11 "DikeHands$House" "byItself" "[I", .fieldLink RX0 15 "DikeHands$House" "bySubstitute" "[I", .fieldLink RX0 18 "DikeHands$House" "bought" "[I"] ++ wsX00)
def wsX1_init : List Cond := .code yX1_init cX1_init 4 none :: ([.methodLink RX1 3 objectInit, .instanceMethod objectInit, .code objectInit ⟨#[0xb1]⟩ 1 none, .fieldLink RX1 9 "DikeHands$Law" "year" "I", .fieldLink RX1 15 "DikeHands$Law" "daysForTenAcres" "I", .fieldLink RX1 18 "DikeHands$Law" "daysForHand" "I", .fieldLink RX1 21 "DikeHands$Law" "exempt" "I", .fieldLink RX1 24 "DikeHands$Law" "coin" "I"] ++ wsX10)
def wsX1_canBe : List Cond := .code yX1_canBe cX1_canBe 1 (some .boolean) :: ([.constant RX1 27 (99999), .static yX8_isWithin, .initialized RX8, .code yX8_isWithin cX8_isWithin 2 (some .boolean)])
def wsX1_daysFor : List Cond := .code yX1_daysFor cX1_daysFor 2 (some .int) :: ([.fieldLink RX1 32 "DikeHands$Telling" "acres" "I", .fieldLink RX1 21 "DikeHands$Law" "exempt" "I", .fieldLink RX1 15 "DikeHands$Law" "daysForTenAcres" "I", .fieldLink RX1 37 "DikeHands$Telling" "hands" "I", .fieldLink RX1 18 "DikeHands$Law" "daysForHand" "I"] ++ wsX50 ++ wsX10)
def wsX2_init : List Cond := .code yX2_init cX2_init 1 none :: ([.methodLink RX2 3 objectInit, .instanceMethod objectInit, .code objectInit ⟨#[0xb1]⟩ 1 none, .classLink RX2 9 RX1, .fieldLink RX2 11 "DikeHands$LawBook" "laws" "[LDikeHands$Law;", .instantiable RX1 5, .initialized RX1, .fieldLink RX2 20 "DikeHands$LawBook" "noLaw" "LDikeHands$Law;", .fieldLink RX2 24 "DikeHands$LawBook" "size" "I", .methodLink RX2 17 yX1_init, .instanceMethod yX1_init, .code yX1_init cX1_init 4 none, .methodLink RX1 3 objectInit, .fieldLink RX1 9 "DikeHands$Law" "year" "I", .fieldLink RX1 15 "DikeHands$Law" "daysForTenAcres" "I", .fieldLink RX1 18 "DikeHands$Law" "daysForHand" "I", .fieldLink RX1 21 "DikeHands$Law" "exempt" "I", .fieldLink RX1 24 "DikeHands$Law" "coin" "I"] ++ wsX20 ++ wsX10)
def wsX2_isFull : List Cond := .code yX2_isFull cX2_isFull 1 (some .boolean) :: ([.fieldLink RX2 24 "DikeHands$LawBook" "size" "I"] ++ wsX20)
def wsX2_add : List Cond := .code yX2_add cX2_add 2 none :: ([.fieldLink RX2 11 "DikeHands$LawBook" "laws" "[LDikeHands$Law;", .fieldLink RX2 24 "DikeHands$LawBook" "size" "I", .methodLink RX2 28 yX2_isFull, .instanceMethod yX2_isFull, .selects RX2 yX2_isFull yX2_isFull, .initialized RX2, .code yX2_isFull cX2_isFull 1 (some .boolean)] ++ wsX20)
def wsX2_ofYear : List Cond := .code yX2_ofYear cX2_ofYear 4 (some (.object "DikeHands$Law")) :: ([.fieldLink RX2 20 "DikeHands$LawBook" "noLaw" "LDikeHands$Law;", .fieldLink RX2 24 "DikeHands$LawBook" "size" "I", .fieldLink RX2 11 "DikeHands$LawBook" "laws" "[LDikeHands$Law;", .fieldLink RX2 32 "DikeHands$Law" "year" "I"] ++ wsX20 ++ wsX10)
def wsX3_init : List Cond := .code yX3_init cX3_init 1 none :: ([.methodLink RX3 5 objectInit, .instanceMethod objectInit, .code objectInit ⟨#[0xb1]⟩ 1 none, .arrayClass .long, .fieldLink RX3 11 "DikeHands$Plan" "worthWithin" "[J"] ++ wsX30)
def wsX4_growthOfDay : List Cond := .code yX4_growthOfDay cX4_growthOfDay 1 (some .int) :: ([.fieldLink RX4 13 "DikeHands$Rod" "soil" "I"] ++ wsX40)
def wsX4_daysTo : List Cond := .code yX4_daysTo cX4_daysTo 2 (some .int) :: ([.fieldLink RX4 9 "DikeHands$Rod" "height" "I", .methodLink RX4 25 yX4_growthOfDay, .instanceMethod yX4_growthOfDay, .selects RX4 yX4_growthOfDay yX4_growthOfDay, .initialized RX4, .code yX4_growthOfDay cX4_growthOfDay 1 (some .int), .fieldLink RX4 13 "DikeHands$Rod" "soil" "I", .static yX8_dividedUp, .initialized RX8, .code yX8_dividedUp cX8_dividedUp 2 (some .int)] ++ wsX40)
def wsX3_offer : List Cond := .code yX3_offer cX3_offer 6 none :: ([.fieldLink RX3 11 "DikeHands$Plan" "worthWithin" "[J", .methodLink RX3 36 Lib.MathLoose.max_long.x, .static Lib.MathLoose.max_long.x, .initialized "java/lang/Math", .code Lib.MathLoose.max_long.x Lib.MathLoose.max_long.code 4 (some .long)] ++ wsX30)
def wsX3_bestWorth_r1 : List Cond := [Cond.fieldLink RX3 11 "DikeHands$Plan" "worthWithin" "[J", Cond.fieldLink RX3 19 "DikeHands$Rod" "height" "I", Cond.fieldLink RX3 29 "DikeHands$Rod" "loss" "I", Cond.static yX8_isWithin, Cond.initialized RX8, Cond.code yX8_isWithin cX8_isWithin 2 (some .boolean), Cond.methodLink RX3 25 yX4_daysTo, Cond.instanceMethod yX4_daysTo, Cond.selects RX4 yX4_daysTo yX4_daysTo, Cond.initialized RX4, Cond.code yX4_daysTo cX4_daysTo 2 (some .int), Cond.fieldLink RX4 9 "DikeHands$Rod" "height" "I", Cond.methodLink RX4 25 yX4_growthOfDay, Cond.instanceMethod yX4_growthOfDay, Cond.selects RX4 yX4_growthOfDay yX4_growthOfDay, Cond.code yX4_growthOfDay cX4_growthOfDay 1 (some .int), Cond.fieldLink RX4 13 "DikeHands$Rod" "soil" "I", Cond.static yX8_dividedUp, Cond.code yX8_dividedUp cX8_dividedUp 2 (some .int), Cond.methodLink RX3 32 yX3_offer, Cond.instanceMethod yX3_offer, Cond.selects RX3 yX3_offer yX3_offer, Cond.initialized RX3, Cond.code yX3_offer cX3_offer 6 none]
def wsX3_bestWorth_r2 : List Cond := [Cond.methodLink RX3 36 Lib.MathLoose.max_long.x, Cond.static Lib.MathLoose.max_long.x, Cond.initialized "java/lang/Math", Cond.code Lib.MathLoose.max_long.x Lib.MathLoose.max_long.code 4 (some .long)]
def wsX3_bestWorth : List Cond := .code yX3_bestWorth cX3_bestWorth 5 (some .long) :: ((wsX3_bestWorth_r1 ++ wsX3_bestWorth_r2) ++ wsX30 ++ wsX40)
def wsX3_lossOf : List Cond := .code yX3_lossOf cX3_lossOf 2 (some .int) :: ([.constantLong RX3 42 (1073741824)])
def wsX3_heapOf : List Cond := .code yX3_heapOf cX3_heapOf 2 (some .int) :: ([.methodLink RX3 44 yX3_lossOf, .static yX3_lossOf, .initialized RX3, .code yX3_lossOf cX3_lossOf 2 (some .int), .constantLong RX3 42 (1073741824)])
def wsX4_init : List Cond := .code yX4_init cX4_init 1 none :: ([.methodLink RX4 1 objectInit, .instanceMethod objectInit, .code objectInit ⟨#[0xb1]⟩ 1 none, .fieldLink RX4 9 "DikeHands$Rod" "height" "I", .fieldLink RX4 13 "DikeHands$Rod" "soil" "I", .fieldLink RX4 16 "DikeHands$Rod" "loss" "I", .fieldLink RX4 19 "DikeHands$Rod" "breaks" "I", .fieldLink RX4 22 "DikeHands$Rod" "days" "I"] ++ wsX40)
def wsX4_raise : List Cond := .code yX4_raise cX4_raise 2 none :: ([.fieldLink RX4 9 "DikeHands$Rod" "height" "I", .methodLink RX4 29 Lib.Math.min.name, .static Lib.Math.min.name, .initialized "java/lang/Math", .code Lib.Math.min.name Lib.Math.min.code 2 (some .int), .fieldLink RX4 22 "DikeHands$Rod" "days" "I", .methodLink RX4 25 yX4_growthOfDay, .instanceMethod yX4_growthOfDay, .selects RX4 yX4_growthOfDay yX4_growthOfDay, .initialized RX4, .code yX4_growthOfDay cX4_growthOfDay 1 (some .int), .fieldLink RX4 13 "DikeHands$Rod" "soil" "I"] ++ wsX40)
def wsX4_wear : List Cond := .code yX4_wear cX4_wear 2 (some .int) :: ([.fieldLink RX4 9 "DikeHands$Rod" "height" "I", .fieldLink RX4 19 "DikeHands$Rod" "breaks" "I", .fieldLink RX4 16 "DikeHands$Rod" "loss" "I"] ++ wsX40)
def wsX6_init : List Cond := .code yX6_init cX6_init 1 none :: ([.methodLink RX6 1 objectInit, .instanceMethod objectInit, .code objectInit ⟨#[0xb1]⟩ 1 none, .fieldLink RX6 7 "DikeHands$Village" "mile" "I"] ++ wsX60)
def wsX7_init : List Cond := .code yX7_init cX7_init 2 none :: ([.methodLink RX7 1 objectInit, .instanceMethod objectInit, .code objectInit ⟨#[0xb1]⟩ 1 none, .fieldLink RX7 7 "DikeHands$WorkWeek" "week" "I"] ++ wsX70)
def wsX6_addDays : List Cond := .code yX6_addDays cX6_addDays 3 none :: ([.fieldLink RX6 13 "DikeHands$Village" "lastWork" "LDikeHands$WorkWeek;", .classLink RX6 17 RX7, .instantiable RX7 3, .initialized RX7, .fieldLink RX6 22 "DikeHands$Village" "firstWork" "LDikeHands$WorkWeek;", .fieldLink RX6 25 "DikeHands$WorkWeek" "week" "I", .fieldLink RX6 28 "DikeHands$WorkWeek" "next" "LDikeHands$WorkWeek;", .fieldLink RX6 31 "DikeHands$WorkWeek" "days" "I", .methodLink RX6 19 yX7_init, .instanceMethod yX7_init, .code yX7_init cX7_init 2 none, .methodLink RX7 1 objectInit, .instanceMethod objectInit, .code objectInit ⟨#[0xb1]⟩ 1 none, .fieldLink RX7 7 "DikeHands$WorkWeek" "week" "I"] ++ wsX60 ++ wsX70)
set_option maxRecDepth 20000 in
theorem ggX0_init_X5_init : GoodIn wsX0_init wsX5_init := goodIn_r _ [18, 19, 2, 3, 20, 21, 22, 23, 24, 33, 34, 35, 36, 37] (by decide +kernel) (by decide +kernel)
set_option maxRecDepth 20000 in
theorem gX0_init_X5_init : GoodIn wsX0_init (wsX5_init) := ggX0_init_X5_init
theorem dX0_init_0 : decode cX0_init 0 = .ok (.aload_n 0, 1) := by decide +kernel
theorem dX0_init_1 : decode cX0_init 1 = .ok (.invokespecial 3, 3) := by decide +kernel
theorem dX0_init_4 : decode cX0_init 4 = .ok (.aload_n 0, 1) := by decide +kernel
theorem dX0_init_5 : decode cX0_init 5 = .ok (.bipush 21, 2) := by decide +kernel
theorem dX0_init_7 : decode cX0_init 7 = .ok (.newarray .int, 2) := by decide +kernel
theorem dX0_init_9 : decode cX0_init 9 = .ok (.putfield 11, 3) := by decide +kernel
theorem dX0_init_12 : decode cX0_init 12 = .ok (.aload_n 0, 1) := by decide +kernel
theorem dX0_init_13 : decode cX0_init 13 = .ok (.bipush 21, 2) := by decide +kernel
theorem dX0_init_15 : decode cX0_init 15 = .ok (.newarray .int, 2) := by decide +kernel
theorem dX0_init_17 : decode cX0_init 17 = .ok (.putfield 15, 3) := by decide +kernel
theorem dX0_init_20 : decode cX0_init 20 = .ok (.aload_n 0, 1) := by decide +kernel
theorem dX0_init_21 : decode cX0_init 21 = .ok (.bipush 21, 2) := by decide +kernel
theorem dX0_init_23 : decode cX0_init 23 = .ok (.newarray .int, 2) := by decide +kernel
theorem dX0_init_25 : decode cX0_init 25 = .ok (.putfield 18, 3) := by decide +kernel
theorem dX0_init_28 : decode cX0_init 28 = .ok (.aload_n 0, 1) := by decide +kernel
theorem dX0_init_29 : decode cX0_init 29 = .ok (.bipush 21, 2) := by decide +kernel
theorem dX0_init_31 : decode cX0_init 31 = .ok (.newarray .int, 2) := by decide +kernel
theorem dX0_init_33 : decode cX0_init 33 = .ok (.putfield 21, 3) := by decide +kernel
theorem dX0_init_36 : decode cX0_init 36 = .ok (.aload_n 0, 1) := by decide +kernel
theorem dX0_init_37 : decode cX0_init 37 = .ok (.bipush 21, 2) := by decide +kernel
theorem dX0_init_39 : decode cX0_init 39 = .ok (.newarray .int, 2) := by decide +kernel
theorem dX0_init_41 : decode cX0_init 41 = .ok (.putfield 24, 3) := by decide +kernel
theorem dX0_init_44 : decode cX0_init 44 = .ok (.aload_n 0, 1) := by decide +kernel
theorem dX0_init_45 : decode cX0_init 45 = .ok (.iload_n 1, 1) := by decide +kernel
theorem dX0_init_46 : decode cX0_init 46 = .ok (.putfield 27, 3) := by decide +kernel
theorem dX0_init_49 : decode cX0_init 49 = .ok (.aload_n 0, 1) := by decide +kernel
theorem dX0_init_50 : decode cX0_init 50 = .ok (.iload_n 2, 1) := by decide +kernel
theorem dX0_init_51 : decode cX0_init 51 = .ok (.putfield 31, 3) := by decide +kernel
theorem dX0_init_54 : decode cX0_init 54 = .ok (.aload_n 0, 1) := by decide +kernel
theorem dX0_init_55 : decode cX0_init 55 = .ok (.new 34, 3) := by decide +kernel
theorem dX0_init_58 : decode cX0_init 58 = .ok (.dup, 1) := by decide +kernel
theorem dX0_init_59 : decode cX0_init 59 = .ok (.iload_n 2, 1) := by decide +kernel
theorem dX0_init_60 : decode cX0_init 60 = .ok (.iload_n 2, 1) := by decide +kernel
theorem dX0_init_61 : decode cX0_init 61 = .ok (.iload_n 3, 1) := by decide +kernel
theorem dX0_init_62 : decode cX0_init 62 = .ok (.iload 4, 2) := by decide +kernel
theorem dX0_init_64 : decode cX0_init 64 = .ok (.aconst_null, 1) := by decide +kernel
theorem dX0_init_65 : decode cX0_init 65 = .ok (.invokespecial 36, 3) := by decide +kernel
theorem dX0_init_68 : decode cX0_init 68 = .ok (.putfield 39, 3) := by decide +kernel
theorem dX0_init_71 : decode cX0_init 71 = .ok (.iconst 0, 1) := by decide +kernel
theorem dX0_init_72 : decode cX0_init 72 = .ok (.istore 5, 2) := by decide +kernel
theorem dX0_init_74 : decode cX0_init 74 = .ok (.iload 5, 2) := by decide +kernel
theorem dX0_init_76 : decode cX0_init 76 = .ok (.bipush 21, 2) := by decide +kernel
theorem dX0_init_78 : decode cX0_init 78 = .ok (.if_icmp .ge 17, 3) := by decide +kernel
theorem dX0_init_81 : decode cX0_init 81 = .ok (.aload_n 0, 1) := by decide +kernel
theorem dX0_init_82 : decode cX0_init 82 = .ok (.getfield 24, 3) := by decide +kernel
theorem dX0_init_85 : decode cX0_init 85 = .ok (.iload 5, 2) := by decide +kernel
theorem dX0_init_87 : decode cX0_init 87 = .ok (.iconst (-1), 1) := by decide +kernel
theorem dX0_init_88 : decode cX0_init 88 = .ok (.iastore, 1) := by decide +kernel
theorem dX0_init_89 : decode cX0_init 89 = .ok (.iinc 5 1, 3) := by decide +kernel
theorem dX0_init_92 : decode cX0_init 92 = .ok (.goto (-18), 3) := by decide +kernel
theorem dX0_init_95 : decode cX0_init 95 = .ok (.return_, 1) := by decide +kernel
set_option maxRecDepth 20000 in
theorem ggX0_learn_X5_init : GoodIn wsX0_learn wsX5_init := goodIn_r _ [7, 8, 9, 10, 11, 12, 13, 14, 15, 16, 17, 18, 19, 20] (by decide +kernel) (by decide +kernel)
set_option maxRecDepth 20000 in
theorem gX0_learn_X5_init : GoodIn wsX0_learn (wsX5_init) := ggX0_learn_X5_init
theorem dX0_learn_0 : decode cX0_learn 0 = .ok (.aload_n 0, 1) := by decide +kernel
theorem dX0_learn_1 : decode cX0_learn 1 = .ok (.new 34, 3) := by decide +kernel
theorem dX0_learn_4 : decode cX0_learn 4 = .ok (.dup, 1) := by decide +kernel
theorem dX0_learn_5 : decode cX0_learn 5 = .ok (.iload_n 1, 1) := by decide +kernel
theorem dX0_learn_6 : decode cX0_learn 6 = .ok (.iload_n 2, 1) := by decide +kernel
theorem dX0_learn_7 : decode cX0_learn 7 = .ok (.iload_n 3, 1) := by decide +kernel
theorem dX0_learn_8 : decode cX0_learn 8 = .ok (.iload 4, 2) := by decide +kernel
theorem dX0_learn_10 : decode cX0_learn 10 = .ok (.aload_n 0, 1) := by decide +kernel
theorem dX0_learn_11 : decode cX0_learn 11 = .ok (.getfield 39, 3) := by decide +kernel
theorem dX0_learn_14 : decode cX0_learn 14 = .ok (.invokespecial 36, 3) := by decide +kernel
theorem dX0_learn_17 : decode cX0_learn 17 = .ok (.putfield 39, 3) := by decide +kernel
theorem dX0_learn_20 : decode cX0_learn 20 = .ok (.return_, 1) := by decide +kernel
theorem dX0_toldAheadOf_0 : decode cX0_toldAheadOf 0 = .ok (.aload_n 0, 1) := by decide +kernel
theorem dX0_toldAheadOf_1 : decode cX0_toldAheadOf 1 = .ok (.getfield 39, 3) := by decide +kernel
theorem dX0_toldAheadOf_4 : decode cX0_toldAheadOf 4 = .ok (.astore_n 2, 1) := by decide +kernel
theorem dX0_toldAheadOf_5 : decode cX0_toldAheadOf 5 = .ok (.aload_n 2, 1) := by decide +kernel
theorem dX0_toldAheadOf_6 : decode cX0_toldAheadOf 6 = .ok (.ifnull 21, 3) := by decide +kernel
theorem dX0_toldAheadOf_9 : decode cX0_toldAheadOf 9 = .ok (.aload_n 2, 1) := by decide +kernel
theorem dX0_toldAheadOf_10 : decode cX0_toldAheadOf 10 = .ok (.getfield 43, 3) := by decide +kernel
theorem dX0_toldAheadOf_13 : decode cX0_toldAheadOf 13 = .ok (.iload_n 1, 1) := by decide +kernel
theorem dX0_toldAheadOf_14 : decode cX0_toldAheadOf 14 = .ok (.if_icmp .ge 5, 3) := by decide +kernel
theorem dX0_toldAheadOf_17 : decode cX0_toldAheadOf 17 = .ok (.aload_n 2, 1) := by decide +kernel
theorem dX0_toldAheadOf_18 : decode cX0_toldAheadOf 18 = .ok (.areturn, 1) := by decide +kernel
theorem dX0_toldAheadOf_19 : decode cX0_toldAheadOf 19 = .ok (.aload_n 2, 1) := by decide +kernel
theorem dX0_toldAheadOf_20 : decode cX0_toldAheadOf 20 = .ok (.getfield 46, 3) := by decide +kernel
theorem dX0_toldAheadOf_23 : decode cX0_toldAheadOf 23 = .ok (.astore_n 2, 1) := by decide +kernel
theorem dX0_toldAheadOf_24 : decode cX0_toldAheadOf 24 = .ok (.goto (-19), 3) := by decide +kernel
theorem dX0_toldAheadOf_27 : decode cX0_toldAheadOf 27 = .ok (.aconst_null, 1) := by decide +kernel
theorem dX0_toldAheadOf_28 : decode cX0_toldAheadOf 28 = .ok (.areturn, 1) := by decide +kernel
theorem dX0_handsIn_0 : decode cX0_handsIn 0 = .ok (.iconst (-1), 1) := by decide +kernel
theorem dX0_handsIn_1 : decode cX0_handsIn 1 = .ok (.istore_n 2, 1) := by decide +kernel
theorem dX0_handsIn_2 : decode cX0_handsIn 2 = .ok (.iconst 0, 1) := by decide +kernel
theorem dX0_handsIn_3 : decode cX0_handsIn 3 = .ok (.istore_n 3, 1) := by decide +kernel
theorem dX0_handsIn_4 : decode cX0_handsIn 4 = .ok (.aload_n 0, 1) := by decide +kernel
theorem dX0_handsIn_5 : decode cX0_handsIn 5 = .ok (.getfield 39, 3) := by decide +kernel
theorem dX0_handsIn_8 : decode cX0_handsIn 8 = .ok (.astore 4, 2) := by decide +kernel
theorem dX0_handsIn_10 : decode cX0_handsIn 10 = .ok (.aload 4, 2) := by decide +kernel
theorem dX0_handsIn_12 : decode cX0_handsIn 12 = .ok (.ifnull 43, 3) := by decide +kernel
theorem dX0_handsIn_15 : decode cX0_handsIn 15 = .ok (.aload 4, 2) := by decide +kernel
theorem dX0_handsIn_17 : decode cX0_handsIn 17 = .ok (.getfield 49, 3) := by decide +kernel
theorem dX0_handsIn_20 : decode cX0_handsIn 20 = .ok (.iload_n 1, 1) := by decide +kernel
theorem dX0_handsIn_21 : decode cX0_handsIn 21 = .ok (.if_icmp .gt 24, 3) := by decide +kernel
theorem dX0_handsIn_24 : decode cX0_handsIn 24 = .ok (.aload 4, 2) := by decide +kernel
theorem dX0_handsIn_26 : decode cX0_handsIn 26 = .ok (.getfield 49, 3) := by decide +kernel
theorem dX0_handsIn_29 : decode cX0_handsIn 29 = .ok (.iload_n 2, 1) := by decide +kernel
theorem dX0_handsIn_30 : decode cX0_handsIn 30 = .ok (.if_icmp .le 15, 3) := by decide +kernel
theorem dX0_handsIn_33 : decode cX0_handsIn 33 = .ok (.aload 4, 2) := by decide +kernel
theorem dX0_handsIn_35 : decode cX0_handsIn 35 = .ok (.getfield 49, 3) := by decide +kernel
theorem dX0_handsIn_38 : decode cX0_handsIn 38 = .ok (.istore_n 2, 1) := by decide +kernel
theorem dX0_handsIn_39 : decode cX0_handsIn 39 = .ok (.aload 4, 2) := by decide +kernel
theorem dX0_handsIn_41 : decode cX0_handsIn 41 = .ok (.getfield 52, 3) := by decide +kernel
theorem dX0_handsIn_44 : decode cX0_handsIn 44 = .ok (.istore_n 3, 1) := by decide +kernel
theorem dX0_handsIn_45 : decode cX0_handsIn 45 = .ok (.aload 4, 2) := by decide +kernel
theorem dX0_handsIn_47 : decode cX0_handsIn 47 = .ok (.getfield 46, 3) := by decide +kernel
theorem dX0_handsIn_50 : decode cX0_handsIn 50 = .ok (.astore 4, 2) := by decide +kernel
theorem dX0_handsIn_52 : decode cX0_handsIn 52 = .ok (.goto (-42), 3) := by decide +kernel
theorem dX0_handsIn_55 : decode cX0_handsIn 55 = .ok (.iload_n 3, 1) := by decide +kernel
theorem dX0_handsIn_56 : decode cX0_handsIn 56 = .ok (.ireturn, 1) := by decide +kernel
theorem dX0_daysMet_0 : decode cX0_daysMet 0 = .ok (.aload_n 0, 1) := by decide +kernel
theorem dX0_daysMet_1 : decode cX0_daysMet 1 = .ok (.getfield 11, 3) := by decide +kernel
theorem dX0_daysMet_4 : decode cX0_daysMet 4 = .ok (.iload_n 1, 1) := by decide +kernel
theorem dX0_daysMet_5 : decode cX0_daysMet 5 = .ok (.iaload, 1) := by decide +kernel
theorem dX0_daysMet_6 : decode cX0_daysMet 6 = .ok (.aload_n 0, 1) := by decide +kernel
theorem dX0_daysMet_7 : decode cX0_daysMet 7 = .ok (.getfield 15, 3) := by decide +kernel
theorem dX0_daysMet_10 : decode cX0_daysMet 10 = .ok (.iload_n 1, 1) := by decide +kernel
theorem dX0_daysMet_11 : decode cX0_daysMet 11 = .ok (.iaload, 1) := by decide +kernel
theorem dX0_daysMet_12 : decode cX0_daysMet 12 = .ok (.iadd, 1) := by decide +kernel
theorem dX0_daysMet_13 : decode cX0_daysMet 13 = .ok (.aload_n 0, 1) := by decide +kernel
theorem dX0_daysMet_14 : decode cX0_daysMet 14 = .ok (.getfield 18, 3) := by decide +kernel
theorem dX0_daysMet_17 : decode cX0_daysMet 17 = .ok (.iload_n 1, 1) := by decide +kernel
theorem dX0_daysMet_18 : decode cX0_daysMet 18 = .ok (.iaload, 1) := by decide +kernel
theorem dX0_daysMet_19 : decode cX0_daysMet 19 = .ok (.iadd, 1) := by decide +kernel
theorem dX0_daysMet_20 : decode cX0_daysMet 20 = .ok (.ireturn, 1) := by decide +kernel
theorem dX1_init_0 : decode cX1_init 0 = .ok (.aload_n 0, 1) := by decide +kernel
theorem dX1_init_1 : decode cX1_init 1 = .ok (.invokespecial 3, 3) := by decide +kernel
theorem dX1_init_4 : decode cX1_init 4 = .ok (.aload_n 0, 1) := by decide +kernel
theorem dX1_init_5 : decode cX1_init 5 = .ok (.iload_n 1, 1) := by decide +kernel
theorem dX1_init_6 : decode cX1_init 6 = .ok (.putfield 9, 3) := by decide +kernel
theorem dX1_init_9 : decode cX1_init 9 = .ok (.aload_n 0, 1) := by decide +kernel
theorem dX1_init_10 : decode cX1_init 10 = .ok (.iload_n 2, 1) := by decide +kernel
theorem dX1_init_11 : decode cX1_init 11 = .ok (.sipush 10000, 3) := by decide +kernel
theorem dX1_init_14 : decode cX1_init 14 = .ok (.idiv, 1) := by decide +kernel
theorem dX1_init_15 : decode cX1_init 15 = .ok (.putfield 15, 3) := by decide +kernel
theorem dX1_init_18 : decode cX1_init 18 = .ok (.aload_n 0, 1) := by decide +kernel
theorem dX1_init_19 : decode cX1_init 19 = .ok (.iload_n 2, 1) := by decide +kernel
theorem dX1_init_20 : decode cX1_init 20 = .ok (.sipush 10000, 3) := by decide +kernel
theorem dX1_init_23 : decode cX1_init 23 = .ok (.irem, 1) := by decide +kernel
theorem dX1_init_24 : decode cX1_init 24 = .ok (.sipush 1000, 3) := by decide +kernel
theorem dX1_init_27 : decode cX1_init 27 = .ok (.idiv, 1) := by decide +kernel
theorem dX1_init_28 : decode cX1_init 28 = .ok (.putfield 18, 3) := by decide +kernel
theorem dX1_init_31 : decode cX1_init 31 = .ok (.aload_n 0, 1) := by decide +kernel
theorem dX1_init_32 : decode cX1_init 32 = .ok (.iload_n 2, 1) := by decide +kernel
theorem dX1_init_33 : decode cX1_init 33 = .ok (.sipush 1000, 3) := by decide +kernel
theorem dX1_init_36 : decode cX1_init 36 = .ok (.irem, 1) := by decide +kernel
theorem dX1_init_37 : decode cX1_init 37 = .ok (.putfield 21, 3) := by decide +kernel
theorem dX1_init_40 : decode cX1_init 40 = .ok (.aload_n 0, 1) := by decide +kernel
theorem dX1_init_41 : decode cX1_init 41 = .ok (.iload_n 3, 1) := by decide +kernel
theorem dX1_init_42 : decode cX1_init 42 = .ok (.putfield 24, 3) := by decide +kernel
theorem dX1_init_45 : decode cX1_init 45 = .ok (.return_, 1) := by decide +kernel
set_option maxRecDepth 20000 in
theorem ggX1_canBe_X8_isWithin : GoodIn wsX1_canBe wsX8_isWithin := goodIn_r _ [4] (by decide +kernel) (by decide +kernel)
set_option maxRecDepth 20000 in
theorem gX1_canBe_X8_isWithin_n28 : GoodIn wsX1_canBe (wsX8_isWithin) := ggX1_canBe_X8_isWithin
theorem dX1_canBe_0 : decode cX1_canBe 0 = .ok (.iload_n 0, 1) := by decide +kernel
theorem dX1_canBe_1 : decode cX1_canBe 1 = .ok (.ldc 27, 2) := by decide +kernel
theorem dX1_canBe_3 : decode cX1_canBe 3 = .ok (.invokestatic 28, 3) := by decide +kernel
theorem dX1_canBe_6 : decode cX1_canBe 6 = .ok (.ifCond .eq 18, 3) := by decide +kernel
theorem dX1_canBe_9 : decode cX1_canBe 9 = .ok (.iload_n 0, 1) := by decide +kernel
theorem dX1_canBe_10 : decode cX1_canBe 10 = .ok (.sipush 1000, 3) := by decide +kernel
theorem dX1_canBe_13 : decode cX1_canBe 13 = .ok (.irem, 1) := by decide +kernel
theorem dX1_canBe_14 : decode cX1_canBe 14 = .ok (.sipush 500, 3) := by decide +kernel
theorem dX1_canBe_17 : decode cX1_canBe 17 = .ok (.if_icmp .gt 7, 3) := by decide +kernel
theorem dX1_canBe_20 : decode cX1_canBe 20 = .ok (.iconst 1, 1) := by decide +kernel
theorem dX1_canBe_21 : decode cX1_canBe 21 = .ok (.goto 4, 3) := by decide +kernel
theorem dX1_canBe_24 : decode cX1_canBe 24 = .ok (.iconst 0, 1) := by decide +kernel
theorem dX1_canBe_25 : decode cX1_canBe 25 = .ok (.ireturn, 1) := by decide +kernel
theorem dX1_daysFor_0 : decode cX1_daysFor 0 = .ok (.aload_n 1, 1) := by decide +kernel
theorem dX1_daysFor_1 : decode cX1_daysFor 1 = .ok (.getfield 32, 3) := by decide +kernel
theorem dX1_daysFor_4 : decode cX1_daysFor 4 = .ok (.aload_n 0, 1) := by decide +kernel
theorem dX1_daysFor_5 : decode cX1_daysFor 5 = .ok (.getfield 21, 3) := by decide +kernel
theorem dX1_daysFor_8 : decode cX1_daysFor 8 = .ok (.if_icmp .ge 5, 3) := by decide +kernel
theorem dX1_daysFor_11 : decode cX1_daysFor 11 = .ok (.iconst 0, 1) := by decide +kernel
theorem dX1_daysFor_12 : decode cX1_daysFor 12 = .ok (.ireturn, 1) := by decide +kernel
theorem dX1_daysFor_13 : decode cX1_daysFor 13 = .ok (.aload_n 1, 1) := by decide +kernel
theorem dX1_daysFor_14 : decode cX1_daysFor 14 = .ok (.getfield 32, 3) := by decide +kernel
theorem dX1_daysFor_17 : decode cX1_daysFor 17 = .ok (.bipush 10, 2) := by decide +kernel
theorem dX1_daysFor_19 : decode cX1_daysFor 19 = .ok (.idiv, 1) := by decide +kernel
theorem dX1_daysFor_20 : decode cX1_daysFor 20 = .ok (.aload_n 0, 1) := by decide +kernel
theorem dX1_daysFor_21 : decode cX1_daysFor 21 = .ok (.getfield 15, 3) := by decide +kernel
theorem dX1_daysFor_24 : decode cX1_daysFor 24 = .ok (.imul, 1) := by decide +kernel
theorem dX1_daysFor_25 : decode cX1_daysFor 25 = .ok (.aload_n 1, 1) := by decide +kernel
theorem dX1_daysFor_26 : decode cX1_daysFor 26 = .ok (.getfield 37, 3) := by decide +kernel
theorem dX1_daysFor_29 : decode cX1_daysFor 29 = .ok (.aload_n 0, 1) := by decide +kernel
theorem dX1_daysFor_30 : decode cX1_daysFor 30 = .ok (.getfield 18, 3) := by decide +kernel
theorem dX1_daysFor_33 : decode cX1_daysFor 33 = .ok (.imul, 1) := by decide +kernel
theorem dX1_daysFor_34 : decode cX1_daysFor 34 = .ok (.iadd, 1) := by decide +kernel
theorem dX1_daysFor_35 : decode cX1_daysFor 35 = .ok (.ireturn, 1) := by decide +kernel
set_option maxRecDepth 20000 in
theorem ggX2_init_X1_init : GoodIn wsX2_init wsX1_init := goodIn_r _ [12, 13, 2, 3, 14, 15, 16, 17, 18, 22, 23, 24, 25, 26] (by decide +kernel) (by decide +kernel)
set_option maxRecDepth 20000 in
theorem gX2_init_X1_init : GoodIn wsX2_init (wsX1_init) := ggX2_init_X1_init
theorem dX2_init_0 : decode cX2_init 0 = .ok (.aload_n 0, 1) := by decide +kernel
theorem dX2_init_1 : decode cX2_init 1 = .ok (.invokespecial 3, 3) := by decide +kernel
theorem dX2_init_4 : decode cX2_init 4 = .ok (.aload_n 0, 1) := by decide +kernel
theorem dX2_init_5 : decode cX2_init 5 = .ok (.bipush 40, 2) := by decide +kernel
theorem dX2_init_7 : decode cX2_init 7 = .ok (.anewarray 9, 3) := by decide +kernel
theorem dX2_init_10 : decode cX2_init 10 = .ok (.putfield 11, 3) := by decide +kernel
theorem dX2_init_13 : decode cX2_init 13 = .ok (.aload_n 0, 1) := by decide +kernel
theorem dX2_init_14 : decode cX2_init 14 = .ok (.new 9, 3) := by decide +kernel
theorem dX2_init_17 : decode cX2_init 17 = .ok (.dup, 1) := by decide +kernel
theorem dX2_init_18 : decode cX2_init 18 = .ok (.iconst 0, 1) := by decide +kernel
theorem dX2_init_19 : decode cX2_init 19 = .ok (.iconst 0, 1) := by decide +kernel
theorem dX2_init_20 : decode cX2_init 20 = .ok (.iconst 0, 1) := by decide +kernel
theorem dX2_init_21 : decode cX2_init 21 = .ok (.invokespecial 17, 3) := by decide +kernel
theorem dX2_init_24 : decode cX2_init 24 = .ok (.putfield 20, 3) := by decide +kernel
theorem dX2_init_27 : decode cX2_init 27 = .ok (.aload_n 0, 1) := by decide +kernel
theorem dX2_init_28 : decode cX2_init 28 = .ok (.iconst 0, 1) := by decide +kernel
theorem dX2_init_29 : decode cX2_init 29 = .ok (.putfield 24, 3) := by decide +kernel
theorem dX2_init_32 : decode cX2_init 32 = .ok (.return_, 1) := by decide +kernel
theorem dX2_isFull_0 : decode cX2_isFull 0 = .ok (.aload_n 0, 1) := by decide +kernel
theorem dX2_isFull_1 : decode cX2_isFull 1 = .ok (.getfield 24, 3) := by decide +kernel
theorem dX2_isFull_4 : decode cX2_isFull 4 = .ok (.bipush 40, 2) := by decide +kernel
theorem dX2_isFull_6 : decode cX2_isFull 6 = .ok (.if_icmp .lt 7, 3) := by decide +kernel
theorem dX2_isFull_9 : decode cX2_isFull 9 = .ok (.iconst 1, 1) := by decide +kernel
theorem dX2_isFull_10 : decode cX2_isFull 10 = .ok (.goto 4, 3) := by decide +kernel
theorem dX2_isFull_13 : decode cX2_isFull 13 = .ok (.iconst 0, 1) := by decide +kernel
theorem dX2_isFull_14 : decode cX2_isFull 14 = .ok (.ireturn, 1) := by decide +kernel
set_option maxRecDepth 20000 in
theorem ggX2_add_X2_isFull : GoodIn wsX2_add wsX2_isFull := goodIn_r _ [7, 2, 8, 9, 10] (by decide +kernel) (by decide +kernel)
set_option maxRecDepth 20000 in
theorem gX2_add_X2_isFull : GoodIn wsX2_add (wsV RX2 28 RX2 yX2_isFull wsX2_isFull) := goodIn_app (goodIn_of _ (by decide +kernel)) ggX2_add_X2_isFull
theorem dX2_add_0 : decode cX2_add 0 = .ok (.aload_n 0, 1) := by decide +kernel
theorem dX2_add_1 : decode cX2_add 1 = .ok (.invokevirtual 28, 3) := by decide +kernel
theorem dX2_add_4 : decode cX2_add 4 = .ok (.ifCond .ne 23, 3) := by decide +kernel
theorem dX2_add_7 : decode cX2_add 7 = .ok (.aload_n 0, 1) := by decide +kernel
theorem dX2_add_8 : decode cX2_add 8 = .ok (.getfield 11, 3) := by decide +kernel
theorem dX2_add_11 : decode cX2_add 11 = .ok (.aload_n 0, 1) := by decide +kernel
theorem dX2_add_12 : decode cX2_add 12 = .ok (.getfield 24, 3) := by decide +kernel
theorem dX2_add_15 : decode cX2_add 15 = .ok (.aload_n 1, 1) := by decide +kernel
theorem dX2_add_16 : decode cX2_add 16 = .ok (.aastore, 1) := by decide +kernel
theorem dX2_add_17 : decode cX2_add 17 = .ok (.aload_n 0, 1) := by decide +kernel
theorem dX2_add_18 : decode cX2_add 18 = .ok (.dup, 1) := by decide +kernel
theorem dX2_add_19 : decode cX2_add 19 = .ok (.getfield 24, 3) := by decide +kernel
theorem dX2_add_22 : decode cX2_add 22 = .ok (.iconst 1, 1) := by decide +kernel
theorem dX2_add_23 : decode cX2_add 23 = .ok (.iadd, 1) := by decide +kernel
theorem dX2_add_24 : decode cX2_add 24 = .ok (.putfield 24, 3) := by decide +kernel
theorem dX2_add_27 : decode cX2_add 27 = .ok (.return_, 1) := by decide +kernel
theorem dX2_ofYear_0 : decode cX2_ofYear 0 = .ok (.aload_n 0, 1) := by decide +kernel
theorem dX2_ofYear_1 : decode cX2_ofYear 1 = .ok (.getfield 20, 3) := by decide +kernel
theorem dX2_ofYear_4 : decode cX2_ofYear 4 = .ok (.astore_n 2, 1) := by decide +kernel
theorem dX2_ofYear_5 : decode cX2_ofYear 5 = .ok (.iconst 0, 1) := by decide +kernel
theorem dX2_ofYear_6 : decode cX2_ofYear 6 = .ok (.istore_n 3, 1) := by decide +kernel
theorem dX2_ofYear_7 : decode cX2_ofYear 7 = .ok (.iload_n 3, 1) := by decide +kernel
theorem dX2_ofYear_8 : decode cX2_ofYear 8 = .ok (.aload_n 0, 1) := by decide +kernel
theorem dX2_ofYear_9 : decode cX2_ofYear 9 = .ok (.getfield 24, 3) := by decide +kernel
theorem dX2_ofYear_12 : decode cX2_ofYear 12 = .ok (.if_icmp .ge 45, 3) := by decide +kernel
theorem dX2_ofYear_15 : decode cX2_ofYear 15 = .ok (.aload_n 0, 1) := by decide +kernel
theorem dX2_ofYear_16 : decode cX2_ofYear 16 = .ok (.getfield 11, 3) := by decide +kernel
theorem dX2_ofYear_19 : decode cX2_ofYear 19 = .ok (.iload_n 3, 1) := by decide +kernel
theorem dX2_ofYear_20 : decode cX2_ofYear 20 = .ok (.aaload, 1) := by decide +kernel
theorem dX2_ofYear_21 : decode cX2_ofYear 21 = .ok (.getfield 32, 3) := by decide +kernel
theorem dX2_ofYear_24 : decode cX2_ofYear 24 = .ok (.iload_n 1, 1) := by decide +kernel
theorem dX2_ofYear_25 : decode cX2_ofYear 25 = .ok (.if_icmp .gt 26, 3) := by decide +kernel
theorem dX2_ofYear_28 : decode cX2_ofYear 28 = .ok (.aload_n 0, 1) := by decide +kernel
theorem dX2_ofYear_29 : decode cX2_ofYear 29 = .ok (.getfield 11, 3) := by decide +kernel
theorem dX2_ofYear_32 : decode cX2_ofYear 32 = .ok (.iload_n 3, 1) := by decide +kernel
theorem dX2_ofYear_33 : decode cX2_ofYear 33 = .ok (.aaload, 1) := by decide +kernel
theorem dX2_ofYear_34 : decode cX2_ofYear 34 = .ok (.getfield 32, 3) := by decide +kernel
theorem dX2_ofYear_37 : decode cX2_ofYear 37 = .ok (.aload_n 2, 1) := by decide +kernel
theorem dX2_ofYear_38 : decode cX2_ofYear 38 = .ok (.getfield 32, 3) := by decide +kernel
theorem dX2_ofYear_41 : decode cX2_ofYear 41 = .ok (.if_icmp .lt 10, 3) := by decide +kernel
theorem dX2_ofYear_44 : decode cX2_ofYear 44 = .ok (.aload_n 0, 1) := by decide +kernel
theorem dX2_ofYear_45 : decode cX2_ofYear 45 = .ok (.getfield 11, 3) := by decide +kernel
theorem dX2_ofYear_48 : decode cX2_ofYear 48 = .ok (.iload_n 3, 1) := by decide +kernel
theorem dX2_ofYear_49 : decode cX2_ofYear 49 = .ok (.aaload, 1) := by decide +kernel
theorem dX2_ofYear_50 : decode cX2_ofYear 50 = .ok (.astore_n 2, 1) := by decide +kernel
theorem dX2_ofYear_51 : decode cX2_ofYear 51 = .ok (.iinc 3 1, 3) := by decide +kernel
theorem dX2_ofYear_54 : decode cX2_ofYear 54 = .ok (.goto (-47), 3) := by decide +kernel
theorem dX2_ofYear_57 : decode cX2_ofYear 57 = .ok (.aload_n 2, 1) := by decide +kernel
theorem dX2_ofYear_58 : decode cX2_ofYear 58 = .ok (.areturn, 1) := by decide +kernel
theorem dX3_init_0 : decode cX3_init 0 = .ok (.aload_n 0, 1) := by decide +kernel
theorem dX3_init_1 : decode cX3_init 1 = .ok (.invokespecial 5, 3) := by decide +kernel
theorem dX3_init_4 : decode cX3_init 4 = .ok (.aload_n 0, 1) := by decide +kernel
theorem dX3_init_5 : decode cX3_init 5 = .ok (.sipush 301, 3) := by decide +kernel
theorem dX3_init_8 : decode cX3_init 8 = .ok (.newarray .long, 2) := by decide +kernel
theorem dX3_init_10 : decode cX3_init 10 = .ok (.putfield 11, 3) := by decide +kernel
theorem dX3_init_13 : decode cX3_init 13 = .ok (.return_, 1) := by decide +kernel
set_option maxRecDepth 20000 in
theorem ggX3_bestWorth_X8_isWithin : GoodIn wsX3_bestWorth wsX8_isWithin := goodIn_r _ [6] (by decide +kernel) (by decide +kernel)
set_option maxRecDepth 20000 in
theorem gX3_bestWorth_X8_isWithin_n15 : GoodIn wsX3_bestWorth (wsX8_isWithin) := ggX3_bestWorth_X8_isWithin
set_option maxRecDepth 20000 in
theorem ggX3_bestWorth_X4_daysTo : GoodIn wsX3_bestWorth wsX4_daysTo := goodIn_r _ [11, 12, 13, 14, 15, 10, 16, 17, 18, 5, 19, 30, 31, 32, 33, 34] (by decide +kernel) (by decide +kernel)
set_option maxRecDepth 20000 in
theorem gX3_bestWorth_X4_daysTo : GoodIn wsX3_bestWorth (wsV RX3 25 RX4 yX4_daysTo wsX4_daysTo) := goodIn_app (goodIn_of _ (by decide +kernel)) ggX3_bestWorth_X4_daysTo
set_option maxRecDepth 20000 in
theorem ggX3_bestWorth_X3_offer : GoodIn wsX3_bestWorth wsX3_offer := goodIn_r _ [24, 1, 25, 26, 27, 28, 29] (by decide +kernel) (by decide +kernel)
set_option maxRecDepth 20000 in
theorem gX3_bestWorth_X3_offer : GoodIn wsX3_bestWorth (wsV RX3 32 RX3 yX3_offer wsX3_offer) := goodIn_app (goodIn_of _ (by decide +kernel)) ggX3_bestWorth_X3_offer
theorem dX3_bestWorth_0 : decode cX3_bestWorth 0 = .ok (.iload_n 2, 1) := by decide +kernel
theorem dX3_bestWorth_1 : decode cX3_bestWorth 1 = .ok (.sipush 300, 3) := by decide +kernel
theorem dX3_bestWorth_4 : decode cX3_bestWorth 4 = .ok (.invokestatic 15, 3) := by decide +kernel
theorem dX3_bestWorth_7 : decode cX3_bestWorth 7 = .ok (.ifCond .ne 5, 3) := by decide +kernel
theorem dX3_bestWorth_10 : decode cX3_bestWorth 10 = .ok (.lconst 0, 1) := by decide +kernel
theorem dX3_bestWorth_11 : decode cX3_bestWorth 11 = .ok (.lreturn, 1) := by decide +kernel
theorem dX3_bestWorth_12 : decode cX3_bestWorth 12 = .ok (.iconst 0, 1) := by decide +kernel
theorem dX3_bestWorth_13 : decode cX3_bestWorth 13 = .ok (.istore 4, 2) := by decide +kernel
theorem dX3_bestWorth_15 : decode cX3_bestWorth 15 = .ok (.iload 4, 2) := by decide +kernel
theorem dX3_bestWorth_17 : decode cX3_bestWorth 17 = .ok (.iload_n 2, 1) := by decide +kernel
theorem dX3_bestWorth_18 : decode cX3_bestWorth 18 = .ok (.if_icmp .gt 17, 3) := by decide +kernel
theorem dX3_bestWorth_21 : decode cX3_bestWorth 21 = .ok (.aload_n 0, 1) := by decide +kernel
theorem dX3_bestWorth_22 : decode cX3_bestWorth 22 = .ok (.getfield 11, 3) := by decide +kernel
theorem dX3_bestWorth_25 : decode cX3_bestWorth 25 = .ok (.iload 4, 2) := by decide +kernel
theorem dX3_bestWorth_27 : decode cX3_bestWorth 27 = .ok (.lconst 0, 1) := by decide +kernel
theorem dX3_bestWorth_28 : decode cX3_bestWorth 28 = .ok (.lastore, 1) := by decide +kernel
theorem dX3_bestWorth_29 : decode cX3_bestWorth 29 = .ok (.iinc 4 1, 3) := by decide +kernel
theorem dX3_bestWorth_32 : decode cX3_bestWorth 32 = .ok (.goto (-17), 3) := by decide +kernel
theorem dX3_bestWorth_35 : decode cX3_bestWorth 35 = .ok (.iconst 0, 1) := by decide +kernel
theorem dX3_bestWorth_36 : decode cX3_bestWorth 36 = .ok (.istore 4, 2) := by decide +kernel
theorem dX3_bestWorth_38 : decode cX3_bestWorth 38 = .ok (.iload 4, 2) := by decide +kernel
theorem dX3_bestWorth_40 : decode cX3_bestWorth 40 = .ok (.aload_n 1, 1) := by decide +kernel
theorem dX3_bestWorth_41 : decode cX3_bestWorth 41 = .ok (.arraylength, 1) := by decide +kernel
theorem dX3_bestWorth_42 : decode cX3_bestWorth 42 = .ok (.if_icmp .ge 49, 3) := by decide +kernel
theorem dX3_bestWorth_45 : decode cX3_bestWorth 45 = .ok (.aload_n 1, 1) := by decide +kernel
theorem dX3_bestWorth_46 : decode cX3_bestWorth 46 = .ok (.iload 4, 2) := by decide +kernel
theorem dX3_bestWorth_48 : decode cX3_bestWorth 48 = .ok (.aaload, 1) := by decide +kernel
theorem dX3_bestWorth_49 : decode cX3_bestWorth 49 = .ok (.getfield 19, 3) := by decide +kernel
theorem dX3_bestWorth_52 : decode cX3_bestWorth 52 = .ok (.iload_n 3, 1) := by decide +kernel
theorem dX3_bestWorth_53 : decode cX3_bestWorth 53 = .ok (.if_icmp .ge 32, 3) := by decide +kernel
theorem dX3_bestWorth_56 : decode cX3_bestWorth 56 = .ok (.aload_n 0, 1) := by decide +kernel
theorem dX3_bestWorth_57 : decode cX3_bestWorth 57 = .ok (.aload_n 1, 1) := by decide +kernel
theorem dX3_bestWorth_58 : decode cX3_bestWorth 58 = .ok (.iload 4, 2) := by decide +kernel
theorem dX3_bestWorth_60 : decode cX3_bestWorth 60 = .ok (.aaload, 1) := by decide +kernel
theorem dX3_bestWorth_61 : decode cX3_bestWorth 61 = .ok (.iload_n 3, 1) := by decide +kernel
theorem dX3_bestWorth_62 : decode cX3_bestWorth 62 = .ok (.invokevirtual 25, 3) := by decide +kernel
theorem dX3_bestWorth_65 : decode cX3_bestWorth 65 = .ok (.aload_n 1, 1) := by decide +kernel
theorem dX3_bestWorth_66 : decode cX3_bestWorth 66 = .ok (.iload 4, 2) := by decide +kernel
theorem dX3_bestWorth_68 : decode cX3_bestWorth 68 = .ok (.aaload, 1) := by decide +kernel
theorem dX3_bestWorth_69 : decode cX3_bestWorth 69 = .ok (.getfield 29, 3) := by decide +kernel
theorem dX3_bestWorth_72 : decode cX3_bestWorth 72 = .ok (.i2l, 1) := by decide +kernel
theorem dX3_bestWorth_73 : decode cX3_bestWorth 73 = .ok (.bipush 30, 2) := by decide +kernel
theorem dX3_bestWorth_75 : decode cX3_bestWorth 75 = .ok (.lshl, 1) := by decide +kernel
theorem dX3_bestWorth_76 : decode cX3_bestWorth 76 = .ok (.lconst 1, 1) := by decide +kernel
theorem dX3_bestWorth_77 : decode cX3_bestWorth 77 = .ok (.iload 4, 2) := by decide +kernel
theorem dX3_bestWorth_79 : decode cX3_bestWorth 79 = .ok (.lshl, 1) := by decide +kernel
theorem dX3_bestWorth_80 : decode cX3_bestWorth 80 = .ok (.lsub, 1) := by decide +kernel
theorem dX3_bestWorth_81 : decode cX3_bestWorth 81 = .ok (.iload_n 2, 1) := by decide +kernel
theorem dX3_bestWorth_82 : decode cX3_bestWorth 82 = .ok (.invokevirtual 32, 3) := by decide +kernel
theorem dX3_bestWorth_85 : decode cX3_bestWorth 85 = .ok (.iinc 4 1, 3) := by decide +kernel
theorem dX3_bestWorth_88 : decode cX3_bestWorth 88 = .ok (.goto (-50), 3) := by decide +kernel
theorem dX3_bestWorth_91 : decode cX3_bestWorth 91 = .ok (.aload_n 0, 1) := by decide +kernel
theorem dX3_bestWorth_92 : decode cX3_bestWorth 92 = .ok (.getfield 11, 3) := by decide +kernel
theorem dX3_bestWorth_95 : decode cX3_bestWorth 95 = .ok (.iload_n 2, 1) := by decide +kernel
theorem dX3_bestWorth_96 : decode cX3_bestWorth 96 = .ok (.laload, 1) := by decide +kernel
theorem dX3_bestWorth_97 : decode cX3_bestWorth 97 = .ok (.lreturn, 1) := by decide +kernel
theorem dX3_offer_0 : decode cX3_offer 0 = .ok (.iload_n 1, 1) := by decide +kernel
theorem dX3_offer_1 : decode cX3_offer 1 = .ok (.iconst 1, 1) := by decide +kernel
theorem dX3_offer_2 : decode cX3_offer 2 = .ok (.if_icmp .lt 9, 3) := by decide +kernel
theorem dX3_offer_5 : decode cX3_offer 5 = .ok (.lload_n 2, 1) := by decide +kernel
theorem dX3_offer_6 : decode cX3_offer 6 = .ok (.lconst 0, 1) := by decide +kernel
theorem dX3_offer_7 : decode cX3_offer 7 = .ok (.lcmp, 1) := by decide +kernel
theorem dX3_offer_8 : decode cX3_offer 8 = .ok (.ifCond .gt 4, 3) := by decide +kernel
theorem dX3_offer_11 : decode cX3_offer 11 = .ok (.return_, 1) := by decide +kernel
theorem dX3_offer_12 : decode cX3_offer 12 = .ok (.iload 4, 2) := by decide +kernel
theorem dX3_offer_14 : decode cX3_offer 14 = .ok (.istore 5, 2) := by decide +kernel
theorem dX3_offer_16 : decode cX3_offer 16 = .ok (.iload 5, 2) := by decide +kernel
theorem dX3_offer_18 : decode cX3_offer 18 = .ok (.iload_n 1, 1) := by decide +kernel
theorem dX3_offer_19 : decode cX3_offer 19 = .ok (.if_icmp .lt 37, 3) := by decide +kernel
theorem dX3_offer_22 : decode cX3_offer 22 = .ok (.aload_n 0, 1) := by decide +kernel
theorem dX3_offer_23 : decode cX3_offer 23 = .ok (.getfield 11, 3) := by decide +kernel
theorem dX3_offer_26 : decode cX3_offer 26 = .ok (.iload 5, 2) := by decide +kernel
theorem dX3_offer_28 : decode cX3_offer 28 = .ok (.aload_n 0, 1) := by decide +kernel
theorem dX3_offer_29 : decode cX3_offer 29 = .ok (.getfield 11, 3) := by decide +kernel
theorem dX3_offer_32 : decode cX3_offer 32 = .ok (.iload 5, 2) := by decide +kernel
theorem dX3_offer_34 : decode cX3_offer 34 = .ok (.laload, 1) := by decide +kernel
theorem dX3_offer_35 : decode cX3_offer 35 = .ok (.aload_n 0, 1) := by decide +kernel
theorem dX3_offer_36 : decode cX3_offer 36 = .ok (.getfield 11, 3) := by decide +kernel
theorem dX3_offer_39 : decode cX3_offer 39 = .ok (.iload 5, 2) := by decide +kernel
theorem dX3_offer_41 : decode cX3_offer 41 = .ok (.iload_n 1, 1) := by decide +kernel
theorem dX3_offer_42 : decode cX3_offer 42 = .ok (.isub, 1) := by decide +kernel
theorem dX3_offer_43 : decode cX3_offer 43 = .ok (.laload, 1) := by decide +kernel
theorem dX3_offer_44 : decode cX3_offer 44 = .ok (.lload_n 2, 1) := by decide +kernel
theorem dX3_offer_45 : decode cX3_offer 45 = .ok (.ladd, 1) := by decide +kernel
theorem dX3_offer_46 : decode cX3_offer 46 = .ok (.invokestatic 36, 3) := by decide +kernel
theorem dX3_offer_49 : decode cX3_offer 49 = .ok (.lastore, 1) := by decide +kernel
theorem dX3_offer_50 : decode cX3_offer 50 = .ok (.iinc 5 (-1), 3) := by decide +kernel
theorem dX3_offer_53 : decode cX3_offer 53 = .ok (.goto (-37), 3) := by decide +kernel
theorem dX3_offer_56 : decode cX3_offer 56 = .ok (.return_, 1) := by decide +kernel
theorem dX3_lossOf_0 : decode cX3_lossOf 0 = .ok (.lload_n 0, 1) := by decide +kernel
theorem dX3_lossOf_1 : decode cX3_lossOf 1 = .ok (.ldc2_w 42, 3) := by decide +kernel
theorem dX3_lossOf_4 : decode cX3_lossOf 4 = .ok (.ladd, 1) := by decide +kernel
theorem dX3_lossOf_5 : decode cX3_lossOf 5 = .ok (.lconst 1, 1) := by decide +kernel
theorem dX3_lossOf_6 : decode cX3_lossOf 6 = .ok (.lsub, 1) := by decide +kernel
theorem dX3_lossOf_7 : decode cX3_lossOf 7 = .ok (.bipush 30, 2) := by decide +kernel
theorem dX3_lossOf_9 : decode cX3_lossOf 9 = .ok (.lshr, 1) := by decide +kernel
theorem dX3_lossOf_10 : decode cX3_lossOf 10 = .ok (.l2i, 1) := by decide +kernel
theorem dX3_lossOf_11 : decode cX3_lossOf 11 = .ok (.ireturn, 1) := by decide +kernel
set_option maxRecDepth 20000 in
theorem ggX3_heapOf_X3_lossOf : GoodIn wsX3_heapOf wsX3_lossOf := goodIn_r _ [4, 5] (by decide +kernel) (by decide +kernel)
set_option maxRecDepth 20000 in
theorem gX3_heapOf_X3_lossOf : GoodIn wsX3_heapOf (va_wsS RX3 44 yX3_lossOf wsX3_lossOf) := goodIn_app (goodIn_of _ (by decide +kernel)) ggX3_heapOf_X3_lossOf
theorem dX3_heapOf_0 : decode cX3_heapOf 0 = .ok (.lload_n 0, 1) := by decide +kernel
theorem dX3_heapOf_1 : decode cX3_heapOf 1 = .ok (.invokestatic 44, 3) := by decide +kernel
theorem dX3_heapOf_4 : decode cX3_heapOf 4 = .ok (.i2l, 1) := by decide +kernel
theorem dX3_heapOf_5 : decode cX3_heapOf 5 = .ok (.bipush 30, 2) := by decide +kernel
theorem dX3_heapOf_7 : decode cX3_heapOf 7 = .ok (.lshl, 1) := by decide +kernel
theorem dX3_heapOf_8 : decode cX3_heapOf 8 = .ok (.lload_n 0, 1) := by decide +kernel
theorem dX3_heapOf_9 : decode cX3_heapOf 9 = .ok (.lsub, 1) := by decide +kernel
theorem dX3_heapOf_10 : decode cX3_heapOf 10 = .ok (.l2i, 1) := by decide +kernel
theorem dX3_heapOf_11 : decode cX3_heapOf 11 = .ok (.ireturn, 1) := by decide +kernel
theorem dX4_init_0 : decode cX4_init 0 = .ok (.aload_n 0, 1) := by decide +kernel
theorem dX4_init_1 : decode cX4_init 1 = .ok (.invokespecial 1, 3) := by decide +kernel
theorem dX4_init_4 : decode cX4_init 4 = .ok (.aload_n 0, 1) := by decide +kernel
theorem dX4_init_5 : decode cX4_init 5 = .ok (.sipush 1000, 3) := by decide +kernel
theorem dX4_init_8 : decode cX4_init 8 = .ok (.putfield 9, 3) := by decide +kernel
theorem dX4_init_11 : decode cX4_init 11 = .ok (.aload_n 0, 1) := by decide +kernel
theorem dX4_init_12 : decode cX4_init 12 = .ok (.iconst 0, 1) := by decide +kernel
theorem dX4_init_13 : decode cX4_init 13 = .ok (.putfield 13, 3) := by decide +kernel
theorem dX4_init_16 : decode cX4_init 16 = .ok (.aload_n 0, 1) := by decide +kernel
theorem dX4_init_17 : decode cX4_init 17 = .ok (.iconst 0, 1) := by decide +kernel
theorem dX4_init_18 : decode cX4_init 18 = .ok (.putfield 16, 3) := by decide +kernel
theorem dX4_init_21 : decode cX4_init 21 = .ok (.aload_n 0, 1) := by decide +kernel
theorem dX4_init_22 : decode cX4_init 22 = .ok (.iconst 0, 1) := by decide +kernel
theorem dX4_init_23 : decode cX4_init 23 = .ok (.putfield 19, 3) := by decide +kernel
theorem dX4_init_26 : decode cX4_init 26 = .ok (.aload_n 0, 1) := by decide +kernel
theorem dX4_init_27 : decode cX4_init 27 = .ok (.iconst 0, 1) := by decide +kernel
theorem dX4_init_28 : decode cX4_init 28 = .ok (.putfield 22, 3) := by decide +kernel
theorem dX4_init_31 : decode cX4_init 31 = .ok (.return_, 1) := by decide +kernel
theorem dX4_growthOfDay_0 : decode cX4_growthOfDay 0 = .ok (.aload_n 0, 1) := by decide +kernel
theorem dX4_growthOfDay_1 : decode cX4_growthOfDay 1 = .ok (.getfield 13, 3) := by decide +kernel
theorem dX4_growthOfDay_4 : decode cX4_growthOfDay 4 = .ok (.lookupswitch 34 #[(0, 28), (1, 31)], 28) := by decide +kernel
theorem dX4_growthOfDay_32 : decode cX4_growthOfDay 32 = .ok (.bipush 30, 2) := by decide +kernel
theorem dX4_growthOfDay_34 : decode cX4_growthOfDay 34 = .ok (.ireturn, 1) := by decide +kernel
theorem dX4_growthOfDay_35 : decode cX4_growthOfDay 35 = .ok (.bipush 20, 2) := by decide +kernel
theorem dX4_growthOfDay_37 : decode cX4_growthOfDay 37 = .ok (.ireturn, 1) := by decide +kernel
theorem dX4_growthOfDay_38 : decode cX4_growthOfDay 38 = .ok (.bipush 10, 2) := by decide +kernel
theorem dX4_growthOfDay_40 : decode cX4_growthOfDay 40 = .ok (.ireturn, 1) := by decide +kernel
set_option maxRecDepth 20000 in
theorem ggX4_raise_X4_growthOfDay : GoodIn wsX4_raise wsX4_growthOfDay := goodIn_r _ [11, 12, 13, 14, 15, 16, 17] (by decide +kernel) (by decide +kernel)
set_option maxRecDepth 20000 in
theorem gX4_raise_X4_growthOfDay : GoodIn wsX4_raise (wsV RX4 25 RX4 yX4_growthOfDay wsX4_growthOfDay) := goodIn_app (goodIn_of _ (by decide +kernel)) ggX4_raise_X4_growthOfDay
theorem dX4_raise_0 : decode cX4_raise 0 = .ok (.aload_n 0, 1) := by decide +kernel
theorem dX4_raise_1 : decode cX4_raise 1 = .ok (.sipush 3000, 3) := by decide +kernel
theorem dX4_raise_4 : decode cX4_raise 4 = .ok (.aload_n 0, 1) := by decide +kernel
theorem dX4_raise_5 : decode cX4_raise 5 = .ok (.getfield 9, 3) := by decide +kernel
theorem dX4_raise_8 : decode cX4_raise 8 = .ok (.iload_n 1, 1) := by decide +kernel
theorem dX4_raise_9 : decode cX4_raise 9 = .ok (.aload_n 0, 1) := by decide +kernel
theorem dX4_raise_10 : decode cX4_raise 10 = .ok (.invokevirtual 25, 3) := by decide +kernel
theorem dX4_raise_13 : decode cX4_raise 13 = .ok (.imul, 1) := by decide +kernel
theorem dX4_raise_14 : decode cX4_raise 14 = .ok (.iadd, 1) := by decide +kernel
theorem dX4_raise_15 : decode cX4_raise 15 = .ok (.invokestatic 29, 3) := by decide +kernel
theorem dX4_raise_18 : decode cX4_raise 18 = .ok (.putfield 9, 3) := by decide +kernel
theorem dX4_raise_21 : decode cX4_raise 21 = .ok (.aload_n 0, 1) := by decide +kernel
theorem dX4_raise_22 : decode cX4_raise 22 = .ok (.dup, 1) := by decide +kernel
theorem dX4_raise_23 : decode cX4_raise 23 = .ok (.getfield 22, 3) := by decide +kernel
theorem dX4_raise_26 : decode cX4_raise 26 = .ok (.iload_n 1, 1) := by decide +kernel
theorem dX4_raise_27 : decode cX4_raise 27 = .ok (.iadd, 1) := by decide +kernel
theorem dX4_raise_28 : decode cX4_raise 28 = .ok (.putfield 22, 3) := by decide +kernel
theorem dX4_raise_31 : decode cX4_raise 31 = .ok (.return_, 1) := by decide +kernel
set_option maxRecDepth 20000 in
theorem ggX4_daysTo_X4_growthOfDay : GoodIn wsX4_daysTo wsX4_growthOfDay := goodIn_r _ [6, 7, 11, 12, 13, 14, 15] (by decide +kernel) (by decide +kernel)
set_option maxRecDepth 20000 in
theorem gX4_daysTo_X4_growthOfDay : GoodIn wsX4_daysTo (wsV RX4 25 RX4 yX4_growthOfDay wsX4_growthOfDay) := goodIn_app (goodIn_of _ (by decide +kernel)) ggX4_daysTo_X4_growthOfDay
set_option maxRecDepth 20000 in
theorem ggX4_daysTo_X8_dividedUp : GoodIn wsX4_daysTo wsX8_dividedUp := goodIn_r _ [10] (by decide +kernel) (by decide +kernel)
set_option maxRecDepth 20000 in
theorem gX4_daysTo_X8_dividedUp_n35 : GoodIn wsX4_daysTo (wsX8_dividedUp) := ggX4_daysTo_X8_dividedUp
theorem dX4_daysTo_0 : decode cX4_daysTo 0 = .ok (.iload_n 1, 1) := by decide +kernel
theorem dX4_daysTo_1 : decode cX4_daysTo 1 = .ok (.aload_n 0, 1) := by decide +kernel
theorem dX4_daysTo_2 : decode cX4_daysTo 2 = .ok (.getfield 9, 3) := by decide +kernel
theorem dX4_daysTo_5 : decode cX4_daysTo 5 = .ok (.if_icmp .gt 7, 3) := by decide +kernel
theorem dX4_daysTo_8 : decode cX4_daysTo 8 = .ok (.iconst 0, 1) := by decide +kernel
theorem dX4_daysTo_9 : decode cX4_daysTo 9 = .ok (.goto 16, 3) := by decide +kernel
theorem dX4_daysTo_12 : decode cX4_daysTo 12 = .ok (.iload_n 1, 1) := by decide +kernel
theorem dX4_daysTo_13 : decode cX4_daysTo 13 = .ok (.aload_n 0, 1) := by decide +kernel
theorem dX4_daysTo_14 : decode cX4_daysTo 14 = .ok (.getfield 9, 3) := by decide +kernel
theorem dX4_daysTo_17 : decode cX4_daysTo 17 = .ok (.isub, 1) := by decide +kernel
theorem dX4_daysTo_18 : decode cX4_daysTo 18 = .ok (.aload_n 0, 1) := by decide +kernel
theorem dX4_daysTo_19 : decode cX4_daysTo 19 = .ok (.invokevirtual 25, 3) := by decide +kernel
theorem dX4_daysTo_22 : decode cX4_daysTo 22 = .ok (.invokestatic 35, 3) := by decide +kernel
theorem dX4_daysTo_25 : decode cX4_daysTo 25 = .ok (.ireturn, 1) := by decide +kernel
theorem dX4_wear_0 : decode cX4_wear 0 = .ok (.iload_n 1, 1) := by decide +kernel
theorem dX4_wear_1 : decode cX4_wear 1 = .ok (.aload_n 0, 1) := by decide +kernel
theorem dX4_wear_2 : decode cX4_wear 2 = .ok (.getfield 9, 3) := by decide +kernel
theorem dX4_wear_5 : decode cX4_wear 5 = .ok (.if_icmp .le 23, 3) := by decide +kernel
theorem dX4_wear_8 : decode cX4_wear 8 = .ok (.aload_n 0, 1) := by decide +kernel
theorem dX4_wear_9 : decode cX4_wear 9 = .ok (.iconst 0, 1) := by decide +kernel
theorem dX4_wear_10 : decode cX4_wear 10 = .ok (.putfield 9, 3) := by decide +kernel
theorem dX4_wear_13 : decode cX4_wear 13 = .ok (.aload_n 0, 1) := by decide +kernel
theorem dX4_wear_14 : decode cX4_wear 14 = .ok (.dup, 1) := by decide +kernel
theorem dX4_wear_15 : decode cX4_wear 15 = .ok (.getfield 19, 3) := by decide +kernel
theorem dX4_wear_18 : decode cX4_wear 18 = .ok (.iconst 1, 1) := by decide +kernel
theorem dX4_wear_19 : decode cX4_wear 19 = .ok (.iadd, 1) := by decide +kernel
theorem dX4_wear_20 : decode cX4_wear 20 = .ok (.putfield 19, 3) := by decide +kernel
theorem dX4_wear_23 : decode cX4_wear 23 = .ok (.aload_n 0, 1) := by decide +kernel
theorem dX4_wear_24 : decode cX4_wear 24 = .ok (.getfield 16, 3) := by decide +kernel
theorem dX4_wear_27 : decode cX4_wear 27 = .ok (.ireturn, 1) := by decide +kernel
theorem dX4_wear_28 : decode cX4_wear 28 = .ok (.aload_n 0, 1) := by decide +kernel
theorem dX4_wear_29 : decode cX4_wear 29 = .ok (.dup, 1) := by decide +kernel
theorem dX4_wear_30 : decode cX4_wear 30 = .ok (.getfield 9, 3) := by decide +kernel
theorem dX4_wear_33 : decode cX4_wear 33 = .ok (.iload_n 1, 1) := by decide +kernel
theorem dX4_wear_34 : decode cX4_wear 34 = .ok (.bipush 100, 2) := by decide +kernel
theorem dX4_wear_36 : decode cX4_wear 36 = .ok (.idiv, 1) := by decide +kernel
theorem dX4_wear_37 : decode cX4_wear 37 = .ok (.isub, 1) := by decide +kernel
theorem dX4_wear_38 : decode cX4_wear 38 = .ok (.putfield 9, 3) := by decide +kernel
theorem dX4_wear_41 : decode cX4_wear 41 = .ok (.iconst 0, 1) := by decide +kernel
theorem dX4_wear_42 : decode cX4_wear 42 = .ok (.ireturn, 1) := by decide +kernel
theorem dX5_init_0 : decode cX5_init 0 = .ok (.aload_n 0, 1) := by decide +kernel
theorem dX5_init_1 : decode cX5_init 1 = .ok (.invokespecial 1, 3) := by decide +kernel
theorem dX5_init_4 : decode cX5_init 4 = .ok (.aload_n 0, 1) := by decide +kernel
theorem dX5_init_5 : decode cX5_init 5 = .ok (.iload_n 1, 1) := by decide +kernel
theorem dX5_init_6 : decode cX5_init 6 = .ok (.putfield 7, 3) := by decide +kernel
theorem dX5_init_9 : decode cX5_init 9 = .ok (.aload_n 0, 1) := by decide +kernel
theorem dX5_init_10 : decode cX5_init 10 = .ok (.iload_n 2, 1) := by decide +kernel
theorem dX5_init_11 : decode cX5_init 11 = .ok (.putfield 13, 3) := by decide +kernel
theorem dX5_init_14 : decode cX5_init 14 = .ok (.aload_n 0, 1) := by decide +kernel
theorem dX5_init_15 : decode cX5_init 15 = .ok (.iload_n 3, 1) := by decide +kernel
theorem dX5_init_16 : decode cX5_init 16 = .ok (.putfield 16, 3) := by decide +kernel
theorem dX5_init_19 : decode cX5_init 19 = .ok (.aload_n 0, 1) := by decide +kernel
theorem dX5_init_20 : decode cX5_init 20 = .ok (.iload 4, 2) := by decide +kernel
theorem dX5_init_22 : decode cX5_init 22 = .ok (.putfield 19, 3) := by decide +kernel
theorem dX5_init_25 : decode cX5_init 25 = .ok (.aload_n 0, 1) := by decide +kernel
theorem dX5_init_26 : decode cX5_init 26 = .ok (.aload 5, 2) := by decide +kernel
theorem dX5_init_28 : decode cX5_init 28 = .ok (.putfield 22, 3) := by decide +kernel
theorem dX5_init_31 : decode cX5_init 31 = .ok (.return_, 1) := by decide +kernel
theorem dX6_init_0 : decode cX6_init 0 = .ok (.aload_n 0, 1) := by decide +kernel
theorem dX6_init_1 : decode cX6_init 1 = .ok (.invokespecial 1, 3) := by decide +kernel
theorem dX6_init_4 : decode cX6_init 4 = .ok (.aload_n 0, 1) := by decide +kernel
theorem dX6_init_5 : decode cX6_init 5 = .ok (.iconst 0, 1) := by decide +kernel
theorem dX6_init_6 : decode cX6_init 6 = .ok (.putfield 7, 3) := by decide +kernel
theorem dX6_init_9 : decode cX6_init 9 = .ok (.return_, 1) := by decide +kernel
set_option maxRecDepth 20000 in
theorem ggX6_addDays_X7_init : GoodIn wsX6_addDays wsX7_init := goodIn_r _ [11, 12, 13, 14, 15, 19, 20, 21] (by decide +kernel) (by decide +kernel)
set_option maxRecDepth 20000 in
theorem gX6_addDays_X7_init : GoodIn wsX6_addDays (wsX7_init) := ggX6_addDays_X7_init
theorem dX6_addDays_0 : decode cX6_addDays 0 = .ok (.aload_n 0, 1) := by decide +kernel
theorem dX6_addDays_1 : decode cX6_addDays 1 = .ok (.getfield 13, 3) := by decide +kernel
theorem dX6_addDays_4 : decode cX6_addDays 4 = .ok (.ifnonnull 26, 3) := by decide +kernel
theorem dX6_addDays_7 : decode cX6_addDays 7 = .ok (.aload_n 0, 1) := by decide +kernel
theorem dX6_addDays_8 : decode cX6_addDays 8 = .ok (.new 17, 3) := by decide +kernel
theorem dX6_addDays_11 : decode cX6_addDays 11 = .ok (.dup, 1) := by decide +kernel
theorem dX6_addDays_12 : decode cX6_addDays 12 = .ok (.iload_n 1, 1) := by decide +kernel
theorem dX6_addDays_13 : decode cX6_addDays 13 = .ok (.invokespecial 19, 3) := by decide +kernel
theorem dX6_addDays_16 : decode cX6_addDays 16 = .ok (.putfield 22, 3) := by decide +kernel
theorem dX6_addDays_19 : decode cX6_addDays 19 = .ok (.aload_n 0, 1) := by decide +kernel
theorem dX6_addDays_20 : decode cX6_addDays 20 = .ok (.aload_n 0, 1) := by decide +kernel
theorem dX6_addDays_21 : decode cX6_addDays 21 = .ok (.getfield 22, 3) := by decide +kernel
theorem dX6_addDays_24 : decode cX6_addDays 24 = .ok (.putfield 13, 3) := by decide +kernel
theorem dX6_addDays_27 : decode cX6_addDays 27 = .ok (.goto 40, 3) := by decide +kernel
theorem dX6_addDays_30 : decode cX6_addDays 30 = .ok (.aload_n 0, 1) := by decide +kernel
theorem dX6_addDays_31 : decode cX6_addDays 31 = .ok (.getfield 13, 3) := by decide +kernel
theorem dX6_addDays_34 : decode cX6_addDays 34 = .ok (.getfield 25, 3) := by decide +kernel
theorem dX6_addDays_37 : decode cX6_addDays 37 = .ok (.iload_n 1, 1) := by decide +kernel
theorem dX6_addDays_38 : decode cX6_addDays 38 = .ok (.if_icmp .eq 29, 3) := by decide +kernel
theorem dX6_addDays_41 : decode cX6_addDays 41 = .ok (.aload_n 0, 1) := by decide +kernel
theorem dX6_addDays_42 : decode cX6_addDays 42 = .ok (.getfield 13, 3) := by decide +kernel
theorem dX6_addDays_45 : decode cX6_addDays 45 = .ok (.new 17, 3) := by decide +kernel
theorem dX6_addDays_48 : decode cX6_addDays 48 = .ok (.dup, 1) := by decide +kernel
theorem dX6_addDays_49 : decode cX6_addDays 49 = .ok (.iload_n 1, 1) := by decide +kernel
theorem dX6_addDays_50 : decode cX6_addDays 50 = .ok (.invokespecial 19, 3) := by decide +kernel
theorem dX6_addDays_53 : decode cX6_addDays 53 = .ok (.putfield 28, 3) := by decide +kernel
theorem dX6_addDays_56 : decode cX6_addDays 56 = .ok (.aload_n 0, 1) := by decide +kernel
theorem dX6_addDays_57 : decode cX6_addDays 57 = .ok (.aload_n 0, 1) := by decide +kernel
theorem dX6_addDays_58 : decode cX6_addDays 58 = .ok (.getfield 13, 3) := by decide +kernel
theorem dX6_addDays_61 : decode cX6_addDays 61 = .ok (.getfield 28, 3) := by decide +kernel
theorem dX6_addDays_64 : decode cX6_addDays 64 = .ok (.putfield 13, 3) := by decide +kernel
theorem dX6_addDays_67 : decode cX6_addDays 67 = .ok (.aload_n 0, 1) := by decide +kernel
theorem dX6_addDays_68 : decode cX6_addDays 68 = .ok (.getfield 13, 3) := by decide +kernel
theorem dX6_addDays_71 : decode cX6_addDays 71 = .ok (.dup, 1) := by decide +kernel
theorem dX6_addDays_72 : decode cX6_addDays 72 = .ok (.getfield 31, 3) := by decide +kernel
theorem dX6_addDays_75 : decode cX6_addDays 75 = .ok (.iload_n 2, 1) := by decide +kernel
theorem dX6_addDays_76 : decode cX6_addDays 76 = .ok (.iadd, 1) := by decide +kernel
theorem dX6_addDays_77 : decode cX6_addDays 77 = .ok (.putfield 31, 3) := by decide +kernel
theorem dX6_addDays_80 : decode cX6_addDays 80 = .ok (.return_, 1) := by decide +kernel
theorem dX7_init_0 : decode cX7_init 0 = .ok (.aload_n 0, 1) := by decide +kernel
theorem dX7_init_1 : decode cX7_init 1 = .ok (.invokespecial 1, 3) := by decide +kernel
theorem dX7_init_4 : decode cX7_init 4 = .ok (.aload_n 0, 1) := by decide +kernel
theorem dX7_init_5 : decode cX7_init 5 = .ok (.iload_n 1, 1) := by decide +kernel
theorem dX7_init_6 : decode cX7_init 6 = .ok (.putfield 7, 3) := by decide +kernel
theorem dX7_init_9 : decode cX7_init 9 = .ok (.return_, 1) := by decide +kernel
theorem dJ9_abs_0f7a4_0 : decode cJ9_abs_0f7a4 0 = .ok (.iload_n 0, 1) := by decide +kernel
theorem dJ9_abs_0f7a4_1 : decode cJ9_abs_0f7a4 1 = .ok (.ifCond .ge 8, 3) := by decide +kernel
theorem dJ9_abs_0f7a4_4 : decode cJ9_abs_0f7a4 4 = .ok (.iload_n 0, 1) := by decide +kernel
theorem dJ9_abs_0f7a4_5 : decode cJ9_abs_0f7a4 5 = .ok (.ineg, 1) := by decide +kernel
theorem dJ9_abs_0f7a4_6 : decode cJ9_abs_0f7a4 6 = .ok (.goto 4, 3) := by decide +kernel
theorem dJ9_abs_0f7a4_9 : decode cJ9_abs_0f7a4 9 = .ok (.iload_n 0, 1) := by decide +kernel
theorem dJ9_abs_0f7a4_10 : decode cJ9_abs_0f7a4 10 = .ok (.ireturn, 1) := by decide +kernel
theorem dJ9_max_7cf53_0 : decode cJ9_max_7cf53 0 = .ok (.iload_n 0, 1) := by decide +kernel
theorem dJ9_max_7cf53_1 : decode cJ9_max_7cf53 1 = .ok (.iload_n 1, 1) := by decide +kernel
theorem dJ9_max_7cf53_2 : decode cJ9_max_7cf53 2 = .ok (.if_icmp .lt 7, 3) := by decide +kernel
theorem dJ9_max_7cf53_5 : decode cJ9_max_7cf53 5 = .ok (.iload_n 0, 1) := by decide +kernel
theorem dJ9_max_7cf53_6 : decode cJ9_max_7cf53 6 = .ok (.goto 4, 3) := by decide +kernel
theorem dJ9_max_7cf53_9 : decode cJ9_max_7cf53 9 = .ok (.iload_n 1, 1) := by decide +kernel
theorem dJ9_max_7cf53_10 : decode cJ9_max_7cf53 10 = .ok (.ireturn, 1) := by decide +kernel
theorem dJ9_max_f86c9_0 : decode cJ9_max_f86c9 0 = .ok (.lload_n 0, 1) := by decide +kernel
theorem dJ9_max_f86c9_1 : decode cJ9_max_f86c9 1 = .ok (.lload_n 2, 1) := by decide +kernel
theorem dJ9_max_f86c9_2 : decode cJ9_max_f86c9 2 = .ok (.lcmp, 1) := by decide +kernel
theorem dJ9_max_f86c9_3 : decode cJ9_max_f86c9 3 = .ok (.ifCond .lt 7, 3) := by decide +kernel
theorem dJ9_max_f86c9_6 : decode cJ9_max_f86c9 6 = .ok (.lload_n 0, 1) := by decide +kernel
theorem dJ9_max_f86c9_7 : decode cJ9_max_f86c9 7 = .ok (.goto 4, 3) := by decide +kernel
theorem dJ9_max_f86c9_10 : decode cJ9_max_f86c9 10 = .ok (.lload_n 2, 1) := by decide +kernel
theorem dJ9_max_f86c9_11 : decode cJ9_max_f86c9 11 = .ok (.lreturn, 1) := by decide +kernel
theorem dJ9_min_7cf53_0 : decode cJ9_min_7cf53 0 = .ok (.iload_n 0, 1) := by decide +kernel
theorem dJ9_min_7cf53_1 : decode cJ9_min_7cf53 1 = .ok (.iload_n 1, 1) := by decide +kernel
theorem dJ9_min_7cf53_2 : decode cJ9_min_7cf53 2 = .ok (.if_icmp .gt 7, 3) := by decide +kernel
theorem dJ9_min_7cf53_5 : decode cJ9_min_7cf53 5 = .ok (.iload_n 0, 1) := by decide +kernel
theorem dJ9_min_7cf53_6 : decode cJ9_min_7cf53 6 = .ok (.goto 4, 3) := by decide +kernel
theorem dJ9_min_7cf53_9 : decode cJ9_min_7cf53 9 = .ok (.iload_n 1, 1) := by decide +kernel
theorem dJ9_min_7cf53_10 : decode cJ9_min_7cf53 10 = .ok (.ireturn, 1) := by decide +kernel

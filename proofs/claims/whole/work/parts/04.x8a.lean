abbrev wsX80 : List Cond := u_ws RX8 TX8 14
def wsX8_init_r1 : List Cond := [Cond.methodLink RX8 1 objectInit, Cond.instanceMethod objectInit, Cond.code objectInit ⟨#[0xb1]⟩ 1 none, Cond.classLink RX8 9 RX6, Cond.fieldLink RX8 11 "DikeHands" "villages" "[LDikeHands$Village;", Cond.classLink RX8 15 RX4, Cond.fieldLink RX8 17 "DikeHands" "rods" "[LDikeHands$Rod;", Cond.classLink RX8 21 RX0, Cond.fieldLink RX8 23 "DikeHands" "houses" "[LDikeHands$House;", Cond.classLink RX8 27 RX2, Cond.instantiable RX2 3, Cond.initialized RX2, Cond.fieldLink RX8 30 "DikeHands" "laws" "LDikeHands$LawBook;", Cond.classLink RX8 34 RX3, Cond.instantiable RX3 1, Cond.initialized RX3, Cond.fieldLink RX8 37 "DikeHands" "plan" "LDikeHands$Plan;", Cond.arrayClass .int, Cond.fieldLink RX8 41 "DikeHands" "levels" "[I", Cond.fieldLink RX8 45 "DikeHands" "now" "I", Cond.fieldLink RX8 49 "DikeHands" "houseCount" "I", Cond.fieldLink RX8 52 "DikeHands" "changeCount" "I", Cond.fieldLink RX8 55 "DikeHands" "chest" "I", Cond.fieldLink RX8 58 "DikeHands" "lossCounted" "I"]
def wsX8_init_r2 : List Cond := [Cond.fieldLink RX8 61 "DikeHands" "daysDone" "I", Cond.fieldLink RX8 64 "DikeHands" "daysBought" "I", Cond.fieldLink RX8 67 "DikeHands" "daysHired" "I", Cond.instantiable RX6 3, Cond.initialized RX6, Cond.instantiable RX4 5, Cond.initialized RX4, Cond.instanceMethod yX2_init, Cond.code yX2_init cX2_init 1 none, Cond.methodLink RX2 3 objectInit, Cond.classLink RX2 9 RX1, Cond.fieldLink RX2 11 "DikeHands$LawBook" "laws" "[LDikeHands$Law;", Cond.instantiable RX1 5, Cond.initialized RX1, Cond.fieldLink RX2 20 "DikeHands$LawBook" "noLaw" "LDikeHands$Law;", Cond.fieldLink RX2 24 "DikeHands$LawBook" "size" "I", Cond.methodLink RX2 17 yX1_init, Cond.instanceMethod yX1_init, Cond.code yX1_init cX1_init 4 none, Cond.methodLink RX1 3 objectInit, Cond.fieldLink RX1 9 "DikeHands$Law" "year" "I", Cond.fieldLink RX1 15 "DikeHands$Law" "daysForTenAcres" "I", Cond.fieldLink RX1 18 "DikeHands$Law" "daysForHand" "I", Cond.fieldLink RX1 21 "DikeHands$Law" "exempt" "I"]
def wsX8_init_r3 : List Cond := [Cond.fieldLink RX1 24 "DikeHands$Law" "coin" "I", Cond.instanceMethod yX3_init, Cond.code yX3_init cX3_init 1 none, Cond.methodLink RX3 5 objectInit, Cond.arrayClass .long, Cond.fieldLink RX3 11 "DikeHands$Plan" "worthWithin" "[J", Cond.instanceMethod yX6_init, Cond.code yX6_init cX6_init 1 none, Cond.methodLink RX6 1 objectInit, Cond.fieldLink RX6 7 "DikeHands$Village" "mile" "I", Cond.instanceMethod yX4_init, Cond.code yX4_init cX4_init 1 none, Cond.methodLink RX4 1 objectInit, Cond.fieldLink RX4 9 "DikeHands$Rod" "height" "I", Cond.fieldLink RX4 13 "DikeHands$Rod" "soil" "I", Cond.fieldLink RX4 16 "DikeHands$Rod" "loss" "I", Cond.fieldLink RX4 19 "DikeHands$Rod" "breaks" "I", Cond.fieldLink RX4 22 "DikeHands$Rod" "days" "I"]
def wsX8_init : List Cond := .code yX8_init cX8_init 2 none :: ((wsX8_init_r1 ++ (wsX8_init_r2 ++ wsX8_init_r3)) ++ wsX80 ++ wsX20 ++ wsX30 ++ wsX60 ++ wsX40 ++ wsX10)
def wsX8_isVillage : List Cond := .code yX8_isVillage cX8_isVillage 1 (some .boolean) :: ([.methodLink RX8 76 yX8_isWithin, .static yX8_isWithin, .initialized RX8, .code yX8_isWithin cX8_isWithin 2 (some .boolean)])
def wsX8_village : List Cond := .code yX8_village cX8_village 3 (some .boolean) :: ([.fieldLink RX8 11 "DikeHands" "villages" "[LDikeHands$Village;", .fieldLink RX8 80 "DikeHands$Village" "mile" "I", .methodLink RX8 72 yX8_isVillage, .static yX8_isVillage, .initialized RX8, .code yX8_isVillage cX8_isVillage 1 (some .boolean), .methodLink RX8 76 yX8_isWithin, .static yX8_isWithin, .code yX8_isWithin cX8_isWithin 2 (some .boolean)] ++ wsX80 ++ wsX60)
def wsX8_isRod : List Cond := .code yX8_isRod cX8_isRod 1 (some .boolean) :: ([.methodLink RX8 76 yX8_isWithin, .static yX8_isWithin, .initialized RX8, .code yX8_isWithin cX8_isWithin 2 (some .boolean)])
def wsX8_rod : List Cond := .code yX8_rod cX8_rod 4 (some .boolean) :: ([.fieldLink RX8 17 "DikeHands" "rods" "[LDikeHands$Rod;", .fieldLink RX8 86 "DikeHands$Rod" "soil" "I", .fieldLink RX8 89 "DikeHands$Rod" "loss" "I", .methodLink RX8 83 yX8_isRod, .static yX8_isRod, .initialized RX8, .code yX8_isRod cX8_isRod 1 (some .boolean), .methodLink RX8 76 yX8_isWithin, .static yX8_isWithin, .code yX8_isWithin cX8_isWithin 2 (some .boolean)] ++ wsX80 ++ wsX40)
def wsX8_law_r1 : List Cond := [Cond.fieldLink RX8 30 "DikeHands" "laws" "LDikeHands$LawBook;", Cond.classLink RX8 93 RX1, Cond.instantiable RX1 5, Cond.initialized RX1, Cond.fieldLink RX8 108 "DikeHands$LawBook" "size" "I", Cond.methodLink RX8 76 yX8_isWithin, Cond.static yX8_isWithin, Cond.initialized RX8, Cond.code yX8_isWithin cX8_isWithin 2 (some .boolean), Cond.methodLink RX8 92 yX1_canBe, Cond.static yX1_canBe, Cond.code yX1_canBe cX1_canBe 1 (some .boolean), Cond.constant RX1 27 (99999), Cond.methodLink RX8 97 yX2_isFull, Cond.instanceMethod yX2_isFull, Cond.selects RX2 yX2_isFull yX2_isFull, Cond.initialized RX2, Cond.code yX2_isFull cX2_isFull 1 (some .boolean), Cond.fieldLink RX2 24 "DikeHands$LawBook" "size" "I", Cond.methodLink RX8 101 yX1_init, Cond.instanceMethod yX1_init, Cond.code yX1_init cX1_init 4 none, Cond.methodLink RX1 3 objectInit, Cond.instanceMethod objectInit]
def wsX8_law_r2 : List Cond := [Cond.code objectInit ⟨#[0xb1]⟩ 1 none, Cond.fieldLink RX1 9 "DikeHands$Law" "year" "I", Cond.fieldLink RX1 15 "DikeHands$Law" "daysForTenAcres" "I", Cond.fieldLink RX1 18 "DikeHands$Law" "daysForHand" "I", Cond.fieldLink RX1 21 "DikeHands$Law" "exempt" "I", Cond.fieldLink RX1 24 "DikeHands$Law" "coin" "I", Cond.methodLink RX8 104 yX2_add, Cond.instanceMethod yX2_add, Cond.selects RX2 yX2_add yX2_add, Cond.code yX2_add cX2_add 2 none, Cond.fieldLink RX2 11 "DikeHands$LawBook" "laws" "[LDikeHands$Law;", Cond.methodLink RX2 28 yX2_isFull]
def wsX8_law : List Cond := .code yX8_law cX8_law 4 (some .int) :: ((wsX8_law_r1 ++ wsX8_law_r2) ++ wsX80 ++ wsX10 ++ wsX20)
def wsX8_isHolding : List Cond := .code yX8_isHolding cX8_isHolding 2 (some .boolean) :: ([.methodLink RX8 76 yX8_isWithin, .static yX8_isWithin, .initialized RX8, .code yX8_isWithin cX8_isWithin 2 (some .boolean)])
def wsX8_house_r1 : List Cond := [Cond.fieldLink RX8 49 "DikeHands" "houseCount" "I", Cond.fieldLink RX8 23 "DikeHands" "houses" "[LDikeHands$House;", Cond.classLink RX8 21 RX0, Cond.instantiable RX0 8, Cond.initialized RX0, Cond.fieldLink RX8 45 "DikeHands" "now" "I", Cond.methodLink RX8 72 yX8_isVillage, Cond.static yX8_isVillage, Cond.initialized RX8, Cond.code yX8_isVillage cX8_isVillage 1 (some .boolean), Cond.methodLink RX8 76 yX8_isWithin, Cond.static yX8_isWithin, Cond.code yX8_isWithin cX8_isWithin 2 (some .boolean), Cond.methodLink RX8 111 yX8_isHolding, Cond.static yX8_isHolding, Cond.code yX8_isHolding cX8_isHolding 2 (some .boolean), Cond.methodLink RX8 114 yX0_init, Cond.instanceMethod yX0_init, Cond.code yX0_init cX0_init 6 none, Cond.methodLink RX0 3 objectInit, Cond.instanceMethod objectInit, Cond.code objectInit ⟨#[0xb1]⟩ 1 none, Cond.arrayClass .int, Cond.fieldLink RX0 11 "DikeHands$House" "byItself" "[I"]
def wsX8_house_r2 : List Cond := [Cond.fieldLink RX0 15 "DikeHands$House" "bySubstitute" "[I", Cond.fieldLink RX0 18 "DikeHands$House" "bought" "[I", Cond.fieldLink RX0 21 "DikeHands$House" "asSubstitute" "[I", Cond.fieldLink RX0 24 "DikeHands$House" "substitute" "[I", Cond.fieldLink RX0 27 "DikeHands$House" "home" "I", Cond.fieldLink RX0 31 "DikeHands$House" "came" "I", Cond.classLink RX0 34 RX5, Cond.instantiable RX5 5, Cond.initialized RX5, Cond.fieldLink RX0 39 "DikeHands$House" "latest" "LDikeHands$Telling;", Cond.methodLink RX0 36 yX5_init, Cond.instanceMethod yX5_init, Cond.code yX5_init cX5_init 6 none, Cond.methodLink RX5 1 objectInit, Cond.fieldLink RX5 7 "DikeHands$Telling" "told" "I", Cond.fieldLink RX5 13 "DikeHands$Telling" "from" "I", Cond.fieldLink RX5 16 "DikeHands$Telling" "acres" "I", Cond.fieldLink RX5 19 "DikeHands$Telling" "hands" "I", Cond.fieldLink RX5 22 "DikeHands$Telling" "earlier" "LDikeHands$Telling;"]
def wsX8_house : List Cond := .code yX8_house cX8_house 4 (some .int) :: ((wsX8_house_r1 ++ wsX8_house_r2) ++ wsX80 ++ wsX00 ++ wsX50)
def wsX8_isHouse : List Cond := .code yX8_isHouse cX8_isHouse 2 (some .boolean) :: ([.fieldLink RX8 49 "DikeHands" "houseCount" "I", .methodLink RX8 76 yX8_isWithin, .static yX8_isWithin, .initialized RX8, .code yX8_isWithin cX8_isWithin 2 (some .boolean)] ++ wsX80)
def wsX8_change_r1 : List Cond := [Cond.fieldLink RX8 52 "DikeHands" "changeCount" "I", Cond.fieldLink RX8 45 "DikeHands" "now" "I", Cond.fieldLink RX8 23 "DikeHands" "houses" "[LDikeHands$House;", Cond.fieldLink RX8 120 "DikeHands$House" "came" "I", Cond.methodLink RX8 117 yX8_isHouse, Cond.instanceMethod yX8_isHouse, Cond.selects RX8 yX8_isHouse yX8_isHouse, Cond.initialized RX8, Cond.code yX8_isHouse cX8_isHouse 2 (some .boolean), Cond.fieldLink RX8 49 "DikeHands" "houseCount" "I", Cond.methodLink RX8 76 yX8_isWithin, Cond.static yX8_isWithin, Cond.code yX8_isWithin cX8_isWithin 2 (some .boolean), Cond.methodLink RX8 111 yX8_isHolding, Cond.static yX8_isHolding, Cond.code yX8_isHolding cX8_isHolding 2 (some .boolean), Cond.methodLink RX8 123 yX0_learn, Cond.instanceMethod yX0_learn, Cond.selects RX0 yX0_learn yX0_learn, Cond.initialized RX0, Cond.code yX0_learn cX0_learn 5 none, Cond.classLink RX0 34 RX5, Cond.instantiable RX5 5, Cond.initialized RX5]
def wsX8_change_r2 : List Cond := [Cond.fieldLink RX0 39 "DikeHands$House" "latest" "LDikeHands$Telling;", Cond.methodLink RX0 36 yX5_init, Cond.instanceMethod yX5_init, Cond.code yX5_init cX5_init 6 none, Cond.methodLink RX5 1 objectInit, Cond.instanceMethod objectInit, Cond.code objectInit ⟨#[0xb1]⟩ 1 none, Cond.fieldLink RX5 7 "DikeHands$Telling" "told" "I", Cond.fieldLink RX5 13 "DikeHands$Telling" "from" "I", Cond.fieldLink RX5 16 "DikeHands$Telling" "acres" "I", Cond.fieldLink RX5 19 "DikeHands$Telling" "hands" "I", Cond.fieldLink RX5 22 "DikeHands$Telling" "earlier" "LDikeHands$Telling;"]
def wsX8_change : List Cond := .code yX8_change cX8_change 5 (some .boolean) :: ((wsX8_change_r1 ++ wsX8_change_r2) ++ wsX80 ++ wsX00 ++ wsX50)
def wsX8_yearNow : List Cond := .code yX8_yearNow cX8_yearNow 1 (some .int) :: ([.fieldLink RX8 45 "DikeHands" "now" "I"] ++ wsX80)
def wsX8_isYearSoFar : List Cond := .code yX8_isYearSoFar cX8_isYearSoFar 2 (some .boolean) :: ([.methodLink RX8 145 yX8_yearNow, .instanceMethod yX8_yearNow, .selects RX8 yX8_yearNow yX8_yearNow, .initialized RX8, .code yX8_yearNow cX8_yearNow 1 (some .int), .fieldLink RX8 45 "DikeHands" "now" "I", .methodLink RX8 76 yX8_isWithin, .static yX8_isWithin, .code yX8_isWithin cX8_isWithin 2 (some .boolean)] ++ wsX80)
def wsX8_listed_r1 : List Cond := [Cond.fieldLink RX8 23 "DikeHands" "houses" "[LDikeHands$House;", Cond.fieldLink RX8 133 "DikeHands$Telling" "acres" "I", Cond.fieldLink RX8 138 "DikeHands$Telling" "hands" "I", Cond.methodLink RX8 117 yX8_isHouse, Cond.instanceMethod yX8_isHouse, Cond.selects RX8 yX8_isHouse yX8_isHouse, Cond.initialized RX8, Cond.code yX8_isHouse cX8_isHouse 2 (some .boolean), Cond.fieldLink RX8 49 "DikeHands" "houseCount" "I", Cond.methodLink RX8 76 yX8_isWithin, Cond.static yX8_isWithin, Cond.code yX8_isWithin cX8_isWithin 2 (some .boolean), Cond.methodLink RX8 126 yX8_isYearSoFar, Cond.instanceMethod yX8_isYearSoFar, Cond.selects RX8 yX8_isYearSoFar yX8_isYearSoFar, Cond.code yX8_isYearSoFar cX8_isYearSoFar 2 (some .boolean), Cond.methodLink RX8 145 yX8_yearNow, Cond.instanceMethod yX8_yearNow, Cond.selects RX8 yX8_yearNow yX8_yearNow, Cond.code yX8_yearNow cX8_yearNow 1 (some .int), Cond.fieldLink RX8 45 "DikeHands" "now" "I", Cond.methodLink RX8 129 yX0_toldAheadOf, Cond.instanceMethod yX0_toldAheadOf, Cond.selects RX0 yX0_toldAheadOf yX0_toldAheadOf]
def wsX8_listed_r2 : List Cond := [Cond.initialized RX0, Cond.code yX0_toldAheadOf cX0_toldAheadOf 3 (some (.object "DikeHands$Telling")), Cond.fieldLink RX0 39 "DikeHands$House" "latest" "LDikeHands$Telling;", Cond.fieldLink RX0 43 "DikeHands$Telling" "told" "I", Cond.fieldLink RX0 46 "DikeHands$Telling" "earlier" "LDikeHands$Telling;"]
def wsX8_listed : List Cond := .code yX8_listed cX8_listed 5 (some .int) :: ((wsX8_listed_r1 ++ wsX8_listed_r2) ++ wsX80 ++ wsX50 ++ wsX00)
def wsX8_daysOwed_r1 : List Cond := [Cond.fieldLink RX8 30 "DikeHands" "laws" "LDikeHands$LawBook;", Cond.methodLink RX8 129 yX0_toldAheadOf, Cond.instanceMethod yX0_toldAheadOf, Cond.selects RX0 yX0_toldAheadOf yX0_toldAheadOf, Cond.initialized RX0, Cond.code yX0_toldAheadOf cX0_toldAheadOf 3 (some (.object "DikeHands$Telling")), Cond.fieldLink RX0 39 "DikeHands$House" "latest" "LDikeHands$Telling;", Cond.fieldLink RX0 43 "DikeHands$Telling" "told" "I", Cond.fieldLink RX0 46 "DikeHands$Telling" "earlier" "LDikeHands$Telling;", Cond.methodLink RX8 182 yX2_ofYear, Cond.instanceMethod yX2_ofYear, Cond.selects RX2 yX2_ofYear yX2_ofYear, Cond.initialized RX2, Cond.code yX2_ofYear cX2_ofYear 4 (some (.object "DikeHands$Law")), Cond.fieldLink RX2 20 "DikeHands$LawBook" "noLaw" "LDikeHands$Law;", Cond.fieldLink RX2 24 "DikeHands$LawBook" "size" "I", Cond.fieldLink RX2 11 "DikeHands$LawBook" "laws" "[LDikeHands$Law;", Cond.fieldLink RX2 32 "DikeHands$Law" "year" "I", Cond.methodLink RX8 230 yX1_daysFor, Cond.instanceMethod yX1_daysFor, Cond.selects RX1 yX1_daysFor yX1_daysFor, Cond.initialized RX1, Cond.code yX1_daysFor cX1_daysFor 2 (some .int), Cond.fieldLink RX1 32 "DikeHands$Telling" "acres" "I"]
def wsX8_daysOwed_r2 : List Cond := [Cond.fieldLink RX1 21 "DikeHands$Law" "exempt" "I", Cond.fieldLink RX1 15 "DikeHands$Law" "daysForTenAcres" "I", Cond.fieldLink RX1 37 "DikeHands$Telling" "hands" "I", Cond.fieldLink RX1 18 "DikeHands$Law" "daysForHand" "I"]
def wsX8_daysOwed : List Cond := .code yX8_daysOwed cX8_daysOwed 4 (some .int) :: ((wsX8_daysOwed_r1 ++ wsX8_daysOwed_r2) ++ wsX80 ++ wsX00 ++ wsX50 ++ wsX20 ++ wsX10)
def wsX8_owed_r1 : List Cond := [Cond.fieldLink RX8 23 "DikeHands" "houses" "[LDikeHands$House;", Cond.methodLink RX8 117 yX8_isHouse, Cond.instanceMethod yX8_isHouse, Cond.selects RX8 yX8_isHouse yX8_isHouse, Cond.initialized RX8, Cond.code yX8_isHouse cX8_isHouse 2 (some .boolean), Cond.fieldLink RX8 49 "DikeHands" "houseCount" "I", Cond.methodLink RX8 76 yX8_isWithin, Cond.static yX8_isWithin, Cond.code yX8_isWithin cX8_isWithin 2 (some .boolean), Cond.methodLink RX8 126 yX8_isYearSoFar, Cond.instanceMethod yX8_isYearSoFar, Cond.selects RX8 yX8_isYearSoFar yX8_isYearSoFar, Cond.code yX8_isYearSoFar cX8_isYearSoFar 2 (some .boolean), Cond.methodLink RX8 145 yX8_yearNow, Cond.instanceMethod yX8_yearNow, Cond.selects RX8 yX8_yearNow yX8_yearNow, Cond.code yX8_yearNow cX8_yearNow 1 (some .int), Cond.fieldLink RX8 45 "DikeHands" "now" "I", Cond.methodLink RX8 141 yX8_daysOwed, Cond.instanceMethod yX8_daysOwed, Cond.selects RX8 yX8_daysOwed yX8_daysOwed, Cond.code yX8_daysOwed cX8_daysOwed 4 (some .int), Cond.fieldLink RX8 30 "DikeHands" "laws" "LDikeHands$LawBook;"]
def wsX8_owed_r2 : List Cond := [Cond.methodLink RX8 129 yX0_toldAheadOf, Cond.instanceMethod yX0_toldAheadOf, Cond.selects RX0 yX0_toldAheadOf yX0_toldAheadOf, Cond.initialized RX0, Cond.code yX0_toldAheadOf cX0_toldAheadOf 3 (some (.object "DikeHands$Telling")), Cond.fieldLink RX0 39 "DikeHands$House" "latest" "LDikeHands$Telling;", Cond.fieldLink RX0 43 "DikeHands$Telling" "told" "I", Cond.fieldLink RX0 46 "DikeHands$Telling" "earlier" "LDikeHands$Telling;", Cond.methodLink RX8 182 yX2_ofYear, Cond.instanceMethod yX2_ofYear, Cond.selects RX2 yX2_ofYear yX2_ofYear, Cond.initialized RX2, Cond.code yX2_ofYear cX2_ofYear 4 (some (.object "DikeHands$Law")), Cond.fieldLink RX2 20 "DikeHands$LawBook" "noLaw" "LDikeHands$Law;", Cond.fieldLink RX2 24 "DikeHands$LawBook" "size" "I", Cond.fieldLink RX2 11 "DikeHands$LawBook" "laws" "[LDikeHands$Law;", Cond.fieldLink RX2 32 "DikeHands$Law" "year" "I", Cond.methodLink RX8 230 yX1_daysFor, Cond.instanceMethod yX1_daysFor, Cond.selects RX1 yX1_daysFor yX1_daysFor, Cond.initialized RX1, Cond.code yX1_daysFor cX1_daysFor 2 (some .int), Cond.fieldLink RX1 32 "DikeHands$Telling" "acres" "I", Cond.fieldLink RX1 21 "DikeHands$Law" "exempt" "I"]
def wsX8_owed_r3 : List Cond := [Cond.fieldLink RX1 15 "DikeHands$Law" "daysForTenAcres" "I", Cond.fieldLink RX1 37 "DikeHands$Telling" "hands" "I", Cond.fieldLink RX1 18 "DikeHands$Law" "daysForHand" "I"]
def wsX8_owed : List Cond := .code yX8_owed cX8_owed 3 (some .int) :: ((wsX8_owed_r1 ++ (wsX8_owed_r2 ++ wsX8_owed_r3)) ++ wsX80 ++ wsX00 ++ wsX50 ++ wsX20 ++ wsX10)
def wsX8_daysOwedYet_r1 : List Cond := [Cond.methodLink RX8 237 Lib.Math.max.name, Cond.static Lib.Math.max.name, Cond.initialized "java/lang/Math", Cond.code Lib.Math.max.name Lib.Math.max.code 2 (some .int), Cond.methodLink RX8 141 yX8_daysOwed, Cond.instanceMethod yX8_daysOwed, Cond.selects RX8 yX8_daysOwed yX8_daysOwed, Cond.initialized RX8, Cond.code yX8_daysOwed cX8_daysOwed 4 (some .int), Cond.fieldLink RX8 30 "DikeHands" "laws" "LDikeHands$LawBook;", Cond.methodLink RX8 129 yX0_toldAheadOf, Cond.instanceMethod yX0_toldAheadOf, Cond.selects RX0 yX0_toldAheadOf yX0_toldAheadOf, Cond.initialized RX0, Cond.code yX0_toldAheadOf cX0_toldAheadOf 3 (some (.object "DikeHands$Telling")), Cond.fieldLink RX0 39 "DikeHands$House" "latest" "LDikeHands$Telling;", Cond.fieldLink RX0 43 "DikeHands$Telling" "told" "I", Cond.fieldLink RX0 46 "DikeHands$Telling" "earlier" "LDikeHands$Telling;", Cond.methodLink RX8 182 yX2_ofYear, Cond.instanceMethod yX2_ofYear, Cond.selects RX2 yX2_ofYear yX2_ofYear, Cond.initialized RX2, Cond.code yX2_ofYear cX2_ofYear 4 (some (.object "DikeHands$Law")), Cond.fieldLink RX2 20 "DikeHands$LawBook" "noLaw" "LDikeHands$Law;"]
def wsX8_daysOwedYet_r2 : List Cond := [Cond.fieldLink RX2 24 "DikeHands$LawBook" "size" "I", Cond.fieldLink RX2 11 "DikeHands$LawBook" "laws" "[LDikeHands$Law;", Cond.fieldLink RX2 32 "DikeHands$Law" "year" "I", Cond.methodLink RX8 230 yX1_daysFor, Cond.instanceMethod yX1_daysFor, Cond.selects RX1 yX1_daysFor yX1_daysFor, Cond.initialized RX1, Cond.code yX1_daysFor cX1_daysFor 2 (some .int), Cond.fieldLink RX1 32 "DikeHands$Telling" "acres" "I", Cond.fieldLink RX1 21 "DikeHands$Law" "exempt" "I", Cond.fieldLink RX1 15 "DikeHands$Law" "daysForTenAcres" "I", Cond.fieldLink RX1 37 "DikeHands$Telling" "hands" "I", Cond.fieldLink RX1 18 "DikeHands$Law" "daysForHand" "I", Cond.methodLink RX8 234 yX0_daysMet, Cond.instanceMethod yX0_daysMet, Cond.selects RX0 yX0_daysMet yX0_daysMet, Cond.code yX0_daysMet cX0_daysMet 2 (some .int), Cond.fieldLink RX0 11 "DikeHands$House" "byItself" "[I", Cond.fieldLink RX0 15 "DikeHands$House" "bySubstitute" "[I", Cond.fieldLink RX0 18 "DikeHands$House" "bought" "[I"]
def wsX8_daysOwedYet : List Cond := .code yX8_daysOwedYet cX8_daysOwedYet 3 (some .int) :: ((wsX8_daysOwedYet_r1 ++ wsX8_daysOwedYet_r2) ++ wsX80 ++ wsX00 ++ wsX50 ++ wsX20 ++ wsX10)
def wsX8_canSubstitute : List Cond := .code yX8_canSubstitute cX8_canSubstitute 5 (some .boolean) :: ([.fieldLink RX8 159 "DikeHands$House" "substitute" "[I", .fieldLink RX8 23 "DikeHands" "houses" "[LDikeHands$House;", .fieldLink RX8 168 "DikeHands$House" "home" "I"] ++ wsX00 ++ wsX80)
def wsX8_work_r1 : List Cond := [Cond.fieldLink RX8 45 "DikeHands" "now" "I", Cond.fieldLink RX8 23 "DikeHands" "houses" "[LDikeHands$House;", Cond.fieldLink RX8 152 "DikeHands$House" "byItself" "[I", Cond.fieldLink RX8 159 "DikeHands$House" "substitute" "[I", Cond.fieldLink RX8 162 "DikeHands$House" "bySubstitute" "[I", Cond.fieldLink RX8 165 "DikeHands$House" "asSubstitute" "[I", Cond.fieldLink RX8 11 "DikeHands" "villages" "[LDikeHands$Village;", Cond.fieldLink RX8 168 "DikeHands$House" "home" "I", Cond.fieldLink RX8 17 "DikeHands" "rods" "[LDikeHands$Rod;", Cond.fieldLink RX8 61 "DikeHands" "daysDone" "I", Cond.methodLink RX8 117 yX8_isHouse, Cond.instanceMethod yX8_isHouse, Cond.selects RX8 yX8_isHouse yX8_isHouse, Cond.initialized RX8, Cond.code yX8_isHouse cX8_isHouse 2 (some .boolean), Cond.fieldLink RX8 49 "DikeHands" "houseCount" "I", Cond.methodLink RX8 76 yX8_isWithin, Cond.static yX8_isWithin, Cond.code yX8_isWithin cX8_isWithin 2 (some .boolean), Cond.methodLink RX8 83 yX8_isRod, Cond.static yX8_isRod, Cond.code yX8_isRod cX8_isRod 1 (some .boolean), Cond.methodLink RX8 145 yX8_yearNow, Cond.instanceMethod yX8_yearNow]
def wsX8_work_r2 : List Cond := [Cond.selects RX8 yX8_yearNow yX8_yearNow, Cond.code yX8_yearNow cX8_yearNow 1 (some .int), Cond.methodLink RX8 149 yX8_daysOwedYet, Cond.instanceMethod yX8_daysOwedYet, Cond.selects RX8 yX8_daysOwedYet yX8_daysOwedYet, Cond.code yX8_daysOwedYet cX8_daysOwedYet 3 (some .int), Cond.methodLink RX8 237 Lib.Math.max.name, Cond.static Lib.Math.max.name, Cond.initialized "java/lang/Math", Cond.code Lib.Math.max.name Lib.Math.max.code 2 (some .int), Cond.methodLink RX8 141 yX8_daysOwed, Cond.instanceMethod yX8_daysOwed, Cond.selects RX8 yX8_daysOwed yX8_daysOwed, Cond.code yX8_daysOwed cX8_daysOwed 4 (some .int), Cond.fieldLink RX8 30 "DikeHands" "laws" "LDikeHands$LawBook;", Cond.methodLink RX8 129 yX0_toldAheadOf, Cond.instanceMethod yX0_toldAheadOf, Cond.selects RX0 yX0_toldAheadOf yX0_toldAheadOf, Cond.initialized RX0, Cond.code yX0_toldAheadOf cX0_toldAheadOf 3 (some (.object "DikeHands$Telling")), Cond.fieldLink RX0 39 "DikeHands$House" "latest" "LDikeHands$Telling;", Cond.fieldLink RX0 43 "DikeHands$Telling" "told" "I", Cond.fieldLink RX0 46 "DikeHands$Telling" "earlier" "LDikeHands$Telling;", Cond.methodLink RX8 182 yX2_ofYear]
def wsX8_work_r3 : List Cond := [Cond.instanceMethod yX2_ofYear, Cond.selects RX2 yX2_ofYear yX2_ofYear, Cond.initialized RX2, Cond.code yX2_ofYear cX2_ofYear 4 (some (.object "DikeHands$Law")), Cond.fieldLink RX2 20 "DikeHands$LawBook" "noLaw" "LDikeHands$Law;", Cond.fieldLink RX2 24 "DikeHands$LawBook" "size" "I", Cond.fieldLink RX2 11 "DikeHands$LawBook" "laws" "[LDikeHands$Law;", Cond.fieldLink RX2 32 "DikeHands$Law" "year" "I", Cond.methodLink RX8 230 yX1_daysFor, Cond.instanceMethod yX1_daysFor, Cond.selects RX1 yX1_daysFor yX1_daysFor, Cond.initialized RX1, Cond.code yX1_daysFor cX1_daysFor 2 (some .int), Cond.fieldLink RX1 32 "DikeHands$Telling" "acres" "I", Cond.fieldLink RX1 21 "DikeHands$Law" "exempt" "I", Cond.fieldLink RX1 15 "DikeHands$Law" "daysForTenAcres" "I", Cond.fieldLink RX1 37 "DikeHands$Telling" "hands" "I", Cond.fieldLink RX1 18 "DikeHands$Law" "daysForHand" "I", Cond.methodLink RX8 234 yX0_daysMet, Cond.instanceMethod yX0_daysMet, Cond.selects RX0 yX0_daysMet yX0_daysMet, Cond.code yX0_daysMet cX0_daysMet 2 (some .int), Cond.fieldLink RX0 11 "DikeHands$House" "byItself" "[I", Cond.fieldLink RX0 15 "DikeHands$House" "bySubstitute" "[I"]
def wsX8_work_r4 : List Cond := [Cond.fieldLink RX0 18 "DikeHands$House" "bought" "[I", Cond.methodLink RX8 155 yX8_canSubstitute, Cond.instanceMethod yX8_canSubstitute, Cond.selects RX8 yX8_canSubstitute yX8_canSubstitute, Cond.code yX8_canSubstitute cX8_canSubstitute 5 (some .boolean), Cond.methodLink RX8 171 yX6_addDays, Cond.instanceMethod yX6_addDays, Cond.selects RX6 yX6_addDays yX6_addDays, Cond.initialized RX6, Cond.code yX6_addDays cX6_addDays 3 none, Cond.fieldLink RX6 13 "DikeHands$Village" "lastWork" "LDikeHands$WorkWeek;", Cond.classLink RX6 17 RX7, Cond.instantiable RX7 3, Cond.initialized RX7, Cond.fieldLink RX6 22 "DikeHands$Village" "firstWork" "LDikeHands$WorkWeek;", Cond.fieldLink RX6 25 "DikeHands$WorkWeek" "week" "I", Cond.fieldLink RX6 28 "DikeHands$WorkWeek" "next" "LDikeHands$WorkWeek;", Cond.fieldLink RX6 31 "DikeHands$WorkWeek" "days" "I", Cond.methodLink RX6 19 yX7_init, Cond.instanceMethod yX7_init, Cond.code yX7_init cX7_init 2 none, Cond.methodLink RX7 1 objectInit, Cond.instanceMethod objectInit, Cond.code objectInit ⟨#[0xb1]⟩ 1 none]
def wsX8_work_r5 : List Cond := [Cond.fieldLink RX7 7 "DikeHands$WorkWeek" "week" "I", Cond.methodLink RX8 175 yX4_raise, Cond.instanceMethod yX4_raise, Cond.selects RX4 yX4_raise yX4_raise, Cond.initialized RX4, Cond.code yX4_raise cX4_raise 2 none, Cond.fieldLink RX4 9 "DikeHands$Rod" "height" "I", Cond.methodLink RX4 29 Lib.Math.min.name, Cond.static Lib.Math.min.name, Cond.code Lib.Math.min.name Lib.Math.min.code 2 (some .int), Cond.fieldLink RX4 22 "DikeHands$Rod" "days" "I", Cond.methodLink RX4 25 yX4_growthOfDay, Cond.instanceMethod yX4_growthOfDay, Cond.selects RX4 yX4_growthOfDay yX4_growthOfDay, Cond.code yX4_growthOfDay cX4_growthOfDay 1 (some .int), Cond.fieldLink RX4 13 "DikeHands$Rod" "soil" "I"]
def wsX8_work : List Cond := .code yX8_work cX8_work 8 (some .int) :: ((wsX8_work_r1 ++ (wsX8_work_r2 ++ (wsX8_work_r3 ++ (wsX8_work_r4 ++ wsX8_work_r5)))) ++ wsX80 ++ wsX00 ++ wsX50 ++ wsX20 ++ wsX10 ++ wsX60 ++ wsX70 ++ wsX40)
def wsX8_buy_r1 : List Cond := [Cond.fieldLink RX8 45 "DikeHands" "now" "I", Cond.fieldLink RX8 23 "DikeHands" "houses" "[LDikeHands$House;", Cond.fieldLink RX8 179 "DikeHands$House" "bought" "[I", Cond.fieldLink RX8 64 "DikeHands" "daysBought" "I", Cond.fieldLink RX8 55 "DikeHands" "chest" "I", Cond.fieldLink RX8 30 "DikeHands" "laws" "LDikeHands$LawBook;", Cond.fieldLink RX8 186 "DikeHands$Law" "coin" "I", Cond.methodLink RX8 117 yX8_isHouse, Cond.instanceMethod yX8_isHouse, Cond.selects RX8 yX8_isHouse yX8_isHouse, Cond.initialized RX8, Cond.code yX8_isHouse cX8_isHouse 2 (some .boolean), Cond.fieldLink RX8 49 "DikeHands" "houseCount" "I", Cond.methodLink RX8 76 yX8_isWithin, Cond.static yX8_isWithin, Cond.code yX8_isWithin cX8_isWithin 2 (some .boolean), Cond.methodLink RX8 145 yX8_yearNow, Cond.instanceMethod yX8_yearNow, Cond.selects RX8 yX8_yearNow yX8_yearNow, Cond.code yX8_yearNow cX8_yearNow 1 (some .int), Cond.methodLink RX8 149 yX8_daysOwedYet, Cond.instanceMethod yX8_daysOwedYet, Cond.selects RX8 yX8_daysOwedYet yX8_daysOwedYet, Cond.code yX8_daysOwedYet cX8_daysOwedYet 3 (some .int)]
def wsX8_buy_r2 : List Cond := [Cond.methodLink RX8 237 Lib.Math.max.name, Cond.static Lib.Math.max.name, Cond.initialized "java/lang/Math", Cond.code Lib.Math.max.name Lib.Math.max.code 2 (some .int), Cond.methodLink RX8 141 yX8_daysOwed, Cond.instanceMethod yX8_daysOwed, Cond.selects RX8 yX8_daysOwed yX8_daysOwed, Cond.code yX8_daysOwed cX8_daysOwed 4 (some .int), Cond.methodLink RX8 129 yX0_toldAheadOf, Cond.instanceMethod yX0_toldAheadOf, Cond.selects RX0 yX0_toldAheadOf yX0_toldAheadOf, Cond.initialized RX0, Cond.code yX0_toldAheadOf cX0_toldAheadOf 3 (some (.object "DikeHands$Telling")), Cond.fieldLink RX0 39 "DikeHands$House" "latest" "LDikeHands$Telling;", Cond.fieldLink RX0 43 "DikeHands$Telling" "told" "I", Cond.fieldLink RX0 46 "DikeHands$Telling" "earlier" "LDikeHands$Telling;", Cond.methodLink RX8 182 yX2_ofYear, Cond.instanceMethod yX2_ofYear, Cond.selects RX2 yX2_ofYear yX2_ofYear, Cond.initialized RX2, Cond.code yX2_ofYear cX2_ofYear 4 (some (.object "DikeHands$Law")), Cond.fieldLink RX2 20 "DikeHands$LawBook" "noLaw" "LDikeHands$Law;", Cond.fieldLink RX2 24 "DikeHands$LawBook" "size" "I", Cond.fieldLink RX2 11 "DikeHands$LawBook" "laws" "[LDikeHands$Law;"]
def wsX8_buy_r3 : List Cond := [Cond.fieldLink RX2 32 "DikeHands$Law" "year" "I", Cond.methodLink RX8 230 yX1_daysFor, Cond.instanceMethod yX1_daysFor, Cond.selects RX1 yX1_daysFor yX1_daysFor, Cond.initialized RX1, Cond.code yX1_daysFor cX1_daysFor 2 (some .int), Cond.fieldLink RX1 32 "DikeHands$Telling" "acres" "I", Cond.fieldLink RX1 21 "DikeHands$Law" "exempt" "I", Cond.fieldLink RX1 15 "DikeHands$Law" "daysForTenAcres" "I", Cond.fieldLink RX1 37 "DikeHands$Telling" "hands" "I", Cond.fieldLink RX1 18 "DikeHands$Law" "daysForHand" "I", Cond.methodLink RX8 234 yX0_daysMet, Cond.instanceMethod yX0_daysMet, Cond.selects RX0 yX0_daysMet yX0_daysMet, Cond.code yX0_daysMet cX0_daysMet 2 (some .int), Cond.fieldLink RX0 11 "DikeHands$House" "byItself" "[I", Cond.fieldLink RX0 15 "DikeHands$House" "bySubstitute" "[I", Cond.fieldLink RX0 18 "DikeHands$House" "bought" "[I"]
def wsX8_buy : List Cond := .code yX8_buy cX8_buy 4 (some .int) :: ((wsX8_buy_r1 ++ (wsX8_buy_r2 ++ wsX8_buy_r3)) ++ wsX80 ++ wsX00 ++ wsX10 ++ wsX50 ++ wsX20)
def wsX8_hire_r1 : List Cond := [Cond.fieldLink RX8 30 "DikeHands" "laws" "LDikeHands$LawBook;", Cond.fieldLink RX8 186 "DikeHands$Law" "coin" "I", Cond.fieldLink RX8 55 "DikeHands" "chest" "I", Cond.fieldLink RX8 17 "DikeHands" "rods" "[LDikeHands$Rod;", Cond.fieldLink RX8 67 "DikeHands" "daysHired" "I", Cond.methodLink RX8 83 yX8_isRod, Cond.static yX8_isRod, Cond.initialized RX8, Cond.code yX8_isRod cX8_isRod 1 (some .boolean), Cond.methodLink RX8 76 yX8_isWithin, Cond.static yX8_isWithin, Cond.code yX8_isWithin cX8_isWithin 2 (some .boolean), Cond.methodLink RX8 145 yX8_yearNow, Cond.instanceMethod yX8_yearNow, Cond.selects RX8 yX8_yearNow yX8_yearNow, Cond.code yX8_yearNow cX8_yearNow 1 (some .int), Cond.fieldLink RX8 45 "DikeHands" "now" "I", Cond.methodLink RX8 182 yX2_ofYear, Cond.instanceMethod yX2_ofYear, Cond.selects RX2 yX2_ofYear yX2_ofYear, Cond.initialized RX2, Cond.code yX2_ofYear cX2_ofYear 4 (some (.object "DikeHands$Law")), Cond.fieldLink RX2 20 "DikeHands$LawBook" "noLaw" "LDikeHands$Law;", Cond.fieldLink RX2 24 "DikeHands$LawBook" "size" "I"]
def wsX8_hire_r2 : List Cond := [Cond.fieldLink RX2 11 "DikeHands$LawBook" "laws" "[LDikeHands$Law;", Cond.fieldLink RX2 32 "DikeHands$Law" "year" "I", Cond.methodLink RX8 175 yX4_raise, Cond.instanceMethod yX4_raise, Cond.selects RX4 yX4_raise yX4_raise, Cond.initialized RX4, Cond.code yX4_raise cX4_raise 2 none, Cond.fieldLink RX4 9 "DikeHands$Rod" "height" "I", Cond.methodLink RX4 29 Lib.Math.min.name, Cond.static Lib.Math.min.name, Cond.initialized "java/lang/Math", Cond.code Lib.Math.min.name Lib.Math.min.code 2 (some .int), Cond.fieldLink RX4 22 "DikeHands$Rod" "days" "I", Cond.methodLink RX4 25 yX4_growthOfDay, Cond.instanceMethod yX4_growthOfDay, Cond.selects RX4 yX4_growthOfDay yX4_growthOfDay, Cond.code yX4_growthOfDay cX4_growthOfDay 1 (some .int), Cond.fieldLink RX4 13 "DikeHands$Rod" "soil" "I"]
def wsX8_hire : List Cond := .code yX8_hire cX8_hire 4 (some .int) :: ((wsX8_hire_r1 ++ wsX8_hire_r2) ++ wsX80 ++ wsX10 ++ wsX20 ++ wsX40)
def wsX8_river : List Cond := .code yX8_river cX8_river 5 (some .boolean) :: ([.fieldLink RX8 45 "DikeHands" "now" "I", .fieldLink RX8 41 "DikeHands" "levels" "[I", .methodLink RX8 76 yX8_isWithin, .static yX8_isWithin, .initialized RX8, .code yX8_isWithin cX8_isWithin 2 (some .boolean)] ++ wsX80)
def wsX8_endWeek : List Cond := .code yX8_endWeek cX8_endWeek 3 none :: ([.fieldLink RX8 58 "DikeHands" "lossCounted" "I", .fieldLink RX8 17 "DikeHands" "rods" "[LDikeHands$Rod;", .methodLink RX8 242 yX4_wear, .instanceMethod yX4_wear, .selects RX4 yX4_wear yX4_wear, .initialized RX4, .code yX4_wear cX4_wear 2 (some .int), .fieldLink RX4 9 "DikeHands$Rod" "height" "I", .fieldLink RX4 19 "DikeHands$Rod" "breaks" "I", .fieldLink RX4 16 "DikeHands$Rod" "loss" "I"] ++ wsX80 ++ wsX40)
def wsX8_go : List Cond := .code yX8_go cX8_go 3 (some .int) :: ([.fieldLink RX8 45 "DikeHands" "now" "I", .fieldLink RX8 41 "DikeHands" "levels" "[I", .methodLink RX8 76 yX8_isWithin, .static yX8_isWithin, .initialized RX8, .code yX8_isWithin cX8_isWithin 2 (some .boolean), .methodLink RX8 189 yX8_endWeek, .instanceMethod yX8_endWeek, .selects RX8 yX8_endWeek yX8_endWeek, .code yX8_endWeek cX8_endWeek 3 none, .fieldLink RX8 58 "DikeHands" "lossCounted" "I", .fieldLink RX8 17 "DikeHands" "rods" "[LDikeHands$Rod;", .methodLink RX8 242 yX4_wear, .instanceMethod yX4_wear, .selects RX4 yX4_wear yX4_wear, .initialized RX4, .code yX4_wear cX4_wear 2 (some .int), .fieldLink RX4 9 "DikeHands$Rod" "height" "I", .fieldLink RX4 19 "DikeHands$Rod" "breaks" "I", .fieldLink RX4 16 "DikeHands$Rod" "loss" "I"] ++ wsX80 ++ wsX40)
def wsX8_told_r1 : List Cond := [Cond.fieldLink RX8 23 "DikeHands" "houses" "[LDikeHands$House;", Cond.fieldLink RX8 152 "DikeHands$House" "byItself" "[I", Cond.fieldLink RX8 162 "DikeHands$House" "bySubstitute" "[I", Cond.fieldLink RX8 179 "DikeHands$House" "bought" "[I", Cond.fieldLink RX8 159 "DikeHands$House" "substitute" "[I", Cond.fieldLink RX8 165 "DikeHands$House" "asSubstitute" "[I", Cond.methodLink RX8 117 yX8_isHouse, Cond.instanceMethod yX8_isHouse, Cond.selects RX8 yX8_isHouse yX8_isHouse, Cond.initialized RX8, Cond.code yX8_isHouse cX8_isHouse 2 (some .boolean), Cond.fieldLink RX8 49 "DikeHands" "houseCount" "I", Cond.methodLink RX8 76 yX8_isWithin, Cond.static yX8_isWithin, Cond.code yX8_isWithin cX8_isWithin 2 (some .boolean), Cond.methodLink RX8 126 yX8_isYearSoFar, Cond.instanceMethod yX8_isYearSoFar, Cond.selects RX8 yX8_isYearSoFar yX8_isYearSoFar, Cond.code yX8_isYearSoFar cX8_isYearSoFar 2 (some .boolean), Cond.methodLink RX8 145 yX8_yearNow, Cond.instanceMethod yX8_yearNow, Cond.selects RX8 yX8_yearNow yX8_yearNow, Cond.code yX8_yearNow cX8_yearNow 1 (some .int), Cond.fieldLink RX8 45 "DikeHands" "now" "I"]
def wsX8_told_r2 : List Cond := [Cond.methodLink RX8 141 yX8_daysOwed, Cond.instanceMethod yX8_daysOwed, Cond.selects RX8 yX8_daysOwed yX8_daysOwed, Cond.code yX8_daysOwed cX8_daysOwed 4 (some .int), Cond.fieldLink RX8 30 "DikeHands" "laws" "LDikeHands$LawBook;", Cond.methodLink RX8 129 yX0_toldAheadOf, Cond.instanceMethod yX0_toldAheadOf, Cond.selects RX0 yX0_toldAheadOf yX0_toldAheadOf, Cond.initialized RX0, Cond.code yX0_toldAheadOf cX0_toldAheadOf 3 (some (.object "DikeHands$Telling")), Cond.fieldLink RX0 39 "DikeHands$House" "latest" "LDikeHands$Telling;", Cond.fieldLink RX0 43 "DikeHands$Telling" "told" "I", Cond.fieldLink RX0 46 "DikeHands$Telling" "earlier" "LDikeHands$Telling;", Cond.methodLink RX8 182 yX2_ofYear, Cond.instanceMethod yX2_ofYear, Cond.selects RX2 yX2_ofYear yX2_ofYear, Cond.initialized RX2, Cond.code yX2_ofYear cX2_ofYear 4 (some (.object "DikeHands$Law")), Cond.fieldLink RX2 20 "DikeHands$LawBook" "noLaw" "LDikeHands$Law;", Cond.fieldLink RX2 24 "DikeHands$LawBook" "size" "I", Cond.fieldLink RX2 11 "DikeHands$LawBook" "laws" "[LDikeHands$Law;", Cond.fieldLink RX2 32 "DikeHands$Law" "year" "I", Cond.methodLink RX8 230 yX1_daysFor, Cond.instanceMethod yX1_daysFor]
def wsX8_told_r3 : List Cond := [Cond.selects RX1 yX1_daysFor yX1_daysFor, Cond.initialized RX1, Cond.code yX1_daysFor cX1_daysFor 2 (some .int), Cond.fieldLink RX1 32 "DikeHands$Telling" "acres" "I", Cond.fieldLink RX1 21 "DikeHands$Law" "exempt" "I", Cond.fieldLink RX1 15 "DikeHands$Law" "daysForTenAcres" "I", Cond.fieldLink RX1 37 "DikeHands$Telling" "hands" "I", Cond.fieldLink RX1 18 "DikeHands$Law" "daysForHand" "I", Cond.methodLink RX8 149 yX8_daysOwedYet, Cond.instanceMethod yX8_daysOwedYet, Cond.selects RX8 yX8_daysOwedYet yX8_daysOwedYet, Cond.code yX8_daysOwedYet cX8_daysOwedYet 3 (some .int), Cond.methodLink RX8 237 Lib.Math.max.name, Cond.static Lib.Math.max.name, Cond.initialized "java/lang/Math", Cond.code Lib.Math.max.name Lib.Math.max.code 2 (some .int), Cond.methodLink RX8 234 yX0_daysMet, Cond.instanceMethod yX0_daysMet, Cond.selects RX0 yX0_daysMet yX0_daysMet, Cond.code yX0_daysMet cX0_daysMet 2 (some .int), Cond.fieldLink RX0 11 "DikeHands$House" "byItself" "[I", Cond.fieldLink RX0 15 "DikeHands$House" "bySubstitute" "[I", Cond.fieldLink RX0 18 "DikeHands$House" "bought" "[I"]
def wsX8_told : List Cond := .code yX8_told cX8_told 5 (some .int) :: ((wsX8_told_r1 ++ (wsX8_told_r2 ++ wsX8_told_r3)) ++ wsX80 ++ wsX00 ++ wsX50 ++ wsX20 ++ wsX10)
def wsX8_trueHands : List Cond := .code yX8_trueHands cX8_trueHands 5 (some .int) :: ([.fieldLink RX8 49 "DikeHands" "houseCount" "I", .fieldLink RX8 23 "DikeHands" "houses" "[LDikeHands$House;", .fieldLink RX8 168 "DikeHands$House" "home" "I", .methodLink RX8 245 yX0_handsIn, .instanceMethod yX0_handsIn, .selects RX0 yX0_handsIn yX0_handsIn, .initialized RX0, .code yX0_handsIn cX0_handsIn 5 (some .int), .fieldLink RX0 39 "DikeHands$House" "latest" "LDikeHands$Telling;", .fieldLink RX0 49 "DikeHands$Telling" "from" "I", .fieldLink RX0 52 "DikeHands$Telling" "hands" "I", .fieldLink RX0 46 "DikeHands$Telling" "earlier" "LDikeHands$Telling;"] ++ wsX80 ++ wsX00 ++ wsX50)
def wsX8_firstPaperWeek_r1 : List Cond := [Cond.fieldLink RX8 11 "DikeHands" "villages" "[LDikeHands$Village;", Cond.fieldLink RX8 248 "DikeHands$Village" "firstWork" "LDikeHands$WorkWeek;", Cond.fieldLink RX8 252 "DikeHands$WorkWeek" "days" "I", Cond.fieldLink RX8 255 "DikeHands$WorkWeek" "week" "I", Cond.fieldLink RX8 258 "DikeHands$WorkWeek" "next" "LDikeHands$WorkWeek;", Cond.methodLink RX8 72 yX8_isVillage, Cond.static yX8_isVillage, Cond.initialized RX8, Cond.code yX8_isVillage cX8_isVillage 1 (some .boolean), Cond.methodLink RX8 76 yX8_isWithin, Cond.static yX8_isWithin, Cond.code yX8_isWithin cX8_isWithin 2 (some .boolean), Cond.methodLink RX8 227 yX8_trueHands, Cond.instanceMethod yX8_trueHands, Cond.selects RX8 yX8_trueHands yX8_trueHands, Cond.code yX8_trueHands cX8_trueHands 5 (some .int), Cond.fieldLink RX8 49 "DikeHands" "houseCount" "I", Cond.fieldLink RX8 23 "DikeHands" "houses" "[LDikeHands$House;", Cond.fieldLink RX8 168 "DikeHands$House" "home" "I", Cond.methodLink RX8 245 yX0_handsIn, Cond.instanceMethod yX0_handsIn, Cond.selects RX0 yX0_handsIn yX0_handsIn, Cond.initialized RX0, Cond.code yX0_handsIn cX0_handsIn 5 (some .int)]
def wsX8_firstPaperWeek_r2 : List Cond := [Cond.fieldLink RX0 39 "DikeHands$House" "latest" "LDikeHands$Telling;", Cond.fieldLink RX0 49 "DikeHands$Telling" "from" "I", Cond.fieldLink RX0 52 "DikeHands$Telling" "hands" "I", Cond.fieldLink RX0 46 "DikeHands$Telling" "earlier" "LDikeHands$Telling;"]
def wsX8_firstPaperWeek : List Cond := .code yX8_firstPaperWeek cX8_firstPaperWeek 3 (some .int) :: ((wsX8_firstPaperWeek_r1 ++ wsX8_firstPaperWeek_r2) ++ wsX80 ++ wsX60 ++ wsX70 ++ wsX00 ++ wsX50)
def wsX8_paper_r1 : List Cond := [Cond.methodLink RX8 192 yX8_firstPaperWeek, Cond.instanceMethod yX8_firstPaperWeek, Cond.selects RX8 yX8_firstPaperWeek yX8_firstPaperWeek, Cond.initialized RX8, Cond.code yX8_firstPaperWeek cX8_firstPaperWeek 3 (some .int), Cond.fieldLink RX8 11 "DikeHands" "villages" "[LDikeHands$Village;", Cond.fieldLink RX8 248 "DikeHands$Village" "firstWork" "LDikeHands$WorkWeek;", Cond.fieldLink RX8 252 "DikeHands$WorkWeek" "days" "I", Cond.fieldLink RX8 255 "DikeHands$WorkWeek" "week" "I", Cond.fieldLink RX8 258 "DikeHands$WorkWeek" "next" "LDikeHands$WorkWeek;", Cond.methodLink RX8 72 yX8_isVillage, Cond.static yX8_isVillage, Cond.code yX8_isVillage cX8_isVillage 1 (some .boolean), Cond.methodLink RX8 76 yX8_isWithin, Cond.static yX8_isWithin, Cond.code yX8_isWithin cX8_isWithin 2 (some .boolean), Cond.methodLink RX8 227 yX8_trueHands, Cond.instanceMethod yX8_trueHands, Cond.selects RX8 yX8_trueHands yX8_trueHands, Cond.code yX8_trueHands cX8_trueHands 5 (some .int), Cond.fieldLink RX8 49 "DikeHands" "houseCount" "I", Cond.fieldLink RX8 23 "DikeHands" "houses" "[LDikeHands$House;", Cond.fieldLink RX8 168 "DikeHands$House" "home" "I", Cond.methodLink RX8 245 yX0_handsIn]
def wsX8_paper_r2 : List Cond := [Cond.instanceMethod yX0_handsIn, Cond.selects RX0 yX0_handsIn yX0_handsIn, Cond.initialized RX0, Cond.code yX0_handsIn cX0_handsIn 5 (some .int), Cond.fieldLink RX0 39 "DikeHands$House" "latest" "LDikeHands$Telling;", Cond.fieldLink RX0 49 "DikeHands$Telling" "from" "I", Cond.fieldLink RX0 52 "DikeHands$Telling" "hands" "I", Cond.fieldLink RX0 46 "DikeHands$Telling" "earlier" "LDikeHands$Telling;"]
def wsX8_paper : List Cond := .code yX8_paper cX8_paper 2 (some .boolean) :: ((wsX8_paper_r1 ++ wsX8_paper_r2) ++ wsX80 ++ wsX60 ++ wsX70 ++ wsX00 ++ wsX50)
def wsX8_paperWeek_r1 : List Cond := [Cond.methodLink RX8 192 yX8_firstPaperWeek, Cond.instanceMethod yX8_firstPaperWeek, Cond.selects RX8 yX8_firstPaperWeek yX8_firstPaperWeek, Cond.initialized RX8, Cond.code yX8_firstPaperWeek cX8_firstPaperWeek 3 (some .int), Cond.fieldLink RX8 11 "DikeHands" "villages" "[LDikeHands$Village;", Cond.fieldLink RX8 248 "DikeHands$Village" "firstWork" "LDikeHands$WorkWeek;", Cond.fieldLink RX8 252 "DikeHands$WorkWeek" "days" "I", Cond.fieldLink RX8 255 "DikeHands$WorkWeek" "week" "I", Cond.fieldLink RX8 258 "DikeHands$WorkWeek" "next" "LDikeHands$WorkWeek;", Cond.methodLink RX8 72 yX8_isVillage, Cond.static yX8_isVillage, Cond.code yX8_isVillage cX8_isVillage 1 (some .boolean), Cond.methodLink RX8 76 yX8_isWithin, Cond.static yX8_isWithin, Cond.code yX8_isWithin cX8_isWithin 2 (some .boolean), Cond.methodLink RX8 227 yX8_trueHands, Cond.instanceMethod yX8_trueHands, Cond.selects RX8 yX8_trueHands yX8_trueHands, Cond.code yX8_trueHands cX8_trueHands 5 (some .int), Cond.fieldLink RX8 49 "DikeHands" "houseCount" "I", Cond.fieldLink RX8 23 "DikeHands" "houses" "[LDikeHands$House;", Cond.fieldLink RX8 168 "DikeHands$House" "home" "I", Cond.methodLink RX8 245 yX0_handsIn]
def wsX8_paperWeek_r2 : List Cond := [Cond.instanceMethod yX0_handsIn, Cond.selects RX0 yX0_handsIn yX0_handsIn, Cond.initialized RX0, Cond.code yX0_handsIn cX0_handsIn 5 (some .int), Cond.fieldLink RX0 39 "DikeHands$House" "latest" "LDikeHands$Telling;", Cond.fieldLink RX0 49 "DikeHands$Telling" "from" "I", Cond.fieldLink RX0 52 "DikeHands$Telling" "hands" "I", Cond.fieldLink RX0 46 "DikeHands$Telling" "earlier" "LDikeHands$Telling;"]
def wsX8_paperWeek : List Cond := .code yX8_paperWeek cX8_paperWeek 2 (some .int) :: ((wsX8_paperWeek_r1 ++ wsX8_paperWeek_r2) ++ wsX80 ++ wsX60 ++ wsX70 ++ wsX00 ++ wsX50)
def wsX8_bank : List Cond := .code yX8_bank cX8_bank 4 (some .int) :: ([.fieldLink RX8 17 "DikeHands" "rods" "[LDikeHands$Rod;", .fieldLink RX8 196 "DikeHands$Rod" "height" "I", .fieldLink RX8 199 "DikeHands$Rod" "breaks" "I", .fieldLink RX8 202 "DikeHands$Rod" "days" "I", .methodLink RX8 83 yX8_isRod, .static yX8_isRod, .initialized RX8, .code yX8_isRod cX8_isRod 1 (some .boolean), .methodLink RX8 76 yX8_isWithin, .static yX8_isWithin, .code yX8_isWithin cX8_isWithin 2 (some .boolean), .methodLink RX8 205 yX4_daysTo, .instanceMethod yX4_daysTo, .selects RX4 yX4_daysTo yX4_daysTo, .initialized RX4, .code yX4_daysTo cX4_daysTo 2 (some .int), .fieldLink RX4 9 "DikeHands$Rod" "height" "I", .methodLink RX4 25 yX4_growthOfDay, .instanceMethod yX4_growthOfDay, .selects RX4 yX4_growthOfDay yX4_growthOfDay, .code yX4_growthOfDay cX4_growthOfDay 1 (some .int), .fieldLink RX4 13 "DikeHands$Rod" "soil" "I", .static yX8_dividedUp, .code yX8_dividedUp cX8_dividedUp 2 (some .int)] ++ wsX80 ++ wsX40)
def wsX8_saved_r1 : List Cond := [Cond.fieldLink RX8 37 "DikeHands" "plan" "LDikeHands$Plan;", Cond.fieldLink RX8 17 "DikeHands" "rods" "[LDikeHands$Rod;", Cond.methodLink RX8 76 yX8_isWithin, Cond.static yX8_isWithin, Cond.initialized RX8, Cond.code yX8_isWithin cX8_isWithin 2 (some .boolean), Cond.methodLink RX8 208 yX3_bestWorth, Cond.instanceMethod yX3_bestWorth, Cond.selects RX3 yX3_bestWorth yX3_bestWorth, Cond.initialized RX3, Cond.code yX3_bestWorth cX3_bestWorth 5 (some .long), Cond.fieldLink RX3 11 "DikeHands$Plan" "worthWithin" "[J", Cond.fieldLink RX3 19 "DikeHands$Rod" "height" "I", Cond.fieldLink RX3 29 "DikeHands$Rod" "loss" "I", Cond.methodLink RX3 25 yX4_daysTo, Cond.instanceMethod yX4_daysTo, Cond.selects RX4 yX4_daysTo yX4_daysTo, Cond.initialized RX4, Cond.code yX4_daysTo cX4_daysTo 2 (some .int), Cond.fieldLink RX4 9 "DikeHands$Rod" "height" "I", Cond.methodLink RX4 25 yX4_growthOfDay, Cond.instanceMethod yX4_growthOfDay, Cond.selects RX4 yX4_growthOfDay yX4_growthOfDay, Cond.code yX4_growthOfDay cX4_growthOfDay 1 (some .int)]
def wsX8_saved_r2 : List Cond := [Cond.fieldLink RX4 13 "DikeHands$Rod" "soil" "I", Cond.static yX8_dividedUp, Cond.code yX8_dividedUp cX8_dividedUp 2 (some .int), Cond.methodLink RX3 32 yX3_offer, Cond.instanceMethod yX3_offer, Cond.selects RX3 yX3_offer yX3_offer, Cond.code yX3_offer cX3_offer 6 none, Cond.methodLink RX3 36 Lib.MathLoose.max_long.x, Cond.static Lib.MathLoose.max_long.x, Cond.initialized "java/lang/Math", Cond.code Lib.MathLoose.max_long.x Lib.MathLoose.max_long.code 4 (some .long), Cond.methodLink RX8 212 yX3_lossOf, Cond.static yX3_lossOf, Cond.code yX3_lossOf cX3_lossOf 2 (some .int), Cond.constantLong RX3 42 (1073741824)]
def wsX8_saved : List Cond := .code yX8_saved cX8_saved 3 (some .int) :: ((wsX8_saved_r1 ++ wsX8_saved_r2) ++ wsX80 ++ wsX30 ++ wsX40)
def wsX8_chosen_r1 : List Cond := [Cond.fieldLink RX8 37 "DikeHands" "plan" "LDikeHands$Plan;", Cond.fieldLink RX8 17 "DikeHands" "rods" "[LDikeHands$Rod;", Cond.methodLink RX8 76 yX8_isWithin, Cond.static yX8_isWithin, Cond.initialized RX8, Cond.code yX8_isWithin cX8_isWithin 2 (some .boolean), Cond.methodLink RX8 208 yX3_bestWorth, Cond.instanceMethod yX3_bestWorth, Cond.selects RX3 yX3_bestWorth yX3_bestWorth, Cond.initialized RX3, Cond.code yX3_bestWorth cX3_bestWorth 5 (some .long), Cond.fieldLink RX3 11 "DikeHands$Plan" "worthWithin" "[J", Cond.fieldLink RX3 19 "DikeHands$Rod" "height" "I", Cond.fieldLink RX3 29 "DikeHands$Rod" "loss" "I", Cond.methodLink RX3 25 yX4_daysTo, Cond.instanceMethod yX4_daysTo, Cond.selects RX4 yX4_daysTo yX4_daysTo, Cond.initialized RX4, Cond.code yX4_daysTo cX4_daysTo 2 (some .int), Cond.fieldLink RX4 9 "DikeHands$Rod" "height" "I", Cond.methodLink RX4 25 yX4_growthOfDay, Cond.instanceMethod yX4_growthOfDay, Cond.selects RX4 yX4_growthOfDay yX4_growthOfDay, Cond.code yX4_growthOfDay cX4_growthOfDay 1 (some .int)]
def wsX8_chosen_r2 : List Cond := [Cond.fieldLink RX4 13 "DikeHands$Rod" "soil" "I", Cond.static yX8_dividedUp, Cond.code yX8_dividedUp cX8_dividedUp 2 (some .int), Cond.methodLink RX3 32 yX3_offer, Cond.instanceMethod yX3_offer, Cond.selects RX3 yX3_offer yX3_offer, Cond.code yX3_offer cX3_offer 6 none, Cond.methodLink RX3 36 Lib.MathLoose.max_long.x, Cond.static Lib.MathLoose.max_long.x, Cond.initialized "java/lang/Math", Cond.code Lib.MathLoose.max_long.x Lib.MathLoose.max_long.code 4 (some .long), Cond.methodLink RX8 216 yX3_heapOf, Cond.static yX3_heapOf, Cond.code yX3_heapOf cX3_heapOf 2 (some .int), Cond.methodLink RX3 44 yX3_lossOf, Cond.static yX3_lossOf, Cond.code yX3_lossOf cX3_lossOf 2 (some .int), Cond.constantLong RX3 42 (1073741824)]
def wsX8_chosen : List Cond := .code yX8_chosen cX8_chosen 3 (some .int) :: ((wsX8_chosen_r1 ++ wsX8_chosen_r2) ++ wsX80 ++ wsX30 ++ wsX40)
def wsX8_hoursFor : List Cond := .code yX8_hoursFor cX8_hoursFor 3 (some .int) :: ([.methodLink RX8 261 Lib.Math.abs.name, .static Lib.Math.abs.name, .initialized "java/lang/Math", .code Lib.Math.abs.name Lib.Math.abs.code 1 (some .int), .methodLink RX8 264 yX8_dividedUp, .static yX8_dividedUp, .initialized RX8, .code yX8_dividedUp cX8_dividedUp 2 (some .int)])
def wsX8_hourOfCall : List Cond := .code yX8_hourOfCall cX8_hourOfCall 3 (some .int) :: ([.fieldLink RX8 11 "DikeHands" "villages" "[LDikeHands$Village;", .fieldLink RX8 80 "DikeHands$Village" "mile" "I", .methodLink RX8 223 yX8_hoursFor, .static yX8_hoursFor, .initialized RX8, .code yX8_hoursFor cX8_hoursFor 3 (some .int), .methodLink RX8 261 Lib.Math.abs.name, .static Lib.Math.abs.name, .initialized "java/lang/Math", .code Lib.Math.abs.name Lib.Math.abs.code 1 (some .int), .methodLink RX8 264 yX8_dividedUp, .static yX8_dividedUp, .code yX8_dividedUp cX8_dividedUp 2 (some .int)] ++ wsX80 ++ wsX60)
def wsX8_called : List Cond := .code yX8_called cX8_called 3 (some .int) :: ([.methodLink RX8 72 yX8_isVillage, .static yX8_isVillage, .initialized RX8, .code yX8_isVillage cX8_isVillage 1 (some .boolean), .methodLink RX8 76 yX8_isWithin, .static yX8_isWithin, .code yX8_isWithin cX8_isWithin 2 (some .boolean), .methodLink RX8 219 yX8_hourOfCall, .instanceMethod yX8_hourOfCall, .selects RX8 yX8_hourOfCall yX8_hourOfCall, .code yX8_hourOfCall cX8_hourOfCall 3 (some .int), .fieldLink RX8 11 "DikeHands" "villages" "[LDikeHands$Village;", .fieldLink RX8 80 "DikeHands$Village" "mile" "I", .methodLink RX8 223 yX8_hoursFor, .static yX8_hoursFor, .code yX8_hoursFor cX8_hoursFor 3 (some .int), .methodLink RX8 261 Lib.Math.abs.name, .static Lib.Math.abs.name, .initialized "java/lang/Math", .code Lib.Math.abs.name Lib.Math.abs.code 1 (some .int), .methodLink RX8 264 yX8_dividedUp, .static yX8_dividedUp, .code yX8_dividedUp cX8_dividedUp 2 (some .int)] ++ wsX80 ++ wsX60)
def wsX8_arrived_r1 : List Cond := [Cond.fieldLink RX8 11 "DikeHands" "villages" "[LDikeHands$Village;", Cond.fieldLink RX8 80 "DikeHands$Village" "mile" "I", Cond.fieldLink RX8 45 "DikeHands" "now" "I", Cond.methodLink RX8 72 yX8_isVillage, Cond.static yX8_isVillage, Cond.initialized RX8, Cond.code yX8_isVillage cX8_isVillage 1 (some .boolean), Cond.methodLink RX8 76 yX8_isWithin, Cond.static yX8_isWithin, Cond.code yX8_isWithin cX8_isWithin 2 (some .boolean), Cond.methodLink RX8 83 yX8_isRod, Cond.static yX8_isRod, Cond.code yX8_isRod cX8_isRod 1 (some .boolean), Cond.methodLink RX8 223 yX8_hoursFor, Cond.static yX8_hoursFor, Cond.code yX8_hoursFor cX8_hoursFor 3 (some .int), Cond.methodLink RX8 261 Lib.Math.abs.name, Cond.static Lib.Math.abs.name, Cond.initialized "java/lang/Math", Cond.code Lib.Math.abs.name Lib.Math.abs.code 1 (some .int), Cond.methodLink RX8 264 yX8_dividedUp, Cond.static yX8_dividedUp, Cond.code yX8_dividedUp cX8_dividedUp 2 (some .int), Cond.methodLink RX8 219 yX8_hourOfCall]
def wsX8_arrived_r2 : List Cond := [Cond.instanceMethod yX8_hourOfCall, Cond.selects RX8 yX8_hourOfCall yX8_hourOfCall, Cond.code yX8_hourOfCall cX8_hourOfCall 3 (some .int), Cond.methodLink RX8 227 yX8_trueHands, Cond.instanceMethod yX8_trueHands, Cond.selects RX8 yX8_trueHands yX8_trueHands, Cond.code yX8_trueHands cX8_trueHands 5 (some .int), Cond.fieldLink RX8 49 "DikeHands" "houseCount" "I", Cond.fieldLink RX8 23 "DikeHands" "houses" "[LDikeHands$House;", Cond.fieldLink RX8 168 "DikeHands$House" "home" "I", Cond.methodLink RX8 245 yX0_handsIn, Cond.instanceMethod yX0_handsIn, Cond.selects RX0 yX0_handsIn yX0_handsIn, Cond.initialized RX0, Cond.code yX0_handsIn cX0_handsIn 5 (some .int), Cond.fieldLink RX0 39 "DikeHands$House" "latest" "LDikeHands$Telling;", Cond.fieldLink RX0 49 "DikeHands$Telling" "from" "I", Cond.fieldLink RX0 52 "DikeHands$Telling" "hands" "I", Cond.fieldLink RX0 46 "DikeHands$Telling" "earlier" "LDikeHands$Telling;"]
def wsX8_arrived : List Cond := .code yX8_arrived cX8_arrived 7 (some .int) :: ((wsX8_arrived_r1 ++ wsX8_arrived_r2) ++ wsX80 ++ wsX60 ++ wsX00 ++ wsX50)
def wsX8_count : List Cond := .code yX8_count cX8_count 2 (some .int) :: ([.fieldLink RX8 45 "DikeHands" "now" "I", .fieldLink RX8 49 "DikeHands" "houseCount" "I", .fieldLink RX8 30 "DikeHands" "laws" "LDikeHands$LawBook;", .fieldLink RX8 108 "DikeHands$LawBook" "size" "I", .fieldLink RX8 52 "DikeHands" "changeCount" "I", .fieldLink RX8 55 "DikeHands" "chest" "I", .fieldLink RX8 58 "DikeHands" "lossCounted" "I", .fieldLink RX8 61 "DikeHands" "daysDone" "I", .fieldLink RX8 64 "DikeHands" "daysBought" "I", .fieldLink RX8 67 "DikeHands" "daysHired" "I"] ++ wsX80 ++ wsX20)
set_option maxRecDepth 20000 in
theorem ggX8_init_X2_init : GoodIn wsX8_init wsX2_init := goodIn_r _ [33, 34, 2, 3, 35, 36, 37, 38, 39, 40, 41, 42, 43, 44, 45, 46, 47, 48, 49, 81, 82, 83, 93, 94, 95, 96, 97] (by decide +kernel) (by decide +kernel)
set_option maxRecDepth 20000 in
theorem gX8_init_X2_init_n29 : GoodIn wsX8_init (wsX2_init) := ggX8_init_X2_init
set_option maxRecDepth 20000 in
theorem ggX8_init_X3_init : GoodIn wsX8_init wsX3_init := goodIn_r _ [51, 52, 2, 3, 53, 54, 84] (by decide +kernel) (by decide +kernel)
set_option maxRecDepth 20000 in
theorem gX8_init_X3_init_n36 : GoodIn wsX8_init (wsX3_init) := ggX8_init_X3_init
set_option maxRecDepth 20000 in
theorem ggX8_init_X6_init : GoodIn wsX8_init wsX6_init := goodIn_r _ [56, 57, 2, 3, 58, 85, 86, 87] (by decide +kernel) (by decide +kernel)
set_option maxRecDepth 20000 in
theorem gX8_init_X6_init_n70 : GoodIn wsX8_init (wsX6_init) := ggX8_init_X6_init
set_option maxRecDepth 20000 in
theorem ggX8_init_X4_init : GoodIn wsX8_init wsX4_init := goodIn_r _ [60, 61, 2, 3, 62, 63, 64, 65, 66, 88, 89, 90, 91, 92] (by decide +kernel) (by decide +kernel)
set_option maxRecDepth 20000 in
theorem gX8_init_X4_init_n71 : GoodIn wsX8_init (wsX4_init) := ggX8_init_X4_init
theorem dX8_init_0 : decode cX8_init 0 = .ok (.aload_n 0, 1) := by decide +kernel
theorem dX8_init_1 : decode cX8_init 1 = .ok (.invokespecial 1, 3) := by decide +kernel
theorem dX8_init_4 : decode cX8_init 4 = .ok (.aload_n 0, 1) := by decide +kernel
theorem dX8_init_5 : decode cX8_init 5 = .ok (.bipush 8, 2) := by decide +kernel
theorem dX8_init_7 : decode cX8_init 7 = .ok (.anewarray 9, 3) := by decide +kernel
theorem dX8_init_10 : decode cX8_init 10 = .ok (.putfield 11, 3) := by decide +kernel
theorem dX8_init_13 : decode cX8_init 13 = .ok (.aload_n 0, 1) := by decide +kernel
theorem dX8_init_14 : decode cX8_init 14 = .ok (.bipush 30, 2) := by decide +kernel
theorem dX8_init_16 : decode cX8_init 16 = .ok (.anewarray 15, 3) := by decide +kernel
theorem dX8_init_19 : decode cX8_init 19 = .ok (.putfield 17, 3) := by decide +kernel
theorem dX8_init_22 : decode cX8_init 22 = .ok (.aload_n 0, 1) := by decide +kernel
theorem dX8_init_23 : decode cX8_init 23 = .ok (.bipush 40, 2) := by decide +kernel
theorem dX8_init_25 : decode cX8_init 25 = .ok (.anewarray 21, 3) := by decide +kernel
theorem dX8_init_28 : decode cX8_init 28 = .ok (.putfield 23, 3) := by decide +kernel
theorem dX8_init_31 : decode cX8_init 31 = .ok (.aload_n 0, 1) := by decide +kernel
theorem dX8_init_32 : decode cX8_init 32 = .ok (.new 27, 3) := by decide +kernel
theorem dX8_init_35 : decode cX8_init 35 = .ok (.dup, 1) := by decide +kernel
theorem dX8_init_36 : decode cX8_init 36 = .ok (.invokespecial 29, 3) := by decide +kernel
theorem dX8_init_39 : decode cX8_init 39 = .ok (.putfield 30, 3) := by decide +kernel
theorem dX8_init_42 : decode cX8_init 42 = .ok (.aload_n 0, 1) := by decide +kernel
theorem dX8_init_43 : decode cX8_init 43 = .ok (.new 34, 3) := by decide +kernel
theorem dX8_init_46 : decode cX8_init 46 = .ok (.dup, 1) := by decide +kernel
theorem dX8_init_47 : decode cX8_init 47 = .ok (.invokespecial 36, 3) := by decide +kernel
theorem dX8_init_50 : decode cX8_init 50 = .ok (.putfield 37, 3) := by decide +kernel
theorem dX8_init_53 : decode cX8_init 53 = .ok (.aload_n 0, 1) := by decide +kernel
theorem dX8_init_54 : decode cX8_init 54 = .ok (.sipush 1040, 3) := by decide +kernel
theorem dX8_init_57 : decode cX8_init 57 = .ok (.newarray .int, 2) := by decide +kernel
theorem dX8_init_59 : decode cX8_init 59 = .ok (.putfield 41, 3) := by decide +kernel
theorem dX8_init_62 : decode cX8_init 62 = .ok (.aload_n 0, 1) := by decide +kernel
theorem dX8_init_63 : decode cX8_init 63 = .ok (.iconst 0, 1) := by decide +kernel
theorem dX8_init_64 : decode cX8_init 64 = .ok (.putfield 45, 3) := by decide +kernel
theorem dX8_init_67 : decode cX8_init 67 = .ok (.aload_n 0, 1) := by decide +kernel
theorem dX8_init_68 : decode cX8_init 68 = .ok (.iconst 0, 1) := by decide +kernel
theorem dX8_init_69 : decode cX8_init 69 = .ok (.putfield 49, 3) := by decide +kernel
theorem dX8_init_72 : decode cX8_init 72 = .ok (.aload_n 0, 1) := by decide +kernel
theorem dX8_init_73 : decode cX8_init 73 = .ok (.iconst 0, 1) := by decide +kernel
theorem dX8_init_74 : decode cX8_init 74 = .ok (.putfield 52, 3) := by decide +kernel
theorem dX8_init_77 : decode cX8_init 77 = .ok (.aload_n 0, 1) := by decide +kernel
theorem dX8_init_78 : decode cX8_init 78 = .ok (.iconst 0, 1) := by decide +kernel
theorem dX8_init_79 : decode cX8_init 79 = .ok (.putfield 55, 3) := by decide +kernel
theorem dX8_init_82 : decode cX8_init 82 = .ok (.aload_n 0, 1) := by decide +kernel
theorem dX8_init_83 : decode cX8_init 83 = .ok (.iconst 0, 1) := by decide +kernel
theorem dX8_init_84 : decode cX8_init 84 = .ok (.putfield 58, 3) := by decide +kernel
theorem dX8_init_87 : decode cX8_init 87 = .ok (.aload_n 0, 1) := by decide +kernel
theorem dX8_init_88 : decode cX8_init 88 = .ok (.iconst 0, 1) := by decide +kernel
theorem dX8_init_89 : decode cX8_init 89 = .ok (.putfield 61, 3) := by decide +kernel
theorem dX8_init_92 : decode cX8_init 92 = .ok (.aload_n 0, 1) := by decide +kernel
theorem dX8_init_93 : decode cX8_init 93 = .ok (.iconst 0, 1) := by decide +kernel
theorem dX8_init_94 : decode cX8_init 94 = .ok (.putfield 64, 3) := by decide +kernel
theorem dX8_init_97 : decode cX8_init 97 = .ok (.aload_n 0, 1) := by decide +kernel
theorem dX8_init_98 : decode cX8_init 98 = .ok (.iconst 0, 1) := by decide +kernel
theorem dX8_init_99 : decode cX8_init 99 = .ok (.putfield 67, 3) := by decide +kernel
theorem dX8_init_102 : decode cX8_init 102 = .ok (.iconst 0, 1) := by decide +kernel
theorem dX8_init_103 : decode cX8_init 103 = .ok (.istore_n 1, 1) := by decide +kernel
theorem dX8_init_104 : decode cX8_init 104 = .ok (.iload_n 1, 1) := by decide +kernel
theorem dX8_init_105 : decode cX8_init 105 = .ok (.bipush 8, 2) := by decide +kernel
theorem dX8_init_107 : decode cX8_init 107 = .ok (.if_icmp .ge 22, 3) := by decide +kernel
theorem dX8_init_110 : decode cX8_init 110 = .ok (.aload_n 0, 1) := by decide +kernel
theorem dX8_init_111 : decode cX8_init 111 = .ok (.getfield 11, 3) := by decide +kernel
theorem dX8_init_114 : decode cX8_init 114 = .ok (.iload_n 1, 1) := by decide +kernel
theorem dX8_init_115 : decode cX8_init 115 = .ok (.new 9, 3) := by decide +kernel
theorem dX8_init_118 : decode cX8_init 118 = .ok (.dup, 1) := by decide +kernel
theorem dX8_init_119 : decode cX8_init 119 = .ok (.invokespecial 70, 3) := by decide +kernel
theorem dX8_init_122 : decode cX8_init 122 = .ok (.aastore, 1) := by decide +kernel
theorem dX8_init_123 : decode cX8_init 123 = .ok (.iinc 1 1, 3) := by decide +kernel
theorem dX8_init_126 : decode cX8_init 126 = .ok (.goto (-22), 3) := by decide +kernel
theorem dX8_init_129 : decode cX8_init 129 = .ok (.iconst 0, 1) := by decide +kernel
theorem dX8_init_130 : decode cX8_init 130 = .ok (.istore_n 1, 1) := by decide +kernel
theorem dX8_init_131 : decode cX8_init 131 = .ok (.iload_n 1, 1) := by decide +kernel
theorem dX8_init_132 : decode cX8_init 132 = .ok (.bipush 30, 2) := by decide +kernel
theorem dX8_init_134 : decode cX8_init 134 = .ok (.if_icmp .ge 22, 3) := by decide +kernel
theorem dX8_init_137 : decode cX8_init 137 = .ok (.aload_n 0, 1) := by decide +kernel
theorem dX8_init_138 : decode cX8_init 138 = .ok (.getfield 17, 3) := by decide +kernel
theorem dX8_init_141 : decode cX8_init 141 = .ok (.iload_n 1, 1) := by decide +kernel
theorem dX8_init_142 : decode cX8_init 142 = .ok (.new 15, 3) := by decide +kernel
theorem dX8_init_145 : decode cX8_init 145 = .ok (.dup, 1) := by decide +kernel
theorem dX8_init_146 : decode cX8_init 146 = .ok (.invokespecial 71, 3) := by decide +kernel
theorem dX8_init_149 : decode cX8_init 149 = .ok (.aastore, 1) := by decide +kernel
theorem dX8_init_150 : decode cX8_init 150 = .ok (.iinc 1 1, 3) := by decide +kernel
theorem dX8_init_153 : decode cX8_init 153 = .ok (.goto (-22), 3) := by decide +kernel
theorem dX8_init_156 : decode cX8_init 156 = .ok (.return_, 1) := by decide +kernel
set_option maxRecDepth 20000 in
theorem ggX8_village_X8_isVillage : GoodIn wsX8_village wsX8_isVillage := goodIn_r _ [6, 7, 8, 5, 9] (by decide +kernel) (by decide +kernel)
set_option maxRecDepth 20000 in
theorem gX8_village_X8_isVillage : GoodIn wsX8_village (va_wsS RX8 72 yX8_isVillage wsX8_isVillage) := goodIn_app (goodIn_of _ (by decide +kernel)) ggX8_village_X8_isVillage
set_option maxRecDepth 20000 in
theorem ggX8_village_X8_isWithin : GoodIn wsX8_village wsX8_isWithin := goodIn_r _ [9] (by decide +kernel) (by decide +kernel)
set_option maxRecDepth 20000 in
theorem gX8_village_X8_isWithin : GoodIn wsX8_village (va_wsS RX8 76 yX8_isWithin wsX8_isWithin) := goodIn_app (goodIn_of _ (by decide +kernel)) ggX8_village_X8_isWithin
theorem dX8_village_0 : decode cX8_village 0 = .ok (.iload_n 1, 1) := by decide +kernel
theorem dX8_village_1 : decode cX8_village 1 = .ok (.invokestatic 72, 3) := by decide +kernel
theorem dX8_village_4 : decode cX8_village 4 = .ok (.ifCond .eq 12, 3) := by decide +kernel
theorem dX8_village_7 : decode cX8_village 7 = .ok (.iload_n 2, 1) := by decide +kernel
theorem dX8_village_8 : decode cX8_village 8 = .ok (.bipush 99, 2) := by decide +kernel
theorem dX8_village_10 : decode cX8_village 10 = .ok (.invokestatic 76, 3) := by decide +kernel
theorem dX8_village_13 : decode cX8_village 13 = .ok (.ifCond .ne 5, 3) := by decide +kernel
theorem dX8_village_16 : decode cX8_village 16 = .ok (.iconst 0, 1) := by decide +kernel
theorem dX8_village_17 : decode cX8_village 17 = .ok (.ireturn, 1) := by decide +kernel
theorem dX8_village_18 : decode cX8_village 18 = .ok (.aload_n 0, 1) := by decide +kernel
theorem dX8_village_19 : decode cX8_village 19 = .ok (.getfield 11, 3) := by decide +kernel
theorem dX8_village_22 : decode cX8_village 22 = .ok (.iload_n 1, 1) := by decide +kernel
theorem dX8_village_23 : decode cX8_village 23 = .ok (.aaload, 1) := by decide +kernel
theorem dX8_village_24 : decode cX8_village 24 = .ok (.iload_n 2, 1) := by decide +kernel
theorem dX8_village_25 : decode cX8_village 25 = .ok (.putfield 80, 3) := by decide +kernel
theorem dX8_village_28 : decode cX8_village 28 = .ok (.iconst 1, 1) := by decide +kernel
theorem dX8_village_29 : decode cX8_village 29 = .ok (.ireturn, 1) := by decide +kernel
set_option maxRecDepth 20000 in
theorem ggX8_rod_X8_isRod : GoodIn wsX8_rod wsX8_isRod := goodIn_r _ [7, 8, 9, 6, 10] (by decide +kernel) (by decide +kernel)
set_option maxRecDepth 20000 in
theorem gX8_rod_X8_isRod : GoodIn wsX8_rod (va_wsS RX8 83 yX8_isRod wsX8_isRod) := goodIn_app (goodIn_of _ (by decide +kernel)) ggX8_rod_X8_isRod
set_option maxRecDepth 20000 in
theorem ggX8_rod_X8_isWithin : GoodIn wsX8_rod wsX8_isWithin := goodIn_r _ [10] (by decide +kernel) (by decide +kernel)
set_option maxRecDepth 20000 in
theorem gX8_rod_X8_isWithin : GoodIn wsX8_rod (va_wsS RX8 76 yX8_isWithin wsX8_isWithin) := goodIn_app (goodIn_of _ (by decide +kernel)) ggX8_rod_X8_isWithin
theorem dX8_rod_0 : decode cX8_rod 0 = .ok (.iload_n 1, 1) := by decide +kernel
theorem dX8_rod_1 : decode cX8_rod 1 = .ok (.invokestatic 83, 3) := by decide +kernel
theorem dX8_rod_4 : decode cX8_rod 4 = .ok (.ifCond .eq 21, 3) := by decide +kernel
theorem dX8_rod_7 : decode cX8_rod 7 = .ok (.iload_n 2, 1) := by decide +kernel
theorem dX8_rod_8 : decode cX8_rod 8 = .ok (.iconst 2, 1) := by decide +kernel
theorem dX8_rod_9 : decode cX8_rod 9 = .ok (.invokestatic 76, 3) := by decide +kernel
theorem dX8_rod_12 : decode cX8_rod 12 = .ok (.ifCond .eq 13, 3) := by decide +kernel
theorem dX8_rod_15 : decode cX8_rod 15 = .ok (.iload_n 3, 1) := by decide +kernel
theorem dX8_rod_16 : decode cX8_rod 16 = .ok (.sipush 10000, 3) := by decide +kernel
theorem dX8_rod_19 : decode cX8_rod 19 = .ok (.invokestatic 76, 3) := by decide +kernel
theorem dX8_rod_22 : decode cX8_rod 22 = .ok (.ifCond .ne 5, 3) := by decide +kernel
theorem dX8_rod_25 : decode cX8_rod 25 = .ok (.iconst 0, 1) := by decide +kernel
theorem dX8_rod_26 : decode cX8_rod 26 = .ok (.ireturn, 1) := by decide +kernel
theorem dX8_rod_27 : decode cX8_rod 27 = .ok (.aload_n 0, 1) := by decide +kernel
theorem dX8_rod_28 : decode cX8_rod 28 = .ok (.getfield 17, 3) := by decide +kernel
theorem dX8_rod_31 : decode cX8_rod 31 = .ok (.iload_n 1, 1) := by decide +kernel
theorem dX8_rod_32 : decode cX8_rod 32 = .ok (.aaload, 1) := by decide +kernel
theorem dX8_rod_33 : decode cX8_rod 33 = .ok (.iload_n 2, 1) := by decide +kernel
theorem dX8_rod_34 : decode cX8_rod 34 = .ok (.putfield 86, 3) := by decide +kernel
theorem dX8_rod_37 : decode cX8_rod 37 = .ok (.aload_n 0, 1) := by decide +kernel
theorem dX8_rod_38 : decode cX8_rod 38 = .ok (.getfield 17, 3) := by decide +kernel
theorem dX8_rod_41 : decode cX8_rod 41 = .ok (.iload_n 1, 1) := by decide +kernel
theorem dX8_rod_42 : decode cX8_rod 42 = .ok (.aaload, 1) := by decide +kernel
theorem dX8_rod_43 : decode cX8_rod 43 = .ok (.iload_n 3, 1) := by decide +kernel
theorem dX8_rod_44 : decode cX8_rod 44 = .ok (.putfield 89, 3) := by decide +kernel
theorem dX8_rod_47 : decode cX8_rod 47 = .ok (.iconst 1, 1) := by decide +kernel
theorem dX8_rod_48 : decode cX8_rod 48 = .ok (.ireturn, 1) := by decide +kernel
set_option maxRecDepth 20000 in
theorem ggX8_law_X8_isWithin : GoodIn wsX8_law wsX8_isWithin := goodIn_r _ [9] (by decide +kernel) (by decide +kernel)
set_option maxRecDepth 20000 in
theorem gX8_law_X8_isWithin : GoodIn wsX8_law (va_wsS RX8 76 yX8_isWithin wsX8_isWithin) := goodIn_app (goodIn_of _ (by decide +kernel)) ggX8_law_X8_isWithin
set_option maxRecDepth 20000 in
theorem ggX8_law_X1_canBe : GoodIn wsX8_law wsX1_canBe := goodIn_r _ [12, 13, 7, 8, 9] (by decide +kernel) (by decide +kernel)
set_option maxRecDepth 20000 in
theorem gX8_law_X1_canBe : GoodIn wsX8_law (va_wsS RX8 92 yX1_canBe wsX1_canBe) := goodIn_app (goodIn_of _ (by decide +kernel)) ggX8_law_X1_canBe
set_option maxRecDepth 20000 in
theorem ggX8_law_X2_isFull : GoodIn wsX8_law wsX2_isFull := goodIn_r _ [18, 19, 56, 57, 58] (by decide +kernel) (by decide +kernel)
set_option maxRecDepth 20000 in
theorem gX8_law_X2_isFull : GoodIn wsX8_law (wsV RX8 97 RX2 yX2_isFull wsX2_isFull) := goodIn_app (goodIn_of _ (by decide +kernel)) ggX8_law_X2_isFull
set_option maxRecDepth 20000 in
theorem ggX8_law_X1_init : GoodIn wsX8_law wsX1_init := goodIn_r _ [22, 23, 24, 25, 26, 27, 28, 29, 30, 51, 52, 53, 54, 55] (by decide +kernel) (by decide +kernel)
set_option maxRecDepth 20000 in
theorem gX8_law_X1_init : GoodIn wsX8_law (wsX1_init) := ggX8_law_X1_init
set_option maxRecDepth 20000 in
theorem ggX8_law_X2_add : GoodIn wsX8_law wsX2_add := goodIn_r _ [34, 35, 19, 36, 15, 16, 17, 18, 56, 57, 58] (by decide +kernel) (by decide +kernel)
set_option maxRecDepth 20000 in
theorem gX8_law_X2_add : GoodIn wsX8_law (wsV RX8 104 RX2 yX2_add wsX2_add) := goodIn_app (goodIn_of _ (by decide +kernel)) ggX8_law_X2_add
theorem dX8_law_0 : decode cX8_law 0 = .ok (.iload_n 1, 1) := by decide +kernel
theorem dX8_law_1 : decode cX8_law 1 = .ok (.bipush 19, 2) := by decide +kernel
theorem dX8_law_3 : decode cX8_law 3 = .ok (.invokestatic 76, 3) := by decide +kernel
theorem dX8_law_6 : decode cX8_law 6 = .ok (.ifCond .eq 29, 3) := by decide +kernel
theorem dX8_law_9 : decode cX8_law 9 = .ok (.iload_n 2, 1) := by decide +kernel
theorem dX8_law_10 : decode cX8_law 10 = .ok (.invokestatic 92, 3) := by decide +kernel
theorem dX8_law_13 : decode cX8_law 13 = .ok (.ifCond .eq 22, 3) := by decide +kernel
theorem dX8_law_16 : decode cX8_law 16 = .ok (.iload_n 3, 1) := by decide +kernel
theorem dX8_law_17 : decode cX8_law 17 = .ok (.bipush 100, 2) := by decide +kernel
theorem dX8_law_19 : decode cX8_law 19 = .ok (.invokestatic 76, 3) := by decide +kernel
theorem dX8_law_22 : decode cX8_law 22 = .ok (.ifCond .eq 13, 3) := by decide +kernel
theorem dX8_law_25 : decode cX8_law 25 = .ok (.aload_n 0, 1) := by decide +kernel
theorem dX8_law_26 : decode cX8_law 26 = .ok (.getfield 30, 3) := by decide +kernel
theorem dX8_law_29 : decode cX8_law 29 = .ok (.invokevirtual 97, 3) := by decide +kernel
theorem dX8_law_32 : decode cX8_law 32 = .ok (.ifCond .eq 5, 3) := by decide +kernel
theorem dX8_law_35 : decode cX8_law 35 = .ok (.iconst (-1), 1) := by decide +kernel
theorem dX8_law_36 : decode cX8_law 36 = .ok (.ireturn, 1) := by decide +kernel
theorem dX8_law_37 : decode cX8_law 37 = .ok (.aload_n 0, 1) := by decide +kernel
theorem dX8_law_38 : decode cX8_law 38 = .ok (.getfield 30, 3) := by decide +kernel
theorem dX8_law_41 : decode cX8_law 41 = .ok (.new 93, 3) := by decide +kernel
theorem dX8_law_44 : decode cX8_law 44 = .ok (.dup, 1) := by decide +kernel
theorem dX8_law_45 : decode cX8_law 45 = .ok (.iload_n 1, 1) := by decide +kernel
theorem dX8_law_46 : decode cX8_law 46 = .ok (.iload_n 2, 1) := by decide +kernel
theorem dX8_law_47 : decode cX8_law 47 = .ok (.iload_n 3, 1) := by decide +kernel
theorem dX8_law_48 : decode cX8_law 48 = .ok (.invokespecial 101, 3) := by decide +kernel
theorem dX8_law_51 : decode cX8_law 51 = .ok (.invokevirtual 104, 3) := by decide +kernel
theorem dX8_law_54 : decode cX8_law 54 = .ok (.aload_n 0, 1) := by decide +kernel
theorem dX8_law_55 : decode cX8_law 55 = .ok (.getfield 30, 3) := by decide +kernel
theorem dX8_law_58 : decode cX8_law 58 = .ok (.getfield 108, 3) := by decide +kernel
theorem dX8_law_61 : decode cX8_law 61 = .ok (.ireturn, 1) := by decide +kernel
set_option maxRecDepth 20000 in
theorem ggX8_house_X8_isVillage : GoodIn wsX8_house wsX8_isVillage := goodIn_r _ [10, 11, 12, 9, 13] (by decide +kernel) (by decide +kernel)
set_option maxRecDepth 20000 in
theorem gX8_house_X8_isVillage : GoodIn wsX8_house (va_wsS RX8 72 yX8_isVillage wsX8_isVillage) := goodIn_app (goodIn_of _ (by decide +kernel)) ggX8_house_X8_isVillage
set_option maxRecDepth 20000 in
theorem ggX8_house_X8_isHolding : GoodIn wsX8_house wsX8_isHolding := goodIn_r _ [16, 11, 12, 9, 13] (by decide +kernel) (by decide +kernel)
set_option maxRecDepth 20000 in
theorem gX8_house_X8_isHolding : GoodIn wsX8_house (va_wsS RX8 111 yX8_isHolding wsX8_isHolding) := goodIn_app (goodIn_of _ (by decide +kernel)) ggX8_house_X8_isHolding
set_option maxRecDepth 20000 in
theorem ggX8_house_X0_init : GoodIn wsX8_house wsX0_init := goodIn_r _ [19, 20, 21, 22, 23, 24, 25, 26, 27, 28, 29, 30, 31, 32, 33, 34, 35, 36, 37, 38, 39, 40, 41, 42, 43, 58, 59, 60, 61, 62, 63, 64, 65, 66, 67, 68, 69, 70] (by decide +kernel) (by decide +kernel)
set_option maxRecDepth 20000 in
theorem gX8_house_X0_init : GoodIn wsX8_house (wsX0_init) := ggX8_house_X0_init
theorem dX8_house_0 : decode cX8_house 0 = .ok (.iload_n 1, 1) := by decide +kernel
theorem dX8_house_1 : decode cX8_house 1 = .ok (.invokestatic 72, 3) := by decide +kernel
theorem dX8_house_4 : decode cX8_house 4 = .ok (.ifCond .eq 20, 3) := by decide +kernel
theorem dX8_house_7 : decode cX8_house 7 = .ok (.iload_n 2, 1) := by decide +kernel
theorem dX8_house_8 : decode cX8_house 8 = .ok (.iload_n 3, 1) := by decide +kernel
theorem dX8_house_9 : decode cX8_house 9 = .ok (.invokestatic 111, 3) := by decide +kernel
theorem dX8_house_12 : decode cX8_house 12 = .ok (.ifCond .eq 12, 3) := by decide +kernel
theorem dX8_house_15 : decode cX8_house 15 = .ok (.aload_n 0, 1) := by decide +kernel
theorem dX8_house_16 : decode cX8_house 16 = .ok (.getfield 49, 3) := by decide +kernel
theorem dX8_house_19 : decode cX8_house 19 = .ok (.bipush 40, 2) := by decide +kernel
theorem dX8_house_21 : decode cX8_house 21 = .ok (.if_icmp .lt 5, 3) := by decide +kernel
theorem dX8_house_24 : decode cX8_house 24 = .ok (.iconst (-1), 1) := by decide +kernel
theorem dX8_house_25 : decode cX8_house 25 = .ok (.ireturn, 1) := by decide +kernel
theorem dX8_house_26 : decode cX8_house 26 = .ok (.aload_n 0, 1) := by decide +kernel
theorem dX8_house_27 : decode cX8_house 27 = .ok (.getfield 23, 3) := by decide +kernel
theorem dX8_house_30 : decode cX8_house 30 = .ok (.aload_n 0, 1) := by decide +kernel
theorem dX8_house_31 : decode cX8_house 31 = .ok (.getfield 49, 3) := by decide +kernel
theorem dX8_house_34 : decode cX8_house 34 = .ok (.new 21, 3) := by decide +kernel
theorem dX8_house_37 : decode cX8_house 37 = .ok (.dup, 1) := by decide +kernel
theorem dX8_house_38 : decode cX8_house 38 = .ok (.iload_n 1, 1) := by decide +kernel
theorem dX8_house_39 : decode cX8_house 39 = .ok (.aload_n 0, 1) := by decide +kernel
theorem dX8_house_40 : decode cX8_house 40 = .ok (.getfield 45, 3) := by decide +kernel
theorem dX8_house_43 : decode cX8_house 43 = .ok (.iload_n 2, 1) := by decide +kernel
theorem dX8_house_44 : decode cX8_house 44 = .ok (.iload_n 3, 1) := by decide +kernel
theorem dX8_house_45 : decode cX8_house 45 = .ok (.invokespecial 114, 3) := by decide +kernel
theorem dX8_house_48 : decode cX8_house 48 = .ok (.aastore, 1) := by decide +kernel
theorem dX8_house_49 : decode cX8_house 49 = .ok (.aload_n 0, 1) := by decide +kernel
theorem dX8_house_50 : decode cX8_house 50 = .ok (.dup, 1) := by decide +kernel
theorem dX8_house_51 : decode cX8_house 51 = .ok (.getfield 49, 3) := by decide +kernel
theorem dX8_house_54 : decode cX8_house 54 = .ok (.iconst 1, 1) := by decide +kernel
theorem dX8_house_55 : decode cX8_house 55 = .ok (.iadd, 1) := by decide +kernel
theorem dX8_house_56 : decode cX8_house 56 = .ok (.putfield 49, 3) := by decide +kernel
theorem dX8_house_59 : decode cX8_house 59 = .ok (.aload_n 0, 1) := by decide +kernel
theorem dX8_house_60 : decode cX8_house 60 = .ok (.getfield 49, 3) := by decide +kernel
theorem dX8_house_63 : decode cX8_house 63 = .ok (.iconst 1, 1) := by decide +kernel
theorem dX8_house_64 : decode cX8_house 64 = .ok (.isub, 1) := by decide +kernel
theorem dX8_house_65 : decode cX8_house 65 = .ok (.ireturn, 1) := by decide +kernel
set_option maxRecDepth 20000 in
theorem ggX8_change_X8_isHouse : GoodIn wsX8_change wsX8_isHouse := goodIn_r _ [9, 10, 11, 12, 8, 13, 37, 38, 39, 40, 41, 42, 43, 44, 45, 46, 47, 48, 49, 50] (by decide +kernel) (by decide +kernel)
set_option maxRecDepth 20000 in
theorem gX8_change_X8_isHouse : GoodIn wsX8_change (wsV RX8 117 RX8 yX8_isHouse wsX8_isHouse) := goodIn_app (goodIn_of _ (by decide +kernel)) ggX8_change_X8_isHouse
set_option maxRecDepth 20000 in
theorem ggX8_change_X8_isHolding : GoodIn wsX8_change wsX8_isHolding := goodIn_r _ [16, 11, 12, 8, 13] (by decide +kernel) (by decide +kernel)
set_option maxRecDepth 20000 in
theorem gX8_change_X8_isHolding : GoodIn wsX8_change (va_wsS RX8 111 yX8_isHolding wsX8_isHolding) := goodIn_app (goodIn_of _ (by decide +kernel)) ggX8_change_X8_isHolding
set_option maxRecDepth 20000 in
theorem ggX8_change_X0_learn : GoodIn wsX8_change wsX0_learn := goodIn_r _ [21, 22, 23, 24, 25, 26, 27, 28, 29, 30, 31, 32, 33, 34, 35, 36, 59, 60, 61, 62, 63, 51, 52, 53, 54, 55, 56, 57, 58] (by decide +kernel) (by decide +kernel)
set_option maxRecDepth 20000 in
theorem gX8_change_X0_learn : GoodIn wsX8_change (wsV RX8 123 RX0 yX0_learn wsX0_learn) := goodIn_app (goodIn_of _ (by decide +kernel)) ggX8_change_X0_learn
theorem dX8_change_0 : decode cX8_change 0 = .ok (.aload_n 0, 1) := by decide +kernel
theorem dX8_change_1 : decode cX8_change 1 = .ok (.iload_n 1, 1) := by decide +kernel
theorem dX8_change_2 : decode cX8_change 2 = .ok (.invokevirtual 117, 3) := by decide +kernel
theorem dX8_change_5 : decode cX8_change 5 = .ok (.ifCond .eq 22, 3) := by decide +kernel
theorem dX8_change_8 : decode cX8_change 8 = .ok (.iload_n 3, 1) := by decide +kernel
theorem dX8_change_9 : decode cX8_change 9 = .ok (.iload 4, 2) := by decide +kernel
theorem dX8_change_11 : decode cX8_change 11 = .ok (.invokestatic 111, 3) := by decide +kernel
theorem dX8_change_14 : decode cX8_change 14 = .ok (.ifCond .eq 13, 3) := by decide +kernel
theorem dX8_change_17 : decode cX8_change 17 = .ok (.aload_n 0, 1) := by decide +kernel
theorem dX8_change_18 : decode cX8_change 18 = .ok (.getfield 52, 3) := by decide +kernel
theorem dX8_change_21 : decode cX8_change 21 = .ok (.sipush 200, 3) := by decide +kernel
theorem dX8_change_24 : decode cX8_change 24 = .ok (.if_icmp .lt 5, 3) := by decide +kernel
theorem dX8_change_27 : decode cX8_change 27 = .ok (.iconst 0, 1) := by decide +kernel
theorem dX8_change_28 : decode cX8_change 28 = .ok (.ireturn, 1) := by decide +kernel
theorem dX8_change_29 : decode cX8_change 29 = .ok (.iload_n 2, 1) := by decide +kernel
theorem dX8_change_30 : decode cX8_change 30 = .ok (.aload_n 0, 1) := by decide +kernel
theorem dX8_change_31 : decode cX8_change 31 = .ok (.getfield 45, 3) := by decide +kernel
theorem dX8_change_34 : decode cX8_change 34 = .ok (.if_icmp .gt 16, 3) := by decide +kernel
theorem dX8_change_37 : decode cX8_change 37 = .ok (.iload_n 2, 1) := by decide +kernel
theorem dX8_change_38 : decode cX8_change 38 = .ok (.aload_n 0, 1) := by decide +kernel
theorem dX8_change_39 : decode cX8_change 39 = .ok (.getfield 23, 3) := by decide +kernel
theorem dX8_change_42 : decode cX8_change 42 = .ok (.iload_n 1, 1) := by decide +kernel
theorem dX8_change_43 : decode cX8_change 43 = .ok (.aaload, 1) := by decide +kernel
theorem dX8_change_44 : decode cX8_change 44 = .ok (.getfield 120, 3) := by decide +kernel
theorem dX8_change_47 : decode cX8_change 47 = .ok (.if_icmp .ge 5, 3) := by decide +kernel
theorem dX8_change_50 : decode cX8_change 50 = .ok (.iconst 0, 1) := by decide +kernel
theorem dX8_change_51 : decode cX8_change 51 = .ok (.ireturn, 1) := by decide +kernel
theorem dX8_change_52 : decode cX8_change 52 = .ok (.aload_n 0, 1) := by decide +kernel
theorem dX8_change_53 : decode cX8_change 53 = .ok (.getfield 23, 3) := by decide +kernel
theorem dX8_change_56 : decode cX8_change 56 = .ok (.iload_n 1, 1) := by decide +kernel
theorem dX8_change_57 : decode cX8_change 57 = .ok (.aaload, 1) := by decide +kernel
theorem dX8_change_58 : decode cX8_change 58 = .ok (.aload_n 0, 1) := by decide +kernel
theorem dX8_change_59 : decode cX8_change 59 = .ok (.getfield 45, 3) := by decide +kernel
theorem dX8_change_62 : decode cX8_change 62 = .ok (.iload_n 2, 1) := by decide +kernel
theorem dX8_change_63 : decode cX8_change 63 = .ok (.iload_n 3, 1) := by decide +kernel
theorem dX8_change_64 : decode cX8_change 64 = .ok (.iload 4, 2) := by decide +kernel
theorem dX8_change_66 : decode cX8_change 66 = .ok (.invokevirtual 123, 3) := by decide +kernel
theorem dX8_change_69 : decode cX8_change 69 = .ok (.aload_n 0, 1) := by decide +kernel
theorem dX8_change_70 : decode cX8_change 70 = .ok (.dup, 1) := by decide +kernel
theorem dX8_change_71 : decode cX8_change 71 = .ok (.getfield 52, 3) := by decide +kernel
theorem dX8_change_74 : decode cX8_change 74 = .ok (.iconst 1, 1) := by decide +kernel
theorem dX8_change_75 : decode cX8_change 75 = .ok (.iadd, 1) := by decide +kernel
theorem dX8_change_76 : decode cX8_change 76 = .ok (.putfield 52, 3) := by decide +kernel
theorem dX8_change_79 : decode cX8_change 79 = .ok (.iconst 1, 1) := by decide +kernel
theorem dX8_change_80 : decode cX8_change 80 = .ok (.ireturn, 1) := by decide +kernel
set_option maxRecDepth 20000 in
theorem ggX8_listed_X8_isHouse : GoodIn wsX8_listed wsX8_isHouse := goodIn_r _ [8, 9, 10, 11, 7, 12, 30, 31, 32, 33, 34, 35, 36, 37, 38, 39, 40, 41, 42, 43] (by decide +kernel) (by decide +kernel)
set_option maxRecDepth 20000 in
theorem gX8_listed_X8_isHouse : GoodIn wsX8_listed (wsV RX8 117 RX8 yX8_isHouse wsX8_isHouse) := goodIn_app (goodIn_of _ (by decide +kernel)) ggX8_listed_X8_isHouse
set_option maxRecDepth 20000 in
theorem ggX8_listed_X8_isYearSoFar : GoodIn wsX8_listed wsX8_isYearSoFar := goodIn_r _ [16, 17, 18, 19, 7, 20, 21, 10, 11, 12, 30, 31, 32, 33, 34, 35, 36, 37, 38, 39, 40, 41, 42, 43] (by decide +kernel) (by decide +kernel)
set_option maxRecDepth 20000 in
theorem gX8_listed_X8_isYearSoFar : GoodIn wsX8_listed (wsV RX8 126 RX8 yX8_isYearSoFar wsX8_isYearSoFar) := goodIn_app (goodIn_of _ (by decide +kernel)) ggX8_listed_X8_isYearSoFar
set_option maxRecDepth 20000 in
theorem ggX8_listed_X0_toldAheadOf : GoodIn wsX8_listed wsX0_toldAheadOf := goodIn_r _ [26, 27, 28, 29, 49, 50, 51, 52, 53, 54, 55, 56, 44, 45, 46, 47, 48] (by decide +kernel) (by decide +kernel)
set_option maxRecDepth 20000 in
theorem gX8_listed_X0_toldAheadOf : GoodIn wsX8_listed (wsV RX8 129 RX0 yX0_toldAheadOf wsX0_toldAheadOf) := goodIn_app (goodIn_of _ (by decide +kernel)) ggX8_listed_X0_toldAheadOf
theorem dX8_listed_0 : decode cX8_listed 0 = .ok (.aload_n 0, 1) := by decide +kernel
theorem dX8_listed_1 : decode cX8_listed 1 = .ok (.iload_n 1, 1) := by decide +kernel
theorem dX8_listed_2 : decode cX8_listed 2 = .ok (.invokevirtual 117, 3) := by decide +kernel
theorem dX8_listed_5 : decode cX8_listed 5 = .ok (.ifCond .eq 11, 3) := by decide +kernel
theorem dX8_listed_8 : decode cX8_listed 8 = .ok (.aload_n 0, 1) := by decide +kernel
theorem dX8_listed_9 : decode cX8_listed 9 = .ok (.iload_n 2, 1) := by decide +kernel
theorem dX8_listed_10 : decode cX8_listed 10 = .ok (.invokevirtual 126, 3) := by decide +kernel
theorem dX8_listed_13 : decode cX8_listed 13 = .ok (.ifCond .ne 5, 3) := by decide +kernel
theorem dX8_listed_16 : decode cX8_listed 16 = .ok (.iconst (-1), 1) := by decide +kernel
theorem dX8_listed_17 : decode cX8_listed 17 = .ok (.ireturn, 1) := by decide +kernel
theorem dX8_listed_18 : decode cX8_listed 18 = .ok (.aload_n 0, 1) := by decide +kernel
theorem dX8_listed_19 : decode cX8_listed 19 = .ok (.getfield 23, 3) := by decide +kernel
theorem dX8_listed_22 : decode cX8_listed 22 = .ok (.iload_n 1, 1) := by decide +kernel
theorem dX8_listed_23 : decode cX8_listed 23 = .ok (.aaload, 1) := by decide +kernel
theorem dX8_listed_24 : decode cX8_listed 24 = .ok (.iload_n 2, 1) := by decide +kernel
theorem dX8_listed_25 : decode cX8_listed 25 = .ok (.bipush 52, 2) := by decide +kernel
theorem dX8_listed_27 : decode cX8_listed 27 = .ok (.imul, 1) := by decide +kernel
theorem dX8_listed_28 : decode cX8_listed 28 = .ok (.invokevirtual 129, 3) := by decide +kernel
theorem dX8_listed_31 : decode cX8_listed 31 = .ok (.astore 4, 2) := by decide +kernel
theorem dX8_listed_33 : decode cX8_listed 33 = .ok (.aload 4, 2) := by decide +kernel
theorem dX8_listed_35 : decode cX8_listed 35 = .ok (.ifnonnull 5, 3) := by decide +kernel
theorem dX8_listed_38 : decode cX8_listed 38 = .ok (.iconst (-1), 1) := by decide +kernel
theorem dX8_listed_39 : decode cX8_listed 39 = .ok (.ireturn, 1) := by decide +kernel
theorem dX8_listed_40 : decode cX8_listed 40 = .ok (.iload_n 3, 1) := by decide +kernel
theorem dX8_listed_41 : decode cX8_listed 41 = .ok (.lookupswitch 39 #[(0, 27), (1, 33)], 27) := by decide +kernel
theorem dX8_listed_68 : decode cX8_listed 68 = .ok (.aload 4, 2) := by decide +kernel
theorem dX8_listed_70 : decode cX8_listed 70 = .ok (.getfield 133, 3) := by decide +kernel
theorem dX8_listed_73 : decode cX8_listed 73 = .ok (.ireturn, 1) := by decide +kernel
theorem dX8_listed_74 : decode cX8_listed 74 = .ok (.aload 4, 2) := by decide +kernel
theorem dX8_listed_76 : decode cX8_listed 76 = .ok (.getfield 138, 3) := by decide +kernel
theorem dX8_listed_79 : decode cX8_listed 79 = .ok (.ireturn, 1) := by decide +kernel
theorem dX8_listed_80 : decode cX8_listed 80 = .ok (.iconst (-1), 1) := by decide +kernel
theorem dX8_listed_81 : decode cX8_listed 81 = .ok (.ireturn, 1) := by decide +kernel
set_option maxRecDepth 20000 in
theorem ggX8_owed_X8_isHouse : GoodIn wsX8_owed wsX8_isHouse := goodIn_r _ [6, 7, 8, 9, 5, 10, 52, 53, 54, 55, 56, 57, 58, 59, 60, 61, 62, 63, 64, 65] (by decide +kernel) (by decide +kernel)
set_option maxRecDepth 20000 in
theorem gX8_owed_X8_isHouse : GoodIn wsX8_owed (wsV RX8 117 RX8 yX8_isHouse wsX8_isHouse) := goodIn_app (goodIn_of _ (by decide +kernel)) ggX8_owed_X8_isHouse
set_option maxRecDepth 20000 in
theorem ggX8_owed_X8_isYearSoFar : GoodIn wsX8_owed wsX8_isYearSoFar := goodIn_r _ [14, 15, 16, 17, 5, 18, 19, 8, 9, 10, 52, 53, 54, 55, 56, 57, 58, 59, 60, 61, 62, 63, 64, 65] (by decide +kernel) (by decide +kernel)
set_option maxRecDepth 20000 in
theorem gX8_owed_X8_isYearSoFar : GoodIn wsX8_owed (wsV RX8 126 RX8 yX8_isYearSoFar wsX8_isYearSoFar) := goodIn_app (goodIn_of _ (by decide +kernel)) ggX8_owed_X8_isYearSoFar
set_option maxRecDepth 20000 in
theorem ggX8_owed_X8_daysOwed : GoodIn wsX8_owed wsX8_daysOwed := goodIn_r _ [23, 24, 25, 26, 27, 28, 29, 30, 31, 32, 33, 34, 35, 36, 37, 38, 39, 40, 41, 42, 43, 44, 45, 46, 47, 48, 49, 50, 51, 52, 53, 54, 55, 56, 57, 58, 59, 60, 61, 62, 63, 64, 65, 66, 67, 68, 69, 70, 71, 72, 73, 74, 75, 76, 77, 78, 79, 80, 81, 82, 83, 84, 85, 86] (by decide +kernel) (by decide +kernel)
set_option maxRecDepth 20000 in
theorem gX8_owed_X8_daysOwed : GoodIn wsX8_owed (wsV RX8 141 RX8 yX8_daysOwed wsX8_daysOwed) := goodIn_app (goodIn_of _ (by decide +kernel)) ggX8_owed_X8_daysOwed
theorem dX8_owed_0 : decode cX8_owed 0 = .ok (.aload_n 0, 1) := by decide +kernel
theorem dX8_owed_1 : decode cX8_owed 1 = .ok (.iload_n 1, 1) := by decide +kernel
theorem dX8_owed_2 : decode cX8_owed 2 = .ok (.invokevirtual 117, 3) := by decide +kernel
theorem dX8_owed_5 : decode cX8_owed 5 = .ok (.ifCond .eq 11, 3) := by decide +kernel
theorem dX8_owed_8 : decode cX8_owed 8 = .ok (.aload_n 0, 1) := by decide +kernel
theorem dX8_owed_9 : decode cX8_owed 9 = .ok (.iload_n 2, 1) := by decide +kernel
theorem dX8_owed_10 : decode cX8_owed 10 = .ok (.invokevirtual 126, 3) := by decide +kernel
theorem dX8_owed_13 : decode cX8_owed 13 = .ok (.ifCond .ne 5, 3) := by decide +kernel
theorem dX8_owed_16 : decode cX8_owed 16 = .ok (.iconst (-1), 1) := by decide +kernel
theorem dX8_owed_17 : decode cX8_owed 17 = .ok (.ireturn, 1) := by decide +kernel
theorem dX8_owed_18 : decode cX8_owed 18 = .ok (.aload_n 0, 1) := by decide +kernel
theorem dX8_owed_19 : decode cX8_owed 19 = .ok (.aload_n 0, 1) := by decide +kernel
theorem dX8_owed_20 : decode cX8_owed 20 = .ok (.getfield 23, 3) := by decide +kernel
theorem dX8_owed_23 : decode cX8_owed 23 = .ok (.iload_n 1, 1) := by decide +kernel
theorem dX8_owed_24 : decode cX8_owed 24 = .ok (.aaload, 1) := by decide +kernel
theorem dX8_owed_25 : decode cX8_owed 25 = .ok (.iload_n 2, 1) := by decide +kernel
theorem dX8_owed_26 : decode cX8_owed 26 = .ok (.invokevirtual 141, 3) := by decide +kernel
theorem dX8_owed_29 : decode cX8_owed 29 = .ok (.ireturn, 1) := by decide +kernel
set_option maxRecDepth 20000 in
theorem ggX8_work_X8_isHouse : GoodIn wsX8_work wsX8_isHouse := goodIn_r _ [15, 16, 17, 18, 14, 19, 113, 114, 115, 116, 117, 118, 119, 120, 121, 122, 123, 124, 125, 126] (by decide +kernel) (by decide +kernel)
set_option maxRecDepth 20000 in
theorem gX8_work_X8_isHouse : GoodIn wsX8_work (wsV RX8 117 RX8 yX8_isHouse wsX8_isHouse) := goodIn_app (goodIn_of _ (by decide +kernel)) ggX8_work_X8_isHouse
set_option maxRecDepth 20000 in
theorem ggX8_work_X8_isRod : GoodIn wsX8_work wsX8_isRod := goodIn_r _ [22, 17, 18, 14, 19] (by decide +kernel) (by decide +kernel)
set_option maxRecDepth 20000 in
theorem gX8_work_X8_isRod : GoodIn wsX8_work (va_wsS RX8 83 yX8_isRod wsX8_isRod) := goodIn_app (goodIn_of _ (by decide +kernel)) ggX8_work_X8_isRod
set_option maxRecDepth 20000 in
theorem ggX8_work_X8_yearNow : GoodIn wsX8_work wsX8_yearNow := goodIn_r _ [26, 1, 113, 114, 115, 116, 117, 118, 119, 120, 121, 122, 123, 124, 125, 126] (by decide +kernel) (by decide +kernel)
set_option maxRecDepth 20000 in
theorem gX8_work_X8_yearNow : GoodIn wsX8_work (wsV RX8 145 RX8 yX8_yearNow wsX8_yearNow) := goodIn_app (goodIn_of _ (by decide +kernel)) ggX8_work_X8_yearNow
set_option maxRecDepth 20000 in
theorem ggX8_work_X8_daysOwedYet : GoodIn wsX8_work wsX8_daysOwedYet := goodIn_r _ [30, 31, 32, 33, 34, 35, 36, 37, 14, 38, 39, 40, 41, 42, 43, 44, 45, 46, 47, 48, 49, 50, 51, 52, 53, 54, 55, 56, 57, 58, 59, 60, 61, 62, 63, 64, 65, 66, 67, 68, 69, 70, 71, 72, 73, 113, 114, 115, 116, 117, 118, 119, 120, 121, 122, 123, 124, 125, 126, 127, 128, 129, 130, 131, 132, 133, 134, 135, 136, 137, 138, 139, 140, 141, 142, 143, 144, 145, 146, 147] (by decide +kernel) (by decide +kernel)
set_option maxRecDepth 20000 in
theorem gX8_work_X8_daysOwedYet : GoodIn wsX8_work (wsV RX8 149 RX8 yX8_daysOwedYet wsX8_daysOwedYet) := goodIn_app (goodIn_of _ (by decide +kernel)) ggX8_work_X8_daysOwedYet
set_option maxRecDepth 20000 in
theorem ggX8_work_X8_canSubstitute : GoodIn wsX8_work wsX8_canSubstitute := goodIn_r _ [77, 4, 2, 8, 127, 128, 129, 130, 131, 132, 133, 134, 113, 114, 115, 116, 117, 118, 119, 120, 121, 122, 123, 124, 125, 126] (by decide +kernel) (by decide +kernel)
set_option maxRecDepth 20000 in
theorem gX8_work_X8_canSubstitute : GoodIn wsX8_work (wsV RX8 155 RX8 yX8_canSubstitute wsX8_canSubstitute) := goodIn_app (goodIn_of _ (by decide +kernel)) ggX8_work_X8_canSubstitute
set_option maxRecDepth 20000 in
theorem ggX8_work_X6_addDays : GoodIn wsX8_work wsX6_addDays := goodIn_r _ [82, 83, 84, 85, 86, 87, 88, 89, 90, 91, 92, 93, 94, 95, 96, 97, 148, 149, 150, 151, 152, 153] (by decide +kernel) (by decide +kernel)
set_option maxRecDepth 20000 in
theorem gX8_work_X6_addDays : GoodIn wsX8_work (wsV RX8 171 RX6 yX6_addDays wsX6_addDays) := goodIn_app (goodIn_of _ (by decide +kernel)) ggX8_work_X6_addDays
set_option maxRecDepth 20000 in
theorem ggX8_work_X4_raise : GoodIn wsX8_work wsX4_raise := goodIn_r _ [102, 103, 104, 105, 33, 106, 107, 108, 109, 110, 101, 111, 112, 154, 155, 156, 157, 158] (by decide +kernel) (by decide +kernel)
set_option maxRecDepth 20000 in
theorem gX8_work_X4_raise : GoodIn wsX8_work (wsV RX8 175 RX4 yX4_raise wsX4_raise) := goodIn_app (goodIn_of _ (by decide +kernel)) ggX8_work_X4_raise
theorem dX8_work_0 : decode cX8_work 0 = .ok (.aload_n 0, 1) := by decide +kernel
theorem dX8_work_1 : decode cX8_work 1 = .ok (.iload_n 1, 1) := by decide +kernel
theorem dX8_work_2 : decode cX8_work 2 = .ok (.invokevirtual 117, 3) := by decide +kernel
theorem dX8_work_5 : decode cX8_work 5 = .ok (.ifCond .eq 29, 3) := by decide +kernel
theorem dX8_work_8 : decode cX8_work 8 = .ok (.iload_n 2, 1) := by decide +kernel
theorem dX8_work_9 : decode cX8_work 9 = .ok (.invokestatic 83, 3) := by decide +kernel
theorem dX8_work_12 : decode cX8_work 12 = .ok (.ifCond .eq 22, 3) := by decide +kernel
theorem dX8_work_15 : decode cX8_work 15 = .ok (.aload_n 0, 1) := by decide +kernel
theorem dX8_work_16 : decode cX8_work 16 = .ok (.iload 4, 2) := by decide +kernel
theorem dX8_work_18 : decode cX8_work 18 = .ok (.invokevirtual 117, 3) := by decide +kernel
theorem dX8_work_21 : decode cX8_work 21 = .ok (.ifCond .eq 13, 3) := by decide +kernel
theorem dX8_work_24 : decode cX8_work 24 = .ok (.aload_n 0, 1) := by decide +kernel
theorem dX8_work_25 : decode cX8_work 25 = .ok (.getfield 45, 3) := by decide +kernel
theorem dX8_work_28 : decode cX8_work 28 = .ok (.sipush 1040, 3) := by decide +kernel
theorem dX8_work_31 : decode cX8_work 31 = .ok (.if_icmp .lt 5, 3) := by decide +kernel
theorem dX8_work_34 : decode cX8_work 34 = .ok (.iconst (-1), 1) := by decide +kernel
theorem dX8_work_35 : decode cX8_work 35 = .ok (.ireturn, 1) := by decide +kernel
theorem dX8_work_36 : decode cX8_work 36 = .ok (.aload_n 0, 1) := by decide +kernel
theorem dX8_work_37 : decode cX8_work 37 = .ok (.invokevirtual 145, 3) := by decide +kernel
theorem dX8_work_40 : decode cX8_work 40 = .ok (.istore 5, 2) := by decide +kernel
theorem dX8_work_42 : decode cX8_work 42 = .ok (.aload_n 0, 1) := by decide +kernel
theorem dX8_work_43 : decode cX8_work 43 = .ok (.getfield 23, 3) := by decide +kernel
theorem dX8_work_46 : decode cX8_work 46 = .ok (.iload_n 1, 1) := by decide +kernel
theorem dX8_work_47 : decode cX8_work 47 = .ok (.aaload, 1) := by decide +kernel
theorem dX8_work_48 : decode cX8_work 48 = .ok (.astore 6, 2) := by decide +kernel
theorem dX8_work_50 : decode cX8_work 50 = .ok (.aload_n 0, 1) := by decide +kernel
theorem dX8_work_51 : decode cX8_work 51 = .ok (.getfield 23, 3) := by decide +kernel
theorem dX8_work_54 : decode cX8_work 54 = .ok (.iload 4, 2) := by decide +kernel
theorem dX8_work_56 : decode cX8_work 56 = .ok (.aaload, 1) := by decide +kernel
theorem dX8_work_57 : decode cX8_work 57 = .ok (.astore 7, 2) := by decide +kernel
theorem dX8_work_59 : decode cX8_work 59 = .ok (.iload_n 3, 1) := by decide +kernel
theorem dX8_work_60 : decode cX8_work 60 = .ok (.iconst 1, 1) := by decide +kernel
theorem dX8_work_61 : decode cX8_work 61 = .ok (.if_icmp .lt 15, 3) := by decide +kernel
theorem dX8_work_64 : decode cX8_work 64 = .ok (.iload_n 3, 1) := by decide +kernel
theorem dX8_work_65 : decode cX8_work 65 = .ok (.aload_n 0, 1) := by decide +kernel
theorem dX8_work_66 : decode cX8_work 66 = .ok (.aload 7, 2) := by decide +kernel
theorem dX8_work_68 : decode cX8_work 68 = .ok (.iload 5, 2) := by decide +kernel
theorem dX8_work_70 : decode cX8_work 70 = .ok (.invokevirtual 149, 3) := by decide +kernel
theorem dX8_work_73 : decode cX8_work 73 = .ok (.if_icmp .le 5, 3) := by decide +kernel
theorem dX8_work_76 : decode cX8_work 76 = .ok (.iconst (-1), 1) := by decide +kernel
theorem dX8_work_77 : decode cX8_work 77 = .ok (.ireturn, 1) := by decide +kernel
theorem dX8_work_78 : decode cX8_work 78 = .ok (.iload_n 1, 1) := by decide +kernel
theorem dX8_work_79 : decode cX8_work 79 = .ok (.iload 4, 2) := by decide +kernel
theorem dX8_work_81 : decode cX8_work 81 = .ok (.if_icmp .ne 18, 3) := by decide +kernel
theorem dX8_work_84 : decode cX8_work 84 = .ok (.aload 7, 2) := by decide +kernel
theorem dX8_work_86 : decode cX8_work 86 = .ok (.getfield 152, 3) := by decide +kernel
theorem dX8_work_89 : decode cX8_work 89 = .ok (.iload 5, 2) := by decide +kernel
theorem dX8_work_91 : decode cX8_work 91 = .ok (.dup2, 1) := by decide +kernel
theorem dX8_work_92 : decode cX8_work 92 = .ok (.iaload, 1) := by decide +kernel
theorem dX8_work_93 : decode cX8_work 93 = .ok (.iload_n 3, 1) := by decide +kernel
theorem dX8_work_94 : decode cX8_work 94 = .ok (.iadd, 1) := by decide +kernel
theorem dX8_work_95 : decode cX8_work 95 = .ok (.iastore, 1) := by decide +kernel
theorem dX8_work_96 : decode cX8_work 96 = .ok (.goto 53, 3) := by decide +kernel
theorem dX8_work_99 : decode cX8_work 99 = .ok (.aload_n 0, 1) := by decide +kernel
theorem dX8_work_100 : decode cX8_work 100 = .ok (.iload_n 1, 1) := by decide +kernel
theorem dX8_work_101 : decode cX8_work 101 = .ok (.aload 7, 2) := by decide +kernel
theorem dX8_work_103 : decode cX8_work 103 = .ok (.iload 5, 2) := by decide +kernel
theorem dX8_work_105 : decode cX8_work 105 = .ok (.invokevirtual 155, 3) := by decide +kernel
theorem dX8_work_108 : decode cX8_work 108 = .ok (.ifCond .eq 39, 3) := by decide +kernel
theorem dX8_work_111 : decode cX8_work 111 = .ok (.aload 7, 2) := by decide +kernel
theorem dX8_work_113 : decode cX8_work 113 = .ok (.getfield 159, 3) := by decide +kernel
theorem dX8_work_116 : decode cX8_work 116 = .ok (.iload 5, 2) := by decide +kernel
theorem dX8_work_118 : decode cX8_work 118 = .ok (.iload_n 1, 1) := by decide +kernel
theorem dX8_work_119 : decode cX8_work 119 = .ok (.iastore, 1) := by decide +kernel
theorem dX8_work_120 : decode cX8_work 120 = .ok (.aload 7, 2) := by decide +kernel
theorem dX8_work_122 : decode cX8_work 122 = .ok (.getfield 162, 3) := by decide +kernel
theorem dX8_work_125 : decode cX8_work 125 = .ok (.iload 5, 2) := by decide +kernel
theorem dX8_work_127 : decode cX8_work 127 = .ok (.dup2, 1) := by decide +kernel
theorem dX8_work_128 : decode cX8_work 128 = .ok (.iaload, 1) := by decide +kernel
theorem dX8_work_129 : decode cX8_work 129 = .ok (.iload_n 3, 1) := by decide +kernel
theorem dX8_work_130 : decode cX8_work 130 = .ok (.iadd, 1) := by decide +kernel
theorem dX8_work_131 : decode cX8_work 131 = .ok (.iastore, 1) := by decide +kernel
theorem dX8_work_132 : decode cX8_work 132 = .ok (.aload 6, 2) := by decide +kernel
theorem dX8_work_134 : decode cX8_work 134 = .ok (.getfield 165, 3) := by decide +kernel
theorem dX8_work_137 : decode cX8_work 137 = .ok (.iload 5, 2) := by decide +kernel
theorem dX8_work_139 : decode cX8_work 139 = .ok (.dup2, 1) := by decide +kernel
theorem dX8_work_140 : decode cX8_work 140 = .ok (.iaload, 1) := by decide +kernel
theorem dX8_work_141 : decode cX8_work 141 = .ok (.iload_n 3, 1) := by decide +kernel
theorem dX8_work_142 : decode cX8_work 142 = .ok (.iadd, 1) := by decide +kernel
theorem dX8_work_143 : decode cX8_work 143 = .ok (.iastore, 1) := by decide +kernel
theorem dX8_work_144 : decode cX8_work 144 = .ok (.goto 5, 3) := by decide +kernel
theorem dX8_work_147 : decode cX8_work 147 = .ok (.iconst (-1), 1) := by decide +kernel
theorem dX8_work_148 : decode cX8_work 148 = .ok (.ireturn, 1) := by decide +kernel
theorem dX8_work_149 : decode cX8_work 149 = .ok (.aload_n 0, 1) := by decide +kernel
theorem dX8_work_150 : decode cX8_work 150 = .ok (.getfield 11, 3) := by decide +kernel
theorem dX8_work_153 : decode cX8_work 153 = .ok (.aload 6, 2) := by decide +kernel
theorem dX8_work_155 : decode cX8_work 155 = .ok (.getfield 168, 3) := by decide +kernel
theorem dX8_work_158 : decode cX8_work 158 = .ok (.aaload, 1) := by decide +kernel
theorem dX8_work_159 : decode cX8_work 159 = .ok (.aload_n 0, 1) := by decide +kernel
theorem dX8_work_160 : decode cX8_work 160 = .ok (.getfield 45, 3) := by decide +kernel
theorem dX8_work_163 : decode cX8_work 163 = .ok (.iload_n 3, 1) := by decide +kernel
theorem dX8_work_164 : decode cX8_work 164 = .ok (.invokevirtual 171, 3) := by decide +kernel
theorem dX8_work_167 : decode cX8_work 167 = .ok (.aload_n 0, 1) := by decide +kernel
theorem dX8_work_168 : decode cX8_work 168 = .ok (.getfield 17, 3) := by decide +kernel
theorem dX8_work_171 : decode cX8_work 171 = .ok (.iload_n 2, 1) := by decide +kernel
theorem dX8_work_172 : decode cX8_work 172 = .ok (.aaload, 1) := by decide +kernel
theorem dX8_work_173 : decode cX8_work 173 = .ok (.iload_n 3, 1) := by decide +kernel
theorem dX8_work_174 : decode cX8_work 174 = .ok (.invokevirtual 175, 3) := by decide +kernel
theorem dX8_work_177 : decode cX8_work 177 = .ok (.aload_n 0, 1) := by decide +kernel
theorem dX8_work_178 : decode cX8_work 178 = .ok (.dup, 1) := by decide +kernel
theorem dX8_work_179 : decode cX8_work 179 = .ok (.getfield 61, 3) := by decide +kernel
theorem dX8_work_182 : decode cX8_work 182 = .ok (.iload_n 3, 1) := by decide +kernel
theorem dX8_work_183 : decode cX8_work 183 = .ok (.iadd, 1) := by decide +kernel
theorem dX8_work_184 : decode cX8_work 184 = .ok (.putfield 61, 3) := by decide +kernel
theorem dX8_work_187 : decode cX8_work 187 = .ok (.aload_n 0, 1) := by decide +kernel
theorem dX8_work_188 : decode cX8_work 188 = .ok (.aload 7, 2) := by decide +kernel
theorem dX8_work_190 : decode cX8_work 190 = .ok (.iload 5, 2) := by decide +kernel
theorem dX8_work_192 : decode cX8_work 192 = .ok (.invokevirtual 149, 3) := by decide +kernel
theorem dX8_work_195 : decode cX8_work 195 = .ok (.ireturn, 1) := by decide +kernel
set_option maxRecDepth 20000 in
theorem ggX8_buy_X8_isHouse : GoodIn wsX8_buy wsX8_isHouse := goodIn_r _ [12, 13, 14, 15, 11, 16, 67, 68, 69, 70, 71, 72, 73, 74, 75, 76, 77, 78, 79, 80] (by decide +kernel) (by decide +kernel)
set_option maxRecDepth 20000 in
theorem gX8_buy_X8_isHouse : GoodIn wsX8_buy (wsV RX8 117 RX8 yX8_isHouse wsX8_isHouse) := goodIn_app (goodIn_of _ (by decide +kernel)) ggX8_buy_X8_isHouse
set_option maxRecDepth 20000 in
theorem ggX8_buy_X8_yearNow : GoodIn wsX8_buy wsX8_yearNow := goodIn_r _ [20, 1, 67, 68, 69, 70, 71, 72, 73, 74, 75, 76, 77, 78, 79, 80] (by decide +kernel) (by decide +kernel)
set_option maxRecDepth 20000 in
theorem gX8_buy_X8_yearNow : GoodIn wsX8_buy (wsV RX8 145 RX8 yX8_yearNow wsX8_yearNow) := goodIn_app (goodIn_of _ (by decide +kernel)) ggX8_buy_X8_yearNow
set_option maxRecDepth 20000 in
theorem ggX8_buy_X8_daysOwedYet : GoodIn wsX8_buy wsX8_daysOwedYet := goodIn_r _ [24, 25, 26, 27, 28, 29, 30, 31, 11, 32, 6, 33, 34, 35, 36, 37, 38, 39, 40, 41, 42, 43, 44, 45, 46, 47, 48, 49, 50, 51, 52, 53, 54, 55, 56, 57, 58, 59, 60, 61, 62, 63, 64, 65, 66, 67, 68, 69, 70, 71, 72, 73, 74, 75, 76, 77, 78, 79, 80, 81, 82, 83, 84, 85, 86, 87, 88, 94, 95, 96, 97, 98, 99, 100, 101, 89, 90, 91, 92, 93] (by decide +kernel) (by decide +kernel)
set_option maxRecDepth 20000 in
theorem gX8_buy_X8_daysOwedYet : GoodIn wsX8_buy (wsV RX8 149 RX8 yX8_daysOwedYet wsX8_daysOwedYet) := goodIn_app (goodIn_of _ (by decide +kernel)) ggX8_buy_X8_daysOwedYet
set_option maxRecDepth 20000 in
theorem ggX8_buy_X2_ofYear : GoodIn wsX8_buy wsX2_ofYear := goodIn_r _ [45, 46, 47, 48, 49, 99, 100, 101, 89, 90, 91, 92, 93] (by decide +kernel) (by decide +kernel)
set_option maxRecDepth 20000 in
theorem gX8_buy_X2_ofYear : GoodIn wsX8_buy (wsV RX8 182 RX2 yX2_ofYear wsX2_ofYear) := goodIn_app (goodIn_of _ (by decide +kernel)) ggX8_buy_X2_ofYear
theorem dX8_buy_0 : decode cX8_buy 0 = .ok (.aload_n 0, 1) := by decide +kernel
theorem dX8_buy_1 : decode cX8_buy 1 = .ok (.iload_n 1, 1) := by decide +kernel
theorem dX8_buy_2 : decode cX8_buy 2 = .ok (.invokevirtual 117, 3) := by decide +kernel
theorem dX8_buy_5 : decode cX8_buy 5 = .ok (.ifCond .eq 13, 3) := by decide +kernel
theorem dX8_buy_8 : decode cX8_buy 8 = .ok (.aload_n 0, 1) := by decide +kernel
theorem dX8_buy_9 : decode cX8_buy 9 = .ok (.getfield 45, 3) := by decide +kernel
theorem dX8_buy_12 : decode cX8_buy 12 = .ok (.sipush 1040, 3) := by decide +kernel
theorem dX8_buy_15 : decode cX8_buy 15 = .ok (.if_icmp .lt 5, 3) := by decide +kernel
theorem dX8_buy_18 : decode cX8_buy 18 = .ok (.iconst (-1), 1) := by decide +kernel
theorem dX8_buy_19 : decode cX8_buy 19 = .ok (.ireturn, 1) := by decide +kernel
theorem dX8_buy_20 : decode cX8_buy 20 = .ok (.aload_n 0, 1) := by decide +kernel
theorem dX8_buy_21 : decode cX8_buy 21 = .ok (.invokevirtual 145, 3) := by decide +kernel
theorem dX8_buy_24 : decode cX8_buy 24 = .ok (.istore_n 3, 1) := by decide +kernel
theorem dX8_buy_25 : decode cX8_buy 25 = .ok (.iload_n 2, 1) := by decide +kernel
theorem dX8_buy_26 : decode cX8_buy 26 = .ok (.iconst 1, 1) := by decide +kernel
theorem dX8_buy_27 : decode cX8_buy 27 = .ok (.if_icmp .lt 18, 3) := by decide +kernel
theorem dX8_buy_30 : decode cX8_buy 30 = .ok (.iload_n 2, 1) := by decide +kernel
theorem dX8_buy_31 : decode cX8_buy 31 = .ok (.aload_n 0, 1) := by decide +kernel
theorem dX8_buy_32 : decode cX8_buy 32 = .ok (.aload_n 0, 1) := by decide +kernel
theorem dX8_buy_33 : decode cX8_buy 33 = .ok (.getfield 23, 3) := by decide +kernel
theorem dX8_buy_36 : decode cX8_buy 36 = .ok (.iload_n 1, 1) := by decide +kernel
theorem dX8_buy_37 : decode cX8_buy 37 = .ok (.aaload, 1) := by decide +kernel
theorem dX8_buy_38 : decode cX8_buy 38 = .ok (.iload_n 3, 1) := by decide +kernel
theorem dX8_buy_39 : decode cX8_buy 39 = .ok (.invokevirtual 149, 3) := by decide +kernel
theorem dX8_buy_42 : decode cX8_buy 42 = .ok (.if_icmp .le 5, 3) := by decide +kernel
theorem dX8_buy_45 : decode cX8_buy 45 = .ok (.iconst (-1), 1) := by decide +kernel
theorem dX8_buy_46 : decode cX8_buy 46 = .ok (.ireturn, 1) := by decide +kernel
theorem dX8_buy_47 : decode cX8_buy 47 = .ok (.aload_n 0, 1) := by decide +kernel
theorem dX8_buy_48 : decode cX8_buy 48 = .ok (.getfield 23, 3) := by decide +kernel
theorem dX8_buy_51 : decode cX8_buy 51 = .ok (.iload_n 1, 1) := by decide +kernel
theorem dX8_buy_52 : decode cX8_buy 52 = .ok (.aaload, 1) := by decide +kernel
theorem dX8_buy_53 : decode cX8_buy 53 = .ok (.getfield 179, 3) := by decide +kernel
theorem dX8_buy_56 : decode cX8_buy 56 = .ok (.iload_n 3, 1) := by decide +kernel
theorem dX8_buy_57 : decode cX8_buy 57 = .ok (.dup2, 1) := by decide +kernel
theorem dX8_buy_58 : decode cX8_buy 58 = .ok (.iaload, 1) := by decide +kernel
theorem dX8_buy_59 : decode cX8_buy 59 = .ok (.iload_n 2, 1) := by decide +kernel
theorem dX8_buy_60 : decode cX8_buy 60 = .ok (.iadd, 1) := by decide +kernel
theorem dX8_buy_61 : decode cX8_buy 61 = .ok (.iastore, 1) := by decide +kernel
theorem dX8_buy_62 : decode cX8_buy 62 = .ok (.aload_n 0, 1) := by decide +kernel
theorem dX8_buy_63 : decode cX8_buy 63 = .ok (.dup, 1) := by decide +kernel
theorem dX8_buy_64 : decode cX8_buy 64 = .ok (.getfield 64, 3) := by decide +kernel
theorem dX8_buy_67 : decode cX8_buy 67 = .ok (.iload_n 2, 1) := by decide +kernel
theorem dX8_buy_68 : decode cX8_buy 68 = .ok (.iadd, 1) := by decide +kernel
theorem dX8_buy_69 : decode cX8_buy 69 = .ok (.putfield 64, 3) := by decide +kernel
theorem dX8_buy_72 : decode cX8_buy 72 = .ok (.aload_n 0, 1) := by decide +kernel
theorem dX8_buy_73 : decode cX8_buy 73 = .ok (.dup, 1) := by decide +kernel
theorem dX8_buy_74 : decode cX8_buy 74 = .ok (.getfield 55, 3) := by decide +kernel
theorem dX8_buy_77 : decode cX8_buy 77 = .ok (.iload_n 2, 1) := by decide +kernel
theorem dX8_buy_78 : decode cX8_buy 78 = .ok (.aload_n 0, 1) := by decide +kernel
theorem dX8_buy_79 : decode cX8_buy 79 = .ok (.getfield 30, 3) := by decide +kernel
theorem dX8_buy_82 : decode cX8_buy 82 = .ok (.iload_n 3, 1) := by decide +kernel
theorem dX8_buy_83 : decode cX8_buy 83 = .ok (.invokevirtual 182, 3) := by decide +kernel
theorem dX8_buy_86 : decode cX8_buy 86 = .ok (.getfield 186, 3) := by decide +kernel
theorem dX8_buy_89 : decode cX8_buy 89 = .ok (.imul, 1) := by decide +kernel
theorem dX8_buy_90 : decode cX8_buy 90 = .ok (.iadd, 1) := by decide +kernel
theorem dX8_buy_91 : decode cX8_buy 91 = .ok (.putfield 55, 3) := by decide +kernel
theorem dX8_buy_94 : decode cX8_buy 94 = .ok (.aload_n 0, 1) := by decide +kernel
theorem dX8_buy_95 : decode cX8_buy 95 = .ok (.getfield 55, 3) := by decide +kernel
theorem dX8_buy_98 : decode cX8_buy 98 = .ok (.ireturn, 1) := by decide +kernel
set_option maxRecDepth 20000 in
theorem ggX8_hire_X8_isRod : GoodIn wsX8_hire wsX8_isRod := goodIn_r _ [9, 10, 11, 8, 12] (by decide +kernel) (by decide +kernel)
set_option maxRecDepth 20000 in
theorem gX8_hire_X8_isRod : GoodIn wsX8_hire (va_wsS RX8 83 yX8_isRod wsX8_isRod) := goodIn_app (goodIn_of _ (by decide +kernel)) ggX8_hire_X8_isRod
set_option maxRecDepth 20000 in
theorem ggX8_hire_X8_yearNow : GoodIn wsX8_hire wsX8_yearNow := goodIn_r _ [16, 17, 43, 44, 45, 46, 47, 48, 49, 50, 51, 52, 53, 54, 55, 56] (by decide +kernel) (by decide +kernel)
set_option maxRecDepth 20000 in
theorem gX8_hire_X8_yearNow : GoodIn wsX8_hire (wsV RX8 145 RX8 yX8_yearNow wsX8_yearNow) := goodIn_app (goodIn_of _ (by decide +kernel)) ggX8_hire_X8_yearNow
set_option maxRecDepth 20000 in
theorem ggX8_hire_X2_ofYear : GoodIn wsX8_hire wsX2_ofYear := goodIn_r _ [22, 23, 24, 25, 26, 62, 63, 64, 57, 58, 59, 60, 61] (by decide +kernel) (by decide +kernel)
set_option maxRecDepth 20000 in
theorem gX8_hire_X2_ofYear : GoodIn wsX8_hire (wsV RX8 182 RX2 yX2_ofYear wsX2_ofYear) := goodIn_app (goodIn_of _ (by decide +kernel)) ggX8_hire_X2_ofYear
set_option maxRecDepth 20000 in
theorem ggX8_hire_X4_raise : GoodIn wsX8_hire wsX4_raise := goodIn_r _ [31, 32, 33, 34, 35, 36, 37, 38, 39, 40, 30, 41, 42, 65, 66, 67, 68, 69] (by decide +kernel) (by decide +kernel)
set_option maxRecDepth 20000 in
theorem gX8_hire_X4_raise : GoodIn wsX8_hire (wsV RX8 175 RX4 yX4_raise wsX4_raise) := goodIn_app (goodIn_of _ (by decide +kernel)) ggX8_hire_X4_raise
theorem dX8_hire_0 : decode cX8_hire 0 = .ok (.iload_n 1, 1) := by decide +kernel
theorem dX8_hire_1 : decode cX8_hire 1 = .ok (.invokestatic 83, 3) := by decide +kernel
theorem dX8_hire_4 : decode cX8_hire 4 = .ok (.ifCond .eq 15, 3) := by decide +kernel
theorem dX8_hire_7 : decode cX8_hire 7 = .ok (.iload_n 2, 1) := by decide +kernel
theorem dX8_hire_8 : decode cX8_hire 8 = .ok (.iconst 1, 1) := by decide +kernel
theorem dX8_hire_9 : decode cX8_hire 9 = .ok (.if_icmp .lt 10, 3) := by decide +kernel
theorem dX8_hire_12 : decode cX8_hire 12 = .ok (.iload_n 2, 1) := by decide +kernel
theorem dX8_hire_13 : decode cX8_hire 13 = .ok (.sipush 1000, 3) := by decide +kernel
theorem dX8_hire_16 : decode cX8_hire 16 = .ok (.if_icmp .le 5, 3) := by decide +kernel
theorem dX8_hire_19 : decode cX8_hire 19 = .ok (.iconst (-1), 1) := by decide +kernel
theorem dX8_hire_20 : decode cX8_hire 20 = .ok (.ireturn, 1) := by decide +kernel
theorem dX8_hire_21 : decode cX8_hire 21 = .ok (.aload_n 0, 1) := by decide +kernel
theorem dX8_hire_22 : decode cX8_hire 22 = .ok (.getfield 30, 3) := by decide +kernel
theorem dX8_hire_25 : decode cX8_hire 25 = .ok (.aload_n 0, 1) := by decide +kernel
theorem dX8_hire_26 : decode cX8_hire 26 = .ok (.invokevirtual 145, 3) := by decide +kernel
theorem dX8_hire_29 : decode cX8_hire 29 = .ok (.invokevirtual 182, 3) := by decide +kernel

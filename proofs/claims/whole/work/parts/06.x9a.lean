def wsX9_init_r1 : List Cond := [Cond.methodLink RX9 1 objectInit, Cond.instanceMethod objectInit, Cond.code objectInit ⟨#[0xb1]⟩ 1 none, Cond.arrayClass .int, Cond.fieldLink RX9 9 "DikeHandsModel" "mile" "[I", Cond.fieldLink RX9 13 "DikeHandsModel" "height" "[I", Cond.fieldLink RX9 16 "DikeHandsModel" "soil" "[I", Cond.fieldLink RX9 19 "DikeHandsModel" "loss" "[I", Cond.fieldLink RX9 22 "DikeHandsModel" "broke" "[I", Cond.fieldLink RX9 25 "DikeHandsModel" "worked" "[I", Cond.fieldLink RX9 28 "DikeHandsModel" "village" "[I", Cond.fieldLink RX9 31 "DikeHandsModel" "came" "[I", Cond.fieldLink RX9 34 "DikeHandsModel" "firstAcres" "[I", Cond.fieldLink RX9 37 "DikeHandsModel" "firstHands" "[I", Cond.fieldLink RX9 40 "DikeHandsModel" "changeOf" "[I", Cond.fieldLink RX9 43 "DikeHandsModel" "trueFrom" "[I", Cond.fieldLink RX9 46 "DikeHandsModel" "toldAt" "[I", Cond.fieldLink RX9 49 "DikeHandsModel" "acresTo" "[I", Cond.fieldLink RX9 52 "DikeHandsModel" "handsTo" "[I", Cond.fieldLink RX9 55 "DikeHandsModel" "lawYear" "[I", Cond.fieldLink RX9 58 "DikeHandsModel" "lawWhat" "[I", Cond.fieldLink RX9 61 "DikeHandsModel" "lawCoin" "[I", Cond.fieldLink RX9 64 "DikeHandsModel" "own" "[I", Cond.fieldLink RX9 67 "DikeHandsModel" "others" "[I"]
def wsX9_init_r2 : List Cond := [Cond.fieldLink RX9 70 "DikeHandsModel" "bought" "[I", Cond.fieldLink RX9 73 "DikeHandsModel" "forOthers" "[I", Cond.fieldLink RX9 76 "DikeHandsModel" "substitute" "[I", Cond.fieldLink RX9 79 "DikeHandsModel" "did" "[I", Cond.fieldLink RX9 82 "DikeHandsModel" "level" "[I", Cond.fieldLink RX9 85 "DikeHandsModel" "most" "[I"]
def wsX9_init : List Cond := .code yX9_init cX9_init 2 none :: ((wsX9_init_r1 ++ wsX9_init_r2) ++ wsX90)
def wsX9_in : List Cond := .code yX9_in cX9_in 3 (some .boolean) :: ([])
def wsX9_isVillage : List Cond := .code yX9_isVillage cX9_isVillage 1 (some .boolean) :: ([.methodLink RX9 88 yX9_in, .static yX9_in, .initialized RX9, .code yX9_in cX9_in 3 (some .boolean)])
def wsX9_isRod : List Cond := .code yX9_isRod cX9_isRod 1 (some .boolean) :: ([.methodLink RX9 88 yX9_in, .static yX9_in, .initialized RX9, .code yX9_in cX9_in 3 (some .boolean)])
def wsX9_isHouse : List Cond := .code yX9_isHouse cX9_isHouse 2 (some .boolean) :: ([.fieldLink RX9 92 "DikeHandsModel" "houses" "I", .methodLink RX9 88 yX9_in, .static yX9_in, .initialized RX9, .code yX9_in cX9_in 3 (some .boolean)] ++ wsX90)
def wsX9_isYear : List Cond := .code yX9_isYear cX9_isYear 2 (some .boolean) :: ([.fieldLink RX9 96 "DikeHandsModel" "now" "I", .methodLink RX9 88 yX9_in, .static yX9_in, .initialized RX9, .code yX9_in cX9_in 3 (some .boolean)] ++ wsX90)
def wsX9_village : List Cond := .code yX9_village cX9_village 3 (some .boolean) :: ([.fieldLink RX9 9 "DikeHandsModel" "mile" "[I", .methodLink RX9 99 yX9_isVillage, .static yX9_isVillage, .initialized RX9, .code yX9_isVillage cX9_isVillage 1 (some .boolean), .methodLink RX9 88 yX9_in, .static yX9_in, .code yX9_in cX9_in 3 (some .boolean)] ++ wsX90)
def wsX9_rod : List Cond := .code yX9_rod cX9_rod 4 (some .boolean) :: ([.fieldLink RX9 16 "DikeHandsModel" "soil" "[I", .fieldLink RX9 19 "DikeHandsModel" "loss" "[I", .methodLink RX9 103 yX9_isRod, .static yX9_isRod, .initialized RX9, .code yX9_isRod cX9_isRod 1 (some .boolean), .methodLink RX9 88 yX9_in, .static yX9_in, .code yX9_in cX9_in 3 (some .boolean)] ++ wsX90)
def wsX9_law : List Cond := .code yX9_law cX9_law 4 (some .int) :: ([.fieldLink RX9 106 "DikeHandsModel" "laws" "I", .fieldLink RX9 55 "DikeHandsModel" "lawYear" "[I", .fieldLink RX9 58 "DikeHandsModel" "lawWhat" "[I", .fieldLink RX9 61 "DikeHandsModel" "lawCoin" "[I", .methodLink RX9 88 yX9_in, .static yX9_in, .initialized RX9, .code yX9_in cX9_in 3 (some .boolean)] ++ wsX90)
def wsX9_lawOf : List Cond := .code yX9_lawOf cX9_lawOf 4 (some .int) :: ([.fieldLink RX9 106 "DikeHandsModel" "laws" "I", .fieldLink RX9 55 "DikeHandsModel" "lawYear" "[I"] ++ wsX90)
def wsX9_coinNow : List Cond := .code yX9_coinNow cX9_coinNow 2 (some .int) :: ([.fieldLink RX9 96 "DikeHandsModel" "now" "I", .fieldLink RX9 61 "DikeHandsModel" "lawCoin" "[I", .methodLink RX9 109 yX9_lawOf, .instanceMethod yX9_lawOf, .selects RX9 yX9_lawOf yX9_lawOf, .initialized RX9, .code yX9_lawOf cX9_lawOf 4 (some .int), .fieldLink RX9 106 "DikeHandsModel" "laws" "I", .fieldLink RX9 55 "DikeHandsModel" "lawYear" "[I"] ++ wsX90)
def wsX9_house : List Cond := .code yX9_house cX9_house 4 (some .int) :: ([.fieldLink RX9 92 "DikeHandsModel" "houses" "I", .fieldLink RX9 28 "DikeHandsModel" "village" "[I", .fieldLink RX9 31 "DikeHandsModel" "came" "[I", .fieldLink RX9 96 "DikeHandsModel" "now" "I", .fieldLink RX9 34 "DikeHandsModel" "firstAcres" "[I", .fieldLink RX9 37 "DikeHandsModel" "firstHands" "[I", .methodLink RX9 99 yX9_isVillage, .static yX9_isVillage, .initialized RX9, .code yX9_isVillage cX9_isVillage 1 (some .boolean), .methodLink RX9 88 yX9_in, .static yX9_in, .code yX9_in cX9_in 3 (some .boolean)] ++ wsX90)
def wsX9_change : List Cond := .code yX9_change cX9_change 5 (some .boolean) :: ([.fieldLink RX9 31 "DikeHandsModel" "came" "[I", .fieldLink RX9 96 "DikeHandsModel" "now" "I", .fieldLink RX9 116 "DikeHandsModel" "changes" "I", .fieldLink RX9 40 "DikeHandsModel" "changeOf" "[I", .fieldLink RX9 43 "DikeHandsModel" "trueFrom" "[I", .fieldLink RX9 46 "DikeHandsModel" "toldAt" "[I", .fieldLink RX9 49 "DikeHandsModel" "acresTo" "[I", .fieldLink RX9 52 "DikeHandsModel" "handsTo" "[I", .methodLink RX9 113 yX9_isHouse, .instanceMethod yX9_isHouse, .selects RX9 yX9_isHouse yX9_isHouse, .initialized RX9, .code yX9_isHouse cX9_isHouse 2 (some .boolean), .fieldLink RX9 92 "DikeHandsModel" "houses" "I", .methodLink RX9 88 yX9_in, .static yX9_in, .code yX9_in cX9_in 3 (some .boolean)] ++ wsX90)
def wsX9_isListed : List Cond := .code yX9_isListed cX9_isListed 3 (some .boolean) :: ([.fieldLink RX9 31 "DikeHandsModel" "came" "[I"] ++ wsX90)
def wsX9_listedOf : List Cond := .code yX9_listedOf cX9_listedOf 6 (some .int) :: ([.fieldLink RX9 34 "DikeHandsModel" "firstAcres" "[I", .fieldLink RX9 37 "DikeHandsModel" "firstHands" "[I", .fieldLink RX9 116 "DikeHandsModel" "changes" "I", .fieldLink RX9 40 "DikeHandsModel" "changeOf" "[I", .fieldLink RX9 46 "DikeHandsModel" "toldAt" "[I", .fieldLink RX9 49 "DikeHandsModel" "acresTo" "[I", .fieldLink RX9 52 "DikeHandsModel" "handsTo" "[I"] ++ wsX90)
def wsX9_listed_r1 : List Cond := [Cond.methodLink RX9 113 yX9_isHouse, Cond.instanceMethod yX9_isHouse, Cond.selects RX9 yX9_isHouse yX9_isHouse, Cond.initialized RX9, Cond.code yX9_isHouse cX9_isHouse 2 (some .boolean), Cond.fieldLink RX9 92 "DikeHandsModel" "houses" "I", Cond.methodLink RX9 88 yX9_in, Cond.static yX9_in, Cond.code yX9_in cX9_in 3 (some .boolean), Cond.methodLink RX9 119 yX9_isYear, Cond.instanceMethod yX9_isYear, Cond.selects RX9 yX9_isYear yX9_isYear, Cond.code yX9_isYear cX9_isYear 2 (some .boolean), Cond.fieldLink RX9 96 "DikeHandsModel" "now" "I", Cond.methodLink RX9 122 yX9_isListed, Cond.instanceMethod yX9_isListed, Cond.selects RX9 yX9_isListed yX9_isListed, Cond.code yX9_isListed cX9_isListed 3 (some .boolean), Cond.fieldLink RX9 31 "DikeHandsModel" "came" "[I", Cond.methodLink RX9 126 yX9_listedOf, Cond.instanceMethod yX9_listedOf, Cond.selects RX9 yX9_listedOf yX9_listedOf, Cond.code yX9_listedOf cX9_listedOf 6 (some .int), Cond.fieldLink RX9 34 "DikeHandsModel" "firstAcres" "[I"]
def wsX9_listed_r2 : List Cond := [Cond.fieldLink RX9 37 "DikeHandsModel" "firstHands" "[I", Cond.fieldLink RX9 116 "DikeHandsModel" "changes" "I", Cond.fieldLink RX9 40 "DikeHandsModel" "changeOf" "[I", Cond.fieldLink RX9 46 "DikeHandsModel" "toldAt" "[I", Cond.fieldLink RX9 49 "DikeHandsModel" "acresTo" "[I", Cond.fieldLink RX9 52 "DikeHandsModel" "handsTo" "[I"]
def wsX9_listed : List Cond := .code yX9_listed cX9_listed 4 (some .int) :: ((wsX9_listed_r1 ++ wsX9_listed_r2) ++ wsX90)
def wsX9_trueHands : List Cond := .code yX9_trueHands cX9_trueHands 6 (some .int) :: ([.fieldLink RX9 31 "DikeHandsModel" "came" "[I", .fieldLink RX9 37 "DikeHandsModel" "firstHands" "[I", .fieldLink RX9 116 "DikeHandsModel" "changes" "I", .fieldLink RX9 40 "DikeHandsModel" "changeOf" "[I", .fieldLink RX9 43 "DikeHandsModel" "trueFrom" "[I", .fieldLink RX9 52 "DikeHandsModel" "handsTo" "[I"] ++ wsX90)
def wsX9_villageHands : List Cond := .code yX9_villageHands cX9_villageHands 5 (some .int) :: ([.fieldLink RX9 92 "DikeHandsModel" "houses" "I", .fieldLink RX9 28 "DikeHandsModel" "village" "[I", .methodLink RX9 130 yX9_trueHands, .instanceMethod yX9_trueHands, .selects RX9 yX9_trueHands yX9_trueHands, .initialized RX9, .code yX9_trueHands cX9_trueHands 6 (some .int), .fieldLink RX9 31 "DikeHandsModel" "came" "[I", .fieldLink RX9 37 "DikeHandsModel" "firstHands" "[I", .fieldLink RX9 116 "DikeHandsModel" "changes" "I", .fieldLink RX9 40 "DikeHandsModel" "changeOf" "[I", .fieldLink RX9 43 "DikeHandsModel" "trueFrom" "[I", .fieldLink RX9 52 "DikeHandsModel" "handsTo" "[I"] ++ wsX90)
def wsX9_owedOf : List Cond := .code yX9_owedOf cX9_owedOf 5 (some .int) :: ([.fieldLink RX9 58 "DikeHandsModel" "lawWhat" "[I", .methodLink RX9 109 yX9_lawOf, .instanceMethod yX9_lawOf, .selects RX9 yX9_lawOf yX9_lawOf, .initialized RX9, .code yX9_lawOf cX9_lawOf 4 (some .int), .fieldLink RX9 106 "DikeHandsModel" "laws" "I", .fieldLink RX9 55 "DikeHandsModel" "lawYear" "[I", .methodLink RX9 122 yX9_isListed, .instanceMethod yX9_isListed, .selects RX9 yX9_isListed yX9_isListed, .code yX9_isListed cX9_isListed 3 (some .boolean), .fieldLink RX9 31 "DikeHandsModel" "came" "[I", .methodLink RX9 126 yX9_listedOf, .instanceMethod yX9_listedOf, .selects RX9 yX9_listedOf yX9_listedOf, .code yX9_listedOf cX9_listedOf 6 (some .int), .fieldLink RX9 34 "DikeHandsModel" "firstAcres" "[I", .fieldLink RX9 37 "DikeHandsModel" "firstHands" "[I", .fieldLink RX9 116 "DikeHandsModel" "changes" "I", .fieldLink RX9 40 "DikeHandsModel" "changeOf" "[I", .fieldLink RX9 46 "DikeHandsModel" "toldAt" "[I", .fieldLink RX9 49 "DikeHandsModel" "acresTo" "[I", .fieldLink RX9 52 "DikeHandsModel" "handsTo" "[I"] ++ wsX90)
def wsX9_owed_r1 : List Cond := [Cond.methodLink RX9 113 yX9_isHouse, Cond.instanceMethod yX9_isHouse, Cond.selects RX9 yX9_isHouse yX9_isHouse, Cond.initialized RX9, Cond.code yX9_isHouse cX9_isHouse 2 (some .boolean), Cond.fieldLink RX9 92 "DikeHandsModel" "houses" "I", Cond.methodLink RX9 88 yX9_in, Cond.static yX9_in, Cond.code yX9_in cX9_in 3 (some .boolean), Cond.methodLink RX9 119 yX9_isYear, Cond.instanceMethod yX9_isYear, Cond.selects RX9 yX9_isYear yX9_isYear, Cond.code yX9_isYear cX9_isYear 2 (some .boolean), Cond.fieldLink RX9 96 "DikeHandsModel" "now" "I", Cond.methodLink RX9 134 yX9_owedOf, Cond.instanceMethod yX9_owedOf, Cond.selects RX9 yX9_owedOf yX9_owedOf, Cond.code yX9_owedOf cX9_owedOf 5 (some .int), Cond.fieldLink RX9 58 "DikeHandsModel" "lawWhat" "[I", Cond.methodLink RX9 109 yX9_lawOf, Cond.instanceMethod yX9_lawOf, Cond.selects RX9 yX9_lawOf yX9_lawOf, Cond.code yX9_lawOf cX9_lawOf 4 (some .int), Cond.fieldLink RX9 106 "DikeHandsModel" "laws" "I"]
def wsX9_owed_r2 : List Cond := [Cond.fieldLink RX9 55 "DikeHandsModel" "lawYear" "[I", Cond.methodLink RX9 122 yX9_isListed, Cond.instanceMethod yX9_isListed, Cond.selects RX9 yX9_isListed yX9_isListed, Cond.code yX9_isListed cX9_isListed 3 (some .boolean), Cond.fieldLink RX9 31 "DikeHandsModel" "came" "[I", Cond.methodLink RX9 126 yX9_listedOf, Cond.instanceMethod yX9_listedOf, Cond.selects RX9 yX9_listedOf yX9_listedOf, Cond.code yX9_listedOf cX9_listedOf 6 (some .int), Cond.fieldLink RX9 34 "DikeHandsModel" "firstAcres" "[I", Cond.fieldLink RX9 37 "DikeHandsModel" "firstHands" "[I", Cond.fieldLink RX9 116 "DikeHandsModel" "changes" "I", Cond.fieldLink RX9 40 "DikeHandsModel" "changeOf" "[I", Cond.fieldLink RX9 46 "DikeHandsModel" "toldAt" "[I", Cond.fieldLink RX9 49 "DikeHandsModel" "acresTo" "[I", Cond.fieldLink RX9 52 "DikeHandsModel" "handsTo" "[I"]
def wsX9_owed : List Cond := .code yX9_owed cX9_owed 3 (some .int) :: ((wsX9_owed_r1 ++ wsX9_owed_r2) ++ wsX90)
def wsX9_yet_r1 : List Cond := [Cond.fieldLink RX9 64 "DikeHandsModel" "own" "[I", Cond.fieldLink RX9 67 "DikeHandsModel" "others" "[I", Cond.fieldLink RX9 70 "DikeHandsModel" "bought" "[I", Cond.methodLink RX9 134 yX9_owedOf, Cond.instanceMethod yX9_owedOf, Cond.selects RX9 yX9_owedOf yX9_owedOf, Cond.initialized RX9, Cond.code yX9_owedOf cX9_owedOf 5 (some .int), Cond.fieldLink RX9 58 "DikeHandsModel" "lawWhat" "[I", Cond.methodLink RX9 109 yX9_lawOf, Cond.instanceMethod yX9_lawOf, Cond.selects RX9 yX9_lawOf yX9_lawOf, Cond.code yX9_lawOf cX9_lawOf 4 (some .int), Cond.fieldLink RX9 106 "DikeHandsModel" "laws" "I", Cond.fieldLink RX9 55 "DikeHandsModel" "lawYear" "[I", Cond.methodLink RX9 122 yX9_isListed, Cond.instanceMethod yX9_isListed, Cond.selects RX9 yX9_isListed yX9_isListed, Cond.code yX9_isListed cX9_isListed 3 (some .boolean), Cond.fieldLink RX9 31 "DikeHandsModel" "came" "[I", Cond.methodLink RX9 126 yX9_listedOf, Cond.instanceMethod yX9_listedOf, Cond.selects RX9 yX9_listedOf yX9_listedOf, Cond.code yX9_listedOf cX9_listedOf 6 (some .int)]
def wsX9_yet_r2 : List Cond := [Cond.fieldLink RX9 34 "DikeHandsModel" "firstAcres" "[I", Cond.fieldLink RX9 37 "DikeHandsModel" "firstHands" "[I", Cond.fieldLink RX9 116 "DikeHandsModel" "changes" "I", Cond.fieldLink RX9 40 "DikeHandsModel" "changeOf" "[I", Cond.fieldLink RX9 46 "DikeHandsModel" "toldAt" "[I", Cond.fieldLink RX9 49 "DikeHandsModel" "acresTo" "[I", Cond.fieldLink RX9 52 "DikeHandsModel" "handsTo" "[I"]
def wsX9_yet : List Cond := .code yX9_yet cX9_yet 5 (some .int) :: ((wsX9_yet_r1 ++ wsX9_yet_r2) ++ wsX90)
def wsX9_perDay : List Cond := .code yX9_perDay cX9_perDay 2 (some .int) :: ([.fieldLink RX9 16 "DikeHandsModel" "soil" "[I"] ++ wsX90)
def wsX9_raises : List Cond := .code yX9_raises cX9_raises 3 none :: ([.fieldLink RX9 25 "DikeHandsModel" "worked" "[I", .fieldLink RX9 13 "DikeHandsModel" "height" "[I", .methodLink RX9 137 yX9_perDay, .instanceMethod yX9_perDay, .selects RX9 yX9_perDay yX9_perDay, .initialized RX9, .code yX9_perDay cX9_perDay 2 (some .int), .fieldLink RX9 16 "DikeHandsModel" "soil" "[I"] ++ wsX90)
def wsX9_work_r1 : List Cond := [Cond.fieldLink RX9 96 "DikeHandsModel" "now" "I", Cond.fieldLink RX9 28 "DikeHandsModel" "village" "[I", Cond.fieldLink RX9 76 "DikeHandsModel" "substitute" "[I", Cond.fieldLink RX9 67 "DikeHandsModel" "others" "[I", Cond.fieldLink RX9 73 "DikeHandsModel" "forOthers" "[I", Cond.fieldLink RX9 64 "DikeHandsModel" "own" "[I", Cond.fieldLink RX9 79 "DikeHandsModel" "did" "[I", Cond.fieldLink RX9 143 "DikeHandsModel" "daysDone" "I", Cond.methodLink RX9 113 yX9_isHouse, Cond.instanceMethod yX9_isHouse, Cond.selects RX9 yX9_isHouse yX9_isHouse, Cond.initialized RX9, Cond.code yX9_isHouse cX9_isHouse 2 (some .boolean), Cond.fieldLink RX9 92 "DikeHandsModel" "houses" "I", Cond.methodLink RX9 88 yX9_in, Cond.static yX9_in, Cond.code yX9_in cX9_in 3 (some .boolean), Cond.methodLink RX9 103 yX9_isRod, Cond.static yX9_isRod, Cond.code yX9_isRod cX9_isRod 1 (some .boolean), Cond.methodLink RX9 140 yX9_yet, Cond.instanceMethod yX9_yet, Cond.selects RX9 yX9_yet yX9_yet, Cond.code yX9_yet cX9_yet 5 (some .int)]
def wsX9_work_r2 : List Cond := [Cond.fieldLink RX9 70 "DikeHandsModel" "bought" "[I", Cond.methodLink RX9 134 yX9_owedOf, Cond.instanceMethod yX9_owedOf, Cond.selects RX9 yX9_owedOf yX9_owedOf, Cond.code yX9_owedOf cX9_owedOf 5 (some .int), Cond.fieldLink RX9 58 "DikeHandsModel" "lawWhat" "[I", Cond.methodLink RX9 109 yX9_lawOf, Cond.instanceMethod yX9_lawOf, Cond.selects RX9 yX9_lawOf yX9_lawOf, Cond.code yX9_lawOf cX9_lawOf 4 (some .int), Cond.fieldLink RX9 106 "DikeHandsModel" "laws" "I", Cond.fieldLink RX9 55 "DikeHandsModel" "lawYear" "[I", Cond.methodLink RX9 122 yX9_isListed, Cond.instanceMethod yX9_isListed, Cond.selects RX9 yX9_isListed yX9_isListed, Cond.code yX9_isListed cX9_isListed 3 (some .boolean), Cond.fieldLink RX9 31 "DikeHandsModel" "came" "[I", Cond.methodLink RX9 126 yX9_listedOf, Cond.instanceMethod yX9_listedOf, Cond.selects RX9 yX9_listedOf yX9_listedOf, Cond.code yX9_listedOf cX9_listedOf 6 (some .int), Cond.fieldLink RX9 34 "DikeHandsModel" "firstAcres" "[I", Cond.fieldLink RX9 37 "DikeHandsModel" "firstHands" "[I", Cond.fieldLink RX9 116 "DikeHandsModel" "changes" "I"]
def wsX9_work_r3 : List Cond := [Cond.fieldLink RX9 40 "DikeHandsModel" "changeOf" "[I", Cond.fieldLink RX9 46 "DikeHandsModel" "toldAt" "[I", Cond.fieldLink RX9 49 "DikeHandsModel" "acresTo" "[I", Cond.fieldLink RX9 52 "DikeHandsModel" "handsTo" "[I", Cond.methodLink RX9 146 yX9_raises, Cond.instanceMethod yX9_raises, Cond.selects RX9 yX9_raises yX9_raises, Cond.code yX9_raises cX9_raises 3 none, Cond.fieldLink RX9 25 "DikeHandsModel" "worked" "[I", Cond.fieldLink RX9 13 "DikeHandsModel" "height" "[I", Cond.methodLink RX9 137 yX9_perDay, Cond.instanceMethod yX9_perDay, Cond.selects RX9 yX9_perDay yX9_perDay, Cond.code yX9_perDay cX9_perDay 2 (some .int), Cond.fieldLink RX9 16 "DikeHandsModel" "soil" "[I"]
def wsX9_work : List Cond := .code yX9_work cX9_work 7 (some .int) :: ((wsX9_work_r1 ++ (wsX9_work_r2 ++ wsX9_work_r3)) ++ wsX90)
def wsX9_buy_r1 : List Cond := [Cond.fieldLink RX9 96 "DikeHandsModel" "now" "I", Cond.fieldLink RX9 70 "DikeHandsModel" "bought" "[I", Cond.fieldLink RX9 150 "DikeHandsModel" "daysBought" "I", Cond.fieldLink RX9 153 "DikeHandsModel" "chest" "I", Cond.methodLink RX9 113 yX9_isHouse, Cond.instanceMethod yX9_isHouse, Cond.selects RX9 yX9_isHouse yX9_isHouse, Cond.initialized RX9, Cond.code yX9_isHouse cX9_isHouse 2 (some .boolean), Cond.fieldLink RX9 92 "DikeHandsModel" "houses" "I", Cond.methodLink RX9 88 yX9_in, Cond.static yX9_in, Cond.code yX9_in cX9_in 3 (some .boolean), Cond.methodLink RX9 140 yX9_yet, Cond.instanceMethod yX9_yet, Cond.selects RX9 yX9_yet yX9_yet, Cond.code yX9_yet cX9_yet 5 (some .int), Cond.fieldLink RX9 64 "DikeHandsModel" "own" "[I", Cond.fieldLink RX9 67 "DikeHandsModel" "others" "[I", Cond.methodLink RX9 134 yX9_owedOf, Cond.instanceMethod yX9_owedOf, Cond.selects RX9 yX9_owedOf yX9_owedOf, Cond.code yX9_owedOf cX9_owedOf 5 (some .int), Cond.fieldLink RX9 58 "DikeHandsModel" "lawWhat" "[I"]
def wsX9_buy_r2 : List Cond := [Cond.methodLink RX9 109 yX9_lawOf, Cond.instanceMethod yX9_lawOf, Cond.selects RX9 yX9_lawOf yX9_lawOf, Cond.code yX9_lawOf cX9_lawOf 4 (some .int), Cond.fieldLink RX9 106 "DikeHandsModel" "laws" "I", Cond.fieldLink RX9 55 "DikeHandsModel" "lawYear" "[I", Cond.methodLink RX9 122 yX9_isListed, Cond.instanceMethod yX9_isListed, Cond.selects RX9 yX9_isListed yX9_isListed, Cond.code yX9_isListed cX9_isListed 3 (some .boolean), Cond.fieldLink RX9 31 "DikeHandsModel" "came" "[I", Cond.methodLink RX9 126 yX9_listedOf, Cond.instanceMethod yX9_listedOf, Cond.selects RX9 yX9_listedOf yX9_listedOf, Cond.code yX9_listedOf cX9_listedOf 6 (some .int), Cond.fieldLink RX9 34 "DikeHandsModel" "firstAcres" "[I", Cond.fieldLink RX9 37 "DikeHandsModel" "firstHands" "[I", Cond.fieldLink RX9 116 "DikeHandsModel" "changes" "I", Cond.fieldLink RX9 40 "DikeHandsModel" "changeOf" "[I", Cond.fieldLink RX9 46 "DikeHandsModel" "toldAt" "[I", Cond.fieldLink RX9 49 "DikeHandsModel" "acresTo" "[I", Cond.fieldLink RX9 52 "DikeHandsModel" "handsTo" "[I", Cond.methodLink RX9 156 yX9_coinNow, Cond.instanceMethod yX9_coinNow]
def wsX9_buy_r3 : List Cond := [Cond.selects RX9 yX9_coinNow yX9_coinNow, Cond.code yX9_coinNow cX9_coinNow 2 (some .int), Cond.fieldLink RX9 61 "DikeHandsModel" "lawCoin" "[I"]
def wsX9_buy : List Cond := .code yX9_buy cX9_buy 3 (some .int) :: ((wsX9_buy_r1 ++ (wsX9_buy_r2 ++ wsX9_buy_r3)) ++ wsX90)
def wsX9_hire_r1 : List Cond := [Cond.fieldLink RX9 153 "DikeHandsModel" "chest" "I", Cond.fieldLink RX9 160 "DikeHandsModel" "daysHired" "I", Cond.methodLink RX9 103 yX9_isRod, Cond.static yX9_isRod, Cond.initialized RX9, Cond.code yX9_isRod cX9_isRod 1 (some .boolean), Cond.methodLink RX9 88 yX9_in, Cond.static yX9_in, Cond.code yX9_in cX9_in 3 (some .boolean), Cond.methodLink RX9 156 yX9_coinNow, Cond.instanceMethod yX9_coinNow, Cond.selects RX9 yX9_coinNow yX9_coinNow, Cond.code yX9_coinNow cX9_coinNow 2 (some .int), Cond.fieldLink RX9 96 "DikeHandsModel" "now" "I", Cond.fieldLink RX9 61 "DikeHandsModel" "lawCoin" "[I", Cond.methodLink RX9 109 yX9_lawOf, Cond.instanceMethod yX9_lawOf, Cond.selects RX9 yX9_lawOf yX9_lawOf, Cond.code yX9_lawOf cX9_lawOf 4 (some .int), Cond.fieldLink RX9 106 "DikeHandsModel" "laws" "I", Cond.fieldLink RX9 55 "DikeHandsModel" "lawYear" "[I", Cond.methodLink RX9 146 yX9_raises, Cond.instanceMethod yX9_raises, Cond.selects RX9 yX9_raises yX9_raises]
def wsX9_hire_r2 : List Cond := [Cond.code yX9_raises cX9_raises 3 none, Cond.fieldLink RX9 25 "DikeHandsModel" "worked" "[I", Cond.fieldLink RX9 13 "DikeHandsModel" "height" "[I", Cond.methodLink RX9 137 yX9_perDay, Cond.instanceMethod yX9_perDay, Cond.selects RX9 yX9_perDay yX9_perDay, Cond.code yX9_perDay cX9_perDay 2 (some .int), Cond.fieldLink RX9 16 "DikeHandsModel" "soil" "[I"]
def wsX9_hire : List Cond := .code yX9_hire cX9_hire 3 (some .int) :: ((wsX9_hire_r1 ++ wsX9_hire_r2) ++ wsX90)
def wsX9_river : List Cond := .code yX9_river cX9_river 5 (some .boolean) :: ([.fieldLink RX9 96 "DikeHandsModel" "now" "I", .fieldLink RX9 82 "DikeHandsModel" "level" "[I", .methodLink RX9 88 yX9_in, .static yX9_in, .initialized RX9, .code yX9_in cX9_in 3 (some .boolean)] ++ wsX90)
def wsX9_ends : List Cond := .code yX9_ends cX9_ends 3 none :: ([.fieldLink RX9 13 "DikeHandsModel" "height" "[I", .fieldLink RX9 22 "DikeHandsModel" "broke" "[I", .fieldLink RX9 166 "DikeHandsModel" "lost" "I", .fieldLink RX9 19 "DikeHandsModel" "loss" "[I"] ++ wsX90)
def wsX9_go : List Cond := .code yX9_go cX9_go 4 (some .int) :: ([.fieldLink RX9 96 "DikeHandsModel" "now" "I", .fieldLink RX9 82 "DikeHandsModel" "level" "[I", .methodLink RX9 88 yX9_in, .static yX9_in, .initialized RX9, .code yX9_in cX9_in 3 (some .boolean), .methodLink RX9 163 yX9_ends, .instanceMethod yX9_ends, .selects RX9 yX9_ends yX9_ends, .code yX9_ends cX9_ends 3 none, .fieldLink RX9 13 "DikeHandsModel" "height" "[I", .fieldLink RX9 22 "DikeHandsModel" "broke" "[I", .fieldLink RX9 166 "DikeHandsModel" "lost" "I", .fieldLink RX9 19 "DikeHandsModel" "loss" "[I"] ++ wsX90)
def wsX9_told_r1 : List Cond := [Cond.fieldLink RX9 64 "DikeHandsModel" "own" "[I", Cond.fieldLink RX9 67 "DikeHandsModel" "others" "[I", Cond.fieldLink RX9 70 "DikeHandsModel" "bought" "[I", Cond.fieldLink RX9 76 "DikeHandsModel" "substitute" "[I", Cond.fieldLink RX9 73 "DikeHandsModel" "forOthers" "[I", Cond.methodLink RX9 113 yX9_isHouse, Cond.instanceMethod yX9_isHouse, Cond.selects RX9 yX9_isHouse yX9_isHouse, Cond.initialized RX9, Cond.code yX9_isHouse cX9_isHouse 2 (some .boolean), Cond.fieldLink RX9 92 "DikeHandsModel" "houses" "I", Cond.methodLink RX9 88 yX9_in, Cond.static yX9_in, Cond.code yX9_in cX9_in 3 (some .boolean), Cond.methodLink RX9 119 yX9_isYear, Cond.instanceMethod yX9_isYear, Cond.selects RX9 yX9_isYear yX9_isYear, Cond.code yX9_isYear cX9_isYear 2 (some .boolean), Cond.fieldLink RX9 96 "DikeHandsModel" "now" "I", Cond.methodLink RX9 134 yX9_owedOf, Cond.instanceMethod yX9_owedOf, Cond.selects RX9 yX9_owedOf yX9_owedOf, Cond.code yX9_owedOf cX9_owedOf 5 (some .int), Cond.fieldLink RX9 58 "DikeHandsModel" "lawWhat" "[I"]
def wsX9_told_r2 : List Cond := [Cond.methodLink RX9 109 yX9_lawOf, Cond.instanceMethod yX9_lawOf, Cond.selects RX9 yX9_lawOf yX9_lawOf, Cond.code yX9_lawOf cX9_lawOf 4 (some .int), Cond.fieldLink RX9 106 "DikeHandsModel" "laws" "I", Cond.fieldLink RX9 55 "DikeHandsModel" "lawYear" "[I", Cond.methodLink RX9 122 yX9_isListed, Cond.instanceMethod yX9_isListed, Cond.selects RX9 yX9_isListed yX9_isListed, Cond.code yX9_isListed cX9_isListed 3 (some .boolean), Cond.fieldLink RX9 31 "DikeHandsModel" "came" "[I", Cond.methodLink RX9 126 yX9_listedOf, Cond.instanceMethod yX9_listedOf, Cond.selects RX9 yX9_listedOf yX9_listedOf, Cond.code yX9_listedOf cX9_listedOf 6 (some .int), Cond.fieldLink RX9 34 "DikeHandsModel" "firstAcres" "[I", Cond.fieldLink RX9 37 "DikeHandsModel" "firstHands" "[I", Cond.fieldLink RX9 116 "DikeHandsModel" "changes" "I", Cond.fieldLink RX9 40 "DikeHandsModel" "changeOf" "[I", Cond.fieldLink RX9 46 "DikeHandsModel" "toldAt" "[I", Cond.fieldLink RX9 49 "DikeHandsModel" "acresTo" "[I", Cond.fieldLink RX9 52 "DikeHandsModel" "handsTo" "[I", Cond.methodLink RX9 140 yX9_yet, Cond.instanceMethod yX9_yet]
def wsX9_told_r3 : List Cond := [Cond.selects RX9 yX9_yet yX9_yet, Cond.code yX9_yet cX9_yet 5 (some .int)]
def wsX9_told : List Cond := .code yX9_told cX9_told 5 (some .int) :: ((wsX9_told_r1 ++ (wsX9_told_r2 ++ wsX9_told_r3)) ++ wsX90)
def wsX9_paperWeek_r1 : List Cond := [Cond.fieldLink RX9 96 "DikeHandsModel" "now" "I", Cond.fieldLink RX9 79 "DikeHandsModel" "did" "[I", Cond.methodLink RX9 99 yX9_isVillage, Cond.static yX9_isVillage, Cond.initialized RX9, Cond.code yX9_isVillage cX9_isVillage 1 (some .boolean), Cond.methodLink RX9 88 yX9_in, Cond.static yX9_in, Cond.code yX9_in cX9_in 3 (some .boolean), Cond.methodLink RX9 169 yX9_villageHands, Cond.instanceMethod yX9_villageHands, Cond.selects RX9 yX9_villageHands yX9_villageHands, Cond.code yX9_villageHands cX9_villageHands 5 (some .int), Cond.fieldLink RX9 92 "DikeHandsModel" "houses" "I", Cond.fieldLink RX9 28 "DikeHandsModel" "village" "[I", Cond.methodLink RX9 130 yX9_trueHands, Cond.instanceMethod yX9_trueHands, Cond.selects RX9 yX9_trueHands yX9_trueHands, Cond.code yX9_trueHands cX9_trueHands 6 (some .int), Cond.fieldLink RX9 31 "DikeHandsModel" "came" "[I", Cond.fieldLink RX9 37 "DikeHandsModel" "firstHands" "[I", Cond.fieldLink RX9 116 "DikeHandsModel" "changes" "I", Cond.fieldLink RX9 40 "DikeHandsModel" "changeOf" "[I", Cond.fieldLink RX9 43 "DikeHandsModel" "trueFrom" "[I"]
def wsX9_paperWeek_r2 : List Cond := [Cond.fieldLink RX9 52 "DikeHandsModel" "handsTo" "[I"]
def wsX9_paperWeek : List Cond := .code yX9_paperWeek cX9_paperWeek 3 (some .int) :: ((wsX9_paperWeek_r1 ++ wsX9_paperWeek_r2) ++ wsX90)
def wsX9_paper_r1 : List Cond := [Cond.methodLink RX9 172 yX9_paperWeek, Cond.instanceMethod yX9_paperWeek, Cond.selects RX9 yX9_paperWeek yX9_paperWeek, Cond.initialized RX9, Cond.code yX9_paperWeek cX9_paperWeek 3 (some .int), Cond.fieldLink RX9 96 "DikeHandsModel" "now" "I", Cond.fieldLink RX9 79 "DikeHandsModel" "did" "[I", Cond.methodLink RX9 99 yX9_isVillage, Cond.static yX9_isVillage, Cond.code yX9_isVillage cX9_isVillage 1 (some .boolean), Cond.methodLink RX9 88 yX9_in, Cond.static yX9_in, Cond.code yX9_in cX9_in 3 (some .boolean), Cond.methodLink RX9 169 yX9_villageHands, Cond.instanceMethod yX9_villageHands, Cond.selects RX9 yX9_villageHands yX9_villageHands, Cond.code yX9_villageHands cX9_villageHands 5 (some .int), Cond.fieldLink RX9 92 "DikeHandsModel" "houses" "I", Cond.fieldLink RX9 28 "DikeHandsModel" "village" "[I", Cond.methodLink RX9 130 yX9_trueHands, Cond.instanceMethod yX9_trueHands, Cond.selects RX9 yX9_trueHands yX9_trueHands, Cond.code yX9_trueHands cX9_trueHands 6 (some .int), Cond.fieldLink RX9 31 "DikeHandsModel" "came" "[I"]
def wsX9_paper_r2 : List Cond := [Cond.fieldLink RX9 37 "DikeHandsModel" "firstHands" "[I", Cond.fieldLink RX9 116 "DikeHandsModel" "changes" "I", Cond.fieldLink RX9 40 "DikeHandsModel" "changeOf" "[I", Cond.fieldLink RX9 43 "DikeHandsModel" "trueFrom" "[I", Cond.fieldLink RX9 52 "DikeHandsModel" "handsTo" "[I"]
def wsX9_paper : List Cond := .code yX9_paper cX9_paper 2 (some .boolean) :: ((wsX9_paper_r1 ++ wsX9_paper_r2) ++ wsX90)
def wsX9_needs : List Cond := .code yX9_needs cX9_needs 4 (some .int) :: ([.fieldLink RX9 13 "DikeHandsModel" "height" "[I", .methodLink RX9 137 yX9_perDay, .instanceMethod yX9_perDay, .selects RX9 yX9_perDay yX9_perDay, .initialized RX9, .code yX9_perDay cX9_perDay 2 (some .int), .fieldLink RX9 16 "DikeHandsModel" "soil" "[I"] ++ wsX90)
def wsX9_bank : List Cond := .code yX9_bank cX9_bank 4 (some .int) :: ([.fieldLink RX9 13 "DikeHandsModel" "height" "[I", .fieldLink RX9 22 "DikeHandsModel" "broke" "[I", .fieldLink RX9 25 "DikeHandsModel" "worked" "[I", .methodLink RX9 103 yX9_isRod, .static yX9_isRod, .initialized RX9, .code yX9_isRod cX9_isRod 1 (some .boolean), .methodLink RX9 88 yX9_in, .static yX9_in, .code yX9_in cX9_in 3 (some .boolean), .methodLink RX9 175 yX9_needs, .instanceMethod yX9_needs, .selects RX9 yX9_needs yX9_needs, .code yX9_needs cX9_needs 4 (some .int), .methodLink RX9 137 yX9_perDay, .instanceMethod yX9_perDay, .selects RX9 yX9_perDay yX9_perDay, .code yX9_perDay cX9_perDay 2 (some .int), .fieldLink RX9 16 "DikeHandsModel" "soil" "[I"] ++ wsX90)
def wsX9_plans : List Cond := .code yX9_plans cX9_plans 7 none :: ([.fieldLink RX9 85 "DikeHandsModel" "most" "[I", .fieldLink RX9 19 "DikeHandsModel" "loss" "[I", .methodLink RX9 175 yX9_needs, .instanceMethod yX9_needs, .selects RX9 yX9_needs yX9_needs, .initialized RX9, .code yX9_needs cX9_needs 4 (some .int), .fieldLink RX9 13 "DikeHandsModel" "height" "[I", .methodLink RX9 137 yX9_perDay, .instanceMethod yX9_perDay, .selects RX9 yX9_perDay yX9_perDay, .code yX9_perDay cX9_perDay 2 (some .int), .fieldLink RX9 16 "DikeHandsModel" "soil" "[I"] ++ wsX90)
def wsX9_isPlan : List Cond := .code yX9_isPlan cX9_isPlan 2 (some .boolean) :: ([.methodLink RX9 88 yX9_in, .static yX9_in, .initialized RX9, .code yX9_in cX9_in 3 (some .boolean)])
def wsX9_saved : List Cond := .code yX9_saved cX9_saved 3 (some .int) :: ([.fieldLink RX9 85 "DikeHandsModel" "most" "[I", .methodLink RX9 178 yX9_isPlan, .static yX9_isPlan, .initialized RX9, .code yX9_isPlan cX9_isPlan 2 (some .boolean), .methodLink RX9 88 yX9_in, .static yX9_in, .code yX9_in cX9_in 3 (some .boolean), .methodLink RX9 181 yX9_plans, .instanceMethod yX9_plans, .selects RX9 yX9_plans yX9_plans, .code yX9_plans cX9_plans 7 none, .fieldLink RX9 19 "DikeHandsModel" "loss" "[I", .methodLink RX9 175 yX9_needs, .instanceMethod yX9_needs, .selects RX9 yX9_needs yX9_needs, .code yX9_needs cX9_needs 4 (some .int), .fieldLink RX9 13 "DikeHandsModel" "height" "[I", .methodLink RX9 137 yX9_perDay, .instanceMethod yX9_perDay, .selects RX9 yX9_perDay yX9_perDay, .code yX9_perDay cX9_perDay 2 (some .int), .fieldLink RX9 16 "DikeHandsModel" "soil" "[I"] ++ wsX90)
def wsX9_chosen : List Cond := .code yX9_chosen cX9_chosen 7 (some .int) :: ([.fieldLink RX9 85 "DikeHandsModel" "most" "[I", .methodLink RX9 178 yX9_isPlan, .static yX9_isPlan, .initialized RX9, .code yX9_isPlan cX9_isPlan 2 (some .boolean), .methodLink RX9 88 yX9_in, .static yX9_in, .code yX9_in cX9_in 3 (some .boolean), .methodLink RX9 181 yX9_plans, .instanceMethod yX9_plans, .selects RX9 yX9_plans yX9_plans, .code yX9_plans cX9_plans 7 none, .fieldLink RX9 19 "DikeHandsModel" "loss" "[I", .methodLink RX9 175 yX9_needs, .instanceMethod yX9_needs, .selects RX9 yX9_needs yX9_needs, .code yX9_needs cX9_needs 4 (some .int), .fieldLink RX9 13 "DikeHandsModel" "height" "[I", .methodLink RX9 137 yX9_perDay, .instanceMethod yX9_perDay, .selects RX9 yX9_perDay yX9_perDay, .code yX9_perDay cX9_perDay 2 (some .int), .fieldLink RX9 16 "DikeHandsModel" "soil" "[I"] ++ wsX90)
def wsX9_hours : List Cond := .code yX9_hours cX9_hours 4 (some .int) :: ([])
def wsX9_called : List Cond := .code yX9_called cX9_called 3 (some .int) :: ([.fieldLink RX9 9 "DikeHandsModel" "mile" "[I", .methodLink RX9 99 yX9_isVillage, .static yX9_isVillage, .initialized RX9, .code yX9_isVillage cX9_isVillage 1 (some .boolean), .methodLink RX9 88 yX9_in, .static yX9_in, .code yX9_in cX9_in 3 (some .boolean), .methodLink RX9 185 yX9_hours, .static yX9_hours, .code yX9_hours cX9_hours 4 (some .int)] ++ wsX90)
def wsX9_arrived_r1 : List Cond := [Cond.fieldLink RX9 9 "DikeHandsModel" "mile" "[I", Cond.fieldLink RX9 96 "DikeHandsModel" "now" "I", Cond.methodLink RX9 99 yX9_isVillage, Cond.static yX9_isVillage, Cond.initialized RX9, Cond.code yX9_isVillage cX9_isVillage 1 (some .boolean), Cond.methodLink RX9 88 yX9_in, Cond.static yX9_in, Cond.code yX9_in cX9_in 3 (some .boolean), Cond.methodLink RX9 103 yX9_isRod, Cond.static yX9_isRod, Cond.code yX9_isRod cX9_isRod 1 (some .boolean), Cond.methodLink RX9 188 yX9_called, Cond.instanceMethod yX9_called, Cond.selects RX9 yX9_called yX9_called, Cond.code yX9_called cX9_called 3 (some .int), Cond.methodLink RX9 185 yX9_hours, Cond.static yX9_hours, Cond.code yX9_hours cX9_hours 4 (some .int), Cond.methodLink RX9 169 yX9_villageHands, Cond.instanceMethod yX9_villageHands, Cond.selects RX9 yX9_villageHands yX9_villageHands, Cond.code yX9_villageHands cX9_villageHands 5 (some .int), Cond.fieldLink RX9 92 "DikeHandsModel" "houses" "I"]
def wsX9_arrived_r2 : List Cond := [Cond.fieldLink RX9 28 "DikeHandsModel" "village" "[I", Cond.methodLink RX9 130 yX9_trueHands, Cond.instanceMethod yX9_trueHands, Cond.selects RX9 yX9_trueHands yX9_trueHands, Cond.code yX9_trueHands cX9_trueHands 6 (some .int), Cond.fieldLink RX9 31 "DikeHandsModel" "came" "[I", Cond.fieldLink RX9 37 "DikeHandsModel" "firstHands" "[I", Cond.fieldLink RX9 116 "DikeHandsModel" "changes" "I", Cond.fieldLink RX9 40 "DikeHandsModel" "changeOf" "[I", Cond.fieldLink RX9 43 "DikeHandsModel" "trueFrom" "[I", Cond.fieldLink RX9 52 "DikeHandsModel" "handsTo" "[I"]
def wsX9_arrived : List Cond := .code yX9_arrived cX9_arrived 6 (some .int) :: ((wsX9_arrived_r1 ++ wsX9_arrived_r2) ++ wsX90)
def wsX9_count : List Cond := .code yX9_count cX9_count 2 (some .int) :: ([.fieldLink RX9 96 "DikeHandsModel" "now" "I", .fieldLink RX9 92 "DikeHandsModel" "houses" "I", .fieldLink RX9 106 "DikeHandsModel" "laws" "I", .fieldLink RX9 116 "DikeHandsModel" "changes" "I", .fieldLink RX9 153 "DikeHandsModel" "chest" "I", .fieldLink RX9 166 "DikeHandsModel" "lost" "I", .fieldLink RX9 143 "DikeHandsModel" "daysDone" "I", .fieldLink RX9 150 "DikeHandsModel" "daysBought" "I", .fieldLink RX9 160 "DikeHandsModel" "daysHired" "I"] ++ wsX90)
theorem dX9_init_0 : decode cX9_init 0 = .ok (.aload_n 0, 1) := by decide +kernel
theorem dX9_init_1 : decode cX9_init 1 = .ok (.invokespecial 1, 3) := by decide +kernel
theorem dX9_init_4 : decode cX9_init 4 = .ok (.aload_n 0, 1) := by decide +kernel
theorem dX9_init_5 : decode cX9_init 5 = .ok (.bipush 8, 2) := by decide +kernel
theorem dX9_init_7 : decode cX9_init 7 = .ok (.newarray .int, 2) := by decide +kernel
theorem dX9_init_9 : decode cX9_init 9 = .ok (.putfield 9, 3) := by decide +kernel
theorem dX9_init_12 : decode cX9_init 12 = .ok (.aload_n 0, 1) := by decide +kernel
theorem dX9_init_13 : decode cX9_init 13 = .ok (.bipush 30, 2) := by decide +kernel
theorem dX9_init_15 : decode cX9_init 15 = .ok (.newarray .int, 2) := by decide +kernel
theorem dX9_init_17 : decode cX9_init 17 = .ok (.putfield 13, 3) := by decide +kernel
theorem dX9_init_20 : decode cX9_init 20 = .ok (.aload_n 0, 1) := by decide +kernel
theorem dX9_init_21 : decode cX9_init 21 = .ok (.bipush 30, 2) := by decide +kernel
theorem dX9_init_23 : decode cX9_init 23 = .ok (.newarray .int, 2) := by decide +kernel
theorem dX9_init_25 : decode cX9_init 25 = .ok (.putfield 16, 3) := by decide +kernel
theorem dX9_init_28 : decode cX9_init 28 = .ok (.aload_n 0, 1) := by decide +kernel
theorem dX9_init_29 : decode cX9_init 29 = .ok (.bipush 30, 2) := by decide +kernel
theorem dX9_init_31 : decode cX9_init 31 = .ok (.newarray .int, 2) := by decide +kernel
theorem dX9_init_33 : decode cX9_init 33 = .ok (.putfield 19, 3) := by decide +kernel
theorem dX9_init_36 : decode cX9_init 36 = .ok (.aload_n 0, 1) := by decide +kernel
theorem dX9_init_37 : decode cX9_init 37 = .ok (.bipush 30, 2) := by decide +kernel
theorem dX9_init_39 : decode cX9_init 39 = .ok (.newarray .int, 2) := by decide +kernel
theorem dX9_init_41 : decode cX9_init 41 = .ok (.putfield 22, 3) := by decide +kernel
theorem dX9_init_44 : decode cX9_init 44 = .ok (.aload_n 0, 1) := by decide +kernel
theorem dX9_init_45 : decode cX9_init 45 = .ok (.bipush 30, 2) := by decide +kernel
theorem dX9_init_47 : decode cX9_init 47 = .ok (.newarray .int, 2) := by decide +kernel
theorem dX9_init_49 : decode cX9_init 49 = .ok (.putfield 25, 3) := by decide +kernel
theorem dX9_init_52 : decode cX9_init 52 = .ok (.aload_n 0, 1) := by decide +kernel
theorem dX9_init_53 : decode cX9_init 53 = .ok (.bipush 40, 2) := by decide +kernel
theorem dX9_init_55 : decode cX9_init 55 = .ok (.newarray .int, 2) := by decide +kernel
theorem dX9_init_57 : decode cX9_init 57 = .ok (.putfield 28, 3) := by decide +kernel
theorem dX9_init_60 : decode cX9_init 60 = .ok (.aload_n 0, 1) := by decide +kernel
theorem dX9_init_61 : decode cX9_init 61 = .ok (.bipush 40, 2) := by decide +kernel
theorem dX9_init_63 : decode cX9_init 63 = .ok (.newarray .int, 2) := by decide +kernel
theorem dX9_init_65 : decode cX9_init 65 = .ok (.putfield 31, 3) := by decide +kernel
theorem dX9_init_68 : decode cX9_init 68 = .ok (.aload_n 0, 1) := by decide +kernel
theorem dX9_init_69 : decode cX9_init 69 = .ok (.bipush 40, 2) := by decide +kernel
theorem dX9_init_71 : decode cX9_init 71 = .ok (.newarray .int, 2) := by decide +kernel
theorem dX9_init_73 : decode cX9_init 73 = .ok (.putfield 34, 3) := by decide +kernel
theorem dX9_init_76 : decode cX9_init 76 = .ok (.aload_n 0, 1) := by decide +kernel
theorem dX9_init_77 : decode cX9_init 77 = .ok (.bipush 40, 2) := by decide +kernel
theorem dX9_init_79 : decode cX9_init 79 = .ok (.newarray .int, 2) := by decide +kernel
theorem dX9_init_81 : decode cX9_init 81 = .ok (.putfield 37, 3) := by decide +kernel
theorem dX9_init_84 : decode cX9_init 84 = .ok (.aload_n 0, 1) := by decide +kernel
theorem dX9_init_85 : decode cX9_init 85 = .ok (.sipush 200, 3) := by decide +kernel
theorem dX9_init_88 : decode cX9_init 88 = .ok (.newarray .int, 2) := by decide +kernel
theorem dX9_init_90 : decode cX9_init 90 = .ok (.putfield 40, 3) := by decide +kernel
theorem dX9_init_93 : decode cX9_init 93 = .ok (.aload_n 0, 1) := by decide +kernel
theorem dX9_init_94 : decode cX9_init 94 = .ok (.sipush 200, 3) := by decide +kernel
theorem dX9_init_97 : decode cX9_init 97 = .ok (.newarray .int, 2) := by decide +kernel
theorem dX9_init_99 : decode cX9_init 99 = .ok (.putfield 43, 3) := by decide +kernel
theorem dX9_init_102 : decode cX9_init 102 = .ok (.aload_n 0, 1) := by decide +kernel
theorem dX9_init_103 : decode cX9_init 103 = .ok (.sipush 200, 3) := by decide +kernel
theorem dX9_init_106 : decode cX9_init 106 = .ok (.newarray .int, 2) := by decide +kernel
theorem dX9_init_108 : decode cX9_init 108 = .ok (.putfield 46, 3) := by decide +kernel
theorem dX9_init_111 : decode cX9_init 111 = .ok (.aload_n 0, 1) := by decide +kernel
theorem dX9_init_112 : decode cX9_init 112 = .ok (.sipush 200, 3) := by decide +kernel
theorem dX9_init_115 : decode cX9_init 115 = .ok (.newarray .int, 2) := by decide +kernel
theorem dX9_init_117 : decode cX9_init 117 = .ok (.putfield 49, 3) := by decide +kernel
theorem dX9_init_120 : decode cX9_init 120 = .ok (.aload_n 0, 1) := by decide +kernel
theorem dX9_init_121 : decode cX9_init 121 = .ok (.sipush 200, 3) := by decide +kernel
theorem dX9_init_124 : decode cX9_init 124 = .ok (.newarray .int, 2) := by decide +kernel
theorem dX9_init_126 : decode cX9_init 126 = .ok (.putfield 52, 3) := by decide +kernel
theorem dX9_init_129 : decode cX9_init 129 = .ok (.aload_n 0, 1) := by decide +kernel
theorem dX9_init_130 : decode cX9_init 130 = .ok (.bipush 40, 2) := by decide +kernel
theorem dX9_init_132 : decode cX9_init 132 = .ok (.newarray .int, 2) := by decide +kernel
theorem dX9_init_134 : decode cX9_init 134 = .ok (.putfield 55, 3) := by decide +kernel
theorem dX9_init_137 : decode cX9_init 137 = .ok (.aload_n 0, 1) := by decide +kernel
theorem dX9_init_138 : decode cX9_init 138 = .ok (.bipush 40, 2) := by decide +kernel
theorem dX9_init_140 : decode cX9_init 140 = .ok (.newarray .int, 2) := by decide +kernel
theorem dX9_init_142 : decode cX9_init 142 = .ok (.putfield 58, 3) := by decide +kernel
theorem dX9_init_145 : decode cX9_init 145 = .ok (.aload_n 0, 1) := by decide +kernel
theorem dX9_init_146 : decode cX9_init 146 = .ok (.bipush 40, 2) := by decide +kernel
theorem dX9_init_148 : decode cX9_init 148 = .ok (.newarray .int, 2) := by decide +kernel
theorem dX9_init_150 : decode cX9_init 150 = .ok (.putfield 61, 3) := by decide +kernel
theorem dX9_init_153 : decode cX9_init 153 = .ok (.aload_n 0, 1) := by decide +kernel
theorem dX9_init_154 : decode cX9_init 154 = .ok (.sipush 840, 3) := by decide +kernel
theorem dX9_init_157 : decode cX9_init 157 = .ok (.newarray .int, 2) := by decide +kernel
theorem dX9_init_159 : decode cX9_init 159 = .ok (.putfield 64, 3) := by decide +kernel
theorem dX9_init_162 : decode cX9_init 162 = .ok (.aload_n 0, 1) := by decide +kernel
theorem dX9_init_163 : decode cX9_init 163 = .ok (.sipush 840, 3) := by decide +kernel
theorem dX9_init_166 : decode cX9_init 166 = .ok (.newarray .int, 2) := by decide +kernel
theorem dX9_init_168 : decode cX9_init 168 = .ok (.putfield 67, 3) := by decide +kernel
theorem dX9_init_171 : decode cX9_init 171 = .ok (.aload_n 0, 1) := by decide +kernel
theorem dX9_init_172 : decode cX9_init 172 = .ok (.sipush 840, 3) := by decide +kernel
theorem dX9_init_175 : decode cX9_init 175 = .ok (.newarray .int, 2) := by decide +kernel
theorem dX9_init_177 : decode cX9_init 177 = .ok (.putfield 70, 3) := by decide +kernel
theorem dX9_init_180 : decode cX9_init 180 = .ok (.aload_n 0, 1) := by decide +kernel
theorem dX9_init_181 : decode cX9_init 181 = .ok (.sipush 840, 3) := by decide +kernel
theorem dX9_init_184 : decode cX9_init 184 = .ok (.newarray .int, 2) := by decide +kernel
theorem dX9_init_186 : decode cX9_init 186 = .ok (.putfield 73, 3) := by decide +kernel
theorem dX9_init_189 : decode cX9_init 189 = .ok (.aload_n 0, 1) := by decide +kernel
theorem dX9_init_190 : decode cX9_init 190 = .ok (.sipush 840, 3) := by decide +kernel
theorem dX9_init_193 : decode cX9_init 193 = .ok (.newarray .int, 2) := by decide +kernel
theorem dX9_init_195 : decode cX9_init 195 = .ok (.putfield 76, 3) := by decide +kernel
theorem dX9_init_198 : decode cX9_init 198 = .ok (.aload_n 0, 1) := by decide +kernel
theorem dX9_init_199 : decode cX9_init 199 = .ok (.sipush 8320, 3) := by decide +kernel
theorem dX9_init_202 : decode cX9_init 202 = .ok (.newarray .int, 2) := by decide +kernel
theorem dX9_init_204 : decode cX9_init 204 = .ok (.putfield 79, 3) := by decide +kernel
theorem dX9_init_207 : decode cX9_init 207 = .ok (.aload_n 0, 1) := by decide +kernel
theorem dX9_init_208 : decode cX9_init 208 = .ok (.sipush 1040, 3) := by decide +kernel
theorem dX9_init_211 : decode cX9_init 211 = .ok (.newarray .int, 2) := by decide +kernel
theorem dX9_init_213 : decode cX9_init 213 = .ok (.putfield 82, 3) := by decide +kernel
theorem dX9_init_216 : decode cX9_init 216 = .ok (.aload_n 0, 1) := by decide +kernel
theorem dX9_init_217 : decode cX9_init 217 = .ok (.sipush 9331, 3) := by decide +kernel
theorem dX9_init_220 : decode cX9_init 220 = .ok (.newarray .int, 2) := by decide +kernel
theorem dX9_init_222 : decode cX9_init 222 = .ok (.putfield 85, 3) := by decide +kernel
theorem dX9_init_225 : decode cX9_init 225 = .ok (.iconst 0, 1) := by decide +kernel
theorem dX9_init_226 : decode cX9_init 226 = .ok (.istore_n 1, 1) := by decide +kernel
theorem dX9_init_227 : decode cX9_init 227 = .ok (.iload_n 1, 1) := by decide +kernel
theorem dX9_init_228 : decode cX9_init 228 = .ok (.bipush 30, 2) := by decide +kernel
theorem dX9_init_230 : decode cX9_init 230 = .ok (.if_icmp .ge 18, 3) := by decide +kernel
theorem dX9_init_233 : decode cX9_init 233 = .ok (.aload_n 0, 1) := by decide +kernel
theorem dX9_init_234 : decode cX9_init 234 = .ok (.getfield 13, 3) := by decide +kernel
theorem dX9_init_237 : decode cX9_init 237 = .ok (.iload_n 1, 1) := by decide +kernel
theorem dX9_init_238 : decode cX9_init 238 = .ok (.sipush 1000, 3) := by decide +kernel
theorem dX9_init_241 : decode cX9_init 241 = .ok (.iastore, 1) := by decide +kernel
theorem dX9_init_242 : decode cX9_init 242 = .ok (.iinc 1 1, 3) := by decide +kernel
theorem dX9_init_245 : decode cX9_init 245 = .ok (.goto (-18), 3) := by decide +kernel
theorem dX9_init_248 : decode cX9_init 248 = .ok (.iconst 0, 1) := by decide +kernel
theorem dX9_init_249 : decode cX9_init 249 = .ok (.istore_n 1, 1) := by decide +kernel
theorem dX9_init_250 : decode cX9_init 250 = .ok (.iload_n 1, 1) := by decide +kernel
theorem dX9_init_251 : decode cX9_init 251 = .ok (.sipush 840, 3) := by decide +kernel
theorem dX9_init_254 : decode cX9_init 254 = .ok (.if_icmp .ge 16, 3) := by decide +kernel
theorem dX9_init_257 : decode cX9_init 257 = .ok (.aload_n 0, 1) := by decide +kernel
theorem dX9_init_258 : decode cX9_init 258 = .ok (.getfield 76, 3) := by decide +kernel
theorem dX9_init_261 : decode cX9_init 261 = .ok (.iload_n 1, 1) := by decide +kernel
theorem dX9_init_262 : decode cX9_init 262 = .ok (.iconst (-1), 1) := by decide +kernel
theorem dX9_init_263 : decode cX9_init 263 = .ok (.iastore, 1) := by decide +kernel
theorem dX9_init_264 : decode cX9_init 264 = .ok (.iinc 1 1, 3) := by decide +kernel
theorem dX9_init_267 : decode cX9_init 267 = .ok (.goto (-17), 3) := by decide +kernel
theorem dX9_init_270 : decode cX9_init 270 = .ok (.return_, 1) := by decide +kernel
theorem dX9_in_0 : decode cX9_in 0 = .ok (.iload_n 0, 1) := by decide +kernel
theorem dX9_in_1 : decode cX9_in 1 = .ok (.iload_n 1, 1) := by decide +kernel
theorem dX9_in_2 : decode cX9_in 2 = .ok (.if_icmp .lt 12, 3) := by decide +kernel
theorem dX9_in_5 : decode cX9_in 5 = .ok (.iload_n 0, 1) := by decide +kernel
theorem dX9_in_6 : decode cX9_in 6 = .ok (.iload_n 2, 1) := by decide +kernel
theorem dX9_in_7 : decode cX9_in 7 = .ok (.if_icmp .gt 7, 3) := by decide +kernel
theorem dX9_in_10 : decode cX9_in 10 = .ok (.iconst 1, 1) := by decide +kernel
theorem dX9_in_11 : decode cX9_in 11 = .ok (.goto 4, 3) := by decide +kernel
theorem dX9_in_14 : decode cX9_in 14 = .ok (.iconst 0, 1) := by decide +kernel
theorem dX9_in_15 : decode cX9_in 15 = .ok (.ireturn, 1) := by decide +kernel
set_option maxRecDepth 20000 in
theorem ggX9_isVillage_X9_in : GoodIn wsX9_isVillage wsX9_in := goodIn_r _ [4] (by decide +kernel) (by decide +kernel)
set_option maxRecDepth 20000 in
theorem gX9_isVillage_X9_in : GoodIn wsX9_isVillage (va_wsS RX9 88 yX9_in wsX9_in) := goodIn_app (goodIn_of _ (by decide +kernel)) ggX9_isVillage_X9_in
theorem dX9_isVillage_0 : decode cX9_isVillage 0 = .ok (.iload_n 0, 1) := by decide +kernel
theorem dX9_isVillage_1 : decode cX9_isVillage 1 = .ok (.iconst 0, 1) := by decide +kernel
theorem dX9_isVillage_2 : decode cX9_isVillage 2 = .ok (.bipush 7, 2) := by decide +kernel
theorem dX9_isVillage_4 : decode cX9_isVillage 4 = .ok (.invokestatic 88, 3) := by decide +kernel
theorem dX9_isVillage_7 : decode cX9_isVillage 7 = .ok (.ireturn, 1) := by decide +kernel
set_option maxRecDepth 20000 in
theorem ggX9_isRod_X9_in : GoodIn wsX9_isRod wsX9_in := goodIn_r _ [4] (by decide +kernel) (by decide +kernel)
set_option maxRecDepth 20000 in
theorem gX9_isRod_X9_in : GoodIn wsX9_isRod (va_wsS RX9 88 yX9_in wsX9_in) := goodIn_app (goodIn_of _ (by decide +kernel)) ggX9_isRod_X9_in
theorem dX9_isRod_0 : decode cX9_isRod 0 = .ok (.iload_n 0, 1) := by decide +kernel
theorem dX9_isRod_1 : decode cX9_isRod 1 = .ok (.iconst 0, 1) := by decide +kernel
theorem dX9_isRod_2 : decode cX9_isRod 2 = .ok (.bipush 29, 2) := by decide +kernel
theorem dX9_isRod_4 : decode cX9_isRod 4 = .ok (.invokestatic 88, 3) := by decide +kernel
theorem dX9_isRod_7 : decode cX9_isRod 7 = .ok (.ireturn, 1) := by decide +kernel
set_option maxRecDepth 20000 in
theorem ggX9_isHouse_X9_in : GoodIn wsX9_isHouse wsX9_in := goodIn_r _ [5] (by decide +kernel) (by decide +kernel)
set_option maxRecDepth 20000 in
theorem gX9_isHouse_X9_in : GoodIn wsX9_isHouse (va_wsS RX9 88 yX9_in wsX9_in) := goodIn_app (goodIn_of _ (by decide +kernel)) ggX9_isHouse_X9_in
theorem dX9_isHouse_0 : decode cX9_isHouse 0 = .ok (.iload_n 1, 1) := by decide +kernel
theorem dX9_isHouse_1 : decode cX9_isHouse 1 = .ok (.iconst 0, 1) := by decide +kernel
theorem dX9_isHouse_2 : decode cX9_isHouse 2 = .ok (.aload_n 0, 1) := by decide +kernel
theorem dX9_isHouse_3 : decode cX9_isHouse 3 = .ok (.getfield 92, 3) := by decide +kernel
theorem dX9_isHouse_6 : decode cX9_isHouse 6 = .ok (.iconst 1, 1) := by decide +kernel
theorem dX9_isHouse_7 : decode cX9_isHouse 7 = .ok (.isub, 1) := by decide +kernel
theorem dX9_isHouse_8 : decode cX9_isHouse 8 = .ok (.invokestatic 88, 3) := by decide +kernel
theorem dX9_isHouse_11 : decode cX9_isHouse 11 = .ok (.ireturn, 1) := by decide +kernel
set_option maxRecDepth 20000 in
theorem ggX9_isYear_X9_in : GoodIn wsX9_isYear wsX9_in := goodIn_r _ [5] (by decide +kernel) (by decide +kernel)
set_option maxRecDepth 20000 in
theorem gX9_isYear_X9_in : GoodIn wsX9_isYear (va_wsS RX9 88 yX9_in wsX9_in) := goodIn_app (goodIn_of _ (by decide +kernel)) ggX9_isYear_X9_in
theorem dX9_isYear_0 : decode cX9_isYear 0 = .ok (.iload_n 1, 1) := by decide +kernel
theorem dX9_isYear_1 : decode cX9_isYear 1 = .ok (.iconst 0, 1) := by decide +kernel
theorem dX9_isYear_2 : decode cX9_isYear 2 = .ok (.aload_n 0, 1) := by decide +kernel
theorem dX9_isYear_3 : decode cX9_isYear 3 = .ok (.getfield 96, 3) := by decide +kernel
theorem dX9_isYear_6 : decode cX9_isYear 6 = .ok (.bipush 52, 2) := by decide +kernel
theorem dX9_isYear_8 : decode cX9_isYear 8 = .ok (.idiv, 1) := by decide +kernel
theorem dX9_isYear_9 : decode cX9_isYear 9 = .ok (.invokestatic 88, 3) := by decide +kernel
theorem dX9_isYear_12 : decode cX9_isYear 12 = .ok (.ireturn, 1) := by decide +kernel
set_option maxRecDepth 20000 in
theorem ggX9_village_X9_isVillage : GoodIn wsX9_village wsX9_isVillage := goodIn_r _ [5, 6, 7, 4, 8] (by decide +kernel) (by decide +kernel)
set_option maxRecDepth 20000 in
theorem gX9_village_X9_isVillage : GoodIn wsX9_village (va_wsS RX9 99 yX9_isVillage wsX9_isVillage) := goodIn_app (goodIn_of _ (by decide +kernel)) ggX9_village_X9_isVillage
set_option maxRecDepth 20000 in
theorem ggX9_village_X9_in : GoodIn wsX9_village wsX9_in := goodIn_r _ [8] (by decide +kernel) (by decide +kernel)
set_option maxRecDepth 20000 in
theorem gX9_village_X9_in : GoodIn wsX9_village (va_wsS RX9 88 yX9_in wsX9_in) := goodIn_app (goodIn_of _ (by decide +kernel)) ggX9_village_X9_in
theorem dX9_village_0 : decode cX9_village 0 = .ok (.iload_n 1, 1) := by decide +kernel
theorem dX9_village_1 : decode cX9_village 1 = .ok (.invokestatic 99, 3) := by decide +kernel
theorem dX9_village_4 : decode cX9_village 4 = .ok (.ifCond .eq 13, 3) := by decide +kernel
theorem dX9_village_7 : decode cX9_village 7 = .ok (.iload_n 2, 1) := by decide +kernel
theorem dX9_village_8 : decode cX9_village 8 = .ok (.iconst 0, 1) := by decide +kernel
theorem dX9_village_9 : decode cX9_village 9 = .ok (.bipush 99, 2) := by decide +kernel
theorem dX9_village_11 : decode cX9_village 11 = .ok (.invokestatic 88, 3) := by decide +kernel
theorem dX9_village_14 : decode cX9_village 14 = .ok (.ifCond .ne 5, 3) := by decide +kernel
theorem dX9_village_17 : decode cX9_village 17 = .ok (.iconst 0, 1) := by decide +kernel
theorem dX9_village_18 : decode cX9_village 18 = .ok (.ireturn, 1) := by decide +kernel
theorem dX9_village_19 : decode cX9_village 19 = .ok (.aload_n 0, 1) := by decide +kernel
theorem dX9_village_20 : decode cX9_village 20 = .ok (.getfield 9, 3) := by decide +kernel
theorem dX9_village_23 : decode cX9_village 23 = .ok (.iload_n 1, 1) := by decide +kernel
theorem dX9_village_24 : decode cX9_village 24 = .ok (.iload_n 2, 1) := by decide +kernel
theorem dX9_village_25 : decode cX9_village 25 = .ok (.iastore, 1) := by decide +kernel
theorem dX9_village_26 : decode cX9_village 26 = .ok (.iconst 1, 1) := by decide +kernel
theorem dX9_village_27 : decode cX9_village 27 = .ok (.ireturn, 1) := by decide +kernel
set_option maxRecDepth 20000 in
theorem ggX9_rod_X9_isRod : GoodIn wsX9_rod wsX9_isRod := goodIn_r _ [6, 7, 8, 5, 9] (by decide +kernel) (by decide +kernel)
set_option maxRecDepth 20000 in
theorem gX9_rod_X9_isRod : GoodIn wsX9_rod (va_wsS RX9 103 yX9_isRod wsX9_isRod) := goodIn_app (goodIn_of _ (by decide +kernel)) ggX9_rod_X9_isRod
set_option maxRecDepth 20000 in
theorem ggX9_rod_X9_in : GoodIn wsX9_rod wsX9_in := goodIn_r _ [9] (by decide +kernel) (by decide +kernel)
set_option maxRecDepth 20000 in
theorem gX9_rod_X9_in : GoodIn wsX9_rod (va_wsS RX9 88 yX9_in wsX9_in) := goodIn_app (goodIn_of _ (by decide +kernel)) ggX9_rod_X9_in
theorem dX9_rod_0 : decode cX9_rod 0 = .ok (.iload_n 1, 1) := by decide +kernel
theorem dX9_rod_1 : decode cX9_rod 1 = .ok (.invokestatic 103, 3) := by decide +kernel
theorem dX9_rod_4 : decode cX9_rod 4 = .ok (.ifCond .eq 23, 3) := by decide +kernel
theorem dX9_rod_7 : decode cX9_rod 7 = .ok (.iload_n 2, 1) := by decide +kernel
theorem dX9_rod_8 : decode cX9_rod 8 = .ok (.iconst 0, 1) := by decide +kernel
theorem dX9_rod_9 : decode cX9_rod 9 = .ok (.iconst 2, 1) := by decide +kernel
theorem dX9_rod_10 : decode cX9_rod 10 = .ok (.invokestatic 88, 3) := by decide +kernel
theorem dX9_rod_13 : decode cX9_rod 13 = .ok (.ifCond .eq 14, 3) := by decide +kernel
theorem dX9_rod_16 : decode cX9_rod 16 = .ok (.iload_n 3, 1) := by decide +kernel
theorem dX9_rod_17 : decode cX9_rod 17 = .ok (.iconst 0, 1) := by decide +kernel
theorem dX9_rod_18 : decode cX9_rod 18 = .ok (.sipush 10000, 3) := by decide +kernel
theorem dX9_rod_21 : decode cX9_rod 21 = .ok (.invokestatic 88, 3) := by decide +kernel
theorem dX9_rod_24 : decode cX9_rod 24 = .ok (.ifCond .ne 5, 3) := by decide +kernel
theorem dX9_rod_27 : decode cX9_rod 27 = .ok (.iconst 0, 1) := by decide +kernel
theorem dX9_rod_28 : decode cX9_rod 28 = .ok (.ireturn, 1) := by decide +kernel
theorem dX9_rod_29 : decode cX9_rod 29 = .ok (.aload_n 0, 1) := by decide +kernel
theorem dX9_rod_30 : decode cX9_rod 30 = .ok (.getfield 16, 3) := by decide +kernel
theorem dX9_rod_33 : decode cX9_rod 33 = .ok (.iload_n 1, 1) := by decide +kernel
theorem dX9_rod_34 : decode cX9_rod 34 = .ok (.iload_n 2, 1) := by decide +kernel
theorem dX9_rod_35 : decode cX9_rod 35 = .ok (.iastore, 1) := by decide +kernel
theorem dX9_rod_36 : decode cX9_rod 36 = .ok (.aload_n 0, 1) := by decide +kernel
theorem dX9_rod_37 : decode cX9_rod 37 = .ok (.getfield 19, 3) := by decide +kernel
theorem dX9_rod_40 : decode cX9_rod 40 = .ok (.iload_n 1, 1) := by decide +kernel
theorem dX9_rod_41 : decode cX9_rod 41 = .ok (.iload_n 3, 1) := by decide +kernel
theorem dX9_rod_42 : decode cX9_rod 42 = .ok (.iastore, 1) := by decide +kernel
theorem dX9_rod_43 : decode cX9_rod 43 = .ok (.iconst 1, 1) := by decide +kernel
theorem dX9_rod_44 : decode cX9_rod 44 = .ok (.ireturn, 1) := by decide +kernel
set_option maxRecDepth 20000 in
theorem ggX9_law_X9_in : GoodIn wsX9_law wsX9_in := goodIn_r _ [8] (by decide +kernel) (by decide +kernel)
set_option maxRecDepth 20000 in
theorem gX9_law_X9_in : GoodIn wsX9_law (va_wsS RX9 88 yX9_in wsX9_in) := goodIn_app (goodIn_of _ (by decide +kernel)) ggX9_law_X9_in
theorem dX9_law_0 : decode cX9_law 0 = .ok (.iload_n 1, 1) := by decide +kernel
theorem dX9_law_1 : decode cX9_law 1 = .ok (.iconst 0, 1) := by decide +kernel
theorem dX9_law_2 : decode cX9_law 2 = .ok (.bipush 19, 2) := by decide +kernel
theorem dX9_law_4 : decode cX9_law 4 = .ok (.invokestatic 88, 3) := by decide +kernel
theorem dX9_law_7 : decode cX9_law 7 = .ok (.ifCond .eq 47, 3) := by decide +kernel
theorem dX9_law_10 : decode cX9_law 10 = .ok (.iload_n 2, 1) := by decide +kernel
theorem dX9_law_11 : decode cX9_law 11 = .ok (.ifCond .lt 43, 3) := by decide +kernel
theorem dX9_law_14 : decode cX9_law 14 = .ok (.iload_n 2, 1) := by decide +kernel
theorem dX9_law_15 : decode cX9_law 15 = .ok (.sipush 10000, 3) := by decide +kernel
theorem dX9_law_18 : decode cX9_law 18 = .ok (.idiv, 1) := by decide +kernel
theorem dX9_law_19 : decode cX9_law 19 = .ok (.bipush 9, 2) := by decide +kernel
theorem dX9_law_21 : decode cX9_law 21 = .ok (.if_icmp .gt 33, 3) := by decide +kernel
theorem dX9_law_24 : decode cX9_law 24 = .ok (.iload_n 2, 1) := by decide +kernel
theorem dX9_law_25 : decode cX9_law 25 = .ok (.sipush 1000, 3) := by decide +kernel
theorem dX9_law_28 : decode cX9_law 28 = .ok (.irem, 1) := by decide +kernel
theorem dX9_law_29 : decode cX9_law 29 = .ok (.sipush 500, 3) := by decide +kernel
theorem dX9_law_32 : decode cX9_law 32 = .ok (.if_icmp .gt 22, 3) := by decide +kernel
theorem dX9_law_35 : decode cX9_law 35 = .ok (.iload_n 3, 1) := by decide +kernel
theorem dX9_law_36 : decode cX9_law 36 = .ok (.iconst 0, 1) := by decide +kernel
theorem dX9_law_37 : decode cX9_law 37 = .ok (.bipush 100, 2) := by decide +kernel
theorem dX9_law_39 : decode cX9_law 39 = .ok (.invokestatic 88, 3) := by decide +kernel
theorem dX9_law_42 : decode cX9_law 42 = .ok (.ifCond .eq 12, 3) := by decide +kernel
theorem dX9_law_45 : decode cX9_law 45 = .ok (.aload_n 0, 1) := by decide +kernel
theorem dX9_law_46 : decode cX9_law 46 = .ok (.getfield 106, 3) := by decide +kernel
theorem dX9_law_49 : decode cX9_law 49 = .ok (.bipush 40, 2) := by decide +kernel
theorem dX9_law_51 : decode cX9_law 51 = .ok (.if_icmp .ne 5, 3) := by decide +kernel
theorem dX9_law_54 : decode cX9_law 54 = .ok (.iconst (-1), 1) := by decide +kernel
theorem dX9_law_55 : decode cX9_law 55 = .ok (.ireturn, 1) := by decide +kernel
theorem dX9_law_56 : decode cX9_law 56 = .ok (.aload_n 0, 1) := by decide +kernel
theorem dX9_law_57 : decode cX9_law 57 = .ok (.getfield 55, 3) := by decide +kernel
theorem dX9_law_60 : decode cX9_law 60 = .ok (.aload_n 0, 1) := by decide +kernel
theorem dX9_law_61 : decode cX9_law 61 = .ok (.getfield 106, 3) := by decide +kernel
theorem dX9_law_64 : decode cX9_law 64 = .ok (.iload_n 1, 1) := by decide +kernel
theorem dX9_law_65 : decode cX9_law 65 = .ok (.iastore, 1) := by decide +kernel
theorem dX9_law_66 : decode cX9_law 66 = .ok (.aload_n 0, 1) := by decide +kernel
theorem dX9_law_67 : decode cX9_law 67 = .ok (.getfield 58, 3) := by decide +kernel
theorem dX9_law_70 : decode cX9_law 70 = .ok (.aload_n 0, 1) := by decide +kernel
theorem dX9_law_71 : decode cX9_law 71 = .ok (.getfield 106, 3) := by decide +kernel
theorem dX9_law_74 : decode cX9_law 74 = .ok (.iload_n 2, 1) := by decide +kernel
theorem dX9_law_75 : decode cX9_law 75 = .ok (.iastore, 1) := by decide +kernel
theorem dX9_law_76 : decode cX9_law 76 = .ok (.aload_n 0, 1) := by decide +kernel
theorem dX9_law_77 : decode cX9_law 77 = .ok (.getfield 61, 3) := by decide +kernel
theorem dX9_law_80 : decode cX9_law 80 = .ok (.aload_n 0, 1) := by decide +kernel
theorem dX9_law_81 : decode cX9_law 81 = .ok (.getfield 106, 3) := by decide +kernel
theorem dX9_law_84 : decode cX9_law 84 = .ok (.iload_n 3, 1) := by decide +kernel
theorem dX9_law_85 : decode cX9_law 85 = .ok (.iastore, 1) := by decide +kernel
theorem dX9_law_86 : decode cX9_law 86 = .ok (.aload_n 0, 1) := by decide +kernel
theorem dX9_law_87 : decode cX9_law 87 = .ok (.dup, 1) := by decide +kernel
theorem dX9_law_88 : decode cX9_law 88 = .ok (.getfield 106, 3) := by decide +kernel
theorem dX9_law_91 : decode cX9_law 91 = .ok (.iconst 1, 1) := by decide +kernel
theorem dX9_law_92 : decode cX9_law 92 = .ok (.iadd, 1) := by decide +kernel
theorem dX9_law_93 : decode cX9_law 93 = .ok (.putfield 106, 3) := by decide +kernel
theorem dX9_law_96 : decode cX9_law 96 = .ok (.aload_n 0, 1) := by decide +kernel
theorem dX9_law_97 : decode cX9_law 97 = .ok (.getfield 106, 3) := by decide +kernel
theorem dX9_law_100 : decode cX9_law 100 = .ok (.ireturn, 1) := by decide +kernel
theorem dX9_lawOf_0 : decode cX9_lawOf 0 = .ok (.iconst (-1), 1) := by decide +kernel
theorem dX9_lawOf_1 : decode cX9_lawOf 1 = .ok (.istore_n 2, 1) := by decide +kernel
theorem dX9_lawOf_2 : decode cX9_lawOf 2 = .ok (.iconst 0, 1) := by decide +kernel
theorem dX9_lawOf_3 : decode cX9_lawOf 3 = .ok (.istore_n 3, 1) := by decide +kernel
theorem dX9_lawOf_4 : decode cX9_lawOf 4 = .ok (.iload_n 3, 1) := by decide +kernel
theorem dX9_lawOf_5 : decode cX9_lawOf 5 = .ok (.aload_n 0, 1) := by decide +kernel
theorem dX9_lawOf_6 : decode cX9_lawOf 6 = .ok (.getfield 106, 3) := by decide +kernel
theorem dX9_lawOf_9 : decode cX9_lawOf 9 = .ok (.if_icmp .ge 41, 3) := by decide +kernel
theorem dX9_lawOf_12 : decode cX9_lawOf 12 = .ok (.aload_n 0, 1) := by decide +kernel
theorem dX9_lawOf_13 : decode cX9_lawOf 13 = .ok (.getfield 55, 3) := by decide +kernel
theorem dX9_lawOf_16 : decode cX9_lawOf 16 = .ok (.iload_n 3, 1) := by decide +kernel
theorem dX9_lawOf_17 : decode cX9_lawOf 17 = .ok (.iaload, 1) := by decide +kernel
theorem dX9_lawOf_18 : decode cX9_lawOf 18 = .ok (.iload_n 1, 1) := by decide +kernel
theorem dX9_lawOf_19 : decode cX9_lawOf 19 = .ok (.if_icmp .gt 25, 3) := by decide +kernel
theorem dX9_lawOf_22 : decode cX9_lawOf 22 = .ok (.iload_n 2, 1) := by decide +kernel
theorem dX9_lawOf_23 : decode cX9_lawOf 23 = .ok (.iconst (-1), 1) := by decide +kernel
theorem dX9_lawOf_24 : decode cX9_lawOf 24 = .ok (.if_icmp .eq 18, 3) := by decide +kernel
theorem dX9_lawOf_27 : decode cX9_lawOf 27 = .ok (.aload_n 0, 1) := by decide +kernel
theorem dX9_lawOf_28 : decode cX9_lawOf 28 = .ok (.getfield 55, 3) := by decide +kernel
theorem dX9_lawOf_31 : decode cX9_lawOf 31 = .ok (.iload_n 3, 1) := by decide +kernel
theorem dX9_lawOf_32 : decode cX9_lawOf 32 = .ok (.iaload, 1) := by decide +kernel
theorem dX9_lawOf_33 : decode cX9_lawOf 33 = .ok (.aload_n 0, 1) := by decide +kernel
theorem dX9_lawOf_34 : decode cX9_lawOf 34 = .ok (.getfield 55, 3) := by decide +kernel
theorem dX9_lawOf_37 : decode cX9_lawOf 37 = .ok (.iload_n 2, 1) := by decide +kernel
theorem dX9_lawOf_38 : decode cX9_lawOf 38 = .ok (.iaload, 1) := by decide +kernel
theorem dX9_lawOf_39 : decode cX9_lawOf 39 = .ok (.if_icmp .lt 5, 3) := by decide +kernel
theorem dX9_lawOf_42 : decode cX9_lawOf 42 = .ok (.iload_n 3, 1) := by decide +kernel
theorem dX9_lawOf_43 : decode cX9_lawOf 43 = .ok (.istore_n 2, 1) := by decide +kernel
theorem dX9_lawOf_44 : decode cX9_lawOf 44 = .ok (.iinc 3 1, 3) := by decide +kernel
theorem dX9_lawOf_47 : decode cX9_lawOf 47 = .ok (.goto (-43), 3) := by decide +kernel
theorem dX9_lawOf_50 : decode cX9_lawOf 50 = .ok (.iload_n 2, 1) := by decide +kernel
theorem dX9_lawOf_51 : decode cX9_lawOf 51 = .ok (.ireturn, 1) := by decide +kernel
set_option maxRecDepth 20000 in
theorem ggX9_coinNow_X9_lawOf : GoodIn wsX9_coinNow wsX9_lawOf := goodIn_r _ [7, 8, 9, 10, 11, 12, 13, 14, 15, 16, 17, 18, 19, 20, 21, 22, 23, 24, 25, 26, 27, 28, 29, 30, 31, 32, 33, 34, 35, 36, 37, 38, 39, 40, 41, 42, 43, 44] (by decide +kernel) (by decide +kernel)
set_option maxRecDepth 20000 in
theorem gX9_coinNow_X9_lawOf : GoodIn wsX9_coinNow (wsV RX9 109 RX9 yX9_lawOf wsX9_lawOf) := goodIn_app (goodIn_of _ (by decide +kernel)) ggX9_coinNow_X9_lawOf
theorem dX9_coinNow_0 : decode cX9_coinNow 0 = .ok (.aload_n 0, 1) := by decide +kernel
theorem dX9_coinNow_1 : decode cX9_coinNow 1 = .ok (.aload_n 0, 1) := by decide +kernel
theorem dX9_coinNow_2 : decode cX9_coinNow 2 = .ok (.getfield 96, 3) := by decide +kernel
theorem dX9_coinNow_5 : decode cX9_coinNow 5 = .ok (.bipush 52, 2) := by decide +kernel
theorem dX9_coinNow_7 : decode cX9_coinNow 7 = .ok (.idiv, 1) := by decide +kernel
theorem dX9_coinNow_8 : decode cX9_coinNow 8 = .ok (.invokevirtual 109, 3) := by decide +kernel
theorem dX9_coinNow_11 : decode cX9_coinNow 11 = .ok (.istore_n 1, 1) := by decide +kernel
theorem dX9_coinNow_12 : decode cX9_coinNow 12 = .ok (.iload_n 1, 1) := by decide +kernel
theorem dX9_coinNow_13 : decode cX9_coinNow 13 = .ok (.iconst (-1), 1) := by decide +kernel
theorem dX9_coinNow_14 : decode cX9_coinNow 14 = .ok (.if_icmp .ne 7, 3) := by decide +kernel
theorem dX9_coinNow_17 : decode cX9_coinNow 17 = .ok (.iconst 0, 1) := by decide +kernel
theorem dX9_coinNow_18 : decode cX9_coinNow 18 = .ok (.goto 9, 3) := by decide +kernel
theorem dX9_coinNow_21 : decode cX9_coinNow 21 = .ok (.aload_n 0, 1) := by decide +kernel
theorem dX9_coinNow_22 : decode cX9_coinNow 22 = .ok (.getfield 61, 3) := by decide +kernel
theorem dX9_coinNow_25 : decode cX9_coinNow 25 = .ok (.iload_n 1, 1) := by decide +kernel
theorem dX9_coinNow_26 : decode cX9_coinNow 26 = .ok (.iaload, 1) := by decide +kernel
theorem dX9_coinNow_27 : decode cX9_coinNow 27 = .ok (.ireturn, 1) := by decide +kernel
set_option maxRecDepth 20000 in
theorem ggX9_house_X9_isVillage : GoodIn wsX9_house wsX9_isVillage := goodIn_r _ [10, 11, 12, 9, 13] (by decide +kernel) (by decide +kernel)
set_option maxRecDepth 20000 in
theorem gX9_house_X9_isVillage : GoodIn wsX9_house (va_wsS RX9 99 yX9_isVillage wsX9_isVillage) := goodIn_app (goodIn_of _ (by decide +kernel)) ggX9_house_X9_isVillage
set_option maxRecDepth 20000 in
theorem ggX9_house_X9_in : GoodIn wsX9_house wsX9_in := goodIn_r _ [13] (by decide +kernel) (by decide +kernel)
set_option maxRecDepth 20000 in
theorem gX9_house_X9_in : GoodIn wsX9_house (va_wsS RX9 88 yX9_in wsX9_in) := goodIn_app (goodIn_of _ (by decide +kernel)) ggX9_house_X9_in
theorem dX9_house_0 : decode cX9_house 0 = .ok (.iload_n 1, 1) := by decide +kernel
theorem dX9_house_1 : decode cX9_house 1 = .ok (.invokestatic 99, 3) := by decide +kernel
theorem dX9_house_4 : decode cX9_house 4 = .ok (.ifCond .eq 33, 3) := by decide +kernel
theorem dX9_house_7 : decode cX9_house 7 = .ok (.iload_n 2, 1) := by decide +kernel
theorem dX9_house_8 : decode cX9_house 8 = .ok (.iconst 0, 1) := by decide +kernel
theorem dX9_house_9 : decode cX9_house 9 = .ok (.sipush 500, 3) := by decide +kernel
theorem dX9_house_12 : decode cX9_house 12 = .ok (.invokestatic 88, 3) := by decide +kernel
theorem dX9_house_15 : decode cX9_house 15 = .ok (.ifCond .eq 22, 3) := by decide +kernel
theorem dX9_house_18 : decode cX9_house 18 = .ok (.iload_n 3, 1) := by decide +kernel
theorem dX9_house_19 : decode cX9_house 19 = .ok (.iconst 0, 1) := by decide +kernel
theorem dX9_house_20 : decode cX9_house 20 = .ok (.bipush 20, 2) := by decide +kernel
theorem dX9_house_22 : decode cX9_house 22 = .ok (.invokestatic 88, 3) := by decide +kernel
theorem dX9_house_25 : decode cX9_house 25 = .ok (.ifCond .eq 12, 3) := by decide +kernel
theorem dX9_house_28 : decode cX9_house 28 = .ok (.aload_n 0, 1) := by decide +kernel
theorem dX9_house_29 : decode cX9_house 29 = .ok (.getfield 92, 3) := by decide +kernel
theorem dX9_house_32 : decode cX9_house 32 = .ok (.bipush 40, 2) := by decide +kernel
theorem dX9_house_34 : decode cX9_house 34 = .ok (.if_icmp .ne 5, 3) := by decide +kernel
theorem dX9_house_37 : decode cX9_house 37 = .ok (.iconst (-1), 1) := by decide +kernel
theorem dX9_house_38 : decode cX9_house 38 = .ok (.ireturn, 1) := by decide +kernel
theorem dX9_house_39 : decode cX9_house 39 = .ok (.aload_n 0, 1) := by decide +kernel
theorem dX9_house_40 : decode cX9_house 40 = .ok (.getfield 28, 3) := by decide +kernel
theorem dX9_house_43 : decode cX9_house 43 = .ok (.aload_n 0, 1) := by decide +kernel
theorem dX9_house_44 : decode cX9_house 44 = .ok (.getfield 92, 3) := by decide +kernel
theorem dX9_house_47 : decode cX9_house 47 = .ok (.iload_n 1, 1) := by decide +kernel
theorem dX9_house_48 : decode cX9_house 48 = .ok (.iastore, 1) := by decide +kernel
theorem dX9_house_49 : decode cX9_house 49 = .ok (.aload_n 0, 1) := by decide +kernel
theorem dX9_house_50 : decode cX9_house 50 = .ok (.getfield 31, 3) := by decide +kernel
theorem dX9_house_53 : decode cX9_house 53 = .ok (.aload_n 0, 1) := by decide +kernel
theorem dX9_house_54 : decode cX9_house 54 = .ok (.getfield 92, 3) := by decide +kernel
theorem dX9_house_57 : decode cX9_house 57 = .ok (.aload_n 0, 1) := by decide +kernel
theorem dX9_house_58 : decode cX9_house 58 = .ok (.getfield 96, 3) := by decide +kernel
theorem dX9_house_61 : decode cX9_house 61 = .ok (.iastore, 1) := by decide +kernel
theorem dX9_house_62 : decode cX9_house 62 = .ok (.aload_n 0, 1) := by decide +kernel
theorem dX9_house_63 : decode cX9_house 63 = .ok (.getfield 34, 3) := by decide +kernel
theorem dX9_house_66 : decode cX9_house 66 = .ok (.aload_n 0, 1) := by decide +kernel
theorem dX9_house_67 : decode cX9_house 67 = .ok (.getfield 92, 3) := by decide +kernel
theorem dX9_house_70 : decode cX9_house 70 = .ok (.iload_n 2, 1) := by decide +kernel
theorem dX9_house_71 : decode cX9_house 71 = .ok (.iastore, 1) := by decide +kernel
theorem dX9_house_72 : decode cX9_house 72 = .ok (.aload_n 0, 1) := by decide +kernel
theorem dX9_house_73 : decode cX9_house 73 = .ok (.getfield 37, 3) := by decide +kernel
theorem dX9_house_76 : decode cX9_house 76 = .ok (.aload_n 0, 1) := by decide +kernel
theorem dX9_house_77 : decode cX9_house 77 = .ok (.getfield 92, 3) := by decide +kernel
theorem dX9_house_80 : decode cX9_house 80 = .ok (.iload_n 3, 1) := by decide +kernel
theorem dX9_house_81 : decode cX9_house 81 = .ok (.iastore, 1) := by decide +kernel
theorem dX9_house_82 : decode cX9_house 82 = .ok (.aload_n 0, 1) := by decide +kernel
theorem dX9_house_83 : decode cX9_house 83 = .ok (.dup, 1) := by decide +kernel
theorem dX9_house_84 : decode cX9_house 84 = .ok (.getfield 92, 3) := by decide +kernel
theorem dX9_house_87 : decode cX9_house 87 = .ok (.iconst 1, 1) := by decide +kernel
theorem dX9_house_88 : decode cX9_house 88 = .ok (.iadd, 1) := by decide +kernel
theorem dX9_house_89 : decode cX9_house 89 = .ok (.putfield 92, 3) := by decide +kernel
theorem dX9_house_92 : decode cX9_house 92 = .ok (.aload_n 0, 1) := by decide +kernel
theorem dX9_house_93 : decode cX9_house 93 = .ok (.getfield 92, 3) := by decide +kernel
theorem dX9_house_96 : decode cX9_house 96 = .ok (.iconst 1, 1) := by decide +kernel
theorem dX9_house_97 : decode cX9_house 97 = .ok (.isub, 1) := by decide +kernel
theorem dX9_house_98 : decode cX9_house 98 = .ok (.ireturn, 1) := by decide +kernel
set_option maxRecDepth 20000 in
theorem ggX9_change_X9_isHouse : GoodIn wsX9_change wsX9_isHouse := goodIn_r _ [13, 14, 15, 16, 12, 17, 18, 19, 20, 21, 22, 23, 24, 25, 26, 27, 28, 29, 30, 31, 32, 33, 34, 35, 36, 37, 38, 39, 40, 41, 42, 43, 44, 45, 46, 47, 48, 49, 50, 51, 52] (by decide +kernel) (by decide +kernel)
set_option maxRecDepth 20000 in
theorem gX9_change_X9_isHouse : GoodIn wsX9_change (wsV RX9 113 RX9 yX9_isHouse wsX9_isHouse) := goodIn_app (goodIn_of _ (by decide +kernel)) ggX9_change_X9_isHouse
set_option maxRecDepth 20000 in
theorem ggX9_change_X9_in : GoodIn wsX9_change wsX9_in := goodIn_r _ [17] (by decide +kernel) (by decide +kernel)
set_option maxRecDepth 20000 in
theorem gX9_change_X9_in : GoodIn wsX9_change (va_wsS RX9 88 yX9_in wsX9_in) := goodIn_app (goodIn_of _ (by decide +kernel)) ggX9_change_X9_in
theorem dX9_change_0 : decode cX9_change 0 = .ok (.aload_n 0, 1) := by decide +kernel
theorem dX9_change_1 : decode cX9_change 1 = .ok (.iload_n 1, 1) := by decide +kernel
theorem dX9_change_2 : decode cX9_change 2 = .ok (.invokevirtual 113, 3) := by decide +kernel
theorem dX9_change_5 : decode cX9_change 5 = .ok (.ifCond .eq 52, 3) := by decide +kernel
theorem dX9_change_8 : decode cX9_change 8 = .ok (.iload_n 2, 1) := by decide +kernel
theorem dX9_change_9 : decode cX9_change 9 = .ok (.aload_n 0, 1) := by decide +kernel
theorem dX9_change_10 : decode cX9_change 10 = .ok (.getfield 31, 3) := by decide +kernel
theorem dX9_change_13 : decode cX9_change 13 = .ok (.iload_n 1, 1) := by decide +kernel
theorem dX9_change_14 : decode cX9_change 14 = .ok (.iaload, 1) := by decide +kernel
theorem dX9_change_15 : decode cX9_change 15 = .ok (.aload_n 0, 1) := by decide +kernel
theorem dX9_change_16 : decode cX9_change 16 = .ok (.getfield 96, 3) := by decide +kernel
theorem dX9_change_19 : decode cX9_change 19 = .ok (.invokestatic 88, 3) := by decide +kernel
theorem dX9_change_22 : decode cX9_change 22 = .ok (.ifCond .eq 35, 3) := by decide +kernel
theorem dX9_change_25 : decode cX9_change 25 = .ok (.iload_n 3, 1) := by decide +kernel
theorem dX9_change_26 : decode cX9_change 26 = .ok (.iconst 0, 1) := by decide +kernel
theorem dX9_change_27 : decode cX9_change 27 = .ok (.sipush 500, 3) := by decide +kernel
theorem dX9_change_30 : decode cX9_change 30 = .ok (.invokestatic 88, 3) := by decide +kernel
theorem dX9_change_33 : decode cX9_change 33 = .ok (.ifCond .eq 24, 3) := by decide +kernel
theorem dX9_change_36 : decode cX9_change 36 = .ok (.iload 4, 2) := by decide +kernel
theorem dX9_change_38 : decode cX9_change 38 = .ok (.iconst 0, 1) := by decide +kernel
theorem dX9_change_39 : decode cX9_change 39 = .ok (.bipush 20, 2) := by decide +kernel
theorem dX9_change_41 : decode cX9_change 41 = .ok (.invokestatic 88, 3) := by decide +kernel
theorem dX9_change_44 : decode cX9_change 44 = .ok (.ifCond .eq 13, 3) := by decide +kernel
theorem dX9_change_47 : decode cX9_change 47 = .ok (.aload_n 0, 1) := by decide +kernel
theorem dX9_change_48 : decode cX9_change 48 = .ok (.getfield 116, 3) := by decide +kernel
theorem dX9_change_51 : decode cX9_change 51 = .ok (.sipush 200, 3) := by decide +kernel
theorem dX9_change_54 : decode cX9_change 54 = .ok (.if_icmp .ne 5, 3) := by decide +kernel
theorem dX9_change_57 : decode cX9_change 57 = .ok (.iconst 0, 1) := by decide +kernel
theorem dX9_change_58 : decode cX9_change 58 = .ok (.ireturn, 1) := by decide +kernel
theorem dX9_change_59 : decode cX9_change 59 = .ok (.aload_n 0, 1) := by decide +kernel
theorem dX9_change_60 : decode cX9_change 60 = .ok (.getfield 40, 3) := by decide +kernel
theorem dX9_change_63 : decode cX9_change 63 = .ok (.aload_n 0, 1) := by decide +kernel
theorem dX9_change_64 : decode cX9_change 64 = .ok (.getfield 116, 3) := by decide +kernel
theorem dX9_change_67 : decode cX9_change 67 = .ok (.iload_n 1, 1) := by decide +kernel
theorem dX9_change_68 : decode cX9_change 68 = .ok (.iastore, 1) := by decide +kernel
theorem dX9_change_69 : decode cX9_change 69 = .ok (.aload_n 0, 1) := by decide +kernel
theorem dX9_change_70 : decode cX9_change 70 = .ok (.getfield 43, 3) := by decide +kernel
theorem dX9_change_73 : decode cX9_change 73 = .ok (.aload_n 0, 1) := by decide +kernel
theorem dX9_change_74 : decode cX9_change 74 = .ok (.getfield 116, 3) := by decide +kernel
theorem dX9_change_77 : decode cX9_change 77 = .ok (.iload_n 2, 1) := by decide +kernel
theorem dX9_change_78 : decode cX9_change 78 = .ok (.iastore, 1) := by decide +kernel
theorem dX9_change_79 : decode cX9_change 79 = .ok (.aload_n 0, 1) := by decide +kernel
theorem dX9_change_80 : decode cX9_change 80 = .ok (.getfield 46, 3) := by decide +kernel
theorem dX9_change_83 : decode cX9_change 83 = .ok (.aload_n 0, 1) := by decide +kernel
theorem dX9_change_84 : decode cX9_change 84 = .ok (.getfield 116, 3) := by decide +kernel
theorem dX9_change_87 : decode cX9_change 87 = .ok (.aload_n 0, 1) := by decide +kernel
theorem dX9_change_88 : decode cX9_change 88 = .ok (.getfield 96, 3) := by decide +kernel
theorem dX9_change_91 : decode cX9_change 91 = .ok (.iastore, 1) := by decide +kernel
theorem dX9_change_92 : decode cX9_change 92 = .ok (.aload_n 0, 1) := by decide +kernel
theorem dX9_change_93 : decode cX9_change 93 = .ok (.getfield 49, 3) := by decide +kernel
theorem dX9_change_96 : decode cX9_change 96 = .ok (.aload_n 0, 1) := by decide +kernel
theorem dX9_change_97 : decode cX9_change 97 = .ok (.getfield 116, 3) := by decide +kernel
theorem dX9_change_100 : decode cX9_change 100 = .ok (.iload_n 3, 1) := by decide +kernel
theorem dX9_change_101 : decode cX9_change 101 = .ok (.iastore, 1) := by decide +kernel
theorem dX9_change_102 : decode cX9_change 102 = .ok (.aload_n 0, 1) := by decide +kernel
theorem dX9_change_103 : decode cX9_change 103 = .ok (.getfield 52, 3) := by decide +kernel
theorem dX9_change_106 : decode cX9_change 106 = .ok (.aload_n 0, 1) := by decide +kernel
theorem dX9_change_107 : decode cX9_change 107 = .ok (.getfield 116, 3) := by decide +kernel
theorem dX9_change_110 : decode cX9_change 110 = .ok (.iload 4, 2) := by decide +kernel
theorem dX9_change_112 : decode cX9_change 112 = .ok (.iastore, 1) := by decide +kernel
theorem dX9_change_113 : decode cX9_change 113 = .ok (.aload_n 0, 1) := by decide +kernel
theorem dX9_change_114 : decode cX9_change 114 = .ok (.dup, 1) := by decide +kernel
theorem dX9_change_115 : decode cX9_change 115 = .ok (.getfield 116, 3) := by decide +kernel
theorem dX9_change_118 : decode cX9_change 118 = .ok (.iconst 1, 1) := by decide +kernel
theorem dX9_change_119 : decode cX9_change 119 = .ok (.iadd, 1) := by decide +kernel
theorem dX9_change_120 : decode cX9_change 120 = .ok (.putfield 116, 3) := by decide +kernel
theorem dX9_change_123 : decode cX9_change 123 = .ok (.iconst 1, 1) := by decide +kernel
theorem dX9_change_124 : decode cX9_change 124 = .ok (.ireturn, 1) := by decide +kernel
theorem dX9_isListed_0 : decode cX9_isListed 0 = .ok (.aload_n 0, 1) := by decide +kernel
theorem dX9_isListed_1 : decode cX9_isListed 1 = .ok (.getfield 31, 3) := by decide +kernel
theorem dX9_isListed_4 : decode cX9_isListed 4 = .ok (.iload_n 1, 1) := by decide +kernel
theorem dX9_isListed_5 : decode cX9_isListed 5 = .ok (.iaload, 1) := by decide +kernel
theorem dX9_isListed_6 : decode cX9_isListed 6 = .ok (.bipush 52, 2) := by decide +kernel
theorem dX9_isListed_8 : decode cX9_isListed 8 = .ok (.iload_n 2, 1) := by decide +kernel
theorem dX9_isListed_9 : decode cX9_isListed 9 = .ok (.imul, 1) := by decide +kernel
theorem dX9_isListed_10 : decode cX9_isListed 10 = .ok (.if_icmp .ge 7, 3) := by decide +kernel
theorem dX9_isListed_13 : decode cX9_isListed 13 = .ok (.iconst 1, 1) := by decide +kernel
theorem dX9_isListed_14 : decode cX9_isListed 14 = .ok (.goto 4, 3) := by decide +kernel
theorem dX9_isListed_17 : decode cX9_isListed 17 = .ok (.iconst 0, 1) := by decide +kernel
theorem dX9_isListed_18 : decode cX9_isListed 18 = .ok (.ireturn, 1) := by decide +kernel
theorem dX9_listedOf_0 : decode cX9_listedOf 0 = .ok (.iload_n 3, 1) := by decide +kernel
theorem dX9_listedOf_1 : decode cX9_listedOf 1 = .ok (.ifCond .ne 12, 3) := by decide +kernel
theorem dX9_listedOf_4 : decode cX9_listedOf 4 = .ok (.aload_n 0, 1) := by decide +kernel
theorem dX9_listedOf_5 : decode cX9_listedOf 5 = .ok (.getfield 34, 3) := by decide +kernel
theorem dX9_listedOf_8 : decode cX9_listedOf 8 = .ok (.iload_n 1, 1) := by decide +kernel
theorem dX9_listedOf_9 : decode cX9_listedOf 9 = .ok (.iaload, 1) := by decide +kernel
theorem dX9_listedOf_10 : decode cX9_listedOf 10 = .ok (.goto 9, 3) := by decide +kernel
theorem dX9_listedOf_13 : decode cX9_listedOf 13 = .ok (.aload_n 0, 1) := by decide +kernel
theorem dX9_listedOf_14 : decode cX9_listedOf 14 = .ok (.getfield 37, 3) := by decide +kernel
theorem dX9_listedOf_17 : decode cX9_listedOf 17 = .ok (.iload_n 1, 1) := by decide +kernel
theorem dX9_listedOf_18 : decode cX9_listedOf 18 = .ok (.iaload, 1) := by decide +kernel
theorem dX9_listedOf_19 : decode cX9_listedOf 19 = .ok (.istore 4, 2) := by decide +kernel
theorem dX9_listedOf_21 : decode cX9_listedOf 21 = .ok (.iconst 0, 1) := by decide +kernel
theorem dX9_listedOf_22 : decode cX9_listedOf 22 = .ok (.istore 5, 2) := by decide +kernel
theorem dX9_listedOf_24 : decode cX9_listedOf 24 = .ok (.iload 5, 2) := by decide +kernel
theorem dX9_listedOf_26 : decode cX9_listedOf 26 = .ok (.aload_n 0, 1) := by decide +kernel
theorem dX9_listedOf_27 : decode cX9_listedOf 27 = .ok (.getfield 116, 3) := by decide +kernel
theorem dX9_listedOf_30 : decode cX9_listedOf 30 = .ok (.if_icmp .ge 57, 3) := by decide +kernel
theorem dX9_listedOf_33 : decode cX9_listedOf 33 = .ok (.aload_n 0, 1) := by decide +kernel
theorem dX9_listedOf_34 : decode cX9_listedOf 34 = .ok (.getfield 40, 3) := by decide +kernel
theorem dX9_listedOf_37 : decode cX9_listedOf 37 = .ok (.iload 5, 2) := by decide +kernel
theorem dX9_listedOf_39 : decode cX9_listedOf 39 = .ok (.iaload, 1) := by decide +kernel
theorem dX9_listedOf_40 : decode cX9_listedOf 40 = .ok (.iload_n 1, 1) := by decide +kernel
theorem dX9_listedOf_41 : decode cX9_listedOf 41 = .ok (.if_icmp .ne 40, 3) := by decide +kernel
theorem dX9_listedOf_44 : decode cX9_listedOf 44 = .ok (.aload_n 0, 1) := by decide +kernel
theorem dX9_listedOf_45 : decode cX9_listedOf 45 = .ok (.getfield 46, 3) := by decide +kernel
theorem dX9_listedOf_48 : decode cX9_listedOf 48 = .ok (.iload 5, 2) := by decide +kernel
theorem dX9_listedOf_50 : decode cX9_listedOf 50 = .ok (.iaload, 1) := by decide +kernel
theorem dX9_listedOf_51 : decode cX9_listedOf 51 = .ok (.bipush 52, 2) := by decide +kernel
theorem dX9_listedOf_53 : decode cX9_listedOf 53 = .ok (.iload_n 2, 1) := by decide +kernel
theorem dX9_listedOf_54 : decode cX9_listedOf 54 = .ok (.imul, 1) := by decide +kernel
theorem dX9_listedOf_55 : decode cX9_listedOf 55 = .ok (.if_icmp .ge 26, 3) := by decide +kernel
theorem dX9_listedOf_58 : decode cX9_listedOf 58 = .ok (.iload_n 3, 1) := by decide +kernel
theorem dX9_listedOf_59 : decode cX9_listedOf 59 = .ok (.ifCond .ne 13, 3) := by decide +kernel
theorem dX9_listedOf_62 : decode cX9_listedOf 62 = .ok (.aload_n 0, 1) := by decide +kernel
theorem dX9_listedOf_63 : decode cX9_listedOf 63 = .ok (.getfield 49, 3) := by decide +kernel
theorem dX9_listedOf_66 : decode cX9_listedOf 66 = .ok (.iload 5, 2) := by decide +kernel
theorem dX9_listedOf_68 : decode cX9_listedOf 68 = .ok (.iaload, 1) := by decide +kernel
theorem dX9_listedOf_69 : decode cX9_listedOf 69 = .ok (.goto 10, 3) := by decide +kernel
theorem dX9_listedOf_72 : decode cX9_listedOf 72 = .ok (.aload_n 0, 1) := by decide +kernel
theorem dX9_listedOf_73 : decode cX9_listedOf 73 = .ok (.getfield 52, 3) := by decide +kernel
theorem dX9_listedOf_76 : decode cX9_listedOf 76 = .ok (.iload 5, 2) := by decide +kernel
theorem dX9_listedOf_78 : decode cX9_listedOf 78 = .ok (.iaload, 1) := by decide +kernel
theorem dX9_listedOf_79 : decode cX9_listedOf 79 = .ok (.istore 4, 2) := by decide +kernel
theorem dX9_listedOf_81 : decode cX9_listedOf 81 = .ok (.iinc 5 1, 3) := by decide +kernel
theorem dX9_listedOf_84 : decode cX9_listedOf 84 = .ok (.goto (-60), 3) := by decide +kernel
theorem dX9_listedOf_87 : decode cX9_listedOf 87 = .ok (.iload 4, 2) := by decide +kernel
theorem dX9_listedOf_89 : decode cX9_listedOf 89 = .ok (.ireturn, 1) := by decide +kernel
set_option maxRecDepth 20000 in
theorem ggX9_listed_X9_isHouse : GoodIn wsX9_listed wsX9_isHouse := goodIn_r _ [5, 6, 7, 8, 4, 9, 31, 32, 33, 34, 35, 36, 37, 38, 39, 40, 41, 42, 43, 44, 45, 46, 47, 48, 49, 50, 51, 52, 53, 54, 55, 56, 57, 58, 59, 60, 61, 62, 63, 64, 65] (by decide +kernel) (by decide +kernel)
set_option maxRecDepth 20000 in
theorem gX9_listed_X9_isHouse : GoodIn wsX9_listed (wsV RX9 113 RX9 yX9_isHouse wsX9_isHouse) := goodIn_app (goodIn_of _ (by decide +kernel)) ggX9_listed_X9_isHouse
set_option maxRecDepth 20000 in
theorem ggX9_listed_X9_isYear : GoodIn wsX9_listed wsX9_isYear := goodIn_r _ [13, 14, 7, 8, 4, 9, 31, 32, 33, 34, 35, 36, 37, 38, 39, 40, 41, 42, 43, 44, 45, 46, 47, 48, 49, 50, 51, 52, 53, 54, 55, 56, 57, 58, 59, 60, 61, 62, 63, 64, 65] (by decide +kernel) (by decide +kernel)
set_option maxRecDepth 20000 in
theorem gX9_listed_X9_isYear : GoodIn wsX9_listed (wsV RX9 119 RX9 yX9_isYear wsX9_isYear) := goodIn_app (goodIn_of _ (by decide +kernel)) ggX9_listed_X9_isYear
set_option maxRecDepth 20000 in
theorem ggX9_listed_X9_in : GoodIn wsX9_listed wsX9_in := goodIn_r _ [9] (by decide +kernel) (by decide +kernel)
set_option maxRecDepth 20000 in
theorem gX9_listed_X9_in : GoodIn wsX9_listed (va_wsS RX9 88 yX9_in wsX9_in) := goodIn_app (goodIn_of _ (by decide +kernel)) ggX9_listed_X9_in
set_option maxRecDepth 20000 in
theorem ggX9_listed_X9_isListed : GoodIn wsX9_listed wsX9_isListed := goodIn_r _ [18, 19, 31, 32, 33, 34, 35, 36, 37, 38, 39, 40, 41, 42, 43, 44, 45, 46, 47, 48, 49, 50, 51, 52, 53, 54, 55, 56, 57, 58, 59, 60, 61, 62, 63, 64, 65] (by decide +kernel) (by decide +kernel)
set_option maxRecDepth 20000 in
theorem gX9_listed_X9_isListed : GoodIn wsX9_listed (wsV RX9 122 RX9 yX9_isListed wsX9_isListed) := goodIn_app (goodIn_of _ (by decide +kernel)) ggX9_listed_X9_isListed
set_option maxRecDepth 20000 in
theorem ggX9_listed_X9_listedOf : GoodIn wsX9_listed wsX9_listedOf := goodIn_r _ [23, 24, 25, 26, 27, 28, 29, 30, 31, 32, 33, 34, 35, 36, 37, 38, 39, 40, 41, 42, 43, 44, 45, 46, 47, 48, 49, 50, 51, 52, 53, 54, 55, 56, 57, 58, 59, 60, 61, 62, 63, 64, 65] (by decide +kernel) (by decide +kernel)
set_option maxRecDepth 20000 in
theorem gX9_listed_X9_listedOf : GoodIn wsX9_listed (wsV RX9 126 RX9 yX9_listedOf wsX9_listedOf) := goodIn_app (goodIn_of _ (by decide +kernel)) ggX9_listed_X9_listedOf
theorem dX9_listed_0 : decode cX9_listed 0 = .ok (.aload_n 0, 1) := by decide +kernel
theorem dX9_listed_1 : decode cX9_listed 1 = .ok (.iload_n 1, 1) := by decide +kernel
theorem dX9_listed_2 : decode cX9_listed 2 = .ok (.invokevirtual 113, 3) := by decide +kernel
theorem dX9_listed_5 : decode cX9_listed 5 = .ok (.ifCond .eq 29, 3) := by decide +kernel
theorem dX9_listed_8 : decode cX9_listed 8 = .ok (.aload_n 0, 1) := by decide +kernel
theorem dX9_listed_9 : decode cX9_listed 9 = .ok (.iload_n 2, 1) := by decide +kernel
theorem dX9_listed_10 : decode cX9_listed 10 = .ok (.invokevirtual 119, 3) := by decide +kernel
theorem dX9_listed_13 : decode cX9_listed 13 = .ok (.ifCond .eq 21, 3) := by decide +kernel
theorem dX9_listed_16 : decode cX9_listed 16 = .ok (.iload_n 3, 1) := by decide +kernel
theorem dX9_listed_17 : decode cX9_listed 17 = .ok (.iconst 0, 1) := by decide +kernel
theorem dX9_listed_18 : decode cX9_listed 18 = .ok (.iconst 1, 1) := by decide +kernel
theorem dX9_listed_19 : decode cX9_listed 19 = .ok (.invokestatic 88, 3) := by decide +kernel
theorem dX9_listed_22 : decode cX9_listed 22 = .ok (.ifCond .eq 12, 3) := by decide +kernel
theorem dX9_listed_25 : decode cX9_listed 25 = .ok (.aload_n 0, 1) := by decide +kernel
theorem dX9_listed_26 : decode cX9_listed 26 = .ok (.iload_n 1, 1) := by decide +kernel
theorem dX9_listed_27 : decode cX9_listed 27 = .ok (.iload_n 2, 1) := by decide +kernel
theorem dX9_listed_28 : decode cX9_listed 28 = .ok (.invokevirtual 122, 3) := by decide +kernel
theorem dX9_listed_31 : decode cX9_listed 31 = .ok (.ifCond .ne 5, 3) := by decide +kernel
theorem dX9_listed_34 : decode cX9_listed 34 = .ok (.iconst (-1), 1) := by decide +kernel
theorem dX9_listed_35 : decode cX9_listed 35 = .ok (.ireturn, 1) := by decide +kernel
theorem dX9_listed_36 : decode cX9_listed 36 = .ok (.aload_n 0, 1) := by decide +kernel
theorem dX9_listed_37 : decode cX9_listed 37 = .ok (.iload_n 1, 1) := by decide +kernel
theorem dX9_listed_38 : decode cX9_listed 38 = .ok (.iload_n 2, 1) := by decide +kernel
theorem dX9_listed_39 : decode cX9_listed 39 = .ok (.iload_n 3, 1) := by decide +kernel
theorem dX9_listed_40 : decode cX9_listed 40 = .ok (.invokevirtual 126, 3) := by decide +kernel
theorem dX9_listed_43 : decode cX9_listed 43 = .ok (.ireturn, 1) := by decide +kernel
theorem dX9_trueHands_0 : decode cX9_trueHands 0 = .ok (.iload_n 2, 1) := by decide +kernel
theorem dX9_trueHands_1 : decode cX9_trueHands 1 = .ok (.aload_n 0, 1) := by decide +kernel
theorem dX9_trueHands_2 : decode cX9_trueHands 2 = .ok (.getfield 31, 3) := by decide +kernel
theorem dX9_trueHands_5 : decode cX9_trueHands 5 = .ok (.iload_n 1, 1) := by decide +kernel
theorem dX9_trueHands_6 : decode cX9_trueHands 6 = .ok (.iaload, 1) := by decide +kernel
theorem dX9_trueHands_7 : decode cX9_trueHands 7 = .ok (.if_icmp .ge 5, 3) := by decide +kernel
theorem dX9_trueHands_10 : decode cX9_trueHands 10 = .ok (.iconst 0, 1) := by decide +kernel
theorem dX9_trueHands_11 : decode cX9_trueHands 11 = .ok (.ireturn, 1) := by decide +kernel
theorem dX9_trueHands_12 : decode cX9_trueHands 12 = .ok (.aload_n 0, 1) := by decide +kernel
theorem dX9_trueHands_13 : decode cX9_trueHands 13 = .ok (.getfield 31, 3) := by decide +kernel
theorem dX9_trueHands_16 : decode cX9_trueHands 16 = .ok (.iload_n 1, 1) := by decide +kernel
theorem dX9_trueHands_17 : decode cX9_trueHands 17 = .ok (.iaload, 1) := by decide +kernel
theorem dX9_trueHands_18 : decode cX9_trueHands 18 = .ok (.istore_n 3, 1) := by decide +kernel
theorem dX9_trueHands_19 : decode cX9_trueHands 19 = .ok (.aload_n 0, 1) := by decide +kernel
theorem dX9_trueHands_20 : decode cX9_trueHands 20 = .ok (.getfield 37, 3) := by decide +kernel
theorem dX9_trueHands_23 : decode cX9_trueHands 23 = .ok (.iload_n 1, 1) := by decide +kernel
theorem dX9_trueHands_24 : decode cX9_trueHands 24 = .ok (.iaload, 1) := by decide +kernel
theorem dX9_trueHands_25 : decode cX9_trueHands 25 = .ok (.istore 4, 2) := by decide +kernel
theorem dX9_trueHands_27 : decode cX9_trueHands 27 = .ok (.iconst 0, 1) := by decide +kernel
theorem dX9_trueHands_28 : decode cX9_trueHands 28 = .ok (.istore 5, 2) := by decide +kernel
theorem dX9_trueHands_30 : decode cX9_trueHands 30 = .ok (.iload 5, 2) := by decide +kernel
theorem dX9_trueHands_32 : decode cX9_trueHands 32 = .ok (.aload_n 0, 1) := by decide +kernel
theorem dX9_trueHands_33 : decode cX9_trueHands 33 = .ok (.getfield 116, 3) := by decide +kernel
theorem dX9_trueHands_36 : decode cX9_trueHands 36 = .ok (.if_icmp .ge 62, 3) := by decide +kernel
theorem dX9_trueHands_39 : decode cX9_trueHands 39 = .ok (.aload_n 0, 1) := by decide +kernel
theorem dX9_trueHands_40 : decode cX9_trueHands 40 = .ok (.getfield 40, 3) := by decide +kernel
theorem dX9_trueHands_43 : decode cX9_trueHands 43 = .ok (.iload 5, 2) := by decide +kernel
theorem dX9_trueHands_45 : decode cX9_trueHands 45 = .ok (.iaload, 1) := by decide +kernel
theorem dX9_trueHands_46 : decode cX9_trueHands 46 = .ok (.iload_n 1, 1) := by decide +kernel
theorem dX9_trueHands_47 : decode cX9_trueHands 47 = .ok (.if_icmp .ne 45, 3) := by decide +kernel
theorem dX9_trueHands_50 : decode cX9_trueHands 50 = .ok (.aload_n 0, 1) := by decide +kernel
theorem dX9_trueHands_51 : decode cX9_trueHands 51 = .ok (.getfield 43, 3) := by decide +kernel
theorem dX9_trueHands_54 : decode cX9_trueHands 54 = .ok (.iload 5, 2) := by decide +kernel
theorem dX9_trueHands_56 : decode cX9_trueHands 56 = .ok (.iaload, 1) := by decide +kernel
theorem dX9_trueHands_57 : decode cX9_trueHands 57 = .ok (.iload_n 2, 1) := by decide +kernel
theorem dX9_trueHands_58 : decode cX9_trueHands 58 = .ok (.if_icmp .gt 34, 3) := by decide +kernel
theorem dX9_trueHands_61 : decode cX9_trueHands 61 = .ok (.aload_n 0, 1) := by decide +kernel
theorem dX9_trueHands_62 : decode cX9_trueHands 62 = .ok (.getfield 43, 3) := by decide +kernel
theorem dX9_trueHands_65 : decode cX9_trueHands 65 = .ok (.iload 5, 2) := by decide +kernel
theorem dX9_trueHands_67 : decode cX9_trueHands 67 = .ok (.iaload, 1) := by decide +kernel
theorem dX9_trueHands_68 : decode cX9_trueHands 68 = .ok (.iload_n 3, 1) := by decide +kernel
theorem dX9_trueHands_69 : decode cX9_trueHands 69 = .ok (.if_icmp .ge 6, 3) := by decide +kernel
theorem dX9_trueHands_72 : decode cX9_trueHands 72 = .ok (.goto 20, 3) := by decide +kernel
theorem dX9_trueHands_75 : decode cX9_trueHands 75 = .ok (.aload_n 0, 1) := by decide +kernel
theorem dX9_trueHands_76 : decode cX9_trueHands 76 = .ok (.getfield 43, 3) := by decide +kernel
theorem dX9_trueHands_79 : decode cX9_trueHands 79 = .ok (.iload 5, 2) := by decide +kernel
theorem dX9_trueHands_81 : decode cX9_trueHands 81 = .ok (.iaload, 1) := by decide +kernel
theorem dX9_trueHands_82 : decode cX9_trueHands 82 = .ok (.istore_n 3, 1) := by decide +kernel
theorem dX9_trueHands_83 : decode cX9_trueHands 83 = .ok (.aload_n 0, 1) := by decide +kernel
theorem dX9_trueHands_84 : decode cX9_trueHands 84 = .ok (.getfield 52, 3) := by decide +kernel
theorem dX9_trueHands_87 : decode cX9_trueHands 87 = .ok (.iload 5, 2) := by decide +kernel
theorem dX9_trueHands_89 : decode cX9_trueHands 89 = .ok (.iaload, 1) := by decide +kernel
theorem dX9_trueHands_90 : decode cX9_trueHands 90 = .ok (.istore 4, 2) := by decide +kernel
theorem dX9_trueHands_92 : decode cX9_trueHands 92 = .ok (.iinc 5 1, 3) := by decide +kernel
theorem dX9_trueHands_95 : decode cX9_trueHands 95 = .ok (.goto (-65), 3) := by decide +kernel
theorem dX9_trueHands_98 : decode cX9_trueHands 98 = .ok (.iload 4, 2) := by decide +kernel
theorem dX9_trueHands_100 : decode cX9_trueHands 100 = .ok (.ireturn, 1) := by decide +kernel
set_option maxRecDepth 20000 in
theorem ggX9_villageHands_X9_trueHands : GoodIn wsX9_villageHands wsX9_trueHands := goodIn_r _ [7, 8, 9, 10, 11, 12, 13, 14, 15, 16, 17, 18, 19, 20, 21, 22, 23, 24, 25, 26, 27, 28, 29, 30, 31, 32, 33, 34, 35, 36, 37, 38, 39, 40, 41, 42, 43, 44, 45, 46, 47, 48] (by decide +kernel) (by decide +kernel)
set_option maxRecDepth 20000 in
theorem gX9_villageHands_X9_trueHands : GoodIn wsX9_villageHands (wsV RX9 130 RX9 yX9_trueHands wsX9_trueHands) := goodIn_app (goodIn_of _ (by decide +kernel)) ggX9_villageHands_X9_trueHands
theorem dX9_villageHands_0 : decode cX9_villageHands 0 = .ok (.iconst 0, 1) := by decide +kernel
theorem dX9_villageHands_1 : decode cX9_villageHands 1 = .ok (.istore_n 3, 1) := by decide +kernel
theorem dX9_villageHands_2 : decode cX9_villageHands 2 = .ok (.iconst 0, 1) := by decide +kernel
theorem dX9_villageHands_3 : decode cX9_villageHands 3 = .ok (.istore 4, 2) := by decide +kernel
theorem dX9_villageHands_5 : decode cX9_villageHands 5 = .ok (.iload 4, 2) := by decide +kernel
theorem dX9_villageHands_7 : decode cX9_villageHands 7 = .ok (.aload_n 0, 1) := by decide +kernel
theorem dX9_villageHands_8 : decode cX9_villageHands 8 = .ok (.getfield 92, 3) := by decide +kernel
theorem dX9_villageHands_11 : decode cX9_villageHands 11 = .ok (.if_icmp .ge 34, 3) := by decide +kernel
theorem dX9_villageHands_14 : decode cX9_villageHands 14 = .ok (.iload_n 3, 1) := by decide +kernel
theorem dX9_villageHands_15 : decode cX9_villageHands 15 = .ok (.aload_n 0, 1) := by decide +kernel
theorem dX9_villageHands_16 : decode cX9_villageHands 16 = .ok (.getfield 28, 3) := by decide +kernel
theorem dX9_villageHands_19 : decode cX9_villageHands 19 = .ok (.iload 4, 2) := by decide +kernel
theorem dX9_villageHands_21 : decode cX9_villageHands 21 = .ok (.iaload, 1) := by decide +kernel
theorem dX9_villageHands_22 : decode cX9_villageHands 22 = .ok (.iload_n 1, 1) := by decide +kernel
theorem dX9_villageHands_23 : decode cX9_villageHands 23 = .ok (.if_icmp .ne 13, 3) := by decide +kernel
theorem dX9_villageHands_26 : decode cX9_villageHands 26 = .ok (.aload_n 0, 1) := by decide +kernel
theorem dX9_villageHands_27 : decode cX9_villageHands 27 = .ok (.iload 4, 2) := by decide +kernel
theorem dX9_villageHands_29 : decode cX9_villageHands 29 = .ok (.iload_n 2, 1) := by decide +kernel
theorem dX9_villageHands_30 : decode cX9_villageHands 30 = .ok (.invokevirtual 130, 3) := by decide +kernel
theorem dX9_villageHands_33 : decode cX9_villageHands 33 = .ok (.goto 4, 3) := by decide +kernel
theorem dX9_villageHands_36 : decode cX9_villageHands 36 = .ok (.iconst 0, 1) := by decide +kernel
theorem dX9_villageHands_37 : decode cX9_villageHands 37 = .ok (.iadd, 1) := by decide +kernel
theorem dX9_villageHands_38 : decode cX9_villageHands 38 = .ok (.istore_n 3, 1) := by decide +kernel
theorem dX9_villageHands_39 : decode cX9_villageHands 39 = .ok (.iinc 4 1, 3) := by decide +kernel
theorem dX9_villageHands_42 : decode cX9_villageHands 42 = .ok (.goto (-37), 3) := by decide +kernel
theorem dX9_villageHands_45 : decode cX9_villageHands 45 = .ok (.iload_n 3, 1) := by decide +kernel
theorem dX9_villageHands_46 : decode cX9_villageHands 46 = .ok (.ireturn, 1) := by decide +kernel
set_option maxRecDepth 20000 in
theorem ggX9_owedOf_X9_lawOf : GoodIn wsX9_owedOf wsX9_lawOf := goodIn_r _ [6, 7, 8, 25, 26, 27, 28, 29, 30, 31, 32, 33, 34, 35, 36, 37, 38, 39, 40, 41, 42, 43, 44, 45, 46, 47, 48, 49, 50, 51, 52, 53, 54, 55, 56, 57, 58, 59] (by decide +kernel) (by decide +kernel)
set_option maxRecDepth 20000 in
theorem gX9_owedOf_X9_lawOf : GoodIn wsX9_owedOf (wsV RX9 109 RX9 yX9_lawOf wsX9_lawOf) := goodIn_app (goodIn_of _ (by decide +kernel)) ggX9_owedOf_X9_lawOf
set_option maxRecDepth 20000 in
theorem ggX9_owedOf_X9_isListed : GoodIn wsX9_owedOf wsX9_isListed := goodIn_r _ [12, 13, 25, 26, 27, 28, 29, 30, 31, 32, 33, 34, 35, 36, 37, 38, 39, 40, 41, 42, 43, 44, 45, 46, 47, 48, 49, 50, 51, 52, 53, 54, 55, 56, 57, 58, 59] (by decide +kernel) (by decide +kernel)
set_option maxRecDepth 20000 in
theorem gX9_owedOf_X9_isListed : GoodIn wsX9_owedOf (wsV RX9 122 RX9 yX9_isListed wsX9_isListed) := goodIn_app (goodIn_of _ (by decide +kernel)) ggX9_owedOf_X9_isListed
set_option maxRecDepth 20000 in
theorem ggX9_owedOf_X9_listedOf : GoodIn wsX9_owedOf wsX9_listedOf := goodIn_r _ [17, 18, 19, 20, 21, 22, 23, 24, 25, 26, 27, 28, 29, 30, 31, 32, 33, 34, 35, 36, 37, 38, 39, 40, 41, 42, 43, 44, 45, 46, 47, 48, 49, 50, 51, 52, 53, 54, 55, 56, 57, 58, 59] (by decide +kernel) (by decide +kernel)
set_option maxRecDepth 20000 in
theorem gX9_owedOf_X9_listedOf : GoodIn wsX9_owedOf (wsV RX9 126 RX9 yX9_listedOf wsX9_listedOf) := goodIn_app (goodIn_of _ (by decide +kernel)) ggX9_owedOf_X9_listedOf
theorem dX9_owedOf_0 : decode cX9_owedOf 0 = .ok (.aload_n 0, 1) := by decide +kernel
theorem dX9_owedOf_1 : decode cX9_owedOf 1 = .ok (.iload_n 2, 1) := by decide +kernel
theorem dX9_owedOf_2 : decode cX9_owedOf 2 = .ok (.invokevirtual 109, 3) := by decide +kernel
theorem dX9_owedOf_5 : decode cX9_owedOf 5 = .ok (.istore_n 3, 1) := by decide +kernel
theorem dX9_owedOf_6 : decode cX9_owedOf 6 = .ok (.iload_n 3, 1) := by decide +kernel
theorem dX9_owedOf_7 : decode cX9_owedOf 7 = .ok (.iconst (-1), 1) := by decide +kernel
theorem dX9_owedOf_8 : decode cX9_owedOf 8 = .ok (.if_icmp .eq 12, 3) := by decide +kernel
theorem dX9_owedOf_11 : decode cX9_owedOf 11 = .ok (.aload_n 0, 1) := by decide +kernel
theorem dX9_owedOf_12 : decode cX9_owedOf 12 = .ok (.iload_n 1, 1) := by decide +kernel
theorem dX9_owedOf_13 : decode cX9_owedOf 13 = .ok (.iload_n 2, 1) := by decide +kernel
theorem dX9_owedOf_14 : decode cX9_owedOf 14 = .ok (.invokevirtual 122, 3) := by decide +kernel
theorem dX9_owedOf_17 : decode cX9_owedOf 17 = .ok (.ifCond .ne 5, 3) := by decide +kernel
theorem dX9_owedOf_20 : decode cX9_owedOf 20 = .ok (.iconst 0, 1) := by decide +kernel
theorem dX9_owedOf_21 : decode cX9_owedOf 21 = .ok (.ireturn, 1) := by decide +kernel
theorem dX9_owedOf_22 : decode cX9_owedOf 22 = .ok (.aload_n 0, 1) := by decide +kernel
theorem dX9_owedOf_23 : decode cX9_owedOf 23 = .ok (.iload_n 1, 1) := by decide +kernel
theorem dX9_owedOf_24 : decode cX9_owedOf 24 = .ok (.iload_n 2, 1) := by decide +kernel
theorem dX9_owedOf_25 : decode cX9_owedOf 25 = .ok (.iconst 0, 1) := by decide +kernel
theorem dX9_owedOf_26 : decode cX9_owedOf 26 = .ok (.invokevirtual 126, 3) := by decide +kernel
theorem dX9_owedOf_29 : decode cX9_owedOf 29 = .ok (.istore 4, 2) := by decide +kernel
theorem dX9_owedOf_31 : decode cX9_owedOf 31 = .ok (.iload 4, 2) := by decide +kernel
theorem dX9_owedOf_33 : decode cX9_owedOf 33 = .ok (.aload_n 0, 1) := by decide +kernel
theorem dX9_owedOf_34 : decode cX9_owedOf 34 = .ok (.getfield 58, 3) := by decide +kernel
theorem dX9_owedOf_37 : decode cX9_owedOf 37 = .ok (.iload_n 3, 1) := by decide +kernel
theorem dX9_owedOf_38 : decode cX9_owedOf 38 = .ok (.iaload, 1) := by decide +kernel
theorem dX9_owedOf_39 : decode cX9_owedOf 39 = .ok (.sipush 1000, 3) := by decide +kernel
theorem dX9_owedOf_42 : decode cX9_owedOf 42 = .ok (.irem, 1) := by decide +kernel
theorem dX9_owedOf_43 : decode cX9_owedOf 43 = .ok (.if_icmp .ge 5, 3) := by decide +kernel
theorem dX9_owedOf_46 : decode cX9_owedOf 46 = .ok (.iconst 0, 1) := by decide +kernel
theorem dX9_owedOf_47 : decode cX9_owedOf 47 = .ok (.ireturn, 1) := by decide +kernel
theorem dX9_owedOf_48 : decode cX9_owedOf 48 = .ok (.iload 4, 2) := by decide +kernel
theorem dX9_owedOf_50 : decode cX9_owedOf 50 = .ok (.bipush 10, 2) := by decide +kernel
theorem dX9_owedOf_52 : decode cX9_owedOf 52 = .ok (.idiv, 1) := by decide +kernel
theorem dX9_owedOf_53 : decode cX9_owedOf 53 = .ok (.aload_n 0, 1) := by decide +kernel
theorem dX9_owedOf_54 : decode cX9_owedOf 54 = .ok (.getfield 58, 3) := by decide +kernel
theorem dX9_owedOf_57 : decode cX9_owedOf 57 = .ok (.iload_n 3, 1) := by decide +kernel
theorem dX9_owedOf_58 : decode cX9_owedOf 58 = .ok (.iaload, 1) := by decide +kernel
theorem dX9_owedOf_59 : decode cX9_owedOf 59 = .ok (.sipush 10000, 3) := by decide +kernel
theorem dX9_owedOf_62 : decode cX9_owedOf 62 = .ok (.idiv, 1) := by decide +kernel
theorem dX9_owedOf_63 : decode cX9_owedOf 63 = .ok (.imul, 1) := by decide +kernel
theorem dX9_owedOf_64 : decode cX9_owedOf 64 = .ok (.aload_n 0, 1) := by decide +kernel
theorem dX9_owedOf_65 : decode cX9_owedOf 65 = .ok (.iload_n 1, 1) := by decide +kernel
theorem dX9_owedOf_66 : decode cX9_owedOf 66 = .ok (.iload_n 2, 1) := by decide +kernel
theorem dX9_owedOf_67 : decode cX9_owedOf 67 = .ok (.iconst 1, 1) := by decide +kernel
theorem dX9_owedOf_68 : decode cX9_owedOf 68 = .ok (.invokevirtual 126, 3) := by decide +kernel
theorem dX9_owedOf_71 : decode cX9_owedOf 71 = .ok (.aload_n 0, 1) := by decide +kernel
theorem dX9_owedOf_72 : decode cX9_owedOf 72 = .ok (.getfield 58, 3) := by decide +kernel
theorem dX9_owedOf_75 : decode cX9_owedOf 75 = .ok (.iload_n 3, 1) := by decide +kernel
theorem dX9_owedOf_76 : decode cX9_owedOf 76 = .ok (.iaload, 1) := by decide +kernel
theorem dX9_owedOf_77 : decode cX9_owedOf 77 = .ok (.sipush 1000, 3) := by decide +kernel
theorem dX9_owedOf_80 : decode cX9_owedOf 80 = .ok (.idiv, 1) := by decide +kernel
theorem dX9_owedOf_81 : decode cX9_owedOf 81 = .ok (.bipush 10, 2) := by decide +kernel
theorem dX9_owedOf_83 : decode cX9_owedOf 83 = .ok (.irem, 1) := by decide +kernel
theorem dX9_owedOf_84 : decode cX9_owedOf 84 = .ok (.imul, 1) := by decide +kernel
theorem dX9_owedOf_85 : decode cX9_owedOf 85 = .ok (.iadd, 1) := by decide +kernel
theorem dX9_owedOf_86 : decode cX9_owedOf 86 = .ok (.ireturn, 1) := by decide +kernel
set_option maxRecDepth 20000 in
theorem ggX9_owed_X9_isHouse : GoodIn wsX9_owed wsX9_isHouse := goodIn_r _ [5, 6, 7, 8, 4, 9, 42, 43, 44, 45, 46, 47, 48, 49, 50, 51, 52, 53, 54, 55, 56, 57, 58, 59, 60, 61, 62, 63, 64, 65, 66, 67, 68, 69, 70, 71, 72, 73, 74, 75, 76] (by decide +kernel) (by decide +kernel)
set_option maxRecDepth 20000 in
theorem gX9_owed_X9_isHouse : GoodIn wsX9_owed (wsV RX9 113 RX9 yX9_isHouse wsX9_isHouse) := goodIn_app (goodIn_of _ (by decide +kernel)) ggX9_owed_X9_isHouse
set_option maxRecDepth 20000 in
theorem ggX9_owed_X9_isYear : GoodIn wsX9_owed wsX9_isYear := goodIn_r _ [13, 14, 7, 8, 4, 9, 42, 43, 44, 45, 46, 47, 48, 49, 50, 51, 52, 53, 54, 55, 56, 57, 58, 59, 60, 61, 62, 63, 64, 65, 66, 67, 68, 69, 70, 71, 72, 73, 74, 75, 76] (by decide +kernel) (by decide +kernel)
set_option maxRecDepth 20000 in
theorem gX9_owed_X9_isYear : GoodIn wsX9_owed (wsV RX9 119 RX9 yX9_isYear wsX9_isYear) := goodIn_app (goodIn_of _ (by decide +kernel)) ggX9_owed_X9_isYear
set_option maxRecDepth 20000 in
theorem ggX9_owed_X9_owedOf : GoodIn wsX9_owed wsX9_owedOf := goodIn_r _ [18, 19, 20, 21, 22, 4, 23, 24, 25, 26, 27, 28, 29, 30, 31, 32, 33, 34, 35, 36, 37, 38, 39, 40, 41, 42, 43, 44, 45, 46, 47, 48, 49, 50, 51, 52, 53, 54, 55, 56, 57, 58, 59, 60, 61, 62, 63, 64, 65, 66, 67, 68, 69, 70, 71, 72, 73, 74, 75, 76] (by decide +kernel) (by decide +kernel)
set_option maxRecDepth 20000 in
theorem gX9_owed_X9_owedOf : GoodIn wsX9_owed (wsV RX9 134 RX9 yX9_owedOf wsX9_owedOf) := goodIn_app (goodIn_of _ (by decide +kernel)) ggX9_owed_X9_owedOf
theorem dX9_owed_0 : decode cX9_owed 0 = .ok (.aload_n 0, 1) := by decide +kernel
theorem dX9_owed_1 : decode cX9_owed 1 = .ok (.iload_n 1, 1) := by decide +kernel
theorem dX9_owed_2 : decode cX9_owed 2 = .ok (.invokevirtual 113, 3) := by decide +kernel
theorem dX9_owed_5 : decode cX9_owed 5 = .ok (.ifCond .eq 20, 3) := by decide +kernel
theorem dX9_owed_8 : decode cX9_owed 8 = .ok (.aload_n 0, 1) := by decide +kernel
theorem dX9_owed_9 : decode cX9_owed 9 = .ok (.iload_n 2, 1) := by decide +kernel
theorem dX9_owed_10 : decode cX9_owed 10 = .ok (.invokevirtual 119, 3) := by decide +kernel
theorem dX9_owed_13 : decode cX9_owed 13 = .ok (.ifCond .eq 12, 3) := by decide +kernel
theorem dX9_owed_16 : decode cX9_owed 16 = .ok (.aload_n 0, 1) := by decide +kernel
theorem dX9_owed_17 : decode cX9_owed 17 = .ok (.iload_n 1, 1) := by decide +kernel
theorem dX9_owed_18 : decode cX9_owed 18 = .ok (.iload_n 2, 1) := by decide +kernel
theorem dX9_owed_19 : decode cX9_owed 19 = .ok (.invokevirtual 134, 3) := by decide +kernel
theorem dX9_owed_22 : decode cX9_owed 22 = .ok (.goto 4, 3) := by decide +kernel
theorem dX9_owed_25 : decode cX9_owed 25 = .ok (.iconst (-1), 1) := by decide +kernel
theorem dX9_owed_26 : decode cX9_owed 26 = .ok (.ireturn, 1) := by decide +kernel
set_option maxRecDepth 20000 in
theorem ggX9_yet_X9_owedOf : GoodIn wsX9_yet wsX9_owedOf := goodIn_r _ [8, 9, 10, 11, 12, 7, 13, 14, 15, 16, 17, 18, 19, 20, 21, 22, 23, 24, 25, 26, 27, 28, 29, 30, 31, 32, 33, 34, 35, 36, 37, 38, 39, 40, 41, 42, 43, 44, 45, 46, 47, 48, 49, 50, 51, 52, 53, 54, 55, 56, 57, 58, 59, 60, 61, 62, 63, 64, 65, 66] (by decide +kernel) (by decide +kernel)
set_option maxRecDepth 20000 in
theorem gX9_yet_X9_owedOf : GoodIn wsX9_yet (wsV RX9 134 RX9 yX9_owedOf wsX9_owedOf) := goodIn_app (goodIn_of _ (by decide +kernel)) ggX9_yet_X9_owedOf
theorem dX9_yet_0 : decode cX9_yet 0 = .ok (.bipush 21, 2) := by decide +kernel
theorem dX9_yet_2 : decode cX9_yet 2 = .ok (.iload_n 1, 1) := by decide +kernel
theorem dX9_yet_3 : decode cX9_yet 3 = .ok (.imul, 1) := by decide +kernel
theorem dX9_yet_4 : decode cX9_yet 4 = .ok (.iload_n 2, 1) := by decide +kernel
theorem dX9_yet_5 : decode cX9_yet 5 = .ok (.iadd, 1) := by decide +kernel
theorem dX9_yet_6 : decode cX9_yet 6 = .ok (.istore_n 3, 1) := by decide +kernel
theorem dX9_yet_7 : decode cX9_yet 7 = .ok (.aload_n 0, 1) := by decide +kernel
theorem dX9_yet_8 : decode cX9_yet 8 = .ok (.iload_n 1, 1) := by decide +kernel
theorem dX9_yet_9 : decode cX9_yet 9 = .ok (.iload_n 2, 1) := by decide +kernel
theorem dX9_yet_10 : decode cX9_yet 10 = .ok (.invokevirtual 134, 3) := by decide +kernel
theorem dX9_yet_13 : decode cX9_yet 13 = .ok (.aload_n 0, 1) := by decide +kernel
theorem dX9_yet_14 : decode cX9_yet 14 = .ok (.getfield 64, 3) := by decide +kernel
theorem dX9_yet_17 : decode cX9_yet 17 = .ok (.iload_n 3, 1) := by decide +kernel
theorem dX9_yet_18 : decode cX9_yet 18 = .ok (.iaload, 1) := by decide +kernel
theorem dX9_yet_19 : decode cX9_yet 19 = .ok (.isub, 1) := by decide +kernel
theorem dX9_yet_20 : decode cX9_yet 20 = .ok (.aload_n 0, 1) := by decide +kernel
theorem dX9_yet_21 : decode cX9_yet 21 = .ok (.getfield 67, 3) := by decide +kernel
theorem dX9_yet_24 : decode cX9_yet 24 = .ok (.iload_n 3, 1) := by decide +kernel
theorem dX9_yet_25 : decode cX9_yet 25 = .ok (.iaload, 1) := by decide +kernel
theorem dX9_yet_26 : decode cX9_yet 26 = .ok (.isub, 1) := by decide +kernel
theorem dX9_yet_27 : decode cX9_yet 27 = .ok (.aload_n 0, 1) := by decide +kernel
theorem dX9_yet_28 : decode cX9_yet 28 = .ok (.getfield 70, 3) := by decide +kernel
theorem dX9_yet_31 : decode cX9_yet 31 = .ok (.iload_n 3, 1) := by decide +kernel
theorem dX9_yet_32 : decode cX9_yet 32 = .ok (.iaload, 1) := by decide +kernel
theorem dX9_yet_33 : decode cX9_yet 33 = .ok (.isub, 1) := by decide +kernel
theorem dX9_yet_34 : decode cX9_yet 34 = .ok (.istore 4, 2) := by decide +kernel
theorem dX9_yet_36 : decode cX9_yet 36 = .ok (.iload 4, 2) := by decide +kernel
theorem dX9_yet_38 : decode cX9_yet 38 = .ok (.ifCond .le 8, 3) := by decide +kernel
theorem dX9_yet_41 : decode cX9_yet 41 = .ok (.iload 4, 2) := by decide +kernel
theorem dX9_yet_43 : decode cX9_yet 43 = .ok (.goto 4, 3) := by decide +kernel
theorem dX9_yet_46 : decode cX9_yet 46 = .ok (.iconst 0, 1) := by decide +kernel
theorem dX9_yet_47 : decode cX9_yet 47 = .ok (.ireturn, 1) := by decide +kernel
theorem dX9_perDay_0 : decode cX9_perDay 0 = .ok (.aload_n 0, 1) := by decide +kernel
theorem dX9_perDay_1 : decode cX9_perDay 1 = .ok (.getfield 16, 3) := by decide +kernel
theorem dX9_perDay_4 : decode cX9_perDay 4 = .ok (.iload_n 1, 1) := by decide +kernel
theorem dX9_perDay_5 : decode cX9_perDay 5 = .ok (.iaload, 1) := by decide +kernel
theorem dX9_perDay_6 : decode cX9_perDay 6 = .ok (.ifCond .ne 8, 3) := by decide +kernel
theorem dX9_perDay_9 : decode cX9_perDay 9 = .ok (.bipush 30, 2) := by decide +kernel
theorem dX9_perDay_11 : decode cX9_perDay 11 = .ok (.goto 20, 3) := by decide +kernel
theorem dX9_perDay_14 : decode cX9_perDay 14 = .ok (.aload_n 0, 1) := by decide +kernel
theorem dX9_perDay_15 : decode cX9_perDay 15 = .ok (.getfield 16, 3) := by decide +kernel
theorem dX9_perDay_18 : decode cX9_perDay 18 = .ok (.iload_n 1, 1) := by decide +kernel
theorem dX9_perDay_19 : decode cX9_perDay 19 = .ok (.iaload, 1) := by decide +kernel
theorem dX9_perDay_20 : decode cX9_perDay 20 = .ok (.iconst 1, 1) := by decide +kernel
theorem dX9_perDay_21 : decode cX9_perDay 21 = .ok (.if_icmp .ne 8, 3) := by decide +kernel
theorem dX9_perDay_24 : decode cX9_perDay 24 = .ok (.bipush 20, 2) := by decide +kernel
theorem dX9_perDay_26 : decode cX9_perDay 26 = .ok (.goto 5, 3) := by decide +kernel
theorem dX9_perDay_29 : decode cX9_perDay 29 = .ok (.bipush 10, 2) := by decide +kernel
theorem dX9_perDay_31 : decode cX9_perDay 31 = .ok (.ireturn, 1) := by decide +kernel
set_option maxRecDepth 20000 in
theorem ggX9_raises_X9_perDay : GoodIn wsX9_raises wsX9_perDay := goodIn_r _ [7, 8, 9, 10, 11, 12, 13, 14, 15, 16, 17, 18, 19, 20, 21, 22, 23, 24, 25, 26, 27, 28, 29, 30, 31, 32, 33, 34, 35, 36, 37, 38, 39, 40, 41, 42, 43] (by decide +kernel) (by decide +kernel)
set_option maxRecDepth 20000 in
theorem gX9_raises_X9_perDay : GoodIn wsX9_raises (wsV RX9 137 RX9 yX9_perDay wsX9_perDay) := goodIn_app (goodIn_of _ (by decide +kernel)) ggX9_raises_X9_perDay
theorem dX9_raises_0 : decode cX9_raises 0 = .ok (.aload_n 0, 1) := by decide +kernel
theorem dX9_raises_1 : decode cX9_raises 1 = .ok (.getfield 25, 3) := by decide +kernel
theorem dX9_raises_4 : decode cX9_raises 4 = .ok (.iload_n 1, 1) := by decide +kernel
theorem dX9_raises_5 : decode cX9_raises 5 = .ok (.dup2, 1) := by decide +kernel
theorem dX9_raises_6 : decode cX9_raises 6 = .ok (.iaload, 1) := by decide +kernel
theorem dX9_raises_7 : decode cX9_raises 7 = .ok (.iload_n 2, 1) := by decide +kernel
theorem dX9_raises_8 : decode cX9_raises 8 = .ok (.iadd, 1) := by decide +kernel
theorem dX9_raises_9 : decode cX9_raises 9 = .ok (.iastore, 1) := by decide +kernel
theorem dX9_raises_10 : decode cX9_raises 10 = .ok (.aload_n 0, 1) := by decide +kernel
theorem dX9_raises_11 : decode cX9_raises 11 = .ok (.getfield 13, 3) := by decide +kernel
theorem dX9_raises_14 : decode cX9_raises 14 = .ok (.iload_n 1, 1) := by decide +kernel
theorem dX9_raises_15 : decode cX9_raises 15 = .ok (.dup2, 1) := by decide +kernel
theorem dX9_raises_16 : decode cX9_raises 16 = .ok (.iaload, 1) := by decide +kernel
theorem dX9_raises_17 : decode cX9_raises 17 = .ok (.iload_n 2, 1) := by decide +kernel
theorem dX9_raises_18 : decode cX9_raises 18 = .ok (.aload_n 0, 1) := by decide +kernel
theorem dX9_raises_19 : decode cX9_raises 19 = .ok (.iload_n 1, 1) := by decide +kernel
theorem dX9_raises_20 : decode cX9_raises 20 = .ok (.invokevirtual 137, 3) := by decide +kernel
theorem dX9_raises_23 : decode cX9_raises 23 = .ok (.imul, 1) := by decide +kernel
theorem dX9_raises_24 : decode cX9_raises 24 = .ok (.iadd, 1) := by decide +kernel
theorem dX9_raises_25 : decode cX9_raises 25 = .ok (.iastore, 1) := by decide +kernel
theorem dX9_raises_26 : decode cX9_raises 26 = .ok (.aload_n 0, 1) := by decide +kernel
theorem dX9_raises_27 : decode cX9_raises 27 = .ok (.getfield 13, 3) := by decide +kernel
theorem dX9_raises_30 : decode cX9_raises 30 = .ok (.iload_n 1, 1) := by decide +kernel
theorem dX9_raises_31 : decode cX9_raises 31 = .ok (.iaload, 1) := by decide +kernel
theorem dX9_raises_32 : decode cX9_raises 32 = .ok (.sipush 3000, 3) := by decide +kernel
theorem dX9_raises_35 : decode cX9_raises 35 = .ok (.if_icmp .le 12, 3) := by decide +kernel
theorem dX9_raises_38 : decode cX9_raises 38 = .ok (.aload_n 0, 1) := by decide +kernel
theorem dX9_raises_39 : decode cX9_raises 39 = .ok (.getfield 13, 3) := by decide +kernel
theorem dX9_raises_42 : decode cX9_raises 42 = .ok (.iload_n 1, 1) := by decide +kernel
theorem dX9_raises_43 : decode cX9_raises 43 = .ok (.sipush 3000, 3) := by decide +kernel

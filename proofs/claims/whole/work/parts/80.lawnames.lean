def wsL_law_r1 : List Cond := [Cond.classLink RL 7 RX9, Cond.instantiable RX9 10, Cond.initialized RX9, Cond.classLink RL 10 RX10, Cond.instantiable RX10 39, Cond.initialized RX10, Cond.methodLink RL 9 yX9_init, Cond.instanceMethod yX9_init, Cond.code yX9_init cX9_init 1 none, Cond.methodLink RX9 1 objectInit, Cond.instanceMethod objectInit, Cond.code objectInit ⟨#[0xb1]⟩ 1 none, Cond.classLink RX9 7 RX8, Cond.instantiable RX8 5, Cond.initialized RX8, Cond.fieldLink RX9 10 "BathingCourt" "reader" "LBathingCourt$Reader;", Cond.classLink RX9 16 RX2, Cond.instantiable RX2 6, Cond.initialized RX2, Cond.fieldLink RX9 19 "BathingCourt" "day" "LBathingCourt$Day;", Cond.classLink RX9 23 RX6, Cond.instantiable RX6 3, Cond.initialized RX6, Cond.fieldLink RX9 26 "BathingCourt" "past" "LBathingCourt$Past;"]
def wsL_law_r2 : List Cond := [Cond.classLink RX9 30 RX5, Cond.instantiable RX5 3, Cond.initialized RX5, Cond.fieldLink RX9 33 "BathingCourt" "images" "LBathingCourt$Images;", Cond.classLink RX9 37 RX7, Cond.instantiable RX7 9, Cond.initialized RX7, Cond.fieldLink RX9 40 "BathingCourt" "planner" "LBathingCourt$Planner;", Cond.classLink RX9 44 RX4, Cond.instantiable RX4 3, Cond.initialized RX4, Cond.fieldLink RX9 47 "BathingCourt" "ear" "LBathingCourt$Ear;", Cond.classLink RX9 51 RX1, Cond.instantiable RX1 3, Cond.initialized RX1, Cond.fieldLink RX9 54 "BathingCourt" "book" "LBathingCourt$Book;", Cond.classLink RX9 58 RX3, Cond.instantiable RX3 1, Cond.initialized RX3, Cond.fieldLink RX9 61 "BathingCourt" "draws" "LBathingCourt$Draws;", Cond.classLink RX9 65 RX0, Cond.instantiable RX0 9, Cond.initialized RX0, Cond.fieldLink RX9 68 "BathingCourt" "shore" "LBathingCourt$Beach;"]
def wsL_law_r3 : List Cond := [Cond.fieldLink RX9 72 "BathingCourt" "spare" "LBathingCourt$Beach;", Cond.instanceMethod yX8_init, Cond.code yX8_init cX8_init 1 none, Cond.methodLink RX8 3 objectInit, Cond.arrayClass .int, Cond.fieldLink RX8 9 "BathingCourt$Reader" "text" "[I", Cond.fieldLink RX8 15 "BathingCourt$Reader" "faultPlace" "I", Cond.methodLink RX9 18 yX2_init, Cond.instanceMethod yX2_init, Cond.code yX2_init cX2_init 1 none, Cond.methodLink RX2 3 objectInit, Cond.fieldLink RX2 9 "BathingCourt$Day" "cell" "[I", Cond.fieldLink RX2 15 "BathingCourt$Day" "inside" "[I", Cond.fieldLink RX2 18 "BathingCourt$Day" "drawn" "[I", Cond.fieldLink RX2 21 "BathingCourt$Day" "state" "[I", Cond.fieldLink RX2 24 "BathingCourt$Day" "heard" "[I", Cond.methodLink RX2 27 yJ7_fill_53178, Cond.static yJ7_fill_53178, Cond.initialized RJ7, Cond.code yJ7_fill_53178 cJ7_fill_53178 4 none, Cond.instanceMethod yX6_init, Cond.code yX6_init cX6_init 1 none, Cond.methodLink RX6 3 objectInit, Cond.fieldLink RX6 11 "BathingCourt$Past" "rows" "[I"]
def wsL_law_r4 : List Cond := [Cond.instanceMethod yX5_init, Cond.code yX5_init cX5_init 1 none, Cond.methodLink RX5 3 objectInit, Cond.fieldLink RX5 11 "BathingCourt$Images" "rows" "[I", Cond.fieldLink RX5 17 "BathingCourt$Images" "seeds" "[I", Cond.arrayClass .boolean, Cond.fieldLink RX5 20 "BathingCourt$Images" "taken" "[Z", Cond.instanceMethod yX7_init, Cond.code yX7_init cX7_init 1 none, Cond.methodLink RX7 3 objectInit, Cond.fieldLink RX7 9 "BathingCourt$Planner" "waits" "[Z", Cond.fieldLink RX7 15 "BathingCourt$Planner" "lasts" "[I", Cond.fieldLink RX7 19 "BathingCourt$Planner" "room" "[I", Cond.fieldLink RX7 22 "BathingCourt$Planner" "begins" "[I", Cond.fieldLink RX7 25 "BathingCourt$Planner" "bestBegins" "[I", Cond.fieldLink RX7 28 "BathingCourt$Planner" "busyHuts" "[I", Cond.fieldLink RX7 31 "BathingCourt$Planner" "bestEnd" "I", Cond.instanceMethod yX4_init, Cond.code yX4_init cX4_init 1 none, Cond.methodLink RX4 3 objectInit, Cond.fieldLink RX4 9 "BathingCourt$Ear" "depths" "[I", Cond.fieldLink RX4 15 "BathingCourt$Ear" "loud" "[Z", Cond.instanceMethod yX1_init, Cond.code yX1_init cX1_init 1 none]
def wsL_law_r5 : List Cond := [Cond.methodLink RX1 3 objectInit, Cond.fieldLink RX1 9 "BathingCourt$Book" "ofCase" "[I", Cond.fieldLink RX1 15 "BathingCourt$Book" "saysState" "[I", Cond.instanceMethod yX3_init, Cond.code yX3_init cX3_init 1 none, Cond.methodLink RX3 3 objectInit, Cond.instanceMethod yX0_init, Cond.code yX0_init cX0_init 1 none, Cond.methodLink RX0 3 objectInit, Cond.fieldLink RX0 9 "BathingCourt$Beach" "tide" "[I", Cond.fieldLink RX0 15 "BathingCourt$Beach" "pace" "[I", Cond.fieldLink RX0 18 "BathingCourt$Beach" "toldAt" "[I", Cond.fieldLink RX0 21 "BathingCourt$Beach" "lasts" "[I", Cond.fieldLink RX0 24 "BathingCourt$Beach" "bearsMore" "[I", Cond.fieldLink RX0 27 "BathingCourt$Beach" "suedFor" "[I", Cond.methodLink RL 12 yX10_init, Cond.instanceMethod yX10_init, Cond.code yX10_init cX10_init 2 none, Cond.methodLink RX10 1 objectInit, Cond.fieldLink RX10 7 "BathingCourtModel" "tide" "[I", Cond.fieldLink RX10 13 "BathingCourtModel" "pace" "[I", Cond.fieldLink RX10 16 "BathingCourtModel" "deep" "[I", Cond.fieldLink RX10 19 "BathingCourtModel" "lasts" "[I", Cond.fieldLink RX10 22 "BathingCourtModel" "more" "[I"]
def wsL_law_r6 : List Cond := [Cond.fieldLink RX10 25 "BathingCourtModel" "worth" "[I", Cond.fieldLink RX10 28 "BathingCourtModel" "now" "[I", Cond.fieldLink RX10 31 "BathingCourtModel" "text" "[I", Cond.fieldLink RX10 34 "BathingCourtModel" "faultPlace" "I", Cond.fieldLink RX10 38 "BathingCourtModel" "readTide" "[I", Cond.fieldLink RX10 41 "BathingCourtModel" "readPace" "[I", Cond.fieldLink RX10 44 "BathingCourtModel" "readDeep" "[I", Cond.fieldLink RX10 47 "BathingCourtModel" "readLasts" "[I", Cond.fieldLink RX10 50 "BathingCourtModel" "readMore" "[I", Cond.fieldLink RX10 53 "BathingCourtModel" "readWorth" "[I", Cond.fieldLink RX10 56 "BathingCourtModel" "past" "[I", Cond.fieldLink RX10 59 "BathingCourtModel" "opens" "[I", Cond.fieldLink RX10 62 "BathingCourtModel" "begins" "[I", Cond.fieldLink RX10 65 "BathingCourtModel" "bestBegins" "[I", Cond.fieldLink RX10 68 "BathingCourtModel" "shoutAt" "[I", Cond.fieldLink RX10 71 "BathingCourtModel" "shoutIs" "[Z", Cond.fieldLink RX10 75 "BathingCourtModel" "bookOf" "[I", Cond.fieldLink RX10 78 "BathingCourtModel" "bookIs" "[I", Cond.fieldLink RX10 81 "BathingCourtModel" "images" "[I", Cond.fieldLink RX10 84 "BathingCourtModel" "isKept" "[Z", Cond.methodLink RL 13 yX9_feed, Cond.instanceMethod yX9_feed, Cond.selects RX9 yX9_feed yX9_feed, Cond.code yX9_feed cX9_feed 2 (some .int)]
def wsL_law_r7 : List Cond := [Cond.constant RX9 79 (-1000000002), Cond.fieldLink RX9 80 "BathingCourt$Reader" "length" "I", Cond.constant RX9 84 (-1000000004), Cond.methodLink RX9 75 yX9_isOutside, Cond.static yX9_isOutside, Cond.code yX9_isOutside cX9_isOutside 3 (some .boolean), Cond.methodLink RX9 85 yX8_add, Cond.instanceMethod yX8_add, Cond.selects RX8 yX8_add yX8_add, Cond.code yX8_add cX8_add 2 (some .int), Cond.fieldLink RX8 19 "BathingCourt$Reader" "length" "I", Cond.methodLink RL 17 yX10_feed, Cond.instanceMethod yX10_feed, Cond.selects RX10 yX10_feed yX10_feed, Cond.code yX10_feed cX10_feed 2 (some .int), Cond.constantLong RX10 99 (255), Cond.constant RX10 101 (-1000000002), Cond.fieldLink RX10 102 "BathingCourtModel" "texted" "I", Cond.constant RX10 105 (-1000000004), Cond.methodLink RX10 90 yX10_in, Cond.static yX10_in, Cond.code yX10_in cX10_in 6 (some .boolean), Cond.methodLink RL 18 yX9_beach, Cond.instanceMethod yX9_beach]
def wsL_law_r8 : List Cond := [Cond.selects RX9 yX9_beach yX9_beach, Cond.code yX9_beach cX9_beach 2 (some .int), Cond.fieldLink RX9 93 "BathingCourt$Reader" "faultNumber" "I", Cond.fieldLink RX9 105 "BathingCourt$Beach" "cases" "I", Cond.methodLink RX9 89 yX8_readInto, Cond.instanceMethod yX8_readInto, Cond.selects RX8 yX8_readInto yX8_readInto, Cond.code yX8_readInto cX8_readInto 3 none, Cond.fieldLink RX8 22 "BathingCourt$Reader" "place" "I", Cond.fieldLink RX8 25 "BathingCourt$Reader" "faultNumber" "I", Cond.methodLink RX8 28 yX0_clear, Cond.instanceMethod yX0_clear, Cond.selects RX0 yX0_clear yX0_clear, Cond.code yX0_clear cX0_clear 1 none, Cond.fieldLink RX0 30 "BathingCourt$Beach" "tides" "I", Cond.fieldLink RX0 34 "BathingCourt$Beach" "huts" "I", Cond.fieldLink RX0 37 "BathingCourt$Beach" "cases" "I", Cond.methodLink RX8 33 yX8_skipBlanks, Cond.instanceMethod yX8_skipBlanks, Cond.selects RX8 yX8_skipBlanks yX8_skipBlanks, Cond.code yX8_skipBlanks cX8_skipBlanks 1 none, Cond.methodLink RX8 40 yX8_letter, Cond.instanceMethod yX8_letter, Cond.selects RX8 yX8_letter yX8_letter]
def wsL_law_r9 : List Cond := [Cond.code yX8_letter cX8_letter 1 (some .int), Cond.methodLink RX8 36 yX8_readClause, Cond.instanceMethod yX8_readClause, Cond.selects RX8 yX8_readClause yX8_readClause, Cond.code yX8_readClause cX8_readClause 4 none, Cond.methodLink RX8 44 yX8_readTide, Cond.instanceMethod yX8_readTide, Cond.selects RX8 yX8_readTide yX8_readTide, Cond.code yX8_readTide cX8_readTide 5 none, Cond.fieldLink RX8 70 "BathingCourt$Beach" "tides" "I", Cond.methodLink RX8 48 yX0_stands, Cond.instanceMethod yX0_stands, Cond.selects RX0 yX0_stands yX0_stands, Cond.code yX0_stands cX0_stands 1 (some .boolean), Cond.methodLink RX8 58 yX8_note, Cond.instanceMethod yX8_note, Cond.selects RX8 yX8_note yX8_note, Cond.code yX8_note cX8_note 3 none, Cond.methodLink RX8 62 yX8_readNumber, Cond.instanceMethod yX8_readNumber, Cond.selects RX8 yX8_readNumber yX8_readNumber, Cond.code yX8_readNumber cX8_readNumber 5 (some .int), Cond.methodLink RX8 93 yX8_isFigure, Cond.static yX8_isFigure]
def wsL_law_r10 : List Cond := [Cond.code yX8_isFigure cX8_isFigure 1 (some .boolean), Cond.methodLink RX8 66 yX0_addTide, Cond.instanceMethod yX0_addTide, Cond.selects RX0 yX0_addTide yX0_addTide, Cond.code yX0_addTide cX0_addTide 2 none, Cond.methodLink RX8 73 yX8_passes, Cond.instanceMethod yX8_passes, Cond.selects RX8 yX8_passes yX8_passes, Cond.code yX8_passes cX8_passes 2 (some .boolean), Cond.methodLink RX8 77 yX8_demandEnd, Cond.instanceMethod yX8_demandEnd, Cond.selects RX8 yX8_demandEnd yX8_demandEnd, Cond.code yX8_demandEnd cX8_demandEnd 1 none, Cond.methodLink RX8 52 yX8_readHut, Cond.instanceMethod yX8_readHut, Cond.selects RX8 yX8_readHut yX8_readHut, Cond.code yX8_readHut cX8_readHut 3 none, Cond.fieldLink RX8 80 "BathingCourt$Beach" "huts" "I", Cond.methodLink RX8 83 yX0_addHut, Cond.instanceMethod yX0_addHut, Cond.selects RX0 yX0_addHut yX0_addHut, Cond.code yX0_addHut cX0_addHut 2 none, Cond.methodLink RX8 55 yX8_readCase, Cond.instanceMethod yX8_readCase]
def wsL_law_r11 : List Cond := [Cond.selects RX8 yX8_readCase yX8_readCase, Cond.code yX8_readCase cX8_readCase 7 none, Cond.fieldLink RX8 86 "BathingCourt$Beach" "cases" "I", Cond.methodLink RX8 89 yX0_addCase, Cond.instanceMethod yX0_addCase, Cond.selects RX0 yX0_addCase yX0_addCase, Cond.code yX0_addCase cX0_addCase 5 none, Cond.methodLink RX9 96 yX2_begin, Cond.instanceMethod yX2_begin, Cond.selects RX2 yX2_begin yX2_begin, Cond.code yX2_begin cX2_begin 1 none, Cond.fieldLink RX2 33 "BathingCourt$Day" "hours" "I", Cond.methodLink RX9 99 yX6_forget, Cond.instanceMethod yX6_forget, Cond.selects RX6 yX6_forget yX6_forget, Cond.code yX6_forget cX6_forget 1 none, Cond.fieldLink RX6 25 "BathingCourt$Past" "kept" "I", Cond.methodLink RX9 102 yX5_forget, Cond.instanceMethod yX5_forget, Cond.selects RX5 yX5_forget yX5_forget, Cond.code yX5_forget cX5_forget 2 none, Cond.methodLink RX9 103 yX4_forget, Cond.instanceMethod yX4_forget, Cond.selects RX4 yX4_forget yX4_forget]
def wsL_law_r12 : List Cond := [Cond.code yX4_forget cX4_forget 1 none, Cond.fieldLink RX4 19 "BathingCourt$Ear" "shouts" "I", Cond.methodLink RX9 104 yX1_forget, Cond.instanceMethod yX1_forget, Cond.selects RX1 yX1_forget yX1_forget, Cond.code yX1_forget cX1_forget 1 none, Cond.fieldLink RX1 18 "BathingCourt$Book" "entries" "I", Cond.methodLink RL 22 yX10_beach, Cond.instanceMethod yX10_beach, Cond.selects RX10 yX10_beach yX10_beach, Cond.code yX10_beach cX10_beach 2 (some .int), Cond.fieldLink RX10 106 "BathingCourtModel" "at0" "I", Cond.fieldLink RX10 134 "BathingCourtModel" "readTides" "I", Cond.fieldLink RX10 137 "BathingCourtModel" "readHuts" "I", Cond.fieldLink RX10 140 "BathingCourtModel" "readCases" "I", Cond.fieldLink RX10 161 "BathingCourtModel" "shouts" "I", Cond.fieldLink RX10 164 "BathingCourtModel" "booked" "I", Cond.fieldLink RX10 167 "BathingCourtModel" "undos" "I", Cond.fieldLink RX10 94 "BathingCourtModel" "cases" "I", Cond.methodLink RX10 109 yX10_here, Cond.instanceMethod yX10_here, Cond.selects RX10 yX10_here yX10_here, Cond.code yX10_here cX10_here 1 (some .int), Cond.methodLink RX10 155 yX10_takeClause]
def wsL_law_r13 : List Cond := [Cond.instanceMethod yX10_takeClause, Cond.selects RX10 yX10_takeClause yX10_takeClause, Cond.code yX10_takeClause cX10_takeClause 5 (some .int), Cond.methodLink RX10 117 yX10_fails, Cond.instanceMethod yX10_fails, Cond.selects RX10 yX10_fails yX10_fails, Cond.code yX10_fails cX10_fails 3 (some .int), Cond.methodLink RX10 143 yX10_takeTide, Cond.instanceMethod yX10_takeTide, Cond.selects RX10 yX10_takeTide yX10_takeTide, Cond.code yX10_takeTide cX10_takeTide 2 (some .int), Cond.methodLink RX10 130 yX10_into, Cond.instanceMethod yX10_into, Cond.selects RX10 yX10_into yX10_into, Cond.code yX10_into cX10_into 6 (some .int), Cond.fieldLink RX10 124 "BathingCourtModel" "number" "I", Cond.methodLink RX10 127 yX10_takeNumber, Cond.instanceMethod yX10_takeNumber, Cond.selects RX10 yX10_takeNumber yX10_takeNumber, Cond.code yX10_takeNumber cX10_takeNumber 4 (some .int), Cond.constantLong RX10 113 (48), Cond.constantLong RX10 115 (57), Cond.fieldLink RX10 121 "BathingCourtModel" "numberAt" "I", Cond.methodLink RX10 146 yX10_takeHut]
def wsL_law_r14 : List Cond := [Cond.instanceMethod yX10_takeHut, Cond.selects RX10 yX10_takeHut yX10_takeHut, Cond.code yX10_takeHut cX10_takeHut 2 (some .int), Cond.methodLink RX10 149 yX10_takeCase, Cond.instanceMethod yX10_takeCase, Cond.selects RX10 yX10_takeCase yX10_takeCase, Cond.code yX10_takeCase cX10_takeCase 3 (some .int), Cond.methodLink RX10 158 yX10_takeRead, Cond.instanceMethod yX10_takeRead, Cond.selects RX10 yX10_takeRead yX10_takeRead, Cond.code yX10_takeRead cX10_takeRead 2 none, Cond.fieldLink RX10 152 "BathingCourtModel" "tides" "I", Cond.fieldLink RX10 87 "BathingCourtModel" "huts" "I", Cond.methodLink RL 23 yX9_fault, Cond.instanceMethod yX9_fault, Cond.selects RX9 yX9_fault yX9_fault, Cond.code yX9_fault cX9_fault 1 (some .int), Cond.fieldLink RX9 108 "BathingCourt$Reader" "faultPlace" "I", Cond.methodLink RL 26 yX10_fault, Cond.instanceMethod yX10_fault, Cond.selects RX10 yX10_fault yX10_fault, Cond.code yX10_fault cX10_fault 1 (some .int), Cond.methodLink RL 27 yX9_told, Cond.instanceMethod yX9_told]
def wsL_law_r15 : List Cond := [Cond.selects RX9 yX9_told yX9_told, Cond.code yX9_told cX9_told 2 (some .int), Cond.fieldLink RX9 111 "BathingCourt$Beach" "tides" "I", Cond.fieldLink RX9 114 "BathingCourt$Beach" "huts" "I", Cond.fieldLink RX9 117 "BathingCourt$Day" "hours" "I", Cond.fieldLink RX9 128 "BathingCourt$Ear" "shouts" "I", Cond.fieldLink RX9 131 "BathingCourt$Book" "entries" "I", Cond.fieldLink RX9 134 "BathingCourt$Past" "kept" "I", Cond.methodLink RX9 120 yX2_setOf, Cond.instanceMethod yX2_setOf, Cond.selects RX2 yX2_setOf yX2_setOf, Cond.code yX2_setOf cX2_setOf 5 (some .int), Cond.methodLink RX9 124 yX9_owed, Cond.instanceMethod yX9_owed, Cond.selects RX9 yX9_owed yX9_owed, Cond.code yX9_owed cX9_owed 3 (some .int), Cond.fieldLink RX9 181 "BathingCourt$Day" "state" "[I", Cond.fieldLink RX9 178 "BathingCourt$Beach" "suedFor" "[I", Cond.methodLink RL 30 yX10_told, Cond.instanceMethod yX10_told, Cond.selects RX10 yX10_told yX10_told, Cond.code yX10_told cX10_told 2 (some .int), Cond.methodLink RX10 170 yX10_allThat, Cond.instanceMethod yX10_allThat]
def wsL_law_r16 : List Cond := [Cond.selects RX10 yX10_allThat yX10_allThat, Cond.code yX10_allThat cX10_allThat 4 (some .int), Cond.methodLink RX10 174 yX10_owed, Cond.instanceMethod yX10_owed, Cond.selects RX10 yX10_owed yX10_owed, Cond.code yX10_owed cX10_owed 3 (some .int), Cond.methodLink RL 31 yX9_depth, Cond.instanceMethod yX9_depth, Cond.selects RX9 yX9_depth yX9_depth, Cond.code yX9_depth cX9_depth 3 (some .int), Cond.constant RX9 145 (-1000000003), Cond.methodLink RX9 137 yX9_isNoCell, Cond.static yX9_isNoCell, Cond.code yX9_isNoCell cX9_isNoCell 1 (some .boolean), Cond.methodLink RX9 141 yX0_stands, Cond.methodLink RX9 146 yX9_depthBehind, Cond.instanceMethod yX9_depthBehind, Cond.selects RX9 yX9_depthBehind yX9_depthBehind, Cond.code yX9_depthBehind cX9_depthBehind 3 (some .int), Cond.methodLink RX9 285 yX0_depthAt, Cond.instanceMethod yX0_depthAt, Cond.selects RX0 yX0_depthAt yX0_depthAt, Cond.code yX0_depthAt cX0_depthAt 3 (some .int), Cond.methodLink RX0 40 Lib.Math.max.name]
def wsL_law_r17 : List Cond := [Cond.static Lib.Math.max.name, Cond.initialized "java/lang/Math", Cond.code Lib.Math.max.name Lib.Math.max.code 2 (some .int), Cond.methodLink RL 35 yX10_depth, Cond.instanceMethod yX10_depth, Cond.selects RX10 yX10_depth yX10_depth, Cond.code yX10_depth cX10_depth 3 (some .int), Cond.constantLong RX10 181 (99), Cond.constant RX10 183 (-1000000003), Cond.methodLink RX10 177 yX10_isCell, Cond.static yX10_isCell, Cond.code yX10_isCell cX10_isCell 1 (some .boolean), Cond.constantLong RX10 97 (9), Cond.methodLink RX10 184 yX10_depthBehind, Cond.instanceMethod yX10_depthBehind, Cond.selects RX10 yX10_depthBehind yX10_depthBehind, Cond.code yX10_depthBehind cX10_depthBehind 4 (some .int), Cond.methodLink RL 36 yX9_hut, Cond.instanceMethod yX9_hut, Cond.selects RX9 yX9_hut yX9_hut, Cond.code yX9_hut cX9_hut 3 (some .int), Cond.constant RX9 152 (-1000000001), Cond.fieldLink RX9 153 "BathingCourt$Beach" "pace" "[I", Cond.fieldLink RX9 157 "BathingCourt$Day" "cell" "[I"]
def wsL_law_r18 : List Cond := [Cond.fieldLink RX9 160 "BathingCourt$Day" "inside" "[I", Cond.fieldLink RX9 163 "BathingCourt$Day" "drawn" "[I", Cond.methodLink RX9 149 yX0_hasHut, Cond.instanceMethod yX0_hasHut, Cond.selects RX0 yX0_hasHut yX0_hasHut, Cond.code yX0_hasHut cX0_hasHut 2 (some .boolean), Cond.methodLink RL 39 yX10_hut, Cond.instanceMethod yX10_hut, Cond.selects RX10 yX10_hut yX10_hut, Cond.code yX10_hut cX10_hut 3 (some .int), Cond.constant RX10 190 (-1000000001), Cond.methodLink RX10 187 yX10_isHut, Cond.instanceMethod yX10_isHut, Cond.selects RX10 yX10_isHut yX10_isHut, Cond.code yX10_isHut cX10_isHut 2 (some .boolean), Cond.methodLink RL 40 yX9_legal, Cond.instanceMethod yX9_legal, Cond.selects RX9 yX9_legal yX9_legal, Cond.code yX9_legal cX9_legal 3 (some .int), Cond.fieldLink RX9 169 "BathingCourt$Beach" "toldAt" "[I", Cond.fieldLink RX9 172 "BathingCourt$Beach" "lasts" "[I", Cond.fieldLink RX9 175 "BathingCourt$Beach" "bearsMore" "[I", Cond.fieldLink RX9 184 "BathingCourt$Day" "heard" "[I", Cond.methodLink RX9 166 yX0_hasCase]
def wsL_law_r19 : List Cond := [Cond.instanceMethod yX0_hasCase, Cond.selects RX0 yX0_hasCase yX0_hasCase, Cond.code yX0_hasCase cX0_hasCase 2 (some .boolean), Cond.methodLink RL 43 yX10_legal, Cond.instanceMethod yX10_legal, Cond.selects RX10 yX10_legal yX10_legal, Cond.code yX10_legal cX10_legal 3 (some .int), Cond.methodLink RX10 191 yX10_isCase, Cond.instanceMethod yX10_isCase, Cond.selects RX10 yX10_isCase yX10_isCase, Cond.code yX10_isCase cX10_isCase 2 (some .boolean), Cond.methodLink RL 44 yX9_hour, Cond.instanceMethod yX9_hour, Cond.selects RX9 yX9_hour yX9_hour, Cond.code yX9_hour cX9_hour 4 (some .int), Cond.methodLink RX9 187 yX9_refusalOfHours, Cond.instanceMethod yX9_refusalOfHours, Cond.selects RX9 yX9_refusalOfHours yX9_refusalOfHours, Cond.code yX9_refusalOfHours cX9_refusalOfHours 2 (some .int), Cond.methodLink RX9 190 yX6_push, Cond.instanceMethod yX6_push, Cond.selects RX6 yX6_push yX6_push, Cond.code yX6_push cX6_push 2 none, Cond.fieldLink RX6 17 "BathingCourt$Past" "newest" "I"]
def wsL_law_r20 : List Cond := [Cond.methodLink RX6 28 Lib.Math.min.name, Cond.static Lib.Math.min.name, Cond.code Lib.Math.min.name Lib.Math.min.code 2 (some .int), Cond.methodLink RX6 21 yX2_saveTo, Cond.instanceMethod yX2_saveTo, Cond.selects RX2 yX2_saveTo yX2_saveTo, Cond.code yX2_saveTo cX2_saveTo 3 none, Cond.methodLink RX2 74 arraycopyName, Cond.native arraycopyName, Cond.static arraycopyName, Cond.initialized "java/lang/System", Cond.methodLink RX9 194 yX2_passHour, Cond.instanceMethod yX2_passHour, Cond.selects RX2 yX2_passHour yX2_passHour, Cond.code yX2_passHour cX2_passHour 3 none, Cond.fieldLink RX2 43 "BathingCourt$Beach" "huts" "I", Cond.methodLink RX2 48 yX0_hasCase, Cond.methodLink RX2 52 yX0_depthAt, Cond.methodLink RX2 56 yX2_hearCase, Cond.instanceMethod yX2_hearCase, Cond.selects RX2 yX2_hearCase yX2_hearCase, Cond.code yX2_hearCase cX2_hearCase 4 none, Cond.fieldLink RX2 71 "BathingCourt$Beach" "lasts" "[I", Cond.methodLink RX2 60 yX0_isTooDeep]
def wsL_law_r21 : List Cond := [Cond.instanceMethod yX0_isTooDeep, Cond.selects RX0 yX0_isTooDeep yX0_isTooDeep, Cond.code yX0_isTooDeep cX0_isTooDeep 3 (some .boolean), Cond.methodLink RX2 64 yX2_endCase, Cond.instanceMethod yX2_endCase, Cond.selects RX2 yX2_endCase yX2_endCase, Cond.code yX2_endCase cX2_endCase 4 none, Cond.methodLink RX2 68 yX0_isDeepEnough, Cond.instanceMethod yX0_isDeepEnough, Cond.selects RX0 yX0_isDeepEnough yX0_isDeepEnough, Cond.code yX0_isDeepEnough cX0_isDeepEnough 3 (some .boolean), Cond.methodLink RL 47 yX10_hour, Cond.instanceMethod yX10_hour, Cond.selects RX10 yX10_hour yX10_hour, Cond.code yX10_hour cX10_hour 4 (some .int), Cond.methodLink RX10 200 yX10_hoursRefused, Cond.instanceMethod yX10_hoursRefused, Cond.selects RX10 yX10_hoursRefused yX10_hoursRefused, Cond.code yX10_hoursRefused cX10_hoursRefused 2 (some .int), Cond.constantLong RX10 198 (60), Cond.methodLink RX10 203 yX10_remember, Cond.instanceMethod yX10_remember, Cond.selects RX10 yX10_remember yX10_remember, Cond.code yX10_remember cX10_remember 2 none]
def wsL_law_r22 : List Cond := [Cond.methodLink RX10 206 yX10_pass, Cond.instanceMethod yX10_pass, Cond.selects RX10 yX10_pass yX10_pass, Cond.code yX10_pass cX10_pass 2 none, Cond.methodLink RX10 194 yX10_tell, Cond.instanceMethod yX10_tell, Cond.selects RX10 yX10_tell yX10_tell, Cond.code yX10_tell cX10_tell 4 none, Cond.methodLink RL 48 yX9_bring, Cond.instanceMethod yX9_bring, Cond.selects RX9 yX9_bring yX9_bring, Cond.code yX9_bring cX9_bring 3 (some .int), Cond.methodLink RX9 197 yX2_canEnter, Cond.instanceMethod yX2_canEnter, Cond.selects RX2 yX2_canEnter yX2_canEnter, Cond.code yX2_canEnter cX2_canEnter 3 (some .boolean), Cond.methodLink RX9 201 yX2_enter, Cond.instanceMethod yX2_enter, Cond.selects RX2 yX2_enter yX2_enter, Cond.code yX2_enter cX2_enter 3 none, Cond.methodLink RL 51 yX10_bring, Cond.instanceMethod yX10_bring, Cond.selects RX10 yX10_bring yX10_bring, Cond.code yX10_bring cX10_bring 3 (some .int)]
def wsL_law_r23 : List Cond := [Cond.methodLink RX10 209 yX10_canBring, Cond.instanceMethod yX10_canBring, Cond.selects RX10 yX10_canBring yX10_canBring, Cond.code yX10_canBring cX10_canBring 3 (some .boolean), Cond.methodLink RX10 213 yX10_bringNow, Cond.instanceMethod yX10_bringNow, Cond.selects RX10 yX10_bringNow yX10_bringNow, Cond.code yX10_bringNow cX10_bringNow 3 none, Cond.methodLink RL 52 yX9_drawTo, Cond.instanceMethod yX9_drawTo, Cond.selects RX9 yX9_drawTo yX9_drawTo, Cond.code yX9_drawTo cX9_drawTo 3 (some .int), Cond.methodLink RX9 205 yX2_canMove, Cond.instanceMethod yX2_canMove, Cond.selects RX2 yX2_canMove yX2_canMove, Cond.code yX2_canMove cX2_canMove 4 (some .boolean), Cond.methodLink RX2 37 Lib.Math.abs.name, Cond.static Lib.Math.abs.name, Cond.code Lib.Math.abs.name Lib.Math.abs.code 1 (some .int), Cond.methodLink RX9 208 yX2_move, Cond.instanceMethod yX2_move, Cond.selects RX2 yX2_move yX2_move, Cond.code yX2_move cX2_move 3 none, Cond.methodLink RL 55 yX10_drawTo]
def wsL_law_r24 : List Cond := [Cond.instanceMethod yX10_drawTo, Cond.selects RX10 yX10_drawTo yX10_drawTo, Cond.code yX10_drawTo cX10_drawTo 3 (some .int), Cond.methodLink RX10 216 yX10_canDraw, Cond.instanceMethod yX10_canDraw, Cond.selects RX10 yX10_canDraw yX10_canDraw, Cond.code yX10_canDraw cX10_canDraw 3 (some .boolean), Cond.methodLink RX10 219 yX10_drawNow, Cond.instanceMethod yX10_drawNow, Cond.selects RX10 yX10_drawNow yX10_drawNow, Cond.code yX10_drawNow cX10_drawNow 3 none, Cond.methodLink RL 56 yX9_settle, Cond.instanceMethod yX9_settle, Cond.selects RX9 yX9_settle yX9_settle, Cond.code yX9_settle cX9_settle 2 (some .int), Cond.methodLink RX9 211 yX2_endCase, Cond.methodLink RL 59 yX10_settle, Cond.instanceMethod yX10_settle, Cond.selects RX10 yX10_settle yX10_settle, Cond.code yX10_settle cX10_settle 3 (some .int), Cond.methodLink RL 60 yX9_drift, Cond.instanceMethod yX9_drift, Cond.selects RX9 yX9_drift yX9_drift, Cond.code yX9_drift cX9_drift 4 (some .int)]
def wsL_law_r25 : List Cond := [Cond.methodLink RX9 214 yX9_actByDraws, Cond.instanceMethod yX9_actByDraws, Cond.selects RX9 yX9_actByDraws yX9_actByDraws, Cond.code yX9_actByDraws cX9_actByDraws 4 none, Cond.methodLink RX9 288 yX3_next, Cond.instanceMethod yX3_next, Cond.selects RX3 yX3_next yX3_next, Cond.code yX3_next cX3_next 2 (some .int), Cond.fieldLink RX3 9 "BathingCourt$Draws" "current" "I", Cond.constantLong RX3 15 (1103515245), Cond.constantLong RX3 17 (12345), Cond.constantLong RX3 19 (2147483648), Cond.constant RX3 21 (65536), Cond.methodLink RL 63 yX10_drift, Cond.instanceMethod yX10_drift, Cond.selects RX10 yX10_drift yX10_drift, Cond.code yX10_drift cX10_drift 4 (some .int), Cond.methodLink RX10 235 yX10_chance, Cond.instanceMethod yX10_chance, Cond.selects RX10 yX10_chance yX10_chance, Cond.code yX10_chance cX10_chance 4 none, Cond.methodLink RX10 232 yX10_draw, Cond.instanceMethod yX10_draw, Cond.selects RX10 yX10_draw yX10_draw]
def wsL_law_r26 : List Cond := [Cond.code yX10_draw cX10_draw 2 (some .int), Cond.fieldLink RX10 222 "BathingCourtModel" "seed" "I", Cond.constantLong RX10 225 (1103515245), Cond.constantLong RX10 227 (12345), Cond.constantLong RX10 229 (2147483648), Cond.constant RX10 231 (65536), Cond.methodLink RL 64 yX9_undo, Cond.instanceMethod yX9_undo, Cond.selects RX9 yX9_undo yX9_undo, Cond.code yX9_undo cX9_undo 1 (some .int), Cond.methodLink RX9 217 yX6_pop, Cond.instanceMethod yX6_pop, Cond.selects RX6 yX6_pop yX6_pop, Cond.code yX6_pop cX6_pop 2 none, Cond.methodLink RX6 34 yX2_loadFrom, Cond.instanceMethod yX2_loadFrom, Cond.selects RX2 yX2_loadFrom yX2_loadFrom, Cond.code yX2_loadFrom cX2_loadFrom 3 none, Cond.methodLink RL 67 yX10_undo, Cond.instanceMethod yX10_undo, Cond.selects RX10 yX10_undo yX10_undo, Cond.code yX10_undo cX10_undo 2 (some .int), Cond.methodLink RL 68 yX9_open, Cond.instanceMethod yX9_open]
def wsL_law_r27 : List Cond := [Cond.selects RX9 yX9_open yX9_open, Cond.code yX9_open cX9_open 2 (some .int), Cond.methodLink RX9 220 yX0_hoursOpen, Cond.instanceMethod yX0_hoursOpen, Cond.selects RX0 yX0_hoursOpen yX0_hoursOpen, Cond.code yX0_hoursOpen cX0_hoursOpen 5 (some .int), Cond.methodLink RX0 59 yX0_suitsWithin, Cond.instanceMethod yX0_suitsWithin, Cond.selects RX0 yX0_suitsWithin yX0_suitsWithin, Cond.code yX0_suitsWithin cX0_suitsWithin 8 (some .boolean), Cond.methodLink RX0 46 Lib.Math.min.name, Cond.methodLink RX0 49 yX0_depthAt, Cond.methodLink RX0 52 yX0_isDeepEnough, Cond.methodLink RX0 56 yX0_isTooDeep, Cond.methodLink RL 71 yX10_open, Cond.instanceMethod yX10_open, Cond.selects RX10 yX10_open yX10_open, Cond.code yX10_open cX10_open 2 (some .int), Cond.methodLink RX10 244 yX10_openSet, Cond.instanceMethod yX10_openSet, Cond.selects RX10 yX10_openSet yX10_openSet, Cond.code yX10_openSet cX10_openSet 4 (some .int), Cond.methodLink RX10 241 yX10_isOpen, Cond.instanceMethod yX10_isOpen]
def wsL_law_r28 : List Cond := [Cond.selects RX10 yX10_isOpen yX10_isOpen, Cond.code yX10_isOpen cX10_isOpen 5 (some .boolean), Cond.methodLink RX10 238 yX10_isDeepEnough, Cond.instanceMethod yX10_isDeepEnough, Cond.selects RX10 yX10_isDeepEnough yX10_isDeepEnough, Cond.code yX10_isDeepEnough cX10_isDeepEnough 3 (some .boolean), Cond.methodLink RL 72 yX9_plan, Cond.instanceMethod yX9_plan, Cond.selects RX9 yX9_plan yX9_plan, Cond.code yX9_plan cX9_plan 3 (some .int), Cond.methodLink RX9 223 yX7_search, Cond.instanceMethod yX7_search, Cond.selects RX7 yX7_search yX7_search, Cond.code yX7_search cX7_search 6 none, Cond.fieldLink RX7 35 "BathingCourt$Planner" "huts" "I", Cond.fieldLink RX7 38 "BathingCourt$Planner" "leastEnd" "I", Cond.fieldLink RX7 53 "BathingCourt$Day" "state" "[I", Cond.fieldLink RX7 58 "BathingCourt$Beach" "lasts" "[I", Cond.fieldLink RX7 59 "BathingCourt$Day" "hours" "I", Cond.methodLink RX7 70 Lib.Math.max.name, Cond.methodLink RX7 41 yJ7_fill_53178, Cond.methodLink RX7 47 yX0_hasCase, Cond.methodLink RX7 62 yX0_hoursOpen, Cond.methodLink RX7 66 yX7_lookAtAlone]
def wsL_law_r29 : List Cond := [Cond.instanceMethod yX7_lookAtAlone, Cond.selects RX7 yX7_lookAtAlone yX7_lookAtAlone, Cond.code yX7_lookAtAlone cX7_lookAtAlone 6 none, Cond.methodLink RX7 79 yJ6_numberOfTrailingZeros_0f7a4, Cond.static yJ6_numberOfTrailingZeros_0f7a4, Cond.initialized RJ6, Cond.code yJ6_numberOfTrailingZeros_0f7a4 cJ6_numberOfTrailingZeros_0f7a4 2 (some .int), Cond.constant RJ6 264 (65536), Cond.methodLink RX7 75 yX7_placeFrom, Cond.static yX7_placeFrom, Cond.code yX7_placeFrom cX7_placeFrom 4 none, Cond.methodLink RX7 85 yX7_keepIfSooner, Cond.instanceMethod yX7_keepIfSooner, Cond.selects RX7 yX7_keepIfSooner yX7_keepIfSooner, Cond.code yX7_keepIfSooner cX7_keepIfSooner 2 none, Cond.methodLink RX7 99 arraycopyName, Cond.methodLink RX7 89 yX7_canBeSooner, Cond.instanceMethod yX7_canBeSooner, Cond.selects RX7 yX7_canBeSooner yX7_canBeSooner, Cond.code yX7_canBeSooner cX7_canBeSooner 2 (some .boolean), Cond.methodLink RX7 92 yX7_fits, Cond.instanceMethod yX7_fits, Cond.selects RX7 yX7_fits yX7_fits, Cond.code yX7_fits cX7_fits 4 (some .boolean)]
def wsL_law_r30 : List Cond := [Cond.methodLink RX7 96 yX7_occupy, Cond.instanceMethod yX7_occupy, Cond.selects RX7 yX7_occupy yX7_occupy, Cond.code yX7_occupy cX7_occupy 5 none, Cond.methodLink RX9 227 yX7_hoursForAll, Cond.instanceMethod yX7_hoursForAll, Cond.selects RX7 yX7_hoursForAll yX7_hoursForAll, Cond.code yX7_hoursForAll cX7_hoursForAll 1 (some .int), Cond.methodLink RX9 230 yX7_beginOf, Cond.instanceMethod yX7_beginOf, Cond.selects RX7 yX7_beginOf yX7_beginOf, Cond.code yX7_beginOf cX7_beginOf 2 (some .int), Cond.methodLink RL 75 yX10_plan, Cond.instanceMethod yX10_plan, Cond.selects RX10 yX10_plan yX10_plan, Cond.code yX10_plan cX10_plan 7 (some .int), Cond.constantLong RX10 247 (4), Cond.methodLink RX10 249 yX10_waysToBegin, Cond.instanceMethod yX10_waysToBegin, Cond.selects RX10 yX10_waysToBegin yX10_waysToBegin, Cond.code yX10_waysToBegin cX10_waysToBegin 3 (some .int), Cond.methodLink RX10 252 yX10_beginBy, Cond.instanceMethod yX10_beginBy, Cond.selects RX10 yX10_beginBy yX10_beginBy]
def wsL_law_r31 : List Cond := [Cond.code yX10_beginBy cX10_beginBy 8 (some .int), Cond.methodLink RL 76 yX9_dry, Cond.instanceMethod yX9_dry, Cond.selects RX9 yX9_dry yX9_dry, Cond.code yX9_dry cX9_dry 3 (some .int), Cond.methodLink RL 79 yX10_dry, Cond.instanceMethod yX10_dry, Cond.selects RX10 yX10_dry yX10_dry, Cond.code yX10_dry cX10_dry 3 (some .int), Cond.methodLink RL 80 yX9_stays, Cond.instanceMethod yX9_stays, Cond.selects RX9 yX9_stays yX9_stays, Cond.code yX9_stays cX9_stays 4 (some .int), Cond.methodLink RX9 233 yX9_isNoDepth, Cond.static yX9_isNoDepth, Cond.code yX9_isNoDepth cX9_isNoDepth 1 (some .boolean), Cond.methodLink RL 83 yX10_stays, Cond.instanceMethod yX10_stays, Cond.selects RX10 yX10_stays yX10_stays, Cond.code yX10_stays cX10_stays 4 (some .int), Cond.constantLong RX10 255 (10), Cond.methodLink RL 84 yX9_spot, Cond.instanceMethod yX9_spot, Cond.selects RX9 yX9_spot yX9_spot]
def wsL_law_r32 : List Cond := [Cond.code yX9_spot cX9_spot 3 (some .int), Cond.methodLink RL 87 yX10_spot, Cond.instanceMethod yX10_spot, Cond.selects RX10 yX10_spot yX10_spot, Cond.code yX10_spot cX10_spot 3 (some .int), Cond.methodLink RL 88 yX9_soonest, Cond.instanceMethod yX9_soonest, Cond.selects RX9 yX9_soonest yX9_soonest, Cond.code yX9_soonest cX9_soonest 7 (some .int), Cond.methodLink RX9 236 yX0_suitsWithin, Cond.methodLink RL 91 yX10_soonest, Cond.instanceMethod yX10_soonest, Cond.selects RX10 yX10_soonest yX10_soonest, Cond.code yX10_soonest cX10_soonest 6 (some .int), Cond.methodLink RL 92 yX9_offer, Cond.instanceMethod yX9_offer, Cond.selects RX9 yX9_offer yX9_offer, Cond.code yX9_offer cX9_offer 6 (some .int), Cond.methodLink RX9 240 Lib.Math.max.name, Cond.methodLink RL 96 yX10_offer, Cond.instanceMethod yX10_offer, Cond.selects RX10 yX10_offer yX10_offer, Cond.code yX10_offer cX10_offer 6 (some .int), Cond.constantLong RX10 257 (100)]
def wsL_law_r33 : List Cond := [Cond.constantLong RX10 259 (999), Cond.methodLink RL 97 yX9_calm, Cond.instanceMethod yX9_calm, Cond.selects RX9 yX9_calm yX9_calm, Cond.code yX9_calm cX9_calm 6 (some .int), Cond.constantLong RX9 245 (1000000000), Cond.constantLong RX9 247 (100), Cond.methodLink RL 100 yX10_calm, Cond.instanceMethod yX10_calm, Cond.selects RX10 yX10_calm yX10_calm, Cond.code yX10_calm cX10_calm 6 (some .int), Cond.constantLong RX10 261 (1000000000), Cond.methodLink RL 101 yX9_shout, Cond.instanceMethod yX9_shout, Cond.selects RX9 yX9_shout yX9_shout, Cond.code yX9_shout cX9_shout 3 (some .int), Cond.methodLink RX9 249 yX4_add, Cond.instanceMethod yX4_add, Cond.selects RX4 yX4_add yX4_add, Cond.code yX4_add cX4_add 3 (some .int), Cond.methodLink RL 105 yX10_shout, Cond.instanceMethod yX10_shout, Cond.selects RX10 yX10_shout yX10_shout, Cond.code yX10_shout cX10_shout 3 (some .int)]
def wsL_law_r34 : List Cond := [Cond.methodLink RL 106 yX9_bears, Cond.instanceMethod yX9_bears, Cond.selects RX9 yX9_bears yX9_bears, Cond.code yX9_bears cX9_bears 1 (some .int), Cond.methodLink RX9 252 yX4_allThatFits, Cond.instanceMethod yX4_allThatFits, Cond.selects RX4 yX4_allThatFits yX4_allThatFits, Cond.code yX4_allThatFits cX4_allThatFits 3 (some .int), Cond.methodLink RX4 23 yX4_fitsAll, Cond.instanceMethod yX4_fitsAll, Cond.selects RX4 yX4_fitsAll yX4_fitsAll, Cond.code yX4_fitsAll cX4_fitsAll 3 (some .boolean), Cond.methodLink RL 109 yX10_bears, Cond.instanceMethod yX10_bears, Cond.selects RX10 yX10_bears yX10_bears, Cond.code yX10_bears cX10_bears 1 (some .int), Cond.methodLink RX10 263 yX10_bearsNow, Cond.instanceMethod yX10_bearsNow, Cond.selects RX10 yX10_bearsNow yX10_bearsNow, Cond.code yX10_bearsNow cX10_bearsNow 5 (some .int), Cond.methodLink RL 110 yX9_listen, Cond.instanceMethod yX9_listen, Cond.selects RX9 yX9_listen yX9_listen, Cond.code yX9_listen cX9_listen 1 (some .int)]
def wsL_law_r35 : List Cond := [Cond.methodLink RX9 255 yX4_bestDepth, Cond.instanceMethod yX4_bestDepth, Cond.selects RX4 yX4_bestDepth yX4_bestDepth, Cond.code yX4_bestDepth cX4_bestDepth 8 (some .int), Cond.methodLink RX4 37 Lib.Math.max.name, Cond.methodLink RX4 27 yX4_allThatFits, Cond.methodLink RX4 31 yJ6_bitCount_0f7a4, Cond.static yJ6_bitCount_0f7a4, Cond.code yJ6_bitCount_0f7a4 cJ6_bitCount_0f7a4 1 (some .int), Cond.constant RJ6 265 (1431655765), Cond.constant RJ6 266 (858993459), Cond.constant RJ6 267 (252645135), Cond.methodLink RL 113 yX10_listen, Cond.instanceMethod yX10_listen, Cond.selects RX10 yX10_listen yX10_listen, Cond.code yX10_listen cX10_listen 8 (some .int), Cond.methodLink RL 114 yX9_write, Cond.instanceMethod yX9_write, Cond.selects RX9 yX9_write yX9_write, Cond.code yX9_write cX9_write 3 (some .int), Cond.methodLink RX9 258 yX1_add, Cond.instanceMethod yX1_add, Cond.selects RX1 yX1_add yX1_add, Cond.code yX1_add cX1_add 3 (some .int)]
def wsL_law_r36 : List Cond := [Cond.methodLink RL 117 yX10_write, Cond.instanceMethod yX10_write, Cond.selects RX10 yX10_write yX10_write, Cond.code yX10_write cX10_write 3 (some .int), Cond.methodLink RL 118 yX9_tear, Cond.instanceMethod yX9_tear, Cond.selects RX9 yX9_tear yX9_tear, Cond.code yX9_tear cX9_tear 2 (some .int), Cond.methodLink RL 121 yX10_tear, Cond.instanceMethod yX10_tear, Cond.selects RX10 yX10_tear yX10_tear, Cond.code yX10_tear cX10_tear 2 (some .int), Cond.methodLink RL 122 yX9_judge, Cond.instanceMethod yX9_judge, Cond.selects RX9 yX9_judge yX9_judge, Cond.code yX9_judge cX9_judge 1 (some .int), Cond.methodLink RX9 260 yX1_firstWrong, Cond.instanceMethod yX1_firstWrong, Cond.selects RX1 yX1_firstWrong yX1_firstWrong, Cond.code yX1_firstWrong cX1_firstWrong 3 (some .int), Cond.fieldLink RX1 22 "BathingCourt$Day" "state" "[I", Cond.methodLink RL 125 yX10_judge, Cond.instanceMethod yX10_judge, Cond.selects RX10 yX10_judge yX10_judge]
def wsL_law_r37 : List Cond := [Cond.code yX10_judge cX10_judge 2 (some .int), Cond.methodLink RL 126 yX9_seed, Cond.instanceMethod yX9_seed, Cond.selects RX9 yX9_seed yX9_seed, Cond.code yX9_seed cX9_seed 3 (some .int), Cond.fieldLink RX9 264 "BathingCourt$Draws" "current" "I", Cond.methodLink RL 129 yX10_seed, Cond.instanceMethod yX10_seed, Cond.selects RX10 yX10_seed yX10_seed, Cond.code yX10_seed cX10_seed 3 (some .int), Cond.methodLink RL 130 yX9_keep, Cond.instanceMethod yX9_keep, Cond.selects RX9 yX9_keep yX9_keep, Cond.code yX9_keep cX9_keep 2 (some .int), Cond.methodLink RX9 267 yX9_isNoImage, Cond.static yX9_isNoImage, Cond.code yX9_isNoImage cX9_isNoImage 1 (some .boolean), Cond.methodLink RX9 270 yX5_take, Cond.instanceMethod yX5_take, Cond.selects RX5 yX5_take yX5_take, Cond.code yX5_take cX5_take 4 none, Cond.methodLink RX5 24 yX2_saveTo, Cond.methodLink RL 133 yX10_keep, Cond.instanceMethod yX10_keep]
def wsL_law_r38 : List Cond := [Cond.selects RX10 yX10_keep yX10_keep, Cond.code yX10_keep cX10_keep 3 (some .int), Cond.methodLink RL 134 yX9_goBack, Cond.instanceMethod yX9_goBack, Cond.selects RX9 yX9_goBack yX9_goBack, Cond.code yX9_goBack cX9_goBack 2 (some .int), Cond.fieldLink RX9 274 "BathingCourt$Images" "taken" "[Z", Cond.fieldLink RX9 282 "BathingCourt$Images" "seeds" "[I", Cond.methodLink RX9 278 yX5_show, Cond.instanceMethod yX5_show, Cond.selects RX5 yX5_show yX5_show, Cond.code yX5_show cX5_show 3 none, Cond.methodLink RX5 28 yX2_loadFrom, Cond.methodLink RL 137 yX10_goBack, Cond.instanceMethod yX10_goBack, Cond.selects RX10 yX10_goBack yX10_goBack, Cond.code yX10_goBack cX10_goBack 3 (some .int)]
def wsL_law : List Cond := (wsL_law_r1 ++ (wsL_law_r2 ++ (wsL_law_r3 ++ (wsL_law_r4 ++ (wsL_law_r5 ++ (wsL_law_r6 ++ (wsL_law_r7 ++ (wsL_law_r8 ++ (wsL_law_r9 ++ (wsL_law_r10 ++ (wsL_law_r11 ++ (wsL_law_r12 ++ (wsL_law_r13 ++ (wsL_law_r14 ++ (wsL_law_r15 ++ (wsL_law_r16 ++ (wsL_law_r17 ++ (wsL_law_r18 ++ (wsL_law_r19 ++ (wsL_law_r20 ++ (wsL_law_r21 ++ (wsL_law_r22 ++ (wsL_law_r23 ++ (wsL_law_r24 ++ (wsL_law_r25 ++ (wsL_law_r26 ++ (wsL_law_r27 ++ (wsL_law_r28 ++ (wsL_law_r29 ++ (wsL_law_r30 ++ (wsL_law_r31 ++ (wsL_law_r32 ++ (wsL_law_r33 ++ (wsL_law_r34 ++ (wsL_law_r35 ++ (wsL_law_r36 ++ (wsL_law_r37 ++ wsL_law_r38))))))))))))))))))))))))))))))))))))) ++ wsX90 ++ wsX100 ++ wsX80 ++ wsX20 ++ wsX60 ++ wsX50 ++ wsX70 ++ wsX40 ++ wsX10 ++ wsX30 ++ wsX00 ++ ([] : List Cond)
set_option maxRecDepth 20000 in
theorem wsL_law_r1_in : ∀ w ∈ wsL_law_r1, w ∈ lw_tbl := fun w h => (goodIn_p wsL_law_r1 [71, 74] (by decide +kernel) (by decide +kernel) w h).1
set_option maxRecDepth 20000 in
theorem wsL_law_r2_in : ∀ w ∈ wsL_law_r2, w ∈ lw_tbl := fun w h => (goodIn_p wsL_law_r2 [] (by decide +kernel) (by decide +kernel) w h).1
set_option maxRecDepth 20000 in
theorem wsL_law_r3_in : ∀ w ∈ wsL_law_r3, w ∈ lw_tbl := fun w h => (goodIn_p wsL_law_r3 [79, 105, 109, 142] (by decide +kernel) (by decide +kernel) w h).1
set_option maxRecDepth 20000 in
theorem wsL_law_r4_in : ∀ w ∈ wsL_law_r4, w ∈ lw_tbl := fun w h => (goodIn_p wsL_law_r4 [159, 178, 212, 229] (by decide +kernel) (by decide +kernel) w h).1
set_option maxRecDepth 20000 in
theorem wsL_law_r5_in : ∀ w ∈ wsL_law_r5, w ∈ lw_tbl := fun w h => (goodIn_p wsL_law_r5 [246, 257, 773] (by decide +kernel) (by decide +kernel) w h).1
set_option maxRecDepth 20000 in
theorem wsL_law_r6_in : ∀ w ∈ wsL_law_r6, w ∈ lw_tbl := fun w h => (goodIn_p wsL_law_r6 [335] (by decide +kernel) (by decide +kernel) w h).1
set_option maxRecDepth 20000 in
theorem wsL_law_r7_in : ∀ w ∈ wsL_law_r7, w ∈ lw_tbl := fun w h => (goodIn_p wsL_law_r7 [338, 344, 896, 900] (by decide +kernel) (by decide +kernel) w h).1
set_option maxRecDepth 20000 in
theorem wsL_law_r8_in : ∀ w ∈ wsL_law_r8, w ∈ lw_tbl := fun w h => (goodIn_p wsL_law_r8 [348, 352, 356, 360] (by decide +kernel) (by decide +kernel) w h).1
set_option maxRecDepth 20000 in
theorem wsL_law_r9_in : ∀ w ∈ wsL_law_r9, w ∈ lw_tbl := fun w h => (goodIn_p wsL_law_r9 [364, 368, 372, 376, 380, 384] (by decide +kernel) (by decide +kernel) w h).1
set_option maxRecDepth 20000 in
theorem wsL_law_r10_in : ∀ w ∈ wsL_law_r10, w ∈ lw_tbl := fun w h => (goodIn_p wsL_law_r10 [387, 391, 395, 399, 403, 407] (by decide +kernel) (by decide +kernel) w h).1
set_option maxRecDepth 20000 in
theorem wsL_law_r11_in : ∀ w ∈ wsL_law_r11, w ∈ lw_tbl := fun w h => (goodIn_p wsL_law_r11 [411, 415, 419, 423, 427] (by decide +kernel) (by decide +kernel) w h).1
set_option maxRecDepth 20000 in
theorem wsL_law_r12_in : ∀ w ∈ wsL_law_r12, w ∈ lw_tbl := fun w h => (goodIn_p wsL_law_r12 [431, 435, 906, 910] (by decide +kernel) (by decide +kernel) w h).1
set_option maxRecDepth 20000 in
theorem wsL_law_r13_in : ∀ w ∈ wsL_law_r13, w ∈ lw_tbl := fun w h => (goodIn_p wsL_law_r13 [914, 918, 922, 926, 930] (by decide +kernel) (by decide +kernel) w h).1
set_option maxRecDepth 20000 in
theorem wsL_law_r14_in : ∀ w ∈ wsL_law_r14, w ∈ lw_tbl := fun w h => (goodIn_p wsL_law_r14 [936, 940, 944, 439, 948] (by decide +kernel) (by decide +kernel) w h).1
set_option maxRecDepth 20000 in
theorem wsL_law_r15_in : ∀ w ∈ wsL_law_r15, w ∈ lw_tbl := fun w h => (goodIn_p wsL_law_r15 [443, 447, 451, 952] (by decide +kernel) (by decide +kernel) w h).1
set_option maxRecDepth 20000 in
theorem wsL_law_r16_in : ∀ w ∈ wsL_law_r16, w ∈ lw_tbl := fun w h => (goodIn_p wsL_law_r16 [956, 960, 455, 458, 464, 468] (by decide +kernel) (by decide +kernel) w h).1
set_option maxRecDepth 20000 in
theorem wsL_law_r17_in : ∀ w ∈ wsL_law_r17, w ∈ lw_tbl := fun w h => (goodIn_p wsL_law_r17 [471, 964, 967, 974, 475] (by decide +kernel) (by decide +kernel) w h).1
set_option maxRecDepth 20000 in
theorem wsL_law_r18_in : ∀ w ∈ wsL_law_r18, w ∈ lw_tbl := fun w h => (goodIn_p wsL_law_r18 [479, 978, 982, 484] (by decide +kernel) (by decide +kernel) w h).1
set_option maxRecDepth 20000 in
theorem wsL_law_r19_in : ∀ w ∈ wsL_law_r19, w ∈ lw_tbl := fun w h => (goodIn_p wsL_law_r19 [488, 987, 991, 492, 496, 500] (by decide +kernel) (by decide +kernel) w h).1
set_option maxRecDepth 20000 in
theorem wsL_law_r20_in : ∀ w ∈ wsL_law_r20, w ∈ lw_tbl := fun w h => (goodIn_p wsL_law_r20 [510, 504, 514, 520] (by decide +kernel) (by decide +kernel) w h).1
set_option maxRecDepth 20000 in
theorem wsL_law_r21_in : ∀ w ∈ wsL_law_r21, w ∈ lw_tbl := fun w h => (goodIn_p wsL_law_r21 [524, 528, 532, 995, 999, 1004] (by decide +kernel) (by decide +kernel) w h).1
set_option maxRecDepth 20000 in
theorem wsL_law_r22_in : ∀ w ∈ wsL_law_r22, w ∈ lw_tbl := fun w h => (goodIn_p wsL_law_r22 [1008, 1012, 536, 540, 544, 1016] (by decide +kernel) (by decide +kernel) w h).1
set_option maxRecDepth 20000 in
theorem wsL_law_r23_in : ∀ w ∈ wsL_law_r23, w ∈ lw_tbl := fun w h => (goodIn_p wsL_law_r23 [1020, 1024, 548, 552, 555, 559] (by decide +kernel) (by decide +kernel) w h).1
set_option maxRecDepth 20000 in
theorem wsL_law_r24_in : ∀ w ∈ wsL_law_r24, w ∈ lw_tbl := fun w h => (goodIn_p wsL_law_r24 [1028, 1032, 1036, 563, 1040, 568] (by decide +kernel) (by decide +kernel) w h).1
set_option maxRecDepth 20000 in
theorem wsL_law_r25_in : ∀ w ∈ wsL_law_r25, w ∈ lw_tbl := fun w h => (goodIn_p wsL_law_r25 [572, 576, 1044, 1048] (by decide +kernel) (by decide +kernel) w h).1
set_option maxRecDepth 20000 in
theorem wsL_law_r26_in : ∀ w ∈ wsL_law_r26, w ∈ lw_tbl := fun w h => (goodIn_p wsL_law_r26 [1052, 584, 588, 592, 1060] (by decide +kernel) (by decide +kernel) w h).1
set_option maxRecDepth 20000 in
theorem wsL_law_r27_in : ∀ w ∈ wsL_law_r27, w ∈ lw_tbl := fun w h => (goodIn_p wsL_law_r27 [596, 600, 604, 1064, 1068] (by decide +kernel) (by decide +kernel) w h).1
set_option maxRecDepth 20000 in
theorem wsL_law_r28_in : ∀ w ∈ wsL_law_r28, w ∈ lw_tbl := fun w h => (goodIn_p wsL_law_r28 [1072, 1076, 612, 616] (by decide +kernel) (by decide +kernel) w h).1
set_option maxRecDepth 20000 in
theorem wsL_law_r29_in : ∀ w ∈ wsL_law_r29, w ∈ lw_tbl := fun w h => (goodIn_p wsL_law_r29 [623, 626, 631, 635, 639, 644] (by decide +kernel) (by decide +kernel) w h).1
set_option maxRecDepth 20000 in
theorem wsL_law_r30_in : ∀ w ∈ wsL_law_r30, w ∈ lw_tbl := fun w h => (goodIn_p wsL_law_r30 [648, 652, 656, 1080, 1085] (by decide +kernel) (by decide +kernel) w h).1
set_option maxRecDepth 20000 in
theorem wsL_law_r31_in : ∀ w ∈ wsL_law_r31, w ∈ lw_tbl := fun w h => (goodIn_p wsL_law_r31 [1089, 660, 1093, 664, 667, 1097] (by decide +kernel) (by decide +kernel) w h).1
set_option maxRecDepth 20000 in
theorem wsL_law_r32_in : ∀ w ∈ wsL_law_r32, w ∈ lw_tbl := fun w h => (goodIn_p wsL_law_r32 [671, 1102, 675, 1106, 680, 1110] (by decide +kernel) (by decide +kernel) w h).1
set_option maxRecDepth 20000 in
theorem wsL_law_r33_in : ∀ w ∈ wsL_law_r33, w ∈ lw_tbl := fun w h => (goodIn_p wsL_law_r33 [685, 1116, 691, 695, 1121] (by decide +kernel) (by decide +kernel) w h).1
set_option maxRecDepth 20000 in
theorem wsL_law_r34_in : ∀ w ∈ wsL_law_r34, w ∈ lw_tbl := fun w h => (goodIn_p wsL_law_r34 [699, 703, 707, 1125, 1129, 711] (by decide +kernel) (by decide +kernel) w h).1
set_option maxRecDepth 20000 in
theorem wsL_law_r35_in : ∀ w ∈ wsL_law_r35, w ∈ lw_tbl := fun w h => (goodIn_p wsL_law_r35 [715, 719, 1133, 727, 731] (by decide +kernel) (by decide +kernel) w h).1
set_option maxRecDepth 20000 in
theorem wsL_law_r36_in : ∀ w ∈ wsL_law_r36, w ∈ lw_tbl := fun w h => (goodIn_p wsL_law_r36 [1137, 735, 1141, 739, 743] (by decide +kernel) (by decide +kernel) w h).1
set_option maxRecDepth 20000 in
theorem wsL_law_r37_in : ∀ w ∈ wsL_law_r37, w ∈ lw_tbl := fun w h => (goodIn_p wsL_law_r37 [1145, 747, 1149, 751, 754, 758] (by decide +kernel) (by decide +kernel) w h).1
set_option maxRecDepth 20000 in
theorem wsL_law_r38_in : ∀ w ∈ wsL_law_r38, w ∈ lw_tbl := fun w h => (goodIn_p wsL_law_r38 [1153, 763, 767, 1157] (by decide +kernel) (by decide +kernel) w h).1
set_option maxRecDepth 20000 in
theorem q_in_wsX90 : ∀ w ∈ wsX90, w ∈ lw_tbl := by decide +kernel
set_option maxRecDepth 20000 in
theorem q_in_wsX100 : ∀ w ∈ wsX100, w ∈ lw_tbl := by decide +kernel
set_option maxRecDepth 20000 in
theorem q_in_wsX80 : ∀ w ∈ wsX80, w ∈ lw_tbl := by decide +kernel
set_option maxRecDepth 20000 in
theorem q_in_wsX20 : ∀ w ∈ wsX20, w ∈ lw_tbl := by decide +kernel
set_option maxRecDepth 20000 in
theorem q_in_wsX60 : ∀ w ∈ wsX60, w ∈ lw_tbl := by decide +kernel
set_option maxRecDepth 20000 in
theorem q_in_wsX50 : ∀ w ∈ wsX50, w ∈ lw_tbl := by decide +kernel
set_option maxRecDepth 20000 in
theorem q_in_wsX70 : ∀ w ∈ wsX70, w ∈ lw_tbl := by decide +kernel
set_option maxRecDepth 20000 in
theorem q_in_wsX40 : ∀ w ∈ wsX40, w ∈ lw_tbl := by decide +kernel
set_option maxRecDepth 20000 in
theorem q_in_wsX10 : ∀ w ∈ wsX10, w ∈ lw_tbl := by decide +kernel
set_option maxRecDepth 20000 in
theorem q_in_wsX30 : ∀ w ∈ wsX30, w ∈ lw_tbl := by decide +kernel
set_option maxRecDepth 20000 in
theorem q_in_wsX00 : ∀ w ∈ wsX00, w ∈ lw_tbl := by decide +kernel
theorem wsL_law_in : ∀ w ∈ wsL_law, w ∈ lw_tbl := by
  intro w h
  unfold wsL_law at h
  simp only [List.mem_append, List.not_mem_nil, or_false] at h
  rcases h with (((((((((((h | h | h | h | h | h | h | h | h | h | h | h | h | h | h | h | h | h | h | h | h | h | h | h | h | h | h | h | h | h | h | h | h | h | h | h | h | h) | h) | h) | h) | h) | h) | h) | h) | h) | h) | h) | h
  · exact wsL_law_r1_in w h
  · exact wsL_law_r2_in w h
  · exact wsL_law_r3_in w h
  · exact wsL_law_r4_in w h
  · exact wsL_law_r5_in w h
  · exact wsL_law_r6_in w h
  · exact wsL_law_r7_in w h
  · exact wsL_law_r8_in w h
  · exact wsL_law_r9_in w h
  · exact wsL_law_r10_in w h
  · exact wsL_law_r11_in w h
  · exact wsL_law_r12_in w h
  · exact wsL_law_r13_in w h
  · exact wsL_law_r14_in w h
  · exact wsL_law_r15_in w h
  · exact wsL_law_r16_in w h
  · exact wsL_law_r17_in w h
  · exact wsL_law_r18_in w h
  · exact wsL_law_r19_in w h
  · exact wsL_law_r20_in w h
  · exact wsL_law_r21_in w h
  · exact wsL_law_r22_in w h
  · exact wsL_law_r23_in w h
  · exact wsL_law_r24_in w h
  · exact wsL_law_r25_in w h
  · exact wsL_law_r26_in w h
  · exact wsL_law_r27_in w h
  · exact wsL_law_r28_in w h
  · exact wsL_law_r29_in w h
  · exact wsL_law_r30_in w h
  · exact wsL_law_r31_in w h
  · exact wsL_law_r32_in w h
  · exact wsL_law_r33_in w h
  · exact wsL_law_r34_in w h
  · exact wsL_law_r35_in w h
  · exact wsL_law_r36_in w h
  · exact wsL_law_r37_in w h
  · exact wsL_law_r38_in w h
  · exact q_in_wsX90 w h
  · exact q_in_wsX100 w h
  · exact q_in_wsX80 w h
  · exact q_in_wsX20 w h
  · exact q_in_wsX60 w h
  · exact q_in_wsX50 w h
  · exact q_in_wsX70 w h
  · exact q_in_wsX40 w h
  · exact q_in_wsX10 w h
  · exact q_in_wsX30 w h
  · exact q_in_wsX00 w h
theorem inlX0 : ∀ w ∈ wsX00, w ∈ wsL_law := fun _ h => List.mem_append_left _ (List.mem_append_right _ h)
theorem inX0 : ∀ w ∈ wsX00, w ∈ lw_tbl := fun w h => wsL_law_in w (inlX0 w h)
theorem inlX1 : ∀ w ∈ wsX10, w ∈ wsL_law := fun _ h => List.mem_append_left _ (List.mem_append_left _ (List.mem_append_left _ (List.mem_append_right _ h)))
theorem inX1 : ∀ w ∈ wsX10, w ∈ lw_tbl := fun w h => wsL_law_in w (inlX1 w h)
theorem inlX2 : ∀ w ∈ wsX20, w ∈ wsL_law := fun _ h => List.mem_append_left _ (List.mem_append_left _ (List.mem_append_left _ (List.mem_append_left _ (List.mem_append_left _ (List.mem_append_left _ (List.mem_append_left _ (List.mem_append_left _ (List.mem_append_right _ h))))))))
theorem inX2 : ∀ w ∈ wsX20, w ∈ lw_tbl := fun w h => wsL_law_in w (inlX2 w h)
theorem inlX3 : ∀ w ∈ wsX30, w ∈ wsL_law := fun _ h => List.mem_append_left _ (List.mem_append_left _ (List.mem_append_right _ h))
theorem inX3 : ∀ w ∈ wsX30, w ∈ lw_tbl := fun w h => wsL_law_in w (inlX3 w h)
theorem inlX4 : ∀ w ∈ wsX40, w ∈ wsL_law := fun _ h => List.mem_append_left _ (List.mem_append_left _ (List.mem_append_left _ (List.mem_append_left _ (List.mem_append_right _ h))))
theorem inX4 : ∀ w ∈ wsX40, w ∈ lw_tbl := fun w h => wsL_law_in w (inlX4 w h)
theorem inlX5 : ∀ w ∈ wsX50, w ∈ wsL_law := fun _ h => List.mem_append_left _ (List.mem_append_left _ (List.mem_append_left _ (List.mem_append_left _ (List.mem_append_left _ (List.mem_append_left _ (List.mem_append_right _ h))))))
theorem inX5 : ∀ w ∈ wsX50, w ∈ lw_tbl := fun w h => wsL_law_in w (inlX5 w h)
theorem inlX6 : ∀ w ∈ wsX60, w ∈ wsL_law := fun _ h => List.mem_append_left _ (List.mem_append_left _ (List.mem_append_left _ (List.mem_append_left _ (List.mem_append_left _ (List.mem_append_left _ (List.mem_append_left _ (List.mem_append_right _ h)))))))
theorem inX6 : ∀ w ∈ wsX60, w ∈ lw_tbl := fun w h => wsL_law_in w (inlX6 w h)
theorem inlX7 : ∀ w ∈ wsX70, w ∈ wsL_law := fun _ h => List.mem_append_left _ (List.mem_append_left _ (List.mem_append_left _ (List.mem_append_left _ (List.mem_append_left _ (List.mem_append_right _ h)))))
theorem inX7 : ∀ w ∈ wsX70, w ∈ lw_tbl := fun w h => wsL_law_in w (inlX7 w h)
theorem inlX8 : ∀ w ∈ wsX80, w ∈ wsL_law := fun _ h => List.mem_append_left _ (List.mem_append_left _ (List.mem_append_left _ (List.mem_append_left _ (List.mem_append_left _ (List.mem_append_left _ (List.mem_append_left _ (List.mem_append_left _ (List.mem_append_left _ (List.mem_append_right _ h)))))))))
theorem inX8 : ∀ w ∈ wsX80, w ∈ lw_tbl := fun w h => wsL_law_in w (inlX8 w h)
theorem inlX9 : ∀ w ∈ wsX90, w ∈ wsL_law := fun _ h => List.mem_append_left _ (List.mem_append_left _ (List.mem_append_left _ (List.mem_append_left _ (List.mem_append_left _ (List.mem_append_left _ (List.mem_append_left _ (List.mem_append_left _ (List.mem_append_left _ (List.mem_append_left _ (List.mem_append_left _ (List.mem_append_right _ h)))))))))))
theorem inX9 : ∀ w ∈ wsX90, w ∈ lw_tbl := fun w h => wsL_law_in w (inlX9 w h)
theorem inlX10 : ∀ w ∈ wsX100, w ∈ wsL_law := fun _ h => List.mem_append_left _ (List.mem_append_left _ (List.mem_append_left _ (List.mem_append_left _ (List.mem_append_left _ (List.mem_append_left _ (List.mem_append_left _ (List.mem_append_left _ (List.mem_append_left _ (List.mem_append_left _ (List.mem_append_right _ h))))))))))
theorem inX10 : ∀ w ∈ wsX100, w ∈ lw_tbl := fun w h => wsL_law_in w (inlX10 w h)
theorem inJ6 : ∀ w ∈ wsJ60, w ∈ lw_tbl := by decide +kernel
theorem inJ9 : ∀ w ∈ wsJ90, w ∈ lw_tbl := by decide +kernel
theorem inJ10 : ∀ w ∈ wsJ100, w ∈ lw_tbl := by decide +kernel
theorem inJ7 : ∀ w ∈ wsJ70, w ∈ lw_tbl := by decide +kernel
set_option maxRecDepth 20000 in
theorem ggL_law_X9_init : GoodIn wsL_law wsX9_init := goodIn_r _ [8, 9, 10, 11, 12, 13, 14, 15, 16, 17, 18, 19, 20, 21, 22, 23, 24, 25, 26, 27, 28, 29, 30, 31, 32, 33, 34, 35, 36, 37, 38, 39, 40, 41, 42, 43, 44, 45, 46, 47, 48, 49, 50, 51, 52, 53, 54, 55, 56, 57, 58, 59, 60, 61, 62, 63, 64, 65, 66, 67, 68, 69, 70, 71, 72, 73, 74, 75, 76, 77, 78, 79, 80, 81, 82, 83, 84, 85, 86, 87, 88, 89, 90, 91, 92, 93, 94, 95, 96, 97, 98, 99, 100, 101, 102, 103, 104, 105, 106, 107, 108, 109, 110, 954, 955, 956, 957, 958, 905, 906, 907, 908, 909, 910, 911, 912, 913, 914, 959, 960, 961, 962, 963, 964, 965, 966, 967, 968, 969, 970, 971, 972, 973, 974, 975, 976, 977, 978, 979, 980, 981, 982, 983, 984, 985, 986, 987, 988, 989, 990, 991, 992, 993, 994, 995] (by decide +kernel) (by decide +kernel)
set_option maxRecDepth 20000 in
theorem gL_law_X9_init : GoodIn wsL_law (wsX9_init) := ggL_law_X9_init
set_option maxRecDepth 20000 in
theorem ggL_law_X10_init : GoodIn wsL_law wsX10_init := goodIn_r _ [113, 114, 10, 11, 52, 115, 116, 117, 118, 119, 120, 121, 122, 123, 124, 125, 126, 127, 128, 129, 130, 131, 132, 133, 134, 77, 135, 136, 137, 138, 139, 915, 916, 917, 918, 919, 920, 921, 922, 923, 924, 925, 926, 927, 928, 929, 930, 931, 932, 933, 934, 935, 936, 937, 938, 939, 940, 941, 942, 943, 944, 945, 946, 947, 948, 949, 950, 951, 952, 953] (by decide +kernel) (by decide +kernel)
set_option maxRecDepth 20000 in
theorem gL_law_X10_init : GoodIn wsL_law (wsX10_init) := ggL_law_X10_init
set_option maxRecDepth 20000 in
theorem ggL_law_X9_feed : GoodIn wsL_law wsX9_feed := goodIn_r _ [143, 144, 15, 145, 146, 147, 148, 2, 149, 150, 151, 152, 14, 153, 154, 53, 905, 906, 907, 908, 909, 910, 911, 912, 913, 914, 954, 955, 956, 957, 958] (by decide +kernel) (by decide +kernel)
set_option maxRecDepth 20000 in
theorem gL_law_X9_feed : GoodIn wsL_law (wsV RL 13 RX9 yX9_feed wsX9_feed) := goodIn_app (goodIn_of _ (by decide +kernel)) ggL_law_X9_feed
set_option maxRecDepth 20000 in
theorem ggL_law_X10_feed : GoodIn wsL_law wsX10_feed := goodIn_r _ [158, 159, 160, 161, 162, 122, 163, 164, 5, 165, 915, 916, 917, 918, 919, 920, 921, 922, 923, 924, 925, 926, 927, 928, 929, 930, 931, 932, 933, 934, 935, 936, 937, 938, 939, 940, 941, 942, 943, 944, 945, 946, 947, 948, 949, 950, 951, 952, 953] (by decide +kernel) (by decide +kernel)
set_option maxRecDepth 20000 in
theorem gL_law_X10_feed : GoodIn wsL_law (wsV RL 17 RX10 yX10_feed wsX10_feed) := goodIn_app (goodIn_of _ (by decide +kernel)) ggL_law_X10_feed
set_option maxRecDepth 20000 in
theorem ggL_law_X9_beach : GoodIn wsL_law wsX9_beach := goodIn_r _ [169, 15, 48, 170, 47, 19, 23, 27, 35, 39, 171, 172, 173, 174, 14, 175, 176, 177, 54, 154, 178, 179, 180, 46, 181, 182, 183, 184, 185, 186, 187, 188, 189, 190, 191, 192, 53, 193, 194, 195, 196, 197, 198, 199, 200, 201, 202, 203, 204, 205, 206, 207, 208, 209, 210, 211, 212, 213, 214, 215, 216, 217, 218, 219, 220, 105, 221, 222, 223, 224, 225, 226, 227, 228, 229, 230, 231, 232, 233, 234, 235, 236, 237, 106, 238, 239, 240, 241, 242, 243, 244, 245, 246, 107, 108, 109, 110, 247, 248, 249, 18, 250, 251, 59, 60, 61, 62, 63, 64, 65, 66, 67, 252, 253, 254, 22, 255, 256, 257, 258, 259, 26, 260, 78, 261, 262, 263, 34, 264, 265, 266, 267, 268, 38, 269, 270, 905, 906, 907, 908, 909, 910, 911, 912, 913, 914, 954, 955, 956, 957, 958, 987, 988, 989, 990, 991, 992, 993, 994, 995, 959, 960, 961, 962, 963, 964, 965, 966, 967, 968, 969, 970, 980, 981, 982, 983, 984, 985] (by decide +kernel) (by decide +kernel)
set_option maxRecDepth 20000 in
theorem gL_law_X9_beach : GoodIn wsL_law (wsV RL 18 RX9 yX9_beach wsX9_beach) := goodIn_app (goodIn_of _ (by decide +kernel)) ggL_law_X9_beach
set_option maxRecDepth 20000 in
theorem ggL_law_X10_beach : GoodIn wsL_law wsX10_beach := goodIn_r _ [274, 123, 275, 276, 277, 278, 161, 279, 280, 281, 139, 282, 283, 284, 285, 5, 286, 122, 287, 288, 289, 290, 291, 292, 293, 294, 295, 296, 297, 298, 124, 299, 300, 301, 302, 303, 304, 305, 306, 307, 308, 309, 310, 163, 164, 165, 311, 312, 313, 314, 125, 315, 316, 317, 318, 126, 127, 128, 129, 319, 320, 321, 322, 323, 324, 115, 116, 117, 118, 119, 120, 121, 915, 916, 917, 918, 919, 920, 921, 922, 923, 924, 925, 926, 927, 928, 929, 930, 931, 932, 933, 934, 935, 936, 937, 938, 939, 940, 941, 942, 943, 944, 945, 946, 947, 948, 949, 950, 951, 952, 953] (by decide +kernel) (by decide +kernel)
set_option maxRecDepth 20000 in
theorem gL_law_X10_beach : GoodIn wsL_law (wsV RL 22 RX10 yX10_beach wsX10_beach) := goodIn_app (goodIn_of _ (by decide +kernel)) ggL_law_X10_beach
set_option maxRecDepth 20000 in
theorem ggL_law_X9_fault : GoodIn wsL_law wsX9_fault := goodIn_r _ [328, 15, 329, 905, 906, 907, 908, 909, 910, 911, 912, 913, 914, 954, 955, 956, 957, 958] (by decide +kernel) (by decide +kernel)
set_option maxRecDepth 20000 in
theorem gL_law_X9_fault : GoodIn wsL_law (wsV RL 23 RX9 yX9_fault wsX9_fault) := goodIn_app (goodIn_of _ (by decide +kernel)) ggL_law_X9_fault
set_option maxRecDepth 20000 in
theorem ggL_law_X10_fault : GoodIn wsL_law wsX10_fault := goodIn_r _ [333, 123, 915, 916, 917, 918, 919, 920, 921, 922, 923, 924, 925, 926, 927, 928, 929, 930, 931, 932, 933, 934, 935, 936, 937, 938, 939, 940, 941, 942, 943, 944, 945, 946, 947, 948, 949, 950, 951, 952, 953] (by decide +kernel) (by decide +kernel)
set_option maxRecDepth 20000 in
theorem gL_law_X10_fault : GoodIn wsL_law (wsV RL 26 RX10 yX10_fault wsX10_fault) := goodIn_app (goodIn_of _ (by decide +kernel)) ggL_law_X10_fault
set_option maxRecDepth 20000 in
theorem ggL_law_X9_told : GoodIn wsL_law wsX9_told := goodIn_r _ [337, 47, 338, 339, 171, 15, 145, 19, 340, 35, 341, 39, 342, 23, 343, 144, 344, 345, 346, 18, 347, 62, 348, 349, 350, 2, 351, 352, 353, 905, 906, 907, 908, 909, 910, 911, 912, 913, 914, 987, 988, 989, 990, 991, 992, 993, 994, 995, 954, 955, 956, 957, 958, 959, 960, 961, 962, 963, 964, 980, 981, 982, 983, 984, 985, 965, 966, 967] (by decide +kernel) (by decide +kernel)
set_option maxRecDepth 20000 in
theorem gL_law_X9_told : GoodIn wsL_law (wsV RL 27 RX9 yX9_told wsX9_told) := goodIn_app (goodIn_of _ (by decide +kernel)) ggL_law_X9_told
set_option maxRecDepth 20000 in
theorem ggL_law_X10_told : GoodIn wsL_law wsX10_told := goodIn_r _ [357, 323, 324, 282, 161, 121, 279, 280, 281, 160, 358, 359, 360, 5, 361, 362, 363, 364, 365, 120, 915, 916, 917, 918, 919, 920, 921, 922, 923, 924, 925, 926, 927, 928, 929, 930, 931, 932, 933, 934, 935, 936, 937, 938, 939, 940, 941, 942, 943, 944, 945, 946, 947, 948, 949, 950, 951, 952, 953] (by decide +kernel) (by decide +kernel)
set_option maxRecDepth 20000 in
theorem gL_law_X10_told : GoodIn wsL_law (wsV RL 30 RX10 yX10_told wsX10_told) := goodIn_app (goodIn_of _ (by decide +kernel)) ggL_law_X10_told
set_option maxRecDepth 20000 in
theorem ggL_law_X9_depth : GoodIn wsL_law wsX9_depth := goodIn_r _ [369, 144, 47, 370, 371, 372, 2, 373, 147, 148, 149, 374, 203, 204, 46, 205, 182, 375, 376, 377, 378, 19, 340, 379, 380, 381, 382, 105, 383, 384, 385, 386, 905, 906, 907, 908, 909, 910, 911, 912, 913, 914, 987, 988, 989, 990, 991, 992, 993, 994, 995, 959, 960, 961, 962, 963, 964] (by decide +kernel) (by decide +kernel)
set_option maxRecDepth 20000 in
theorem gL_law_X9_depth : GoodIn wsL_law (wsV RL 31 RX9 yX9_depth wsX9_depth) := goodIn_app (goodIn_of _ (by decide +kernel)) ggL_law_X9_depth
set_option maxRecDepth 20000 in
theorem ggL_law_X10_depth : GoodIn wsL_law wsX10_depth := goodIn_r _ [390, 391, 160, 323, 392, 393, 394, 5, 395, 396, 163, 164, 165, 397, 398, 399, 400, 115, 121, 915, 916, 917, 918, 919, 920, 921, 922, 923, 924, 925, 926, 927, 928, 929, 930, 931, 932, 933, 934, 935, 936, 937, 938, 939, 940, 941, 942, 943, 944, 945, 946, 947, 948, 949, 950, 951, 952, 953] (by decide +kernel) (by decide +kernel)
set_option maxRecDepth 20000 in
theorem gL_law_X10_depth : GoodIn wsL_law (wsV RL 35 RX10 yX10_depth wsX10_depth) := goodIn_app (goodIn_of _ (by decide +kernel)) ggL_law_X10_depth
set_option maxRecDepth 20000 in
theorem ggL_law_X9_hut : GoodIn wsL_law wsX9_hut := goodIn_r _ [404, 47, 405, 406, 19, 407, 408, 409, 144, 410, 411, 412, 46, 413, 183, 905, 906, 907, 908, 909, 910, 911, 912, 913, 914, 987, 988, 989, 990, 991, 992, 993, 994, 995, 959, 960, 961, 962, 963, 964] (by decide +kernel) (by decide +kernel)
set_option maxRecDepth 20000 in
theorem gL_law_X9_hut : GoodIn wsL_law (wsV RL 36 RX9 yX9_hut wsX9_hut) := goodIn_app (goodIn_of _ (by decide +kernel)) ggL_law_X9_hut
set_option maxRecDepth 20000 in
theorem ggL_law_X10_hut : GoodIn wsL_law wsX10_hut := goodIn_r _ [417, 418, 116, 121, 160, 419, 420, 421, 5, 422, 324, 163, 164, 165, 915, 916, 917, 918, 919, 920, 921, 922, 923, 924, 925, 926, 927, 928, 929, 930, 931, 932, 933, 934, 935, 936, 937, 938, 939, 940, 941, 942, 943, 944, 945, 946, 947, 948, 949, 950, 951, 952, 953] (by decide +kernel) (by decide +kernel)
set_option maxRecDepth 20000 in
theorem gL_law_X10_hut : GoodIn wsL_law (wsV RL 39 RX10 yX10_hut wsX10_hut) := goodIn_app (goodIn_of _ (by decide +kernel)) ggL_law_X10_hut
set_option maxRecDepth 20000 in
theorem ggL_law_X9_legal : GoodIn wsL_law wsX9_legal := goodIn_r _ [426, 47, 405, 427, 428, 429, 353, 19, 352, 430, 144, 431, 432, 433, 46, 434, 184, 905, 906, 907, 908, 909, 910, 911, 912, 913, 914, 987, 988, 989, 990, 991, 992, 993, 994, 995, 959, 960, 961, 962, 963, 964] (by decide +kernel) (by decide +kernel)
set_option maxRecDepth 20000 in
theorem gL_law_X9_legal : GoodIn wsL_law (wsV RL 40 RX9 yX9_legal wsX9_legal) := goodIn_app (goodIn_of _ (by decide +kernel)) ggL_law_X9_legal
set_option maxRecDepth 20000 in
theorem ggL_law_X10_legal : GoodIn wsL_law wsX10_legal := goodIn_r _ [438, 418, 117, 118, 119, 120, 121, 160, 439, 440, 441, 5, 442, 282, 163, 164, 165, 915, 916, 917, 918, 919, 920, 921, 922, 923, 924, 925, 926, 927, 928, 929, 930, 931, 932, 933, 934, 935, 936, 937, 938, 939, 940, 941, 942, 943, 944, 945, 946, 947, 948, 949, 950, 951, 952, 953] (by decide +kernel) (by decide +kernel)
set_option maxRecDepth 20000 in
theorem gL_law_X10_legal : GoodIn wsL_law (wsV RL 43 RX10 yX10_legal wsX10_legal) := goodIn_app (goodIn_of _ (by decide +kernel)) ggL_law_X10_legal
set_option maxRecDepth 20000 in
theorem ggL_law_X9_hour : GoodIn wsL_law wsX9_hour := goodIn_r _ [446, 23, 19, 47, 340, 447, 448, 449, 2, 450, 144, 370, 146, 147, 148, 149, 374, 203, 204, 46, 205, 182, 451, 452, 453, 22, 454, 455, 71, 256, 456, 457, 385, 458, 459, 460, 461, 18, 462, 59, 463, 464, 465, 466, 60, 61, 62, 63, 251, 467, 468, 469, 470, 471, 472, 432, 433, 434, 184, 473, 380, 381, 382, 105, 383, 384, 386, 474, 475, 476, 477, 478, 479, 480, 481, 482, 107, 109, 483, 484, 485, 486, 487, 488, 489, 490, 905, 906, 907, 908, 909, 910, 911, 912, 913, 914, 959, 960, 961, 962, 963, 964, 987, 988, 989, 990, 991, 992, 993, 994, 995, 965, 966, 967] (by decide +kernel) (by decide +kernel)
set_option maxRecDepth 20000 in
theorem gL_law_X9_hour : GoodIn wsL_law (wsV RL 44 RX9 yX9_hour wsX9_hour) := goodIn_app (goodIn_of _ (by decide +kernel)) ggL_law_X9_hour
set_option maxRecDepth 20000 in
theorem ggL_law_X10_hour : GoodIn wsL_law wsX10_hour := goodIn_r _ [494, 121, 495, 496, 497, 5, 498, 499, 160, 323, 392, 162, 163, 164, 165, 500, 501, 502, 503, 281, 130, 504, 505, 506, 507, 324, 508, 509, 510, 511, 117, 119, 118, 397, 398, 399, 400, 115, 915, 916, 917, 918, 919, 920, 921, 922, 923, 924, 925, 926, 927, 928, 929, 930, 931, 932, 933, 934, 935, 936, 937, 938, 939, 940, 941, 942, 943, 944, 945, 946, 947, 948, 949, 950, 951, 952, 953] (by decide +kernel) (by decide +kernel)
set_option maxRecDepth 20000 in
theorem gL_law_X10_hour : GoodIn wsL_law (wsV RL 47 RX10 yX10_hour wsX10_hour) := goodIn_app (goodIn_of _ (by decide +kernel)) ggL_law_X10_hour
set_option maxRecDepth 20000 in
theorem ggL_law_X9_bring : GoodIn wsL_law wsX9_bring := goodIn_r _ [515, 47, 405, 19, 370, 23, 171, 431, 432, 433, 46, 434, 184, 410, 411, 412, 413, 183, 516, 517, 518, 18, 519, 62, 60, 59, 451, 452, 453, 22, 454, 455, 71, 256, 456, 457, 385, 458, 459, 460, 461, 462, 463, 464, 465, 466, 61, 63, 251, 520, 521, 522, 523, 344, 345, 346, 347, 905, 906, 907, 908, 909, 910, 911, 912, 913, 914, 987, 988, 989, 990, 991, 992, 993, 994, 995, 959, 960, 961, 962, 963, 964, 965, 966, 967] (by decide +kernel) (by decide +kernel)
set_option maxRecDepth 20000 in
theorem gL_law_X9_bring : GoodIn wsL_law (wsV RL 48 RX9 yX9_bring wsX9_bring) := goodIn_app (goodIn_of _ (by decide +kernel)) ggL_law_X9_bring
set_option maxRecDepth 20000 in
theorem ggL_law_X10_bring : GoodIn wsL_law wsX10_bring := goodIn_r _ [527, 418, 392, 439, 440, 441, 5, 442, 282, 163, 164, 165, 419, 420, 421, 422, 324, 528, 529, 530, 531, 121, 500, 501, 502, 503, 281, 130, 532, 533, 534, 535, 358, 359, 360, 361, 915, 916, 917, 918, 919, 920, 921, 922, 923, 924, 925, 926, 927, 928, 929, 930, 931, 932, 933, 934, 935, 936, 937, 938, 939, 940, 941, 942, 943, 944, 945, 946, 947, 948, 949, 950, 951, 952, 953] (by decide +kernel) (by decide +kernel)
set_option maxRecDepth 20000 in
theorem gL_law_X10_bring : GoodIn wsL_law (wsV RL 51 RX10 yX10_bring wsX10_bring) := goodIn_app (goodIn_of _ (by decide +kernel)) ggL_law_X10_bring
set_option maxRecDepth 20000 in
theorem ggL_law_X9_drawTo : GoodIn wsL_law wsX9_drawTo := goodIn_r _ [539, 47, 405, 144, 19, 406, 370, 23, 410, 411, 412, 46, 413, 183, 371, 372, 2, 373, 147, 148, 149, 540, 541, 542, 18, 543, 61, 59, 544, 545, 385, 546, 451, 452, 453, 22, 454, 455, 71, 256, 456, 457, 458, 459, 460, 461, 462, 463, 464, 465, 466, 60, 62, 63, 251, 547, 548, 549, 550, 375, 376, 377, 378, 340, 379, 380, 381, 382, 182, 105, 383, 384, 386, 905, 906, 907, 908, 909, 910, 911, 912, 913, 914, 987, 988, 989, 990, 991, 992, 993, 994, 995, 959, 960, 961, 962, 963, 964, 965, 966, 967] (by decide +kernel) (by decide +kernel)
set_option maxRecDepth 20000 in
theorem gL_law_X9_drawTo : GoodIn wsL_law (wsV RL 52 RX9 yX9_drawTo wsX9_drawTo) := goodIn_app (goodIn_of _ (by decide +kernel)) ggL_law_X9_drawTo
set_option maxRecDepth 20000 in
theorem ggL_law_X10_drawTo : GoodIn wsL_law wsX10_drawTo := goodIn_r _ [554, 418, 160, 392, 419, 420, 421, 5, 422, 324, 163, 164, 165, 393, 394, 395, 396, 555, 556, 557, 558, 121, 116, 500, 501, 502, 503, 281, 130, 559, 560, 561, 562, 397, 398, 399, 400, 115, 323, 915, 916, 917, 918, 919, 920, 921, 922, 923, 924, 925, 926, 927, 928, 929, 930, 931, 932, 933, 934, 935, 936, 937, 938, 939, 940, 941, 942, 943, 944, 945, 946, 947, 948, 949, 950, 951, 952, 953] (by decide +kernel) (by decide +kernel)
set_option maxRecDepth 20000 in
theorem gL_law_X10_drawTo : GoodIn wsL_law (wsV RL 55 RX10 yX10_drawTo wsX10_drawTo) := goodIn_app (goodIn_of _ (by decide +kernel)) ggL_law_X10_drawTo
set_option maxRecDepth 20000 in
theorem ggL_law_X9_settle : GoodIn wsL_law wsX9_settle := goodIn_r _ [566, 47, 405, 19, 352, 370, 23, 353, 431, 432, 433, 46, 434, 184, 451, 452, 453, 22, 454, 455, 71, 256, 456, 457, 385, 458, 459, 460, 461, 18, 462, 59, 463, 464, 465, 466, 60, 61, 62, 63, 251, 567, 484, 485, 486, 905, 906, 907, 908, 909, 910, 911, 912, 913, 914, 959, 960, 961, 962, 963, 964, 987, 988, 989, 990, 991, 992, 993, 994, 995, 965, 966, 967] (by decide +kernel) (by decide +kernel)
set_option maxRecDepth 20000 in
theorem gL_law_X9_settle : GoodIn wsL_law (wsV RL 56 RX9 yX9_settle wsX9_settle) := goodIn_app (goodIn_of _ (by decide +kernel)) ggL_law_X9_settle
set_option maxRecDepth 20000 in
theorem ggL_law_X10_settle : GoodIn wsL_law wsX10_settle := goodIn_r _ [571, 418, 121, 392, 324, 120, 439, 440, 441, 5, 442, 282, 163, 164, 165, 500, 501, 502, 503, 281, 130, 915, 916, 917, 918, 919, 920, 921, 922, 923, 924, 925, 926, 927, 928, 929, 930, 931, 932, 933, 934, 935, 936, 937, 938, 939, 940, 941, 942, 943, 944, 945, 946, 947, 948, 949, 950, 951, 952, 953] (by decide +kernel) (by decide +kernel)
set_option maxRecDepth 20000 in
theorem gL_law_X10_settle : GoodIn wsL_law (wsV RL 59 RX10 yX10_settle wsX10_settle) := goodIn_app (goodIn_of _ (by decide +kernel)) ggL_law_X10_settle
set_option maxRecDepth 20000 in
theorem ggL_law_X9_drift : GoodIn wsL_law wsX9_drift := goodIn_r _ [575, 23, 19, 47, 171, 447, 448, 449, 2, 450, 144, 370, 340, 146, 147, 148, 149, 374, 203, 204, 46, 205, 182, 451, 452, 453, 22, 454, 455, 71, 256, 456, 457, 385, 458, 459, 460, 461, 18, 462, 59, 463, 464, 465, 466, 60, 61, 62, 63, 251, 576, 577, 578, 579, 43, 339, 406, 580, 581, 582, 42, 583, 584, 585, 586, 587, 588, 410, 411, 412, 413, 183, 540, 541, 542, 543, 544, 545, 546, 547, 548, 549, 550, 431, 432, 433, 434, 184, 516, 517, 518, 519, 520, 521, 522, 523, 467, 468, 469, 470, 471, 472, 473, 380, 381, 382, 105, 383, 384, 386, 474, 475, 476, 477, 478, 479, 480, 481, 482, 107, 109, 483, 484, 485, 486, 487, 488, 489, 490, 344, 345, 346, 347, 905, 906, 907, 908, 909, 910, 911, 912, 913, 914, 987, 988, 989, 990, 991, 992, 993, 994, 995, 959, 960, 961, 962, 963, 964, 965, 966, 967, 986] (by decide +kernel) (by decide +kernel)
set_option maxRecDepth 20000 in
theorem gL_law_X9_drift : GoodIn wsL_law (wsV RL 60 RX9 yX9_drift wsX9_drift) := goodIn_app (goodIn_of _ (by decide +kernel)) ggL_law_X9_drift
set_option maxRecDepth 20000 in
theorem ggL_law_X10_drift : GoodIn wsL_law wsX10_drift := goodIn_r _ [592, 324, 495, 496, 497, 5, 498, 499, 160, 323, 392, 121, 162, 163, 164, 165, 500, 501, 502, 503, 281, 130, 593, 594, 595, 596, 282, 597, 598, 599, 600, 601, 602, 603, 604, 605, 555, 556, 557, 558, 116, 559, 560, 561, 562, 528, 529, 530, 531, 532, 533, 534, 535, 504, 505, 506, 507, 508, 509, 510, 511, 117, 119, 118, 397, 398, 399, 400, 115, 358, 359, 360, 361, 915, 916, 917, 918, 919, 920, 921, 922, 923, 924, 925, 926, 927, 928, 929, 930, 931, 932, 933, 934, 935, 936, 937, 938, 939, 940, 941, 942, 943, 944, 945, 946, 947, 948, 949, 950, 951, 952, 953] (by decide +kernel) (by decide +kernel)
set_option maxRecDepth 20000 in
theorem gL_law_X10_drift : GoodIn wsL_law (wsV RL 63 RX10 yX10_drift wsX10_drift) := goodIn_app (goodIn_of _ (by decide +kernel)) ggL_law_X10_drift
set_option maxRecDepth 20000 in
theorem ggL_law_X9_undo : GoodIn wsL_law wsX9_undo := goodIn_r _ [609, 23, 343, 370, 19, 610, 611, 612, 22, 613, 256, 71, 455, 614, 615, 616, 18, 617, 59, 463, 464, 465, 466, 60, 61, 62, 63, 251, 905, 906, 907, 908, 909, 910, 911, 912, 913, 914, 965, 966, 967, 959, 960, 961, 962, 963, 964] (by decide +kernel) (by decide +kernel)
set_option maxRecDepth 20000 in
theorem gL_law_X9_undo : GoodIn wsL_law (wsV RL 64 RX9 yX9_undo wsX9_undo) := goodIn_app (goodIn_of _ (by decide +kernel)) ggL_law_X9_undo
set_option maxRecDepth 20000 in
theorem ggL_law_X10_undo : GoodIn wsL_law wsX10_undo := goodIn_r _ [621, 281, 392, 121, 130, 915, 916, 917, 918, 919, 920, 921, 922, 923, 924, 925, 926, 927, 928, 929, 930, 931, 932, 933, 934, 935, 936, 937, 938, 939, 940, 941, 942, 943, 944, 945, 946, 947, 948, 949, 950, 951, 952, 953] (by decide +kernel) (by decide +kernel)
set_option maxRecDepth 20000 in
theorem gL_law_X10_undo : GoodIn wsL_law (wsV RL 67 RX10 yX10_undo wsX10_undo) := goodIn_app (goodIn_of _ (by decide +kernel)) ggL_law_X10_undo
set_option maxRecDepth 20000 in
theorem ggL_law_X9_open : GoodIn wsL_law wsX9_open := goodIn_r _ [625, 47, 405, 19, 340, 431, 432, 433, 46, 434, 184, 626, 627, 628, 629, 630, 631, 632, 633, 634, 457, 385, 458, 383, 384, 386, 635, 380, 381, 382, 182, 105, 636, 488, 489, 490, 107, 637, 480, 481, 482, 109, 905, 906, 907, 908, 909, 910, 911, 912, 913, 914, 959, 960, 961, 962, 963, 964, 987, 988, 989, 990, 991, 992, 993, 994, 995] (by decide +kernel) (by decide +kernel)
set_option maxRecDepth 20000 in
theorem gL_law_X9_open : GoodIn wsL_law (wsV RL 68 RX9 yX9_open wsX9_open) := goodIn_app (goodIn_of _ (by decide +kernel)) ggL_law_X9_open
set_option maxRecDepth 20000 in
theorem ggL_law_X10_open : GoodIn wsL_law wsX10_open := goodIn_r _ [641, 418, 439, 440, 441, 5, 442, 282, 163, 164, 165, 642, 643, 644, 645, 646, 647, 648, 649, 397, 398, 399, 400, 115, 121, 323, 650, 651, 652, 653, 117, 119, 915, 916, 917, 918, 919, 920, 921, 922, 923, 924, 925, 926, 927, 928, 929, 930, 931, 932, 933, 934, 935, 936, 937, 938, 939, 940, 941, 942, 943, 944, 945, 946, 947, 948, 949, 950, 951, 952, 953] (by decide +kernel) (by decide +kernel)
set_option maxRecDepth 20000 in
theorem gL_law_X10_open : GoodIn wsL_law (wsV RL 71 RX10 yX10_open wsX10_open) := goodIn_app (goodIn_of _ (by decide +kernel)) ggL_law_X10_open
set_option maxRecDepth 20000 in
theorem ggL_law_X9_plan : GoodIn wsL_law wsX9_plan := goodIn_r _ [657, 47, 405, 144, 31, 19, 431, 432, 433, 46, 434, 184, 147, 148, 2, 149, 658, 659, 660, 30, 661, 662, 663, 88, 87, 85, 86, 82, 664, 665, 666, 667, 384, 385, 386, 668, 65, 66, 67, 669, 670, 627, 628, 629, 630, 631, 632, 633, 634, 457, 458, 383, 635, 380, 381, 382, 182, 105, 636, 488, 489, 490, 107, 637, 480, 481, 482, 109, 671, 672, 673, 674, 83, 84, 675, 676, 677, 678, 679, 680, 681, 682, 683, 684, 685, 686, 687, 464, 465, 466, 688, 689, 690, 691, 692, 693, 694, 695, 696, 697, 698, 699, 700, 701, 702, 703, 704, 705, 706, 707, 905, 906, 907, 908, 909, 910, 911, 912, 913, 914, 987, 988, 989, 990, 991, 992, 993, 994, 995, 971, 972, 973, 974, 975, 976, 977, 978, 979, 959, 960, 961, 962, 963, 964] (by decide +kernel) (by decide +kernel)
set_option maxRecDepth 20000 in
theorem gL_law_X9_plan : GoodIn wsL_law (wsV RL 72 RX9 yX9_plan wsX9_plan) := goodIn_app (goodIn_of _ (by decide +kernel)) ggL_law_X9_plan
set_option maxRecDepth 20000 in
theorem ggL_law_X10_plan : GoodIn wsL_law wsX10_plan := goodIn_r _ [711, 418, 712, 160, 282, 131, 133, 132, 439, 440, 441, 5, 442, 163, 164, 165, 642, 643, 644, 645, 646, 647, 648, 649, 397, 398, 399, 400, 115, 121, 323, 650, 651, 652, 653, 117, 119, 713, 714, 715, 716, 717, 718, 719, 720, 118, 915, 916, 917, 918, 919, 920, 921, 922, 923, 924, 925, 926, 927, 928, 929, 930, 931, 932, 933, 934, 935, 936, 937, 938, 939, 940, 941, 942, 943, 944, 945, 946, 947, 948, 949, 950, 951, 952, 953] (by decide +kernel) (by decide +kernel)
set_option maxRecDepth 20000 in
theorem gL_law_X10_plan : GoodIn wsL_law (wsV RL 75 RX10 yX10_plan wsX10_plan) := goodIn_app (goodIn_of _ (by decide +kernel)) ggL_law_X10_plan
set_option maxRecDepth 20000 in
theorem ggL_law_X9_dry : GoodIn wsL_law wsX9_dry := goodIn_r _ [724, 144, 47, 370, 371, 372, 2, 373, 147, 148, 149, 374, 203, 204, 46, 205, 182, 375, 376, 377, 378, 19, 340, 379, 380, 381, 382, 105, 383, 384, 385, 386, 905, 906, 907, 908, 909, 910, 911, 912, 913, 914, 987, 988, 989, 990, 991, 992, 993, 994, 995, 959, 960, 961, 962, 963, 964] (by decide +kernel) (by decide +kernel)
set_option maxRecDepth 20000 in
theorem gL_law_X9_dry : GoodIn wsL_law (wsV RL 76 RX9 yX9_dry wsX9_dry) := goodIn_app (goodIn_of _ (by decide +kernel)) ggL_law_X9_dry
set_option maxRecDepth 20000 in
theorem ggL_law_X10_dry : GoodIn wsL_law wsX10_dry := goodIn_r _ [728, 160, 323, 392, 393, 394, 5, 395, 396, 163, 164, 165, 397, 398, 399, 400, 115, 121, 915, 916, 917, 918, 919, 920, 921, 922, 923, 924, 925, 926, 927, 928, 929, 930, 931, 932, 933, 934, 935, 936, 937, 938, 939, 940, 941, 942, 943, 944, 945, 946, 947, 948, 949, 950, 951, 952, 953] (by decide +kernel) (by decide +kernel)
set_option maxRecDepth 20000 in
theorem gL_law_X10_dry : GoodIn wsL_law (wsV RL 79 RX10 yX10_dry wsX10_dry) := goodIn_app (goodIn_of _ (by decide +kernel)) ggL_law_X10_dry
set_option maxRecDepth 20000 in
theorem ggL_law_X9_stays : GoodIn wsL_law wsX9_stays := goodIn_r _ [732, 144, 47, 370, 371, 372, 2, 373, 147, 148, 149, 733, 734, 735, 374, 203, 204, 46, 205, 182, 375, 376, 377, 378, 19, 340, 379, 380, 381, 382, 105, 383, 384, 385, 386, 905, 906, 907, 908, 909, 910, 911, 912, 913, 914, 987, 988, 989, 990, 991, 992, 993, 994, 995, 959, 960, 961, 962, 963, 964] (by decide +kernel) (by decide +kernel)
set_option maxRecDepth 20000 in
theorem gL_law_X9_stays : GoodIn wsL_law (wsV RL 80 RX9 yX9_stays wsX9_stays) := goodIn_app (goodIn_of _ (by decide +kernel)) ggL_law_X9_stays
set_option maxRecDepth 20000 in
theorem ggL_law_X10_stays : GoodIn wsL_law wsX10_stays := goodIn_r _ [739, 740, 160, 323, 392, 393, 394, 5, 395, 396, 163, 164, 165, 397, 398, 399, 400, 115, 121, 915, 916, 917, 918, 919, 920, 921, 922, 923, 924, 925, 926, 927, 928, 929, 930, 931, 932, 933, 934, 935, 936, 937, 938, 939, 940, 941, 942, 943, 944, 945, 946, 947, 948, 949, 950, 951, 952, 953] (by decide +kernel) (by decide +kernel)
set_option maxRecDepth 20000 in
theorem gL_law_X10_stays : GoodIn wsL_law (wsV RL 83 RX10 yX10_stays wsX10_stays) := goodIn_app (goodIn_of _ (by decide +kernel)) ggL_law_X10_stays
set_option maxRecDepth 20000 in
theorem ggL_law_X9_spot : GoodIn wsL_law wsX9_spot := goodIn_r _ [744, 144, 47, 370, 733, 734, 2, 735, 147, 148, 149, 374, 203, 204, 46, 205, 182, 375, 376, 377, 378, 19, 340, 379, 380, 381, 382, 105, 383, 384, 385, 386, 905, 906, 907, 908, 909, 910, 911, 912, 913, 914, 987, 988, 989, 990, 991, 992, 993, 994, 995, 959, 960, 961, 962, 963, 964] (by decide +kernel) (by decide +kernel)
set_option maxRecDepth 20000 in
theorem gL_law_X9_spot : GoodIn wsL_law (wsV RL 84 RX9 yX9_spot wsX9_spot) := goodIn_app (goodIn_of _ (by decide +kernel)) ggL_law_X9_spot
set_option maxRecDepth 20000 in
theorem ggL_law_X10_spot : GoodIn wsL_law wsX10_spot := goodIn_r _ [748, 740, 160, 323, 392, 163, 164, 5, 165, 397, 398, 399, 400, 115, 121, 915, 916, 917, 918, 919, 920, 921, 922, 923, 924, 925, 926, 927, 928, 929, 930, 931, 932, 933, 934, 935, 936, 937, 938, 939, 940, 941, 942, 943, 944, 945, 946, 947, 948, 949, 950, 951, 952, 953] (by decide +kernel) (by decide +kernel)
set_option maxRecDepth 20000 in
theorem gL_law_X10_spot : GoodIn wsL_law (wsV RL 87 RX10 yX10_spot wsX10_spot) := goodIn_app (goodIn_of _ (by decide +kernel)) ggL_law_X10_spot
set_option maxRecDepth 20000 in
theorem ggL_law_X9_soonest : GoodIn wsL_law wsX9_soonest := goodIn_r _ [752, 47, 405, 19, 407, 406, 409, 340, 410, 411, 412, 46, 413, 183, 431, 432, 433, 434, 184, 753, 631, 632, 633, 634, 457, 385, 458, 383, 384, 386, 635, 380, 381, 382, 182, 105, 636, 488, 489, 490, 107, 637, 480, 481, 482, 109, 905, 906, 907, 908, 909, 910, 911, 912, 913, 914, 959, 960, 961, 962, 963, 964, 987, 988, 989, 990, 991, 992, 993, 994, 995] (by decide +kernel) (by decide +kernel)
set_option maxRecDepth 20000 in
theorem gL_law_X9_soonest : GoodIn wsL_law (wsV RL 88 RX9 yX9_soonest wsX9_soonest) := goodIn_app (goodIn_of _ (by decide +kernel)) ggL_law_X9_soonest
set_option maxRecDepth 20000 in
theorem ggL_law_X10_soonest : GoodIn wsL_law wsX10_soonest := goodIn_r _ [757, 418, 121, 116, 419, 420, 421, 5, 422, 324, 163, 164, 165, 439, 440, 441, 442, 282, 397, 398, 399, 400, 115, 323, 650, 651, 652, 653, 117, 119, 915, 916, 917, 918, 919, 920, 921, 922, 923, 924, 925, 926, 927, 928, 929, 930, 931, 932, 933, 934, 935, 936, 937, 938, 939, 940, 941, 942, 943, 944, 945, 946, 947, 948, 949, 950, 951, 952, 953] (by decide +kernel) (by decide +kernel)
set_option maxRecDepth 20000 in
theorem gL_law_X10_soonest : GoodIn wsL_law (wsV RL 91 RX10 yX10_soonest wsX10_soonest) := goodIn_app (goodIn_of _ (by decide +kernel)) ggL_law_X10_soonest
set_option maxRecDepth 20000 in
theorem ggL_law_X9_offer : GoodIn wsL_law wsX9_offer := goodIn_r _ [761, 47, 405, 144, 353, 762, 384, 385, 386, 431, 432, 433, 46, 434, 184, 147, 148, 2, 149, 905, 906, 907, 908, 909, 910, 911, 912, 913, 914, 987, 988, 989, 990, 991, 992, 993, 994, 995] (by decide +kernel) (by decide +kernel)
set_option maxRecDepth 20000 in
theorem gL_law_X9_offer : GoodIn wsL_law (wsV RL 92 RX9 yX9_offer wsX9_offer) := goodIn_app (goodIn_of _ (by decide +kernel)) ggL_law_X9_offer
set_option maxRecDepth 20000 in
theorem ggL_law_X10_offer : GoodIn wsL_law wsX10_offer := goodIn_r _ [766, 418, 767, 768, 160, 120, 439, 440, 441, 5, 442, 282, 163, 164, 165, 915, 916, 917, 918, 919, 920, 921, 922, 923, 924, 925, 926, 927, 928, 929, 930, 931, 932, 933, 934, 935, 936, 937, 938, 939, 940, 941, 942, 943, 944, 945, 946, 947, 948, 949, 950, 951, 952, 953] (by decide +kernel) (by decide +kernel)
set_option maxRecDepth 20000 in
theorem gL_law_X10_offer : GoodIn wsL_law (wsV RL 96 RX10 yX10_offer wsX10_offer) := goodIn_app (goodIn_of _ (by decide +kernel)) ggL_law_X10_offer
set_option maxRecDepth 20000 in
theorem ggL_law_X9_calm : GoodIn wsL_law wsX9_calm := goodIn_r _ [772, 144, 773, 774, 147, 148, 2, 149] (by decide +kernel) (by decide +kernel)
set_option maxRecDepth 20000 in
theorem gL_law_X9_calm : GoodIn wsL_law (wsV RL 97 RX9 yX9_calm wsX9_calm) := goodIn_app (goodIn_of _ (by decide +kernel)) ggL_law_X9_calm
set_option maxRecDepth 20000 in
theorem ggL_law_X10_calm : GoodIn wsL_law wsX10_calm := goodIn_r _ [778, 499, 767, 160, 779, 163, 164, 5, 165] (by decide +kernel) (by decide +kernel)
set_option maxRecDepth 20000 in
theorem gL_law_X10_calm : GoodIn wsL_law (wsV RL 100 RX10 yX10_calm wsX10_calm) := goodIn_app (goodIn_of _ (by decide +kernel)) ggL_law_X10_calm
set_option maxRecDepth 20000 in
theorem ggL_law_X9_shout : GoodIn wsL_law wsX9_shout := goodIn_r _ [783, 144, 35, 341, 146, 733, 734, 2, 735, 147, 148, 149, 784, 785, 786, 34, 787, 265, 92, 93, 905, 906, 907, 908, 909, 910, 911, 912, 913, 914, 980, 981, 982] (by decide +kernel) (by decide +kernel)
set_option maxRecDepth 20000 in
theorem gL_law_X9_shout : GoodIn wsL_law (wsV RL 101 RX9 yX9_shout wsX9_shout) := goodIn_app (goodIn_of _ (by decide +kernel)) ggL_law_X9_shout
set_option maxRecDepth 20000 in
theorem ggL_law_X10_shout : GoodIn wsL_law wsX10_shout := goodIn_r _ [791, 740, 160, 279, 162, 134, 135, 163, 164, 5, 165, 915, 916, 917, 918, 919, 920, 921, 922, 923, 924, 925, 926, 927, 928, 929, 930, 931, 932, 933, 934, 935, 936, 937, 938, 939, 940, 941, 942, 943, 944, 945, 946, 947, 948, 949, 950, 951, 952, 953] (by decide +kernel) (by decide +kernel)
set_option maxRecDepth 20000 in
theorem gL_law_X10_shout : GoodIn wsL_law (wsV RL 105 RX10 yX10_shout wsX10_shout) := goodIn_app (goodIn_of _ (by decide +kernel)) ggL_law_X10_shout
set_option maxRecDepth 20000 in
theorem ggL_law_X9_bears : GoodIn wsL_law wsX9_bears := goodIn_r _ [795, 35, 796, 797, 798, 34, 799, 800, 801, 802, 803, 265, 92, 93, 905, 906, 907, 908, 909, 910, 911, 912, 913, 914, 980, 981, 982] (by decide +kernel) (by decide +kernel)
set_option maxRecDepth 20000 in
theorem gL_law_X9_bears : GoodIn wsL_law (wsV RL 106 RX9 yX9_bears wsX9_bears) := goodIn_app (goodIn_of _ (by decide +kernel)) ggL_law_X9_bears
set_option maxRecDepth 20000 in
theorem ggL_law_X10_bears : GoodIn wsL_law wsX10_bears := goodIn_r _ [807, 808, 809, 810, 5, 811, 279, 134, 135, 915, 916, 917, 918, 919, 920, 921, 922, 923, 924, 925, 926, 927, 928, 929, 930, 931, 932, 933, 934, 935, 936, 937, 938, 939, 940, 941, 942, 943, 944, 945, 946, 947, 948, 949, 950, 951, 952, 953] (by decide +kernel) (by decide +kernel)
set_option maxRecDepth 20000 in
theorem gL_law_X10_bears : GoodIn wsL_law (wsV RL 109 RX10 yX10_bears wsX10_bears) := goodIn_app (goodIn_of _ (by decide +kernel)) ggL_law_X10_bears
set_option maxRecDepth 20000 in
theorem ggL_law_X9_listen : GoodIn wsL_law wsX9_listen := goodIn_r _ [815, 35, 816, 817, 818, 34, 819, 820, 384, 385, 386, 821, 797, 798, 799, 800, 801, 802, 803, 265, 92, 93, 822, 823, 677, 824, 825, 826, 827, 905, 906, 907, 908, 909, 910, 911, 912, 913, 914, 980, 981, 982] (by decide +kernel) (by decide +kernel)
set_option maxRecDepth 20000 in
theorem gL_law_X9_listen : GoodIn wsL_law (wsV RL 110 RX9 yX9_listen wsX9_listen) := goodIn_app (goodIn_of _ (by decide +kernel)) ggL_law_X9_listen
set_option maxRecDepth 20000 in
theorem ggL_law_X10_listen : GoodIn wsL_law wsX10_listen := goodIn_r _ [831, 808, 809, 810, 5, 811, 279, 134, 135, 915, 916, 917, 918, 919, 920, 921, 922, 923, 924, 925, 926, 927, 928, 929, 930, 931, 932, 933, 934, 935, 936, 937, 938, 939, 940, 941, 942, 943, 944, 945, 946, 947, 948, 949, 950, 951, 952, 953] (by decide +kernel) (by decide +kernel)
set_option maxRecDepth 20000 in
theorem gL_law_X10_listen : GoodIn wsL_law (wsV RL 113 RX10 yX10_listen wsX10_listen) := goodIn_app (goodIn_of _ (by decide +kernel)) ggL_law_X10_listen
set_option maxRecDepth 20000 in
theorem ggL_law_X9_write : GoodIn wsL_law wsX9_write := goodIn_r _ [835, 47, 405, 144, 39, 342, 146, 431, 432, 433, 46, 434, 184, 147, 148, 2, 149, 836, 837, 838, 38, 839, 270, 97, 98, 905, 906, 907, 908, 909, 910, 911, 912, 913, 914, 983, 984, 985, 987, 988, 989, 990, 991, 992, 993, 994, 995] (by decide +kernel) (by decide +kernel)
set_option maxRecDepth 20000 in
theorem gL_law_X9_write : GoodIn wsL_law (wsV RL 114 RX9 yX9_write wsX9_write) := goodIn_app (goodIn_of _ (by decide +kernel)) ggL_law_X9_write
set_option maxRecDepth 20000 in
theorem ggL_law_X10_write : GoodIn wsL_law wsX10_write := goodIn_r _ [843, 418, 712, 160, 280, 162, 136, 137, 439, 440, 441, 5, 442, 282, 163, 164, 165, 915, 916, 917, 918, 919, 920, 921, 922, 923, 924, 925, 926, 927, 928, 929, 930, 931, 932, 933, 934, 935, 936, 937, 938, 939, 940, 941, 942, 943, 944, 945, 946, 947, 948, 949, 950, 951, 952, 953] (by decide +kernel) (by decide +kernel)
set_option maxRecDepth 20000 in
theorem gL_law_X10_write : GoodIn wsL_law (wsV RL 117 RX10 yX10_write wsX10_write) := goodIn_app (goodIn_of _ (by decide +kernel)) ggL_law_X10_write
set_option maxRecDepth 20000 in
theorem ggL_law_X9_tear : GoodIn wsL_law wsX9_tear := goodIn_r _ [847, 35, 341, 39, 342, 261, 262, 263, 34, 264, 265, 266, 267, 268, 38, 269, 270, 905, 906, 907, 908, 909, 910, 911, 912, 913, 914, 980, 981, 982, 983, 984, 985] (by decide +kernel) (by decide +kernel)
set_option maxRecDepth 20000 in
theorem gL_law_X9_tear : GoodIn wsL_law (wsV RL 118 RX9 yX9_tear wsX9_tear) := goodIn_app (goodIn_of _ (by decide +kernel)) ggL_law_X9_tear
set_option maxRecDepth 20000 in
theorem ggL_law_X10_tear : GoodIn wsL_law wsX10_tear := goodIn_r _ [851, 279, 280, 915, 916, 917, 918, 919, 920, 921, 922, 923, 924, 925, 926, 927, 928, 929, 930, 931, 932, 933, 934, 935, 936, 937, 938, 939, 940, 941, 942, 943, 944, 945, 946, 947, 948, 949, 950, 951, 952, 953] (by decide +kernel) (by decide +kernel)
set_option maxRecDepth 20000 in
theorem gL_law_X10_tear : GoodIn wsL_law (wsV RL 121 RX10 yX10_tear wsX10_tear) := goodIn_app (goodIn_of _ (by decide +kernel)) ggL_law_X10_tear
set_option maxRecDepth 20000 in
theorem ggL_law_X9_judge : GoodIn wsL_law wsX9_judge := goodIn_r _ [855, 39, 19, 856, 857, 858, 38, 859, 270, 860, 97, 98, 905, 906, 907, 908, 909, 910, 911, 912, 913, 914, 983, 984, 985, 959, 960, 961, 962, 963, 964] (by decide +kernel) (by decide +kernel)
set_option maxRecDepth 20000 in
theorem gL_law_X9_judge : GoodIn wsL_law (wsV RL 122 RX9 yX9_judge wsX9_judge) := goodIn_app (goodIn_of _ (by decide +kernel)) ggL_law_X9_judge
set_option maxRecDepth 20000 in
theorem ggL_law_X10_judge : GoodIn wsL_law wsX10_judge := goodIn_r _ [864, 280, 121, 136, 137, 915, 916, 917, 918, 919, 920, 921, 922, 923, 924, 925, 926, 927, 928, 929, 930, 931, 932, 933, 934, 935, 936, 937, 938, 939, 940, 941, 942, 943, 944, 945, 946, 947, 948, 949, 950, 951, 952, 953] (by decide +kernel) (by decide +kernel)
set_option maxRecDepth 20000 in
theorem gL_law_X10_judge : GoodIn wsL_law (wsV RL 125 RX10 yX10_judge wsX10_judge) := goodIn_app (goodIn_of _ (by decide +kernel)) ggL_law_X10_judge
set_option maxRecDepth 20000 in
theorem ggL_law_X9_seed : GoodIn wsL_law wsX9_seed := goodIn_r _ [868, 144, 43, 869, 905, 906, 907, 908, 909, 910, 911, 912, 913, 914, 986] (by decide +kernel) (by decide +kernel)
set_option maxRecDepth 20000 in
theorem gL_law_X9_seed : GoodIn wsL_law (wsV RL 126 RX9 yX9_seed wsX9_seed) := goodIn_app (goodIn_of _ (by decide +kernel)) ggL_law_X9_seed
set_option maxRecDepth 20000 in
theorem ggL_law_X10_seed : GoodIn wsL_law wsX10_seed := goodIn_r _ [873, 160, 601, 915, 916, 917, 918, 919, 920, 921, 922, 923, 924, 925, 926, 927, 928, 929, 930, 931, 932, 933, 934, 935, 936, 937, 938, 939, 940, 941, 942, 943, 944, 945, 946, 947, 948, 949, 950, 951, 952, 953] (by decide +kernel) (by decide +kernel)
set_option maxRecDepth 20000 in
theorem gL_law_X10_seed : GoodIn wsL_law (wsV RL 129 RX10 yX10_seed wsX10_seed) := goodIn_app (goodIn_of _ (by decide +kernel)) ggL_law_X10_seed
set_option maxRecDepth 20000 in
theorem ggL_law_X9_keep : GoodIn wsL_law wsX9_keep := goodIn_r _ [877, 405, 27, 19, 43, 869, 23, 878, 879, 2, 880, 147, 148, 149, 881, 882, 883, 26, 884, 75, 76, 78, 885, 460, 461, 18, 462, 59, 463, 464, 465, 466, 60, 61, 62, 63, 251, 252, 253, 254, 22, 255, 256, 905, 906, 907, 908, 909, 910, 911, 912, 913, 914, 986, 968, 969, 970, 959, 960, 961, 962, 963, 964, 965, 966, 967] (by decide +kernel) (by decide +kernel)
set_option maxRecDepth 20000 in
theorem gL_law_X9_keep : GoodIn wsL_law (wsV RL 130 RX9 yX9_keep wsX9_keep) := goodIn_app (goodIn_of _ (by decide +kernel)) ggL_law_X9_keep
set_option maxRecDepth 20000 in
theorem ggL_law_X10_keep : GoodIn wsL_law wsX10_keep := goodIn_r _ [889, 418, 138, 121, 601, 139, 281, 163, 164, 5, 165, 915, 916, 917, 918, 919, 920, 921, 922, 923, 924, 925, 926, 927, 928, 929, 930, 931, 932, 933, 934, 935, 936, 937, 938, 939, 940, 941, 942, 943, 944, 945, 946, 947, 948, 949, 950, 951, 952, 953] (by decide +kernel) (by decide +kernel)
set_option maxRecDepth 20000 in
theorem gL_law_X10_keep : GoodIn wsL_law (wsV RL 133 RX10 yX10_keep wsX10_keep) := goodIn_app (goodIn_of _ (by decide +kernel)) ggL_law_X10_keep
set_option maxRecDepth 20000 in
theorem ggL_law_X9_goBack : GoodIn wsL_law wsX9_goBack := goodIn_r _ [893, 405, 27, 894, 370, 19, 43, 895, 869, 23, 878, 879, 2, 880, 147, 148, 149, 896, 897, 898, 26, 899, 75, 900, 615, 616, 18, 617, 59, 463, 464, 465, 466, 60, 61, 62, 63, 251, 252, 253, 254, 22, 255, 256, 905, 906, 907, 908, 909, 910, 911, 912, 913, 914, 968, 969, 970, 986, 959, 960, 961, 962, 963, 964, 965, 966, 967] (by decide +kernel) (by decide +kernel)
set_option maxRecDepth 20000 in
theorem gL_law_X9_goBack : GoodIn wsL_law (wsV RL 134 RX9 yX9_goBack wsX9_goBack) := goodIn_app (goodIn_of _ (by decide +kernel)) ggL_law_X9_goBack
set_option maxRecDepth 20000 in
theorem ggL_law_X10_goBack : GoodIn wsL_law wsX10_goBack := goodIn_r _ [904, 418, 139, 392, 121, 138, 601, 281, 163, 164, 5, 165, 915, 916, 917, 918, 919, 920, 921, 922, 923, 924, 925, 926, 927, 928, 929, 930, 931, 932, 933, 934, 935, 936, 937, 938, 939, 940, 941, 942, 943, 944, 945, 946, 947, 948, 949, 950, 951, 952, 953] (by decide +kernel) (by decide +kernel)
set_option maxRecDepth 20000 in
theorem gL_law_X10_goBack : GoodIn wsL_law (wsV RL 137 RX10 yX10_goBack wsX10_goBack) := goodIn_app (goodIn_of _ (by decide +kernel)) ggL_law_X10_goBack

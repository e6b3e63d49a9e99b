def wsL_law_r1 : List Cond := [Cond.classLink RL 7 RX5, Cond.instantiable RX5 9, Cond.initialized RX5, Cond.classLink RL 10 RX6, Cond.instantiable RX6 27, Cond.initialized RX6, Cond.constantLong RL 85 (4294967295), Cond.methodLink RL 9 yX5_init, Cond.instanceMethod yX5_init, Cond.code yX5_init cX5_init 1 none, Cond.methodLink RX5 3 objectInit, Cond.instanceMethod objectInit, Cond.code objectInit ⟨#[0xb1]⟩ 1 none, Cond.classLink RX5 9 RX3, Cond.instantiable RX3 2, Cond.initialized RX3, Cond.fieldLink RX5 12 "DustVote" "script" "LDustVote$Script;", Cond.classLink RX5 16 RX4, Cond.instantiable RX4 8, Cond.initialized RX4, Cond.fieldLink RX5 19 "DustVote" "told" "LDustVote$Told;", Cond.classLink RX5 23 RX2, Cond.instantiable RX2 7, Cond.initialized RX2]
def wsL_law_r2 : List Cond := [Cond.fieldLink RX5 28 "DustVote" "now" "LDustVote$Moment;", Cond.fieldLink RX5 32 "DustVote" "trial" "LDustVote$Moment;", Cond.classLink RX5 35 RX0, Cond.instantiable RX0 3, Cond.initialized RX0, Cond.fieldLink RX5 38 "DustVote" "acts" "LDustVote$ActRow;", Cond.classLink RX5 42 RX1, Cond.instantiable RX1 4, Cond.initialized RX1, Cond.fieldLink RX5 45 "DustVote" "heaps" "LDustVote$Heaps;", Cond.arrayClass .int, Cond.fieldLink RX5 49 "DustVote" "slots" "[I", Cond.arrayClass .boolean, Cond.fieldLink RX5 53 "DustVote" "filled" "[Z", Cond.fieldLink RX5 57 "DustVote" "chance" "J", Cond.instanceMethod yX3_init, Cond.code yX3_init cX3_init 1 none, Cond.methodLink RX3 3 objectInit, Cond.fieldLink RX3 9 "DustVote$Script" "letters" "[I", Cond.fieldLink RX3 15 "DustVote$Script" "length" "I", Cond.instanceMethod yX4_init, Cond.code yX4_init cX4_init 1 none, Cond.methodLink RX4 3 objectInit, Cond.fieldLink RX4 9 "DustVote$Told" "firstDust" "[I"]
def wsL_law_r3 : List Cond := [Cond.fieldLink RX4 15 "DustVote$Told" "firstPlace" "[I", Cond.fieldLink RX4 18 "DustVote$Told" "strength" "[I", Cond.fieldLink RX4 21 "DustVote$Told" "kind" "[I", Cond.fieldLink RX4 24 "DustVote$Told" "fallStreet" "[I", Cond.fieldLink RX4 27 "DustVote$Told" "fallDust" "[I", Cond.fieldLink RX4 30 "DustVote$Told" "brooms" "I", Cond.fieldLink RX4 34 "DustVote$Told" "falls" "I", Cond.methodLink RX5 25 yX2_init, Cond.instanceMethod yX2_init, Cond.code yX2_init cX2_init 2 none, Cond.methodLink RX2 3 objectInit, Cond.fieldLink RX2 9 "DustVote$Moment" "dust" "[I", Cond.fieldLink RX2 15 "DustVote$Moment" "place" "[I", Cond.fieldLink RX2 18 "DustVote$Moment" "deep" "[Z", Cond.fieldLink RX2 22 "DustVote$Moment" "given" "Z", Cond.fieldLink RX2 26 "DustVote$Moment" "bent" "I", Cond.fieldLink RX2 30 "DustVote$Moment" "dawns" "I", Cond.fieldLink RX2 33 "DustVote$Moment" "told" "LDustVote$Told;", Cond.instanceMethod yX0_init, Cond.code yX0_init cX0_init 1 none, Cond.methodLink RX0 3 objectInit, Cond.fieldLink RX0 9 "DustVote$ActRow" "cells" "[I", Cond.fieldLink RX0 15 "DustVote$ActRow" "first" "I", Cond.fieldLink RX0 19 "DustVote$ActRow" "size" "I"]
def wsL_law_r4 : List Cond := [Cond.instanceMethod yX1_init, Cond.code yX1_init cX1_init 1 none, Cond.methodLink RX1 3 objectInit, Cond.fieldLink RX1 9 "DustVote$Heaps" "before" "[I", Cond.fieldLink RX1 15 "DustVote$Heaps" "left" "[I", Cond.fieldLink RX1 18 "DustVote$Heaps" "gone" "[I", Cond.fieldLink RX1 21 "DustVote$Heaps" "size" "I", Cond.methodLink RL 12 yX6_init, Cond.instanceMethod yX6_init, Cond.code yX6_init cX6_init 1 none, Cond.methodLink RX6 1 objectInit, Cond.fieldLink RX6 7 "DustVoteModel" "strength" "[I", Cond.fieldLink RX6 13 "DustVoteModel" "kind" "[I", Cond.fieldLink RX6 16 "DustVoteModel" "fallAt" "[I", Cond.fieldLink RX6 19 "DustVoteModel" "fallen" "[I", Cond.fieldLink RX6 22 "DustVoteModel" "now" "[I", Cond.fieldLink RX6 25 "DustVoteModel" "readDust" "[I", Cond.fieldLink RX6 28 "DustVoteModel" "readBroom" "[I", Cond.fieldLink RX6 31 "DustVoteModel" "readFall" "[I", Cond.fieldLink RX6 34 "DustVoteModel" "text" "[I", Cond.fieldLink RX6 37 "DustVoteModel" "working" "I", Cond.fieldLink RX6 41 "DustVoteModel" "row" "[I", Cond.fieldLink RX6 44 "DustVoteModel" "heapHad" "[I", Cond.fieldLink RX6 47 "DustVoteModel" "heapLeft" "[I"]
def wsL_law_r5 : List Cond := [Cond.fieldLink RX6 50 "DustVoteModel" "heapWent" "[I", Cond.fieldLink RX6 53 "DustVoteModel" "isKept" "[Z", Cond.fieldLink RX6 57 "DustVoteModel" "kept" "[I", Cond.methodLink RL 13 yX5_write, Cond.instanceMethod yX5_write, Cond.selects RX5 yX5_write yX5_write, Cond.code yX5_write cX5_write 2 (some .int), Cond.methodLink RX5 61 yX5_within, Cond.static yX5_within, Cond.code yX5_within cX5_within 3 (some .boolean), Cond.methodLink RX5 69 yX3_add, Cond.instanceMethod yX3_add, Cond.selects RX3 yX3_add yX3_add, Cond.code yX3_add cX3_add 2 none, Cond.methodLink RL 17 yX6_write, Cond.instanceMethod yX6_write, Cond.selects RX6 yX6_write yX6_write, Cond.code yX6_write cX6_write 2 (some .int), Cond.constantLong RX6 60 (255), Cond.fieldLink RX6 66 "DustVoteModel" "length" "I", Cond.methodLink RX6 62 yX6_in, Cond.static yX6_in, Cond.code yX6_in cX6_in 6 (some .boolean), Cond.methodLink RL 18 yX5_wipe]
def wsL_law_r6 : List Cond := [Cond.instanceMethod yX5_wipe, Cond.selects RX5 yX5_wipe yX5_wipe, Cond.code yX5_wipe cX5_wipe 2 (some .int), Cond.methodLink RL 22 yX6_wipe, Cond.instanceMethod yX6_wipe, Cond.selects RX6 yX6_wipe yX6_wipe, Cond.code yX6_wipe cX6_wipe 2 (some .int), Cond.methodLink RL 23 yX5_fault, Cond.instanceMethod yX5_fault, Cond.selects RX5 yX5_fault yX5_fault, Cond.code yX5_fault cX5_fault 1 (some .int), Cond.methodLink RX5 73 yX3_firstFault, Cond.instanceMethod yX3_firstFault, Cond.selects RX3 yX3_firstFault yX3_firstFault, Cond.code yX3_firstFault cX3_firstFault 2 (some .int), Cond.methodLink RX3 19 yX3_letterAt, Cond.instanceMethod yX3_letterAt, Cond.selects RX3 yX3_letterAt yX3_letterAt, Cond.code yX3_letterAt cX3_letterAt 2 (some .int), Cond.methodLink RX3 23 yX3_figureAt, Cond.instanceMethod yX3_figureAt, Cond.selects RX3 yX3_figureAt yX3_figureAt, Cond.code yX3_figureAt cX3_figureAt 2 (some .int), Cond.methodLink RX3 30 yX3_firstFaultOfParts]
def wsL_law_r7 : List Cond := [Cond.instanceMethod yX3_firstFaultOfParts, Cond.selects RX3 yX3_firstFaultOfParts yX3_firstFaultOfParts, Cond.code yX3_firstFaultOfParts cX3_firstFaultOfParts 7 (some .int), Cond.methodLink RX3 34 yX3_faultOfBroom, Cond.instanceMethod yX3_faultOfBroom, Cond.selects RX3 yX3_faultOfBroom yX3_faultOfBroom, Cond.code yX3_faultOfBroom cX3_faultOfBroom 2 (some .int), Cond.static yX5_isStreet, Cond.code yX5_isStreet cX5_isStreet 1 (some .boolean), Cond.methodLink RX3 37 yX3_faultOfFall, Cond.instanceMethod yX3_faultOfFall, Cond.selects RX3 yX3_faultOfFall yX3_faultOfFall, Cond.code yX3_faultOfFall cX3_faultOfFall 2 (some .int), Cond.methodLink RL 26 yX6_fault, Cond.instanceMethod yX6_fault, Cond.selects RX6 yX6_fault yX6_fault, Cond.code yX6_fault cX6_fault 1 (some .int), Cond.methodLink RX6 89 yX6_readText, Cond.instanceMethod yX6_readText, Cond.selects RX6 yX6_readText yX6_readText, Cond.code yX6_readText cX6_readText 2 (some .int), Cond.fieldLink RX6 72 "DustVoteModel" "at" "I", Cond.fieldLink RX6 69 "DustVoteModel" "faultAt" "I", Cond.fieldLink RX6 75 "DustVoteModel" "readBrooms" "I"]
def wsL_law_r8 : List Cond := [Cond.fieldLink RX6 78 "DustVoteModel" "readFalls" "I", Cond.methodLink RX6 81 yX6_figureOf, Cond.instanceMethod yX6_figureOf, Cond.selects RX6 yX6_figureOf yX6_figureOf, Cond.code yX6_figureOf cX6_figureOf 5 (some .int), Cond.methodLink RX6 85 yX6_readPart, Cond.instanceMethod yX6_readPart, Cond.selects RX6 yX6_readPart yX6_readPart, Cond.code yX6_readPart cX6_readPart 2 none, Cond.methodLink RL 27 yX5_city, Cond.instanceMethod yX5_city, Cond.selects RX5 yX5_city yX5_city, Cond.code yX5_city cX5_city 2 (some .int), Cond.methodLink RX5 77 yX4_read, Cond.instanceMethod yX4_read, Cond.selects RX4 yX4_read yX4_read, Cond.code yX4_read cX4_read 3 none, Cond.methodLink RX4 37 yX3_figureAt, Cond.methodLink RX4 46 yX3_letterAt, Cond.methodLink RX4 49 yX4_addBroom, Cond.instanceMethod yX4_addBroom, Cond.selects RX4 yX4_addBroom yX4_addBroom, Cond.code yX4_addBroom cX4_addBroom 3 none, Cond.methodLink RX4 53 yX4_addFall]
def wsL_law_r9 : List Cond := [Cond.instanceMethod yX4_addFall, Cond.selects RX4 yX4_addFall yX4_addFall, Cond.code yX4_addFall cX4_addFall 3 none, Cond.methodLink RX5 81 yX2_begin, Cond.instanceMethod yX2_begin, Cond.selects RX2 yX2_begin yX2_begin, Cond.code yX2_begin cX2_begin 1 none, Cond.methodLink RX2 42 arraycopyName, Cond.native arraycopyName, Cond.static arraycopyName, Cond.initialized "java/lang/System", Cond.methodLink RX5 84 yX0_clear, Cond.instanceMethod yX0_clear, Cond.selects RX0 yX0_clear yX0_clear, Cond.code yX0_clear cX0_clear 1 none, Cond.methodLink RL 30 yX6_city, Cond.instanceMethod yX6_city, Cond.selects RX6 yX6_city yX6_city, Cond.code yX6_city cX6_city 2 (some .int), Cond.fieldLink RX6 93 "DustVoteModel" "brooms" "I", Cond.fieldLink RX6 96 "DustVoteModel" "falls" "I", Cond.fieldLink RX6 99 "DustVoteModel" "acts" "I", Cond.methodLink RL 31 yX5_street, Cond.instanceMethod yX5_street]
def wsL_law_r10 : List Cond := [Cond.selects RX5 yX5_street yX5_street, Cond.code yX5_street cX5_street 3 (some .int), Cond.methodLink RX5 93 yX5_isStreet, Cond.methodLink RX5 97 yX2_dustIn, Cond.instanceMethod yX2_dustIn, Cond.selects RX2 yX2_dustIn yX2_dustIn, Cond.code yX2_dustIn cX2_dustIn 2 (some .int), Cond.methodLink RX5 101 yX2_isDeep, Cond.instanceMethod yX2_isDeep, Cond.selects RX2 yX2_isDeep yX2_isDeep, Cond.code yX2_isDeep cX2_isDeep 2 (some .boolean), Cond.methodLink RX2 58 yX2_dustIn, Cond.methodLink RX5 104 yX2_broomsIn, Cond.instanceMethod yX2_broomsIn, Cond.selects RX2 yX2_broomsIn yX2_broomsIn, Cond.code yX2_broomsIn cX2_broomsIn 4 (some .int), Cond.methodLink RX2 68 yX2_placeOf, Cond.instanceMethod yX2_placeOf, Cond.selects RX2 yX2_placeOf yX2_placeOf, Cond.code yX2_placeOf cX2_placeOf 2 (some .int), Cond.methodLink RX2 55 yX4_hasBroom, Cond.instanceMethod yX4_hasBroom, Cond.selects RX4 yX4_hasBroom yX4_hasBroom, Cond.code yX4_hasBroom cX4_hasBroom 2 (some .boolean)]
def wsL_law_r11 : List Cond := [Cond.methodLink RL 35 yX6_street, Cond.instanceMethod yX6_street, Cond.selects RX6 yX6_street yX6_street, Cond.code yX6_street cX6_street 3 (some .int), Cond.methodLink RX6 127 yX6_isStreet, Cond.static yX6_isStreet, Cond.code yX6_isStreet cX6_isStreet 1 (some .boolean), Cond.constantLong RX6 102 (7), Cond.methodLink RX6 131 yX6_broomsIn, Cond.instanceMethod yX6_broomsIn, Cond.selects RX6 yX6_broomsIn yX6_broomsIn, Cond.code yX6_broomsIn cX6_broomsIn 4 (some .int), Cond.methodLink RL 36 yX5_broom, Cond.instanceMethod yX5_broom, Cond.selects RX5 yX5_broom yX5_broom, Cond.code yX5_broom cX5_broom 3 (some .int), Cond.methodLink RX5 107 yX4_hasBroom, Cond.methodLink RX5 110 yX2_placeOf, Cond.methodLink RX5 113 yX4_strengthOf, Cond.instanceMethod yX4_strengthOf, Cond.selects RX4 yX4_strengthOf yX4_strengthOf, Cond.code yX4_strengthOf cX4_strengthOf 2 (some .int), Cond.methodLink RX5 116 yX4_kindOf, Cond.instanceMethod yX4_kindOf]
def wsL_law_r12 : List Cond := [Cond.selects RX4 yX4_kindOf yX4_kindOf, Cond.code yX4_kindOf cX4_kindOf 2 (some .int), Cond.methodLink RX5 119 yX2_isBent, Cond.instanceMethod yX2_isBent, Cond.selects RX2 yX2_isBent yX2_isBent, Cond.code yX2_isBent cX2_isBent 2 (some .boolean), Cond.methodLink RX5 122 yX2_worksAs, Cond.instanceMethod yX2_worksAs, Cond.selects RX2 yX2_worksAs yX2_worksAs, Cond.code yX2_worksAs cX2_worksAs 3 (some .int), Cond.methodLink RX2 71 yX4_kindOf, Cond.methodLink RX2 74 yX2_isBent, Cond.methodLink RL 39 yX6_broom, Cond.instanceMethod yX6_broom, Cond.selects RX6 yX6_broom yX6_broom, Cond.code yX6_broom cX6_broom 3 (some .int), Cond.methodLink RX6 134 yX6_isBroom, Cond.instanceMethod yX6_isBroom, Cond.selects RX6 yX6_isBroom yX6_isBroom, Cond.code yX6_isBroom cX6_isBroom 2 (some .boolean), Cond.methodLink RX6 108 yX6_worksAs, Cond.instanceMethod yX6_worksAs, Cond.selects RX6 yX6_worksAs yX6_worksAs, Cond.code yX6_worksAs cX6_worksAs 4 (some .int)]
def wsL_law_r13 : List Cond := [Cond.methodLink RX6 104 yX6_has, Cond.static yX6_has, Cond.code yX6_has cX6_has 2 (some .boolean), Cond.methodLink RL 40 yX5_dawn, Cond.instanceMethod yX5_dawn, Cond.selects RX5 yX5_dawn yX5_dawn, Cond.code yX5_dawn cX5_dawn 1 (some .int), Cond.methodLink RX5 125 yX0_push, Cond.instanceMethod yX0_push, Cond.selects RX0 yX0_push yX0_push, Cond.code yX0_push cX0_push 2 none, Cond.methodLink RX0 22 yX0_spotOf, Cond.static yX0_spotOf, Cond.code yX0_spotOf cX0_spotOf 1 (some .int), Cond.methodLink RX0 26 yX2_save, Cond.instanceMethod yX2_save, Cond.selects RX2 yX2_save yX2_save, Cond.code yX2_save cX2_save 4 none, Cond.methodLink RX5 129 yX2_passDawn, Cond.instanceMethod yX2_passDawn, Cond.selects RX2 yX2_passDawn yX2_passDawn, Cond.code yX2_passDawn cX2_passDawn 4 none, Cond.methodLink RX2 87 yX2_comeDown, Cond.instanceMethod yX2_comeDown]
def wsL_law_r14 : List Cond := [Cond.selects RX2 yX2_comeDown yX2_comeDown, Cond.code yX2_comeDown cX2_comeDown 4 none, Cond.methodLink RX2 106 yX2_pour, Cond.instanceMethod yX2_pour, Cond.selects RX2 yX2_pour yX2_pour, Cond.code yX2_pour cX2_pour 3 none, Cond.methodLink RX2 119 Lib.Math.min.name, Cond.static Lib.Math.min.name, Cond.initialized "java/lang/Math", Cond.code Lib.Math.min.name Lib.Math.min.code 2 (some .int), Cond.methodLink RX2 91 yX2_work, Cond.instanceMethod yX2_work, Cond.selects RX2 yX2_work yX2_work, Cond.code yX2_work cX2_work 4 none, Cond.methodLink RX2 109 yX4_strengthOf, Cond.methodLink RX2 112 yX2_worksAs, Cond.methodLink RX2 115 yX2_sweep, Cond.instanceMethod yX2_sweep, Cond.selects RX2 yX2_sweep yX2_sweep, Cond.code yX2_sweep cX2_sweep 4 (some .int), Cond.methodLink RX2 80 yX2_rightOf, Cond.static yX2_rightOf, Cond.code yX2_rightOf cX2_rightOf 1 (some .int), Cond.methodLink RX2 77 yX2_leftOf]
def wsL_law_r15 : List Cond := [Cond.static yX2_leftOf, Cond.code yX2_leftOf cX2_leftOf 1 (some .int), Cond.methodLink RX2 94 yX2_spread, Cond.instanceMethod yX2_spread, Cond.selects RX2 yX2_spread yX2_spread, Cond.code yX2_spread cX2_spread 2 none, Cond.methodLink RX5 133 yX2_allDust, Cond.instanceMethod yX2_allDust, Cond.selects RX2 yX2_allDust yX2_allDust, Cond.code yX2_allDust cX2_allDust 3 (some .int), Cond.methodLink RL 43 yX6_dawn, Cond.instanceMethod yX6_dawn, Cond.selects RX6 yX6_dawn yX6_dawn, Cond.code yX6_dawn cX6_dawn 1 (some .int), Cond.methodLink RX6 140 yX6_keepAct, Cond.instanceMethod yX6_keepAct, Cond.selects RX6 yX6_keepAct yX6_keepAct, Cond.code yX6_keepAct cX6_keepAct 2 none, Cond.fieldLink RX6 137 "DustVoteModel" "next" "I", Cond.methodLink RX6 143 yX6_passOn, Cond.instanceMethod yX6_passOn, Cond.selects RX6 yX6_passOn yX6_passOn, Cond.code yX6_passOn cX6_passOn 6 none, Cond.methodLink RX6 115 yX6_add]
def wsL_law_r16 : List Cond := [Cond.instanceMethod yX6_add, Cond.selects RX6 yX6_add yX6_add, Cond.code yX6_add cX6_add 5 none, Cond.methodLink RX6 119 yX6_sweep, Cond.instanceMethod yX6_sweep, Cond.selects RX6 yX6_sweep yX6_sweep, Cond.code yX6_sweep cX6_sweep 6 none, Cond.methodLink RX6 111 yX6_takeOff, Cond.instanceMethod yX6_takeOff, Cond.selects RX6 yX6_takeOff yX6_takeOff, Cond.code yX6_takeOff cX6_takeOff 6 (some .int), Cond.methodLink RX6 123 yX6_kneesOn, Cond.instanceMethod yX6_kneesOn, Cond.selects RX6 yX6_kneesOn yX6_kneesOn, Cond.code yX6_kneesOn cX6_kneesOn 4 (some .int), Cond.methodLink RX6 146 yX6_dustOn, Cond.instanceMethod yX6_dustOn, Cond.selects RX6 yX6_dustOn yX6_dustOn, Cond.code yX6_dustOn cX6_dustOn 4 (some .int), Cond.methodLink RL 44 yX5_walk, Cond.instanceMethod yX5_walk, Cond.selects RX5 yX5_walk yX5_walk, Cond.code yX5_walk cX5_walk 3 (some .int), Cond.methodLink RX5 136 yX2_step]
def wsL_law_r17 : List Cond := [Cond.instanceMethod yX2_step, Cond.selects RX2 yX2_step yX2_step, Cond.code yX2_step cX2_step 4 none, Cond.methodLink RX2 83 yX2_goTo, Cond.instanceMethod yX2_goTo, Cond.selects RX2 yX2_goTo yX2_goTo, Cond.code yX2_goTo cX2_goTo 3 none, Cond.methodLink RL 47 yX6_walk, Cond.instanceMethod yX6_walk, Cond.selects RX6 yX6_walk yX6_walk, Cond.code yX6_walk cX6_walk 3 (some .int), Cond.methodLink RX6 149 yX6_walkOn, Cond.instanceMethod yX6_walkOn, Cond.selects RX6 yX6_walkOn yX6_walkOn, Cond.code yX6_walkOn cX6_walkOn 5 none, Cond.methodLink RL 48 yX5_vote, Cond.instanceMethod yX5_vote, Cond.selects RX5 yX5_vote yX5_vote, Cond.code yX5_vote cX5_vote 1 (some .int), Cond.methodLink RX5 139 yX2_turnVote, Cond.instanceMethod yX2_turnVote, Cond.selects RX2 yX2_turnVote yX2_turnVote, Cond.code yX2_turnVote cX2_turnVote 1 none, Cond.methodLink RL 51 yX6_vote]
def wsL_law_r18 : List Cond := [Cond.instanceMethod yX6_vote, Cond.selects RX6 yX6_vote yX6_vote, Cond.code yX6_vote cX6_vote 1 (some .int), Cond.methodLink RL 52 yX5_bend, Cond.instanceMethod yX5_bend, Cond.selects RX5 yX5_bend yX5_bend, Cond.code yX5_bend cX5_bend 2 (some .int), Cond.methodLink RX5 146 yX2_bow, Cond.instanceMethod yX2_bow, Cond.selects RX2 yX2_bow yX2_bow, Cond.code yX2_bow cX2_bow 2 none, Cond.methodLink RX5 152 yJ6_bitCount_0f7a4, Cond.static yJ6_bitCount_0f7a4, Cond.initialized RJ6, Cond.code yJ6_bitCount_0f7a4 cJ6_bitCount_0f7a4 1 (some .int), Cond.constant RJ6 265 (1431655765), Cond.constant RJ6 266 (858993459), Cond.constant RJ6 267 (252645135), Cond.methodLink RL 55 yX6_bend, Cond.instanceMethod yX6_bend, Cond.selects RX6 yX6_bend yX6_bend, Cond.code yX6_bend cX6_bend 2 (some .int), Cond.methodLink RX6 152 yX6_ones, Cond.static yX6_ones]
def wsL_law_r19 : List Cond := [Cond.code yX6_ones cX6_ones 3 (some .int), Cond.methodLink RL 56 yX5_hand, Cond.instanceMethod yX5_hand, Cond.selects RX5 yX5_hand yX5_hand, Cond.code yX5_hand cX5_hand 3 (some .int), Cond.methodLink RX5 157 yX2_empty, Cond.instanceMethod yX2_empty, Cond.selects RX2 yX2_empty yX2_empty, Cond.code yX2_empty cX2_empty 2 none, Cond.methodLink RL 59 yX6_hand, Cond.instanceMethod yX6_hand, Cond.selects RX6 yX6_hand yX6_hand, Cond.code yX6_hand cX6_hand 3 (some .int), Cond.methodLink RL 60 yX5_undo, Cond.instanceMethod yX5_undo, Cond.selects RX5 yX5_undo yX5_undo, Cond.code yX5_undo cX5_undo 1 (some .int), Cond.methodLink RX5 163 yX0_pop, Cond.instanceMethod yX0_pop, Cond.selects RX0 yX0_pop yX0_pop, Cond.code yX0_pop cX0_pop 2 none, Cond.methodLink RX0 32 yX2_load, Cond.instanceMethod yX2_load, Cond.selects RX2 yX2_load yX2_load]
def wsL_law_r20 : List Cond := [Cond.code yX2_load cX2_load 4 none, Cond.methodLink RL 63 yX6_undo, Cond.instanceMethod yX6_undo, Cond.selects RX6 yX6_undo yX6_undo, Cond.code yX6_undo cX6_undo 2 (some .int), Cond.methodLink RL 64 yX5_dust, Cond.instanceMethod yX5_dust, Cond.selects RX5 yX5_dust yX5_dust, Cond.code yX5_dust cX5_dust 3 (some .int), Cond.methodLink RX5 166 yX5_behind, Cond.instanceMethod yX5_behind, Cond.selects RX5 yX5_behind yX5_behind, Cond.code yX5_behind cX5_behind 5 (some (.object "DustVote$Moment")), Cond.methodLink RX5 173 yX5_fromNow, Cond.instanceMethod yX5_fromNow, Cond.selects RX5 yX5_fromNow yX5_fromNow, Cond.code yX5_fromNow cX5_fromNow 1 (some (.object "DustVote$Moment")), Cond.methodLink RX5 247 yX2_copy, Cond.instanceMethod yX2_copy, Cond.selects RX2 yX2_copy yX2_copy, Cond.code yX2_copy cX2_copy 2 none, Cond.methodLink RL 67 yX6_dust, Cond.instanceMethod yX6_dust, Cond.selects RX6 yX6_dust yX6_dust]
def wsL_law_r21 : List Cond := [Cond.code yX6_dust cX6_dust 3 (some .int), Cond.constantLong RX6 155 (30), Cond.methodLink RX6 157 yX6_layTrial, Cond.instanceMethod yX6_layTrial, Cond.selects RX6 yX6_layTrial yX6_layTrial, Cond.code yX6_layTrial cX6_layTrial 2 none, Cond.methodLink RX6 160 yX6_goOn, Cond.instanceMethod yX6_goOn, Cond.selects RX6 yX6_goOn yX6_goOn, Cond.code yX6_goOn cX6_goOn 3 none, Cond.methodLink RL 68 yX5_knees, Cond.instanceMethod yX5_knees, Cond.selects RX5 yX5_knees yX5_knees, Cond.code yX5_knees cX5_knees 2 (some .int), Cond.methodLink RX5 170 yX2_deepStreets, Cond.instanceMethod yX2_deepStreets, Cond.selects RX2 yX2_deepStreets yX2_deepStreets, Cond.code yX2_deepStreets cX2_deepStreets 3 (some .int), Cond.methodLink RX2 62 yX2_isDeep, Cond.methodLink RL 71 yX6_knees, Cond.instanceMethod yX6_knees, Cond.selects RX6 yX6_knees yX6_knees, Cond.code yX6_knees cX6_knees 2 (some .int), Cond.methodLink RL 72 yX5_knee]
def wsL_law_r22 : List Cond := [Cond.instanceMethod yX5_knee, Cond.selects RX5 yX5_knee yX5_knee, Cond.code yX5_knee cX5_knee 5 (some .int), Cond.methodLink RX5 177 yX2_firstDeep, Cond.instanceMethod yX2_firstDeep, Cond.selects RX2 yX2_firstDeep yX2_firstDeep, Cond.code yX2_firstDeep cX2_firstDeep 2 (some .int), Cond.methodLink RL 75 yX6_knee, Cond.instanceMethod yX6_knee, Cond.selects RX6 yX6_knee yX6_knee, Cond.code yX6_knee cX6_knee 4 (some .int), Cond.methodLink RX6 163 yX6_leastOf, Cond.static yX6_leastOf, Cond.code yX6_leastOf cX6_leastOf 2 (some .int), Cond.methodLink RL 76 yX5_best, Cond.instanceMethod yX5_best, Cond.selects RX5 yX5_best yX5_best, Cond.code yX5_best cX5_best 9 (some .int), Cond.methodLink RX5 180 yX2_goTo, Cond.methodLink RL 80 yX6_best, Cond.instanceMethod yX6_best, Cond.selects RX6 yX6_best yX6_best, Cond.code yX6_best cX6_best 8 (some .int), Cond.constantLong RX6 166 (9)]
def wsL_law_r23 : List Cond := [Cond.methodLink RL 81 yX5_bends, Cond.instanceMethod yX5_bends, Cond.selects RX5 yX5_bends yX5_bends, Cond.code yX5_bends cX5_bends 6 (some .int), Cond.methodLink RX5 183 yX5_staysShallow, Cond.instanceMethod yX5_staysShallow, Cond.selects RX5 yX5_staysShallow yX5_staysShallow, Cond.code yX5_staysShallow cX5_staysShallow 5 (some .boolean), Cond.methodLink RL 84 yX6_bends, Cond.instanceMethod yX6_bends, Cond.selects RX6 yX6_bends yX6_bends, Cond.code yX6_bends cX6_bends 5 (some .int), Cond.methodLink RX6 168 yX6_keepsBelow, Cond.instanceMethod yX6_keepsBelow, Cond.selects RX6 yX6_keepsBelow yX6_keepsBelow, Cond.code yX6_keepsBelow cX6_keepsBelow 4 (some .boolean), Cond.methodLink RL 87 yX5_judge, Cond.instanceMethod yX5_judge, Cond.selects RX5 yX5_judge yX5_judge, Cond.code yX5_judge cX5_judge 7 (some .int), Cond.methodLink RX5 191 Lib.MathLoose.max_long.x, Cond.static Lib.MathLoose.max_long.x, Cond.code Lib.MathLoose.max_long.x Lib.MathLoose.max_long.code 4 (some .long), Cond.constantLong RX5 197 (1000)]
def wsL_law_r24 : List Cond := [Cond.methodLink RX5 187 yX5_power, Cond.static yX5_power, Cond.code yX5_power cX5_power 5 (some .long), Cond.methodLink RX5 199 yX5_isSo, Cond.instanceMethod yX5_isSo, Cond.selects RX5 yX5_isSo yX5_isSo, Cond.code yX5_isSo cX5_isSo 5 (some .boolean), Cond.methodLink RX5 250 yX5_tryStep, Cond.instanceMethod yX5_tryStep, Cond.selects RX5 yX5_tryStep yX5_tryStep, Cond.code yX5_tryStep cX5_tryStep 4 (some .boolean), Cond.methodLink RX5 254 yX5_tryDawn, Cond.instanceMethod yX5_tryDawn, Cond.selects RX5 yX5_tryDawn yX5_tryDawn, Cond.code yX5_tryDawn cX5_tryDawn 2 (some .boolean), Cond.methodLink RX5 258 yX5_tryVote, Cond.instanceMethod yX5_tryVote, Cond.selects RX5 yX5_tryVote yX5_tryVote, Cond.code yX5_tryVote cX5_tryVote 2 (some .boolean), Cond.methodLink RX5 261 yX5_tryBow, Cond.instanceMethod yX5_tryBow, Cond.selects RX5 yX5_tryBow yX5_tryBow, Cond.code yX5_tryBow cX5_tryBow 3 (some .boolean), Cond.methodLink RX5 265 yX5_tryEmpty]
def wsL_law_r25 : List Cond := [Cond.instanceMethod yX5_tryEmpty, Cond.selects RX5 yX5_tryEmpty yX5_tryEmpty, Cond.code yX5_tryEmpty cX5_tryEmpty 3 (some .boolean), Cond.methodLink RL 91 yX6_judge, Cond.instanceMethod yX6_judge, Cond.selects RX6 yX6_judge yX6_judge, Cond.code yX6_judge cX6_judge 6 (some .int), Cond.constantLong RX6 173 (4), Cond.constantLong RX6 171 (1000), Cond.methodLink RX6 175 yX6_thousandTo, Cond.static yX6_thousandTo, Cond.code yX6_thousandTo cX6_thousandTo 4 (some .long), Cond.methodLink RX6 179 yX6_tryThing, Cond.instanceMethod yX6_tryThing, Cond.selects RX6 yX6_tryThing yX6_tryThing, Cond.code yX6_tryThing cX6_tryThing 7 (some .boolean), Cond.methodLink RL 92 yX5_heap, Cond.instanceMethod yX5_heap, Cond.selects RX5 yX5_heap yX5_heap, Cond.code yX5_heap cX5_heap 4 (some .int), Cond.methodLink RX5 204 yX1_add, Cond.instanceMethod yX1_add, Cond.selects RX1 yX1_add yX1_add, Cond.code yX1_add cX1_add 4 none]
def wsL_law_r26 : List Cond := [Cond.methodLink RL 95 yX6_heap, Cond.instanceMethod yX6_heap, Cond.selects RX6 yX6_heap yX6_heap, Cond.code yX6_heap cX6_heap 4 (some .int), Cond.constantLong RX6 183 (20), Cond.fieldLink RX6 185 "DustVoteModel" "heaps" "I", Cond.methodLink RL 96 yX5_unheap, Cond.instanceMethod yX5_unheap, Cond.selects RX5 yX5_unheap yX5_unheap, Cond.code yX5_unheap cX5_unheap 2 (some .int), Cond.methodLink RL 99 yX6_unheap, Cond.instanceMethod yX6_unheap, Cond.selects RX6 yX6_unheap yX6_unheap, Cond.code yX6_unheap cX6_unheap 2 (some .int), Cond.methodLink RL 100 yX5_whose, Cond.instanceMethod yX5_whose, Cond.selects RX5 yX5_whose yX5_whose, Cond.code yX5_whose cX5_whose 6 (some .int), Cond.methodLink RX5 207 yX1_fit, Cond.instanceMethod yX1_fit, Cond.selects RX1 yX1_fit yX1_fit, Cond.code yX1_fit cX1_fit 6 (some .boolean), Cond.methodLink RX1 25 Lib.Math.min.name, Cond.methodLink RL 103 yX6_whose]
def wsL_law_r27 : List Cond := [Cond.instanceMethod yX6_whose, Cond.selects RX6 yX6_whose yX6_whose, Cond.code yX6_whose cX6_whose 9 (some .int), Cond.methodLink RL 104 yX5_share, Cond.instanceMethod yX5_share, Cond.selects RX5 yX5_share yX5_share, Cond.code yX5_share cX5_share 8 (some .int), Cond.methodLink RX5 210 yX5_ordersWith, Cond.instanceMethod yX5_ordersWith, Cond.selects RX5 yX5_ordersWith yX5_ordersWith, Cond.code yX5_ordersWith cX5_ordersWith 2 (some .long), Cond.methodLink RX5 214 yX5_factorial, Cond.static yX5_factorial, Cond.code yX5_factorial cX5_factorial 4 (some .long), Cond.methodLink RX5 217 yX5_fraction, Cond.static yX5_fraction, Cond.code yX5_fraction cX5_fraction 7 (some .int), Cond.methodLink RX5 272 Lib.MathLoose.abs_long.x, Cond.static Lib.MathLoose.abs_long.x, Cond.code Lib.MathLoose.abs_long.x Lib.MathLoose.abs_long.code 2 (some .long), Cond.methodLink RX5 276 yX5_commonDivisor, Cond.static yX5_commonDivisor, Cond.code yX5_commonDivisor cX5_commonDivisor 11 (some .long), Cond.methodLink RL 108 yX6_share]
def wsL_law_r28 : List Cond := [Cond.instanceMethod yX6_share, Cond.selects RX6 yX6_share yX6_share, Cond.code yX6_share cX6_share 6 (some .int), Cond.methodLink RX6 188 yX6_factorial, Cond.static yX6_factorial, Cond.code yX6_factorial cX6_factorial 3 (some .int), Cond.methodLink RX6 191 yX6_dustBy, Cond.instanceMethod yX6_dustBy, Cond.selects RX6 yX6_dustBy yX6_dustBy, Cond.code yX6_dustBy cX6_dustBy 2 (some .int), Cond.methodLink RX6 194 yX6_common, Cond.static yX6_common, Cond.code yX6_common cX6_common 5 (some .int), Cond.methodLink RL 109 yX5_rests, Cond.instanceMethod yX5_rests, Cond.selects RX5 yX5_rests yX5_rests, Cond.code yX5_rests cX5_rests 9 (some .int), Cond.methodLink RX5 221 yX5_isAtRest, Cond.instanceMethod yX5_isAtRest, Cond.selects RX5 yX5_isAtRest yX5_isAtRest, Cond.code yX5_isAtRest cX5_isAtRest 4 (some .boolean), Cond.methodLink RX5 268 yX5_gain, Cond.instanceMethod yX5_gain, Cond.selects RX5 yX5_gain yX5_gain]
def wsL_law_r29 : List Cond := [Cond.code yX5_gain cX5_gain 5 (some .int), Cond.methodLink RL 112 yX6_rests, Cond.instanceMethod yX6_rests, Cond.selects RX6 yX6_rests yX6_rests, Cond.code yX6_rests cX6_rests 7 (some .int), Cond.methodLink RX6 201 yX6_isRest, Cond.instanceMethod yX6_isRest, Cond.selects RX6 yX6_isRest yX6_isRest, Cond.code yX6_isRest cX6_isRest 5 (some .boolean), Cond.methodLink RX6 197 yX6_gain, Cond.instanceMethod yX6_gain, Cond.selects RX6 yX6_gain yX6_gain, Cond.code yX6_gain cX6_gain 5 (some .int), Cond.methodLink RL 113 yX5_twice, Cond.instanceMethod yX5_twice, Cond.selects RX5 yX5_twice yX5_twice, Cond.code yX5_twice cX5_twice 9 (some .int), Cond.methodLink RX5 224 yX5_isDeepBehind, Cond.instanceMethod yX5_isDeepBehind, Cond.selects RX5 yX5_isDeepBehind yX5_isDeepBehind, Cond.code yX5_isDeepBehind cX5_isDeepBehind 6 (some .boolean), Cond.methodLink RL 117 yX6_twice, Cond.instanceMethod yX6_twice, Cond.selects RX6 yX6_twice yX6_twice]
def wsL_law_r30 : List Cond := [Cond.code yX6_twice cX6_twice 10 (some .int), Cond.constantLong RX6 205 (6), Cond.constantLong RX6 207 (10), Cond.methodLink RL 118 yX5_seed, Cond.instanceMethod yX5_seed, Cond.selects RX5 yX5_seed yX5_seed, Cond.code yX5_seed cX5_seed 5 (some .long), Cond.methodLink RL 122 yX6_seed, Cond.instanceMethod yX6_seed, Cond.selects RX6 yX6_seed yX6_seed, Cond.code yX6_seed cX6_seed 5 (some .long), Cond.fieldLink RX6 209 "DustVoteModel" "seed" "J", Cond.methodLink RL 123 yX5_years, Cond.instanceMethod yX5_years, Cond.selects RX5 yX5_years yX5_years, Cond.code yX5_years cX5_years 5 (some .int), Cond.constantLong RX5 227 (6364136223846793005), Cond.constantLong RX5 229 (1442695040888963407), Cond.constantLong RX5 231 (32), Cond.methodLink RX5 233 yX5_happen, Cond.instanceMethod yX5_happen, Cond.selects RX5 yX5_happen yX5_happen, Cond.code yX5_happen cX5_happen 3 none, Cond.methodLink RL 126 yX6_years]
def wsL_law_r31 : List Cond := [Cond.instanceMethod yX6_years, Cond.selects RX6 yX6_years yX6_years, Cond.code yX6_years cX6_years 5 (some .int), Cond.constantLong RX6 213 (6364136223846793005), Cond.constantLong RX6 215 (1442695040888963407), Cond.constantLong RX6 217 (32), Cond.methodLink RL 127 yX5_keep, Cond.instanceMethod yX5_keep, Cond.selects RX5 yX5_keep yX5_keep, Cond.code yX5_keep cX5_keep 2 (some .int), Cond.methodLink RX5 237 yX2_save, Cond.methodLink RL 130 yX6_keep, Cond.instanceMethod yX6_keep, Cond.selects RX6 yX6_keep yX6_keep, Cond.code yX6_keep cX6_keep 3 (some .int), Cond.methodLink RL 131 yX5_again, Cond.instanceMethod yX5_again, Cond.selects RX5 yX5_again yX5_again, Cond.code yX5_again cX5_again 2 (some .int), Cond.methodLink RX5 244 yX2_load, Cond.methodLink RL 134 yX6_again, Cond.instanceMethod yX6_again, Cond.selects RX6 yX6_again yX6_again, Cond.code yX6_again cX6_again 3 (some .int)]
def wsL_law_r32 : List Cond := [Cond.methodLink RL 135 yX5_count, Cond.instanceMethod yX5_count, Cond.selects RX5 yX5_count yX5_count, Cond.code yX5_count cX5_count 2 (some .int), Cond.methodLink RL 138 yX6_count, Cond.instanceMethod yX6_count, Cond.selects RX6 yX6_count yX6_count, Cond.code yX6_count cX6_count 2 (some .int)]
def wsL_law : List Cond := (wsL_law_r1 ++ (wsL_law_r2 ++ (wsL_law_r3 ++ (wsL_law_r4 ++ (wsL_law_r5 ++ (wsL_law_r6 ++ (wsL_law_r7 ++ (wsL_law_r8 ++ (wsL_law_r9 ++ (wsL_law_r10 ++ (wsL_law_r11 ++ (wsL_law_r12 ++ (wsL_law_r13 ++ (wsL_law_r14 ++ (wsL_law_r15 ++ (wsL_law_r16 ++ (wsL_law_r17 ++ (wsL_law_r18 ++ (wsL_law_r19 ++ (wsL_law_r20 ++ (wsL_law_r21 ++ (wsL_law_r22 ++ (wsL_law_r23 ++ (wsL_law_r24 ++ (wsL_law_r25 ++ (wsL_law_r26 ++ (wsL_law_r27 ++ (wsL_law_r28 ++ (wsL_law_r29 ++ (wsL_law_r30 ++ (wsL_law_r31 ++ wsL_law_r32))))))))))))))))))))))))))))))) ++ wsX50 ++ wsX60 ++ wsX30 ++ wsX40 ++ wsX20 ++ wsX00 ++ wsX10 ++ ([] : List Cond)
theorem dL_law_0 : decode cL_law 0 = .ok (.new 7, 3) := by decide +kernel
theorem dL_law_3 : decode cL_law 3 = .ok (.dup, 1) := by decide +kernel
theorem dL_law_4 : decode cL_law 4 = .ok (.invokespecial 9, 3) := by decide +kernel
theorem dL_law_7 : decode cL_law 7 = .ok (.astore_n 1, 1) := by decide +kernel
theorem dL_law_8 : decode cL_law 8 = .ok (.new 10, 3) := by decide +kernel
theorem dL_law_11 : decode cL_law 11 = .ok (.dup, 1) := by decide +kernel
theorem dL_law_12 : decode cL_law 12 = .ok (.invokespecial 12, 3) := by decide +kernel
theorem dL_law_15 : decode cL_law 15 = .ok (.astore_n 2, 1) := by decide +kernel
theorem dL_law_16 : decode cL_law 16 = .ok (.iconst 0, 1) := by decide +kernel
theorem dL_law_17 : decode cL_law 17 = .ok (.istore_n 3, 1) := by decide +kernel
theorem dL_law_18 : decode cL_law 18 = .ok (.iload_n 3, 1) := by decide +kernel
theorem dL_law_19 : decode cL_law 19 = .ok (.aload_n 0, 1) := by decide +kernel
theorem dL_law_20 : decode cL_law 20 = .ok (.arraylength, 1) := by decide +kernel
theorem dL_law_21 : decode cL_law 21 = .ok (.iconst 5, 1) := by decide +kernel
theorem dL_law_22 : decode cL_law 22 = .ok (.isub, 1) := by decide +kernel
theorem dL_law_23 : decode cL_law 23 = .ok (.if_icmp .gt 987, 3) := by decide +kernel
theorem dL_law_26 : decode cL_law 26 = .ok (.aload_n 0, 1) := by decide +kernel
theorem dL_law_27 : decode cL_law 27 = .ok (.iload_n 3, 1) := by decide +kernel
theorem dL_law_28 : decode cL_law 28 = .ok (.iaload, 1) := by decide +kernel
theorem dL_law_29 : decode cL_law 29 = .ok (.bipush 31, 2) := by decide +kernel
theorem dL_law_31 : decode cL_law 31 = .ok (.iand, 1) := by decide +kernel
theorem dL_law_32 : decode cL_law 32 = .ok (.tableswitch 972 0 28 #[132, 155, 168, 181, 194, 227, 260, 273, 306, 319, 342, 365, 378, 411, 434, 457, 500, 523, 586, 629, 642, 665, 714, 757, 826, 880, 903, 926, 949], 132) := by decide +kernel
theorem dL_law_164 : decode cL_law 164 = .ok (.aload_n 1, 1) := by decide +kernel
theorem dL_law_165 : decode cL_law 165 = .ok (.aload_n 0, 1) := by decide +kernel
theorem dL_law_166 : decode cL_law 166 = .ok (.iload_n 3, 1) := by decide +kernel
theorem dL_law_167 : decode cL_law 167 = .ok (.iconst 1, 1) := by decide +kernel
theorem dL_law_168 : decode cL_law 168 = .ok (.iadd, 1) := by decide +kernel
theorem dL_law_169 : decode cL_law 169 = .ok (.iaload, 1) := by decide +kernel
theorem dL_law_170 : decode cL_law 170 = .ok (.invokevirtual 13, 3) := by decide +kernel
theorem dL_law_173 : decode cL_law 173 = .ok (.aload_n 2, 1) := by decide +kernel
theorem dL_law_174 : decode cL_law 174 = .ok (.aload_n 0, 1) := by decide +kernel
theorem dL_law_175 : decode cL_law 175 = .ok (.iload_n 3, 1) := by decide +kernel
theorem dL_law_176 : decode cL_law 176 = .ok (.iconst 1, 1) := by decide +kernel
theorem dL_law_177 : decode cL_law 177 = .ok (.iadd, 1) := by decide +kernel
theorem dL_law_178 : decode cL_law 178 = .ok (.iaload, 1) := by decide +kernel
theorem dL_law_179 : decode cL_law 179 = .ok (.invokevirtual 17, 3) := by decide +kernel
theorem dL_law_182 : decode cL_law 182 = .ok (.if_icmp .eq 822, 3) := by decide +kernel
theorem dL_law_185 : decode cL_law 185 = .ok (.iconst 0, 1) := by decide +kernel
theorem dL_law_186 : decode cL_law 186 = .ok (.ireturn, 1) := by decide +kernel
theorem dL_law_187 : decode cL_law 187 = .ok (.aload_n 1, 1) := by decide +kernel
theorem dL_law_188 : decode cL_law 188 = .ok (.invokevirtual 18, 3) := by decide +kernel
theorem dL_law_191 : decode cL_law 191 = .ok (.aload_n 2, 1) := by decide +kernel
theorem dL_law_192 : decode cL_law 192 = .ok (.invokevirtual 22, 3) := by decide +kernel
theorem dL_law_195 : decode cL_law 195 = .ok (.if_icmp .eq 809, 3) := by decide +kernel
theorem dL_law_198 : decode cL_law 198 = .ok (.iconst 0, 1) := by decide +kernel
theorem dL_law_199 : decode cL_law 199 = .ok (.ireturn, 1) := by decide +kernel
theorem dL_law_200 : decode cL_law 200 = .ok (.aload_n 1, 1) := by decide +kernel
theorem dL_law_201 : decode cL_law 201 = .ok (.invokevirtual 23, 3) := by decide +kernel
theorem dL_law_204 : decode cL_law 204 = .ok (.aload_n 2, 1) := by decide +kernel
theorem dL_law_205 : decode cL_law 205 = .ok (.invokevirtual 26, 3) := by decide +kernel
theorem dL_law_208 : decode cL_law 208 = .ok (.if_icmp .eq 796, 3) := by decide +kernel
theorem dL_law_211 : decode cL_law 211 = .ok (.iconst 0, 1) := by decide +kernel
theorem dL_law_212 : decode cL_law 212 = .ok (.ireturn, 1) := by decide +kernel
theorem dL_law_213 : decode cL_law 213 = .ok (.aload_n 1, 1) := by decide +kernel
theorem dL_law_214 : decode cL_law 214 = .ok (.invokevirtual 27, 3) := by decide +kernel
theorem dL_law_217 : decode cL_law 217 = .ok (.aload_n 2, 1) := by decide +kernel
theorem dL_law_218 : decode cL_law 218 = .ok (.invokevirtual 30, 3) := by decide +kernel
theorem dL_law_221 : decode cL_law 221 = .ok (.if_icmp .eq 783, 3) := by decide +kernel
theorem dL_law_224 : decode cL_law 224 = .ok (.iconst 0, 1) := by decide +kernel
theorem dL_law_225 : decode cL_law 225 = .ok (.ireturn, 1) := by decide +kernel
theorem dL_law_226 : decode cL_law 226 = .ok (.aload_n 1, 1) := by decide +kernel
theorem dL_law_227 : decode cL_law 227 = .ok (.aload_n 0, 1) := by decide +kernel
theorem dL_law_228 : decode cL_law 228 = .ok (.iload_n 3, 1) := by decide +kernel
theorem dL_law_229 : decode cL_law 229 = .ok (.iconst 1, 1) := by decide +kernel
theorem dL_law_230 : decode cL_law 230 = .ok (.iadd, 1) := by decide +kernel
theorem dL_law_231 : decode cL_law 231 = .ok (.iaload, 1) := by decide +kernel
theorem dL_law_232 : decode cL_law 232 = .ok (.aload_n 0, 1) := by decide +kernel
theorem dL_law_233 : decode cL_law 233 = .ok (.iload_n 3, 1) := by decide +kernel
theorem dL_law_234 : decode cL_law 234 = .ok (.iconst 2, 1) := by decide +kernel
theorem dL_law_235 : decode cL_law 235 = .ok (.iadd, 1) := by decide +kernel
theorem dL_law_236 : decode cL_law 236 = .ok (.iaload, 1) := by decide +kernel
theorem dL_law_237 : decode cL_law 237 = .ok (.invokevirtual 31, 3) := by decide +kernel
theorem dL_law_240 : decode cL_law 240 = .ok (.aload_n 2, 1) := by decide +kernel
theorem dL_law_241 : decode cL_law 241 = .ok (.aload_n 0, 1) := by decide +kernel
theorem dL_law_242 : decode cL_law 242 = .ok (.iload_n 3, 1) := by decide +kernel
theorem dL_law_243 : decode cL_law 243 = .ok (.iconst 1, 1) := by decide +kernel
theorem dL_law_244 : decode cL_law 244 = .ok (.iadd, 1) := by decide +kernel
theorem dL_law_245 : decode cL_law 245 = .ok (.iaload, 1) := by decide +kernel
theorem dL_law_246 : decode cL_law 246 = .ok (.aload_n 0, 1) := by decide +kernel
theorem dL_law_247 : decode cL_law 247 = .ok (.iload_n 3, 1) := by decide +kernel
theorem dL_law_248 : decode cL_law 248 = .ok (.iconst 2, 1) := by decide +kernel
theorem dL_law_249 : decode cL_law 249 = .ok (.iadd, 1) := by decide +kernel
theorem dL_law_250 : decode cL_law 250 = .ok (.iaload, 1) := by decide +kernel
theorem dL_law_251 : decode cL_law 251 = .ok (.invokevirtual 35, 3) := by decide +kernel
theorem dL_law_254 : decode cL_law 254 = .ok (.if_icmp .eq 750, 3) := by decide +kernel
theorem dL_law_257 : decode cL_law 257 = .ok (.iconst 0, 1) := by decide +kernel
theorem dL_law_258 : decode cL_law 258 = .ok (.ireturn, 1) := by decide +kernel
theorem dL_law_259 : decode cL_law 259 = .ok (.aload_n 1, 1) := by decide +kernel
theorem dL_law_260 : decode cL_law 260 = .ok (.aload_n 0, 1) := by decide +kernel
theorem dL_law_261 : decode cL_law 261 = .ok (.iload_n 3, 1) := by decide +kernel
theorem dL_law_262 : decode cL_law 262 = .ok (.iconst 1, 1) := by decide +kernel
theorem dL_law_263 : decode cL_law 263 = .ok (.iadd, 1) := by decide +kernel
theorem dL_law_264 : decode cL_law 264 = .ok (.iaload, 1) := by decide +kernel
theorem dL_law_265 : decode cL_law 265 = .ok (.aload_n 0, 1) := by decide +kernel
theorem dL_law_266 : decode cL_law 266 = .ok (.iload_n 3, 1) := by decide +kernel
theorem dL_law_267 : decode cL_law 267 = .ok (.iconst 2, 1) := by decide +kernel
theorem dL_law_268 : decode cL_law 268 = .ok (.iadd, 1) := by decide +kernel
theorem dL_law_269 : decode cL_law 269 = .ok (.iaload, 1) := by decide +kernel
theorem dL_law_270 : decode cL_law 270 = .ok (.invokevirtual 36, 3) := by decide +kernel
theorem dL_law_273 : decode cL_law 273 = .ok (.aload_n 2, 1) := by decide +kernel
theorem dL_law_274 : decode cL_law 274 = .ok (.aload_n 0, 1) := by decide +kernel
theorem dL_law_275 : decode cL_law 275 = .ok (.iload_n 3, 1) := by decide +kernel
theorem dL_law_276 : decode cL_law 276 = .ok (.iconst 1, 1) := by decide +kernel
theorem dL_law_277 : decode cL_law 277 = .ok (.iadd, 1) := by decide +kernel
theorem dL_law_278 : decode cL_law 278 = .ok (.iaload, 1) := by decide +kernel
theorem dL_law_279 : decode cL_law 279 = .ok (.aload_n 0, 1) := by decide +kernel
theorem dL_law_280 : decode cL_law 280 = .ok (.iload_n 3, 1) := by decide +kernel
theorem dL_law_281 : decode cL_law 281 = .ok (.iconst 2, 1) := by decide +kernel
theorem dL_law_282 : decode cL_law 282 = .ok (.iadd, 1) := by decide +kernel
theorem dL_law_283 : decode cL_law 283 = .ok (.iaload, 1) := by decide +kernel
theorem dL_law_284 : decode cL_law 284 = .ok (.invokevirtual 39, 3) := by decide +kernel
theorem dL_law_287 : decode cL_law 287 = .ok (.if_icmp .eq 717, 3) := by decide +kernel
theorem dL_law_290 : decode cL_law 290 = .ok (.iconst 0, 1) := by decide +kernel
theorem dL_law_291 : decode cL_law 291 = .ok (.ireturn, 1) := by decide +kernel
theorem dL_law_292 : decode cL_law 292 = .ok (.aload_n 1, 1) := by decide +kernel
theorem dL_law_293 : decode cL_law 293 = .ok (.invokevirtual 40, 3) := by decide +kernel
theorem dL_law_296 : decode cL_law 296 = .ok (.aload_n 2, 1) := by decide +kernel
theorem dL_law_297 : decode cL_law 297 = .ok (.invokevirtual 43, 3) := by decide +kernel
theorem dL_law_300 : decode cL_law 300 = .ok (.if_icmp .eq 704, 3) := by decide +kernel
theorem dL_law_303 : decode cL_law 303 = .ok (.iconst 0, 1) := by decide +kernel
theorem dL_law_304 : decode cL_law 304 = .ok (.ireturn, 1) := by decide +kernel
theorem dL_law_305 : decode cL_law 305 = .ok (.aload_n 1, 1) := by decide +kernel
theorem dL_law_306 : decode cL_law 306 = .ok (.aload_n 0, 1) := by decide +kernel
theorem dL_law_307 : decode cL_law 307 = .ok (.iload_n 3, 1) := by decide +kernel
theorem dL_law_308 : decode cL_law 308 = .ok (.iconst 1, 1) := by decide +kernel
theorem dL_law_309 : decode cL_law 309 = .ok (.iadd, 1) := by decide +kernel
theorem dL_law_310 : decode cL_law 310 = .ok (.iaload, 1) := by decide +kernel
theorem dL_law_311 : decode cL_law 311 = .ok (.aload_n 0, 1) := by decide +kernel
theorem dL_law_312 : decode cL_law 312 = .ok (.iload_n 3, 1) := by decide +kernel
theorem dL_law_313 : decode cL_law 313 = .ok (.iconst 2, 1) := by decide +kernel
theorem dL_law_314 : decode cL_law 314 = .ok (.iadd, 1) := by decide +kernel
theorem dL_law_315 : decode cL_law 315 = .ok (.iaload, 1) := by decide +kernel
theorem dL_law_316 : decode cL_law 316 = .ok (.invokevirtual 44, 3) := by decide +kernel
theorem dL_law_319 : decode cL_law 319 = .ok (.aload_n 2, 1) := by decide +kernel
theorem dL_law_320 : decode cL_law 320 = .ok (.aload_n 0, 1) := by decide +kernel
theorem dL_law_321 : decode cL_law 321 = .ok (.iload_n 3, 1) := by decide +kernel
theorem dL_law_322 : decode cL_law 322 = .ok (.iconst 1, 1) := by decide +kernel
theorem dL_law_323 : decode cL_law 323 = .ok (.iadd, 1) := by decide +kernel
theorem dL_law_324 : decode cL_law 324 = .ok (.iaload, 1) := by decide +kernel
theorem dL_law_325 : decode cL_law 325 = .ok (.aload_n 0, 1) := by decide +kernel
theorem dL_law_326 : decode cL_law 326 = .ok (.iload_n 3, 1) := by decide +kernel
theorem dL_law_327 : decode cL_law 327 = .ok (.iconst 2, 1) := by decide +kernel
theorem dL_law_328 : decode cL_law 328 = .ok (.iadd, 1) := by decide +kernel
theorem dL_law_329 : decode cL_law 329 = .ok (.iaload, 1) := by decide +kernel
theorem dL_law_330 : decode cL_law 330 = .ok (.invokevirtual 47, 3) := by decide +kernel
theorem dL_law_333 : decode cL_law 333 = .ok (.if_icmp .eq 671, 3) := by decide +kernel
theorem dL_law_336 : decode cL_law 336 = .ok (.iconst 0, 1) := by decide +kernel
theorem dL_law_337 : decode cL_law 337 = .ok (.ireturn, 1) := by decide +kernel
theorem dL_law_338 : decode cL_law 338 = .ok (.aload_n 1, 1) := by decide +kernel
theorem dL_law_339 : decode cL_law 339 = .ok (.invokevirtual 48, 3) := by decide +kernel
theorem dL_law_342 : decode cL_law 342 = .ok (.aload_n 2, 1) := by decide +kernel
theorem dL_law_343 : decode cL_law 343 = .ok (.invokevirtual 51, 3) := by decide +kernel
theorem dL_law_346 : decode cL_law 346 = .ok (.if_icmp .eq 658, 3) := by decide +kernel
theorem dL_law_349 : decode cL_law 349 = .ok (.iconst 0, 1) := by decide +kernel
theorem dL_law_350 : decode cL_law 350 = .ok (.ireturn, 1) := by decide +kernel
theorem dL_law_351 : decode cL_law 351 = .ok (.aload_n 1, 1) := by decide +kernel
theorem dL_law_352 : decode cL_law 352 = .ok (.aload_n 0, 1) := by decide +kernel
theorem dL_law_353 : decode cL_law 353 = .ok (.iload_n 3, 1) := by decide +kernel
theorem dL_law_354 : decode cL_law 354 = .ok (.iconst 1, 1) := by decide +kernel
theorem dL_law_355 : decode cL_law 355 = .ok (.iadd, 1) := by decide +kernel
theorem dL_law_356 : decode cL_law 356 = .ok (.iaload, 1) := by decide +kernel
theorem dL_law_357 : decode cL_law 357 = .ok (.invokevirtual 52, 3) := by decide +kernel
theorem dL_law_360 : decode cL_law 360 = .ok (.aload_n 2, 1) := by decide +kernel
theorem dL_law_361 : decode cL_law 361 = .ok (.aload_n 0, 1) := by decide +kernel
theorem dL_law_362 : decode cL_law 362 = .ok (.iload_n 3, 1) := by decide +kernel
theorem dL_law_363 : decode cL_law 363 = .ok (.iconst 1, 1) := by decide +kernel
theorem dL_law_364 : decode cL_law 364 = .ok (.iadd, 1) := by decide +kernel
theorem dL_law_365 : decode cL_law 365 = .ok (.iaload, 1) := by decide +kernel
theorem dL_law_366 : decode cL_law 366 = .ok (.invokevirtual 55, 3) := by decide +kernel
theorem dL_law_369 : decode cL_law 369 = .ok (.if_icmp .eq 635, 3) := by decide +kernel
theorem dL_law_372 : decode cL_law 372 = .ok (.iconst 0, 1) := by decide +kernel
theorem dL_law_373 : decode cL_law 373 = .ok (.ireturn, 1) := by decide +kernel
theorem dL_law_374 : decode cL_law 374 = .ok (.aload_n 1, 1) := by decide +kernel
theorem dL_law_375 : decode cL_law 375 = .ok (.aload_n 0, 1) := by decide +kernel
theorem dL_law_376 : decode cL_law 376 = .ok (.iload_n 3, 1) := by decide +kernel
theorem dL_law_377 : decode cL_law 377 = .ok (.iconst 1, 1) := by decide +kernel
theorem dL_law_378 : decode cL_law 378 = .ok (.iadd, 1) := by decide +kernel
theorem dL_law_379 : decode cL_law 379 = .ok (.iaload, 1) := by decide +kernel
theorem dL_law_380 : decode cL_law 380 = .ok (.invokevirtual 56, 3) := by decide +kernel
theorem dL_law_383 : decode cL_law 383 = .ok (.aload_n 2, 1) := by decide +kernel
theorem dL_law_384 : decode cL_law 384 = .ok (.aload_n 0, 1) := by decide +kernel
theorem dL_law_385 : decode cL_law 385 = .ok (.iload_n 3, 1) := by decide +kernel
theorem dL_law_386 : decode cL_law 386 = .ok (.iconst 1, 1) := by decide +kernel
theorem dL_law_387 : decode cL_law 387 = .ok (.iadd, 1) := by decide +kernel
theorem dL_law_388 : decode cL_law 388 = .ok (.iaload, 1) := by decide +kernel
theorem dL_law_389 : decode cL_law 389 = .ok (.invokevirtual 59, 3) := by decide +kernel
theorem dL_law_392 : decode cL_law 392 = .ok (.if_icmp .eq 612, 3) := by decide +kernel
theorem dL_law_395 : decode cL_law 395 = .ok (.iconst 0, 1) := by decide +kernel
theorem dL_law_396 : decode cL_law 396 = .ok (.ireturn, 1) := by decide +kernel
theorem dL_law_397 : decode cL_law 397 = .ok (.aload_n 1, 1) := by decide +kernel
theorem dL_law_398 : decode cL_law 398 = .ok (.invokevirtual 60, 3) := by decide +kernel
theorem dL_law_401 : decode cL_law 401 = .ok (.aload_n 2, 1) := by decide +kernel
theorem dL_law_402 : decode cL_law 402 = .ok (.invokevirtual 63, 3) := by decide +kernel
theorem dL_law_405 : decode cL_law 405 = .ok (.if_icmp .eq 599, 3) := by decide +kernel
theorem dL_law_408 : decode cL_law 408 = .ok (.iconst 0, 1) := by decide +kernel
theorem dL_law_409 : decode cL_law 409 = .ok (.ireturn, 1) := by decide +kernel
theorem dL_law_410 : decode cL_law 410 = .ok (.aload_n 1, 1) := by decide +kernel
theorem dL_law_411 : decode cL_law 411 = .ok (.aload_n 0, 1) := by decide +kernel
theorem dL_law_412 : decode cL_law 412 = .ok (.iload_n 3, 1) := by decide +kernel
theorem dL_law_413 : decode cL_law 413 = .ok (.iconst 1, 1) := by decide +kernel
theorem dL_law_414 : decode cL_law 414 = .ok (.iadd, 1) := by decide +kernel
theorem dL_law_415 : decode cL_law 415 = .ok (.iaload, 1) := by decide +kernel
theorem dL_law_416 : decode cL_law 416 = .ok (.aload_n 0, 1) := by decide +kernel
theorem dL_law_417 : decode cL_law 417 = .ok (.iload_n 3, 1) := by decide +kernel
theorem dL_law_418 : decode cL_law 418 = .ok (.iconst 2, 1) := by decide +kernel
theorem dL_law_419 : decode cL_law 419 = .ok (.iadd, 1) := by decide +kernel
theorem dL_law_420 : decode cL_law 420 = .ok (.iaload, 1) := by decide +kernel
theorem dL_law_421 : decode cL_law 421 = .ok (.invokevirtual 64, 3) := by decide +kernel
theorem dL_law_424 : decode cL_law 424 = .ok (.aload_n 2, 1) := by decide +kernel
theorem dL_law_425 : decode cL_law 425 = .ok (.aload_n 0, 1) := by decide +kernel
theorem dL_law_426 : decode cL_law 426 = .ok (.iload_n 3, 1) := by decide +kernel
theorem dL_law_427 : decode cL_law 427 = .ok (.iconst 1, 1) := by decide +kernel
theorem dL_law_428 : decode cL_law 428 = .ok (.iadd, 1) := by decide +kernel
theorem dL_law_429 : decode cL_law 429 = .ok (.iaload, 1) := by decide +kernel
theorem dL_law_430 : decode cL_law 430 = .ok (.aload_n 0, 1) := by decide +kernel
theorem dL_law_431 : decode cL_law 431 = .ok (.iload_n 3, 1) := by decide +kernel
theorem dL_law_432 : decode cL_law 432 = .ok (.iconst 2, 1) := by decide +kernel
theorem dL_law_433 : decode cL_law 433 = .ok (.iadd, 1) := by decide +kernel
theorem dL_law_434 : decode cL_law 434 = .ok (.iaload, 1) := by decide +kernel
theorem dL_law_435 : decode cL_law 435 = .ok (.invokevirtual 67, 3) := by decide +kernel
theorem dL_law_438 : decode cL_law 438 = .ok (.if_icmp .eq 566, 3) := by decide +kernel
theorem dL_law_441 : decode cL_law 441 = .ok (.iconst 0, 1) := by decide +kernel
theorem dL_law_442 : decode cL_law 442 = .ok (.ireturn, 1) := by decide +kernel
theorem dL_law_443 : decode cL_law 443 = .ok (.aload_n 1, 1) := by decide +kernel
theorem dL_law_444 : decode cL_law 444 = .ok (.aload_n 0, 1) := by decide +kernel
theorem dL_law_445 : decode cL_law 445 = .ok (.iload_n 3, 1) := by decide +kernel
theorem dL_law_446 : decode cL_law 446 = .ok (.iconst 1, 1) := by decide +kernel
theorem dL_law_447 : decode cL_law 447 = .ok (.iadd, 1) := by decide +kernel
theorem dL_law_448 : decode cL_law 448 = .ok (.iaload, 1) := by decide +kernel
theorem dL_law_449 : decode cL_law 449 = .ok (.invokevirtual 68, 3) := by decide +kernel
theorem dL_law_452 : decode cL_law 452 = .ok (.aload_n 2, 1) := by decide +kernel
theorem dL_law_453 : decode cL_law 453 = .ok (.aload_n 0, 1) := by decide +kernel
theorem dL_law_454 : decode cL_law 454 = .ok (.iload_n 3, 1) := by decide +kernel
theorem dL_law_455 : decode cL_law 455 = .ok (.iconst 1, 1) := by decide +kernel
theorem dL_law_456 : decode cL_law 456 = .ok (.iadd, 1) := by decide +kernel
theorem dL_law_457 : decode cL_law 457 = .ok (.iaload, 1) := by decide +kernel
theorem dL_law_458 : decode cL_law 458 = .ok (.invokevirtual 71, 3) := by decide +kernel
theorem dL_law_461 : decode cL_law 461 = .ok (.if_icmp .eq 543, 3) := by decide +kernel
theorem dL_law_464 : decode cL_law 464 = .ok (.iconst 0, 1) := by decide +kernel
theorem dL_law_465 : decode cL_law 465 = .ok (.ireturn, 1) := by decide +kernel
theorem dL_law_466 : decode cL_law 466 = .ok (.aload_n 1, 1) := by decide +kernel
theorem dL_law_467 : decode cL_law 467 = .ok (.aload_n 0, 1) := by decide +kernel
theorem dL_law_468 : decode cL_law 468 = .ok (.iload_n 3, 1) := by decide +kernel
theorem dL_law_469 : decode cL_law 469 = .ok (.iconst 1, 1) := by decide +kernel
theorem dL_law_470 : decode cL_law 470 = .ok (.iadd, 1) := by decide +kernel
theorem dL_law_471 : decode cL_law 471 = .ok (.iaload, 1) := by decide +kernel
theorem dL_law_472 : decode cL_law 472 = .ok (.invokevirtual 72, 3) := by decide +kernel
theorem dL_law_475 : decode cL_law 475 = .ok (.aload_n 2, 1) := by decide +kernel
theorem dL_law_476 : decode cL_law 476 = .ok (.aload_n 0, 1) := by decide +kernel
theorem dL_law_477 : decode cL_law 477 = .ok (.iload_n 3, 1) := by decide +kernel
theorem dL_law_478 : decode cL_law 478 = .ok (.iconst 1, 1) := by decide +kernel
theorem dL_law_479 : decode cL_law 479 = .ok (.iadd, 1) := by decide +kernel
theorem dL_law_480 : decode cL_law 480 = .ok (.iaload, 1) := by decide +kernel
theorem dL_law_481 : decode cL_law 481 = .ok (.invokevirtual 75, 3) := by decide +kernel
theorem dL_law_484 : decode cL_law 484 = .ok (.if_icmp .eq 520, 3) := by decide +kernel
theorem dL_law_487 : decode cL_law 487 = .ok (.iconst 0, 1) := by decide +kernel
theorem dL_law_488 : decode cL_law 488 = .ok (.ireturn, 1) := by decide +kernel
theorem dL_law_489 : decode cL_law 489 = .ok (.aload_n 1, 1) := by decide +kernel
theorem dL_law_490 : decode cL_law 490 = .ok (.aload_n 0, 1) := by decide +kernel
theorem dL_law_491 : decode cL_law 491 = .ok (.iload_n 3, 1) := by decide +kernel
theorem dL_law_492 : decode cL_law 492 = .ok (.iconst 1, 1) := by decide +kernel
theorem dL_law_493 : decode cL_law 493 = .ok (.iadd, 1) := by decide +kernel
theorem dL_law_494 : decode cL_law 494 = .ok (.iaload, 1) := by decide +kernel
theorem dL_law_495 : decode cL_law 495 = .ok (.aload_n 0, 1) := by decide +kernel
theorem dL_law_496 : decode cL_law 496 = .ok (.iload_n 3, 1) := by decide +kernel
theorem dL_law_497 : decode cL_law 497 = .ok (.iconst 2, 1) := by decide +kernel
theorem dL_law_498 : decode cL_law 498 = .ok (.iadd, 1) := by decide +kernel
theorem dL_law_499 : decode cL_law 499 = .ok (.iaload, 1) := by decide +kernel
theorem dL_law_500 : decode cL_law 500 = .ok (.aload_n 0, 1) := by decide +kernel
theorem dL_law_501 : decode cL_law 501 = .ok (.iload_n 3, 1) := by decide +kernel
theorem dL_law_502 : decode cL_law 502 = .ok (.iconst 3, 1) := by decide +kernel
theorem dL_law_503 : decode cL_law 503 = .ok (.iadd, 1) := by decide +kernel
theorem dL_law_504 : decode cL_law 504 = .ok (.iaload, 1) := by decide +kernel
theorem dL_law_505 : decode cL_law 505 = .ok (.invokevirtual 76, 3) := by decide +kernel
theorem dL_law_508 : decode cL_law 508 = .ok (.aload_n 2, 1) := by decide +kernel
theorem dL_law_509 : decode cL_law 509 = .ok (.aload_n 0, 1) := by decide +kernel
theorem dL_law_510 : decode cL_law 510 = .ok (.iload_n 3, 1) := by decide +kernel
theorem dL_law_511 : decode cL_law 511 = .ok (.iconst 1, 1) := by decide +kernel
theorem dL_law_512 : decode cL_law 512 = .ok (.iadd, 1) := by decide +kernel
theorem dL_law_513 : decode cL_law 513 = .ok (.iaload, 1) := by decide +kernel
theorem dL_law_514 : decode cL_law 514 = .ok (.aload_n 0, 1) := by decide +kernel
theorem dL_law_515 : decode cL_law 515 = .ok (.iload_n 3, 1) := by decide +kernel
theorem dL_law_516 : decode cL_law 516 = .ok (.iconst 2, 1) := by decide +kernel
theorem dL_law_517 : decode cL_law 517 = .ok (.iadd, 1) := by decide +kernel
theorem dL_law_518 : decode cL_law 518 = .ok (.iaload, 1) := by decide +kernel
theorem dL_law_519 : decode cL_law 519 = .ok (.aload_n 0, 1) := by decide +kernel
theorem dL_law_520 : decode cL_law 520 = .ok (.iload_n 3, 1) := by decide +kernel
theorem dL_law_521 : decode cL_law 521 = .ok (.iconst 3, 1) := by decide +kernel
theorem dL_law_522 : decode cL_law 522 = .ok (.iadd, 1) := by decide +kernel
theorem dL_law_523 : decode cL_law 523 = .ok (.iaload, 1) := by decide +kernel
theorem dL_law_524 : decode cL_law 524 = .ok (.invokevirtual 80, 3) := by decide +kernel
theorem dL_law_527 : decode cL_law 527 = .ok (.if_icmp .eq 477, 3) := by decide +kernel
theorem dL_law_530 : decode cL_law 530 = .ok (.iconst 0, 1) := by decide +kernel
theorem dL_law_531 : decode cL_law 531 = .ok (.ireturn, 1) := by decide +kernel
theorem dL_law_532 : decode cL_law 532 = .ok (.aload_n 1, 1) := by decide +kernel
theorem dL_law_533 : decode cL_law 533 = .ok (.aload_n 0, 1) := by decide +kernel
theorem dL_law_534 : decode cL_law 534 = .ok (.iload_n 3, 1) := by decide +kernel
theorem dL_law_535 : decode cL_law 535 = .ok (.iconst 1, 1) := by decide +kernel
theorem dL_law_536 : decode cL_law 536 = .ok (.iadd, 1) := by decide +kernel
theorem dL_law_537 : decode cL_law 537 = .ok (.iaload, 1) := by decide +kernel
theorem dL_law_538 : decode cL_law 538 = .ok (.invokevirtual 81, 3) := by decide +kernel
theorem dL_law_541 : decode cL_law 541 = .ok (.aload_n 2, 1) := by decide +kernel
theorem dL_law_542 : decode cL_law 542 = .ok (.aload_n 0, 1) := by decide +kernel
theorem dL_law_543 : decode cL_law 543 = .ok (.iload_n 3, 1) := by decide +kernel
theorem dL_law_544 : decode cL_law 544 = .ok (.iconst 1, 1) := by decide +kernel
theorem dL_law_545 : decode cL_law 545 = .ok (.iadd, 1) := by decide +kernel
theorem dL_law_546 : decode cL_law 546 = .ok (.iaload, 1) := by decide +kernel
theorem dL_law_547 : decode cL_law 547 = .ok (.invokevirtual 84, 3) := by decide +kernel
theorem dL_law_550 : decode cL_law 550 = .ok (.if_icmp .eq 454, 3) := by decide +kernel
theorem dL_law_553 : decode cL_law 553 = .ok (.iconst 0, 1) := by decide +kernel
theorem dL_law_554 : decode cL_law 554 = .ok (.ireturn, 1) := by decide +kernel
theorem dL_law_555 : decode cL_law 555 = .ok (.aload_n 1, 1) := by decide +kernel
theorem dL_law_556 : decode cL_law 556 = .ok (.aload_n 0, 1) := by decide +kernel
theorem dL_law_557 : decode cL_law 557 = .ok (.iload_n 3, 1) := by decide +kernel
theorem dL_law_558 : decode cL_law 558 = .ok (.iconst 1, 1) := by decide +kernel
theorem dL_law_559 : decode cL_law 559 = .ok (.iadd, 1) := by decide +kernel
theorem dL_law_560 : decode cL_law 560 = .ok (.iaload, 1) := by decide +kernel
theorem dL_law_561 : decode cL_law 561 = .ok (.aload_n 0, 1) := by decide +kernel
theorem dL_law_562 : decode cL_law 562 = .ok (.iload_n 3, 1) := by decide +kernel
theorem dL_law_563 : decode cL_law 563 = .ok (.iconst 2, 1) := by decide +kernel
theorem dL_law_564 : decode cL_law 564 = .ok (.iadd, 1) := by decide +kernel
theorem dL_law_565 : decode cL_law 565 = .ok (.iaload, 1) := by decide +kernel
theorem dL_law_566 : decode cL_law 566 = .ok (.i2l, 1) := by decide +kernel
theorem dL_law_567 : decode cL_law 567 = .ok (.bipush 32, 2) := by decide +kernel
theorem dL_law_569 : decode cL_law 569 = .ok (.lshl, 1) := by decide +kernel
theorem dL_law_570 : decode cL_law 570 = .ok (.aload_n 0, 1) := by decide +kernel
theorem dL_law_571 : decode cL_law 571 = .ok (.iload_n 3, 1) := by decide +kernel
theorem dL_law_572 : decode cL_law 572 = .ok (.iconst 3, 1) := by decide +kernel
theorem dL_law_573 : decode cL_law 573 = .ok (.iadd, 1) := by decide +kernel
theorem dL_law_574 : decode cL_law 574 = .ok (.iaload, 1) := by decide +kernel
theorem dL_law_575 : decode cL_law 575 = .ok (.i2l, 1) := by decide +kernel
theorem dL_law_576 : decode cL_law 576 = .ok (.ldc2_w 85, 3) := by decide +kernel
theorem dL_law_579 : decode cL_law 579 = .ok (.land, 1) := by decide +kernel
theorem dL_law_580 : decode cL_law 580 = .ok (.lor, 1) := by decide +kernel
theorem dL_law_581 : decode cL_law 581 = .ok (.invokevirtual 87, 3) := by decide +kernel
theorem dL_law_584 : decode cL_law 584 = .ok (.aload_n 2, 1) := by decide +kernel
theorem dL_law_585 : decode cL_law 585 = .ok (.aload_n 0, 1) := by decide +kernel
theorem dL_law_586 : decode cL_law 586 = .ok (.iload_n 3, 1) := by decide +kernel
theorem dL_law_587 : decode cL_law 587 = .ok (.iconst 1, 1) := by decide +kernel
theorem dL_law_588 : decode cL_law 588 = .ok (.iadd, 1) := by decide +kernel
theorem dL_law_589 : decode cL_law 589 = .ok (.iaload, 1) := by decide +kernel
theorem dL_law_590 : decode cL_law 590 = .ok (.aload_n 0, 1) := by decide +kernel
theorem dL_law_591 : decode cL_law 591 = .ok (.iload_n 3, 1) := by decide +kernel
theorem dL_law_592 : decode cL_law 592 = .ok (.iconst 2, 1) := by decide +kernel
theorem dL_law_593 : decode cL_law 593 = .ok (.iadd, 1) := by decide +kernel
theorem dL_law_594 : decode cL_law 594 = .ok (.iaload, 1) := by decide +kernel
theorem dL_law_595 : decode cL_law 595 = .ok (.i2l, 1) := by decide +kernel
theorem dL_law_596 : decode cL_law 596 = .ok (.bipush 32, 2) := by decide +kernel
theorem dL_law_598 : decode cL_law 598 = .ok (.lshl, 1) := by decide +kernel
theorem dL_law_599 : decode cL_law 599 = .ok (.aload_n 0, 1) := by decide +kernel
theorem dL_law_600 : decode cL_law 600 = .ok (.iload_n 3, 1) := by decide +kernel
theorem dL_law_601 : decode cL_law 601 = .ok (.iconst 3, 1) := by decide +kernel
theorem dL_law_602 : decode cL_law 602 = .ok (.iadd, 1) := by decide +kernel
theorem dL_law_603 : decode cL_law 603 = .ok (.iaload, 1) := by decide +kernel
theorem dL_law_604 : decode cL_law 604 = .ok (.i2l, 1) := by decide +kernel
theorem dL_law_605 : decode cL_law 605 = .ok (.ldc2_w 85, 3) := by decide +kernel
theorem dL_law_608 : decode cL_law 608 = .ok (.land, 1) := by decide +kernel
theorem dL_law_609 : decode cL_law 609 = .ok (.lor, 1) := by decide +kernel
theorem dL_law_610 : decode cL_law 610 = .ok (.invokevirtual 91, 3) := by decide +kernel
theorem dL_law_613 : decode cL_law 613 = .ok (.if_icmp .eq 391, 3) := by decide +kernel
theorem dL_law_616 : decode cL_law 616 = .ok (.iconst 0, 1) := by decide +kernel
theorem dL_law_617 : decode cL_law 617 = .ok (.ireturn, 1) := by decide +kernel
theorem dL_law_618 : decode cL_law 618 = .ok (.aload_n 1, 1) := by decide +kernel
theorem dL_law_619 : decode cL_law 619 = .ok (.aload_n 0, 1) := by decide +kernel
theorem dL_law_620 : decode cL_law 620 = .ok (.iload_n 3, 1) := by decide +kernel
theorem dL_law_621 : decode cL_law 621 = .ok (.iconst 1, 1) := by decide +kernel
theorem dL_law_622 : decode cL_law 622 = .ok (.iadd, 1) := by decide +kernel
theorem dL_law_623 : decode cL_law 623 = .ok (.iaload, 1) := by decide +kernel
theorem dL_law_624 : decode cL_law 624 = .ok (.aload_n 0, 1) := by decide +kernel
theorem dL_law_625 : decode cL_law 625 = .ok (.iload_n 3, 1) := by decide +kernel
theorem dL_law_626 : decode cL_law 626 = .ok (.iconst 2, 1) := by decide +kernel
theorem dL_law_627 : decode cL_law 627 = .ok (.iadd, 1) := by decide +kernel
theorem dL_law_628 : decode cL_law 628 = .ok (.iaload, 1) := by decide +kernel
theorem dL_law_629 : decode cL_law 629 = .ok (.aload_n 0, 1) := by decide +kernel
theorem dL_law_630 : decode cL_law 630 = .ok (.iload_n 3, 1) := by decide +kernel
theorem dL_law_631 : decode cL_law 631 = .ok (.iconst 3, 1) := by decide +kernel
theorem dL_law_632 : decode cL_law 632 = .ok (.iadd, 1) := by decide +kernel
theorem dL_law_633 : decode cL_law 633 = .ok (.iaload, 1) := by decide +kernel
theorem dL_law_634 : decode cL_law 634 = .ok (.invokevirtual 92, 3) := by decide +kernel
theorem dL_law_637 : decode cL_law 637 = .ok (.aload_n 2, 1) := by decide +kernel
theorem dL_law_638 : decode cL_law 638 = .ok (.aload_n 0, 1) := by decide +kernel
theorem dL_law_639 : decode cL_law 639 = .ok (.iload_n 3, 1) := by decide +kernel
theorem dL_law_640 : decode cL_law 640 = .ok (.iconst 1, 1) := by decide +kernel
theorem dL_law_641 : decode cL_law 641 = .ok (.iadd, 1) := by decide +kernel
theorem dL_law_642 : decode cL_law 642 = .ok (.iaload, 1) := by decide +kernel
theorem dL_law_643 : decode cL_law 643 = .ok (.aload_n 0, 1) := by decide +kernel
theorem dL_law_644 : decode cL_law 644 = .ok (.iload_n 3, 1) := by decide +kernel
theorem dL_law_645 : decode cL_law 645 = .ok (.iconst 2, 1) := by decide +kernel
theorem dL_law_646 : decode cL_law 646 = .ok (.iadd, 1) := by decide +kernel
theorem dL_law_647 : decode cL_law 647 = .ok (.iaload, 1) := by decide +kernel
theorem dL_law_648 : decode cL_law 648 = .ok (.aload_n 0, 1) := by decide +kernel
theorem dL_law_649 : decode cL_law 649 = .ok (.iload_n 3, 1) := by decide +kernel
theorem dL_law_650 : decode cL_law 650 = .ok (.iconst 3, 1) := by decide +kernel
theorem dL_law_651 : decode cL_law 651 = .ok (.iadd, 1) := by decide +kernel
theorem dL_law_652 : decode cL_law 652 = .ok (.iaload, 1) := by decide +kernel
theorem dL_law_653 : decode cL_law 653 = .ok (.invokevirtual 95, 3) := by decide +kernel
theorem dL_law_656 : decode cL_law 656 = .ok (.if_icmp .eq 348, 3) := by decide +kernel
theorem dL_law_659 : decode cL_law 659 = .ok (.iconst 0, 1) := by decide +kernel
theorem dL_law_660 : decode cL_law 660 = .ok (.ireturn, 1) := by decide +kernel
theorem dL_law_661 : decode cL_law 661 = .ok (.aload_n 1, 1) := by decide +kernel
theorem dL_law_662 : decode cL_law 662 = .ok (.invokevirtual 96, 3) := by decide +kernel
theorem dL_law_665 : decode cL_law 665 = .ok (.aload_n 2, 1) := by decide +kernel
theorem dL_law_666 : decode cL_law 666 = .ok (.invokevirtual 99, 3) := by decide +kernel
theorem dL_law_669 : decode cL_law 669 = .ok (.if_icmp .eq 335, 3) := by decide +kernel
theorem dL_law_672 : decode cL_law 672 = .ok (.iconst 0, 1) := by decide +kernel
theorem dL_law_673 : decode cL_law 673 = .ok (.ireturn, 1) := by decide +kernel
theorem dL_law_674 : decode cL_law 674 = .ok (.aload_n 1, 1) := by decide +kernel
theorem dL_law_675 : decode cL_law 675 = .ok (.aload_n 0, 1) := by decide +kernel
theorem dL_law_676 : decode cL_law 676 = .ok (.iload_n 3, 1) := by decide +kernel
theorem dL_law_677 : decode cL_law 677 = .ok (.iconst 1, 1) := by decide +kernel
theorem dL_law_678 : decode cL_law 678 = .ok (.iadd, 1) := by decide +kernel
theorem dL_law_679 : decode cL_law 679 = .ok (.iaload, 1) := by decide +kernel
theorem dL_law_680 : decode cL_law 680 = .ok (.invokevirtual 100, 3) := by decide +kernel
theorem dL_law_683 : decode cL_law 683 = .ok (.aload_n 2, 1) := by decide +kernel
theorem dL_law_684 : decode cL_law 684 = .ok (.aload_n 0, 1) := by decide +kernel
theorem dL_law_685 : decode cL_law 685 = .ok (.iload_n 3, 1) := by decide +kernel
theorem dL_law_686 : decode cL_law 686 = .ok (.iconst 1, 1) := by decide +kernel
theorem dL_law_687 : decode cL_law 687 = .ok (.iadd, 1) := by decide +kernel
theorem dL_law_688 : decode cL_law 688 = .ok (.iaload, 1) := by decide +kernel
theorem dL_law_689 : decode cL_law 689 = .ok (.invokevirtual 103, 3) := by decide +kernel
theorem dL_law_692 : decode cL_law 692 = .ok (.if_icmp .eq 312, 3) := by decide +kernel
theorem dL_law_695 : decode cL_law 695 = .ok (.iconst 0, 1) := by decide +kernel
theorem dL_law_696 : decode cL_law 696 = .ok (.ireturn, 1) := by decide +kernel
theorem dL_law_697 : decode cL_law 697 = .ok (.aload_n 1, 1) := by decide +kernel
theorem dL_law_698 : decode cL_law 698 = .ok (.aload_n 0, 1) := by decide +kernel
theorem dL_law_699 : decode cL_law 699 = .ok (.iload_n 3, 1) := by decide +kernel
theorem dL_law_700 : decode cL_law 700 = .ok (.iconst 1, 1) := by decide +kernel
theorem dL_law_701 : decode cL_law 701 = .ok (.iadd, 1) := by decide +kernel
theorem dL_law_702 : decode cL_law 702 = .ok (.iaload, 1) := by decide +kernel
theorem dL_law_703 : decode cL_law 703 = .ok (.aload_n 0, 1) := by decide +kernel
theorem dL_law_704 : decode cL_law 704 = .ok (.iload_n 3, 1) := by decide +kernel
theorem dL_law_705 : decode cL_law 705 = .ok (.iconst 2, 1) := by decide +kernel
theorem dL_law_706 : decode cL_law 706 = .ok (.iadd, 1) := by decide +kernel
theorem dL_law_707 : decode cL_law 707 = .ok (.iaload, 1) := by decide +kernel
theorem dL_law_708 : decode cL_law 708 = .ok (.ifCond .eq 7, 3) := by decide +kernel
theorem dL_law_711 : decode cL_law 711 = .ok (.iconst 1, 1) := by decide +kernel
theorem dL_law_712 : decode cL_law 712 = .ok (.goto 4, 3) := by decide +kernel
theorem dL_law_715 : decode cL_law 715 = .ok (.iconst 0, 1) := by decide +kernel
theorem dL_law_716 : decode cL_law 716 = .ok (.invokevirtual 104, 3) := by decide +kernel
theorem dL_law_719 : decode cL_law 719 = .ok (.aload_n 2, 1) := by decide +kernel
theorem dL_law_720 : decode cL_law 720 = .ok (.aload_n 0, 1) := by decide +kernel
theorem dL_law_721 : decode cL_law 721 = .ok (.iload_n 3, 1) := by decide +kernel
theorem dL_law_722 : decode cL_law 722 = .ok (.iconst 1, 1) := by decide +kernel
theorem dL_law_723 : decode cL_law 723 = .ok (.iadd, 1) := by decide +kernel
theorem dL_law_724 : decode cL_law 724 = .ok (.iaload, 1) := by decide +kernel
theorem dL_law_725 : decode cL_law 725 = .ok (.aload_n 0, 1) := by decide +kernel
theorem dL_law_726 : decode cL_law 726 = .ok (.iload_n 3, 1) := by decide +kernel
theorem dL_law_727 : decode cL_law 727 = .ok (.iconst 2, 1) := by decide +kernel
theorem dL_law_728 : decode cL_law 728 = .ok (.iadd, 1) := by decide +kernel
theorem dL_law_729 : decode cL_law 729 = .ok (.iaload, 1) := by decide +kernel
theorem dL_law_730 : decode cL_law 730 = .ok (.ifCond .eq 7, 3) := by decide +kernel
theorem dL_law_733 : decode cL_law 733 = .ok (.iconst 1, 1) := by decide +kernel
theorem dL_law_734 : decode cL_law 734 = .ok (.goto 4, 3) := by decide +kernel
theorem dL_law_737 : decode cL_law 737 = .ok (.iconst 0, 1) := by decide +kernel
theorem dL_law_738 : decode cL_law 738 = .ok (.invokevirtual 108, 3) := by decide +kernel
theorem dL_law_741 : decode cL_law 741 = .ok (.if_icmp .eq 263, 3) := by decide +kernel
theorem dL_law_744 : decode cL_law 744 = .ok (.iconst 0, 1) := by decide +kernel
theorem dL_law_745 : decode cL_law 745 = .ok (.ireturn, 1) := by decide +kernel
theorem dL_law_746 : decode cL_law 746 = .ok (.aload_n 1, 1) := by decide +kernel
theorem dL_law_747 : decode cL_law 747 = .ok (.aload_n 0, 1) := by decide +kernel
theorem dL_law_748 : decode cL_law 748 = .ok (.iload_n 3, 1) := by decide +kernel
theorem dL_law_749 : decode cL_law 749 = .ok (.iconst 1, 1) := by decide +kernel
theorem dL_law_750 : decode cL_law 750 = .ok (.iadd, 1) := by decide +kernel
theorem dL_law_751 : decode cL_law 751 = .ok (.iaload, 1) := by decide +kernel
theorem dL_law_752 : decode cL_law 752 = .ok (.aload_n 0, 1) := by decide +kernel
theorem dL_law_753 : decode cL_law 753 = .ok (.iload_n 3, 1) := by decide +kernel
theorem dL_law_754 : decode cL_law 754 = .ok (.iconst 2, 1) := by decide +kernel
theorem dL_law_755 : decode cL_law 755 = .ok (.iadd, 1) := by decide +kernel
theorem dL_law_756 : decode cL_law 756 = .ok (.iaload, 1) := by decide +kernel
theorem dL_law_757 : decode cL_law 757 = .ok (.aload_n 0, 1) := by decide +kernel
theorem dL_law_758 : decode cL_law 758 = .ok (.iload_n 3, 1) := by decide +kernel
theorem dL_law_759 : decode cL_law 759 = .ok (.iconst 3, 1) := by decide +kernel
theorem dL_law_760 : decode cL_law 760 = .ok (.iadd, 1) := by decide +kernel
theorem dL_law_761 : decode cL_law 761 = .ok (.iaload, 1) := by decide +kernel
theorem dL_law_762 : decode cL_law 762 = .ok (.invokevirtual 109, 3) := by decide +kernel
theorem dL_law_765 : decode cL_law 765 = .ok (.aload_n 2, 1) := by decide +kernel
theorem dL_law_766 : decode cL_law 766 = .ok (.aload_n 0, 1) := by decide +kernel
theorem dL_law_767 : decode cL_law 767 = .ok (.iload_n 3, 1) := by decide +kernel
theorem dL_law_768 : decode cL_law 768 = .ok (.iconst 1, 1) := by decide +kernel
theorem dL_law_769 : decode cL_law 769 = .ok (.iadd, 1) := by decide +kernel
theorem dL_law_770 : decode cL_law 770 = .ok (.iaload, 1) := by decide +kernel
theorem dL_law_771 : decode cL_law 771 = .ok (.aload_n 0, 1) := by decide +kernel
theorem dL_law_772 : decode cL_law 772 = .ok (.iload_n 3, 1) := by decide +kernel
theorem dL_law_773 : decode cL_law 773 = .ok (.iconst 2, 1) := by decide +kernel
theorem dL_law_774 : decode cL_law 774 = .ok (.iadd, 1) := by decide +kernel
theorem dL_law_775 : decode cL_law 775 = .ok (.iaload, 1) := by decide +kernel
theorem dL_law_776 : decode cL_law 776 = .ok (.aload_n 0, 1) := by decide +kernel
theorem dL_law_777 : decode cL_law 777 = .ok (.iload_n 3, 1) := by decide +kernel
theorem dL_law_778 : decode cL_law 778 = .ok (.iconst 3, 1) := by decide +kernel
theorem dL_law_779 : decode cL_law 779 = .ok (.iadd, 1) := by decide +kernel
theorem dL_law_780 : decode cL_law 780 = .ok (.iaload, 1) := by decide +kernel
theorem dL_law_781 : decode cL_law 781 = .ok (.invokevirtual 112, 3) := by decide +kernel
theorem dL_law_784 : decode cL_law 784 = .ok (.if_icmp .eq 220, 3) := by decide +kernel
theorem dL_law_787 : decode cL_law 787 = .ok (.iconst 0, 1) := by decide +kernel
theorem dL_law_788 : decode cL_law 788 = .ok (.ireturn, 1) := by decide +kernel
theorem dL_law_789 : decode cL_law 789 = .ok (.aload_n 1, 1) := by decide +kernel
theorem dL_law_790 : decode cL_law 790 = .ok (.aload_n 0, 1) := by decide +kernel
theorem dL_law_791 : decode cL_law 791 = .ok (.iload_n 3, 1) := by decide +kernel
theorem dL_law_792 : decode cL_law 792 = .ok (.iconst 1, 1) := by decide +kernel
theorem dL_law_793 : decode cL_law 793 = .ok (.iadd, 1) := by decide +kernel
theorem dL_law_794 : decode cL_law 794 = .ok (.iaload, 1) := by decide +kernel
theorem dL_law_795 : decode cL_law 795 = .ok (.aload_n 0, 1) := by decide +kernel
theorem dL_law_796 : decode cL_law 796 = .ok (.iload_n 3, 1) := by decide +kernel
theorem dL_law_797 : decode cL_law 797 = .ok (.iconst 2, 1) := by decide +kernel
theorem dL_law_798 : decode cL_law 798 = .ok (.iadd, 1) := by decide +kernel
theorem dL_law_799 : decode cL_law 799 = .ok (.iaload, 1) := by decide +kernel
theorem dL_law_800 : decode cL_law 800 = .ok (.aload_n 0, 1) := by decide +kernel
theorem dL_law_801 : decode cL_law 801 = .ok (.iload_n 3, 1) := by decide +kernel
theorem dL_law_802 : decode cL_law 802 = .ok (.iconst 3, 1) := by decide +kernel
theorem dL_law_803 : decode cL_law 803 = .ok (.iadd, 1) := by decide +kernel
theorem dL_law_804 : decode cL_law 804 = .ok (.iaload, 1) := by decide +kernel
theorem dL_law_805 : decode cL_law 805 = .ok (.aload_n 0, 1) := by decide +kernel
theorem dL_law_806 : decode cL_law 806 = .ok (.iload_n 3, 1) := by decide +kernel
theorem dL_law_807 : decode cL_law 807 = .ok (.iconst 4, 1) := by decide +kernel
theorem dL_law_808 : decode cL_law 808 = .ok (.iadd, 1) := by decide +kernel
theorem dL_law_809 : decode cL_law 809 = .ok (.iaload, 1) := by decide +kernel
theorem dL_law_810 : decode cL_law 810 = .ok (.ifCond .eq 7, 3) := by decide +kernel
theorem dL_law_813 : decode cL_law 813 = .ok (.iconst 1, 1) := by decide +kernel
theorem dL_law_814 : decode cL_law 814 = .ok (.goto 4, 3) := by decide +kernel
theorem dL_law_817 : decode cL_law 817 = .ok (.iconst 0, 1) := by decide +kernel
theorem dL_law_818 : decode cL_law 818 = .ok (.invokevirtual 113, 3) := by decide +kernel
theorem dL_law_821 : decode cL_law 821 = .ok (.aload_n 2, 1) := by decide +kernel
theorem dL_law_822 : decode cL_law 822 = .ok (.aload_n 0, 1) := by decide +kernel
theorem dL_law_823 : decode cL_law 823 = .ok (.iload_n 3, 1) := by decide +kernel
theorem dL_law_824 : decode cL_law 824 = .ok (.iconst 1, 1) := by decide +kernel
theorem dL_law_825 : decode cL_law 825 = .ok (.iadd, 1) := by decide +kernel
theorem dL_law_826 : decode cL_law 826 = .ok (.iaload, 1) := by decide +kernel
theorem dL_law_827 : decode cL_law 827 = .ok (.aload_n 0, 1) := by decide +kernel
theorem dL_law_828 : decode cL_law 828 = .ok (.iload_n 3, 1) := by decide +kernel
theorem dL_law_829 : decode cL_law 829 = .ok (.iconst 2, 1) := by decide +kernel
theorem dL_law_830 : decode cL_law 830 = .ok (.iadd, 1) := by decide +kernel
theorem dL_law_831 : decode cL_law 831 = .ok (.iaload, 1) := by decide +kernel
theorem dL_law_832 : decode cL_law 832 = .ok (.aload_n 0, 1) := by decide +kernel
theorem dL_law_833 : decode cL_law 833 = .ok (.iload_n 3, 1) := by decide +kernel
theorem dL_law_834 : decode cL_law 834 = .ok (.iconst 3, 1) := by decide +kernel
theorem dL_law_835 : decode cL_law 835 = .ok (.iadd, 1) := by decide +kernel
theorem dL_law_836 : decode cL_law 836 = .ok (.iaload, 1) := by decide +kernel
theorem dL_law_837 : decode cL_law 837 = .ok (.aload_n 0, 1) := by decide +kernel
theorem dL_law_838 : decode cL_law 838 = .ok (.iload_n 3, 1) := by decide +kernel
theorem dL_law_839 : decode cL_law 839 = .ok (.iconst 4, 1) := by decide +kernel
theorem dL_law_840 : decode cL_law 840 = .ok (.iadd, 1) := by decide +kernel
theorem dL_law_841 : decode cL_law 841 = .ok (.iaload, 1) := by decide +kernel
theorem dL_law_842 : decode cL_law 842 = .ok (.ifCond .eq 7, 3) := by decide +kernel
theorem dL_law_845 : decode cL_law 845 = .ok (.iconst 1, 1) := by decide +kernel
theorem dL_law_846 : decode cL_law 846 = .ok (.goto 4, 3) := by decide +kernel
theorem dL_law_849 : decode cL_law 849 = .ok (.iconst 0, 1) := by decide +kernel
theorem dL_law_850 : decode cL_law 850 = .ok (.invokevirtual 117, 3) := by decide +kernel
theorem dL_law_853 : decode cL_law 853 = .ok (.if_icmp .eq 151, 3) := by decide +kernel
theorem dL_law_856 : decode cL_law 856 = .ok (.iconst 0, 1) := by decide +kernel
theorem dL_law_857 : decode cL_law 857 = .ok (.ireturn, 1) := by decide +kernel
theorem dL_law_858 : decode cL_law 858 = .ok (.aload_n 1, 1) := by decide +kernel
theorem dL_law_859 : decode cL_law 859 = .ok (.aload_n 0, 1) := by decide +kernel
theorem dL_law_860 : decode cL_law 860 = .ok (.iload_n 3, 1) := by decide +kernel
theorem dL_law_861 : decode cL_law 861 = .ok (.iconst 1, 1) := by decide +kernel
theorem dL_law_862 : decode cL_law 862 = .ok (.iadd, 1) := by decide +kernel
theorem dL_law_863 : decode cL_law 863 = .ok (.iaload, 1) := by decide +kernel
theorem dL_law_864 : decode cL_law 864 = .ok (.i2l, 1) := by decide +kernel
theorem dL_law_865 : decode cL_law 865 = .ok (.bipush 32, 2) := by decide +kernel
theorem dL_law_867 : decode cL_law 867 = .ok (.lshl, 1) := by decide +kernel
theorem dL_law_868 : decode cL_law 868 = .ok (.aload_n 0, 1) := by decide +kernel
theorem dL_law_869 : decode cL_law 869 = .ok (.iload_n 3, 1) := by decide +kernel
theorem dL_law_870 : decode cL_law 870 = .ok (.iconst 2, 1) := by decide +kernel
theorem dL_law_871 : decode cL_law 871 = .ok (.iadd, 1) := by decide +kernel
theorem dL_law_872 : decode cL_law 872 = .ok (.iaload, 1) := by decide +kernel
theorem dL_law_873 : decode cL_law 873 = .ok (.i2l, 1) := by decide +kernel
theorem dL_law_874 : decode cL_law 874 = .ok (.ldc2_w 85, 3) := by decide +kernel
theorem dL_law_877 : decode cL_law 877 = .ok (.land, 1) := by decide +kernel
theorem dL_law_878 : decode cL_law 878 = .ok (.lor, 1) := by decide +kernel
theorem dL_law_879 : decode cL_law 879 = .ok (.invokevirtual 118, 3) := by decide +kernel
theorem dL_law_882 : decode cL_law 882 = .ok (.aload_n 2, 1) := by decide +kernel
theorem dL_law_883 : decode cL_law 883 = .ok (.aload_n 0, 1) := by decide +kernel
theorem dL_law_884 : decode cL_law 884 = .ok (.iload_n 3, 1) := by decide +kernel
theorem dL_law_885 : decode cL_law 885 = .ok (.iconst 1, 1) := by decide +kernel
theorem dL_law_886 : decode cL_law 886 = .ok (.iadd, 1) := by decide +kernel
theorem dL_law_887 : decode cL_law 887 = .ok (.iaload, 1) := by decide +kernel
theorem dL_law_888 : decode cL_law 888 = .ok (.i2l, 1) := by decide +kernel
theorem dL_law_889 : decode cL_law 889 = .ok (.bipush 32, 2) := by decide +kernel
theorem dL_law_891 : decode cL_law 891 = .ok (.lshl, 1) := by decide +kernel
theorem dL_law_892 : decode cL_law 892 = .ok (.aload_n 0, 1) := by decide +kernel
theorem dL_law_893 : decode cL_law 893 = .ok (.iload_n 3, 1) := by decide +kernel
theorem dL_law_894 : decode cL_law 894 = .ok (.iconst 2, 1) := by decide +kernel
theorem dL_law_895 : decode cL_law 895 = .ok (.iadd, 1) := by decide +kernel
theorem dL_law_896 : decode cL_law 896 = .ok (.iaload, 1) := by decide +kernel
theorem dL_law_897 : decode cL_law 897 = .ok (.i2l, 1) := by decide +kernel
theorem dL_law_898 : decode cL_law 898 = .ok (.ldc2_w 85, 3) := by decide +kernel
theorem dL_law_901 : decode cL_law 901 = .ok (.land, 1) := by decide +kernel
theorem dL_law_902 : decode cL_law 902 = .ok (.lor, 1) := by decide +kernel
theorem dL_law_903 : decode cL_law 903 = .ok (.invokevirtual 122, 3) := by decide +kernel
theorem dL_law_906 : decode cL_law 906 = .ok (.lcmp, 1) := by decide +kernel
theorem dL_law_907 : decode cL_law 907 = .ok (.ifCond .eq 97, 3) := by decide +kernel
theorem dL_law_910 : decode cL_law 910 = .ok (.iconst 0, 1) := by decide +kernel
theorem dL_law_911 : decode cL_law 911 = .ok (.ireturn, 1) := by decide +kernel
theorem dL_law_912 : decode cL_law 912 = .ok (.aload_n 1, 1) := by decide +kernel
theorem dL_law_913 : decode cL_law 913 = .ok (.aload_n 0, 1) := by decide +kernel
theorem dL_law_914 : decode cL_law 914 = .ok (.iload_n 3, 1) := by decide +kernel
theorem dL_law_915 : decode cL_law 915 = .ok (.iconst 1, 1) := by decide +kernel
theorem dL_law_916 : decode cL_law 916 = .ok (.iadd, 1) := by decide +kernel
theorem dL_law_917 : decode cL_law 917 = .ok (.iaload, 1) := by decide +kernel
theorem dL_law_918 : decode cL_law 918 = .ok (.invokevirtual 123, 3) := by decide +kernel
theorem dL_law_921 : decode cL_law 921 = .ok (.aload_n 2, 1) := by decide +kernel
theorem dL_law_922 : decode cL_law 922 = .ok (.aload_n 0, 1) := by decide +kernel
theorem dL_law_923 : decode cL_law 923 = .ok (.iload_n 3, 1) := by decide +kernel
theorem dL_law_924 : decode cL_law 924 = .ok (.iconst 1, 1) := by decide +kernel
theorem dL_law_925 : decode cL_law 925 = .ok (.iadd, 1) := by decide +kernel
theorem dL_law_926 : decode cL_law 926 = .ok (.iaload, 1) := by decide +kernel
theorem dL_law_927 : decode cL_law 927 = .ok (.invokevirtual 126, 3) := by decide +kernel
theorem dL_law_930 : decode cL_law 930 = .ok (.if_icmp .eq 74, 3) := by decide +kernel
theorem dL_law_933 : decode cL_law 933 = .ok (.iconst 0, 1) := by decide +kernel
theorem dL_law_934 : decode cL_law 934 = .ok (.ireturn, 1) := by decide +kernel
theorem dL_law_935 : decode cL_law 935 = .ok (.aload_n 1, 1) := by decide +kernel
theorem dL_law_936 : decode cL_law 936 = .ok (.aload_n 0, 1) := by decide +kernel
theorem dL_law_937 : decode cL_law 937 = .ok (.iload_n 3, 1) := by decide +kernel
theorem dL_law_938 : decode cL_law 938 = .ok (.iconst 1, 1) := by decide +kernel
theorem dL_law_939 : decode cL_law 939 = .ok (.iadd, 1) := by decide +kernel
theorem dL_law_940 : decode cL_law 940 = .ok (.iaload, 1) := by decide +kernel
theorem dL_law_941 : decode cL_law 941 = .ok (.invokevirtual 127, 3) := by decide +kernel
theorem dL_law_944 : decode cL_law 944 = .ok (.aload_n 2, 1) := by decide +kernel
theorem dL_law_945 : decode cL_law 945 = .ok (.aload_n 0, 1) := by decide +kernel
theorem dL_law_946 : decode cL_law 946 = .ok (.iload_n 3, 1) := by decide +kernel
theorem dL_law_947 : decode cL_law 947 = .ok (.iconst 1, 1) := by decide +kernel
theorem dL_law_948 : decode cL_law 948 = .ok (.iadd, 1) := by decide +kernel
theorem dL_law_949 : decode cL_law 949 = .ok (.iaload, 1) := by decide +kernel
theorem dL_law_950 : decode cL_law 950 = .ok (.invokevirtual 130, 3) := by decide +kernel
theorem dL_law_953 : decode cL_law 953 = .ok (.if_icmp .eq 51, 3) := by decide +kernel
theorem dL_law_956 : decode cL_law 956 = .ok (.iconst 0, 1) := by decide +kernel
theorem dL_law_957 : decode cL_law 957 = .ok (.ireturn, 1) := by decide +kernel
theorem dL_law_958 : decode cL_law 958 = .ok (.aload_n 1, 1) := by decide +kernel
theorem dL_law_959 : decode cL_law 959 = .ok (.aload_n 0, 1) := by decide +kernel
theorem dL_law_960 : decode cL_law 960 = .ok (.iload_n 3, 1) := by decide +kernel
theorem dL_law_961 : decode cL_law 961 = .ok (.iconst 1, 1) := by decide +kernel
theorem dL_law_962 : decode cL_law 962 = .ok (.iadd, 1) := by decide +kernel
theorem dL_law_963 : decode cL_law 963 = .ok (.iaload, 1) := by decide +kernel
theorem dL_law_964 : decode cL_law 964 = .ok (.invokevirtual 131, 3) := by decide +kernel
theorem dL_law_967 : decode cL_law 967 = .ok (.aload_n 2, 1) := by decide +kernel
theorem dL_law_968 : decode cL_law 968 = .ok (.aload_n 0, 1) := by decide +kernel
theorem dL_law_969 : decode cL_law 969 = .ok (.iload_n 3, 1) := by decide +kernel
theorem dL_law_970 : decode cL_law 970 = .ok (.iconst 1, 1) := by decide +kernel
theorem dL_law_971 : decode cL_law 971 = .ok (.iadd, 1) := by decide +kernel
theorem dL_law_972 : decode cL_law 972 = .ok (.iaload, 1) := by decide +kernel
theorem dL_law_973 : decode cL_law 973 = .ok (.invokevirtual 134, 3) := by decide +kernel
theorem dL_law_976 : decode cL_law 976 = .ok (.if_icmp .eq 28, 3) := by decide +kernel
theorem dL_law_979 : decode cL_law 979 = .ok (.iconst 0, 1) := by decide +kernel
theorem dL_law_980 : decode cL_law 980 = .ok (.ireturn, 1) := by decide +kernel
theorem dL_law_981 : decode cL_law 981 = .ok (.aload_n 1, 1) := by decide +kernel
theorem dL_law_982 : decode cL_law 982 = .ok (.aload_n 0, 1) := by decide +kernel
theorem dL_law_983 : decode cL_law 983 = .ok (.iload_n 3, 1) := by decide +kernel
theorem dL_law_984 : decode cL_law 984 = .ok (.iconst 1, 1) := by decide +kernel
theorem dL_law_985 : decode cL_law 985 = .ok (.iadd, 1) := by decide +kernel
theorem dL_law_986 : decode cL_law 986 = .ok (.iaload, 1) := by decide +kernel
theorem dL_law_987 : decode cL_law 987 = .ok (.invokevirtual 135, 3) := by decide +kernel
theorem dL_law_990 : decode cL_law 990 = .ok (.aload_n 2, 1) := by decide +kernel
theorem dL_law_991 : decode cL_law 991 = .ok (.aload_n 0, 1) := by decide +kernel
theorem dL_law_992 : decode cL_law 992 = .ok (.iload_n 3, 1) := by decide +kernel
theorem dL_law_993 : decode cL_law 993 = .ok (.iconst 1, 1) := by decide +kernel
theorem dL_law_994 : decode cL_law 994 = .ok (.iadd, 1) := by decide +kernel
theorem dL_law_995 : decode cL_law 995 = .ok (.iaload, 1) := by decide +kernel
theorem dL_law_996 : decode cL_law 996 = .ok (.invokevirtual 138, 3) := by decide +kernel
theorem dL_law_999 : decode cL_law 999 = .ok (.if_icmp .eq 5, 3) := by decide +kernel
theorem dL_law_1002 : decode cL_law 1002 = .ok (.iconst 0, 1) := by decide +kernel
theorem dL_law_1003 : decode cL_law 1003 = .ok (.ireturn, 1) := by decide +kernel
theorem dL_law_1004 : decode cL_law 1004 = .ok (.iinc 3 5, 3) := by decide +kernel
theorem dL_law_1007 : decode cL_law 1007 = .ok (.goto (-989), 3) := by decide +kernel
theorem dL_law_1010 : decode cL_law 1010 = .ok (.iconst 1, 1) := by decide +kernel
theorem dL_law_1011 : decode cL_law 1011 = .ok (.ireturn, 1) := by decide +kernel

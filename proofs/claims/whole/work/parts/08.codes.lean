theorem inRJ0 : Cond.initialized RJ0 ∈ kw := kw_in (List.mem_of_getElem? (i := 77) (by decide +kernel)) (by decide +kernel)
theorem inRJ1 : Cond.initialized RJ1 ∈ kw := kw_in (List.mem_of_getElem? (i := 78) (by decide +kernel)) (by decide +kernel)
theorem inRJ11 : Cond.initialized RJ11 ∈ kw := kw_in (List.mem_of_getElem? (i := 81) (by decide +kernel)) (by decide +kernel)
theorem inRJ2 : Cond.initialized RJ2 ∈ kw := kw_in (List.mem_of_getElem? (i := 80) (by decide +kernel)) (by decide +kernel)
theorem inRJ3 : Cond.initialized RJ3 ∈ kw := kw_in (List.mem_of_getElem? (i := 79) (by decide +kernel)) (by decide +kernel)
theorem inRJ6 : Cond.initialized RJ6 ∈ kw := kw_in (List.mem_of_getElem? (i := 76) (by decide +kernel)) (by decide +kernel)
theorem inRJ7 : Cond.initialized RJ7 ∈ kw := kw_in (List.mem_of_getElem? (i := 75) (by decide +kernel)) (by decide +kernel)
theorem inRJ9 : Cond.initialized RJ9 ∈ kw := kw_in (List.mem_of_getElem? (i := 72) (by decide +kernel)) (by decide +kernel)
theorem inRL : Cond.initialized RL ∈ kw := kw_in (List.mem_of_getElem? (i := 62) (by decide +kernel)) (by decide +kernel)
theorem inRX0 : Cond.initialized RX0 ∈ kw := kw_in (List.mem_of_getElem? (i := 65) (by decide +kernel)) (by decide +kernel)
theorem inRX1 : Cond.initialized RX1 ∈ kw := kw_in (List.mem_of_getElem? (i := 66) (by decide +kernel)) (by decide +kernel)
theorem inRX2 : Cond.initialized RX2 ∈ kw := kw_in (List.mem_of_getElem? (i := 64) (by decide +kernel)) (by decide +kernel)
theorem inRX3 : Cond.initialized RX3 ∈ kw := kw_in (List.mem_of_getElem? (i := 69) (by decide +kernel)) (by decide +kernel)
theorem inRX4 : Cond.initialized RX4 ∈ kw := kw_in (List.mem_of_getElem? (i := 70) (by decide +kernel)) (by decide +kernel)
theorem inRX5 : Cond.initialized RX5 ∈ kw := kw_in (List.mem_of_getElem? (i := 73) (by decide +kernel)) (by decide +kernel)
theorem inRX6 : Cond.initialized RX6 ∈ kw := kw_in (List.mem_of_getElem? (i := 68) (by decide +kernel)) (by decide +kernel)
theorem inRX7 : Cond.initialized RX7 ∈ kw := kw_in (List.mem_of_getElem? (i := 67) (by decide +kernel)) (by decide +kernel)
theorem inRX8 : Cond.initialized RX8 ∈ kw := kw_in (List.mem_of_getElem? (i := 63) (by decide +kernel)) (by decide +kernel)
theorem inRX9 : Cond.initialized RX9 ∈ kw := kw_in (List.mem_of_getElem? (i := 71) (by decide +kernel)) (by decide +kernel)
theorem instX0 : Cond.instantiable RX0 3 ∈ kw := kw_in (List.mem_of_getElem? (i := 101) (by decide +kernel)) (by decide +kernel)
theorem instX1 : Cond.instantiable RX1 6 ∈ kw := kw_in (List.mem_of_getElem? (i := 185) (by decide +kernel)) (by decide +kernel)
theorem instX2 : Cond.instantiable RX2 14 ∈ kw := kw_in (List.mem_of_getElem? (i := 91) (by decide +kernel)) (by decide +kernel)
theorem instX3 : Cond.instantiable RX3 3 ∈ kw := kw_in (List.mem_of_getElem? (i := 279) (by decide +kernel)) (by decide +kernel)
theorem instX4 : Cond.instantiable RX4 4 ∈ kw := kw_in (List.mem_of_getElem? (i := 299) (by decide +kernel)) (by decide +kernel)
theorem instX5 : Cond.instantiable RX5 4 ∈ kw := kw_in (List.mem_of_getElem? (i := 855) (by decide +kernel)) (by decide +kernel)
theorem instX6 : Cond.instantiable RX6 9 ∈ kw := kw_in (List.mem_of_getElem? (i := 240) (by decide +kernel)) (by decide +kernel)
theorem instX7 : Cond.instantiable RX7 6 ∈ kw := kw_in (List.mem_of_getElem? (i := 215) (by decide +kernel)) (by decide +kernel)
theorem instX8 : Cond.instantiable RX8 13 ∈ kw := kw_in (List.mem_of_getElem? (i := 83) (by decide +kernel)) (by decide +kernel)
theorem instX9 : Cond.instantiable RX9 32 ∈ kw := kw_in (List.mem_of_getElem? (i := 982) (by decide +kernel)) (by decide +kernel)
set_option maxRecDepth 50000 in
theorem kcX0_init : Cond.code yX0_init cX0_init 1 none ∈ kw := kw_in (List.mem_of_getElem? (i := 104) (by decide +kernel)) (by decide +kernel)
set_option maxRecDepth 50000 in
theorem kcX0_take : Cond.code yX0_take cX0_take 2 none ∈ kw := kw_in (List.mem_of_getElem? (i := 640) (by decide +kernel)) (by decide +kernel)
set_option maxRecDepth 50000 in
theorem kcX0_worth : Cond.code yX0_worth cX0_worth 1 (some .int) ∈ kw := kw_in (List.mem_of_getElem? (i := 445) (by decide +kernel)) (by decide +kernel)
set_option maxRecDepth 50000 in
theorem kcX1_init : Cond.code yX1_init cX1_init 1 none ∈ kw := kw_in (List.mem_of_getElem? (i := 188) (by decide +kernel)) (by decide +kernel)
set_option maxRecDepth 50000 in
theorem kcX1_useClocks : Cond.code yX1_useClocks cX1_useClocks 4 none ∈ kw := kw_in (List.mem_of_getElem? (i := 538) (by decide +kernel)) (by decide +kernel)
set_option maxRecDepth 50000 in
theorem kcX1_addStrokes : Cond.code yX1_addStrokes cX1_addStrokes 10 none ∈ kw := kw_in (List.mem_of_getElem? (i := 545) (by decide +kernel)) (by decide +kernel)
set_option maxRecDepth 50000 in
theorem kcX1_addAt : Cond.code yX1_addAt cX1_addAt 3 none ∈ kw := kw_in (List.mem_of_getElem? (i := 552) (by decide +kernel)) (by decide +kernel)
set_option maxRecDepth 50000 in
theorem kcX1_useNotes : Cond.code yX1_useNotes cX1_useNotes 5 none ∈ kw := kw_in (List.mem_of_getElem? (i := 557) (by decide +kernel)) (by decide +kernel)
set_option maxRecDepth 50000 in
theorem kcX1_findTimes : Cond.code yX1_findTimes cX1_findTimes 5 none ∈ kw := kw_in (List.mem_of_getElem? (i := 562) (by decide +kernel)) (by decide +kernel)
set_option maxRecDepth 50000 in
theorem kcX1_isSure : Cond.code yX1_isSure cX1_isSure 1 (some .boolean) ∈ kw := kw_in (List.mem_of_getElem? (i := 567) (by decide +kernel)) (by decide +kernel)
set_option maxRecDepth 50000 in
theorem kcX1_difference : Cond.code yX1_difference cX1_difference 5 (some .int) ∈ kw := kw_in (List.mem_of_getElem? (i := 619) (by decide +kernel)) (by decide +kernel)
set_option maxRecDepth 50000 in
theorem kcX2_init : Cond.code yX2_init cX2_init 2 none ∈ kw := kw_in (List.mem_of_getElem? (i := 94) (by decide +kernel)) (by decide +kernel)
set_option maxRecDepth 50000 in
theorem kcX2_take : Cond.code yX2_take cX2_take 3 none ∈ kw := kw_in (List.mem_of_getElem? (i := 636) (by decide +kernel)) (by decide +kernel)
set_option maxRecDepth 50000 in
theorem kcX2_hasClock : Cond.code yX2_hasClock cX2_hasClock 2 (some .boolean) ∈ kw := kw_in (List.mem_of_getElem? (i := 385) (by decide +kernel)) (by decide +kernel)
set_option maxRecDepth 50000 in
theorem kcX2_addClock : Cond.code yX2_addClock cX2_addClock 5 none ∈ kw := kw_in (List.mem_of_getElem? (i := 377) (by decide +kernel)) (by decide +kernel)
set_option maxRecDepth 50000 in
theorem kcX2_draw : Cond.code yX2_draw cX2_draw 1 (some .int) ∈ kw := kw_in (List.mem_of_getElem? (i := 483) (by decide +kernel)) (by decide +kernel)
set_option maxRecDepth 50000 in
theorem kcX2_timeNow : Cond.code yX2_timeNow cX2_timeNow 1 (some .int) ∈ kw := kw_in (List.mem_of_getElem? (i := 390) (by decide +kernel)) (by decide +kernel)
set_option maxRecDepth 50000 in
theorem kcX2_bedCount : Cond.code yX2_bedCount cX2_bedCount 2 (some .int) ∈ kw := kw_in (List.mem_of_getElem? (i := 515) (by decide +kernel)) (by decide +kernel)
set_option maxRecDepth 50000 in
theorem kcX2_textAt : Cond.code yX2_textAt cX2_textAt 2 (some (.object "StrokesHeard$Text")) ∈ kw := kw_in (List.mem_of_getElem? (i := 414) (by decide +kernel)) (by decide +kernel)
set_option maxRecDepth 50000 in
theorem kcX2_law : Cond.code yX2_law cX2_law 2 (some (.object "StrokesHeard$Text")) ∈ kw := kw_in (List.mem_of_getElem? (i := 410) (by decide +kernel)) (by decide +kernel)
set_option maxRecDepth 50000 in
theorem kcX2_addText : Cond.code yX2_addText cX2_addText 2 none ∈ kw := kw_in (List.mem_of_getElem? (i := 891) (by decide +kernel)) (by decide +kernel)
set_option maxRecDepth 50000 in
theorem kcX2_againMinute : Cond.code yX2_againMinute cX2_againMinute 5 (some .int) ∈ kw := kw_in (List.mem_of_getElem? (i := 406) (by decide +kernel)) (by decide +kernel)
set_option maxRecDepth 50000 in
theorem kcX2_strokesAt : Cond.code yX2_strokesAt cX2_strokesAt 8 (some .int) ∈ kw := kw_in (List.mem_of_getElem? (i := 394) (by decide +kernel)) (by decide +kernel)
set_option maxRecDepth 50000 in
theorem kcX2_strokesOfAllTimes : Cond.code yX2_strokesOfAllTimes cX2_strokesOfAllTimes 4 (some .int) ∈ kw := kw_in (List.mem_of_getElem? (i := 440) (by decide +kernel)) (by decide +kernel)
set_option maxRecDepth 50000 in
theorem kcX2_totalAt : Cond.code yX2_totalAt cX2_totalAt 4 (some .int) ∈ kw := kw_in (List.mem_of_getElem? (i := 471) (by decide +kernel)) (by decide +kernel)
set_option maxRecDepth 50000 in
theorem kcX2_passMinutes : Cond.code yX2_passMinutes cX2_passMinutes 3 none ∈ kw := kw_in (List.mem_of_getElem? (i := 496) (by decide +kernel)) (by decide +kernel)
set_option maxRecDepth 50000 in
theorem kcX2_hearMinute : Cond.code yX2_hearMinute cX2_hearMinute 4 none ∈ kw := kw_in (List.mem_of_getElem? (i := 502) (by decide +kernel)) (by decide +kernel)
set_option maxRecDepth 50000 in
theorem kcX2_allows : Cond.code yX2_allows cX2_allows 4 (some .boolean) ∈ kw := kw_in (List.mem_of_getElem? (i := 530) (by decide +kernel)) (by decide +kernel)
set_option maxRecDepth 50000 in
theorem kcX3_init : Cond.code yX3_init cX3_init 1 none ∈ kw := kw_in (List.mem_of_getElem? (i := 282) (by decide +kernel)) (by decide +kernel)
set_option maxRecDepth 50000 in
theorem kcX3_become : Cond.code yX3_become cX3_become 3 none ∈ kw := kw_in (List.mem_of_getElem? (i := 908) (by decide +kernel)) (by decide +kernel)
set_option maxRecDepth 50000 in
theorem kcX3_take : Cond.code yX3_take cX3_take 2 none ∈ kw := kw_in (List.mem_of_getElem? (i := 946) (by decide +kernel)) (by decide +kernel)
set_option maxRecDepth 50000 in
theorem kcX3_isNumber : Cond.code yX3_isNumber cX3_isNumber 2 (some .boolean) ∈ kw := kw_in (List.mem_of_getElem? (i := 623) (by decide +kernel)) (by decide +kernel)
set_option maxRecDepth 50000 in
theorem kcX3_hasRun : Cond.code yX3_hasRun cX3_hasRun 3 (some .boolean) ∈ kw := kw_in (List.mem_of_getElem? (i := 936) (by decide +kernel)) (by decide +kernel)
set_option maxRecDepth 50000 in
theorem kcX4_init : Cond.code yX4_init cX4_init 1 none ∈ kw := kw_in (List.mem_of_getElem? (i := 302) (by decide +kernel)) (by decide +kernel)
set_option maxRecDepth 50000 in
theorem kcX5_init : Cond.code yX5_init cX5_init 4 none ∈ kw := kw_in (List.mem_of_getElem? (i := 870) (by decide +kernel)) (by decide +kernel)
set_option maxRecDepth 50000 in
theorem kcX5_value : Cond.code yX5_value cX5_value 7 (some .int) ∈ kw := kw_in (List.mem_of_getElem? (i := 418) (by decide +kernel)) (by decide +kernel)
set_option maxRecDepth 50000 in
theorem kcX5_joined : Cond.code yX5_joined cX5_joined 3 (some .int) ∈ kw := kw_in (List.mem_of_getElem? (i := 421) (by decide +kernel)) (by decide +kernel)
set_option maxRecDepth 50000 in
theorem kcX6_init : Cond.code yX6_init cX6_init 1 none ∈ kw := kw_in (List.mem_of_getElem? (i := 243) (by decide +kernel)) (by decide +kernel)
set_option maxRecDepth 50000 in
theorem kcX6_readText : Cond.code yX6_readText cX6_readText 3 (some .boolean) ∈ kw := kw_in (List.mem_of_getElem? (i := 674) (by decide +kernel)) (by decide +kernel)
set_option maxRecDepth 50000 in
theorem kcX6_newText : Cond.code yX6_newText cX6_newText 1 (some (.object "StrokesHeard$Text")) ∈ kw := kw_in (List.mem_of_getElem? (i := 853) (by decide +kernel)) (by decide +kernel)
set_option maxRecDepth 50000 in
theorem kcX6_advance : Cond.code yX6_advance cX6_advance 3 none ∈ kw := kw_in (List.mem_of_getElem? (i := 679) (by decide +kernel)) (by decide +kernel)
set_option maxRecDepth 50000 in
theorem kcX6_isLetter : Cond.code yX6_isLetter cX6_isLetter 1 (some .boolean) ∈ kw := kw_in (List.mem_of_getElem? (i := 682) (by decide +kernel)) (by decide +kernel)
set_option maxRecDepth 50000 in
theorem kcX6_isDigit : Cond.code yX6_isDigit cX6_isDigit 1 (some .boolean) ∈ kw := kw_in (List.mem_of_getElem? (i := 685) (by decide +kernel)) (by decide +kernel)
set_option maxRecDepth 50000 in
theorem kcX6_isSign : Cond.code yX6_isSign cX6_isSign 2 (some .boolean) ∈ kw := kw_in (List.mem_of_getElem? (i := 842) (by decide +kernel)) (by decide +kernel)
set_option maxRecDepth 50000 in
theorem kcX6_signAmong : Cond.code yX6_signAmong cX6_signAmong 3 (some .int) ∈ kw := kw_in (List.mem_of_getElem? (i := 847) (by decide +kernel)) (by decide +kernel)
set_option maxRecDepth 50000 in
theorem kcX6_isWord : Cond.code yX6_isWord cX6_isWord 3 (some .boolean) ∈ kw := kw_in (List.mem_of_getElem? (i := 694) (by decide +kernel)) (by decide +kernel)
set_option maxRecDepth 50000 in
theorem kcX6_readKey : Cond.code yX6_readKey cX6_readKey 1 (some .boolean) ∈ kw := kw_in (List.mem_of_getElem? (i := 689) (by decide +kernel)) (by decide +kernel)
set_option maxRecDepth 50000 in
theorem kcX6_addStep : Cond.code yX6_addStep cX6_addStep 2 none ∈ kw := kw_in (List.mem_of_getElem? (i := 776) (by decide +kernel)) (by decide +kernel)
set_option maxRecDepth 50000 in
theorem kcX6_readOr : Cond.code yX6_readOr cX6_readOr 5 (some .boolean) ∈ kw := kw_in (List.mem_of_getElem? (i := 748) (by decide +kernel)) (by decide +kernel)
set_option maxRecDepth 50000 in
theorem kcX6_readAnd : Cond.code yX6_readAnd cX6_readAnd 5 (some .boolean) ∈ kw := kw_in (List.mem_of_getElem? (i := 752) (by decide +kernel)) (by decide +kernel)
set_option maxRecDepth 50000 in
theorem kcX6_readTest : Cond.code yX6_readTest cX6_readTest 5 (some .boolean) ∈ kw := kw_in (List.mem_of_getElem? (i := 756) (by decide +kernel)) (by decide +kernel)
set_option maxRecDepth 50000 in
theorem kcX6_readSum : Cond.code yX6_readSum cX6_readSum 6 (some .boolean) ∈ kw := kw_in (List.mem_of_getElem? (i := 760) (by decide +kernel)) (by decide +kernel)
set_option maxRecDepth 50000 in
theorem kcX6_readTerm : Cond.code yX6_readTerm cX6_readTerm 6 (some .boolean) ∈ kw := kw_in (List.mem_of_getElem? (i := 764) (by decide +kernel)) (by decide +kernel)
set_option maxRecDepth 50000 in
theorem kcX6_readPiece : Cond.code yX6_readPiece cX6_readPiece 4 (some .boolean) ∈ kw := kw_in (List.mem_of_getElem? (i := 768) (by decide +kernel)) (by decide +kernel)
set_option maxRecDepth 50000 in
theorem kcX6_readNumber : Cond.code yX6_readNumber cX6_readNumber 3 (some .boolean) ∈ kw := kw_in (List.mem_of_getElem? (i := 772) (by decide +kernel)) (by decide +kernel)
set_option maxRecDepth 50000 in
theorem kcX6_readName : Cond.code yX6_readName cX6_readName 3 (some .boolean) ∈ kw := kw_in (List.mem_of_getElem? (i := 780) (by decide +kernel)) (by decide +kernel)
set_option maxRecDepth 50000 in
theorem kcX7_init : Cond.code yX7_init cX7_init 1 none ∈ kw := kw_in (List.mem_of_getElem? (i := 218) (by decide +kernel)) (by decide +kernel)
set_option maxRecDepth 50000 in
theorem kcX7_shortest : Cond.code yX7_shortest cX7_shortest 3 (some .int) ∈ kw := kw_in (List.mem_of_getElem? (i := 598) (by decide +kernel)) (by decide +kernel)
set_option maxRecDepth 50000 in
theorem kcX7_splitLeavesDoubt : Cond.code yX7_splitLeavesDoubt cX7_splitLeavesDoubt 6 (some .boolean) ∈ kw := kw_in (List.mem_of_getElem? (i := 603) (by decide +kernel)) (by decide +kernel)
set_option maxRecDepth 50000 in
theorem kcX7_partOf : Cond.code yX7_partOf cX7_partOf 6 (some .int) ∈ kw := kw_in (List.mem_of_getElem? (i := 608) (by decide +kernel)) (by decide +kernel)
set_option maxRecDepth 50000 in
theorem kcX8_init : Cond.code yX8_init cX8_init 2 none ∈ kw := kw_in (List.mem_of_getElem? (i := 86) (by decide +kernel)) (by decide +kernel)
set_option maxRecDepth 50000 in
theorem kcX8_clock : Cond.code yX8_clock cX8_clock 4 (some .int) ∈ kw := kw_in (List.mem_of_getElem? (i := 368) (by decide +kernel)) (by decide +kernel)
set_option maxRecDepth 50000 in
theorem kcX8_told : Cond.code yX8_told cX8_told 4 (some .int) ∈ kw := kw_in (List.mem_of_getElem? (i := 381) (by decide +kernel)) (by decide +kernel)
set_option maxRecDepth 50000 in
theorem kcX8_as : Cond.code yX8_as cX8_as 4 (some .int) ∈ kw := kw_in (List.mem_of_getElem? (i := 449) (by decide +kernel)) (by decide +kernel)
set_option maxRecDepth 50000 in
theorem kcX8_turns : Cond.code yX8_turns cX8_turns 5 (some .int) ∈ kw := kw_in (List.mem_of_getElem? (i := 455) (by decide +kernel)) (by decide +kernel)
set_option maxRecDepth 50000 in
theorem kcX8_set : Cond.code yX8_set cX8_set 6 (some .int) ∈ kw := kw_in (List.mem_of_getElem? (i := 459) (by decide +kernel)) (by decide +kernel)
set_option maxRecDepth 50000 in
theorem kcX8_strokes : Cond.code yX8_strokes cX8_strokes 3 (some .int) ∈ kw := kw_in (List.mem_of_getElem? (i := 463) (by decide +kernel)) (by decide +kernel)
set_option maxRecDepth 50000 in
theorem kcX8_total : Cond.code yX8_total cX8_total 2 (some .int) ∈ kw := kw_in (List.mem_of_getElem? (i := 467) (by decide +kernel)) (by decide +kernel)
set_option maxRecDepth 50000 in
theorem kcX8_ear : Cond.code yX8_ear cX8_ear 4 (some .int) ∈ kw := kw_in (List.mem_of_getElem? (i := 475) (by decide +kernel)) (by decide +kernel)
set_option maxRecDepth 50000 in
theorem kcX8_deal : Cond.code yX8_deal cX8_deal 7 (some .int) ∈ kw := kw_in (List.mem_of_getElem? (i := 479) (by decide +kernel)) (by decide +kernel)
set_option maxRecDepth 50000 in
theorem kcX8_seed : Cond.code yX8_seed cX8_seed 3 (some .int) ∈ kw := kw_in (List.mem_of_getElem? (i := 488) (by decide +kernel)) (by decide +kernel)
set_option maxRecDepth 50000 in
theorem kcX8_minutes : Cond.code yX8_minutes cX8_minutes 3 (some .int) ∈ kw := kw_in (List.mem_of_getElem? (i := 492) (by decide +kernel)) (by decide +kernel)
set_option maxRecDepth 50000 in
theorem kcX8_bed : Cond.code yX8_bed cX8_bed 2 (some .int) ∈ kw := kw_in (List.mem_of_getElem? (i := 511) (by decide +kernel)) (by decide +kernel)
set_option maxRecDepth 50000 in
theorem kcX8_note : Cond.code yX8_note cX8_note 2 (some .int) ∈ kw := kw_in (List.mem_of_getElem? (i := 520) (by decide +kernel)) (by decide +kernel)
set_option maxRecDepth 50000 in
theorem kcX8_fits : Cond.code yX8_fits cX8_fits 3 (some .int) ∈ kw := kw_in (List.mem_of_getElem? (i := 525) (by decide +kernel)) (by decide +kernel)
set_option maxRecDepth 50000 in
theorem kcX8_may : Cond.code yX8_may cX8_may 2 (some .int) ∈ kw := kw_in (List.mem_of_getElem? (i := 534) (by decide +kernel)) (by decide +kernel)
set_option maxRecDepth 50000 in
theorem kcX8_next : Cond.code yX8_next cX8_next 2 (some .int) ∈ kw := kw_in (List.mem_of_getElem? (i := 577) (by decide +kernel)) (by decide +kernel)
set_option maxRecDepth 50000 in
theorem kcX8_parts : Cond.code yX8_parts cX8_parts 7 (some .int) ∈ kw := kw_in (List.mem_of_getElem? (i := 581) (by decide +kernel)) (by decide +kernel)
set_option maxRecDepth 50000 in
theorem kcX8_astray : Cond.code yX8_astray cX8_astray 6 (some .int) ∈ kw := kw_in (List.mem_of_getElem? (i := 585) (by decide +kernel)) (by decide +kernel)
set_option maxRecDepth 50000 in
theorem kcX8_right : Cond.code yX8_right cX8_right 7 (some .int) ∈ kw := kw_in (List.mem_of_getElem? (i := 590) (by decide +kernel)) (by decide +kernel)
set_option maxRecDepth 50000 in
theorem kcX8_telling : Cond.code yX8_telling cX8_telling 1 (some .int) ∈ kw := kw_in (List.mem_of_getElem? (i := 594) (by decide +kernel)) (by decide +kernel)
set_option maxRecDepth 50000 in
theorem kcX8_like : Cond.code yX8_like cX8_like 8 (some .int) ∈ kw := kw_in (List.mem_of_getElem? (i := 614) (by decide +kernel)) (by decide +kernel)
set_option maxRecDepth 50000 in
theorem kcX8_behind : Cond.code yX8_behind cX8_behind 3 (some .int) ∈ kw := kw_in (List.mem_of_getElem? (i := 632) (by decide +kernel)) (by decide +kernel)
set_option maxRecDepth 50000 in
theorem kcX8_listen : Cond.code yX8_listen cX8_listen 2 (some .int) ∈ kw := kw_in (List.mem_of_getElem? (i := 644) (by decide +kernel)) (by decide +kernel)
set_option maxRecDepth 50000 in
theorem kcX8_fee : Cond.code yX8_fee cX8_fee 2 (some .int) ∈ kw := kw_in (List.mem_of_getElem? (i := 648) (by decide +kernel)) (by decide +kernel)
set_option maxRecDepth 50000 in
theorem kcX8_fine : Cond.code yX8_fine cX8_fine 4 (some .int) ∈ kw := kw_in (List.mem_of_getElem? (i := 654) (by decide +kernel)) (by decide +kernel)
set_option maxRecDepth 50000 in
theorem kcX8_feed : Cond.code yX8_feed cX8_feed 4 (some .int) ∈ kw := kw_in (List.mem_of_getElem? (i := 658) (by decide +kernel)) (by decide +kernel)
set_option maxRecDepth 50000 in
theorem kcX8_trim : Cond.code yX8_trim cX8_trim 2 (some .int) ∈ kw := kw_in (List.mem_of_getElem? (i := 666) (by decide +kernel)) (by decide +kernel)
set_option maxRecDepth 50000 in
theorem kcX8_text : Cond.code yX8_text cX8_text 2 (some .int) ∈ kw := kw_in (List.mem_of_getElem? (i := 670) (by decide +kernel)) (by decide +kernel)
set_option maxRecDepth 50000 in
theorem kcX8_textTold : Cond.code yX8_textTold cX8_textTold 4 (some .int) ∈ kw := kw_in (List.mem_of_getElem? (i := 895) (by decide +kernel)) (by decide +kernel)
set_option maxRecDepth 50000 in
theorem kcX8_why : Cond.code yX8_why cX8_why 2 (some .int) ∈ kw := kw_in (List.mem_of_getElem? (i := 900) (by decide +kernel)) (by decide +kernel)
set_option maxRecDepth 50000 in
theorem kcX8_sheet : Cond.code yX8_sheet cX8_sheet 4 (some .int) ∈ kw := kw_in (List.mem_of_getElem? (i := 904) (by decide +kernel)) (by decide +kernel)
set_option maxRecDepth 50000 in
theorem kcX8_mark : Cond.code yX8_mark cX8_mark 5 (some .int) ∈ kw := kw_in (List.mem_of_getElem? (i := 915) (by decide +kernel)) (by decide +kernel)
set_option maxRecDepth 50000 in
theorem kcX8_pour : Cond.code yX8_pour cX8_pour 6 (some .int) ∈ kw := kw_in (List.mem_of_getElem? (i := 922) (by decide +kernel)) (by decide +kernel)
set_option maxRecDepth 50000 in
theorem kcX8_reads : Cond.code yX8_reads cX8_reads 6 (some .int) ∈ kw := kw_in (List.mem_of_getElem? (i := 928) (by decide +kernel)) (by decide +kernel)
set_option maxRecDepth 50000 in
theorem kcX8_copy : Cond.code yX8_copy cX8_copy 8 (some .int) ∈ kw := kw_in (List.mem_of_getElem? (i := 932) (by decide +kernel)) (by decide +kernel)
set_option maxRecDepth 50000 in
theorem kcX8_lay : Cond.code yX8_lay cX8_lay 6 (some .int) ∈ kw := kw_in (List.mem_of_getElem? (i := 941) (by decide +kernel)) (by decide +kernel)
set_option maxRecDepth 50000 in
theorem kcX8_ask : Cond.code yX8_ask cX8_ask 4 (some .int) ∈ kw := kw_in (List.mem_of_getElem? (i := 951) (by decide +kernel)) (by decide +kernel)
set_option maxRecDepth 50000 in
theorem kcX8_item : Cond.code yX8_item cX8_item 4 (some .int) ∈ kw := kw_in (List.mem_of_getElem? (i := 955) (by decide +kernel)) (by decide +kernel)
set_option maxRecDepth 50000 in
theorem kcX8_rest : Cond.code yX8_rest cX8_rest 4 (some .int) ∈ kw := kw_in (List.mem_of_getElem? (i := 959) (by decide +kernel)) (by decide +kernel)
set_option maxRecDepth 50000 in
theorem kcX8_tell : Cond.code yX8_tell cX8_tell 2 (some .int) ∈ kw := kw_in (List.mem_of_getElem? (i := 964) (by decide +kernel)) (by decide +kernel)
set_option maxRecDepth 50000 in
theorem kcX8_check : Cond.code yX8_check cX8_check 6 (some .int) ∈ kw := kw_in (List.mem_of_getElem? (i := 968) (by decide +kernel)) (by decide +kernel)
set_option maxRecDepth 50000 in
theorem kcX8_keep : Cond.code yX8_keep cX8_keep 1 (some .int) ∈ kw := kw_in (List.mem_of_getElem? (i := 972) (by decide +kernel)) (by decide +kernel)
set_option maxRecDepth 50000 in
theorem kcX8_back : Cond.code yX8_back cX8_back 1 (some .int) ∈ kw := kw_in (List.mem_of_getElem? (i := 976) (by decide +kernel)) (by decide +kernel)
set_option maxRecDepth 50000 in
theorem kcX8_count : Cond.code yX8_count cX8_count 2 (some .int) ∈ kw := kw_in (List.mem_of_getElem? (i := 980) (by decide +kernel)) (by decide +kernel)
set_option maxRecDepth 50000 in
theorem kcX8_putBytes : Cond.code yX8_putBytes cX8_putBytes 3 none ∈ kw := kw_in (List.mem_of_getElem? (i := 662) (by decide +kernel)) (by decide +kernel)
set_option maxRecDepth 50000 in
theorem kcX8_within : Cond.code yX8_within cX8_within 2 (some .boolean) ∈ kw := kw_in (List.mem_of_getElem? (i := 371) (by decide +kernel)) (by decide +kernel)
set_option maxRecDepth 50000 in
theorem kcX8_held : Cond.code yX8_held cX8_held 3 (some .int) ∈ kw := kw_in (List.mem_of_getElem? (i := 424) (by decide +kernel)) (by decide +kernel)
set_option maxRecDepth 50000 in
theorem kcX8_isUnder : Cond.code yX8_isUnder cX8_isUnder 4 (some .boolean) ∈ kw := kw_in (List.mem_of_getElem? (i := 400) (by decide +kernel)) (by decide +kernel)
set_option maxRecDepth 50000 in
theorem kcX8_fullStrokes : Cond.code yX8_fullStrokes cX8_fullStrokes 2 (some .int) ∈ kw := kw_in (List.mem_of_getElem? (i := 436) (by decide +kernel)) (by decide +kernel)
set_option maxRecDepth 50000 in
theorem kcX8_strokesWithin : Cond.code yX8_strokesWithin cX8_strokesWithin 4 (some .int) ∈ kw := kw_in (List.mem_of_getElem? (i := 433) (by decide +kernel)) (by decide +kernel)
set_option maxRecDepth 50000 in
theorem kcX9_init : Cond.code yX9_init cX9_init 2 none ∈ kw := kw_in (List.mem_of_getElem? (i := 985) (by decide +kernel)) (by decide +kernel)
set_option maxRecDepth 50000 in
theorem kcX9_isIn : Cond.code yX9_isIn cX9_isIn 6 (some .boolean) ∈ kw := kw_in (List.mem_of_getElem? (i := 1091) (by decide +kernel)) (by decide +kernel)
set_option maxRecDepth 50000 in
theorem kcX9_orNone : Cond.code yX9_orNone cX9_orNone 1 (some .int) ∈ kw := kw_in (List.mem_of_getElem? (i := 1414) (by decide +kernel)) (by decide +kernel)
set_option maxRecDepth 50000 in
theorem kcX9_within : Cond.code yX9_within cX9_within 2 (some .int) ∈ kw := kw_in (List.mem_of_getElem? (i := 1434) (by decide +kernel)) (by decide +kernel)
set_option maxRecDepth 50000 in
theorem kcX9_off : Cond.code yX9_off cX9_off 2 (some .int) ∈ kw := kw_in (List.mem_of_getElem? (i := 1296) (by decide +kernel)) (by decide +kernel)
set_option maxRecDepth 50000 in
theorem kcX9_becomes : Cond.code yX9_becomes cX9_becomes 4 (some .int) ∈ kw := kw_in (List.mem_of_getElem? (i := 1166) (by decide +kernel)) (by decide +kernel)
set_option maxRecDepth 50000 in
theorem kcX9_textAt : Cond.code yX9_textAt cX9_textAt 2 (some .int) ∈ kw := kw_in (List.mem_of_getElem? (i := 1139) (by decide +kernel)) (by decide +kernel)
set_option maxRecDepth 50000 in
theorem kcX9_of : Cond.code yX9_of cX9_of 3 (some .int) ∈ kw := kw_in (List.mem_of_getElem? (i := 1115) (by decide +kernel)) (by decide +kernel)
set_option maxRecDepth 50000 in
theorem kcX9_sets : Cond.code yX9_sets cX9_sets 4 none ∈ kw := kw_in (List.mem_of_getElem? (i := 1103) (by decide +kernel)) (by decide +kernel)
set_option maxRecDepth 50000 in
theorem kcX9_isClock : Cond.code yX9_isClock cX9_isClock 2 (some .boolean) ∈ kw := kw_in (List.mem_of_getElem? (i := 1111) (by decide +kernel)) (by decide +kernel)
set_option maxRecDepth 50000 in
theorem kcX9_isText : Cond.code yX9_isText cX9_isText 2 (some .boolean) ∈ kw := kw_in (List.mem_of_getElem? (i := 1407) (by decide +kernel)) (by decide +kernel)
set_option maxRecDepth 50000 in
theorem kcX9_drawn : Cond.code yX9_drawn cX9_drawn 1 (some .int) ∈ kw := kw_in (List.mem_of_getElem? (i := 1201) (by decide +kernel)) (by decide +kernel)
set_option maxRecDepth 50000 in
theorem kcX9_isOf : Cond.code yX9_isOf cX9_isOf 2 (some .boolean) ∈ kw := kw_in (List.mem_of_getElem? (i := 1157) (by decide +kernel)) (by decide +kernel)
set_option maxRecDepth 50000 in
theorem kcX9_comes : Cond.code yX9_comes cX9_comes 5 none ∈ kw := kw_in (List.mem_of_getElem? (i := 1099) (by decide +kernel)) (by decide +kernel)
set_option maxRecDepth 50000 in
theorem kcX9_clock : Cond.code yX9_clock cX9_clock 4 (some .int) ∈ kw := kw_in (List.mem_of_getElem? (i := 1087) (by decide +kernel)) (by decide +kernel)
set_option maxRecDepth 50000 in
theorem kcX9_again : Cond.code yX9_again cX9_again 5 (some .int) ∈ kw := kw_in (List.mem_of_getElem? (i := 1131) (by decide +kernel)) (by decide +kernel)
set_option maxRecDepth 50000 in
theorem kcX9_atHour : Cond.code yX9_atHour cX9_atHour 3 (some .int) ∈ kw := kw_in (List.mem_of_getElem? (i := 1127) (by decide +kernel)) (by decide +kernel)
set_option maxRecDepth 50000 in
theorem kcX9_strikes : Cond.code yX9_strikes cX9_strikes 6 (some .int) ∈ kw := kw_in (List.mem_of_getElem? (i := 1123) (by decide +kernel)) (by decide +kernel)
set_option maxRecDepth 50000 in
theorem kcX9_worth : Cond.code yX9_worth cX9_worth 3 (some .int) ∈ kw := kw_in (List.mem_of_getElem? (i := 1150) (by decide +kernel)) (by decide +kernel)
set_option maxRecDepth 50000 in
theorem kcX9_timeNow : Cond.code yX9_timeNow cX9_timeNow 1 (some .int) ∈ kw := kw_in (List.mem_of_getElem? (i := 1119) (by decide +kernel)) (by decide +kernel)
set_option maxRecDepth 50000 in
theorem kcX9_isTime : Cond.code yX9_isTime cX9_isTime 1 (some .boolean) ∈ kw := kw_in (List.mem_of_getElem? (i := 1178) (by decide +kernel)) (by decide +kernel)
set_option maxRecDepth 50000 in
theorem kcX9_told : Cond.code yX9_told cX9_told 5 (some .int) ∈ kw := kw_in (List.mem_of_getElem? (i := 1107) (by decide +kernel)) (by decide +kernel)
set_option maxRecDepth 50000 in
theorem kcX9_as : Cond.code yX9_as cX9_as 3 (some .int) ∈ kw := kw_in (List.mem_of_getElem? (i := 1154) (by decide +kernel)) (by decide +kernel)
set_option maxRecDepth 50000 in
theorem kcX9_turns : Cond.code yX9_turns cX9_turns 3 (some .int) ∈ kw := kw_in (List.mem_of_getElem? (i := 1162) (by decide +kernel)) (by decide +kernel)
set_option maxRecDepth 50000 in
theorem kcX9_set : Cond.code yX9_set cX9_set 4 (some .int) ∈ kw := kw_in (List.mem_of_getElem? (i := 1170) (by decide +kernel)) (by decide +kernel)
set_option maxRecDepth 50000 in
theorem kcX9_strokes : Cond.code yX9_strokes cX9_strokes 3 (some .int) ∈ kw := kw_in (List.mem_of_getElem? (i := 1175) (by decide +kernel)) (by decide +kernel)
set_option maxRecDepth 50000 in
theorem kcX9_totalAt : Cond.code yX9_totalAt cX9_totalAt 4 (some .int) ∈ kw := kw_in (List.mem_of_getElem? (i := 1187) (by decide +kernel)) (by decide +kernel)
set_option maxRecDepth 50000 in
theorem kcX9_total : Cond.code yX9_total cX9_total 2 (some .int) ∈ kw := kw_in (List.mem_of_getElem? (i := 1183) (by decide +kernel)) (by decide +kernel)
set_option maxRecDepth 50000 in
theorem kcX9_ear : Cond.code yX9_ear cX9_ear 3 (some .int) ∈ kw := kw_in (List.mem_of_getElem? (i := 1191) (by decide +kernel)) (by decide +kernel)
set_option maxRecDepth 50000 in
theorem kcX9_deal : Cond.code yX9_deal cX9_deal 5 (some .int) ∈ kw := kw_in (List.mem_of_getElem? (i := 1196) (by decide +kernel)) (by decide +kernel)
set_option maxRecDepth 50000 in
theorem kcX9_seed : Cond.code yX9_seed cX9_seed 2 (some .int) ∈ kw := kw_in (List.mem_of_getElem? (i := 1206) (by decide +kernel)) (by decide +kernel)
set_option maxRecDepth 50000 in
theorem kcX9_goesOn : Cond.code yX9_goesOn cX9_goesOn 4 none ∈ kw := kw_in (List.mem_of_getElem? (i := 1218) (by decide +kernel)) (by decide +kernel)
set_option maxRecDepth 50000 in
theorem kcX9_goesOnMany : Cond.code yX9_goesOnMany cX9_goesOnMany 3 none ∈ kw := kw_in (List.mem_of_getElem? (i := 1214) (by decide +kernel)) (by decide +kernel)
set_option maxRecDepth 50000 in
theorem kcX9_minutes : Cond.code yX9_minutes cX9_minutes 4 (some .int) ∈ kw := kw_in (List.mem_of_getElem? (i := 1210) (by decide +kernel)) (by decide +kernel)
set_option maxRecDepth 50000 in
theorem kcX9_bed : Cond.code yX9_bed cX9_bed 2 (some .int) ∈ kw := kw_in (List.mem_of_getElem? (i := 1222) (by decide +kernel)) (by decide +kernel)
set_option maxRecDepth 50000 in
theorem kcX9_note : Cond.code yX9_note cX9_note 2 (some .int) ∈ kw := kw_in (List.mem_of_getElem? (i := 1227) (by decide +kernel)) (by decide +kernel)
set_option maxRecDepth 50000 in
theorem kcX9_findAll : Cond.code yX9_findAll cX9_findAll 2 none ∈ kw := kw_in (List.mem_of_getElem? (i := 1237) (by decide +kernel)) (by decide +kernel)
set_option maxRecDepth 50000 in
theorem kcX9_findMore : Cond.code yX9_findMore cX9_findMore 4 none ∈ kw := kw_in (List.mem_of_getElem? (i := 1273) (by decide +kernel)) (by decide +kernel)
set_option maxRecDepth 50000 in
theorem kcX9_doesFit : Cond.code yX9_doesFit cX9_doesFit 6 (some .boolean) ∈ kw := kw_in (List.mem_of_getElem? (i := 1241) (by decide +kernel)) (by decide +kernel)
set_option maxRecDepth 50000 in
theorem kcX9_manyFit : Cond.code yX9_manyFit cX9_manyFit 3 (some .int) ∈ kw := kw_in (List.mem_of_getElem? (i := 1249) (by decide +kernel)) (by decide +kernel)
set_option maxRecDepth 50000 in
theorem kcX9_hoursFit : Cond.code yX9_hoursFit cX9_hoursFit 3 (some .int) ∈ kw := kw_in (List.mem_of_getElem? (i := 1253) (by decide +kernel)) (by decide +kernel)
set_option maxRecDepth 50000 in
theorem kcX9_isSure : Cond.code yX9_isSure cX9_isSure 2 (some .boolean) ∈ kw := kw_in (List.mem_of_getElem? (i := 1257) (by decide +kernel)) (by decide +kernel)
set_option maxRecDepth 50000 in
theorem kcX9_fits : Cond.code yX9_fits cX9_fits 2 (some .int) ∈ kw := kw_in (List.mem_of_getElem? (i := 1233) (by decide +kernel)) (by decide +kernel)
set_option maxRecDepth 50000 in
theorem kcX9_may : Cond.code yX9_may cX9_may 3 (some .int) ∈ kw := kw_in (List.mem_of_getElem? (i := 1245) (by decide +kernel)) (by decide +kernel)
set_option maxRecDepth 50000 in
theorem kcX9_next : Cond.code yX9_next cX9_next 2 (some .int) ∈ kw := kw_in (List.mem_of_getElem? (i := 1261) (by decide +kernel)) (by decide +kernel)
set_option maxRecDepth 50000 in
theorem kcX9_parts : Cond.code yX9_parts cX9_parts 7 (some .int) ∈ kw := kw_in (List.mem_of_getElem? (i := 1265) (by decide +kernel)) (by decide +kernel)
set_option maxRecDepth 50000 in
theorem kcX9_astray : Cond.code yX9_astray cX9_astray 6 (some .int) ∈ kw := kw_in (List.mem_of_getElem? (i := 1269) (by decide +kernel)) (by decide +kernel)
set_option maxRecDepth 50000 in
theorem kcX9_right : Cond.code yX9_right cX9_right 8 (some .int) ∈ kw := kw_in (List.mem_of_getElem? (i := 1277) (by decide +kernel)) (by decide +kernel)
set_option maxRecDepth 50000 in
theorem kcX9_telling : Cond.code yX9_telling cX9_telling 8 (some .int) ∈ kw := kw_in (List.mem_of_getElem? (i := 1281) (by decide +kernel)) (by decide +kernel)
set_option maxRecDepth 50000 in
theorem kcX9_offBy : Cond.code yX9_offBy cX9_offBy 6 (some .int) ∈ kw := kw_in (List.mem_of_getElem? (i := 1293) (by decide +kernel)) (by decide +kernel)
set_option maxRecDepth 50000 in
theorem kcX9_like : Cond.code yX9_like cX9_like 7 (some .int) ∈ kw := kw_in (List.mem_of_getElem? (i := 1285) (by decide +kernel)) (by decide +kernel)
set_option maxRecDepth 50000 in
theorem kcX9_laysBy : Cond.code yX9_laysBy cX9_laysBy 2 none ∈ kw := kw_in (List.mem_of_getElem? (i := 1304) (by decide +kernel)) (by decide +kernel)
set_option maxRecDepth 50000 in
theorem kcX9_laysBack : Cond.code yX9_laysBack cX9_laysBack 2 none ∈ kw := kw_in (List.mem_of_getElem? (i := 1308) (by decide +kernel)) (by decide +kernel)
set_option maxRecDepth 50000 in
theorem kcX9_behind : Cond.code yX9_behind cX9_behind 4 (some .int) ∈ kw := kw_in (List.mem_of_getElem? (i := 1300) (by decide +kernel)) (by decide +kernel)
set_option maxRecDepth 50000 in
theorem kcX9_listen : Cond.code yX9_listen cX9_listen 2 (some .int) ∈ kw := kw_in (List.mem_of_getElem? (i := 1312) (by decide +kernel)) (by decide +kernel)
set_option maxRecDepth 50000 in
theorem kcX9_fee : Cond.code yX9_fee cX9_fee 2 (some .int) ∈ kw := kw_in (List.mem_of_getElem? (i := 1316) (by decide +kernel)) (by decide +kernel)
set_option maxRecDepth 50000 in
theorem kcX9_fine : Cond.code yX9_fine cX9_fine 3 (some .int) ∈ kw := kw_in (List.mem_of_getElem? (i := 1320) (by decide +kernel)) (by decide +kernel)
set_option maxRecDepth 50000 in
theorem kcX9_feed : Cond.code yX9_feed cX9_feed 6 (some .int) ∈ kw := kw_in (List.mem_of_getElem? (i := 1324) (by decide +kernel)) (by decide +kernel)
set_option maxRecDepth 50000 in
theorem kcX9_trim : Cond.code yX9_trim cX9_trim 2 (some .int) ∈ kw := kw_in (List.mem_of_getElem? (i := 1328) (by decide +kernel)) (by decide +kernel)
set_option maxRecDepth 50000 in
theorem kcX9_isLetter : Cond.code yX9_isLetter cX9_isLetter 2 (some .boolean) ∈ kw := kw_in (List.mem_of_getElem? (i := 1344) (by decide +kernel)) (by decide +kernel)
set_option maxRecDepth 50000 in
theorem kcX9_isDigit : Cond.code yX9_isDigit cX9_isDigit 2 (some .boolean) ∈ kw := kw_in (List.mem_of_getElem? (i := 1350) (by decide +kernel)) (by decide +kernel)
set_option maxRecDepth 50000 in
theorem kcX9_nextToken : Cond.code yX9_nextToken cX9_nextToken 3 none ∈ kw := kw_in (List.mem_of_getElem? (i := 1340) (by decide +kernel)) (by decide +kernel)
set_option maxRecDepth 50000 in
theorem kcX9_isSign : Cond.code yX9_isSign cX9_isSign 2 (some .boolean) ∈ kw := kw_in (List.mem_of_getElem? (i := 1399) (by decide +kernel)) (by decide +kernel)
set_option maxRecDepth 50000 in
theorem kcX9_isWordAt : Cond.code yX9_isWordAt cX9_isWordAt 6 (some .boolean) ∈ kw := kw_in (List.mem_of_getElem? (i := 1364) (by decide +kernel)) (by decide +kernel)
set_option maxRecDepth 50000 in
theorem kcX9_isLong : Cond.code yX9_isLong cX9_isLong 8 (some .boolean) ∈ kw := kw_in (List.mem_of_getElem? (i := 1360) (by decide +kernel)) (by decide +kernel)
set_option maxRecDepth 50000 in
theorem kcX9_key : Cond.code yX9_key cX9_key 1 (some .int) ∈ kw := kw_in (List.mem_of_getElem? (i := 1356) (by decide +kernel)) (by decide +kernel)
set_option maxRecDepth 50000 in
theorem kcX9_isName : Cond.code yX9_isName cX9_isName 2 (some .boolean) ∈ kw := kw_in (List.mem_of_getElem? (i := 1395) (by decide +kernel)) (by decide +kernel)
set_option maxRecDepth 50000 in
theorem kcX9_step : Cond.code yX9_step cX9_step 3 none ∈ kw := kw_in (List.mem_of_getElem? (i := 1392) (by decide +kernel)) (by decide +kernel)
set_option maxRecDepth 50000 in
theorem kcX9_either : Cond.code yX9_either cX9_either 2 (some .boolean) ∈ kw := kw_in (List.mem_of_getElem? (i := 1368) (by decide +kernel)) (by decide +kernel)
set_option maxRecDepth 50000 in
theorem kcX9_both : Cond.code yX9_both cX9_both 2 (some .boolean) ∈ kw := kw_in (List.mem_of_getElem? (i := 1372) (by decide +kernel)) (by decide +kernel)
set_option maxRecDepth 50000 in
theorem kcX9_test : Cond.code yX9_test cX9_test 3 (some .boolean) ∈ kw := kw_in (List.mem_of_getElem? (i := 1376) (by decide +kernel)) (by decide +kernel)
set_option maxRecDepth 50000 in
theorem kcX9_sum : Cond.code yX9_sum cX9_sum 3 (some .boolean) ∈ kw := kw_in (List.mem_of_getElem? (i := 1380) (by decide +kernel)) (by decide +kernel)
set_option maxRecDepth 50000 in
theorem kcX9_term : Cond.code yX9_term cX9_term 3 (some .boolean) ∈ kw := kw_in (List.mem_of_getElem? (i := 1384) (by decide +kernel)) (by decide +kernel)
set_option maxRecDepth 50000 in
theorem kcX9_part0 : Cond.code yX9_part0 cX9_part0 2 (some .boolean) ∈ kw := kw_in (List.mem_of_getElem? (i := 1388) (by decide +kernel)) (by decide +kernel)
set_option maxRecDepth 50000 in
theorem kcX9_parse : Cond.code yX9_parse cX9_parse 3 (some .int) ∈ kw := kw_in (List.mem_of_getElem? (i := 1336) (by decide +kernel)) (by decide +kernel)
set_option maxRecDepth 50000 in
theorem kcX9_text : Cond.code yX9_text cX9_text 3 (some .int) ∈ kw := kw_in (List.mem_of_getElem? (i := 1332) (by decide +kernel)) (by decide +kernel)
set_option maxRecDepth 50000 in
theorem kcX9_textTold : Cond.code yX9_textTold cX9_textTold 3 (some .int) ∈ kw := kw_in (List.mem_of_getElem? (i := 1403) (by decide +kernel)) (by decide +kernel)
set_option maxRecDepth 50000 in
theorem kcX9_counts : Cond.code yX9_counts cX9_counts 4 (some .int) ∈ kw := kw_in (List.mem_of_getElem? (i := 1135) (by decide +kernel)) (by decide +kernel)
set_option maxRecDepth 50000 in
theorem kcX9_why : Cond.code yX9_why cX9_why 2 (some .int) ∈ kw := kw_in (List.mem_of_getElem? (i := 1411) (by decide +kernel)) (by decide +kernel)
set_option maxRecDepth 50000 in
theorem kcX9_joined : Cond.code yX9_joined cX9_joined 3 (some .int) ∈ kw := kw_in (List.mem_of_getElem? (i := 1146) (by decide +kernel)) (by decide +kernel)
set_option maxRecDepth 50000 in
theorem kcX9_worked : Cond.code yX9_worked cX9_worked 6 (some .int) ∈ kw := kw_in (List.mem_of_getElem? (i := 1143) (by decide +kernel)) (by decide +kernel)
set_option maxRecDepth 50000 in
theorem kcX9_isSheet : Cond.code yX9_isSheet cX9_isSheet 1 (some .boolean) ∈ kw := kw_in (List.mem_of_getElem? (i := 1288) (by decide +kernel)) (by decide +kernel)
set_option maxRecDepth 50000 in
theorem kcX9_sheet : Cond.code yX9_sheet cX9_sheet 5 (some .int) ∈ kw := kw_in (List.mem_of_getElem? (i := 1418) (by decide +kernel)) (by decide +kernel)
set_option maxRecDepth 50000 in
theorem kcX9_mark : Cond.code yX9_mark cX9_mark 4 (some .int) ∈ kw := kw_in (List.mem_of_getElem? (i := 1424) (by decide +kernel)) (by decide +kernel)
set_option maxRecDepth 50000 in
theorem kcX9_pour : Cond.code yX9_pour cX9_pour 6 (some .int) ∈ kw := kw_in (List.mem_of_getElem? (i := 1431) (by decide +kernel)) (by decide +kernel)
set_option maxRecDepth 50000 in
theorem kcX9_reads : Cond.code yX9_reads cX9_reads 4 (some .int) ∈ kw := kw_in (List.mem_of_getElem? (i := 1438) (by decide +kernel)) (by decide +kernel)
set_option maxRecDepth 50000 in
theorem kcX9_copy : Cond.code yX9_copy cX9_copy 7 (some .int) ∈ kw := kw_in (List.mem_of_getElem? (i := 1442) (by decide +kernel)) (by decide +kernel)
set_option maxRecDepth 50000 in
theorem kcX9_isSlot : Cond.code yX9_isSlot cX9_isSlot 1 (some .boolean) ∈ kw := kw_in (List.mem_of_getElem? (i := 1449) (by decide +kernel)) (by decide +kernel)
set_option maxRecDepth 50000 in
theorem kcX9_lay : Cond.code yX9_lay cX9_lay 7 (some .int) ∈ kw := kw_in (List.mem_of_getElem? (i := 1446) (by decide +kernel)) (by decide +kernel)
set_option maxRecDepth 50000 in
theorem kcX9_ask : Cond.code yX9_ask cX9_ask 3 (some .int) ∈ kw := kw_in (List.mem_of_getElem? (i := 1454) (by decide +kernel)) (by decide +kernel)
set_option maxRecDepth 50000 in
theorem kcX9_item : Cond.code yX9_item cX9_item 4 (some .int) ∈ kw := kw_in (List.mem_of_getElem? (i := 1458) (by decide +kernel)) (by decide +kernel)
set_option maxRecDepth 50000 in
theorem kcX9_rest : Cond.code yX9_rest cX9_rest 3 (some .int) ∈ kw := kw_in (List.mem_of_getElem? (i := 1462) (by decide +kernel)) (by decide +kernel)
set_option maxRecDepth 50000 in
theorem kcX9_tell : Cond.code yX9_tell cX9_tell 2 (some .int) ∈ kw := kw_in (List.mem_of_getElem? (i := 1467) (by decide +kernel)) (by decide +kernel)
set_option maxRecDepth 50000 in
theorem kcX9_setAside : Cond.code yX9_setAside cX9_setAside 4 none ∈ kw := kw_in (List.mem_of_getElem? (i := 1476) (by decide +kernel)) (by decide +kernel)
set_option maxRecDepth 50000 in
theorem kcX9_check : Cond.code yX9_check cX9_check 5 (some .int) ∈ kw := kw_in (List.mem_of_getElem? (i := 1471) (by decide +kernel)) (by decide +kernel)
set_option maxRecDepth 50000 in
theorem kcX9_keep : Cond.code yX9_keep cX9_keep 1 (some .int) ∈ kw := kw_in (List.mem_of_getElem? (i := 1480) (by decide +kernel)) (by decide +kernel)
set_option maxRecDepth 50000 in
theorem kcX9_back : Cond.code yX9_back cX9_back 1 (some .int) ∈ kw := kw_in (List.mem_of_getElem? (i := 1484) (by decide +kernel)) (by decide +kernel)
set_option maxRecDepth 50000 in
theorem kcX9_count : Cond.code yX9_count cX9_count 2 (some .int) ∈ kw := kw_in (List.mem_of_getElem? (i := 1488) (by decide +kernel)) (by decide +kernel)
set_option maxRecDepth 50000 in
theorem kcJ11_isValidCodePoint_9a6ad : Cond.code yJ11_isValidCodePoint_9a6ad cJ11_isValidCodePoint_9a6ad 2 (some .boolean) ∈ kw := kw_in (List.mem_of_getElem? (i := 830) (by decide +kernel)) (by decide +kernel)
set_option maxRecDepth 50000 in
theorem kcJ11_highSurrogate_5068e : Cond.code yJ11_highSurrogate_5068e cJ11_highSurrogate_5068e 1 (some .char) ∈ kw := kw_in (List.mem_of_getElem? (i := 833) (by decide +kernel)) (by decide +kernel)
set_option maxRecDepth 50000 in
theorem kcJ11_lowSurrogate_5068e : Cond.code yJ11_lowSurrogate_5068e cJ11_lowSurrogate_5068e 1 (some .char) ∈ kw := kw_in (List.mem_of_getElem? (i := 837) (by decide +kernel)) (by decide +kernel)
set_option maxRecDepth 50000 in
theorem kcJ6_bitCount_0f7a4 : Cond.code yJ6_bitCount_0f7a4 cJ6_bitCount_0f7a4 1 (some .int) ∈ kw := kw_in (List.mem_of_getElem? (i := 570) (by decide +kernel)) (by decide +kernel)
set_option maxRecDepth 50000 in
theorem kcJ9_floorMod_7cf53 : Cond.code yJ9_floorMod_7cf53 cJ9_floorMod_7cf53 3 (some .int) ∈ kw := kw_in (List.mem_of_getElem? (i := 397) (by decide +kernel)) (by decide +kernel)
set_option maxRecDepth 50000 in
theorem kcJ9_abs_0f7a4 : Cond.code yJ9_abs_0f7a4 cJ9_abs_0f7a4 1 (some .int) ∈ kw := kw_in (List.mem_of_getElem? (i := 628) (by decide +kernel)) (by decide +kernel)
set_option maxRecDepth 50000 in
theorem kcJ9_max_7cf53 : Cond.code yJ9_max_7cf53 cJ9_max_7cf53 2 (some .int) ∈ kw := kw_in (List.mem_of_getElem? (i := 430) (by decide +kernel)) (by decide +kernel)
set_option maxRecDepth 50000 in
theorem kcJ9_min_7cf53 : Cond.code yJ9_min_7cf53 cJ9_min_7cf53 2 (some .int) ∈ kw := kw_in (List.mem_of_getElem? (i := 427) (by decide +kernel)) (by decide +kernel)
set_option maxRecDepth 50000 in
theorem kcJ0_length_8abf5 : Cond.code yJ0_length_8abf5 cJ0_length_8abf5 1 (some .int) ∈ kw := kw_in (List.mem_of_getElem? (i := 698) (by decide +kernel)) (by decide +kernel)
set_option maxRecDepth 50000 in
theorem kcJ0_charAt_5068e : Cond.code yJ0_charAt_5068e cJ0_charAt_5068e 2 (some .char) ∈ kw := kw_in (List.mem_of_getElem? (i := 708) (by decide +kernel)) (by decide +kernel)
set_option maxRecDepth 50000 in
theorem kcJ0_indexOf_0f7a4 : Cond.code yJ0_indexOf_0f7a4 cJ0_indexOf_0f7a4 2 (some .int) ∈ kw := kw_in (List.mem_of_getElem? (i := 787) (by decide +kernel)) (by decide +kernel)
set_option maxRecDepth 50000 in
theorem kcJ0_indexOf_7cf53 : Cond.code yJ0_indexOf_7cf53 cJ0_indexOf_7cf53 3 (some .int) ∈ kw := kw_in (List.mem_of_getElem? (i := 791) (by decide +kernel)) (by decide +kernel)
set_option maxRecDepth 50000 in
theorem kcJ0_coder_7d493 : Cond.code yJ0_coder_7d493 cJ0_coder_7d493 1 (some .byte) ∈ kw := kw_in (List.mem_of_getElem? (i := 702) (by decide +kernel)) (by decide +kernel)
set_option maxRecDepth 50000 in
theorem kcJ0_isLatin1_aae02 : Cond.code yJ0_isLatin1_aae02 cJ0_isLatin1_aae02 1 (some .boolean) ∈ kw := kw_in (List.mem_of_getElem? (i := 712) (by decide +kernel)) (by decide +kernel)
set_option maxRecDepth 50000 in
theorem kcJ0_checkIndex_df160 : Cond.code yJ0_checkIndex_df160 cJ0_checkIndex_df160 2 none ∈ kw := kw_in (List.mem_of_getElem? (i := 718) (by decide +kernel)) (by decide +kernel)
set_option maxRecDepth 50000 in
theorem kcJ0_checkBoundsBeginEnd_23922 : Cond.code yJ0_checkBoundsBeginEnd_23922 cJ0_checkBoundsBeginEnd_23922 3 none ∈ kw := kw_in (List.mem_of_getElem? (i := 818) (by decide +kernel)) (by decide +kernel)
set_option maxRecDepth 50000 in
theorem kcJ1_charAt_3b067 : Cond.code yJ1_charAt_3b067 cJ1_charAt_3b067 2 (some .char) ∈ kw := kw_in (List.mem_of_getElem? (i := 715) (by decide +kernel)) (by decide +kernel)
set_option maxRecDepth 50000 in
theorem kcJ1_canEncode_9a6ad : Cond.code yJ1_canEncode_9a6ad cJ1_canEncode_9a6ad 1 (some .boolean) ∈ kw := kw_in (List.mem_of_getElem? (i := 798) (by decide +kernel)) (by decide +kernel)
set_option maxRecDepth 50000 in
theorem kcJ1_indexOf_4cfef : Cond.code yJ1_indexOf_4cfef cJ1_indexOf_4cfef 4 (some .int) ∈ kw := kw_in (List.mem_of_getElem? (i := 795) (by decide +kernel)) (by decide +kernel)
set_option maxRecDepth 50000 in
theorem kcJ1_indexOfChar_4cfef : Cond.code yJ1_indexOfChar_4cfef cJ1_indexOfChar_4cfef 6 (some .int) ∈ kw := kw_in (List.mem_of_getElem? (i := 803) (by decide +kernel)) (by decide +kernel)
set_option maxRecDepth 50000 in
theorem kcJ2_getChar_3b067 : Cond.code yJ2_getChar_3b067 cJ2_getChar_3b067 2 (some .char) ∈ kw := kw_in (List.mem_of_getElem? (i := 736) (by decide +kernel)) (by decide +kernel)
set_option maxRecDepth 50000 in
theorem kcJ2_length_9d52b : Cond.code yJ2_length_9d52b cJ2_length_9d52b 1 (some .int) ∈ kw := kw_in (List.mem_of_getElem? (i := 732) (by decide +kernel)) (by decide +kernel)
set_option maxRecDepth 50000 in
theorem kcJ2_indexOf_4cfef : Cond.code yJ2_indexOf_4cfef cJ2_indexOf_4cfef 4 (some .int) ∈ kw := kw_in (List.mem_of_getElem? (i := 806) (by decide +kernel)) (by decide +kernel)
set_option maxRecDepth 50000 in
theorem kcJ2_indexOfChar_4cfef : Cond.code yJ2_indexOfChar_4cfef cJ2_indexOfChar_4cfef 4 (some .int) ∈ kw := kw_in (List.mem_of_getElem? (i := 812) (by decide +kernel)) (by decide +kernel)
set_option maxRecDepth 50000 in
theorem kcJ2_indexOfCharUnsafe_4cfef : Cond.code yJ2_indexOfCharUnsafe_4cfef cJ2_indexOfCharUnsafe_4cfef 5 (some .int) ∈ kw := kw_in (List.mem_of_getElem? (i := 824) (by decide +kernel)) (by decide +kernel)
set_option maxRecDepth 50000 in
theorem kcJ2_indexOfSupplementary_4cfef : Cond.code yJ2_indexOfSupplementary_4cfef cJ2_indexOfSupplementary_4cfef 7 (some .int) ∈ kw := kw_in (List.mem_of_getElem? (i := 827) (by decide +kernel)) (by decide +kernel)
set_option maxRecDepth 50000 in
theorem kcJ2_charAt_3b067 : Cond.code yJ2_charAt_3b067 cJ2_charAt_3b067 2 (some .char) ∈ kw := kw_in (List.mem_of_getElem? (i := 726) (by decide +kernel)) (by decide +kernel)
set_option maxRecDepth 50000 in
theorem kcJ2_checkIndex_2214a : Cond.code yJ2_checkIndex_2214a cJ2_checkIndex_2214a 2 none ∈ kw := kw_in (List.mem_of_getElem? (i := 729) (by decide +kernel)) (by decide +kernel)
set_option maxRecDepth 50000 in
theorem kcJ2_checkBoundsBeginEnd_d044e : Cond.code yJ2_checkBoundsBeginEnd_d044e cJ2_checkBoundsBeginEnd_d044e 3 none ∈ kw := kw_in (List.mem_of_getElem? (i := 815) (by decide +kernel)) (by decide +kernel)
set_option maxRecDepth 50000 in
theorem kcJ7_fill_53178 : Cond.code yJ7_fill_53178 cJ7_fill_53178 4 none ∈ kw := kw_in (List.mem_of_getElem? (i := 541) (by decide +kernel)) (by decide +kernel)
set_option maxRecDepth 50000 in
theorem kcJ7_copyOf_59c91 : Cond.code yJ7_copyOf_59c91 cJ7_copyOf_59c91 3 (some (.array .int)) ∈ kw := kw_in (List.mem_of_getElem? (i := 858) (by decide +kernel)) (by decide +kernel)
set_option maxRecDepth 50000 in
theorem kcJ3_checkIndex_8e157 : Cond.code yJ3_checkIndex_8e157 cJ3_checkIndex_8e157 3 (some .int) ∈ kw := kw_in (List.mem_of_getElem? (i := 723) (by decide +kernel)) (by decide +kernel)
set_option maxRecDepth 50000 in
theorem kcJ3_checkFromToIndex_8c36e : Cond.code yJ3_checkFromToIndex_8c36e cJ3_checkFromToIndex_8c36e 4 (some .int) ∈ kw := kw_in (List.mem_of_getElem? (i := 821) (by decide +kernel)) (by decide +kernel)
theorem ac_nat : Cond.native arraycopyName ∈ kw := kw_in (List.mem_of_getElem? (i := 506) (by decide +kernel)) (by decide +kernel)
theorem ac_stt : Cond.static arraycopyName ∈ kw := kw_in (List.mem_of_getElem? (i := 505) (by decide +kernel)) (by decide +kernel)
theorem ac_ini : Cond.initialized "java/lang/System" ∈ kw := kw_in (List.mem_of_getElem? (i := 74) (by decide +kernel)) (by decide +kernel)
theorem oi_in : Cond.instanceMethod objectInit ∈ kw := kw_in (List.mem_of_getElem? (i := 88) (by decide +kernel)) (by decide +kernel)
theorem oi_co : Cond.code objectInit ⟨#[0xb1]⟩ 1 none ∈ kw := kw_in (List.mem_of_getElem? (i := 89) (by decide +kernel)) (by decide +kernel)
theorem arI : Cond.arrayClass .int ∈ kw := kw_in (List.mem_of_getElem? (i := 124) (by decide +kernel)) (by decide +kernel)
theorem arB : Cond.arrayClass .byte ∈ kw := kw_in (List.mem_of_getElem? (i := 274) (by decide +kernel)) (by decide +kernel)

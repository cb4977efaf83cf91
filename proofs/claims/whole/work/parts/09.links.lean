theorem jnX0 : ∀ w ∈ u_ws RX0 TX0 2, w ∈ qg := fun w h => qg_mem (inX0 w h) (List.all_eq_true.mp (by decide +kernel : (u_ws RX0 TX0 2).all goodWord = true) w h)
theorem jnX1 : ∀ w ∈ u_ws RX1 TX1 3, w ∈ qg := fun w h => qg_mem (inX1 w h) (List.all_eq_true.mp (by decide +kernel : (u_ws RX1 TX1 3).all goodWord = true) w h)
theorem jnX2 : ∀ w ∈ u_ws RX2 TX2 4, w ∈ qg := fun w h => qg_mem (inX2 w h) (List.all_eq_true.mp (by decide +kernel : (u_ws RX2 TX2 4).all goodWord = true) w h)
theorem jnX3 : ∀ w ∈ u_ws RX3 TX3 4, w ∈ qg := fun w h => qg_mem (inX3 w h) (List.all_eq_true.mp (by decide +kernel : (u_ws RX3 TX3 4).all goodWord = true) w h)
theorem jnX4 : ∀ w ∈ u_ws RX4 TX4 2, w ∈ qg := fun w h => qg_mem (inX4 w h) (List.all_eq_true.mp (by decide +kernel : (u_ws RX4 TX4 2).all goodWord = true) w h)
theorem jnX5 : ∀ w ∈ u_ws RX5 TX5 4, w ∈ qg := fun w h => qg_mem (inX5 w h) (List.all_eq_true.mp (by decide +kernel : (u_ws RX5 TX5 4).all goodWord = true) w h)
theorem jnX6 : ∀ w ∈ u_ws RX6 TX6 3, w ∈ qg := fun w h => qg_mem (inX6 w h) (List.all_eq_true.mp (by decide +kernel : (u_ws RX6 TX6 3).all goodWord = true) w h)
theorem jnX7 : ∀ w ∈ u_ws RX7 TX7 8, w ∈ qg := fun w h => qg_mem (inX7 w h) (List.all_eq_true.mp (by decide +kernel : (u_ws RX7 TX7 8).all goodWord = true) w h)
theorem jnX8 : ∀ w ∈ u_ws RX8 TX8 4, w ∈ qg := fun w h => qg_mem (inX8 w h) (List.all_eq_true.mp (by decide +kernel : (u_ws RX8 TX8 4).all goodWord = true) w h)
theorem jnX9 : ∀ w ∈ u_ws RX9 TX9 8, w ∈ qg := fun w h => qg_mem (inX9 w h) (List.all_eq_true.mp (by decide +kernel : (u_ws RX9 TX9 8).all goodWord = true) w h)
theorem jnX10 : ∀ w ∈ u_ws RX10 TX10 11, w ∈ qg := fun w h => qg_mem (inX10 w h) (List.all_eq_true.mp (by decide +kernel : (u_ws RX10 TX10 11).all goodWord = true) w h)
theorem jnX11 : ∀ w ∈ u_ws RX11 TX11 39, w ∈ qg := fun w h => qg_mem (inX11 w h) (List.all_eq_true.mp (by decide +kernel : (u_ws RX11 TX11 39).all goodWord = true) w h)
abbrev mX0_init : qM := (yX0_init, cX0_init, 1, none)
abbrev mX0_empty : qM := (yX0_empty, cX0_empty, 1, none)
abbrev mX0_add : qM := (yX0_add, cX0_add, 2, none)
abbrev mX0_addAll : qM := (yX0_addAll, cX0_addAll, 2, none)
abbrev mX0_has : qM := (yX0_has, cX0_has, 2, (some .boolean))
abbrev mX0_meets : qM := (yX0_meets, cX0_meets, 2, (some .boolean))
abbrev mJ13_bitCount_95d88 : qM := (yJ13_bitCount_95d88, cJ13_bitCount_95d88, 2, (some .int))
abbrev mX0_size : qM := (yX0_size, cX0_size, 1, (some .int))
abbrev mX1_init : qM := (yX1_init, cX1_init, 1, none)
abbrev mX1_forget : qM := (yX1_forget, cX1_forget, 1, none)
abbrev mX6_begin : qM := (yX6_begin, cX6_begin, 2, none)
abbrev mX6_triesBelow : qM := (yX6_triesBelow, cX6_triesBelow, 1, (some .int))
abbrev mX6_triesOfTest : qM := (yX6_triesOfTest, cX6_triesOfTest, 8, (some .int))
abbrev mX6_holdingTries : qM := (yX6_holdingTries, cX6_holdingTries, 6, (some .int))
abbrev mJ6_numberOfTrailingZeros_0f7a4 : qM := (yJ6_numberOfTrailingZeros_0f7a4, cJ6_numberOfTrailingZeros_0f7a4, 2, (some .int))
abbrev mX1_weigh : qM := (yX1_weigh, cX1_weigh, 8, none)
abbrev mX1_judge : qM := (yX1_judge, cX1_judge, 4, none)
abbrev mX1_fewestHands : qM := (yX1_fewestHands, cX1_fewestHands, 2, (some .int))
abbrev mX1_fewestMakers : qM := (yX1_fewestMakers, cX1_fewestMakers, 2, (some .int))
abbrev mJ7_fill_53178 : qM := (yJ7_fill_53178, cJ7_fill_53178, 4, none)
abbrev mX2_init : qM := (yX2_init, cX2_init, 1, none)
abbrev mX2_isKey : qM := (yX2_isKey, cX2_isKey, 1, (some .boolean))
abbrev mX2_isLive : qM := (yX2_isLive, cX2_isLive, 2, (some .boolean))
abbrev mX2_canSeal : qM := (yX2_canSeal, cX2_canSeal, 2, (some .boolean))
abbrev mX2_useOnce : qM := (yX2_useOnce, cX2_useOnce, 2, none)
abbrev mX2_addUses : qM := (yX2_addUses, cX2_addUses, 3, (some .int))
abbrev mX2_endOne : qM := (yX2_endOne, cX2_endOne, 2, (some .boolean))
abbrev mX2_loseOne : qM := (yX2_loseOne, cX2_loseOne, 3, (some .boolean))
abbrev mX2_lostSince : qM := (yX2_lostSince, cX2_lostSince, 2, (some .int))
abbrev mX10_bit : qM := (yX10_bit, cX10_bit, 1, (some .int))
abbrev mX2_tell : qM := (yX2_tell, cX2_tell, 3, (some .int))
abbrev mX3_init : qM := (yX3_init, cX3_init, 1, none)
abbrev mX8_size : qM := (yX8_size, cX8_size, 1, (some .int))
abbrev mX8_isCell : qM := (yX8_isCell, cX8_isCell, 3, (some .boolean))
abbrev mX8_cell : qM := (yX8_cell, cX8_cell, 3, (some .int))
abbrev mX7_has : qM := (yX7_has, cX7_has, 2, (some .boolean))
abbrev mX7_isCleanInput : qM := (yX7_isCleanInput, cX7_isCleanInput, 2, (some .boolean))
abbrev mX7_isGround : qM := (yX7_isGround, cX7_isGround, 4, (some .boolean))
abbrev mX3_findGrounds : qM := (yX3_findGrounds, cX3_findGrounds, 5, none)
abbrev mX3_want : qM := (yX3_want, cX3_want, 2, none)
abbrev mX3_gather : qM := (yX3_gather, cX3_gather, 5, none)
abbrev mX3_isPart : qM := (yX3_isPart, cX3_isPart, 4, (some .boolean))
abbrev mX3_noteAt : qM := (yX3_noteAt, cX3_noteAt, 7, (some .int))
abbrev mX4_init : qM := (yX4_init, cX4_init, 1, none)
abbrev mX4_size : qM := (yX4_size, cX4_size, 1, (some .int))
abbrev mX4_first : qM := (yX4_first, cX4_first, 1, (some .int))
abbrev mX4_placeOf : qM := (yX4_placeOf, cX4_placeOf, 3, (some .int))
abbrev mX4_add : qM := (yX4_add, cX4_add, 2, (some .int))
abbrev mX4_removeFirst : qM := (yX4_removeFirst, cX4_removeFirst, 2, (some .int))
abbrev mX5_init : qM := (yX5_init, cX5_init, 1, none)
abbrev mX5_marked : qM := (yX5_marked, cX5_marked, 1, (some (.object "SealLine$FileSet")))
abbrev mX5_addFile : qM := (yX5_addFile, cX5_addFile, 2, (some .boolean))
abbrev mX10_isTool : qM := (yX10_isTool, cX10_isTool, 1, (some .boolean))
abbrev mX10_isHand : qM := (yX10_isHand, cX10_isHand, 1, (some .boolean))
abbrev mX5_sinceOf : qM := (yX5_sinceOf, cX5_sinceOf, 2, (some .int))
abbrev mX5_look : qM := (yX5_look, cX5_look, 4, none)
abbrev mX5_addSince : qM := (yX5_addSince, cX5_addSince, 8, (some .boolean))
abbrev mX6_init : qM := (yX6_init, cX6_init, 2, none)
abbrev mX6_test : qM := (yX6_test, cX6_test, 3, (some .int))
abbrev mX7_init : qM := (yX7_init, cX7_init, 2, none)
abbrev mX7_size : qM := (yX7_size, cX7_size, 1, (some .int))
abbrev mX7_hashOf : qM := (yX7_hashOf, cX7_hashOf, 2, (some .long))
abbrev mX7_numberOf : qM := (yX7_numberOf, cX7_numberOf, 4, (some .int))
abbrev mX7_numberOrNew : qM := (yX7_numberOrNew, cX7_numberOrNew, 5, (some .int))
abbrev mX7_setHand : qM := (yX7_setHand, cX7_setHand, 5, none)
abbrev mX7_addMaker : qM := (yX7_addMaker, cX7_addMaker, 3, none)
abbrev mX7_addBuilder : qM := (yX7_addBuilder, cX7_addBuilder, 3, none)
abbrev mX7_setTry : qM := (yX7_setTry, cX7_setTry, 4, none)
abbrev mX7_setReview : qM := (yX7_setReview, cX7_setReview, 4, none)
abbrev mX7_addInput : qM := (yX7_addInput, cX7_addInput, 4, none)
abbrev mX7_rowHas : qM := (yX7_rowHas, cX7_rowHas, 3, (some .boolean))
abbrev mX7_rowMeets : qM := (yX7_rowMeets, cX7_rowMeets, 3, (some .boolean))
abbrev mX7_rowSize : qM := (yX7_rowSize, cX7_rowSize, 2, (some .int))
abbrev mX7_makersOf : qM := (yX7_makersOf, cX7_makersOf, 4, (some .int))
abbrev mJ6_bitCount_0f7a4 : qM := (yJ6_bitCount_0f7a4, cJ6_bitCount_0f7a4, 1, (some .int))
abbrev mX7_goodTries : qM := (yX7_goodTries, cX7_goodTries, 2, (some .int))
abbrev mX7_goodReviews : qM := (yX7_goodReviews, cX7_goodReviews, 2, (some .int))
abbrev mX7_goodBuilders : qM := (yX7_goodBuilders, cX7_goodBuilders, 2, (some .int))
abbrev mX7_isClean : qM := (yX7_isClean, cX7_isClean, 2, (some .boolean))
abbrev mX7_addClean : qM := (yX7_addClean, cX7_addClean, 4, (some .boolean))
abbrev mX7_cleanBy : qM := (yX7_cleanBy, cX7_cleanBy, 6, none)
abbrev mX8_init : qM := (yX8_init, cX8_init, 3, none)
abbrev mX8_isFull : qM := (yX8_isFull, cX8_isFull, 1, (some .boolean))
abbrev mX8_addRow : qM := (yX8_addRow, cX8_addRow, 1, (some .int))
abbrev mX8_set : qM := (yX8_set, cX8_set, 4, none)
abbrev mX9_init : qM := (yX9_init, cX9_init, 1, none)
abbrev mX9_size : qM := (yX9_size, cX9_size, 1, (some .int))
abbrev mX9_add : qM := (yX9_add, cX9_add, 5, (some .int))
abbrev mX9_cut : qM := (yX9_cut, cX9_cut, 2, (some .boolean))
abbrev mX9_isDigit : qM := (yX9_isDigit, cX9_isDigit, 1, (some .boolean))
abbrev mX9_lengthenNumber : qM := (yX9_lengthenNumber, cX9_lengthenNumber, 3, none)
abbrev mX9_addStep : qM := (yX9_addStep, cX9_addStep, 2, none)
abbrev mX9_takeUnit : qM := (yX9_takeUnit, cX9_takeUnit, 2, (some .boolean))
abbrev mX9_takeSign : qM := (yX9_takeSign, cX9_takeSign, 2, (some .boolean))
abbrev mX9_takeDigit : qM := (yX9_takeDigit, cX9_takeDigit, 2, (some .boolean))
abbrev mX9_takeJoin : qM := (yX9_takeJoin, cX9_takeJoin, 2, (some .boolean))
abbrev mX9_take : qM := (yX9_take, cX9_take, 2, (some .boolean))
abbrev mX9_firstFault : qM := (yX9_firstFault, cX9_firstFault, 2, (some .int))
abbrev mJ7_copyOf_59c91 : qM := (yJ7_copyOf_59c91, cJ7_copyOf_59c91, 3, (some (.array .int)))
abbrev mX9_readSteps : qM := (yX9_readSteps, cX9_readSteps, 1, (some (.array .int)))
abbrev mX10_init : qM := (yX10_init, cX10_init, 1, none)
abbrev mX10_addNote : qM := (yX10_addNote, cX10_addNote, 5, (some .int))
abbrev mX10_settle : qM := (yX10_settle, cX10_settle, 2, none)
abbrev mX10_source : qM := (yX10_source, cX10_source, 6, (some .int))
abbrev mX10_areInputs : qM := (yX10_areInputs, cX10_areInputs, 4, (some .boolean))
abbrev mX10_isInRowOfOne : qM := (yX10_isInRowOfOne, cX10_isInRowOfOne, 5, (some .boolean))
abbrev mX10_stirred : qM := (yX10_stirred, cX10_stirred, 4, (some .long))
abbrev mX10_mixed : qM := (yX10_mixed, cX10_mixed, 7, (some .long))
abbrev mX10_build : qM := (yX10_build, cX10_build, 12, (some .int))
abbrev mX10_mix : qM := (yX10_mix, cX10_mix, 5, (some .long))
abbrev mX10_addSaying : qM := (yX10_addSaying, cX10_addSaying, 6, (some .int))
abbrev mX10_tries : qM := (yX10_tries, cX10_tries, 5, (some .int))
abbrev mX10_review : qM := (yX10_review, cX10_review, 5, (some .int))
abbrev mX10_feed : qM := (yX10_feed, cX10_feed, 2, (some .int))
abbrev mX10_end : qM := (yX10_end, cX10_end, 2, (some .boolean))
abbrev mX10_fault : qM := (yX10_fault, cX10_fault, 1, (some .int))
abbrev mX10_rule : qM := (yX10_rule, cX10_rule, 1, (some .int))
abbrev mX10_ask : qM := (yX10_ask, cX10_ask, 2, (some .int))
abbrev mX10_skip : qM := (yX10_skip, cX10_skip, 1, (some .int))
abbrev mX10_ruleHolds : qM := (yX10_ruleHolds, cX10_ruleHolds, 3, (some .boolean))
abbrev mX10_isCalledBack : qM := (yX10_isCalledBack, cX10_isCalledBack, 2, (some .boolean))
abbrev mX10_refusal : qM := (yX10_refusal, cX10_refusal, 5, (some .int))
abbrev mX10_seal : qM := (yX10_seal, cX10_seal, 7, (some .int))
abbrev mX10_why : qM := (yX10_why, cX10_why, 4, (some .int))
abbrev mX10_uses : qM := (yX10_uses, cX10_uses, 3, (some .int))
abbrev mX10_finish : qM := (yX10_finish, cX10_finish, 2, (some .boolean))
abbrev mX10_lose : qM := (yX10_lose, cX10_lose, 5, (some .int))
abbrev mX10_manyCalledBack : qM := (yX10_manyCalledBack, cX10_manyCalledBack, 3, (some .int))
abbrev mX10_recall : qM := (yX10_recall, cX10_recall, 5, (some .int))
abbrev mX10_stands : qM := (yX10_stands, cX10_stands, 4, (some .boolean))
abbrev mX10_manyStanding : qM := (yX10_manyStanding, cX10_manyStanding, 4, (some .int))
abbrev mX10_file : qM := (yX10_file, cX10_file, 3, (some .int))
abbrev mX10_hash : qM := (yX10_hash, cX10_hash, 2, (some .long))
abbrev mX10_find : qM := (yX10_find, cX10_find, 3, (some .int))
abbrev mX10_sealed : qM := (yX10_sealed, cX10_sealed, 3, (some .int))
abbrev mX10_note : qM := (yX10_note, cX10_note, 3, (some .int))
abbrev mX10_least : qM := (yX10_least, cX10_least, 1, (some .int))
abbrev mX10_makers : qM := (yX10_makers, cX10_makers, 1, (some .int))
abbrev mX10_proof : qM := (yX10_proof, cX10_proof, 3, (some .int))
abbrev mX10_called : qM := (yX10_called, cX10_called, 4, (some .int))
abbrev mX10_count : qM := (yX10_count, cX10_count, 2, (some .int))
abbrev mX10_key : qM := (yX10_key, cX10_key, 3, (some .int))
abbrev mX11_init : qM := (yX11_init, cX11_init, 2, none)
abbrev mX11_in : qM := (yX11_in, cX11_in, 3, (some .boolean))
abbrev mX11_isFile : qM := (yX11_isFile, cX11_isFile, 2, (some .boolean))
abbrev mX11_isHand : qM := (yX11_isHand, cX11_isHand, 1, (some .boolean))
abbrev mX11_isKey : qM := (yX11_isKey, cX11_isKey, 1, (some .boolean))
abbrev mX11_find : qM := (yX11_find, cX11_find, 4, (some .int))
abbrev mX11_addNote : qM := (yX11_addNote, cX11_addNote, 5, (some .int))
abbrev mX11_fileFor : qM := (yX11_fileFor, cX11_fileFor, 4, (some .int))
abbrev mX11_source : qM := (yX11_source, cX11_source, 5, (some .int))
abbrev mX11_went : qM := (yX11_went, cX11_went, 3, (some .int))
abbrev mX11_addRow : qM := (yX11_addRow, cX11_addRow, 7, none)
abbrev mX11_rowOf : qM := (yX11_rowOf, cX11_rowOf, 3, none)
abbrev mX11_areFiles : qM := (yX11_areFiles, cX11_areFiles, 4, (some .boolean))
abbrev mX11_mixOf : qM := (yX11_mixOf, cX11_mixOf, 9, (some .long))
abbrev mX11_mix : qM := (yX11_mix, cX11_mix, 5, (some .long))
abbrev mX11_build : qM := (yX11_build, cX11_build, 12, (some .int))
abbrev mX11_says : qM := (yX11_says, cX11_says, 6, (some .int))
abbrev mX11_tries : qM := (yX11_tries, cX11_tries, 4, (some .int))
abbrev mX11_review : qM := (yX11_review, cX11_review, 4, (some .int))
abbrev mX11_allClean : qM := (yX11_allClean, cX11_allClean, 4, (some .boolean))
abbrev mX11_findClean : qM := (yX11_findClean, cX11_findClean, 4, none)
abbrev mX11_isClean : qM := (yX11_isClean, cX11_isClean, 2, (some .boolean))
abbrev mX11_makersOf : qM := (yX11_makersOf, cX11_makersOf, 4, (some .int))
abbrev mX11_isCalledNote : qM := (yX11_isCalledNote, cX11_isCalledNote, 4, (some .boolean))
abbrev mX11_isCalled : qM := (yX11_isCalled, cX11_isCalled, 3, (some .boolean))
abbrev mX11_handsWith : qM := (yX11_handsWith, cX11_handsWith, 8, (some .int))
abbrev mX11_builders : qM := (yX11_builders, cX11_builders, 4, (some .int))
abbrev mX11_feed : qM := (yX11_feed, cX11_feed, 5, (some .int))
abbrev mX11_end : qM := (yX11_end, cX11_end, 2, (some .boolean))
abbrev mX11_look : qM := (yX11_look, cX11_look, 1, (some .int))
abbrev mX11_fail : qM := (yX11_fail, cX11_fail, 1, none)
abbrev mX11_say : qM := (yX11_say, cX11_say, 2, none)
abbrev mX11_tests : qM := (yX11_tests, cX11_tests, 1, none)
abbrev mX11_unit : qM := (yX11_unit, cX11_unit, 6, none)
abbrev mX11_part : qM := (yX11_part, cX11_part, 1, none)
abbrev mX11_fault : qM := (yX11_fault, cX11_fault, 1, (some .int))
abbrev mX11_rule : qM := (yX11_rule, cX11_rule, 2, (some .int))
abbrev mX11_holds : qM := (yX11_holds, cX11_holds, 8, (some .boolean))
abbrev mX11_placeOf : qM := (yX11_placeOf, cX11_placeOf, 3, (some .int))
abbrev mX11_ask : qM := (yX11_ask, cX11_ask, 2, (some .int))
abbrev mX11_skip : qM := (yX11_skip, cX11_skip, 3, (some .int))
abbrev mX11_why : qM := (yX11_why, cX11_why, 6, (some .int))
abbrev mX11_seal : qM := (yX11_seal, cX11_seal, 6, (some .int))
abbrev mX11_stands : qM := (yX11_stands, cX11_stands, 4, (some .boolean))
abbrev mX11_uses : qM := (yX11_uses, cX11_uses, 3, (some .int))
abbrev mX11_finish : qM := (yX11_finish, cX11_finish, 2, (some .boolean))
abbrev mX11_lose : qM := (yX11_lose, cX11_lose, 5, (some .int))
abbrev mX11_calledMany : qM := (yX11_calledMany, cX11_calledMany, 3, (some .int))
abbrev mX11_recall : qM := (yX11_recall, cX11_recall, 5, (some .int))
abbrev mX11_file : qM := (yX11_file, cX11_file, 5, (some .int))
abbrev mX11_hash : qM := (yX11_hash, cX11_hash, 2, (some .long))
abbrev mX11_sealed : qM := (yX11_sealed, cX11_sealed, 4, (some .int))
abbrev mX11_note : qM := (yX11_note, cX11_note, 3, (some .int))
abbrev mX11_canHold : qM := (yX11_canHold, cX11_canHold, 6, (some .boolean))
abbrev mX11_judged : qM := (yX11_judged, cX11_judged, 3, (some .int))
abbrev mX11_least : qM := (yX11_least, cX11_least, 2, (some .int))
abbrev mX11_makers : qM := (yX11_makers, cX11_makers, 2, (some .int))
abbrev mX11_firstOf : qM := (yX11_firstOf, cX11_firstOf, 3, (some .int))
abbrev mX11_proof : qM := (yX11_proof, cX11_proof, 7, (some .int))
abbrev mX11_called : qM := (yX11_called, cX11_called, 4, (some .int))
abbrev mX11_count : qM := (yX11_count, cX11_count, 4, (some .int))
abbrev mX11_key : qM := (yX11_key, cX11_key, 5, (some .int))
abbrev mJ9_max_7cf53 : qM := (yJ9_max_7cf53, cJ9_max_7cf53, 2, (some .int))
abbrev mJ9_min_7cf53 : qM := (yJ9_min_7cf53, cJ9_min_7cf53, 2, (some .int))
abbrev mL_law : qM := (yL_law, cL_law, 4, (some .boolean))
set_option maxRecDepth 100000 in
theorem lk773 : Cond.constantLong "java/lang/Long" 314 6148914691236517205 ∈ qg := qg_mem (List.mem_of_getElem? (i := 773) rfl) rfl
set_option maxRecDepth 100000 in
theorem lk774 : Cond.constantLong "java/lang/Long" 316 3689348814741910323 ∈ qg := qg_mem (List.mem_of_getElem? (i := 774) rfl) rfl
set_option maxRecDepth 100000 in
theorem lk775 : Cond.constantLong "java/lang/Long" 318 1085102592571150095 ∈ qg := qg_mem (List.mem_of_getElem? (i := 775) rfl) rfl
set_option maxRecDepth 100000 in
theorem lk826 : Cond.constant "java/lang/Integer" 264 65536 ∈ qg := qg_mem (List.mem_of_getElem? (i := 826) rfl) rfl
set_option maxRecDepth 100000 in
theorem lk656 : Cond.constant "java/lang/Integer" 265 1431655765 ∈ qg := qg_mem (List.mem_of_getElem? (i := 656) rfl) rfl
set_option maxRecDepth 100000 in
theorem lk657 : Cond.constant "java/lang/Integer" 266 858993459 ∈ qg := qg_mem (List.mem_of_getElem? (i := 657) rfl) rfl
set_option maxRecDepth 100000 in
theorem lk658 : Cond.constant "java/lang/Integer" 267 252645135 ∈ qg := qg_mem (List.mem_of_getElem? (i := 658) rfl) rfl
set_option maxRecDepth 100000 in
theorem lk113 : Cond.arrayClass .int ∈ qg := qg_mem (List.mem_of_getElem? (i := 113) rfl) rfl
set_option maxRecDepth 100000 in
theorem lk576 : Cond.methodLink "java/util/Arrays" 316 ⟨"[I", "clone", "()Ljava/lang/Object;"⟩ ∈ qg := qg_mem (List.mem_of_getElem? (i := 576) rfl) rfl
set_option maxRecDepth 100000 in
theorem lk583 : Cond.methodLink "java/util/Arrays" 304 yJ9_min_7cf53 ∈ qg := qg_mem (List.mem_of_getElem? (i := 583) rfl) rfl
set_option maxRecDepth 100000 in
theorem lk584 : Cond.static Lib.Math.min.name ∈ qg := qg_mem (List.mem_of_getElem? (i := 584) rfl) rfl
set_option maxRecDepth 100000 in
theorem lk65 : Cond.initialized "java/lang/Math" ∈ qg := qg_mem (List.mem_of_getElem? (i := 65) rfl) rfl
set_option maxRecDepth 100000 in
theorem lk585 : Cond.code Lib.Math.min.name Lib.Math.min.code 2 (some .int) ∈ qg := qg_mem (List.mem_of_getElem? (i := 585) rfl) rfl
set_option maxRecDepth 100000 in
theorem lk586 : Cond.methodLink "java/util/Arrays" 150 ⟨"java/lang/System", "arraycopy", "(Ljava/lang/Object;ILjava/lang/Object;II)V"⟩ ∈ qg := qg_mem (List.mem_of_getElem? (i := 586) rfl) rfl
set_option maxRecDepth 100000 in
theorem lk588 : Cond.native arraycopyName ∈ qg := qg_mem (List.mem_of_getElem? (i := 588) rfl) rfl
set_option maxRecDepth 100000 in
theorem lk587 : Cond.static arraycopyName ∈ qg := qg_mem (List.mem_of_getElem? (i := 587) rfl) rfl
set_option maxRecDepth 100000 in
theorem lk77 : Cond.initialized "java/lang/System" ∈ qg := qg_mem (List.mem_of_getElem? (i := 77) rfl) rfl
set_option maxRecDepth 100000 in
theorem lk126 : Cond.methodLink "SealLine$FileSet" 3 Lib.objectInit ∈ qg := qg_mem (List.mem_of_getElem? (i := 126) rfl) rfl
set_option maxRecDepth 100000 in
theorem lk86 : Cond.instanceMethod Lib.objectInit ∈ qg := qg_mem (List.mem_of_getElem? (i := 86) rfl) rfl
set_option maxRecDepth 100000 in
theorem lk87 : Cond.code Lib.objectInit ⟨#[0xb1]⟩ 1 none ∈ qg := qg_mem (List.mem_of_getElem? (i := 87) rfl) rfl
set_option maxRecDepth 100000 in
theorem lk127 : Cond.fieldLink "SealLine$FileSet" 9 "SealLine$FileSet" "low" "J" ∈ qg := qg_mem (List.mem_of_getElem? (i := 127) rfl) rfl
theorem fpX0_9 : qFp RX0 9 0 0 .long := ⟨RX0, TX0, 2, tyX0, rfl, by decide, jnX0, lk127, tyX0_ok, nmX0, rfl⟩
set_option maxRecDepth 100000 in
theorem lk128 : Cond.fieldLink "SealLine$FileSet" 15 "SealLine$FileSet" "high" "J" ∈ qg := qg_mem (List.mem_of_getElem? (i := 128) rfl) rfl
theorem fpX0_15 : qFp RX0 15 0 1 .long := ⟨RX0, TX0, 2, tyX0, rfl, by decide, jnX0, lk128, tyX0_ok, nmX0, rfl⟩
theorem fgX0_9 : qF RX0 9 0 0 := ⟨RX0, TX0, 2, rfl, by decide, jnX0, lk127⟩
theorem fgX0_15 : qF RX0 15 0 1 := ⟨RX0, TX0, 2, rfl, by decide, jnX0, lk128⟩
set_option maxRecDepth 100000 in
theorem lk770 : Cond.methodLink "SealLine$FileSet" 18 yJ13_bitCount_95d88 ∈ qg := qg_mem (List.mem_of_getElem? (i := 770) rfl) rfl
set_option maxRecDepth 100000 in
theorem lk772 : Cond.code yJ13_bitCount_95d88 cJ13_bitCount_95d88 2 (some .int) ∈ qg := qg_mem (List.mem_of_getElem? (i := 772) rfl) rfl
set_option maxRecDepth 100000 in
theorem lk79 : Cond.initialized "java/lang/Long" ∈ qg := qg_mem (List.mem_of_getElem? (i := 79) rfl) rfl
set_option maxRecDepth 100000 in
theorem lk771 : Cond.static yJ13_bitCount_95d88 ∈ qg := qg_mem (List.mem_of_getElem? (i := 771) rfl) rfl
theorem tJ13_bitCount_95d88 : qMs mJ13_bitCount_95d88 1 := ⟨⟨lk772, lk79, by decide +kernel, by decide⟩, lk771⟩
set_option maxRecDepth 100000 in
theorem lk103 : Cond.fieldLink "SealLine$Table" 9 "SealLine$Table" "many" "I" ∈ qg := qg_mem (List.mem_of_getElem? (i := 103) rfl) rfl
theorem fgX8_9 : qF RX8 9 8 3 := ⟨RX8, TX8, 4, rfl, by decide, jnX8, lk103⟩
set_option maxRecDepth 100000 in
theorem lk101 : Cond.fieldLink "SealLine$Table" 24 "SealLine$Table" "width" "I" ∈ qg := qg_mem (List.mem_of_getElem? (i := 101) rfl) rfl
theorem fgX8_24 : qF RX8 24 8 1 := ⟨RX8, TX8, 4, rfl, by decide, jnX8, lk101⟩
set_option maxRecDepth 100000 in
theorem lk102 : Cond.fieldLink "SealLine$Table" 27 "SealLine$Table" "cells" "[I" ∈ qg := qg_mem (List.mem_of_getElem? (i := 102) rfl) rfl
theorem fgX8_27 : qF RX8 27 8 2 := ⟨RX8, TX8, 4, rfl, by decide, jnX8, lk102⟩
set_option maxRecDepth 100000 in
theorem lk370 : Cond.methodLink "SealLine$Table" 41 yX8_isCell ∈ qg := qg_mem (List.mem_of_getElem? (i := 370) rfl) rfl
set_option maxRecDepth 100000 in
theorem lk373 : Cond.code yX8_isCell cX8_isCell 3 (some .boolean) ∈ qg := qg_mem (List.mem_of_getElem? (i := 373) rfl) rfl
set_option maxRecDepth 100000 in
theorem lk64 : Cond.initialized "SealLine$Table" ∈ qg := qg_mem (List.mem_of_getElem? (i := 64) rfl) rfl
set_option maxRecDepth 100000 in
theorem lk372 : Cond.instanceMethod yX8_isCell ∈ qg := qg_mem (List.mem_of_getElem? (i := 372) rfl) rfl
set_option maxRecDepth 100000 in
theorem lk1 : Cond.selects "SealLine$Table" yX8_isCell yX8_isCell ∈ qg := qg_mem (List.mem_of_getElem? (i := 1) rfl) rfl
theorem vX8_isCell : qMv mX8_isCell 2 := ⟨⟨lk373, lk64, by decide +kernel, by decide⟩, lk372, lk1⟩
set_option maxRecDepth 100000 in
theorem lk93 : Cond.methodLink "SealLine$Table" 3 Lib.objectInit ∈ qg := qg_mem (List.mem_of_getElem? (i := 93) rfl) rfl
theorem fpX8_9 : qFp RX8 9 8 3 .int := ⟨RX8, TX8, 4, tyX8, rfl, by decide, jnX8, lk103, tyX8_ok, nmX8, rfl⟩
set_option maxRecDepth 100000 in
theorem lk100 : Cond.fieldLink "SealLine$Table" 21 "SealLine$Table" "most" "I" ∈ qg := qg_mem (List.mem_of_getElem? (i := 100) rfl) rfl
theorem fpX8_21 : qFp RX8 21 8 0 .int := ⟨RX8, TX8, 4, tyX8, rfl, by decide, jnX8, lk100, tyX8_ok, nmX8, rfl⟩
theorem fpX8_24 : qFp RX8 24 8 1 .int := ⟨RX8, TX8, 4, tyX8, rfl, by decide, jnX8, lk101, tyX8_ok, nmX8, rfl⟩
theorem fgX8_21 : qF RX8 21 8 0 := ⟨RX8, TX8, 4, rfl, by decide, jnX8, lk100⟩
theorem fpX8_27 : qFp RX8 27 8 2 (.array .int) := ⟨RX8, TX8, 4, tyX8, rfl, by decide, jnX8, lk102, tyX8_ok, nmX8, rfl⟩
set_option maxRecDepth 100000 in
theorem lk94 : Cond.methodLink "SealLine$Table" 15 yJ9_max_7cf53 ∈ qg := qg_mem (List.mem_of_getElem? (i := 94) rfl) rfl
set_option maxRecDepth 100000 in
theorem lk95 : Cond.static Lib.Math.max.name ∈ qg := qg_mem (List.mem_of_getElem? (i := 95) rfl) rfl
set_option maxRecDepth 100000 in
theorem lk96 : Cond.code Lib.Math.max.name Lib.Math.max.code 2 (some .int) ∈ qg := qg_mem (List.mem_of_getElem? (i := 96) rfl) rfl
set_option maxRecDepth 100000 in
theorem lk97 : Cond.methodLink "SealLine$Table" 31 yJ7_fill_53178 ∈ qg := qg_mem (List.mem_of_getElem? (i := 97) rfl) rfl
set_option maxRecDepth 100000 in
theorem lk99 : Cond.code yJ7_fill_53178 cJ7_fill_53178 4 none ∈ qg := qg_mem (List.mem_of_getElem? (i := 99) rfl) rfl
set_option maxRecDepth 100000 in
theorem lk66 : Cond.initialized "java/util/Arrays" ∈ qg := qg_mem (List.mem_of_getElem? (i := 66) rfl) rfl
set_option maxRecDepth 100000 in
theorem lk98 : Cond.static yJ7_fill_53178 ∈ qg := qg_mem (List.mem_of_getElem? (i := 98) rfl) rfl
theorem tJ7_fill_53178 : qMs mJ7_fill_53178 2 := ⟨⟨lk99, lk66, by decide +kernel, by decide⟩, lk98⟩
set_option maxRecDepth 100000 in
theorem lk365 : Cond.methodLink "SealLine$Table" 37 yX8_isFull ∈ qg := qg_mem (List.mem_of_getElem? (i := 365) rfl) rfl
set_option maxRecDepth 100000 in
theorem lk344 : Cond.code yX8_isFull cX8_isFull 1 (some .boolean) ∈ qg := qg_mem (List.mem_of_getElem? (i := 344) rfl) rfl
set_option maxRecDepth 100000 in
theorem lk342 : Cond.instanceMethod yX8_isFull ∈ qg := qg_mem (List.mem_of_getElem? (i := 342) rfl) rfl
set_option maxRecDepth 100000 in
theorem lk343 : Cond.selects "SealLine$Table" yX8_isFull yX8_isFull ∈ qg := qg_mem (List.mem_of_getElem? (i := 343) rfl) rfl
theorem vX8_isFull : qMv mX8_isFull 0 := ⟨⟨lk344, lk64, by decide +kernel, by decide⟩, lk342, lk343⟩
set_option maxRecDepth 100000 in
theorem lk239 : Cond.methodLink "SealLine$Queue" 3 Lib.objectInit ∈ qg := qg_mem (List.mem_of_getElem? (i := 239) rfl) rfl
set_option maxRecDepth 100000 in
theorem lk240 : Cond.fieldLink "SealLine$Queue" 9 "SealLine$Queue" "files" "[I" ∈ qg := qg_mem (List.mem_of_getElem? (i := 240) rfl) rfl
theorem fpX4_9 : qFp RX4 9 4 0 (.array .int) := ⟨RX4, TX4, 2, tyX4, rfl, by decide, jnX4, lk240, tyX4_ok, nmX4, rfl⟩
set_option maxRecDepth 100000 in
theorem lk241 : Cond.fieldLink "SealLine$Queue" 15 "SealLine$Queue" "length" "I" ∈ qg := qg_mem (List.mem_of_getElem? (i := 241) rfl) rfl
theorem fpX4_15 : qFp RX4 15 4 1 .int := ⟨RX4, TX4, 2, tyX4, rfl, by decide, jnX4, lk241, tyX4_ok, nmX4, rfl⟩
theorem fgX4_15 : qF RX4 15 4 1 := ⟨RX4, TX4, 2, rfl, by decide, jnX4, lk241⟩
theorem fgX4_9 : qF RX4 9 4 0 := ⟨RX4, TX4, 2, rfl, by decide, jnX4, lk240⟩
set_option maxRecDepth 100000 in
theorem lk601 : Cond.methodLink "SealLine$Queue" 19 yX4_placeOf ∈ qg := qg_mem (List.mem_of_getElem? (i := 601) rfl) rfl
set_option maxRecDepth 100000 in
theorem lk604 : Cond.code yX4_placeOf cX4_placeOf 3 (some .int) ∈ qg := qg_mem (List.mem_of_getElem? (i := 604) rfl) rfl
set_option maxRecDepth 100000 in
theorem lk72 : Cond.initialized "SealLine$Queue" ∈ qg := qg_mem (List.mem_of_getElem? (i := 72) rfl) rfl
set_option maxRecDepth 100000 in
theorem lk602 : Cond.instanceMethod yX4_placeOf ∈ qg := qg_mem (List.mem_of_getElem? (i := 602) rfl) rfl
set_option maxRecDepth 100000 in
theorem lk603 : Cond.selects "SealLine$Queue" yX4_placeOf yX4_placeOf ∈ qg := qg_mem (List.mem_of_getElem? (i := 603) rfl) rfl
theorem vX4_placeOf : qMv mX4_placeOf 1 := ⟨⟨lk604, lk72, by decide +kernel, by decide⟩, lk602, lk603⟩
set_option maxRecDepth 100000 in
theorem lk613 : Cond.methodLink "SealLine$Queue" 23 yX4_first ∈ qg := qg_mem (List.mem_of_getElem? (i := 613) rfl) rfl
set_option maxRecDepth 100000 in
theorem lk616 : Cond.code yX4_first cX4_first 1 (some .int) ∈ qg := qg_mem (List.mem_of_getElem? (i := 616) rfl) rfl
set_option maxRecDepth 100000 in
theorem lk614 : Cond.instanceMethod yX4_first ∈ qg := qg_mem (List.mem_of_getElem? (i := 614) rfl) rfl
set_option maxRecDepth 100000 in
theorem lk615 : Cond.selects "SealLine$Queue" yX4_first yX4_first ∈ qg := qg_mem (List.mem_of_getElem? (i := 615) rfl) rfl
theorem vX4_first : qMv mX4_first 0 := ⟨⟨lk616, lk72, by decide +kernel, by decide⟩, lk614, lk615⟩
set_option maxRecDepth 100000 in
theorem lk617 : Cond.methodLink "SealLine$Queue" 27 ⟨"java/lang/System", "arraycopy", "(Ljava/lang/Object;ILjava/lang/Object;II)V"⟩ ∈ qg := qg_mem (List.mem_of_getElem? (i := 617) rfl) rfl
set_option maxRecDepth 100000 in
theorem lk291 : Cond.fieldLink "SealLine$Rule" 11 "SealLine$Rule" "someParts" "[I" ∈ qg := qg_mem (List.mem_of_getElem? (i := 291) rfl) rfl
theorem fgX6_11 : qF RX6 11 6 1 := ⟨RX6, TX6, 3, rfl, by decide, jnX6, lk291⟩
set_option maxRecDepth 100000 in
theorem lk292 : Cond.fieldLink "SealLine$Rule" 15 "SealLine$Rule" "everyUnit" "[I" ∈ qg := qg_mem (List.mem_of_getElem? (i := 292) rfl) rfl
theorem fgX6_15 : qF RX6 15 6 2 := ⟨RX6, TX6, 3, rfl, by decide, jnX6, lk292⟩
set_option maxRecDepth 100000 in
theorem lk674 : Cond.methodLink "SealLine$Rule" 29 yX6_triesBelow ∈ qg := qg_mem (List.mem_of_getElem? (i := 674) rfl) rfl
set_option maxRecDepth 100000 in
theorem lk676 : Cond.code yX6_triesBelow cX6_triesBelow 1 (some .int) ∈ qg := qg_mem (List.mem_of_getElem? (i := 676) rfl) rfl
set_option maxRecDepth 100000 in
theorem lk75 : Cond.initialized "SealLine$Rule" ∈ qg := qg_mem (List.mem_of_getElem? (i := 75) rfl) rfl
set_option maxRecDepth 100000 in
theorem lk675 : Cond.static yX6_triesBelow ∈ qg := qg_mem (List.mem_of_getElem? (i := 675) rfl) rfl
theorem tX6_triesBelow : qMs mX6_triesBelow 1 := ⟨⟨lk676, lk75, by decide +kernel, by decide⟩, lk675⟩
set_option maxRecDepth 100000 in
theorem lk290 : Cond.fieldLink "SealLine$Rule" 18 "SealLine$Rule" "steps" "[I" ∈ qg := qg_mem (List.mem_of_getElem? (i := 290) rfl) rfl
theorem fgX6_18 : qF RX6 18 6 0 := ⟨RX6, TX6, 3, rfl, by decide, jnX6, lk290⟩
set_option maxRecDepth 100000 in
theorem lk667 : Cond.methodLink "SealLine$Rule" 21 yX6_begin ∈ qg := qg_mem (List.mem_of_getElem? (i := 667) rfl) rfl
set_option maxRecDepth 100000 in
theorem lk670 : Cond.code yX6_begin cX6_begin 2 none ∈ qg := qg_mem (List.mem_of_getElem? (i := 670) rfl) rfl
set_option maxRecDepth 100000 in
theorem lk669 : Cond.instanceMethod yX6_begin ∈ qg := qg_mem (List.mem_of_getElem? (i := 669) rfl) rfl
set_option maxRecDepth 100000 in
theorem lk21 : Cond.selects "SealLine$Rule" yX6_begin yX6_begin ∈ qg := qg_mem (List.mem_of_getElem? (i := 21) rfl) rfl
theorem vX6_begin : qMv mX6_begin 1 := ⟨⟨lk670, lk75, by decide +kernel, by decide⟩, lk669, lk21⟩
set_option maxRecDepth 100000 in
theorem lk671 : Cond.methodLink "SealLine$Rule" 25 yX6_triesOfTest ∈ qg := qg_mem (List.mem_of_getElem? (i := 671) rfl) rfl
set_option maxRecDepth 100000 in
theorem lk673 : Cond.code yX6_triesOfTest cX6_triesOfTest 8 (some .int) ∈ qg := qg_mem (List.mem_of_getElem? (i := 673) rfl) rfl
set_option maxRecDepth 100000 in
theorem lk672 : Cond.static yX6_triesOfTest ∈ qg := qg_mem (List.mem_of_getElem? (i := 672) rfl) rfl
theorem tX6_triesOfTest : qMs mX6_triesOfTest 3 := ⟨⟨lk673, lk75, by decide +kernel, by decide⟩, lk672⟩
set_option maxRecDepth 100000 in
theorem lk289 : Cond.methodLink "SealLine$Rule" 3 Lib.objectInit ∈ qg := qg_mem (List.mem_of_getElem? (i := 289) rfl) rfl
theorem fpX6_11 : qFp RX6 11 6 1 (.array .int) := ⟨RX6, TX6, 3, tyX6, rfl, by decide, jnX6, lk291, tyX6_ok, nmX6, rfl⟩
theorem fpX6_15 : qFp RX6 15 6 2 (.array .int) := ⟨RX6, TX6, 3, tyX6, rfl, by decide, jnX6, lk292, tyX6_ok, nmX6, rfl⟩
theorem fpX6_18 : qFp RX6 18 6 0 (.array .int) := ⟨RX6, TX6, 3, tyX6, rfl, by decide, jnX6, lk290, tyX6_ok, nmX6, rfl⟩
set_option maxRecDepth 100000 in
theorem lk273 : Cond.methodLink "SealLine$Judging" 3 Lib.objectInit ∈ qg := qg_mem (List.mem_of_getElem? (i := 273) rfl) rfl
set_option maxRecDepth 100000 in
theorem lk274 : Cond.fieldLink "SealLine$Judging" 9 "SealLine$Judging" "hands" "I" ∈ qg := qg_mem (List.mem_of_getElem? (i := 274) rfl) rfl
theorem fpX1_9 : qFp RX1 9 1 0 .int := ⟨RX1, TX1, 3, tyX1, rfl, by decide, jnX1, lk274, tyX1_ok, nmX1, rfl⟩
set_option maxRecDepth 100000 in
theorem lk275 : Cond.fieldLink "SealLine$Judging" 15 "SealLine$Judging" "makerHands" "I" ∈ qg := qg_mem (List.mem_of_getElem? (i := 275) rfl) rfl
theorem fpX1_15 : qFp RX1 15 1 1 .int := ⟨RX1, TX1, 3, tyX1, rfl, by decide, jnX1, lk275, tyX1_ok, nmX1, rfl⟩
set_option maxRecDepth 100000 in
theorem lk276 : Cond.fieldLink "SealLine$Judging" 18 "SealLine$Judging" "known" "Z" ∈ qg := qg_mem (List.mem_of_getElem? (i := 276) rfl) rfl
theorem fpX1_18 : qFp RX1 18 1 2 .boolean := ⟨RX1, TX1, 3, tyX1, rfl, by decide, jnX1, lk276, tyX1_ok, nmX1, rfl⟩
theorem fgX1_9 : qF RX1 9 1 0 := ⟨RX1, TX1, 3, rfl, by decide, jnX1, lk274⟩
theorem fgX1_15 : qF RX1 15 1 1 := ⟨RX1, TX1, 3, rfl, by decide, jnX1, lk275⟩
set_option maxRecDepth 100000 in
theorem lk821 : Cond.methodLink "SealLine$Judging" 30 yJ9_max_7cf53 ∈ qg := qg_mem (List.mem_of_getElem? (i := 821) rfl) rfl
set_option maxRecDepth 100000 in
theorem lk822 : Cond.methodLink "SealLine$Judging" 36 yX6_holdingTries ∈ qg := qg_mem (List.mem_of_getElem? (i := 822) rfl) rfl
set_option maxRecDepth 100000 in
theorem lk666 : Cond.code yX6_holdingTries cX6_holdingTries 6 (some .int) ∈ qg := qg_mem (List.mem_of_getElem? (i := 666) rfl) rfl
set_option maxRecDepth 100000 in
theorem lk664 : Cond.instanceMethod yX6_holdingTries ∈ qg := qg_mem (List.mem_of_getElem? (i := 664) rfl) rfl
set_option maxRecDepth 100000 in
theorem lk665 : Cond.selects "SealLine$Rule" yX6_holdingTries yX6_holdingTries ∈ qg := qg_mem (List.mem_of_getElem? (i := 665) rfl) rfl
theorem vX6_holdingTries : qMv mX6_holdingTries 2 := ⟨⟨lk666, lk75, by decide +kernel, by decide⟩, lk664, lk665⟩
set_option maxRecDepth 100000 in
theorem lk823 : Cond.methodLink "SealLine$Judging" 41 yJ6_numberOfTrailingZeros_0f7a4 ∈ qg := qg_mem (List.mem_of_getElem? (i := 823) rfl) rfl
set_option maxRecDepth 100000 in
theorem lk825 : Cond.code yJ6_numberOfTrailingZeros_0f7a4 cJ6_numberOfTrailingZeros_0f7a4 2 (some .int) ∈ qg := qg_mem (List.mem_of_getElem? (i := 825) rfl) rfl
set_option maxRecDepth 100000 in
theorem lk78 : Cond.initialized "java/lang/Integer" ∈ qg := qg_mem (List.mem_of_getElem? (i := 78) rfl) rfl
set_option maxRecDepth 100000 in
theorem lk824 : Cond.static yJ6_numberOfTrailingZeros_0f7a4 ∈ qg := qg_mem (List.mem_of_getElem? (i := 824) rfl) rfl
theorem tJ6_numberOfTrailingZeros_0f7a4 : qMs mJ6_numberOfTrailingZeros_0f7a4 1 := ⟨⟨lk825, lk78, by decide +kernel, by decide⟩, lk824⟩
theorem fgX1_18 : qF RX1 18 1 2 := ⟨RX1, TX1, 3, rfl, by decide, jnX1, lk276⟩
set_option maxRecDepth 100000 in
theorem lk817 : Cond.methodLink "SealLine$Judging" 26 yX1_weigh ∈ qg := qg_mem (List.mem_of_getElem? (i := 817) rfl) rfl
set_option maxRecDepth 100000 in
theorem lk820 : Cond.code yX1_weigh cX1_weigh 8 none ∈ qg := qg_mem (List.mem_of_getElem? (i := 820) rfl) rfl
set_option maxRecDepth 100000 in
theorem lk74 : Cond.initialized "SealLine$Judging" ∈ qg := qg_mem (List.mem_of_getElem? (i := 74) rfl) rfl
set_option maxRecDepth 100000 in
theorem lk819 : Cond.instanceMethod yX1_weigh ∈ qg := qg_mem (List.mem_of_getElem? (i := 819) rfl) rfl
set_option maxRecDepth 100000 in
theorem lk27 : Cond.selects "SealLine$Judging" yX1_weigh yX1_weigh ∈ qg := qg_mem (List.mem_of_getElem? (i := 27) rfl) rfl
theorem vX1_weigh : qMv mX1_weigh 3 := ⟨⟨lk820, lk74, by decide +kernel, by decide⟩, lk819, lk27⟩
set_option maxRecDepth 100000 in
theorem lk813 : Cond.methodLink "SealLine$Judging" 22 yX1_judge ∈ qg := qg_mem (List.mem_of_getElem? (i := 813) rfl) rfl
set_option maxRecDepth 100000 in
theorem lk816 : Cond.code yX1_judge cX1_judge 4 none ∈ qg := qg_mem (List.mem_of_getElem? (i := 816) rfl) rfl
set_option maxRecDepth 100000 in
theorem lk815 : Cond.instanceMethod yX1_judge ∈ qg := qg_mem (List.mem_of_getElem? (i := 815) rfl) rfl
set_option maxRecDepth 100000 in
theorem lk26 : Cond.selects "SealLine$Judging" yX1_judge yX1_judge ∈ qg := qg_mem (List.mem_of_getElem? (i := 26) rfl) rfl
theorem vX1_judge : qMv mX1_judge 1 := ⟨⟨lk816, lk74, by decide +kernel, by decide⟩, lk815, lk26⟩
set_option maxRecDepth 100000 in
theorem lk186 : Cond.methodLink "SealLine$Recalls" 3 Lib.objectInit ∈ qg := qg_mem (List.mem_of_getElem? (i := 186) rfl) rfl
set_option maxRecDepth 100000 in
theorem lk190 : Cond.fieldLink "SealLine$Recalls" 9 "SealLine$Recalls" "toolSince" "[I" ∈ qg := qg_mem (List.mem_of_getElem? (i := 190) rfl) rfl
theorem fpX5_9 : qFp RX5 9 5 0 (.array .int) := ⟨RX5, TX5, 4, tyX5, rfl, by decide, jnX5, lk190, tyX5_ok, nmX5, rfl⟩
set_option maxRecDepth 100000 in
theorem lk191 : Cond.fieldLink "SealLine$Recalls" 15 "SealLine$Recalls" "handSince" "[I" ∈ qg := qg_mem (List.mem_of_getElem? (i := 191) rfl) rfl
theorem fpX5_15 : qFp RX5 15 5 1 (.array .int) := ⟨RX5, TX5, 4, tyX5, rfl, by decide, jnX5, lk191, tyX5_ok, nmX5, rfl⟩
set_option maxRecDepth 100000 in
theorem lk187 : Cond.classLink "SealLine$Recalls" 18 "SealLine$FileSet" ∈ qg := qg_mem (List.mem_of_getElem? (i := 187) rfl) rfl
set_option maxRecDepth 100000 in
theorem lk122 : Cond.instantiable "SealLine$FileSet" 2 ∈ qg := qg_mem (List.mem_of_getElem? (i := 122) rfl) rfl
set_option maxRecDepth 100000 in
theorem lk68 : Cond.initialized "SealLine$FileSet" ∈ qg := qg_mem (List.mem_of_getElem? (i := 68) rfl) rfl
theorem nwX5_18 : qNw RX5 18 0 2 [.long 0, .long 0] := ⟨RX0, TX0, tyX0, rfl, jnX0, tyX0_ok, lk187, lk122, lk68, by decide +kernel, fun _ => rfl⟩
set_option maxRecDepth 100000 in
theorem lk192 : Cond.fieldLink "SealLine$Recalls" 21 "SealLine$Recalls" "marked" "LSealLine$FileSet;" ∈ qg := qg_mem (List.mem_of_getElem? (i := 192) rfl) rfl
theorem fpX5_21 : qFp RX5 21 5 2 (.object "SealLine$FileSet") := ⟨RX5, TX5, 4, tyX5, rfl, by decide, jnX5, lk192, tyX5_ok, nmX5, rfl⟩
set_option maxRecDepth 100000 in
theorem lk193 : Cond.fieldLink "SealLine$Recalls" 25 "SealLine$Recalls" "many" "I" ∈ qg := qg_mem (List.mem_of_getElem? (i := 193) rfl) rfl
theorem fpX5_25 : qFp RX5 25 5 3 .int := ⟨RX5, TX5, 4, tyX5, rfl, by decide, jnX5, lk193, tyX5_ok, nmX5, rfl⟩
theorem fgX5_9 : qF RX5 9 5 0 := ⟨RX5, TX5, 4, rfl, by decide, jnX5, lk190⟩
theorem fgX5_15 : qF RX5 15 5 1 := ⟨RX5, TX5, 4, rfl, by decide, jnX5, lk191⟩
set_option maxRecDepth 100000 in
theorem lnX5_20 : qLn RX5 20 mX0_init "SealLine" := List.mem_filterMap.mpr ⟨_, List.mem_of_getElem? (i := 188) rfl, rfl⟩
set_option maxRecDepth 100000 in
theorem lk125 : Cond.code yX0_init cX0_init 1 none ∈ qg := qg_mem (List.mem_of_getElem? (i := 125) rfl) rfl
set_option maxRecDepth 100000 in
theorem lk124 : Cond.instanceMethod yX0_init ∈ qg := qg_mem (List.mem_of_getElem? (i := 124) rfl) rfl
theorem iX0_init : qMi mX0_init 0 := ⟨⟨lk125, lk68, by decide +kernel, by decide⟩, lk124, rfl, rfl⟩
set_option maxRecDepth 100000 in
theorem lk189 : Cond.methodLink "SealLine$Recalls" 29 yJ7_fill_53178 ∈ qg := qg_mem (List.mem_of_getElem? (i := 189) rfl) rfl
theorem fgX5_21 : qF RX5 21 5 2 := ⟨RX5, TX5, 4, rfl, by decide, jnX5, lk192⟩
theorem fgX5_25 : qF RX5 25 5 3 := ⟨RX5, TX5, 4, rfl, by decide, jnX5, lk193⟩
set_option maxRecDepth 100000 in
theorem lk431 : Cond.methodLink "SealLine$Recalls" 35 yX0_add ∈ qg := qg_mem (List.mem_of_getElem? (i := 431) rfl) rfl
set_option maxRecDepth 100000 in
theorem lk356 : Cond.code yX0_add cX0_add 2 none ∈ qg := qg_mem (List.mem_of_getElem? (i := 356) rfl) rfl
set_option maxRecDepth 100000 in
theorem lk354 : Cond.instanceMethod yX0_add ∈ qg := qg_mem (List.mem_of_getElem? (i := 354) rfl) rfl
set_option maxRecDepth 100000 in
theorem lk355 : Cond.selects "SealLine$FileSet" yX0_add yX0_add ∈ qg := qg_mem (List.mem_of_getElem? (i := 355) rfl) rfl
theorem vX0_add : qMv mX0_add 1 := ⟨⟨lk356, lk68, by decide +kernel, by decide⟩, lk354, lk355⟩
set_option maxRecDepth 100000 in
theorem lk427 : Cond.methodLink "SealLine$Recalls" 62 yX8_cell ∈ qg := qg_mem (List.mem_of_getElem? (i := 427) rfl) rfl
set_option maxRecDepth 100000 in
theorem lk402 : Cond.code yX8_cell cX8_cell 3 (some .int) ∈ qg := qg_mem (List.mem_of_getElem? (i := 402) rfl) rfl
set_option maxRecDepth 100000 in
theorem lk400 : Cond.instanceMethod yX8_cell ∈ qg := qg_mem (List.mem_of_getElem? (i := 400) rfl) rfl
set_option maxRecDepth 100000 in
theorem lk401 : Cond.selects "SealLine$Table" yX8_cell yX8_cell ∈ qg := qg_mem (List.mem_of_getElem? (i := 401) rfl) rfl
theorem vX8_cell : qMv mX8_cell 2 := ⟨⟨lk402, lk64, by decide +kernel, by decide⟩, lk400, lk401⟩
set_option maxRecDepth 100000 in
theorem lk428 : Cond.methodLink "SealLine$Recalls" 65 yX5_sinceOf ∈ qg := qg_mem (List.mem_of_getElem? (i := 428) rfl) rfl
set_option maxRecDepth 100000 in
theorem lk430 : Cond.code yX5_sinceOf cX5_sinceOf 2 (some .int) ∈ qg := qg_mem (List.mem_of_getElem? (i := 430) rfl) rfl
set_option maxRecDepth 100000 in
theorem lk70 : Cond.initialized "SealLine$Recalls" ∈ qg := qg_mem (List.mem_of_getElem? (i := 70) rfl) rfl
set_option maxRecDepth 100000 in
theorem lk429 : Cond.static yX5_sinceOf ∈ qg := qg_mem (List.mem_of_getElem? (i := 429) rfl) rfl
theorem tX5_sinceOf : qMs mX5_sinceOf 2 := ⟨⟨lk430, lk70, by decide +kernel, by decide⟩, lk429⟩
set_option maxRecDepth 100000 in
theorem lnX5_39 : qLn RX5 39 mX10_isTool "SealLine" := List.mem_filterMap.mpr ⟨_, List.mem_of_getElem? (i := 745) rfl, rfl⟩
set_option maxRecDepth 100000 in
theorem lk438 : Cond.code yX10_isTool cX10_isTool 1 (some .boolean) ∈ qg := qg_mem (List.mem_of_getElem? (i := 438) rfl) rfl
set_option maxRecDepth 100000 in
theorem lk63 : Cond.initialized "SealLine" ∈ qg := qg_mem (List.mem_of_getElem? (i := 63) rfl) rfl
set_option maxRecDepth 100000 in
theorem lk437 : Cond.static yX10_isTool ∈ qg := qg_mem (List.mem_of_getElem? (i := 437) rfl) rfl
theorem tX10_isTool : qMs mX10_isTool 1 := ⟨⟨lk438, lk63, by decide +kernel, by decide⟩, lk437⟩
set_option maxRecDepth 100000 in
theorem lnX5_43 : qLn RX5 43 mX10_isHand "SealLine" := List.mem_filterMap.mpr ⟨_, List.mem_of_getElem? (i := 746) rfl, rfl⟩
set_option maxRecDepth 100000 in
theorem lk340 : Cond.code yX10_isHand cX10_isHand 1 (some .boolean) ∈ qg := qg_mem (List.mem_of_getElem? (i := 340) rfl) rfl
set_option maxRecDepth 100000 in
theorem lk339 : Cond.static yX10_isHand ∈ qg := qg_mem (List.mem_of_getElem? (i := 339) rfl) rfl
theorem tX10_isHand : qMs mX10_isHand 1 := ⟨⟨lk340, lk63, by decide +kernel, by decide⟩, lk339⟩
set_option maxRecDepth 100000 in
theorem lk747 : Cond.methodLink "SealLine$Recalls" 46 yJ9_min_7cf53 ∈ qg := qg_mem (List.mem_of_getElem? (i := 747) rfl) rfl
set_option maxRecDepth 100000 in
theorem lk748 : Cond.methodLink "SealLine$Recalls" 52 yX8_size ∈ qg := qg_mem (List.mem_of_getElem? (i := 748) rfl) rfl
set_option maxRecDepth 100000 in
theorem lk422 : Cond.code yX8_size cX8_size 1 (some .int) ∈ qg := qg_mem (List.mem_of_getElem? (i := 422) rfl) rfl
set_option maxRecDepth 100000 in
theorem lk420 : Cond.instanceMethod yX8_size ∈ qg := qg_mem (List.mem_of_getElem? (i := 420) rfl) rfl
set_option maxRecDepth 100000 in
theorem lk421 : Cond.selects "SealLine$Table" yX8_size yX8_size ∈ qg := qg_mem (List.mem_of_getElem? (i := 421) rfl) rfl
theorem vX8_size : qMv mX8_size 0 := ⟨⟨lk422, lk64, by decide +kernel, by decide⟩, lk420, lk421⟩
set_option maxRecDepth 100000 in
theorem lk749 : Cond.methodLink "SealLine$Recalls" 58 yX5_look ∈ qg := qg_mem (List.mem_of_getElem? (i := 749) rfl) rfl
set_option maxRecDepth 100000 in
theorem lk426 : Cond.code yX5_look cX5_look 4 none ∈ qg := qg_mem (List.mem_of_getElem? (i := 426) rfl) rfl
set_option maxRecDepth 100000 in
theorem lk424 : Cond.instanceMethod yX5_look ∈ qg := qg_mem (List.mem_of_getElem? (i := 424) rfl) rfl
set_option maxRecDepth 100000 in
theorem lk425 : Cond.selects "SealLine$Recalls" yX5_look yX5_look ∈ qg := qg_mem (List.mem_of_getElem? (i := 425) rfl) rfl
theorem vX5_look : qMv mX5_look 2 := ⟨⟨lk426, lk70, by decide +kernel, by decide⟩, lk424, lk425⟩
set_option maxRecDepth 100000 in
theorem lk165 : Cond.methodLink "SealLine$Proof" 3 Lib.objectInit ∈ qg := qg_mem (List.mem_of_getElem? (i := 165) rfl) rfl
set_option maxRecDepth 100000 in
theorem lk168 : Cond.fieldLink "SealLine$Proof" 9 "SealLine$Proof" "grounds" "[I" ∈ qg := qg_mem (List.mem_of_getElem? (i := 168) rfl) rfl
theorem fpX3_9 : qFp RX3 9 3 0 (.array .int) := ⟨RX3, TX3, 4, tyX3, rfl, by decide, jnX3, lk168, tyX3_ok, nmX3, rfl⟩
set_option maxRecDepth 100000 in
theorem lk169 : Cond.fieldLink "SealLine$Proof" 15 "SealLine$Proof" "waiting" "[I" ∈ qg := qg_mem (List.mem_of_getElem? (i := 169) rfl) rfl
theorem fpX3_15 : qFp RX3 15 3 1 (.array .int) := ⟨RX3, TX3, 4, tyX3, rfl, by decide, jnX3, lk169, tyX3_ok, nmX3, rfl⟩
set_option maxRecDepth 100000 in
theorem lk166 : Cond.classLink "SealLine$Proof" 18 "SealLine$FileSet" ∈ qg := qg_mem (List.mem_of_getElem? (i := 166) rfl) rfl
theorem nwX3_18 : qNw RX3 18 0 2 [.long 0, .long 0] := ⟨RX0, TX0, tyX0, rfl, jnX0, tyX0_ok, lk166, lk122, lk68, by decide +kernel, fun _ => rfl⟩
set_option maxRecDepth 100000 in
theorem lk170 : Cond.fieldLink "SealLine$Proof" 21 "SealLine$Proof" "wanted" "LSealLine$FileSet;" ∈ qg := qg_mem (List.mem_of_getElem? (i := 170) rfl) rfl
theorem fpX3_21 : qFp RX3 21 3 2 (.object "SealLine$FileSet") := ⟨RX3, TX3, 4, tyX3, rfl, by decide, jnX3, lk170, tyX3_ok, nmX3, rfl⟩
set_option maxRecDepth 100000 in
theorem lk171 : Cond.fieldLink "SealLine$Proof" 25 "SealLine$Proof" "manyWaiting" "I" ∈ qg := qg_mem (List.mem_of_getElem? (i := 171) rfl) rfl
theorem fpX3_25 : qFp RX3 25 3 3 .int := ⟨RX3, TX3, 4, tyX3, rfl, by decide, jnX3, lk171, tyX3_ok, nmX3, rfl⟩
set_option maxRecDepth 100000 in
theorem lnX3_20 : qLn RX3 20 mX0_init "SealLine" := List.mem_filterMap.mpr ⟨_, List.mem_of_getElem? (i := 167) rfl, rfl⟩
theorem fgX3_9 : qF RX3 9 3 0 := ⟨RX3, TX3, 4, rfl, by decide, jnX3, lk168⟩
set_option maxRecDepth 100000 in
theorem lk847 : Cond.methodLink "SealLine$Proof" 47 yJ7_fill_53178 ∈ qg := qg_mem (List.mem_of_getElem? (i := 847) rfl) rfl
set_option maxRecDepth 100000 in
theorem lk848 : Cond.methodLink "SealLine$Proof" 37 yX8_size ∈ qg := qg_mem (List.mem_of_getElem? (i := 848) rfl) rfl
set_option maxRecDepth 100000 in
theorem lk849 : Cond.methodLink "SealLine$Proof" 53 yX8_cell ∈ qg := qg_mem (List.mem_of_getElem? (i := 849) rfl) rfl
set_option maxRecDepth 100000 in
theorem lk850 : Cond.methodLink "SealLine$Proof" 57 yX7_has ∈ qg := qg_mem (List.mem_of_getElem? (i := 850) rfl) rfl
set_option maxRecDepth 100000 in
theorem lk385 : Cond.code yX7_has cX7_has 2 (some .boolean) ∈ qg := qg_mem (List.mem_of_getElem? (i := 385) rfl) rfl
set_option maxRecDepth 100000 in
theorem lk67 : Cond.initialized "SealLine$Shelf" ∈ qg := qg_mem (List.mem_of_getElem? (i := 67) rfl) rfl
set_option maxRecDepth 100000 in
theorem lk383 : Cond.instanceMethod yX7_has ∈ qg := qg_mem (List.mem_of_getElem? (i := 383) rfl) rfl
set_option maxRecDepth 100000 in
theorem lk384 : Cond.selects "SealLine$Shelf" yX7_has yX7_has ∈ qg := qg_mem (List.mem_of_getElem? (i := 384) rfl) rfl
theorem vX7_has : qMv mX7_has 1 := ⟨⟨lk385, lk67, by decide +kernel, by decide⟩, lk383, lk384⟩
set_option maxRecDepth 100000 in
theorem lk851 : Cond.methodLink "SealLine$Proof" 63 yX7_isGround ∈ qg := qg_mem (List.mem_of_getElem? (i := 851) rfl) rfl
set_option maxRecDepth 100000 in
theorem lk414 : Cond.code yX7_isGround cX7_isGround 4 (some .boolean) ∈ qg := qg_mem (List.mem_of_getElem? (i := 414) rfl) rfl
set_option maxRecDepth 100000 in
theorem lk412 : Cond.instanceMethod yX7_isGround ∈ qg := qg_mem (List.mem_of_getElem? (i := 412) rfl) rfl
set_option maxRecDepth 100000 in
theorem lk413 : Cond.selects "SealLine$Shelf" yX7_isGround yX7_isGround ∈ qg := qg_mem (List.mem_of_getElem? (i := 413) rfl) rfl
theorem vX7_isGround : qMv mX7_isGround 2 := ⟨⟨lk414, lk67, by decide +kernel, by decide⟩, lk412, lk413⟩
theorem fgX3_25 : qF RX3 25 3 3 := ⟨RX3, TX3, 4, rfl, by decide, jnX3, lk171⟩
theorem fgX3_21 : qF RX3 21 3 2 := ⟨RX3, TX3, 4, rfl, by decide, jnX3, lk170⟩
theorem fgX3_15 : qF RX3 15 3 1 := ⟨RX3, TX3, 4, rfl, by decide, jnX3, lk169⟩
set_option maxRecDepth 100000 in
theorem lk864 : Cond.methodLink "SealLine$Proof" 73 yX0_has ∈ qg := qg_mem (List.mem_of_getElem? (i := 864) rfl) rfl
set_option maxRecDepth 100000 in
theorem lk410 : Cond.code yX0_has cX0_has 2 (some .boolean) ∈ qg := qg_mem (List.mem_of_getElem? (i := 410) rfl) rfl
set_option maxRecDepth 100000 in
theorem lk408 : Cond.instanceMethod yX0_has ∈ qg := qg_mem (List.mem_of_getElem? (i := 408) rfl) rfl
set_option maxRecDepth 100000 in
theorem lk409 : Cond.selects "SealLine$FileSet" yX0_has yX0_has ∈ qg := qg_mem (List.mem_of_getElem? (i := 409) rfl) rfl
theorem vX0_has : qMv mX0_has 1 := ⟨⟨lk410, lk68, by decide +kernel, by decide⟩, lk408, lk409⟩
set_option maxRecDepth 100000 in
theorem lk865 : Cond.methodLink "SealLine$Proof" 74 yX0_add ∈ qg := qg_mem (List.mem_of_getElem? (i := 865) rfl) rfl
set_option maxRecDepth 100000 in
theorem lk856 : Cond.methodLink "SealLine$Proof" 66 yX0_empty ∈ qg := qg_mem (List.mem_of_getElem? (i := 856) rfl) rfl
set_option maxRecDepth 100000 in
theorem lk859 : Cond.code yX0_empty cX0_empty 1 none ∈ qg := qg_mem (List.mem_of_getElem? (i := 859) rfl) rfl
set_option maxRecDepth 100000 in
theorem lk857 : Cond.instanceMethod yX0_empty ∈ qg := qg_mem (List.mem_of_getElem? (i := 857) rfl) rfl
set_option maxRecDepth 100000 in
theorem lk858 : Cond.selects "SealLine$FileSet" yX0_empty yX0_empty ∈ qg := qg_mem (List.mem_of_getElem? (i := 858) rfl) rfl
theorem vX0_empty : qMv mX0_empty 0 := ⟨⟨lk859, lk68, by decide +kernel, by decide⟩, lk857, lk858⟩
set_option maxRecDepth 100000 in
theorem lk860 : Cond.methodLink "SealLine$Proof" 69 yX3_want ∈ qg := qg_mem (List.mem_of_getElem? (i := 860) rfl) rfl
set_option maxRecDepth 100000 in
theorem lk863 : Cond.code yX3_want cX3_want 2 none ∈ qg := qg_mem (List.mem_of_getElem? (i := 863) rfl) rfl
set_option maxRecDepth 100000 in
theorem lk69 : Cond.initialized "SealLine$Proof" ∈ qg := qg_mem (List.mem_of_getElem? (i := 69) rfl) rfl
set_option maxRecDepth 100000 in
theorem lk862 : Cond.instanceMethod yX3_want ∈ qg := qg_mem (List.mem_of_getElem? (i := 862) rfl) rfl
set_option maxRecDepth 100000 in
theorem lk30 : Cond.selects "SealLine$Proof" yX3_want yX3_want ∈ qg := qg_mem (List.mem_of_getElem? (i := 30) rfl) rfl
theorem vX3_want : qMv mX3_want 1 := ⟨⟨lk863, lk69, by decide +kernel, by decide⟩, lk862, lk30⟩
set_option maxRecDepth 100000 in
theorem lk843 : Cond.methodLink "SealLine$Proof" 29 yX3_findGrounds ∈ qg := qg_mem (List.mem_of_getElem? (i := 843) rfl) rfl
set_option maxRecDepth 100000 in
theorem lk846 : Cond.code yX3_findGrounds cX3_findGrounds 5 none ∈ qg := qg_mem (List.mem_of_getElem? (i := 846) rfl) rfl
set_option maxRecDepth 100000 in
theorem lk845 : Cond.instanceMethod yX3_findGrounds ∈ qg := qg_mem (List.mem_of_getElem? (i := 845) rfl) rfl
set_option maxRecDepth 100000 in
theorem lk28 : Cond.selects "SealLine$Proof" yX3_findGrounds yX3_findGrounds ∈ qg := qg_mem (List.mem_of_getElem? (i := 28) rfl) rfl
theorem vX3_findGrounds : qMv mX3_findGrounds 2 := ⟨⟨lk846, lk69, by decide +kernel, by decide⟩, lk845, lk28⟩
set_option maxRecDepth 100000 in
theorem lk852 : Cond.methodLink "SealLine$Proof" 33 yX3_gather ∈ qg := qg_mem (List.mem_of_getElem? (i := 852) rfl) rfl
set_option maxRecDepth 100000 in
theorem lk855 : Cond.code yX3_gather cX3_gather 5 none ∈ qg := qg_mem (List.mem_of_getElem? (i := 855) rfl) rfl
set_option maxRecDepth 100000 in
theorem lk854 : Cond.instanceMethod yX3_gather ∈ qg := qg_mem (List.mem_of_getElem? (i := 854) rfl) rfl
set_option maxRecDepth 100000 in
theorem lk29 : Cond.selects "SealLine$Proof" yX3_gather yX3_gather ∈ qg := qg_mem (List.mem_of_getElem? (i := 29) rfl) rfl
theorem vX3_gather : qMv mX3_gather 2 := ⟨⟨lk855, lk69, by decide +kernel, by decide⟩, lk854, lk29⟩
set_option maxRecDepth 100000 in
theorem lk866 : Cond.methodLink "SealLine$Proof" 43 yX3_isPart ∈ qg := qg_mem (List.mem_of_getElem? (i := 866) rfl) rfl
set_option maxRecDepth 100000 in
theorem lk869 : Cond.code yX3_isPart cX3_isPart 4 (some .boolean) ∈ qg := qg_mem (List.mem_of_getElem? (i := 869) rfl) rfl
set_option maxRecDepth 100000 in
theorem lk868 : Cond.instanceMethod yX3_isPart ∈ qg := qg_mem (List.mem_of_getElem? (i := 868) rfl) rfl
set_option maxRecDepth 100000 in
theorem lk31 : Cond.selects "SealLine$Proof" yX3_isPart yX3_isPart ∈ qg := qg_mem (List.mem_of_getElem? (i := 31) rfl) rfl
theorem vX3_isPart : qMv mX3_isPart 2 := ⟨⟨lk869, lk69, by decide +kernel, by decide⟩, lk868, lk31⟩
set_option maxRecDepth 100000 in
theorem lk252 : Cond.methodLink "SealLine$Keys" 3 Lib.objectInit ∈ qg := qg_mem (List.mem_of_getElem? (i := 252) rfl) rfl
set_option maxRecDepth 100000 in
theorem lk254 : Cond.fieldLink "SealLine$Keys" 9 "SealLine$Keys" "usesLeft" "[I" ∈ qg := qg_mem (List.mem_of_getElem? (i := 254) rfl) rfl
theorem fpX2_9 : qFp RX2 9 2 0 (.array .int) := ⟨RX2, TX2, 4, tyX2, rfl, by decide, jnX2, lk254, tyX2_ok, nmX2, rfl⟩
set_option maxRecDepth 100000 in
theorem lk267 : Cond.arrayClass .boolean ∈ qg := qg_mem (List.mem_of_getElem? (i := 267) rfl) rfl
set_option maxRecDepth 100000 in
theorem lk255 : Cond.fieldLink "SealLine$Keys" 15 "SealLine$Keys" "ended" "[Z" ∈ qg := qg_mem (List.mem_of_getElem? (i := 255) rfl) rfl
theorem fpX2_15 : qFp RX2 15 2 1 (.array .boolean) := ⟨RX2, TX2, 4, tyX2, rfl, by decide, jnX2, lk255, tyX2_ok, nmX2, rfl⟩
set_option maxRecDepth 100000 in
theorem lk256 : Cond.fieldLink "SealLine$Keys" 19 "SealLine$Keys" "lost" "[I" ∈ qg := qg_mem (List.mem_of_getElem? (i := 256) rfl) rfl
theorem fpX2_19 : qFp RX2 19 2 2 (.array .int) := ⟨RX2, TX2, 4, tyX2, rfl, by decide, jnX2, lk256, tyX2_ok, nmX2, rfl⟩
set_option maxRecDepth 100000 in
theorem lk257 : Cond.fieldLink "SealLine$Keys" 22 "SealLine$Keys" "manySeals" "[I" ∈ qg := qg_mem (List.mem_of_getElem? (i := 257) rfl) rfl
theorem fpX2_22 : qFp RX2 22 2 3 (.array .int) := ⟨RX2, TX2, 4, tyX2, rfl, by decide, jnX2, lk257, tyX2_ok, nmX2, rfl⟩
theorem fgX2_19 : qF RX2 19 2 2 := ⟨RX2, TX2, 4, rfl, by decide, jnX2, lk256⟩
set_option maxRecDepth 100000 in
theorem lk253 : Cond.methodLink "SealLine$Keys" 25 yJ7_fill_53178 ∈ qg := qg_mem (List.mem_of_getElem? (i := 253) rfl) rfl
theorem fgX2_15 : qF RX2 15 2 1 := ⟨RX2, TX2, 4, rfl, by decide, jnX2, lk255⟩
set_option maxRecDepth 100000 in
theorem lk640 : Cond.methodLink "SealLine$Keys" 31 yX2_isKey ∈ qg := qg_mem (List.mem_of_getElem? (i := 640) rfl) rfl
set_option maxRecDepth 100000 in
theorem lk642 : Cond.code yX2_isKey cX2_isKey 1 (some .boolean) ∈ qg := qg_mem (List.mem_of_getElem? (i := 642) rfl) rfl
set_option maxRecDepth 100000 in
theorem lk73 : Cond.initialized "SealLine$Keys" ∈ qg := qg_mem (List.mem_of_getElem? (i := 73) rfl) rfl
set_option maxRecDepth 100000 in
theorem lk641 : Cond.static yX2_isKey ∈ qg := qg_mem (List.mem_of_getElem? (i := 641) rfl) rfl
theorem tX2_isKey : qMs mX2_isKey 1 := ⟨⟨lk642, lk73, by decide +kernel, by decide⟩, lk641⟩
theorem fgX2_9 : qF RX2 9 2 0 := ⟨RX2, TX2, 4, rfl, by decide, jnX2, lk254⟩
set_option maxRecDepth 100000 in
theorem lk636 : Cond.methodLink "SealLine$Keys" 35 yX2_isLive ∈ qg := qg_mem (List.mem_of_getElem? (i := 636) rfl) rfl
set_option maxRecDepth 100000 in
theorem lk639 : Cond.code yX2_isLive cX2_isLive 2 (some .boolean) ∈ qg := qg_mem (List.mem_of_getElem? (i := 639) rfl) rfl
set_option maxRecDepth 100000 in
theorem lk638 : Cond.instanceMethod yX2_isLive ∈ qg := qg_mem (List.mem_of_getElem? (i := 638) rfl) rfl
set_option maxRecDepth 100000 in
theorem lk19 : Cond.selects "SealLine$Keys" yX2_isLive yX2_isLive ∈ qg := qg_mem (List.mem_of_getElem? (i := 19) rfl) rfl
theorem vX2_isLive : qMv mX2_isLive 1 := ⟨⟨lk639, lk73, by decide +kernel, by decide⟩, lk638, lk19⟩
theorem fgX2_22 : qF RX2 22 2 3 := ⟨RX2, TX2, 4, rfl, by decide, jnX2, lk257⟩
set_option maxRecDepth 100000 in
theorem lk701 : Cond.methodLink "SealLine$Keys" 38 yX2_canSeal ∈ qg := qg_mem (List.mem_of_getElem? (i := 701) rfl) rfl
set_option maxRecDepth 100000 in
theorem lk635 : Cond.code yX2_canSeal cX2_canSeal 2 (some .boolean) ∈ qg := qg_mem (List.mem_of_getElem? (i := 635) rfl) rfl
set_option maxRecDepth 100000 in
theorem lk633 : Cond.instanceMethod yX2_canSeal ∈ qg := qg_mem (List.mem_of_getElem? (i := 633) rfl) rfl
set_option maxRecDepth 100000 in
theorem lk634 : Cond.selects "SealLine$Keys" yX2_canSeal yX2_canSeal ∈ qg := qg_mem (List.mem_of_getElem? (i := 634) rfl) rfl
theorem vX2_canSeal : qMv mX2_canSeal 1 := ⟨⟨lk635, lk73, by decide +kernel, by decide⟩, lk633, lk634⟩
set_option maxRecDepth 100000 in
theorem lk714 : Cond.constant "SealLine$Keys" 41 1000000 ∈ qg := qg_mem (List.mem_of_getElem? (i := 714) rfl) rfl
set_option maxRecDepth 100000 in
theorem lnX2_42 : qLn RX2 42 mX10_bit "SealLine" := List.mem_filterMap.mpr ⟨_, List.mem_of_getElem? (i := 894) rfl, rfl⟩
set_option maxRecDepth 100000 in
theorem lk469 : Cond.code yX10_bit cX10_bit 1 (some .int) ∈ qg := qg_mem (List.mem_of_getElem? (i := 469) rfl) rfl
set_option maxRecDepth 100000 in
theorem lk468 : Cond.static yX10_bit ∈ qg := qg_mem (List.mem_of_getElem? (i := 468) rfl) rfl
theorem tX10_bit : qMs mX10_bit 1 := ⟨⟨lk469, lk63, by decide +kernel, by decide⟩, lk468⟩
set_option maxRecDepth 100000 in
theorem lk208 : Cond.methodLink "SealLine$Tape" 3 Lib.objectInit ∈ qg := qg_mem (List.mem_of_getElem? (i := 208) rfl) rfl
set_option maxRecDepth 100000 in
theorem lk209 : Cond.fieldLink "SealLine$Tape" 9 "SealLine$Tape" "bytes" "[I" ∈ qg := qg_mem (List.mem_of_getElem? (i := 209) rfl) rfl
theorem fpX9_9 : qFp RX9 9 9 0 (.array .int) := ⟨RX9, TX9, 8, tyX9, rfl, by decide, jnX9, lk209, tyX9_ok, nmX9, rfl⟩
set_option maxRecDepth 100000 in
theorem lk210 : Cond.fieldLink "SealLine$Tape" 15 "SealLine$Tape" "length" "I" ∈ qg := qg_mem (List.mem_of_getElem? (i := 210) rfl) rfl
theorem fpX9_15 : qFp RX9 15 9 1 .int := ⟨RX9, TX9, 8, tyX9, rfl, by decide, jnX9, lk210, tyX9_ok, nmX9, rfl⟩
set_option maxRecDepth 100000 in
theorem lk211 : Cond.fieldLink "SealLine$Tape" 19 "SealLine$Tape" "steps" "[I" ∈ qg := qg_mem (List.mem_of_getElem? (i := 211) rfl) rfl
theorem fpX9_19 : qFp RX9 19 9 2 (.array .int) := ⟨RX9, TX9, 8, tyX9, rfl, by decide, jnX9, lk211, tyX9_ok, nmX9, rfl⟩
set_option maxRecDepth 100000 in
theorem lk212 : Cond.fieldLink "SealLine$Tape" 22 "SealLine$Tape" "manySteps" "I" ∈ qg := qg_mem (List.mem_of_getElem? (i := 212) rfl) rfl
theorem fpX9_22 : qFp RX9 22 9 3 .int := ⟨RX9, TX9, 8, tyX9, rfl, by decide, jnX9, lk212, tyX9_ok, nmX9, rfl⟩
set_option maxRecDepth 100000 in
theorem lk213 : Cond.fieldLink "SealLine$Tape" 25 "SealLine$Tape" "state" "I" ∈ qg := qg_mem (List.mem_of_getElem? (i := 213) rfl) rfl
theorem fpX9_25 : qFp RX9 25 9 4 .int := ⟨RX9, TX9, 8, tyX9, rfl, by decide, jnX9, lk213, tyX9_ok, nmX9, rfl⟩
set_option maxRecDepth 100000 in
theorem lk214 : Cond.fieldLink "SealLine$Tape" 28 "SealLine$Tape" "depth" "I" ∈ qg := qg_mem (List.mem_of_getElem? (i := 214) rfl) rfl
theorem fpX9_28 : qFp RX9 28 9 5 .int := ⟨RX9, TX9, 8, tyX9, rfl, by decide, jnX9, lk214, tyX9_ok, nmX9, rfl⟩
set_option maxRecDepth 100000 in
theorem lk215 : Cond.fieldLink "SealLine$Tape" 31 "SealLine$Tape" "letter" "I" ∈ qg := qg_mem (List.mem_of_getElem? (i := 215) rfl) rfl
theorem fpX9_31 : qFp RX9 31 9 6 .int := ⟨RX9, TX9, 8, tyX9, rfl, by decide, jnX9, lk215, tyX9_ok, nmX9, rfl⟩
set_option maxRecDepth 100000 in
theorem lk216 : Cond.fieldLink "SealLine$Tape" 34 "SealLine$Tape" "sign" "I" ∈ qg := qg_mem (List.mem_of_getElem? (i := 216) rfl) rfl
theorem fpX9_34 : qFp RX9 34 9 7 .int := ⟨RX9, TX9, 8, tyX9, rfl, by decide, jnX9, lk216, tyX9_ok, nmX9, rfl⟩
theorem fgX9_15 : qF RX9 15 9 1 := ⟨RX9, TX9, 8, rfl, by decide, jnX9, lk210⟩
theorem fgX9_9 : qF RX9 9 9 0 := ⟨RX9, TX9, 8, rfl, by decide, jnX9, lk209⟩
set_option maxRecDepth 100000 in
theorem lnX9_37 : qLn RX9 37 mX10_bit "SealLine" := List.mem_filterMap.mpr ⟨_, List.mem_of_getElem? (i := 514) rfl, rfl⟩
theorem fgX9_22 : qF RX9 22 9 3 := ⟨RX9, TX9, 8, rfl, by decide, jnX9, lk212⟩
theorem fgX9_19 : qF RX9 19 9 2 := ⟨RX9, TX9, 8, rfl, by decide, jnX9, lk211⟩
theorem fgX9_28 : qF RX9 28 9 5 := ⟨RX9, TX9, 8, rfl, by decide, jnX9, lk214⟩
theorem fgX9_31 : qF RX9 31 9 6 := ⟨RX9, TX9, 8, rfl, by decide, jnX9, lk215⟩
set_option maxRecDepth 100000 in
theorem lk546 : Cond.methodLink "SealLine$Tape" 72 yX9_addStep ∈ qg := qg_mem (List.mem_of_getElem? (i := 546) rfl) rfl
set_option maxRecDepth 100000 in
theorem lk549 : Cond.code yX9_addStep cX9_addStep 2 none ∈ qg := qg_mem (List.mem_of_getElem? (i := 549) rfl) rfl
set_option maxRecDepth 100000 in
theorem lk71 : Cond.initialized "SealLine$Tape" ∈ qg := qg_mem (List.mem_of_getElem? (i := 71) rfl) rfl
set_option maxRecDepth 100000 in
theorem lk548 : Cond.instanceMethod yX9_addStep ∈ qg := qg_mem (List.mem_of_getElem? (i := 548) rfl) rfl
set_option maxRecDepth 100000 in
theorem lk14 : Cond.selects "SealLine$Tape" yX9_addStep yX9_addStep ∈ qg := qg_mem (List.mem_of_getElem? (i := 14) rfl) rfl
theorem vX9_addStep : qMv mX9_addStep 1 := ⟨⟨lk549, lk71, by decide +kernel, by decide⟩, lk548, lk14⟩
theorem fgX9_34 : qF RX9 34 9 7 := ⟨RX9, TX9, 8, rfl, by decide, jnX9, lk216⟩
set_option maxRecDepth 100000 in
theorem lk535 : Cond.methodLink "SealLine$Tape" 51 yX9_isDigit ∈ qg := qg_mem (List.mem_of_getElem? (i := 535) rfl) rfl
set_option maxRecDepth 100000 in
theorem lk537 : Cond.code yX9_isDigit cX9_isDigit 1 (some .boolean) ∈ qg := qg_mem (List.mem_of_getElem? (i := 537) rfl) rfl
set_option maxRecDepth 100000 in
theorem lk536 : Cond.static yX9_isDigit ∈ qg := qg_mem (List.mem_of_getElem? (i := 536) rfl) rfl
theorem tX9_isDigit : qMs mX9_isDigit 1 := ⟨⟨lk537, lk71, by decide +kernel, by decide⟩, lk536⟩
set_option maxRecDepth 100000 in
theorem lk558 : Cond.methodLink "SealLine$Tape" 75 yX6_test ∈ qg := qg_mem (List.mem_of_getElem? (i := 558) rfl) rfl
set_option maxRecDepth 100000 in
theorem lk560 : Cond.code yX6_test cX6_test 3 (some .int) ∈ qg := qg_mem (List.mem_of_getElem? (i := 560) rfl) rfl
set_option maxRecDepth 100000 in
theorem lk559 : Cond.static yX6_test ∈ qg := qg_mem (List.mem_of_getElem? (i := 559) rfl) rfl
theorem tX6_test : qMs mX6_test 3 := ⟨⟨lk560, lk75, by decide +kernel, by decide⟩, lk559⟩
theorem fgX9_25 : qF RX9 25 9 4 := ⟨RX9, TX9, 8, rfl, by decide, jnX9, lk213⟩
set_option maxRecDepth 100000 in
theorem lk538 : Cond.methodLink "SealLine$Tape" 54 yX9_lengthenNumber ∈ qg := qg_mem (List.mem_of_getElem? (i := 538) rfl) rfl
set_option maxRecDepth 100000 in
theorem lk541 : Cond.code yX9_lengthenNumber cX9_lengthenNumber 3 none ∈ qg := qg_mem (List.mem_of_getElem? (i := 541) rfl) rfl
set_option maxRecDepth 100000 in
theorem lk540 : Cond.instanceMethod yX9_lengthenNumber ∈ qg := qg_mem (List.mem_of_getElem? (i := 540) rfl) rfl
set_option maxRecDepth 100000 in
theorem lk12 : Cond.selects "SealLine$Tape" yX9_lengthenNumber yX9_lengthenNumber ∈ qg := qg_mem (List.mem_of_getElem? (i := 12) rfl) rfl
theorem vX9_lengthenNumber : qMv mX9_lengthenNumber 1 := ⟨⟨lk541, lk71, by decide +kernel, by decide⟩, lk540, lk12⟩
set_option maxRecDepth 100000 in
theorem lk542 : Cond.methodLink "SealLine$Tape" 58 yX9_takeUnit ∈ qg := qg_mem (List.mem_of_getElem? (i := 542) rfl) rfl
set_option maxRecDepth 100000 in
theorem lk545 : Cond.code yX9_takeUnit cX9_takeUnit 2 (some .boolean) ∈ qg := qg_mem (List.mem_of_getElem? (i := 545) rfl) rfl
set_option maxRecDepth 100000 in
theorem lk544 : Cond.instanceMethod yX9_takeUnit ∈ qg := qg_mem (List.mem_of_getElem? (i := 544) rfl) rfl
set_option maxRecDepth 100000 in
theorem lk13 : Cond.selects "SealLine$Tape" yX9_takeUnit yX9_takeUnit ∈ qg := qg_mem (List.mem_of_getElem? (i := 13) rfl) rfl
theorem vX9_takeUnit : qMv mX9_takeUnit 1 := ⟨⟨lk545, lk71, by decide +kernel, by decide⟩, lk544, lk13⟩
set_option maxRecDepth 100000 in
theorem lk550 : Cond.methodLink "SealLine$Tape" 61 yX9_takeSign ∈ qg := qg_mem (List.mem_of_getElem? (i := 550) rfl) rfl
set_option maxRecDepth 100000 in
theorem lk553 : Cond.code yX9_takeSign cX9_takeSign 2 (some .boolean) ∈ qg := qg_mem (List.mem_of_getElem? (i := 553) rfl) rfl
set_option maxRecDepth 100000 in
theorem lk552 : Cond.instanceMethod yX9_takeSign ∈ qg := qg_mem (List.mem_of_getElem? (i := 552) rfl) rfl
set_option maxRecDepth 100000 in
theorem lk15 : Cond.selects "SealLine$Tape" yX9_takeSign yX9_takeSign ∈ qg := qg_mem (List.mem_of_getElem? (i := 15) rfl) rfl
theorem vX9_takeSign : qMv mX9_takeSign 1 := ⟨⟨lk553, lk71, by decide +kernel, by decide⟩, lk552, lk15⟩
set_option maxRecDepth 100000 in
theorem lk554 : Cond.methodLink "SealLine$Tape" 64 yX9_takeDigit ∈ qg := qg_mem (List.mem_of_getElem? (i := 554) rfl) rfl
set_option maxRecDepth 100000 in
theorem lk557 : Cond.code yX9_takeDigit cX9_takeDigit 2 (some .boolean) ∈ qg := qg_mem (List.mem_of_getElem? (i := 557) rfl) rfl
set_option maxRecDepth 100000 in
theorem lk556 : Cond.instanceMethod yX9_takeDigit ∈ qg := qg_mem (List.mem_of_getElem? (i := 556) rfl) rfl
set_option maxRecDepth 100000 in
theorem lk16 : Cond.selects "SealLine$Tape" yX9_takeDigit yX9_takeDigit ∈ qg := qg_mem (List.mem_of_getElem? (i := 16) rfl) rfl
theorem vX9_takeDigit : qMv mX9_takeDigit 1 := ⟨⟨lk557, lk71, by decide +kernel, by decide⟩, lk556, lk16⟩
set_option maxRecDepth 100000 in
theorem lk561 : Cond.methodLink "SealLine$Tape" 67 yX9_takeJoin ∈ qg := qg_mem (List.mem_of_getElem? (i := 561) rfl) rfl
set_option maxRecDepth 100000 in
theorem lk564 : Cond.code yX9_takeJoin cX9_takeJoin 2 (some .boolean) ∈ qg := qg_mem (List.mem_of_getElem? (i := 564) rfl) rfl
set_option maxRecDepth 100000 in
theorem lk563 : Cond.instanceMethod yX9_takeJoin ∈ qg := qg_mem (List.mem_of_getElem? (i := 563) rfl) rfl
set_option maxRecDepth 100000 in
theorem lk17 : Cond.selects "SealLine$Tape" yX9_takeJoin yX9_takeJoin ∈ qg := qg_mem (List.mem_of_getElem? (i := 17) rfl) rfl
theorem vX9_takeJoin : qMv mX9_takeJoin 1 := ⟨⟨lk564, lk71, by decide +kernel, by decide⟩, lk563, lk17⟩
set_option maxRecDepth 100000 in
theorem lk531 : Cond.methodLink "SealLine$Tape" 41 yX9_take ∈ qg := qg_mem (List.mem_of_getElem? (i := 531) rfl) rfl
set_option maxRecDepth 100000 in
theorem lk534 : Cond.code yX9_take cX9_take 2 (some .boolean) ∈ qg := qg_mem (List.mem_of_getElem? (i := 534) rfl) rfl
set_option maxRecDepth 100000 in
theorem lk533 : Cond.instanceMethod yX9_take ∈ qg := qg_mem (List.mem_of_getElem? (i := 533) rfl) rfl
set_option maxRecDepth 100000 in
theorem lk11 : Cond.selects "SealLine$Tape" yX9_take yX9_take ∈ qg := qg_mem (List.mem_of_getElem? (i := 11) rfl) rfl
theorem vX9_take : qMv mX9_take 1 := ⟨⟨lk534, lk71, by decide +kernel, by decide⟩, lk533, lk11⟩
set_option maxRecDepth 100000 in
theorem lk573 : Cond.methodLink "SealLine$Tape" 45 yJ7_copyOf_59c91 ∈ qg := qg_mem (List.mem_of_getElem? (i := 573) rfl) rfl
set_option maxRecDepth 100000 in
theorem lk575 : Cond.code yJ7_copyOf_59c91 cJ7_copyOf_59c91 3 (some (.array .int)) ∈ qg := qg_mem (List.mem_of_getElem? (i := 575) rfl) rfl
set_option maxRecDepth 100000 in
theorem lk574 : Cond.static yJ7_copyOf_59c91 ∈ qg := qg_mem (List.mem_of_getElem? (i := 574) rfl) rfl
theorem tJ7_copyOf_59c91 : qMs mJ7_copyOf_59c91 2 := ⟨⟨lk575, lk66, by decide +kernel, by decide⟩, lk574⟩
set_option maxRecDepth 100000 in
theorem lk142 : Cond.fieldLink "SealLine$Shelf" 39 "SealLine$Shelf" "many" "I" ∈ qg := qg_mem (List.mem_of_getElem? (i := 142) rfl) rfl
theorem fgX7_39 : qF RX7 39 7 7 := ⟨RX7, TX7, 8, rfl, by decide, jnX7, lk142⟩
set_option maxRecDepth 100000 in
theorem lk141 : Cond.fieldLink "SealLine$Shelf" 35 "SealLine$Shelf" "clean" "LSealLine$FileSet;" ∈ qg := qg_mem (List.mem_of_getElem? (i := 141) rfl) rfl
theorem fgX7_35 : qF RX7 35 7 6 := ⟨RX7, TX7, 8, rfl, by decide, jnX7, lk141⟩
set_option maxRecDepth 100000 in
theorem lk407 : Cond.methodLink "SealLine$Shelf" 62 yX0_has ∈ qg := qg_mem (List.mem_of_getElem? (i := 407) rfl) rfl
set_option maxRecDepth 100000 in
theorem lk399 : Cond.methodLink "SealLine$Shelf" 88 yX8_cell ∈ qg := qg_mem (List.mem_of_getElem? (i := 399) rfl) rfl
set_option maxRecDepth 100000 in
theorem lk415 : Cond.methodLink "SealLine$Shelf" 94 yX7_isCleanInput ∈ qg := qg_mem (List.mem_of_getElem? (i := 415) rfl) rfl
set_option maxRecDepth 100000 in
theorem lk418 : Cond.code yX7_isCleanInput cX7_isCleanInput 2 (some .boolean) ∈ qg := qg_mem (List.mem_of_getElem? (i := 418) rfl) rfl
set_option maxRecDepth 100000 in
theorem lk417 : Cond.instanceMethod yX7_isCleanInput ∈ qg := qg_mem (List.mem_of_getElem? (i := 417) rfl) rfl
set_option maxRecDepth 100000 in
theorem lk5 : Cond.selects "SealLine$Shelf" yX7_isCleanInput yX7_isCleanInput ∈ qg := qg_mem (List.mem_of_getElem? (i := 5) rfl) rfl
theorem vX7_isCleanInput : qMv mX7_isCleanInput 1 := ⟨⟨lk418, lk67, by decide +kernel, by decide⟩, lk417, lk5⟩
set_option maxRecDepth 100000 in
theorem lk119 : Cond.methodLink "SealLine$Shelf" 3 Lib.objectInit ∈ qg := qg_mem (List.mem_of_getElem? (i := 119) rfl) rfl
set_option maxRecDepth 100000 in
theorem lk134 : Cond.arrayClass .long ∈ qg := qg_mem (List.mem_of_getElem? (i := 134) rfl) rfl
set_option maxRecDepth 100000 in
theorem lk135 : Cond.fieldLink "SealLine$Shelf" 9 "SealLine$Shelf" "hashes" "[J" ∈ qg := qg_mem (List.mem_of_getElem? (i := 135) rfl) rfl
theorem fpX7_9 : qFp RX7 9 7 0 (.array .long) := ⟨RX7, TX7, 8, tyX7, rfl, by decide, jnX7, lk135, tyX7_ok, nmX7, rfl⟩
set_option maxRecDepth 100000 in
theorem lk120 : Cond.classLink "SealLine$Shelf" 15 "SealLine$FileSet" ∈ qg := qg_mem (List.mem_of_getElem? (i := 120) rfl) rfl
set_option maxRecDepth 100000 in
theorem lk136 : Cond.fieldLink "SealLine$Shelf" 17 "SealLine$Shelf" "rows" "[LSealLine$FileSet;" ∈ qg := qg_mem (List.mem_of_getElem? (i := 136) rfl) rfl
theorem fpX7_17 : qFp RX7 17 7 1 (.array (.object "SealLine$FileSet")) := ⟨RX7, TX7, 8, tyX7, rfl, by decide, jnX7, lk136, tyX7_ok, nmX7, rfl⟩
set_option maxRecDepth 100000 in
theorem lk137 : Cond.fieldLink "SealLine$Shelf" 21 "SealLine$Shelf" "ownMakers" "[I" ∈ qg := qg_mem (List.mem_of_getElem? (i := 137) rfl) rfl
theorem fpX7_21 : qFp RX7 21 7 2 (.array .int) := ⟨RX7, TX7, 8, tyX7, rfl, by decide, jnX7, lk137, tyX7_ok, nmX7, rfl⟩
set_option maxRecDepth 100000 in
theorem lk138 : Cond.fieldLink "SealLine$Shelf" 25 "SealLine$Shelf" "builders" "[I" ∈ qg := qg_mem (List.mem_of_getElem? (i := 138) rfl) rfl
theorem fpX7_25 : qFp RX7 25 7 3 (.array .int) := ⟨RX7, TX7, 8, tyX7, rfl, by decide, jnX7, lk138, tyX7_ok, nmX7, rfl⟩
set_option maxRecDepth 100000 in
theorem lk139 : Cond.fieldLink "SealLine$Shelf" 28 "SealLine$Shelf" "tryers" "[I" ∈ qg := qg_mem (List.mem_of_getElem? (i := 139) rfl) rfl
theorem fpX7_28 : qFp RX7 28 7 4 (.array .int) := ⟨RX7, TX7, 8, tyX7, rfl, by decide, jnX7, lk139, tyX7_ok, nmX7, rfl⟩
set_option maxRecDepth 100000 in
theorem lk140 : Cond.fieldLink "SealLine$Shelf" 31 "SealLine$Shelf" "reviewers" "[I" ∈ qg := qg_mem (List.mem_of_getElem? (i := 140) rfl) rfl
theorem fpX7_31 : qFp RX7 31 7 5 (.array .int) := ⟨RX7, TX7, 8, tyX7, rfl, by decide, jnX7, lk140, tyX7_ok, nmX7, rfl⟩
theorem nwX7_15 : qNw RX7 15 0 2 [.long 0, .long 0] := ⟨RX0, TX0, tyX0, rfl, jnX0, tyX0_ok, lk120, lk122, lk68, by decide +kernel, fun _ => rfl⟩
theorem fpX7_35 : qFp RX7 35 7 6 (.object "SealLine$FileSet") := ⟨RX7, TX7, 8, tyX7, rfl, by decide, jnX7, lk141, tyX7_ok, nmX7, rfl⟩
theorem fpX7_39 : qFp RX7 39 7 7 .int := ⟨RX7, TX7, 8, tyX7, rfl, by decide, jnX7, lk142, tyX7_ok, nmX7, rfl⟩
theorem fgX7_17 : qF RX7 17 7 1 := ⟨RX7, TX7, 8, rfl, by decide, jnX7, lk136⟩
set_option maxRecDepth 100000 in
theorem lnX7_34 : qLn RX7 34 mX0_init "SealLine" := List.mem_filterMap.mpr ⟨_, List.mem_of_getElem? (i := 123) rfl, rfl⟩
theorem fgX7_9 : qF RX7 9 7 0 := ⟨RX7, TX7, 8, rfl, by decide, jnX7, lk135⟩
set_option maxRecDepth 100000 in
theorem lk382 : Cond.methodLink "SealLine$Shelf" 43 yX7_has ∈ qg := qg_mem (List.mem_of_getElem? (i := 382) rfl) rfl
set_option maxRecDepth 100000 in
theorem lk349 : Cond.methodLink "SealLine$Shelf" 47 yX7_numberOf ∈ qg := qg_mem (List.mem_of_getElem? (i := 349) rfl) rfl
set_option maxRecDepth 100000 in
theorem lk352 : Cond.code yX7_numberOf cX7_numberOf 4 (some .int) ∈ qg := qg_mem (List.mem_of_getElem? (i := 352) rfl) rfl
set_option maxRecDepth 100000 in
theorem lk350 : Cond.instanceMethod yX7_numberOf ∈ qg := qg_mem (List.mem_of_getElem? (i := 350) rfl) rfl
set_option maxRecDepth 100000 in
theorem lk351 : Cond.selects "SealLine$Shelf" yX7_numberOf yX7_numberOf ∈ qg := qg_mem (List.mem_of_getElem? (i := 351) rfl) rfl
theorem vX7_numberOf : qMv mX7_numberOf 1 := ⟨⟨lk352, lk67, by decide +kernel, by decide⟩, lk350, lk351⟩
set_option maxRecDepth 100000 in
theorem lk353 : Cond.methodLink "SealLine$Shelf" 51 yX0_add ∈ qg := qg_mem (List.mem_of_getElem? (i := 353) rfl) rfl
set_option maxRecDepth 100000 in
theorem lnX7_59 : qLn RX7 59 mX10_isHand "SealLine" := List.mem_filterMap.mpr ⟨_, List.mem_of_getElem? (i := 386) rfl, rfl⟩
theorem fgX7_21 : qF RX7 21 7 2 := ⟨RX7, TX7, 8, rfl, by decide, jnX7, lk137⟩
set_option maxRecDepth 100000 in
theorem lk378 : Cond.methodLink "SealLine$Shelf" 55 yX7_setHand ∈ qg := qg_mem (List.mem_of_getElem? (i := 378) rfl) rfl
set_option maxRecDepth 100000 in
theorem lk381 : Cond.code yX7_setHand cX7_setHand 5 none ∈ qg := qg_mem (List.mem_of_getElem? (i := 381) rfl) rfl
set_option maxRecDepth 100000 in
theorem lk380 : Cond.instanceMethod yX7_setHand ∈ qg := qg_mem (List.mem_of_getElem? (i := 380) rfl) rfl
set_option maxRecDepth 100000 in
theorem lk2 : Cond.selects "SealLine$Shelf" yX7_setHand yX7_setHand ∈ qg := qg_mem (List.mem_of_getElem? (i := 2) rfl) rfl
theorem vX7_setHand : qMv mX7_setHand 4 := ⟨⟨lk381, lk67, by decide +kernel, by decide⟩, lk380, lk2⟩
theorem fgX7_25 : qF RX7 25 7 3 := ⟨RX7, TX7, 8, rfl, by decide, jnX7, lk138⟩
theorem fgX7_28 : qF RX7 28 7 4 := ⟨RX7, TX7, 8, rfl, by decide, jnX7, lk139⟩
theorem fgX7_31 : qF RX7 31 7 5 := ⟨RX7, TX7, 8, rfl, by decide, jnX7, lk140⟩
set_option maxRecDepth 100000 in
theorem lk478 : Cond.methodLink "SealLine$Shelf" 63 yX0_addAll ∈ qg := qg_mem (List.mem_of_getElem? (i := 478) rfl) rfl
set_option maxRecDepth 100000 in
theorem lk481 : Cond.code yX0_addAll cX0_addAll 2 none ∈ qg := qg_mem (List.mem_of_getElem? (i := 481) rfl) rfl
set_option maxRecDepth 100000 in
theorem lk479 : Cond.instanceMethod yX0_addAll ∈ qg := qg_mem (List.mem_of_getElem? (i := 479) rfl) rfl
set_option maxRecDepth 100000 in
theorem lk480 : Cond.selects "SealLine$FileSet" yX0_addAll yX0_addAll ∈ qg := qg_mem (List.mem_of_getElem? (i := 480) rfl) rfl
theorem vX0_addAll : qMv mX0_addAll 1 := ⟨⟨lk481, lk68, by decide +kernel, by decide⟩, lk479, lk480⟩
set_option maxRecDepth 100000 in
theorem lk693 : Cond.methodLink "SealLine$Shelf" 67 yX0_meets ∈ qg := qg_mem (List.mem_of_getElem? (i := 693) rfl) rfl
set_option maxRecDepth 100000 in
theorem lk696 : Cond.code yX0_meets cX0_meets 2 (some .boolean) ∈ qg := qg_mem (List.mem_of_getElem? (i := 696) rfl) rfl
set_option maxRecDepth 100000 in
theorem lk694 : Cond.instanceMethod yX0_meets ∈ qg := qg_mem (List.mem_of_getElem? (i := 694) rfl) rfl
set_option maxRecDepth 100000 in
theorem lk695 : Cond.selects "SealLine$FileSet" yX0_meets yX0_meets ∈ qg := qg_mem (List.mem_of_getElem? (i := 695) rfl) rfl
theorem vX0_meets : qMv mX0_meets 1 := ⟨⟨lk696, lk68, by decide +kernel, by decide⟩, lk694, lk695⟩
set_option maxRecDepth 100000 in
theorem lk766 : Cond.methodLink "SealLine$Shelf" 71 yX0_size ∈ qg := qg_mem (List.mem_of_getElem? (i := 766) rfl) rfl
set_option maxRecDepth 100000 in
theorem lk769 : Cond.code yX0_size cX0_size 1 (some .int) ∈ qg := qg_mem (List.mem_of_getElem? (i := 769) rfl) rfl
set_option maxRecDepth 100000 in
theorem lk767 : Cond.instanceMethod yX0_size ∈ qg := qg_mem (List.mem_of_getElem? (i := 767) rfl) rfl
set_option maxRecDepth 100000 in
theorem lk768 : Cond.selects "SealLine$FileSet" yX0_size yX0_size ∈ qg := qg_mem (List.mem_of_getElem? (i := 768) rfl) rfl
theorem vX0_size : qMv mX0_size 0 := ⟨⟨lk769, lk68, by decide +kernel, by decide⟩, lk767, lk768⟩
set_option maxRecDepth 100000 in
theorem lk631 : Cond.methodLink "SealLine$Shelf" 75 yX7_rowHas ∈ qg := qg_mem (List.mem_of_getElem? (i := 631) rfl) rfl
set_option maxRecDepth 100000 in
theorem lk452 : Cond.code yX7_rowHas cX7_rowHas 3 (some .boolean) ∈ qg := qg_mem (List.mem_of_getElem? (i := 452) rfl) rfl
set_option maxRecDepth 100000 in
theorem lk450 : Cond.instanceMethod yX7_rowHas ∈ qg := qg_mem (List.mem_of_getElem? (i := 450) rfl) rfl
set_option maxRecDepth 100000 in
theorem lk451 : Cond.selects "SealLine$Shelf" yX7_rowHas yX7_rowHas ∈ qg := qg_mem (List.mem_of_getElem? (i := 451) rfl) rfl
theorem vX7_rowHas : qMv mX7_rowHas 2 := ⟨⟨lk452, lk67, by decide +kernel, by decide⟩, lk450, lk451⟩
set_option maxRecDepth 100000 in
theorem lk653 : Cond.methodLink "SealLine$Shelf" 79 yJ6_bitCount_0f7a4 ∈ qg := qg_mem (List.mem_of_getElem? (i := 653) rfl) rfl
set_option maxRecDepth 100000 in
theorem lk655 : Cond.code yJ6_bitCount_0f7a4 cJ6_bitCount_0f7a4 1 (some .int) ∈ qg := qg_mem (List.mem_of_getElem? (i := 655) rfl) rfl
set_option maxRecDepth 100000 in
theorem lk654 : Cond.static yJ6_bitCount_0f7a4 ∈ qg := qg_mem (List.mem_of_getElem? (i := 654) rfl) rfl
theorem tJ6_bitCount_0f7a4 : qMs mJ6_bitCount_0f7a4 1 := ⟨⟨lk655, lk78, by decide +kernel, by decide⟩, lk654⟩
set_option maxRecDepth 100000 in
theorem lk652 : Cond.methodLink "SealLine$Shelf" 85 yX7_makersOf ∈ qg := qg_mem (List.mem_of_getElem? (i := 652) rfl) rfl
set_option maxRecDepth 100000 in
theorem lk630 : Cond.code yX7_makersOf cX7_makersOf 4 (some .int) ∈ qg := qg_mem (List.mem_of_getElem? (i := 630) rfl) rfl
set_option maxRecDepth 100000 in
theorem lk628 : Cond.instanceMethod yX7_makersOf ∈ qg := qg_mem (List.mem_of_getElem? (i := 628) rfl) rfl
set_option maxRecDepth 100000 in
theorem lk629 : Cond.selects "SealLine$Shelf" yX7_makersOf yX7_makersOf ∈ qg := qg_mem (List.mem_of_getElem? (i := 629) rfl) rfl
theorem vX7_makersOf : qMv mX7_makersOf 1 := ⟨⟨lk630, lk67, by decide +kernel, by decide⟩, lk628, lk629⟩
set_option maxRecDepth 100000 in
theorem lk403 : Cond.methodLink "SealLine$Shelf" 102 yX7_isClean ∈ qg := qg_mem (List.mem_of_getElem? (i := 403) rfl) rfl
set_option maxRecDepth 100000 in
theorem lk406 : Cond.code yX7_isClean cX7_isClean 2 (some .boolean) ∈ qg := qg_mem (List.mem_of_getElem? (i := 406) rfl) rfl
set_option maxRecDepth 100000 in
theorem lk404 : Cond.instanceMethod yX7_isClean ∈ qg := qg_mem (List.mem_of_getElem? (i := 404) rfl) rfl
set_option maxRecDepth 100000 in
theorem lk405 : Cond.selects "SealLine$Shelf" yX7_isClean yX7_isClean ∈ qg := qg_mem (List.mem_of_getElem? (i := 405) rfl) rfl
theorem vX7_isClean : qMv mX7_isClean 1 := ⟨⟨lk406, lk67, by decide +kernel, by decide⟩, lk404, lk405⟩
set_option maxRecDepth 100000 in
theorem lk411 : Cond.methodLink "SealLine$Shelf" 105 yX7_isGround ∈ qg := qg_mem (List.mem_of_getElem? (i := 411) rfl) rfl
set_option maxRecDepth 100000 in
theorem lk395 : Cond.methodLink "SealLine$Shelf" 97 yX7_addClean ∈ qg := qg_mem (List.mem_of_getElem? (i := 395) rfl) rfl
set_option maxRecDepth 100000 in
theorem lk398 : Cond.code yX7_addClean cX7_addClean 4 (some .boolean) ∈ qg := qg_mem (List.mem_of_getElem? (i := 398) rfl) rfl
set_option maxRecDepth 100000 in
theorem lk397 : Cond.instanceMethod yX7_addClean ∈ qg := qg_mem (List.mem_of_getElem? (i := 397) rfl) rfl
set_option maxRecDepth 100000 in
theorem lk4 : Cond.selects "SealLine$Shelf" yX7_addClean yX7_addClean ∈ qg := qg_mem (List.mem_of_getElem? (i := 4) rfl) rfl
theorem vX7_addClean : qMv mX7_addClean 2 := ⟨⟨lk398, lk67, by decide +kernel, by decide⟩, lk397, lk4⟩
set_option maxRecDepth 100000 in
theorem lk419 : Cond.methodLink "SealLine$Shelf" 101 yX8_size ∈ qg := qg_mem (List.mem_of_getElem? (i := 419) rfl) rfl
set_option maxRecDepth 100000 in
theorem lk85 : Cond.methodLink "SealLine" 1 Lib.objectInit ∈ qg := qg_mem (List.mem_of_getElem? (i := 85) rfl) rfl
set_option maxRecDepth 100000 in
theorem lk88 : Cond.classLink "SealLine" 7 "SealLine$Table" ∈ qg := qg_mem (List.mem_of_getElem? (i := 88) rfl) rfl
set_option maxRecDepth 100000 in
theorem lk89 : Cond.instantiable "SealLine$Table" 4 ∈ qg := qg_mem (List.mem_of_getElem? (i := 89) rfl) rfl
theorem nwX10_7 : qNw RX10 7 8 4 [.int 0, .int 0, .null, .int 0] := ⟨RX8, TX8, tyX8, rfl, jnX8, tyX8_ok, lk88, lk89, lk64, by decide +kernel, fun _ => rfl⟩
set_option maxRecDepth 100000 in
theorem lk300 : Cond.fieldLink "SealLine" 14 "SealLine" "notes" "LSealLine$Table;" ∈ qg := qg_mem (List.mem_of_getElem? (i := 300) rfl) rfl
theorem fpX10_14 : qFp RX10 14 10 0 (.object "SealLine$Table") := ⟨RX10, TX10, 11, tyX10, rfl, by decide, jnX10, lk300, tyX10_ok, nmX10, rfl⟩
set_option maxRecDepth 100000 in
theorem lk301 : Cond.fieldLink "SealLine" 18 "SealLine" "seals" "LSealLine$Table;" ∈ qg := qg_mem (List.mem_of_getElem? (i := 301) rfl) rfl
theorem fpX10_18 : qFp RX10 18 10 1 (.object "SealLine$Table") := ⟨RX10, TX10, 11, tyX10, rfl, by decide, jnX10, lk301, tyX10_ok, nmX10, rfl⟩
set_option maxRecDepth 100000 in
theorem lk114 : Cond.classLink "SealLine" 21 "SealLine$Shelf" ∈ qg := qg_mem (List.mem_of_getElem? (i := 114) rfl) rfl
set_option maxRecDepth 100000 in
theorem lk115 : Cond.instantiable "SealLine$Shelf" 8 ∈ qg := qg_mem (List.mem_of_getElem? (i := 115) rfl) rfl
theorem nwX10_21 : qNw RX10 21 7 8 [.null, .null, .null, .null, .null, .null, .null, .int 0] := ⟨RX7, TX7, tyX7, rfl, jnX7, tyX7_ok, lk114, lk115, lk67, by decide +kernel, fun _ => rfl⟩
set_option maxRecDepth 100000 in
theorem lk302 : Cond.fieldLink "SealLine" 24 "SealLine" "shelf" "LSealLine$Shelf;" ∈ qg := qg_mem (List.mem_of_getElem? (i := 302) rfl) rfl
theorem fpX10_24 : qFp RX10 24 10 2 (.object "SealLine$Shelf") := ⟨RX10, TX10, 11, tyX10, rfl, by decide, jnX10, lk302, tyX10_ok, nmX10, rfl⟩
set_option maxRecDepth 100000 in
theorem lk160 : Cond.classLink "SealLine" 28 "SealLine$Proof" ∈ qg := qg_mem (List.mem_of_getElem? (i := 160) rfl) rfl
set_option maxRecDepth 100000 in
theorem lk161 : Cond.instantiable "SealLine$Proof" 4 ∈ qg := qg_mem (List.mem_of_getElem? (i := 161) rfl) rfl
theorem nwX10_28 : qNw RX10 28 3 4 [.null, .null, .null, .int 0] := ⟨RX3, TX3, tyX3, rfl, jnX3, tyX3_ok, lk160, lk161, lk69, by decide +kernel, fun _ => rfl⟩
set_option maxRecDepth 100000 in
theorem lk303 : Cond.fieldLink "SealLine" 31 "SealLine" "proofs" "LSealLine$Proof;" ∈ qg := qg_mem (List.mem_of_getElem? (i := 303) rfl) rfl
theorem fpX10_31 : qFp RX10 31 10 3 (.object "SealLine$Proof") := ⟨RX10, TX10, 11, tyX10, rfl, by decide, jnX10, lk303, tyX10_ok, nmX10, rfl⟩
set_option maxRecDepth 100000 in
theorem lk181 : Cond.classLink "SealLine" 35 "SealLine$Recalls" ∈ qg := qg_mem (List.mem_of_getElem? (i := 181) rfl) rfl
set_option maxRecDepth 100000 in
theorem lk182 : Cond.instantiable "SealLine$Recalls" 4 ∈ qg := qg_mem (List.mem_of_getElem? (i := 182) rfl) rfl
theorem nwX10_35 : qNw RX10 35 5 4 [.null, .null, .null, .int 0] := ⟨RX5, TX5, tyX5, rfl, jnX5, tyX5_ok, lk181, lk182, lk70, by decide +kernel, fun _ => rfl⟩
set_option maxRecDepth 100000 in
theorem lk304 : Cond.fieldLink "SealLine" 38 "SealLine" "recalls" "LSealLine$Recalls;" ∈ qg := qg_mem (List.mem_of_getElem? (i := 304) rfl) rfl
theorem fpX10_38 : qFp RX10 38 10 4 (.object "SealLine$Recalls") := ⟨RX10, TX10, 11, tyX10, rfl, by decide, jnX10, lk304, tyX10_ok, nmX10, rfl⟩
set_option maxRecDepth 100000 in
theorem lk203 : Cond.classLink "SealLine" 42 "SealLine$Tape" ∈ qg := qg_mem (List.mem_of_getElem? (i := 203) rfl) rfl
set_option maxRecDepth 100000 in
theorem lk204 : Cond.instantiable "SealLine$Tape" 8 ∈ qg := qg_mem (List.mem_of_getElem? (i := 204) rfl) rfl
theorem nwX10_42 : qNw RX10 42 9 8 [.null, .int 0, .null, .int 0, .int 0, .int 0, .int 0, .int 0] := ⟨RX9, TX9, tyX9, rfl, jnX9, tyX9_ok, lk203, lk204, lk71, by decide +kernel, fun _ => rfl⟩
set_option maxRecDepth 100000 in
theorem lk305 : Cond.fieldLink "SealLine" 45 "SealLine" "tape" "LSealLine$Tape;" ∈ qg := qg_mem (List.mem_of_getElem? (i := 305) rfl) rfl
theorem fpX10_45 : qFp RX10 45 10 5 (.object "SealLine$Tape") := ⟨RX10, TX10, 11, tyX10, rfl, by decide, jnX10, lk305, tyX10_ok, nmX10, rfl⟩
set_option maxRecDepth 100000 in
theorem lk234 : Cond.classLink "SealLine" 49 "SealLine$Queue" ∈ qg := qg_mem (List.mem_of_getElem? (i := 234) rfl) rfl
set_option maxRecDepth 100000 in
theorem lk235 : Cond.instantiable "SealLine$Queue" 2 ∈ qg := qg_mem (List.mem_of_getElem? (i := 235) rfl) rfl
theorem nwX10_49 : qNw RX10 49 4 2 [.null, .int 0] := ⟨RX4, TX4, tyX4, rfl, jnX4, tyX4_ok, lk234, lk235, lk72, by decide +kernel, fun _ => rfl⟩
set_option maxRecDepth 100000 in
theorem lk306 : Cond.fieldLink "SealLine" 52 "SealLine" "queue" "LSealLine$Queue;" ∈ qg := qg_mem (List.mem_of_getElem? (i := 306) rfl) rfl
theorem fpX10_52 : qFp RX10 52 10 6 (.object "SealLine$Queue") := ⟨RX10, TX10, 11, tyX10, rfl, by decide, jnX10, lk306, tyX10_ok, nmX10, rfl⟩
set_option maxRecDepth 100000 in
theorem lk247 : Cond.classLink "SealLine" 56 "SealLine$Keys" ∈ qg := qg_mem (List.mem_of_getElem? (i := 247) rfl) rfl
set_option maxRecDepth 100000 in
theorem lk248 : Cond.instantiable "SealLine$Keys" 4 ∈ qg := qg_mem (List.mem_of_getElem? (i := 248) rfl) rfl
theorem nwX10_56 : qNw RX10 56 2 4 [.null, .null, .null, .null] := ⟨RX2, TX2, tyX2, rfl, jnX2, tyX2_ok, lk247, lk248, lk73, by decide +kernel, fun _ => rfl⟩
set_option maxRecDepth 100000 in
theorem lk307 : Cond.fieldLink "SealLine" 59 "SealLine" "keys" "LSealLine$Keys;" ∈ qg := qg_mem (List.mem_of_getElem? (i := 307) rfl) rfl
theorem fpX10_59 : qFp RX10 59 10 7 (.object "SealLine$Keys") := ⟨RX10, TX10, 11, tyX10, rfl, by decide, jnX10, lk307, tyX10_ok, nmX10, rfl⟩
set_option maxRecDepth 100000 in
theorem lk268 : Cond.classLink "SealLine" 63 "SealLine$Judging" ∈ qg := qg_mem (List.mem_of_getElem? (i := 268) rfl) rfl
set_option maxRecDepth 100000 in
theorem lk269 : Cond.instantiable "SealLine$Judging" 3 ∈ qg := qg_mem (List.mem_of_getElem? (i := 269) rfl) rfl
theorem nwX10_63 : qNw RX10 63 1 3 [.int 0, .int 0, .int 0] := ⟨RX1, TX1, tyX1, rfl, jnX1, tyX1_ok, lk268, lk269, lk74, by decide +kernel, fun _ => rfl⟩
set_option maxRecDepth 100000 in
theorem lk308 : Cond.fieldLink "SealLine" 66 "SealLine" "judging" "LSealLine$Judging;" ∈ qg := qg_mem (List.mem_of_getElem? (i := 308) rfl) rfl
theorem fpX10_66 : qFp RX10 66 10 8 (.object "SealLine$Judging") := ⟨RX10, TX10, 11, tyX10, rfl, by decide, jnX10, lk308, tyX10_ok, nmX10, rfl⟩
set_option maxRecDepth 100000 in
theorem lk284 : Cond.classLink "SealLine" 70 "SealLine$Rule" ∈ qg := qg_mem (List.mem_of_getElem? (i := 284) rfl) rfl
set_option maxRecDepth 100000 in
theorem lk285 : Cond.instantiable "SealLine$Rule" 3 ∈ qg := qg_mem (List.mem_of_getElem? (i := 285) rfl) rfl
theorem nwX10_70 : qNw RX10 70 6 3 [.null, .null, .null] := ⟨RX6, TX6, tyX6, rfl, jnX6, tyX6_ok, lk284, lk285, lk75, by decide +kernel, fun _ => rfl⟩
set_option maxRecDepth 100000 in
theorem lk309 : Cond.fieldLink "SealLine" 75 "SealLine" "inForce" "LSealLine$Rule;" ∈ qg := qg_mem (List.mem_of_getElem? (i := 309) rfl) rfl
theorem fpX10_75 : qFp RX10 75 10 9 (.object "SealLine$Rule") := ⟨RX10, TX10, 11, tyX10, rfl, by decide, jnX10, lk309, tyX10_ok, nmX10, rfl⟩
set_option maxRecDepth 100000 in
theorem lk310 : Cond.fieldLink "SealLine" 79 "SealLine" "rules" "I" ∈ qg := qg_mem (List.mem_of_getElem? (i := 310) rfl) rfl
theorem fpX10_79 : qFp RX10 79 10 10 .int := ⟨RX10, TX10, 11, tyX10, rfl, by decide, jnX10, lk310, tyX10_ok, nmX10, rfl⟩
set_option maxRecDepth 100000 in
theorem lk90 : Cond.methodLink "SealLine" 11 yX8_init ∈ qg := qg_mem (List.mem_of_getElem? (i := 90) rfl) rfl
set_option maxRecDepth 100000 in
theorem lk92 : Cond.code yX8_init cX8_init 3 none ∈ qg := qg_mem (List.mem_of_getElem? (i := 92) rfl) rfl
set_option maxRecDepth 100000 in
theorem lk91 : Cond.instanceMethod yX8_init ∈ qg := qg_mem (List.mem_of_getElem? (i := 91) rfl) rfl
theorem iX8_init : qMi mX8_init 2 := ⟨⟨lk92, lk64, by decide +kernel, by decide⟩, lk91, rfl, rfl⟩
set_option maxRecDepth 100000 in
theorem lk116 : Cond.methodLink "SealLine" 23 yX7_init ∈ qg := qg_mem (List.mem_of_getElem? (i := 116) rfl) rfl
set_option maxRecDepth 100000 in
theorem lk118 : Cond.code yX7_init cX7_init 2 none ∈ qg := qg_mem (List.mem_of_getElem? (i := 118) rfl) rfl
set_option maxRecDepth 100000 in
theorem lk117 : Cond.instanceMethod yX7_init ∈ qg := qg_mem (List.mem_of_getElem? (i := 117) rfl) rfl
theorem iX7_init : qMi mX7_init 0 := ⟨⟨lk118, lk67, by decide +kernel, by decide⟩, lk117, rfl, rfl⟩
set_option maxRecDepth 100000 in
theorem lnX10_30 : qLn RX10 30 mX3_init "SealLine" := List.mem_filterMap.mpr ⟨_, List.mem_of_getElem? (i := 162) rfl, rfl⟩
set_option maxRecDepth 100000 in
theorem lk164 : Cond.code yX3_init cX3_init 1 none ∈ qg := qg_mem (List.mem_of_getElem? (i := 164) rfl) rfl
set_option maxRecDepth 100000 in
theorem lk163 : Cond.instanceMethod yX3_init ∈ qg := qg_mem (List.mem_of_getElem? (i := 163) rfl) rfl
theorem iX3_init : qMi mX3_init 0 := ⟨⟨lk164, lk69, by decide +kernel, by decide⟩, lk163, rfl, rfl⟩
set_option maxRecDepth 100000 in
theorem lk183 : Cond.methodLink "SealLine" 37 yX5_init ∈ qg := qg_mem (List.mem_of_getElem? (i := 183) rfl) rfl
set_option maxRecDepth 100000 in
theorem lk185 : Cond.code yX5_init cX5_init 1 none ∈ qg := qg_mem (List.mem_of_getElem? (i := 185) rfl) rfl
set_option maxRecDepth 100000 in
theorem lk184 : Cond.instanceMethod yX5_init ∈ qg := qg_mem (List.mem_of_getElem? (i := 184) rfl) rfl
theorem iX5_init : qMi mX5_init 0 := ⟨⟨lk185, lk70, by decide +kernel, by decide⟩, lk184, rfl, rfl⟩
set_option maxRecDepth 100000 in
theorem lnX10_44 : qLn RX10 44 mX9_init "SealLine" := List.mem_filterMap.mpr ⟨_, List.mem_of_getElem? (i := 205) rfl, rfl⟩
set_option maxRecDepth 100000 in
theorem lk207 : Cond.code yX9_init cX9_init 1 none ∈ qg := qg_mem (List.mem_of_getElem? (i := 207) rfl) rfl
set_option maxRecDepth 100000 in
theorem lk206 : Cond.instanceMethod yX9_init ∈ qg := qg_mem (List.mem_of_getElem? (i := 206) rfl) rfl
theorem iX9_init : qMi mX9_init 0 := ⟨⟨lk207, lk71, by decide +kernel, by decide⟩, lk206, rfl, rfl⟩
set_option maxRecDepth 100000 in
theorem lnX10_51 : qLn RX10 51 mX4_init "SealLine" := List.mem_filterMap.mpr ⟨_, List.mem_of_getElem? (i := 236) rfl, rfl⟩
set_option maxRecDepth 100000 in
theorem lk238 : Cond.code yX4_init cX4_init 1 none ∈ qg := qg_mem (List.mem_of_getElem? (i := 238) rfl) rfl
set_option maxRecDepth 100000 in
theorem lk237 : Cond.instanceMethod yX4_init ∈ qg := qg_mem (List.mem_of_getElem? (i := 237) rfl) rfl
theorem iX4_init : qMi mX4_init 0 := ⟨⟨lk238, lk72, by decide +kernel, by decide⟩, lk237, rfl, rfl⟩
set_option maxRecDepth 100000 in
theorem lk249 : Cond.methodLink "SealLine" 58 yX2_init ∈ qg := qg_mem (List.mem_of_getElem? (i := 249) rfl) rfl
set_option maxRecDepth 100000 in
theorem lk251 : Cond.code yX2_init cX2_init 1 none ∈ qg := qg_mem (List.mem_of_getElem? (i := 251) rfl) rfl
set_option maxRecDepth 100000 in
theorem lk250 : Cond.instanceMethod yX2_init ∈ qg := qg_mem (List.mem_of_getElem? (i := 250) rfl) rfl
theorem iX2_init : qMi mX2_init 0 := ⟨⟨lk251, lk73, by decide +kernel, by decide⟩, lk250, rfl, rfl⟩
set_option maxRecDepth 100000 in
theorem lnX10_65 : qLn RX10 65 mX1_init "SealLine" := List.mem_filterMap.mpr ⟨_, List.mem_of_getElem? (i := 270) rfl, rfl⟩
set_option maxRecDepth 100000 in
theorem lk272 : Cond.code yX1_init cX1_init 1 none ∈ qg := qg_mem (List.mem_of_getElem? (i := 272) rfl) rfl
set_option maxRecDepth 100000 in
theorem lk271 : Cond.instanceMethod yX1_init ∈ qg := qg_mem (List.mem_of_getElem? (i := 271) rfl) rfl
theorem iX1_init : qMi mX1_init 0 := ⟨⟨lk272, lk74, by decide +kernel, by decide⟩, lk271, rfl, rfl⟩
set_option maxRecDepth 100000 in
theorem lk286 : Cond.methodLink "SealLine" 72 yX6_init ∈ qg := qg_mem (List.mem_of_getElem? (i := 286) rfl) rfl
set_option maxRecDepth 100000 in
theorem lk288 : Cond.code yX6_init cX6_init 2 none ∈ qg := qg_mem (List.mem_of_getElem? (i := 288) rfl) rfl
set_option maxRecDepth 100000 in
theorem lk287 : Cond.instanceMethod yX6_init ∈ qg := qg_mem (List.mem_of_getElem? (i := 287) rfl) rfl
theorem iX6_init : qMi mX6_init 1 := ⟨⟨lk288, lk75, by decide +kernel, by decide⟩, lk287, rfl, rfl⟩
theorem fgX10_14 : qF RX10 14 10 0 := ⟨RX10, TX10, 11, rfl, by decide, jnX10, lk300⟩
set_option maxRecDepth 100000 in
theorem lk361 : Cond.methodLink "SealLine" 177 yX8_addRow ∈ qg := qg_mem (List.mem_of_getElem? (i := 361) rfl) rfl
set_option maxRecDepth 100000 in
theorem lk364 : Cond.code yX8_addRow cX8_addRow 1 (some .int) ∈ qg := qg_mem (List.mem_of_getElem? (i := 364) rfl) rfl
set_option maxRecDepth 100000 in
theorem lk362 : Cond.instanceMethod yX8_addRow ∈ qg := qg_mem (List.mem_of_getElem? (i := 362) rfl) rfl
set_option maxRecDepth 100000 in
theorem lk363 : Cond.selects "SealLine$Table" yX8_addRow yX8_addRow ∈ qg := qg_mem (List.mem_of_getElem? (i := 363) rfl) rfl
theorem vX8_addRow : qMv mX8_addRow 0 := ⟨⟨lk364, lk64, by decide +kernel, by decide⟩, lk362, lk363⟩
set_option maxRecDepth 100000 in
theorem lk366 : Cond.methodLink "SealLine" 124 yX8_set ∈ qg := qg_mem (List.mem_of_getElem? (i := 366) rfl) rfl
set_option maxRecDepth 100000 in
theorem lk369 : Cond.code yX8_set cX8_set 4 none ∈ qg := qg_mem (List.mem_of_getElem? (i := 369) rfl) rfl
set_option maxRecDepth 100000 in
theorem lk367 : Cond.instanceMethod yX8_set ∈ qg := qg_mem (List.mem_of_getElem? (i := 367) rfl) rfl
set_option maxRecDepth 100000 in
theorem lk368 : Cond.selects "SealLine$Table" yX8_set yX8_set ∈ qg := qg_mem (List.mem_of_getElem? (i := 368) rfl) rfl
theorem vX8_set : qMv mX8_set 3 := ⟨⟨lk369, lk64, by decide +kernel, by decide⟩, lk367, lk368⟩
theorem fgX10_24 : qF RX10 24 10 2 := ⟨RX10, TX10, 11, rfl, by decide, jnX10, lk302⟩
theorem fgX10_38 : qF RX10 38 10 4 := ⟨RX10, TX10, 11, rfl, by decide, jnX10, lk304⟩
set_option maxRecDepth 100000 in
theorem lk391 : Cond.methodLink "SealLine" 275 yX7_cleanBy ∈ qg := qg_mem (List.mem_of_getElem? (i := 391) rfl) rfl
set_option maxRecDepth 100000 in
theorem lk394 : Cond.code yX7_cleanBy cX7_cleanBy 6 none ∈ qg := qg_mem (List.mem_of_getElem? (i := 394) rfl) rfl
set_option maxRecDepth 100000 in
theorem lk392 : Cond.instanceMethod yX7_cleanBy ∈ qg := qg_mem (List.mem_of_getElem? (i := 392) rfl) rfl
set_option maxRecDepth 100000 in
theorem lk393 : Cond.selects "SealLine$Shelf" yX7_cleanBy yX7_cleanBy ∈ qg := qg_mem (List.mem_of_getElem? (i := 393) rfl) rfl
theorem vX7_cleanBy : qMv mX7_cleanBy 2 := ⟨⟨lk394, lk67, by decide +kernel, by decide⟩, lk392, lk393⟩
set_option maxRecDepth 100000 in
theorem lk423 : Cond.methodLink "SealLine" 279 yX5_look ∈ qg := qg_mem (List.mem_of_getElem? (i := 423) rfl) rfl
set_option maxRecDepth 100000 in
theorem lk338 : Cond.methodLink "SealLine" 83 yX10_isHand ∈ qg := qg_mem (List.mem_of_getElem? (i := 338) rfl) rfl
set_option maxRecDepth 100000 in
theorem lk341 : Cond.methodLink "SealLine" 87 yX8_isFull ∈ qg := qg_mem (List.mem_of_getElem? (i := 341) rfl) rfl
set_option maxRecDepth 100000 in
theorem lk345 : Cond.methodLink "SealLine" 91 yX7_numberOrNew ∈ qg := qg_mem (List.mem_of_getElem? (i := 345) rfl) rfl
set_option maxRecDepth 100000 in
theorem lk348 : Cond.code yX7_numberOrNew cX7_numberOrNew 5 (some .int) ∈ qg := qg_mem (List.mem_of_getElem? (i := 348) rfl) rfl
set_option maxRecDepth 100000 in
theorem lk346 : Cond.instanceMethod yX7_numberOrNew ∈ qg := qg_mem (List.mem_of_getElem? (i := 346) rfl) rfl
set_option maxRecDepth 100000 in
theorem lk347 : Cond.selects "SealLine$Shelf" yX7_numberOrNew yX7_numberOrNew ∈ qg := qg_mem (List.mem_of_getElem? (i := 347) rfl) rfl
theorem vX7_numberOrNew : qMv mX7_numberOrNew 1 := ⟨⟨lk348, lk67, by decide +kernel, by decide⟩, lk346, lk347⟩
set_option maxRecDepth 100000 in
theorem lk357 : Cond.methodLink "SealLine" 95 yX10_addNote ∈ qg := qg_mem (List.mem_of_getElem? (i := 357) rfl) rfl
set_option maxRecDepth 100000 in
theorem lk360 : Cond.code yX10_addNote cX10_addNote 5 (some .int) ∈ qg := qg_mem (List.mem_of_getElem? (i := 360) rfl) rfl
set_option maxRecDepth 100000 in
theorem lk359 : Cond.instanceMethod yX10_addNote ∈ qg := qg_mem (List.mem_of_getElem? (i := 359) rfl) rfl
set_option maxRecDepth 100000 in
theorem lk0 : Cond.selects "SealLine" yX10_addNote yX10_addNote ∈ qg := qg_mem (List.mem_of_getElem? (i := 0) rfl) rfl
theorem vX10_addNote : qMv mX10_addNote 3 := ⟨⟨lk360, lk63, by decide +kernel, by decide⟩, lk359, lk0⟩
set_option maxRecDepth 100000 in
theorem lk374 : Cond.methodLink "SealLine" 99 yX7_addMaker ∈ qg := qg_mem (List.mem_of_getElem? (i := 374) rfl) rfl
set_option maxRecDepth 100000 in
theorem lk377 : Cond.code yX7_addMaker cX7_addMaker 3 none ∈ qg := qg_mem (List.mem_of_getElem? (i := 377) rfl) rfl
set_option maxRecDepth 100000 in
theorem lk375 : Cond.instanceMethod yX7_addMaker ∈ qg := qg_mem (List.mem_of_getElem? (i := 375) rfl) rfl
set_option maxRecDepth 100000 in
theorem lk376 : Cond.selects "SealLine$Shelf" yX7_addMaker yX7_addMaker ∈ qg := qg_mem (List.mem_of_getElem? (i := 376) rfl) rfl
theorem vX7_addMaker : qMv mX7_addMaker 2 := ⟨⟨lk377, lk67, by decide +kernel, by decide⟩, lk375, lk376⟩
set_option maxRecDepth 100000 in
theorem lk387 : Cond.methodLink "SealLine" 102 yX10_settle ∈ qg := qg_mem (List.mem_of_getElem? (i := 387) rfl) rfl
set_option maxRecDepth 100000 in
theorem lk390 : Cond.code yX10_settle cX10_settle 2 none ∈ qg := qg_mem (List.mem_of_getElem? (i := 390) rfl) rfl
set_option maxRecDepth 100000 in
theorem lk389 : Cond.instanceMethod yX10_settle ∈ qg := qg_mem (List.mem_of_getElem? (i := 389) rfl) rfl
set_option maxRecDepth 100000 in
theorem lk3 : Cond.selects "SealLine" yX10_settle yX10_settle ∈ qg := qg_mem (List.mem_of_getElem? (i := 3) rfl) rfl
theorem vX10_settle : qMv mX10_settle 1 := ⟨⟨lk390, lk63, by decide +kernel, by decide⟩, lk389, lk3⟩
set_option maxRecDepth 100000 in
theorem lk443 : Cond.methodLink "SealLine" 167 yX7_has ∈ qg := qg_mem (List.mem_of_getElem? (i := 443) rfl) rfl
set_option maxRecDepth 100000 in
theorem lk449 : Cond.methodLink "SealLine" 264 yX7_rowHas ∈ qg := qg_mem (List.mem_of_getElem? (i := 449) rfl) rfl
set_option maxRecDepth 100000 in
theorem lk465 : Cond.constantLong "SealLine" 271 6364136223846793005 ∈ qg := qg_mem (List.mem_of_getElem? (i := 465) rfl) rfl
set_option maxRecDepth 100000 in
theorem lk466 : Cond.constantLong "SealLine" 273 1442695040888963407 ∈ qg := qg_mem (List.mem_of_getElem? (i := 466) rfl) rfl
set_option maxRecDepth 100000 in
theorem lk461 : Cond.methodLink "SealLine" 237 yX7_hashOf ∈ qg := qg_mem (List.mem_of_getElem? (i := 461) rfl) rfl
set_option maxRecDepth 100000 in
theorem lk464 : Cond.code yX7_hashOf cX7_hashOf 2 (some .long) ∈ qg := qg_mem (List.mem_of_getElem? (i := 464) rfl) rfl
set_option maxRecDepth 100000 in
theorem lk462 : Cond.instanceMethod yX7_hashOf ∈ qg := qg_mem (List.mem_of_getElem? (i := 462) rfl) rfl
set_option maxRecDepth 100000 in
theorem lk463 : Cond.selects "SealLine$Shelf" yX7_hashOf yX7_hashOf ∈ qg := qg_mem (List.mem_of_getElem? (i := 463) rfl) rfl
theorem vX7_hashOf : qMv mX7_hashOf 1 := ⟨⟨lk464, lk67, by decide +kernel, by decide⟩, lk462, lk463⟩
set_option maxRecDepth 100000 in
theorem lk457 : Cond.methodLink "SealLine" 267 yX10_stirred ∈ qg := qg_mem (List.mem_of_getElem? (i := 457) rfl) rfl
set_option maxRecDepth 100000 in
theorem lk460 : Cond.code yX10_stirred cX10_stirred 4 (some .long) ∈ qg := qg_mem (List.mem_of_getElem? (i := 460) rfl) rfl
set_option maxRecDepth 100000 in
theorem lk459 : Cond.instanceMethod yX10_stirred ∈ qg := qg_mem (List.mem_of_getElem? (i := 459) rfl) rfl
set_option maxRecDepth 100000 in
theorem lk9 : Cond.selects "SealLine" yX10_stirred yX10_stirred ∈ qg := qg_mem (List.mem_of_getElem? (i := 9) rfl) rfl
theorem vX10_stirred : qMv mX10_stirred 2 := ⟨⟨lk460, lk63, by decide +kernel, by decide⟩, lk459, lk9⟩
set_option maxRecDepth 100000 in
theorem lk436 : Cond.methodLink "SealLine" 106 yX10_isTool ∈ qg := qg_mem (List.mem_of_getElem? (i := 436) rfl) rfl
set_option maxRecDepth 100000 in
theorem lk439 : Cond.methodLink "SealLine" 109 yX10_areInputs ∈ qg := qg_mem (List.mem_of_getElem? (i := 439) rfl) rfl
set_option maxRecDepth 100000 in
theorem lk442 : Cond.code yX10_areInputs cX10_areInputs 4 (some .boolean) ∈ qg := qg_mem (List.mem_of_getElem? (i := 442) rfl) rfl
set_option maxRecDepth 100000 in
theorem lk441 : Cond.instanceMethod yX10_areInputs ∈ qg := qg_mem (List.mem_of_getElem? (i := 441) rfl) rfl
set_option maxRecDepth 100000 in
theorem lk6 : Cond.selects "SealLine" yX10_areInputs yX10_areInputs ∈ qg := qg_mem (List.mem_of_getElem? (i := 6) rfl) rfl
theorem vX10_areInputs : qMv mX10_areInputs 3 := ⟨⟨lk442, lk63, by decide +kernel, by decide⟩, lk441, lk6⟩
set_option maxRecDepth 100000 in
theorem lk444 : Cond.methodLink "SealLine" 113 yX7_numberOf ∈ qg := qg_mem (List.mem_of_getElem? (i := 444) rfl) rfl
set_option maxRecDepth 100000 in
theorem lk445 : Cond.methodLink "SealLine" 116 yX10_isInRowOfOne ∈ qg := qg_mem (List.mem_of_getElem? (i := 445) rfl) rfl
set_option maxRecDepth 100000 in
theorem lk448 : Cond.code yX10_isInRowOfOne cX10_isInRowOfOne 5 (some .boolean) ∈ qg := qg_mem (List.mem_of_getElem? (i := 448) rfl) rfl
set_option maxRecDepth 100000 in
theorem lk447 : Cond.instanceMethod yX10_isInRowOfOne ∈ qg := qg_mem (List.mem_of_getElem? (i := 447) rfl) rfl
set_option maxRecDepth 100000 in
theorem lk7 : Cond.selects "SealLine" yX10_isInRowOfOne yX10_isInRowOfOne ∈ qg := qg_mem (List.mem_of_getElem? (i := 7) rfl) rfl
theorem vX10_isInRowOfOne : qMv mX10_isInRowOfOne 4 := ⟨⟨lk448, lk63, by decide +kernel, by decide⟩, lk447, lk7⟩
set_option maxRecDepth 100000 in
theorem lk453 : Cond.methodLink "SealLine" 120 yX10_mixed ∈ qg := qg_mem (List.mem_of_getElem? (i := 453) rfl) rfl
set_option maxRecDepth 100000 in
theorem lk456 : Cond.code yX10_mixed cX10_mixed 7 (some .long) ∈ qg := qg_mem (List.mem_of_getElem? (i := 456) rfl) rfl
set_option maxRecDepth 100000 in
theorem lk455 : Cond.instanceMethod yX10_mixed ∈ qg := qg_mem (List.mem_of_getElem? (i := 455) rfl) rfl
set_option maxRecDepth 100000 in
theorem lk8 : Cond.selects "SealLine" yX10_mixed yX10_mixed ∈ qg := qg_mem (List.mem_of_getElem? (i := 8) rfl) rfl
theorem vX10_mixed : qMv mX10_mixed 4 := ⟨⟨lk456, lk63, by decide +kernel, by decide⟩, lk455, lk8⟩
set_option maxRecDepth 100000 in
theorem lk467 : Cond.methodLink "SealLine" 128 yX10_bit ∈ qg := qg_mem (List.mem_of_getElem? (i := 467) rfl) rfl
set_option maxRecDepth 100000 in
theorem lk470 : Cond.methodLink "SealLine" 132 yX7_addBuilder ∈ qg := qg_mem (List.mem_of_getElem? (i := 470) rfl) rfl
set_option maxRecDepth 100000 in
theorem lk473 : Cond.code yX7_addBuilder cX7_addBuilder 3 none ∈ qg := qg_mem (List.mem_of_getElem? (i := 473) rfl) rfl
set_option maxRecDepth 100000 in
theorem lk471 : Cond.instanceMethod yX7_addBuilder ∈ qg := qg_mem (List.mem_of_getElem? (i := 471) rfl) rfl
set_option maxRecDepth 100000 in
theorem lk472 : Cond.selects "SealLine$Shelf" yX7_addBuilder yX7_addBuilder ∈ qg := qg_mem (List.mem_of_getElem? (i := 472) rfl) rfl
theorem vX7_addBuilder : qMv mX7_addBuilder 2 := ⟨⟨lk473, lk67, by decide +kernel, by decide⟩, lk471, lk472⟩
set_option maxRecDepth 100000 in
theorem lk474 : Cond.methodLink "SealLine" 135 yX7_addInput ∈ qg := qg_mem (List.mem_of_getElem? (i := 474) rfl) rfl
set_option maxRecDepth 100000 in
theorem lk477 : Cond.code yX7_addInput cX7_addInput 4 none ∈ qg := qg_mem (List.mem_of_getElem? (i := 477) rfl) rfl
set_option maxRecDepth 100000 in
theorem lk475 : Cond.instanceMethod yX7_addInput ∈ qg := qg_mem (List.mem_of_getElem? (i := 475) rfl) rfl
set_option maxRecDepth 100000 in
theorem lk476 : Cond.selects "SealLine$Shelf" yX7_addInput yX7_addInput ∈ qg := qg_mem (List.mem_of_getElem? (i := 476) rfl) rfl
theorem vX7_addInput : qMv mX7_addInput 2 := ⟨⟨lk477, lk67, by decide +kernel, by decide⟩, lk475, lk476⟩
set_option maxRecDepth 100000 in
theorem lk490 : Cond.methodLink "SealLine" 138 yX10_addSaying ∈ qg := qg_mem (List.mem_of_getElem? (i := 490) rfl) rfl
set_option maxRecDepth 100000 in
theorem lk493 : Cond.code yX10_addSaying cX10_addSaying 6 (some .int) ∈ qg := qg_mem (List.mem_of_getElem? (i := 493) rfl) rfl
set_option maxRecDepth 100000 in
theorem lk492 : Cond.instanceMethod yX10_addSaying ∈ qg := qg_mem (List.mem_of_getElem? (i := 492) rfl) rfl
set_option maxRecDepth 100000 in
theorem lk10 : Cond.selects "SealLine" yX10_addSaying yX10_addSaying ∈ qg := qg_mem (List.mem_of_getElem? (i := 10) rfl) rfl
theorem vX10_addSaying : qMv mX10_addSaying 4 := ⟨⟨lk493, lk63, by decide +kernel, by decide⟩, lk492, lk10⟩
set_option maxRecDepth 100000 in
theorem lk494 : Cond.methodLink "SealLine" 142 yX7_setTry ∈ qg := qg_mem (List.mem_of_getElem? (i := 494) rfl) rfl
set_option maxRecDepth 100000 in
theorem lk497 : Cond.code yX7_setTry cX7_setTry 4 none ∈ qg := qg_mem (List.mem_of_getElem? (i := 497) rfl) rfl
set_option maxRecDepth 100000 in
theorem lk495 : Cond.instanceMethod yX7_setTry ∈ qg := qg_mem (List.mem_of_getElem? (i := 495) rfl) rfl
set_option maxRecDepth 100000 in
theorem lk496 : Cond.selects "SealLine$Shelf" yX7_setTry yX7_setTry ∈ qg := qg_mem (List.mem_of_getElem? (i := 496) rfl) rfl
theorem vX7_setTry : qMv mX7_setTry 3 := ⟨⟨lk497, lk67, by decide +kernel, by decide⟩, lk495, lk496⟩
set_option maxRecDepth 100000 in
theorem lk502 : Cond.methodLink "SealLine" 146 yX7_setReview ∈ qg := qg_mem (List.mem_of_getElem? (i := 502) rfl) rfl
set_option maxRecDepth 100000 in
theorem lk505 : Cond.code yX7_setReview cX7_setReview 4 none ∈ qg := qg_mem (List.mem_of_getElem? (i := 505) rfl) rfl
set_option maxRecDepth 100000 in
theorem lk503 : Cond.instanceMethod yX7_setReview ∈ qg := qg_mem (List.mem_of_getElem? (i := 503) rfl) rfl
set_option maxRecDepth 100000 in
theorem lk504 : Cond.selects "SealLine$Shelf" yX7_setReview yX7_setReview ∈ qg := qg_mem (List.mem_of_getElem? (i := 504) rfl) rfl
theorem vX7_setReview : qMv mX7_setReview 3 := ⟨⟨lk505, lk67, by decide +kernel, by decide⟩, lk503, lk504⟩
theorem fgX10_45 : qF RX10 45 10 5 := ⟨RX10, TX10, 11, rfl, by decide, jnX10, lk305⟩
set_option maxRecDepth 100000 in
theorem lk510 : Cond.methodLink "SealLine" 149 yX9_add ∈ qg := qg_mem (List.mem_of_getElem? (i := 510) rfl) rfl
set_option maxRecDepth 100000 in
theorem lk513 : Cond.code yX9_add cX9_add 5 (some .int) ∈ qg := qg_mem (List.mem_of_getElem? (i := 513) rfl) rfl
set_option maxRecDepth 100000 in
theorem lk511 : Cond.instanceMethod yX9_add ∈ qg := qg_mem (List.mem_of_getElem? (i := 511) rfl) rfl
set_option maxRecDepth 100000 in
theorem lk512 : Cond.selects "SealLine$Tape" yX9_add yX9_add ∈ qg := qg_mem (List.mem_of_getElem? (i := 512) rfl) rfl
theorem vX9_add : qMv mX9_add 1 := ⟨⟨lk513, lk71, by decide +kernel, by decide⟩, lk511, lk512⟩
set_option maxRecDepth 100000 in
theorem lk519 : Cond.methodLink "SealLine" 153 yX9_cut ∈ qg := qg_mem (List.mem_of_getElem? (i := 519) rfl) rfl
set_option maxRecDepth 100000 in
theorem lk522 : Cond.code yX9_cut cX9_cut 2 (some .boolean) ∈ qg := qg_mem (List.mem_of_getElem? (i := 522) rfl) rfl
set_option maxRecDepth 100000 in
theorem lk520 : Cond.instanceMethod yX9_cut ∈ qg := qg_mem (List.mem_of_getElem? (i := 520) rfl) rfl
set_option maxRecDepth 100000 in
theorem lk521 : Cond.selects "SealLine$Tape" yX9_cut yX9_cut ∈ qg := qg_mem (List.mem_of_getElem? (i := 521) rfl) rfl
theorem vX9_cut : qMv mX9_cut 1 := ⟨⟨lk522, lk71, by decide +kernel, by decide⟩, lk520, lk521⟩
set_option maxRecDepth 100000 in
theorem lk527 : Cond.methodLink "SealLine" 156 yX9_firstFault ∈ qg := qg_mem (List.mem_of_getElem? (i := 527) rfl) rfl
set_option maxRecDepth 100000 in
theorem lk530 : Cond.code yX9_firstFault cX9_firstFault 2 (some .int) ∈ qg := qg_mem (List.mem_of_getElem? (i := 530) rfl) rfl
set_option maxRecDepth 100000 in
theorem lk528 : Cond.instanceMethod yX9_firstFault ∈ qg := qg_mem (List.mem_of_getElem? (i := 528) rfl) rfl
set_option maxRecDepth 100000 in
theorem lk529 : Cond.selects "SealLine$Tape" yX9_firstFault yX9_firstFault ∈ qg := qg_mem (List.mem_of_getElem? (i := 529) rfl) rfl
theorem vX9_firstFault : qMv mX9_firstFault 0 := ⟨⟨lk530, lk71, by decide +kernel, by decide⟩, lk528, lk529⟩
theorem fgX10_79 : qF RX10 79 10 10 := ⟨RX10, TX10, 11, rfl, by decide, jnX10, lk310⟩
theorem fgX10_66 : qF RX10 66 10 8 := ⟨RX10, TX10, 11, rfl, by decide, jnX10, lk308⟩
set_option maxRecDepth 100000 in
theorem lk569 : Cond.methodLink "SealLine" 160 yX9_readSteps ∈ qg := qg_mem (List.mem_of_getElem? (i := 569) rfl) rfl
set_option maxRecDepth 100000 in
theorem lk572 : Cond.code yX9_readSteps cX9_readSteps 1 (some (.array .int)) ∈ qg := qg_mem (List.mem_of_getElem? (i := 572) rfl) rfl
set_option maxRecDepth 100000 in
theorem lk570 : Cond.instanceMethod yX9_readSteps ∈ qg := qg_mem (List.mem_of_getElem? (i := 570) rfl) rfl
set_option maxRecDepth 100000 in
theorem lk571 : Cond.selects "SealLine$Tape" yX9_readSteps yX9_readSteps ∈ qg := qg_mem (List.mem_of_getElem? (i := 571) rfl) rfl
theorem vX9_readSteps : qMv mX9_readSteps 0 := ⟨⟨lk572, lk71, by decide +kernel, by decide⟩, lk570, lk571⟩
set_option maxRecDepth 100000 in
theorem lk589 : Cond.methodLink "SealLine" 164 yX1_forget ∈ qg := qg_mem (List.mem_of_getElem? (i := 589) rfl) rfl
set_option maxRecDepth 100000 in
theorem lk592 : Cond.code yX1_forget cX1_forget 1 none ∈ qg := qg_mem (List.mem_of_getElem? (i := 592) rfl) rfl
set_option maxRecDepth 100000 in
theorem lk590 : Cond.instanceMethod yX1_forget ∈ qg := qg_mem (List.mem_of_getElem? (i := 590) rfl) rfl
set_option maxRecDepth 100000 in
theorem lk591 : Cond.selects "SealLine$Judging" yX1_forget yX1_forget ∈ qg := qg_mem (List.mem_of_getElem? (i := 591) rfl) rfl
theorem vX1_forget : qMv mX1_forget 0 := ⟨⟨lk592, lk74, by decide +kernel, by decide⟩, lk590, lk591⟩
theorem fgX10_52 : qF RX10 52 10 6 := ⟨RX10, TX10, 11, rfl, by decide, jnX10, lk306⟩
set_option maxRecDepth 100000 in
theorem lk597 : Cond.methodLink "SealLine" 170 yX4_add ∈ qg := qg_mem (List.mem_of_getElem? (i := 597) rfl) rfl
set_option maxRecDepth 100000 in
theorem lk600 : Cond.code yX4_add cX4_add 2 (some .int) ∈ qg := qg_mem (List.mem_of_getElem? (i := 600) rfl) rfl
set_option maxRecDepth 100000 in
theorem lk598 : Cond.instanceMethod yX4_add ∈ qg := qg_mem (List.mem_of_getElem? (i := 598) rfl) rfl
set_option maxRecDepth 100000 in
theorem lk599 : Cond.selects "SealLine$Queue" yX4_add yX4_add ∈ qg := qg_mem (List.mem_of_getElem? (i := 599) rfl) rfl
theorem vX4_add : qMv mX4_add 1 := ⟨⟨lk600, lk72, by decide +kernel, by decide⟩, lk598, lk599⟩
set_option maxRecDepth 100000 in
theorem lk609 : Cond.methodLink "SealLine" 171 yX4_removeFirst ∈ qg := qg_mem (List.mem_of_getElem? (i := 609) rfl) rfl
set_option maxRecDepth 100000 in
theorem lk612 : Cond.code yX4_removeFirst cX4_removeFirst 2 (some .int) ∈ qg := qg_mem (List.mem_of_getElem? (i := 612) rfl) rfl
set_option maxRecDepth 100000 in
theorem lk610 : Cond.instanceMethod yX4_removeFirst ∈ qg := qg_mem (List.mem_of_getElem? (i := 610) rfl) rfl
set_option maxRecDepth 100000 in
theorem lk611 : Cond.selects "SealLine$Queue" yX4_removeFirst yX4_removeFirst ∈ qg := qg_mem (List.mem_of_getElem? (i := 611) rfl) rfl
theorem vX4_removeFirst : qMv mX4_removeFirst 0 := ⟨⟨lk612, lk72, by decide +kernel, by decide⟩, lk610, lk611⟩
theorem fgX10_75 : qF RX10 75 10 9 := ⟨RX10, TX10, 11, rfl, by decide, jnX10, lk309⟩
set_option maxRecDepth 100000 in
theorem lk648 : Cond.methodLink "SealLine" 219 yX7_goodReviews ∈ qg := qg_mem (List.mem_of_getElem? (i := 648) rfl) rfl
set_option maxRecDepth 100000 in
theorem lk651 : Cond.code yX7_goodReviews cX7_goodReviews 2 (some .int) ∈ qg := qg_mem (List.mem_of_getElem? (i := 651) rfl) rfl
set_option maxRecDepth 100000 in
theorem lk649 : Cond.instanceMethod yX7_goodReviews ∈ qg := qg_mem (List.mem_of_getElem? (i := 649) rfl) rfl
set_option maxRecDepth 100000 in
theorem lk650 : Cond.selects "SealLine$Shelf" yX7_goodReviews yX7_goodReviews ∈ qg := qg_mem (List.mem_of_getElem? (i := 650) rfl) rfl
theorem vX7_goodReviews : qMv mX7_goodReviews 1 := ⟨⟨lk651, lk67, by decide +kernel, by decide⟩, lk649, lk650⟩
set_option maxRecDepth 100000 in
theorem lk659 : Cond.methodLink "SealLine" 222 yX7_goodBuilders ∈ qg := qg_mem (List.mem_of_getElem? (i := 659) rfl) rfl
set_option maxRecDepth 100000 in
theorem lk662 : Cond.code yX7_goodBuilders cX7_goodBuilders 2 (some .int) ∈ qg := qg_mem (List.mem_of_getElem? (i := 662) rfl) rfl
set_option maxRecDepth 100000 in
theorem lk660 : Cond.instanceMethod yX7_goodBuilders ∈ qg := qg_mem (List.mem_of_getElem? (i := 660) rfl) rfl
set_option maxRecDepth 100000 in
theorem lk661 : Cond.selects "SealLine$Shelf" yX7_goodBuilders yX7_goodBuilders ∈ qg := qg_mem (List.mem_of_getElem? (i := 661) rfl) rfl
theorem vX7_goodBuilders : qMv mX7_goodBuilders 1 := ⟨⟨lk662, lk67, by decide +kernel, by decide⟩, lk660, lk661⟩
set_option maxRecDepth 100000 in
theorem lk663 : Cond.methodLink "SealLine" 288 yX6_holdingTries ∈ qg := qg_mem (List.mem_of_getElem? (i := 663) rfl) rfl
set_option maxRecDepth 100000 in
theorem lk677 : Cond.methodLink "SealLine" 216 yX7_goodTries ∈ qg := qg_mem (List.mem_of_getElem? (i := 677) rfl) rfl
set_option maxRecDepth 100000 in
theorem lk680 : Cond.code yX7_goodTries cX7_goodTries 2 (some .int) ∈ qg := qg_mem (List.mem_of_getElem? (i := 680) rfl) rfl
set_option maxRecDepth 100000 in
theorem lk678 : Cond.instanceMethod yX7_goodTries ∈ qg := qg_mem (List.mem_of_getElem? (i := 678) rfl) rfl
set_option maxRecDepth 100000 in
theorem lk679 : Cond.selects "SealLine$Shelf" yX7_goodTries yX7_goodTries ∈ qg := qg_mem (List.mem_of_getElem? (i := 679) rfl) rfl
theorem vX7_goodTries : qMv mX7_goodTries 1 := ⟨⟨lk680, lk67, by decide +kernel, by decide⟩, lk678, lk679⟩
set_option maxRecDepth 100000 in
theorem lk685 : Cond.methodLink "SealLine" 291 yX5_marked ∈ qg := qg_mem (List.mem_of_getElem? (i := 685) rfl) rfl
set_option maxRecDepth 100000 in
theorem lk688 : Cond.code yX5_marked cX5_marked 1 (some (.object "SealLine$FileSet")) ∈ qg := qg_mem (List.mem_of_getElem? (i := 688) rfl) rfl
set_option maxRecDepth 100000 in
theorem lk686 : Cond.instanceMethod yX5_marked ∈ qg := qg_mem (List.mem_of_getElem? (i := 686) rfl) rfl
set_option maxRecDepth 100000 in
theorem lk687 : Cond.selects "SealLine$Recalls" yX5_marked yX5_marked ∈ qg := qg_mem (List.mem_of_getElem? (i := 687) rfl) rfl
theorem vX5_marked : qMv mX5_marked 0 := ⟨⟨lk688, lk70, by decide +kernel, by decide⟩, lk686, lk687⟩
set_option maxRecDepth 100000 in
theorem lk689 : Cond.methodLink "SealLine" 295 yX7_rowMeets ∈ qg := qg_mem (List.mem_of_getElem? (i := 689) rfl) rfl
set_option maxRecDepth 100000 in
theorem lk692 : Cond.code yX7_rowMeets cX7_rowMeets 3 (some .boolean) ∈ qg := qg_mem (List.mem_of_getElem? (i := 692) rfl) rfl
set_option maxRecDepth 100000 in
theorem lk690 : Cond.instanceMethod yX7_rowMeets ∈ qg := qg_mem (List.mem_of_getElem? (i := 690) rfl) rfl
set_option maxRecDepth 100000 in
theorem lk691 : Cond.selects "SealLine$Shelf" yX7_rowMeets yX7_rowMeets ∈ qg := qg_mem (List.mem_of_getElem? (i := 691) rfl) rfl
theorem vX7_rowMeets : qMv mX7_rowMeets 2 := ⟨⟨lk692, lk67, by decide +kernel, by decide⟩, lk690, lk691⟩
theorem fgX10_59 : qF RX10 59 10 7 := ⟨RX10, TX10, 11, rfl, by decide, jnX10, lk307⟩
set_option maxRecDepth 100000 in
theorem lk626 : Cond.methodLink "SealLine" 258 yX4_first ∈ qg := qg_mem (List.mem_of_getElem? (i := 626) rfl) rfl
set_option maxRecDepth 100000 in
theorem lk627 : Cond.methodLink "SealLine" 228 yX7_makersOf ∈ qg := qg_mem (List.mem_of_getElem? (i := 627) rfl) rfl
set_option maxRecDepth 100000 in
theorem lk632 : Cond.methodLink "SealLine" 282 yX2_canSeal ∈ qg := qg_mem (List.mem_of_getElem? (i := 632) rfl) rfl
set_option maxRecDepth 100000 in
theorem lk643 : Cond.methodLink "SealLine" 210 yX7_isClean ∈ qg := qg_mem (List.mem_of_getElem? (i := 643) rfl) rfl
set_option maxRecDepth 100000 in
theorem lk644 : Cond.methodLink "SealLine" 285 yX10_ruleHolds ∈ qg := qg_mem (List.mem_of_getElem? (i := 644) rfl) rfl
set_option maxRecDepth 100000 in
theorem lk647 : Cond.code yX10_ruleHolds cX10_ruleHolds 3 (some .boolean) ∈ qg := qg_mem (List.mem_of_getElem? (i := 647) rfl) rfl
set_option maxRecDepth 100000 in
theorem lk646 : Cond.instanceMethod yX10_ruleHolds ∈ qg := qg_mem (List.mem_of_getElem? (i := 646) rfl) rfl
set_option maxRecDepth 100000 in
theorem lk20 : Cond.selects "SealLine" yX10_ruleHolds yX10_ruleHolds ∈ qg := qg_mem (List.mem_of_getElem? (i := 20) rfl) rfl
theorem vX10_ruleHolds : qMv mX10_ruleHolds 1 := ⟨⟨lk647, lk63, by decide +kernel, by decide⟩, lk646, lk20⟩
set_option maxRecDepth 100000 in
theorem lk681 : Cond.methodLink "SealLine" 213 yX10_isCalledBack ∈ qg := qg_mem (List.mem_of_getElem? (i := 681) rfl) rfl
set_option maxRecDepth 100000 in
theorem lk684 : Cond.code yX10_isCalledBack cX10_isCalledBack 2 (some .boolean) ∈ qg := qg_mem (List.mem_of_getElem? (i := 684) rfl) rfl
set_option maxRecDepth 100000 in
theorem lk683 : Cond.instanceMethod yX10_isCalledBack ∈ qg := qg_mem (List.mem_of_getElem? (i := 683) rfl) rfl
set_option maxRecDepth 100000 in
theorem lk22 : Cond.selects "SealLine" yX10_isCalledBack yX10_isCalledBack ∈ qg := qg_mem (List.mem_of_getElem? (i := 22) rfl) rfl
theorem vX10_isCalledBack : qMv mX10_isCalledBack 1 := ⟨⟨lk684, lk63, by decide +kernel, by decide⟩, lk683, lk22⟩
theorem fgX10_18 : qF RX10 18 10 1 := ⟨RX10, TX10, 11, rfl, by decide, jnX10, lk301⟩
set_option maxRecDepth 100000 in
theorem lk622 : Cond.methodLink "SealLine" 174 yX10_refusal ∈ qg := qg_mem (List.mem_of_getElem? (i := 622) rfl) rfl
set_option maxRecDepth 100000 in
theorem lk625 : Cond.code yX10_refusal cX10_refusal 5 (some .int) ∈ qg := qg_mem (List.mem_of_getElem? (i := 625) rfl) rfl
set_option maxRecDepth 100000 in
theorem lk624 : Cond.instanceMethod yX10_refusal ∈ qg := qg_mem (List.mem_of_getElem? (i := 624) rfl) rfl
set_option maxRecDepth 100000 in
theorem lk18 : Cond.selects "SealLine" yX10_refusal yX10_refusal ∈ qg := qg_mem (List.mem_of_getElem? (i := 18) rfl) rfl
theorem vX10_refusal : qMv mX10_refusal 3 := ⟨⟨lk625, lk63, by decide +kernel, by decide⟩, lk624, lk18⟩
set_option maxRecDepth 100000 in
theorem lk697 : Cond.methodLink "SealLine" 180 yX2_useOnce ∈ qg := qg_mem (List.mem_of_getElem? (i := 697) rfl) rfl
set_option maxRecDepth 100000 in
theorem lk700 : Cond.code yX2_useOnce cX2_useOnce 2 none ∈ qg := qg_mem (List.mem_of_getElem? (i := 700) rfl) rfl
set_option maxRecDepth 100000 in
theorem lk698 : Cond.instanceMethod yX2_useOnce ∈ qg := qg_mem (List.mem_of_getElem? (i := 698) rfl) rfl
set_option maxRecDepth 100000 in
theorem lk699 : Cond.selects "SealLine$Keys" yX2_useOnce yX2_useOnce ∈ qg := qg_mem (List.mem_of_getElem? (i := 699) rfl) rfl
theorem vX2_useOnce : qMv mX2_useOnce 1 := ⟨⟨lk700, lk73, by decide +kernel, by decide⟩, lk698, lk699⟩
set_option maxRecDepth 100000 in
theorem lk710 : Cond.methodLink "SealLine" 183 yX2_addUses ∈ qg := qg_mem (List.mem_of_getElem? (i := 710) rfl) rfl
set_option maxRecDepth 100000 in
theorem lk713 : Cond.code yX2_addUses cX2_addUses 3 (some .int) ∈ qg := qg_mem (List.mem_of_getElem? (i := 713) rfl) rfl
set_option maxRecDepth 100000 in
theorem lk711 : Cond.instanceMethod yX2_addUses ∈ qg := qg_mem (List.mem_of_getElem? (i := 711) rfl) rfl
set_option maxRecDepth 100000 in
theorem lk712 : Cond.selects "SealLine$Keys" yX2_addUses yX2_addUses ∈ qg := qg_mem (List.mem_of_getElem? (i := 712) rfl) rfl
theorem vX2_addUses : qMv mX2_addUses 2 := ⟨⟨lk713, lk73, by decide +kernel, by decide⟩, lk711, lk712⟩
set_option maxRecDepth 100000 in
theorem lk719 : Cond.methodLink "SealLine" 187 yX2_endOne ∈ qg := qg_mem (List.mem_of_getElem? (i := 719) rfl) rfl
set_option maxRecDepth 100000 in
theorem lk722 : Cond.code yX2_endOne cX2_endOne 2 (some .boolean) ∈ qg := qg_mem (List.mem_of_getElem? (i := 722) rfl) rfl
set_option maxRecDepth 100000 in
theorem lk720 : Cond.instanceMethod yX2_endOne ∈ qg := qg_mem (List.mem_of_getElem? (i := 720) rfl) rfl
set_option maxRecDepth 100000 in
theorem lk721 : Cond.selects "SealLine$Keys" yX2_endOne yX2_endOne ∈ qg := qg_mem (List.mem_of_getElem? (i := 721) rfl) rfl
theorem vX2_endOne : qMv mX2_endOne 1 := ⟨⟨lk722, lk73, by decide +kernel, by decide⟩, lk720, lk721⟩
set_option maxRecDepth 100000 in
theorem lk727 : Cond.methodLink "SealLine" 190 yX8_size ∈ qg := qg_mem (List.mem_of_getElem? (i := 727) rfl) rfl
set_option maxRecDepth 100000 in
theorem lk728 : Cond.methodLink "SealLine" 193 yX2_loseOne ∈ qg := qg_mem (List.mem_of_getElem? (i := 728) rfl) rfl
set_option maxRecDepth 100000 in
theorem lk731 : Cond.code yX2_loseOne cX2_loseOne 3 (some .boolean) ∈ qg := qg_mem (List.mem_of_getElem? (i := 731) rfl) rfl
set_option maxRecDepth 100000 in
theorem lk729 : Cond.instanceMethod yX2_loseOne ∈ qg := qg_mem (List.mem_of_getElem? (i := 729) rfl) rfl
set_option maxRecDepth 100000 in
theorem lk730 : Cond.selects "SealLine$Keys" yX2_loseOne yX2_loseOne ∈ qg := qg_mem (List.mem_of_getElem? (i := 730) rfl) rfl
theorem vX2_loseOne : qMv mX2_loseOne 2 := ⟨⟨lk731, lk73, by decide +kernel, by decide⟩, lk729, lk730⟩
set_option maxRecDepth 100000 in
theorem lk732 : Cond.methodLink "SealLine" 197 yX8_cell ∈ qg := qg_mem (List.mem_of_getElem? (i := 732) rfl) rfl
set_option maxRecDepth 100000 in
theorem lk754 : Cond.methodLink "SealLine" 255 yX7_size ∈ qg := qg_mem (List.mem_of_getElem? (i := 754) rfl) rfl
set_option maxRecDepth 100000 in
theorem lk757 : Cond.code yX7_size cX7_size 1 (some .int) ∈ qg := qg_mem (List.mem_of_getElem? (i := 757) rfl) rfl
set_option maxRecDepth 100000 in
theorem lk755 : Cond.instanceMethod yX7_size ∈ qg := qg_mem (List.mem_of_getElem? (i := 755) rfl) rfl
set_option maxRecDepth 100000 in
theorem lk756 : Cond.selects "SealLine$Shelf" yX7_size yX7_size ∈ qg := qg_mem (List.mem_of_getElem? (i := 756) rfl) rfl
theorem vX7_size : qMv mX7_size 0 := ⟨⟨lk757, lk67, by decide +kernel, by decide⟩, lk755, lk756⟩
set_option maxRecDepth 100000 in
theorem lk737 : Cond.methodLink "SealLine" 200 yX5_addFile ∈ qg := qg_mem (List.mem_of_getElem? (i := 737) rfl) rfl
set_option maxRecDepth 100000 in
theorem lk740 : Cond.code yX5_addFile cX5_addFile 2 (some .boolean) ∈ qg := qg_mem (List.mem_of_getElem? (i := 740) rfl) rfl
set_option maxRecDepth 100000 in
theorem lk738 : Cond.instanceMethod yX5_addFile ∈ qg := qg_mem (List.mem_of_getElem? (i := 738) rfl) rfl
set_option maxRecDepth 100000 in
theorem lk739 : Cond.selects "SealLine$Recalls" yX5_addFile yX5_addFile ∈ qg := qg_mem (List.mem_of_getElem? (i := 739) rfl) rfl
theorem vX5_addFile : qMv mX5_addFile 1 := ⟨⟨lk740, lk70, by decide +kernel, by decide⟩, lk738, lk739⟩
set_option maxRecDepth 100000 in
theorem lk741 : Cond.methodLink "SealLine" 203 yX5_addSince ∈ qg := qg_mem (List.mem_of_getElem? (i := 741) rfl) rfl
set_option maxRecDepth 100000 in
theorem lk744 : Cond.code yX5_addSince cX5_addSince 8 (some .boolean) ∈ qg := qg_mem (List.mem_of_getElem? (i := 744) rfl) rfl
set_option maxRecDepth 100000 in
theorem lk742 : Cond.instanceMethod yX5_addSince ∈ qg := qg_mem (List.mem_of_getElem? (i := 742) rfl) rfl
set_option maxRecDepth 100000 in
theorem lk743 : Cond.selects "SealLine$Recalls" yX5_addSince yX5_addSince ∈ qg := qg_mem (List.mem_of_getElem? (i := 743) rfl) rfl
theorem vX5_addSince : qMv mX5_addSince 4 := ⟨⟨lk744, lk70, by decide +kernel, by decide⟩, lk742, lk743⟩
set_option maxRecDepth 100000 in
theorem lk750 : Cond.methodLink "SealLine" 207 yX10_manyCalledBack ∈ qg := qg_mem (List.mem_of_getElem? (i := 750) rfl) rfl
set_option maxRecDepth 100000 in
theorem lk753 : Cond.code yX10_manyCalledBack cX10_manyCalledBack 3 (some .int) ∈ qg := qg_mem (List.mem_of_getElem? (i := 753) rfl) rfl
set_option maxRecDepth 100000 in
theorem lk752 : Cond.instanceMethod yX10_manyCalledBack ∈ qg := qg_mem (List.mem_of_getElem? (i := 752) rfl) rfl
set_option maxRecDepth 100000 in
theorem lk23 : Cond.selects "SealLine" yX10_manyCalledBack yX10_manyCalledBack ∈ qg := qg_mem (List.mem_of_getElem? (i := 23) rfl) rfl
theorem vX10_manyCalledBack : qMv mX10_manyCalledBack 0 := ⟨⟨lk753, lk63, by decide +kernel, by decide⟩, lk752, lk23⟩
set_option maxRecDepth 100000 in
theorem lk785 : Cond.methodLink "SealLine" 299 yX2_lostSince ∈ qg := qg_mem (List.mem_of_getElem? (i := 785) rfl) rfl
set_option maxRecDepth 100000 in
theorem lk788 : Cond.code yX2_lostSince cX2_lostSince 2 (some .int) ∈ qg := qg_mem (List.mem_of_getElem? (i := 788) rfl) rfl
set_option maxRecDepth 100000 in
theorem lk786 : Cond.instanceMethod yX2_lostSince ∈ qg := qg_mem (List.mem_of_getElem? (i := 786) rfl) rfl
set_option maxRecDepth 100000 in
theorem lk787 : Cond.selects "SealLine$Keys" yX2_lostSince yX2_lostSince ∈ qg := qg_mem (List.mem_of_getElem? (i := 787) rfl) rfl
theorem vX2_lostSince : qMv mX2_lostSince 1 := ⟨⟨lk788, lk73, by decide +kernel, by decide⟩, lk786, lk787⟩
set_option maxRecDepth 100000 in
theorem lk781 : Cond.methodLink "SealLine" 241 yX10_stands ∈ qg := qg_mem (List.mem_of_getElem? (i := 781) rfl) rfl
set_option maxRecDepth 100000 in
theorem lk784 : Cond.code yX10_stands cX10_stands 4 (some .boolean) ∈ qg := qg_mem (List.mem_of_getElem? (i := 784) rfl) rfl
set_option maxRecDepth 100000 in
theorem lk783 : Cond.instanceMethod yX10_stands ∈ qg := qg_mem (List.mem_of_getElem? (i := 783) rfl) rfl
set_option maxRecDepth 100000 in
theorem lk25 : Cond.selects "SealLine" yX10_stands yX10_stands ∈ qg := qg_mem (List.mem_of_getElem? (i := 25) rfl) rfl
theorem vX10_stands : qMv mX10_stands 1 := ⟨⟨lk784, lk63, by decide +kernel, by decide⟩, lk783, lk25⟩
set_option maxRecDepth 100000 in
theorem lk762 : Cond.methodLink "SealLine" 225 yX7_rowSize ∈ qg := qg_mem (List.mem_of_getElem? (i := 762) rfl) rfl
set_option maxRecDepth 100000 in
theorem lk765 : Cond.code yX7_rowSize cX7_rowSize 2 (some .int) ∈ qg := qg_mem (List.mem_of_getElem? (i := 765) rfl) rfl
set_option maxRecDepth 100000 in
theorem lk763 : Cond.instanceMethod yX7_rowSize ∈ qg := qg_mem (List.mem_of_getElem? (i := 763) rfl) rfl
set_option maxRecDepth 100000 in
theorem lk764 : Cond.selects "SealLine$Shelf" yX7_rowSize yX7_rowSize ∈ qg := qg_mem (List.mem_of_getElem? (i := 764) rfl) rfl
theorem vX7_rowSize : qMv mX7_rowSize 1 := ⟨⟨lk765, lk67, by decide +kernel, by decide⟩, lk763, lk764⟩
set_option maxRecDepth 100000 in
theorem lk776 : Cond.methodLink "SealLine" 231 yX4_placeOf ∈ qg := qg_mem (List.mem_of_getElem? (i := 776) rfl) rfl
set_option maxRecDepth 100000 in
theorem lk777 : Cond.methodLink "SealLine" 234 yX10_manyStanding ∈ qg := qg_mem (List.mem_of_getElem? (i := 777) rfl) rfl
set_option maxRecDepth 100000 in
theorem lk780 : Cond.code yX10_manyStanding cX10_manyStanding 4 (some .int) ∈ qg := qg_mem (List.mem_of_getElem? (i := 780) rfl) rfl
set_option maxRecDepth 100000 in
theorem lk779 : Cond.instanceMethod yX10_manyStanding ∈ qg := qg_mem (List.mem_of_getElem? (i := 779) rfl) rfl
set_option maxRecDepth 100000 in
theorem lk24 : Cond.selects "SealLine" yX10_manyStanding yX10_manyStanding ∈ qg := qg_mem (List.mem_of_getElem? (i := 24) rfl) rfl
theorem vX10_manyStanding : qMv mX10_manyStanding 1 := ⟨⟨lk780, lk63, by decide +kernel, by decide⟩, lk779, lk24⟩
set_option maxRecDepth 100000 in
theorem lk809 : Cond.methodLink "SealLine" 244 yX1_fewestHands ∈ qg := qg_mem (List.mem_of_getElem? (i := 809) rfl) rfl
set_option maxRecDepth 100000 in
theorem lk812 : Cond.code yX1_fewestHands cX1_fewestHands 2 (some .int) ∈ qg := qg_mem (List.mem_of_getElem? (i := 812) rfl) rfl
set_option maxRecDepth 100000 in
theorem lk810 : Cond.instanceMethod yX1_fewestHands ∈ qg := qg_mem (List.mem_of_getElem? (i := 810) rfl) rfl
set_option maxRecDepth 100000 in
theorem lk811 : Cond.selects "SealLine$Judging" yX1_fewestHands yX1_fewestHands ∈ qg := qg_mem (List.mem_of_getElem? (i := 811) rfl) rfl
theorem vX1_fewestHands : qMv mX1_fewestHands 1 := ⟨⟨lk812, lk74, by decide +kernel, by decide⟩, lk810, lk811⟩
set_option maxRecDepth 100000 in
theorem lk831 : Cond.methodLink "SealLine" 248 yX1_fewestMakers ∈ qg := qg_mem (List.mem_of_getElem? (i := 831) rfl) rfl
set_option maxRecDepth 100000 in
theorem lk834 : Cond.code yX1_fewestMakers cX1_fewestMakers 2 (some .int) ∈ qg := qg_mem (List.mem_of_getElem? (i := 834) rfl) rfl
set_option maxRecDepth 100000 in
theorem lk832 : Cond.instanceMethod yX1_fewestMakers ∈ qg := qg_mem (List.mem_of_getElem? (i := 832) rfl) rfl
set_option maxRecDepth 100000 in
theorem lk833 : Cond.selects "SealLine$Judging" yX1_fewestMakers yX1_fewestMakers ∈ qg := qg_mem (List.mem_of_getElem? (i := 833) rfl) rfl
theorem vX1_fewestMakers : qMv mX1_fewestMakers 1 := ⟨⟨lk834, lk74, by decide +kernel, by decide⟩, lk832, lk833⟩
theorem fgX10_31 : qF RX10 31 10 3 := ⟨RX10, TX10, 11, rfl, by decide, jnX10, lk303⟩
set_option maxRecDepth 100000 in
theorem lk839 : Cond.methodLink "SealLine" 251 yX3_noteAt ∈ qg := qg_mem (List.mem_of_getElem? (i := 839) rfl) rfl
set_option maxRecDepth 100000 in
theorem lk842 : Cond.code yX3_noteAt cX3_noteAt 7 (some .int) ∈ qg := qg_mem (List.mem_of_getElem? (i := 842) rfl) rfl
set_option maxRecDepth 100000 in
theorem lk840 : Cond.instanceMethod yX3_noteAt ∈ qg := qg_mem (List.mem_of_getElem? (i := 840) rfl) rfl
set_option maxRecDepth 100000 in
theorem lk841 : Cond.selects "SealLine$Proof" yX3_noteAt yX3_noteAt ∈ qg := qg_mem (List.mem_of_getElem? (i := 841) rfl) rfl
theorem vX3_noteAt : qMv mX3_noteAt 4 := ⟨⟨lk842, lk69, by decide +kernel, by decide⟩, lk840, lk841⟩
set_option maxRecDepth 100000 in
theorem lk878 : Cond.methodLink "SealLine" 256 yX4_size ∈ qg := qg_mem (List.mem_of_getElem? (i := 878) rfl) rfl
set_option maxRecDepth 100000 in
theorem lk881 : Cond.code yX4_size cX4_size 1 (some .int) ∈ qg := qg_mem (List.mem_of_getElem? (i := 881) rfl) rfl
set_option maxRecDepth 100000 in
theorem lk879 : Cond.instanceMethod yX4_size ∈ qg := qg_mem (List.mem_of_getElem? (i := 879) rfl) rfl
set_option maxRecDepth 100000 in
theorem lk880 : Cond.selects "SealLine$Queue" yX4_size yX4_size ∈ qg := qg_mem (List.mem_of_getElem? (i := 880) rfl) rfl
theorem vX4_size : qMv mX4_size 0 := ⟨⟨lk881, lk72, by decide +kernel, by decide⟩, lk879, lk880⟩
set_option maxRecDepth 100000 in
theorem lk882 : Cond.methodLink "SealLine" 257 yX9_size ∈ qg := qg_mem (List.mem_of_getElem? (i := 882) rfl) rfl
set_option maxRecDepth 100000 in
theorem lk885 : Cond.code yX9_size cX9_size 1 (some .int) ∈ qg := qg_mem (List.mem_of_getElem? (i := 885) rfl) rfl
set_option maxRecDepth 100000 in
theorem lk883 : Cond.instanceMethod yX9_size ∈ qg := qg_mem (List.mem_of_getElem? (i := 883) rfl) rfl
set_option maxRecDepth 100000 in
theorem lk884 : Cond.selects "SealLine$Tape" yX9_size yX9_size ∈ qg := qg_mem (List.mem_of_getElem? (i := 884) rfl) rfl
theorem vX9_size : qMv mX9_size 0 := ⟨⟨lk885, lk71, by decide +kernel, by decide⟩, lk883, lk884⟩
set_option maxRecDepth 100000 in
theorem lk890 : Cond.methodLink "SealLine" 261 yX2_tell ∈ qg := qg_mem (List.mem_of_getElem? (i := 890) rfl) rfl
set_option maxRecDepth 100000 in
theorem lk893 : Cond.code yX2_tell cX2_tell 3 (some .int) ∈ qg := qg_mem (List.mem_of_getElem? (i := 893) rfl) rfl
set_option maxRecDepth 100000 in
theorem lk891 : Cond.instanceMethod yX2_tell ∈ qg := qg_mem (List.mem_of_getElem? (i := 891) rfl) rfl
set_option maxRecDepth 100000 in
theorem lk892 : Cond.selects "SealLine$Keys" yX2_tell yX2_tell ∈ qg := qg_mem (List.mem_of_getElem? (i := 892) rfl) rfl
theorem vX2_tell : qMv mX2_tell 2 := ⟨⟨lk893, lk73, by decide +kernel, by decide⟩, lk891, lk892⟩
set_option maxRecDepth 100000 in
theorem lk900 : Cond.methodLink "SealLineModel" 1 Lib.objectInit ∈ qg := qg_mem (List.mem_of_getElem? (i := 900) rfl) rfl
set_option maxRecDepth 100000 in
theorem lk907 : Cond.fieldLink "SealLineModel" 9 "SealLineModel" "hash" "[J" ∈ qg := qg_mem (List.mem_of_getElem? (i := 907) rfl) rfl
theorem fpX11_9 : qFp RX11 9 11 6 (.array .long) := ⟨RX11, TX11, 39, tyX11, rfl, by decide, jnX11, lk907, tyX11_ok, nmX11, rfl⟩
set_option maxRecDepth 100000 in
theorem lk908 : Cond.fieldLink "SealLineModel" 13 "SealLineModel" "sort" "[I" ∈ qg := qg_mem (List.mem_of_getElem? (i := 908) rfl) rfl
theorem fpX11_13 : qFp RX11 13 11 7 (.array .int) := ⟨RX11, TX11, 39, tyX11, rfl, by decide, jnX11, lk908, tyX11_ok, nmX11, rfl⟩
set_option maxRecDepth 100000 in
theorem lk909 : Cond.fieldLink "SealLineModel" 17 "SealLineModel" "of" "[I" ∈ qg := qg_mem (List.mem_of_getElem? (i := 909) rfl) rfl
theorem fpX11_17 : qFp RX11 17 11 8 (.array .int) := ⟨RX11, TX11, 39, tyX11, rfl, by decide, jnX11, lk909, tyX11_ok, nmX11, rfl⟩
set_option maxRecDepth 100000 in
theorem lk910 : Cond.fieldLink "SealLineModel" 20 "SealLineModel" "hand" "[I" ∈ qg := qg_mem (List.mem_of_getElem? (i := 910) rfl) rfl
theorem fpX11_20 : qFp RX11 20 11 9 (.array .int) := ⟨RX11, TX11, 39, tyX11, rfl, by decide, jnX11, lk910, tyX11_ok, nmX11, rfl⟩
set_option maxRecDepth 100000 in
theorem lk911 : Cond.fieldLink "SealLineModel" 23 "SealLineModel" "other" "[I" ∈ qg := qg_mem (List.mem_of_getElem? (i := 911) rfl) rfl
theorem fpX11_23 : qFp RX11 23 11 10 (.array .int) := ⟨RX11, TX11, 39, tyX11, rfl, by decide, jnX11, lk911, tyX11_ok, nmX11, rfl⟩
set_option maxRecDepth 100000 in
theorem lk912 : Cond.fieldLink "SealLineModel" 26 "SealLineModel" "tool" "[I" ∈ qg := qg_mem (List.mem_of_getElem? (i := 912) rfl) rfl
theorem fpX11_26 : qFp RX11 26 11 11 (.array .int) := ⟨RX11, TX11, 39, tyX11, rfl, by decide, jnX11, lk912, tyX11_ok, nmX11, rfl⟩
set_option maxRecDepth 100000 in
theorem lk913 : Cond.fieldLink "SealLineModel" 29 "SealLineModel" "first" "[I" ∈ qg := qg_mem (List.mem_of_getElem? (i := 913) rfl) rfl
theorem fpX11_29 : qFp RX11 29 11 12 (.array .int) := ⟨RX11, TX11, 39, tyX11, rfl, by decide, jnX11, lk913, tyX11_ok, nmX11, rfl⟩
set_option maxRecDepth 100000 in
theorem lk914 : Cond.fieldLink "SealLineModel" 32 "SealLineModel" "second" "[I" ∈ qg := qg_mem (List.mem_of_getElem? (i := 914) rfl) rfl
theorem fpX11_32 : qFp RX11 32 11 13 (.array .int) := ⟨RX11, TX11, 39, tyX11, rfl, by decide, jnX11, lk914, tyX11_ok, nmX11, rfl⟩
set_option maxRecDepth 100000 in
theorem lk915 : Cond.fieldLink "SealLineModel" 35 "SealLineModel" "third" "[I" ∈ qg := qg_mem (List.mem_of_getElem? (i := 915) rfl) rfl
theorem fpX11_35 : qFp RX11 35 11 14 (.array .int) := ⟨RX11, TX11, 39, tyX11, rfl, by decide, jnX11, lk915, tyX11_ok, nmX11, rfl⟩
set_option maxRecDepth 100000 in
theorem lk916 : Cond.fieldLink "SealLineModel" 38 "SealLineModel" "good" "[I" ∈ qg := qg_mem (List.mem_of_getElem? (i := 916) rfl) rfl
theorem fpX11_38 : qFp RX11 38 11 15 (.array .int) := ⟨RX11, TX11, 39, tyX11, rfl, by decide, jnX11, lk916, tyX11_ok, nmX11, rfl⟩
set_option maxRecDepth 100000 in
theorem lk917 : Cond.fieldLink "SealLineModel" 41 "SealLineModel" "keyOf" "[I" ∈ qg := qg_mem (List.mem_of_getElem? (i := 917) rfl) rfl
theorem fpX11_41 : qFp RX11 41 11 16 (.array .int) := ⟨RX11, TX11, 39, tyX11, rfl, by decide, jnX11, lk917, tyX11_ok, nmX11, rfl⟩
set_option maxRecDepth 100000 in
theorem lk918 : Cond.fieldLink "SealLineModel" 44 "SealLineModel" "ruleOf" "[I" ∈ qg := qg_mem (List.mem_of_getElem? (i := 918) rfl) rfl
theorem fpX11_44 : qFp RX11 44 11 17 (.array .int) := ⟨RX11, TX11, 39, tyX11, rfl, by decide, jnX11, lk918, tyX11_ok, nmX11, rfl⟩
set_option maxRecDepth 100000 in
theorem lk919 : Cond.fieldLink "SealLineModel" 47 "SealLineModel" "sealNote" "[I" ∈ qg := qg_mem (List.mem_of_getElem? (i := 919) rfl) rfl
theorem fpX11_47 : qFp RX11 47 11 18 (.array .int) := ⟨RX11, TX11, 39, tyX11, rfl, by decide, jnX11, lk919, tyX11_ok, nmX11, rfl⟩
set_option maxRecDepth 100000 in
theorem lk920 : Cond.fieldLink "SealLineModel" 50 "SealLineModel" "queue" "[I" ∈ qg := qg_mem (List.mem_of_getElem? (i := 920) rfl) rfl
theorem fpX11_50 : qFp RX11 50 11 19 (.array .int) := ⟨RX11, TX11, 39, tyX11, rfl, by decide, jnX11, lk920, tyX11_ok, nmX11, rfl⟩
set_option maxRecDepth 100000 in
theorem lk921 : Cond.fieldLink "SealLineModel" 53 "SealLineModel" "left" "[I" ∈ qg := qg_mem (List.mem_of_getElem? (i := 921) rfl) rfl
theorem fpX11_53 : qFp RX11 53 11 20 (.array .int) := ⟨RX11, TX11, 39, tyX11, rfl, by decide, jnX11, lk921, tyX11_ok, nmX11, rfl⟩
set_option maxRecDepth 100000 in
theorem lk922 : Cond.fieldLink "SealLineModel" 56 "SealLineModel" "ended" "[Z" ∈ qg := qg_mem (List.mem_of_getElem? (i := 922) rfl) rfl
theorem fpX11_56 : qFp RX11 56 11 21 (.array .boolean) := ⟨RX11, TX11, 39, tyX11, rfl, by decide, jnX11, lk922, tyX11_ok, nmX11, rfl⟩
set_option maxRecDepth 100000 in
theorem lk923 : Cond.fieldLink "SealLineModel" 60 "SealLineModel" "lost" "[I" ∈ qg := qg_mem (List.mem_of_getElem? (i := 923) rfl) rfl
theorem fpX11_60 : qFp RX11 60 11 22 (.array .int) := ⟨RX11, TX11, 39, tyX11, rfl, by decide, jnX11, lk923, tyX11_ok, nmX11, rfl⟩
set_option maxRecDepth 100000 in
theorem lk924 : Cond.fieldLink "SealLineModel" 63 "SealLineModel" "callSort" "[I" ∈ qg := qg_mem (List.mem_of_getElem? (i := 924) rfl) rfl
theorem fpX11_63 : qFp RX11 63 11 23 (.array .int) := ⟨RX11, TX11, 39, tyX11, rfl, by decide, jnX11, lk924, tyX11_ok, nmX11, rfl⟩
set_option maxRecDepth 100000 in
theorem lk925 : Cond.fieldLink "SealLineModel" 66 "SealLineModel" "callWhose" "[I" ∈ qg := qg_mem (List.mem_of_getElem? (i := 925) rfl) rfl
theorem fpX11_66 : qFp RX11 66 11 24 (.array .int) := ⟨RX11, TX11, 39, tyX11, rfl, by decide, jnX11, lk925, tyX11_ok, nmX11, rfl⟩
set_option maxRecDepth 100000 in
theorem lk926 : Cond.fieldLink "SealLineModel" 69 "SealLineModel" "callSince" "[I" ∈ qg := qg_mem (List.mem_of_getElem? (i := 926) rfl) rfl
theorem fpX11_69 : qFp RX11 69 11 25 (.array .int) := ⟨RX11, TX11, 39, tyX11, rfl, by decide, jnX11, lk926, tyX11_ok, nmX11, rfl⟩
set_option maxRecDepth 100000 in
theorem lk927 : Cond.fieldLink "SealLineModel" 72 "SealLineModel" "row" "[Z" ∈ qg := qg_mem (List.mem_of_getElem? (i := 927) rfl) rfl
theorem fpX11_72 : qFp RX11 72 11 26 (.array .boolean) := ⟨RX11, TX11, 39, tyX11, rfl, by decide, jnX11, lk927, tyX11_ok, nmX11, rfl⟩
set_option maxRecDepth 100000 in
theorem lk928 : Cond.fieldLink "SealLineModel" 75 "SealLineModel" "way" "[I" ∈ qg := qg_mem (List.mem_of_getElem? (i := 928) rfl) rfl
theorem fpX11_75 : qFp RX11 75 11 27 (.array .int) := ⟨RX11, TX11, 39, tyX11, rfl, by decide, jnX11, lk928, tyX11_ok, nmX11, rfl⟩
set_option maxRecDepth 100000 in
theorem lk929 : Cond.fieldLink "SealLineModel" 78 "SealLineModel" "clean" "[Z" ∈ qg := qg_mem (List.mem_of_getElem? (i := 929) rfl) rfl
theorem fpX11_78 : qFp RX11 78 11 28 (.array .boolean) := ⟨RX11, TX11, 39, tyX11, rfl, by decide, jnX11, lk929, tyX11_ok, nmX11, rfl⟩
set_option maxRecDepth 100000 in
theorem lk930 : Cond.fieldLink "SealLineModel" 81 "SealLineModel" "tape" "[I" ∈ qg := qg_mem (List.mem_of_getElem? (i := 930) rfl) rfl
theorem fpX11_81 : qFp RX11 81 11 29 (.array .int) := ⟨RX11, TX11, 39, tyX11, rfl, by decide, jnX11, lk930, tyX11_ok, nmX11, rfl⟩
set_option maxRecDepth 100000 in
theorem lk931 : Cond.fieldLink "SealLineModel" 84 "SealLineModel" "codes" "[I" ∈ qg := qg_mem (List.mem_of_getElem? (i := 931) rfl) rfl
theorem fpX11_84 : qFp RX11 84 11 30 (.array .int) := ⟨RX11, TX11, 39, tyX11, rfl, by decide, jnX11, lk931, tyX11_ok, nmX11, rfl⟩
set_option maxRecDepth 100000 in
theorem lk932 : Cond.fieldLink "SealLineModel" 87 "SealLineModel" "saying" "[I" ∈ qg := qg_mem (List.mem_of_getElem? (i := 932) rfl) rfl
theorem fpX11_87 : qFp RX11 87 11 31 (.array .int) := ⟨RX11, TX11, 39, tyX11, rfl, by decide, jnX11, lk932, tyX11_ok, nmX11, rfl⟩
set_option maxRecDepth 100000 in
theorem lk938 : Cond.fieldLink "SealLineModel" 90 "SealLineModel" "pile" "[Z" ∈ qg := qg_mem (List.mem_of_getElem? (i := 938) rfl) rfl
theorem fpX11_90 : qFp RX11 90 11 37 (.array .boolean) := ⟨RX11, TX11, 39, tyX11, rfl, by decide, jnX11, lk938, tyX11_ok, nmX11, rfl⟩
set_option maxRecDepth 100000 in
theorem lk939 : Cond.fieldLink "SealLineModel" 93 "SealLineModel" "proves" "[Z" ∈ qg := qg_mem (List.mem_of_getElem? (i := 939) rfl) rfl
theorem fpX11_93 : qFp RX11 93 11 38 (.array .boolean) := ⟨RX11, TX11, 39, tyX11, rfl, by decide, jnX11, lk939, tyX11_ok, nmX11, rfl⟩
theorem fgX11_60 : qF RX11 60 11 22 := ⟨RX11, TX11, 39, rfl, by decide, jnX11, lk923⟩
set_option maxRecDepth 100000 in
theorem lk902 : Cond.fieldLink "SealLineModel" 96 "SealLineModel" "files" "I" ∈ qg := qg_mem (List.mem_of_getElem? (i := 902) rfl) rfl
theorem fgX11_96 : qF RX11 96 11 1 := ⟨RX11, TX11, 39, rfl, by decide, jnX11, lk902⟩
set_option maxRecDepth 100000 in
theorem lk1030 : Cond.methodLink "SealLineModel" 100 yX11_in ∈ qg := qg_mem (List.mem_of_getElem? (i := 1030) rfl) rfl
set_option maxRecDepth 100000 in
theorem lk1032 : Cond.code yX11_in cX11_in 3 (some .boolean) ∈ qg := qg_mem (List.mem_of_getElem? (i := 1032) rfl) rfl
set_option maxRecDepth 100000 in
theorem lk76 : Cond.initialized "SealLineModel" ∈ qg := qg_mem (List.mem_of_getElem? (i := 76) rfl) rfl
set_option maxRecDepth 100000 in
theorem lk1031 : Cond.static yX11_in ∈ qg := qg_mem (List.mem_of_getElem? (i := 1031) rfl) rfl
theorem tX11_in : qMs mX11_in 3 := ⟨⟨lk1032, lk76, by decide +kernel, by decide⟩, lk1031⟩
theorem fgX11_9 : qF RX11 9 11 6 := ⟨RX11, TX11, 39, rfl, by decide, jnX11, lk907⟩
set_option maxRecDepth 100000 in
theorem lk901 : Cond.fieldLink "SealLineModel" 104 "SealLineModel" "notes" "I" ∈ qg := qg_mem (List.mem_of_getElem? (i := 901) rfl) rfl
theorem fgX11_104 : qF RX11 104 11 0 := ⟨RX11, TX11, 39, rfl, by decide, jnX11, lk901⟩
theorem fpX11_104 : qFp RX11 104 11 0 .int := ⟨RX11, TX11, 39, tyX11, rfl, by decide, jnX11, lk901, tyX11_ok, nmX11, rfl⟩
theorem fgX11_13 : qF RX11 13 11 7 := ⟨RX11, TX11, 39, rfl, by decide, jnX11, lk908⟩
theorem fgX11_17 : qF RX11 17 11 8 := ⟨RX11, TX11, 39, rfl, by decide, jnX11, lk909⟩
theorem fgX11_20 : qF RX11 20 11 9 := ⟨RX11, TX11, 39, rfl, by decide, jnX11, lk910⟩
theorem fgX11_23 : qF RX11 23 11 10 := ⟨RX11, TX11, 39, rfl, by decide, jnX11, lk911⟩
theorem fgX11_26 : qF RX11 26 11 11 := ⟨RX11, TX11, 39, rfl, by decide, jnX11, lk912⟩
theorem fgX11_29 : qF RX11 29 11 12 := ⟨RX11, TX11, 39, rfl, by decide, jnX11, lk913⟩
theorem fgX11_32 : qF RX11 32 11 13 := ⟨RX11, TX11, 39, rfl, by decide, jnX11, lk914⟩
theorem fgX11_35 : qF RX11 35 11 14 := ⟨RX11, TX11, 39, rfl, by decide, jnX11, lk915⟩
theorem fgX11_38 : qF RX11 38 11 15 := ⟨RX11, TX11, 39, rfl, by decide, jnX11, lk916⟩
theorem fgX11_41 : qF RX11 41 11 16 := ⟨RX11, TX11, 39, rfl, by decide, jnX11, lk917⟩
theorem fgX11_44 : qF RX11 44 11 17 := ⟨RX11, TX11, 39, rfl, by decide, jnX11, lk918⟩
theorem fpX11_96 : qFp RX11 96 11 1 .int := ⟨RX11, TX11, 39, tyX11, rfl, by decide, jnX11, lk902, tyX11_ok, nmX11, rfl⟩
set_option maxRecDepth 100000 in
theorem lk1033 : Cond.methodLink "SealLineModel" 107 yX11_find ∈ qg := qg_mem (List.mem_of_getElem? (i := 1033) rfl) rfl
set_option maxRecDepth 100000 in
theorem lk1022 : Cond.code yX11_find cX11_find 4 (some .int) ∈ qg := qg_mem (List.mem_of_getElem? (i := 1022) rfl) rfl
set_option maxRecDepth 100000 in
theorem lk1020 : Cond.instanceMethod yX11_find ∈ qg := qg_mem (List.mem_of_getElem? (i := 1020) rfl) rfl
set_option maxRecDepth 100000 in
theorem lk1021 : Cond.selects "SealLineModel" yX11_find yX11_find ∈ qg := qg_mem (List.mem_of_getElem? (i := 1021) rfl) rfl
theorem vX11_find : qMv mX11_find 1 := ⟨⟨lk1022, lk76, by decide +kernel, by decide⟩, lk1020, lk1021⟩
set_option maxRecDepth 100000 in
theorem lk1027 : Cond.methodLink "SealLineModel" 111 yX11_isHand ∈ qg := qg_mem (List.mem_of_getElem? (i := 1027) rfl) rfl
set_option maxRecDepth 100000 in
theorem lk1029 : Cond.code yX11_isHand cX11_isHand 1 (some .boolean) ∈ qg := qg_mem (List.mem_of_getElem? (i := 1029) rfl) rfl
set_option maxRecDepth 100000 in
theorem lk1028 : Cond.static yX11_isHand ∈ qg := qg_mem (List.mem_of_getElem? (i := 1028) rfl) rfl
theorem tX11_isHand : qMs mX11_isHand 1 := ⟨⟨lk1029, lk76, by decide +kernel, by decide⟩, lk1028⟩
set_option maxRecDepth 100000 in
theorem lk1034 : Cond.methodLink "SealLineModel" 115 yX11_fileFor ∈ qg := qg_mem (List.mem_of_getElem? (i := 1034) rfl) rfl
set_option maxRecDepth 100000 in
theorem lk1037 : Cond.code yX11_fileFor cX11_fileFor 4 (some .int) ∈ qg := qg_mem (List.mem_of_getElem? (i := 1037) rfl) rfl
set_option maxRecDepth 100000 in
theorem lk1036 : Cond.instanceMethod yX11_fileFor ∈ qg := qg_mem (List.mem_of_getElem? (i := 1036) rfl) rfl
set_option maxRecDepth 100000 in
theorem lk32 : Cond.selects "SealLineModel" yX11_fileFor yX11_fileFor ∈ qg := qg_mem (List.mem_of_getElem? (i := 32) rfl) rfl
theorem vX11_fileFor : qMv mX11_fileFor 1 := ⟨⟨lk1037, lk76, by decide +kernel, by decide⟩, lk1036, lk32⟩
set_option maxRecDepth 100000 in
theorem lk1038 : Cond.methodLink "SealLineModel" 118 yX11_addNote ∈ qg := qg_mem (List.mem_of_getElem? (i := 1038) rfl) rfl
set_option maxRecDepth 100000 in
theorem lk1041 : Cond.code yX11_addNote cX11_addNote 5 (some .int) ∈ qg := qg_mem (List.mem_of_getElem? (i := 1041) rfl) rfl
set_option maxRecDepth 100000 in
theorem lk1040 : Cond.instanceMethod yX11_addNote ∈ qg := qg_mem (List.mem_of_getElem? (i := 1040) rfl) rfl
set_option maxRecDepth 100000 in
theorem lk33 : Cond.selects "SealLineModel" yX11_addNote yX11_addNote ∈ qg := qg_mem (List.mem_of_getElem? (i := 33) rfl) rfl
theorem vX11_addNote : qMv mX11_addNote 3 := ⟨⟨lk1041, lk76, by decide +kernel, by decide⟩, lk1040, lk33⟩
theorem fgX11_72 : qF RX11 72 11 26 := ⟨RX11, TX11, 39, rfl, by decide, jnX11, lk927⟩
theorem fgX11_75 : qF RX11 75 11 27 := ⟨RX11, TX11, 39, rfl, by decide, jnX11, lk928⟩
set_option maxRecDepth 100000 in
theorem lk1072 : Cond.methodLink "SealLineModel" 122 yX11_went ∈ qg := qg_mem (List.mem_of_getElem? (i := 1072) rfl) rfl
set_option maxRecDepth 100000 in
theorem lk1075 : Cond.code yX11_went cX11_went 3 (some .int) ∈ qg := qg_mem (List.mem_of_getElem? (i := 1075) rfl) rfl
set_option maxRecDepth 100000 in
theorem lk1074 : Cond.instanceMethod yX11_went ∈ qg := qg_mem (List.mem_of_getElem? (i := 1074) rfl) rfl
set_option maxRecDepth 100000 in
theorem lk39 : Cond.selects "SealLineModel" yX11_went yX11_went ∈ qg := qg_mem (List.mem_of_getElem? (i := 39) rfl) rfl
theorem vX11_went : qMv mX11_went 2 := ⟨⟨lk1075, lk76, by decide +kernel, by decide⟩, lk1074, lk39⟩
set_option maxRecDepth 100000 in
theorem lk1068 : Cond.methodLink "SealLineModel" 126 yX11_addRow ∈ qg := qg_mem (List.mem_of_getElem? (i := 1068) rfl) rfl
set_option maxRecDepth 100000 in
theorem lk1071 : Cond.code yX11_addRow cX11_addRow 7 none ∈ qg := qg_mem (List.mem_of_getElem? (i := 1071) rfl) rfl
set_option maxRecDepth 100000 in
theorem lk1070 : Cond.instanceMethod yX11_addRow ∈ qg := qg_mem (List.mem_of_getElem? (i := 1070) rfl) rfl
set_option maxRecDepth 100000 in
theorem lk38 : Cond.selects "SealLineModel" yX11_addRow yX11_addRow ∈ qg := qg_mem (List.mem_of_getElem? (i := 38) rfl) rfl
theorem vX11_addRow : qMv mX11_addRow 1 := ⟨⟨lk1071, lk76, by decide +kernel, by decide⟩, lk1070, lk38⟩
set_option maxRecDepth 100000 in
theorem lk1050 : Cond.methodLink "SealLineModel" 130 yX11_isFile ∈ qg := qg_mem (List.mem_of_getElem? (i := 1050) rfl) rfl
set_option maxRecDepth 100000 in
theorem lk1053 : Cond.code yX11_isFile cX11_isFile 2 (some .boolean) ∈ qg := qg_mem (List.mem_of_getElem? (i := 1053) rfl) rfl
set_option maxRecDepth 100000 in
theorem lk1052 : Cond.instanceMethod yX11_isFile ∈ qg := qg_mem (List.mem_of_getElem? (i := 1052) rfl) rfl
set_option maxRecDepth 100000 in
theorem lk35 : Cond.selects "SealLineModel" yX11_isFile yX11_isFile ∈ qg := qg_mem (List.mem_of_getElem? (i := 35) rfl) rfl
theorem vX11_isFile : qMv mX11_isFile 1 := ⟨⟨lk1053, lk76, by decide +kernel, by decide⟩, lk1052, lk35⟩
set_option maxRecDepth 100000 in
theorem lk1058 : Cond.constantLong "SealLineModel" 133 6364136223846793005 ∈ qg := qg_mem (List.mem_of_getElem? (i := 1058) rfl) rfl
set_option maxRecDepth 100000 in
theorem lk1059 : Cond.constantLong "SealLineModel" 135 1442695040888963407 ∈ qg := qg_mem (List.mem_of_getElem? (i := 1059) rfl) rfl
set_option maxRecDepth 100000 in
theorem lk1046 : Cond.methodLink "SealLineModel" 137 yX11_areFiles ∈ qg := qg_mem (List.mem_of_getElem? (i := 1046) rfl) rfl
set_option maxRecDepth 100000 in
theorem lk1049 : Cond.code yX11_areFiles cX11_areFiles 4 (some .boolean) ∈ qg := qg_mem (List.mem_of_getElem? (i := 1049) rfl) rfl
set_option maxRecDepth 100000 in
theorem lk1048 : Cond.instanceMethod yX11_areFiles ∈ qg := qg_mem (List.mem_of_getElem? (i := 1048) rfl) rfl
set_option maxRecDepth 100000 in
theorem lk34 : Cond.selects "SealLineModel" yX11_areFiles yX11_areFiles ∈ qg := qg_mem (List.mem_of_getElem? (i := 34) rfl) rfl
theorem vX11_areFiles : qMv mX11_areFiles 3 := ⟨⟨lk1049, lk76, by decide +kernel, by decide⟩, lk1048, lk34⟩
set_option maxRecDepth 100000 in
theorem lk1054 : Cond.methodLink "SealLineModel" 140 yX11_mixOf ∈ qg := qg_mem (List.mem_of_getElem? (i := 1054) rfl) rfl
set_option maxRecDepth 100000 in
theorem lk1057 : Cond.code yX11_mixOf cX11_mixOf 9 (some .long) ∈ qg := qg_mem (List.mem_of_getElem? (i := 1057) rfl) rfl
set_option maxRecDepth 100000 in
theorem lk1056 : Cond.instanceMethod yX11_mixOf ∈ qg := qg_mem (List.mem_of_getElem? (i := 1056) rfl) rfl
set_option maxRecDepth 100000 in
theorem lk36 : Cond.selects "SealLineModel" yX11_mixOf yX11_mixOf ∈ qg := qg_mem (List.mem_of_getElem? (i := 36) rfl) rfl
theorem vX11_mixOf : qMv mX11_mixOf 4 := ⟨⟨lk1057, lk76, by decide +kernel, by decide⟩, lk1056, lk36⟩
set_option maxRecDepth 100000 in
theorem lk1064 : Cond.methodLink "SealLineModel" 144 yX11_rowOf ∈ qg := qg_mem (List.mem_of_getElem? (i := 1064) rfl) rfl
set_option maxRecDepth 100000 in
theorem lk1067 : Cond.code yX11_rowOf cX11_rowOf 3 none ∈ qg := qg_mem (List.mem_of_getElem? (i := 1067) rfl) rfl
set_option maxRecDepth 100000 in
theorem lk1066 : Cond.instanceMethod yX11_rowOf ∈ qg := qg_mem (List.mem_of_getElem? (i := 1066) rfl) rfl
set_option maxRecDepth 100000 in
theorem lk37 : Cond.selects "SealLineModel" yX11_rowOf yX11_rowOf ∈ qg := qg_mem (List.mem_of_getElem? (i := 37) rfl) rfl
theorem vX11_rowOf : qMv mX11_rowOf 1 := ⟨⟨lk1067, lk76, by decide +kernel, by decide⟩, lk1066, lk37⟩
set_option maxRecDepth 100000 in
theorem lk1080 : Cond.methodLink "SealLineModel" 147 yX11_says ∈ qg := qg_mem (List.mem_of_getElem? (i := 1080) rfl) rfl
set_option maxRecDepth 100000 in
theorem lk1083 : Cond.code yX11_says cX11_says 6 (some .int) ∈ qg := qg_mem (List.mem_of_getElem? (i := 1083) rfl) rfl
set_option maxRecDepth 100000 in
theorem lk1082 : Cond.instanceMethod yX11_says ∈ qg := qg_mem (List.mem_of_getElem? (i := 1082) rfl) rfl
set_option maxRecDepth 100000 in
theorem lk40 : Cond.selects "SealLineModel" yX11_says yX11_says ∈ qg := qg_mem (List.mem_of_getElem? (i := 40) rfl) rfl
theorem vX11_says : qMv mX11_says 4 := ⟨⟨lk1083, lk76, by decide +kernel, by decide⟩, lk1082, lk40⟩
theorem fgX11_78 : qF RX11 78 11 28 := ⟨RX11, TX11, 39, rfl, by decide, jnX11, lk929⟩
set_option maxRecDepth 100000 in
theorem lk1160 : Cond.methodLink "SealLineModel" 151 yX11_allClean ∈ qg := qg_mem (List.mem_of_getElem? (i := 1160) rfl) rfl
set_option maxRecDepth 100000 in
theorem lk1163 : Cond.code yX11_allClean cX11_allClean 4 (some .boolean) ∈ qg := qg_mem (List.mem_of_getElem? (i := 1163) rfl) rfl
set_option maxRecDepth 100000 in
theorem lk1162 : Cond.instanceMethod yX11_allClean ∈ qg := qg_mem (List.mem_of_getElem? (i := 1162) rfl) rfl
set_option maxRecDepth 100000 in
theorem lk51 : Cond.selects "SealLineModel" yX11_allClean yX11_allClean ∈ qg := qg_mem (List.mem_of_getElem? (i := 51) rfl) rfl
theorem vX11_allClean : qMv mX11_allClean 1 := ⟨⟨lk1163, lk76, by decide +kernel, by decide⟩, lk1162, lk51⟩
set_option maxRecDepth 100000 in
theorem lk1156 : Cond.methodLink "SealLineModel" 154 yX11_findClean ∈ qg := qg_mem (List.mem_of_getElem? (i := 1156) rfl) rfl
set_option maxRecDepth 100000 in
theorem lk1159 : Cond.code yX11_findClean cX11_findClean 4 none ∈ qg := qg_mem (List.mem_of_getElem? (i := 1159) rfl) rfl
set_option maxRecDepth 100000 in
theorem lk1158 : Cond.instanceMethod yX11_findClean ∈ qg := qg_mem (List.mem_of_getElem? (i := 1158) rfl) rfl
set_option maxRecDepth 100000 in
theorem lk50 : Cond.selects "SealLineModel" yX11_findClean yX11_findClean ∈ qg := qg_mem (List.mem_of_getElem? (i := 50) rfl) rfl
theorem vX11_findClean : qMv mX11_findClean 0 := ⟨⟨lk1159, lk76, by decide +kernel, by decide⟩, lk1158, lk50⟩
set_option maxRecDepth 100000 in
theorem lk904 : Cond.fieldLink "SealLineModel" 157 "SealLineModel" "calls" "I" ∈ qg := qg_mem (List.mem_of_getElem? (i := 904) rfl) rfl
theorem fgX11_157 : qF RX11 157 11 3 := ⟨RX11, TX11, 39, rfl, by decide, jnX11, lk904⟩
theorem fgX11_63 : qF RX11 63 11 23 := ⟨RX11, TX11, 39, rfl, by decide, jnX11, lk924⟩
theorem fgX11_66 : qF RX11 66 11 24 := ⟨RX11, TX11, 39, rfl, by decide, jnX11, lk925⟩
theorem fgX11_69 : qF RX11 69 11 25 := ⟨RX11, TX11, 39, rfl, by decide, jnX11, lk926⟩
set_option maxRecDepth 100000 in
theorem lk1181 : Cond.methodLink "SealLineModel" 160 yX11_isCalledNote ∈ qg := qg_mem (List.mem_of_getElem? (i := 1181) rfl) rfl
set_option maxRecDepth 100000 in
theorem lk1184 : Cond.code yX11_isCalledNote cX11_isCalledNote 4 (some .boolean) ∈ qg := qg_mem (List.mem_of_getElem? (i := 1184) rfl) rfl
set_option maxRecDepth 100000 in
theorem lk1183 : Cond.instanceMethod yX11_isCalledNote ∈ qg := qg_mem (List.mem_of_getElem? (i := 1183) rfl) rfl
set_option maxRecDepth 100000 in
theorem lk56 : Cond.selects "SealLineModel" yX11_isCalledNote yX11_isCalledNote ∈ qg := qg_mem (List.mem_of_getElem? (i := 56) rfl) rfl
theorem vX11_isCalledNote : qMv mX11_isCalledNote 1 := ⟨⟨lk1184, lk76, by decide +kernel, by decide⟩, lk1183, lk56⟩
set_option maxRecDepth 100000 in
theorem lk1172 : Cond.methodLink "SealLineModel" 163 yJ6_bitCount_0f7a4 ∈ qg := qg_mem (List.mem_of_getElem? (i := 1172) rfl) rfl
set_option maxRecDepth 100000 in
theorem lk933 : Cond.fieldLink "SealLineModel" 169 "SealLineModel" "size" "I" ∈ qg := qg_mem (List.mem_of_getElem? (i := 933) rfl) rfl
theorem fgX11_169 : qF RX11 169 11 32 := ⟨RX11, TX11, 39, rfl, by decide, jnX11, lk933⟩
theorem fgX11_81 : qF RX11 81 11 29 := ⟨RX11, TX11, 39, rfl, by decide, jnX11, lk930⟩
theorem fpX11_169 : qFp RX11 169 11 32 .int := ⟨RX11, TX11, 39, tyX11, rfl, by decide, jnX11, lk933, tyX11_ok, nmX11, rfl⟩
set_option maxRecDepth 100000 in
theorem lk934 : Cond.fieldLink "SealLineModel" 172 "SealLineModel" "at" "I" ∈ qg := qg_mem (List.mem_of_getElem? (i := 934) rfl) rfl
theorem fgX11_172 : qF RX11 172 11 33 := ⟨RX11, TX11, 39, rfl, by decide, jnX11, lk934⟩
theorem fpX11_172 : qFp RX11 172 11 33 .int := ⟨RX11, TX11, 39, tyX11, rfl, by decide, jnX11, lk934, tyX11_ok, nmX11, rfl⟩
set_option maxRecDepth 100000 in
theorem lk935 : Cond.fieldLink "SealLineModel" 175 "SealLineModel" "wrong" "I" ∈ qg := qg_mem (List.mem_of_getElem? (i := 935) rfl) rfl
theorem fgX11_175 : qF RX11 175 11 34 := ⟨RX11, TX11, 39, rfl, by decide, jnX11, lk935⟩
theorem fpX11_175 : qFp RX11 175 11 34 .int := ⟨RX11, TX11, 39, tyX11, rfl, by decide, jnX11, lk935, tyX11_ok, nmX11, rfl⟩
theorem fgX11_87 : qF RX11 87 11 31 := ⟨RX11, TX11, 39, rfl, by decide, jnX11, lk932⟩
set_option maxRecDepth 100000 in
theorem lk937 : Cond.fieldLink "SealLineModel" 178 "SealLineModel" "said" "I" ∈ qg := qg_mem (List.mem_of_getElem? (i := 937) rfl) rfl
theorem fgX11_178 : qF RX11 178 11 36 := ⟨RX11, TX11, 39, rfl, by decide, jnX11, lk937⟩
theorem fpX11_178 : qFp RX11 178 11 36 .int := ⟨RX11, TX11, 39, tyX11, rfl, by decide, jnX11, lk937, tyX11_ok, nmX11, rfl⟩
set_option maxRecDepth 100000 in
theorem lk1104 : Cond.methodLink "SealLineModel" 200 yX11_part ∈ qg := qg_mem (List.mem_of_getElem? (i := 1104) rfl) rfl
set_option maxRecDepth 100000 in
theorem lk1107 : Cond.code yX11_part cX11_part 1 none ∈ qg := qg_mem (List.mem_of_getElem? (i := 1107) rfl) rfl
set_option maxRecDepth 100000 in
theorem lk1106 : Cond.instanceMethod yX11_part ∈ qg := qg_mem (List.mem_of_getElem? (i := 1106) rfl) rfl
set_option maxRecDepth 100000 in
theorem lk42 : Cond.selects "SealLineModel" yX11_part yX11_part ∈ qg := qg_mem (List.mem_of_getElem? (i := 42) rfl) rfl
theorem vX11_part : qMv mX11_part 0 := ⟨⟨lk1107, lk76, by decide +kernel, by decide⟩, lk1106, lk42⟩
set_option maxRecDepth 100000 in
theorem lk1112 : Cond.methodLink "SealLineModel" 181 yX11_look ∈ qg := qg_mem (List.mem_of_getElem? (i := 1112) rfl) rfl
set_option maxRecDepth 100000 in
theorem lk1115 : Cond.code yX11_look cX11_look 1 (some .int) ∈ qg := qg_mem (List.mem_of_getElem? (i := 1115) rfl) rfl
set_option maxRecDepth 100000 in
theorem lk1114 : Cond.instanceMethod yX11_look ∈ qg := qg_mem (List.mem_of_getElem? (i := 1114) rfl) rfl
set_option maxRecDepth 100000 in
theorem lk44 : Cond.selects "SealLineModel" yX11_look yX11_look ∈ qg := qg_mem (List.mem_of_getElem? (i := 44) rfl) rfl
theorem vX11_look : qMv mX11_look 0 := ⟨⟨lk1115, lk76, by decide +kernel, by decide⟩, lk1114, lk44⟩
set_option maxRecDepth 100000 in
theorem lk1120 : Cond.methodLink "SealLineModel" 194 yX11_say ∈ qg := qg_mem (List.mem_of_getElem? (i := 1120) rfl) rfl
set_option maxRecDepth 100000 in
theorem lk1123 : Cond.code yX11_say cX11_say 2 none ∈ qg := qg_mem (List.mem_of_getElem? (i := 1123) rfl) rfl
set_option maxRecDepth 100000 in
theorem lk1122 : Cond.instanceMethod yX11_say ∈ qg := qg_mem (List.mem_of_getElem? (i := 1122) rfl) rfl
set_option maxRecDepth 100000 in
theorem lk46 : Cond.selects "SealLineModel" yX11_say yX11_say ∈ qg := qg_mem (List.mem_of_getElem? (i := 46) rfl) rfl
theorem vX11_say : qMv mX11_say 1 := ⟨⟨lk1123, lk76, by decide +kernel, by decide⟩, lk1122, lk46⟩
set_option maxRecDepth 100000 in
theorem lk936 : Cond.fieldLink "SealLineModel" 185 "SealLineModel" "deep" "I" ∈ qg := qg_mem (List.mem_of_getElem? (i := 936) rfl) rfl
theorem fgX11_185 : qF RX11 185 11 35 := ⟨RX11, TX11, 39, rfl, by decide, jnX11, lk936⟩
theorem fpX11_185 : qFp RX11 185 11 35 .int := ⟨RX11, TX11, 39, tyX11, rfl, by decide, jnX11, lk936, tyX11_ok, nmX11, rfl⟩
set_option maxRecDepth 100000 in
theorem lk1100 : Cond.methodLink "SealLineModel" 188 yX11_tests ∈ qg := qg_mem (List.mem_of_getElem? (i := 1100) rfl) rfl
set_option maxRecDepth 100000 in
theorem lk1103 : Cond.code yX11_tests cX11_tests 1 none ∈ qg := qg_mem (List.mem_of_getElem? (i := 1103) rfl) rfl
set_option maxRecDepth 100000 in
theorem lk1102 : Cond.instanceMethod yX11_tests ∈ qg := qg_mem (List.mem_of_getElem? (i := 1102) rfl) rfl
set_option maxRecDepth 100000 in
theorem lk41 : Cond.selects "SealLineModel" yX11_tests yX11_tests ∈ qg := qg_mem (List.mem_of_getElem? (i := 41) rfl) rfl
theorem vX11_tests : qMv mX11_tests 0 := ⟨⟨lk1103, lk76, by decide +kernel, by decide⟩, lk1102, lk41⟩
set_option maxRecDepth 100000 in
theorem lk1116 : Cond.methodLink "SealLineModel" 191 yX11_fail ∈ qg := qg_mem (List.mem_of_getElem? (i := 1116) rfl) rfl
set_option maxRecDepth 100000 in
theorem lk1119 : Cond.code yX11_fail cX11_fail 1 none ∈ qg := qg_mem (List.mem_of_getElem? (i := 1119) rfl) rfl
set_option maxRecDepth 100000 in
theorem lk1118 : Cond.instanceMethod yX11_fail ∈ qg := qg_mem (List.mem_of_getElem? (i := 1118) rfl) rfl
set_option maxRecDepth 100000 in
theorem lk45 : Cond.selects "SealLineModel" yX11_fail yX11_fail ∈ qg := qg_mem (List.mem_of_getElem? (i := 45) rfl) rfl
theorem vX11_fail : qMv mX11_fail 0 := ⟨⟨lk1119, lk76, by decide +kernel, by decide⟩, lk1118, lk45⟩
set_option maxRecDepth 100000 in
theorem lk1108 : Cond.methodLink "SealLineModel" 197 yX11_unit ∈ qg := qg_mem (List.mem_of_getElem? (i := 1108) rfl) rfl
set_option maxRecDepth 100000 in
theorem lk1111 : Cond.code yX11_unit cX11_unit 6 none ∈ qg := qg_mem (List.mem_of_getElem? (i := 1111) rfl) rfl
set_option maxRecDepth 100000 in
theorem lk1110 : Cond.instanceMethod yX11_unit ∈ qg := qg_mem (List.mem_of_getElem? (i := 1110) rfl) rfl
set_option maxRecDepth 100000 in
theorem lk43 : Cond.selects "SealLineModel" yX11_unit yX11_unit ∈ qg := qg_mem (List.mem_of_getElem? (i := 43) rfl) rfl
theorem vX11_unit : qMv mX11_unit 0 := ⟨⟨lk1111, lk76, by decide +kernel, by decide⟩, lk1110, lk43⟩
set_option maxRecDepth 100000 in
theorem lk903 : Cond.fieldLink "SealLineModel" 203 "SealLineModel" "rules" "I" ∈ qg := qg_mem (List.mem_of_getElem? (i := 903) rfl) rfl
theorem fgX11_203 : qF RX11 203 11 2 := ⟨RX11, TX11, 39, rfl, by decide, jnX11, lk903⟩
theorem fgX11_84 : qF RX11 84 11 30 := ⟨RX11, TX11, 39, rfl, by decide, jnX11, lk931⟩
theorem fpX11_203 : qFp RX11 203 11 2 .int := ⟨RX11, TX11, 39, tyX11, rfl, by decide, jnX11, lk903, tyX11_ok, nmX11, rfl⟩
set_option maxRecDepth 100000 in
theorem lk1128 : Cond.methodLink "SealLineModel" 206 yX11_fault ∈ qg := qg_mem (List.mem_of_getElem? (i := 1128) rfl) rfl
set_option maxRecDepth 100000 in
theorem lk1099 : Cond.code yX11_fault cX11_fault 1 (some .int) ∈ qg := qg_mem (List.mem_of_getElem? (i := 1099) rfl) rfl
set_option maxRecDepth 100000 in
theorem lk1097 : Cond.instanceMethod yX11_fault ∈ qg := qg_mem (List.mem_of_getElem? (i := 1097) rfl) rfl
set_option maxRecDepth 100000 in
theorem lk1098 : Cond.selects "SealLineModel" yX11_fault yX11_fault ∈ qg := qg_mem (List.mem_of_getElem? (i := 1098) rfl) rfl
theorem vX11_fault : qMv mX11_fault 0 := ⟨⟨lk1099, lk76, by decide +kernel, by decide⟩, lk1097, lk1098⟩
theorem fgX11_90 : qF RX11 90 11 37 := ⟨RX11, TX11, 39, rfl, by decide, jnX11, lk938⟩
set_option maxRecDepth 100000 in
theorem lk905 : Cond.fieldLink "SealLineModel" 209 "SealLineModel" "queued" "I" ∈ qg := qg_mem (List.mem_of_getElem? (i := 905) rfl) rfl
theorem fgX11_209 : qF RX11 209 11 4 := ⟨RX11, TX11, 39, rfl, by decide, jnX11, lk905⟩
theorem fgX11_50 : qF RX11 50 11 19 := ⟨RX11, TX11, 39, rfl, by decide, jnX11, lk920⟩
theorem fpX11_209 : qFp RX11 209 11 4 .int := ⟨RX11, TX11, 39, tyX11, rfl, by decide, jnX11, lk905, tyX11_ok, nmX11, rfl⟩
set_option maxRecDepth 100000 in
theorem lk1133 : Cond.methodLink "SealLineModel" 212 yX11_placeOf ∈ qg := qg_mem (List.mem_of_getElem? (i := 1133) rfl) rfl
set_option maxRecDepth 100000 in
theorem lk1136 : Cond.code yX11_placeOf cX11_placeOf 3 (some .int) ∈ qg := qg_mem (List.mem_of_getElem? (i := 1136) rfl) rfl
set_option maxRecDepth 100000 in
theorem lk1135 : Cond.instanceMethod yX11_placeOf ∈ qg := qg_mem (List.mem_of_getElem? (i := 1135) rfl) rfl
set_option maxRecDepth 100000 in
theorem lk47 : Cond.selects "SealLineModel" yX11_placeOf yX11_placeOf ∈ qg := qg_mem (List.mem_of_getElem? (i := 47) rfl) rfl
theorem vX11_placeOf : qMv mX11_placeOf 1 := ⟨⟨lk1136, lk76, by decide +kernel, by decide⟩, lk1135, lk47⟩
theorem fgX11_53 : qF RX11 53 11 20 := ⟨RX11, TX11, 39, rfl, by decide, jnX11, lk921⟩
theorem fgX11_56 : qF RX11 56 11 21 := ⟨RX11, TX11, 39, rfl, by decide, jnX11, lk922⟩
set_option maxRecDepth 100000 in
theorem lk1145 : Cond.methodLink "SealLineModel" 215 yX11_makersOf ∈ qg := qg_mem (List.mem_of_getElem? (i := 1145) rfl) rfl
set_option maxRecDepth 100000 in
theorem lk1148 : Cond.code yX11_makersOf cX11_makersOf 4 (some .int) ∈ qg := qg_mem (List.mem_of_getElem? (i := 1148) rfl) rfl
set_option maxRecDepth 100000 in
theorem lk1147 : Cond.instanceMethod yX11_makersOf ∈ qg := qg_mem (List.mem_of_getElem? (i := 1147) rfl) rfl
set_option maxRecDepth 100000 in
theorem lk48 : Cond.selects "SealLineModel" yX11_makersOf yX11_makersOf ∈ qg := qg_mem (List.mem_of_getElem? (i := 48) rfl) rfl
theorem vX11_makersOf : qMv mX11_makersOf 1 := ⟨⟨lk1148, lk76, by decide +kernel, by decide⟩, lk1147, lk48⟩
set_option maxRecDepth 100000 in
theorem lk1149 : Cond.methodLink "SealLineModel" 218 yX11_isKey ∈ qg := qg_mem (List.mem_of_getElem? (i := 1149) rfl) rfl
set_option maxRecDepth 100000 in
theorem lk1151 : Cond.code yX11_isKey cX11_isKey 1 (some .boolean) ∈ qg := qg_mem (List.mem_of_getElem? (i := 1151) rfl) rfl
set_option maxRecDepth 100000 in
theorem lk1150 : Cond.static yX11_isKey ∈ qg := qg_mem (List.mem_of_getElem? (i := 1150) rfl) rfl
theorem tX11_isKey : qMs mX11_isKey 1 := ⟨⟨lk1151, lk76, by decide +kernel, by decide⟩, lk1150⟩
set_option maxRecDepth 100000 in
theorem lk1152 : Cond.methodLink "SealLineModel" 221 yX11_isClean ∈ qg := qg_mem (List.mem_of_getElem? (i := 1152) rfl) rfl
set_option maxRecDepth 100000 in
theorem lk1155 : Cond.code yX11_isClean cX11_isClean 2 (some .boolean) ∈ qg := qg_mem (List.mem_of_getElem? (i := 1155) rfl) rfl
set_option maxRecDepth 100000 in
theorem lk1154 : Cond.instanceMethod yX11_isClean ∈ qg := qg_mem (List.mem_of_getElem? (i := 1154) rfl) rfl
set_option maxRecDepth 100000 in
theorem lk49 : Cond.selects "SealLineModel" yX11_isClean yX11_isClean ∈ qg := qg_mem (List.mem_of_getElem? (i := 49) rfl) rfl
theorem vX11_isClean : qMv mX11_isClean 1 := ⟨⟨lk1155, lk76, by decide +kernel, by decide⟩, lk1154, lk49⟩
set_option maxRecDepth 100000 in
theorem lk1164 : Cond.methodLink "SealLineModel" 224 yX11_handsWith ∈ qg := qg_mem (List.mem_of_getElem? (i := 1164) rfl) rfl
set_option maxRecDepth 100000 in
theorem lk1167 : Cond.code yX11_handsWith cX11_handsWith 8 (some .int) ∈ qg := qg_mem (List.mem_of_getElem? (i := 1167) rfl) rfl
set_option maxRecDepth 100000 in
theorem lk1166 : Cond.instanceMethod yX11_handsWith ∈ qg := qg_mem (List.mem_of_getElem? (i := 1166) rfl) rfl
set_option maxRecDepth 100000 in
theorem lk52 : Cond.selects "SealLineModel" yX11_handsWith yX11_handsWith ∈ qg := qg_mem (List.mem_of_getElem? (i := 52) rfl) rfl
theorem vX11_handsWith : qMv mX11_handsWith 3 := ⟨⟨lk1167, lk76, by decide +kernel, by decide⟩, lk1166, lk52⟩
set_option maxRecDepth 100000 in
theorem lk1168 : Cond.methodLink "SealLineModel" 227 yX11_builders ∈ qg := qg_mem (List.mem_of_getElem? (i := 1168) rfl) rfl
set_option maxRecDepth 100000 in
theorem lk1171 : Cond.code yX11_builders cX11_builders 4 (some .int) ∈ qg := qg_mem (List.mem_of_getElem? (i := 1171) rfl) rfl
set_option maxRecDepth 100000 in
theorem lk1170 : Cond.instanceMethod yX11_builders ∈ qg := qg_mem (List.mem_of_getElem? (i := 1170) rfl) rfl
set_option maxRecDepth 100000 in
theorem lk53 : Cond.selects "SealLineModel" yX11_builders yX11_builders ∈ qg := qg_mem (List.mem_of_getElem? (i := 53) rfl) rfl
theorem vX11_builders : qMv mX11_builders 1 := ⟨⟨lk1171, lk76, by decide +kernel, by decide⟩, lk1170, lk53⟩
set_option maxRecDepth 100000 in
theorem lk1173 : Cond.methodLink "SealLineModel" 230 yX11_holds ∈ qg := qg_mem (List.mem_of_getElem? (i := 1173) rfl) rfl
set_option maxRecDepth 100000 in
theorem lk1176 : Cond.code yX11_holds cX11_holds 8 (some .boolean) ∈ qg := qg_mem (List.mem_of_getElem? (i := 1176) rfl) rfl
set_option maxRecDepth 100000 in
theorem lk1175 : Cond.instanceMethod yX11_holds ∈ qg := qg_mem (List.mem_of_getElem? (i := 1175) rfl) rfl
set_option maxRecDepth 100000 in
theorem lk54 : Cond.selects "SealLineModel" yX11_holds yX11_holds ∈ qg := qg_mem (List.mem_of_getElem? (i := 54) rfl) rfl
theorem vX11_holds : qMv mX11_holds 3 := ⟨⟨lk1176, lk76, by decide +kernel, by decide⟩, lk1175, lk54⟩
set_option maxRecDepth 100000 in
theorem lk1177 : Cond.methodLink "SealLineModel" 233 yX11_isCalled ∈ qg := qg_mem (List.mem_of_getElem? (i := 1177) rfl) rfl
set_option maxRecDepth 100000 in
theorem lk1180 : Cond.code yX11_isCalled cX11_isCalled 3 (some .boolean) ∈ qg := qg_mem (List.mem_of_getElem? (i := 1180) rfl) rfl
set_option maxRecDepth 100000 in
theorem lk1179 : Cond.instanceMethod yX11_isCalled ∈ qg := qg_mem (List.mem_of_getElem? (i := 1179) rfl) rfl
set_option maxRecDepth 100000 in
theorem lk55 : Cond.selects "SealLineModel" yX11_isCalled yX11_isCalled ∈ qg := qg_mem (List.mem_of_getElem? (i := 55) rfl) rfl
theorem vX11_isCalled : qMv mX11_isCalled 1 := ⟨⟨lk1180, lk76, by decide +kernel, by decide⟩, lk1179, lk55⟩
theorem fgX11_47 : qF RX11 47 11 18 := ⟨RX11, TX11, 39, rfl, by decide, jnX11, lk919⟩
set_option maxRecDepth 100000 in
theorem lk906 : Cond.fieldLink "SealLineModel" 242 "SealLineModel" "seals" "I" ∈ qg := qg_mem (List.mem_of_getElem? (i := 906) rfl) rfl
theorem fgX11_242 : qF RX11 242 11 5 := ⟨RX11, TX11, 39, rfl, by decide, jnX11, lk906⟩
theorem fpX11_242 : qFp RX11 242 11 5 .int := ⟨RX11, TX11, 39, tyX11, rfl, by decide, jnX11, lk906, tyX11_ok, nmX11, rfl⟩
set_option maxRecDepth 100000 in
theorem lk1189 : Cond.methodLink "SealLineModel" 236 yX11_why ∈ qg := qg_mem (List.mem_of_getElem? (i := 1189) rfl) rfl
set_option maxRecDepth 100000 in
theorem lk1144 : Cond.code yX11_why cX11_why 6 (some .int) ∈ qg := qg_mem (List.mem_of_getElem? (i := 1144) rfl) rfl
set_option maxRecDepth 100000 in
theorem lk1142 : Cond.instanceMethod yX11_why ∈ qg := qg_mem (List.mem_of_getElem? (i := 1142) rfl) rfl
set_option maxRecDepth 100000 in
theorem lk1143 : Cond.selects "SealLineModel" yX11_why yX11_why ∈ qg := qg_mem (List.mem_of_getElem? (i := 1143) rfl) rfl
theorem vX11_why : qMv mX11_why 3 := ⟨⟨lk1144, lk76, by decide +kernel, by decide⟩, lk1142, lk1143⟩
set_option maxRecDepth 100000 in
theorem lk1190 : Cond.methodLink "SealLineModel" 239 yX11_skip ∈ qg := qg_mem (List.mem_of_getElem? (i := 1190) rfl) rfl
set_option maxRecDepth 100000 in
theorem lk1140 : Cond.code yX11_skip cX11_skip 3 (some .int) ∈ qg := qg_mem (List.mem_of_getElem? (i := 1140) rfl) rfl
set_option maxRecDepth 100000 in
theorem lk1138 : Cond.instanceMethod yX11_skip ∈ qg := qg_mem (List.mem_of_getElem? (i := 1138) rfl) rfl
set_option maxRecDepth 100000 in
theorem lk1139 : Cond.selects "SealLineModel" yX11_skip yX11_skip ∈ qg := qg_mem (List.mem_of_getElem? (i := 1139) rfl) rfl
theorem vX11_skip : qMv mX11_skip 0 := ⟨⟨lk1140, lk76, by decide +kernel, by decide⟩, lk1138, lk1139⟩
set_option maxRecDepth 100000 in
theorem lk1195 : Cond.constant "SealLineModel" 245 1000000 ∈ qg := qg_mem (List.mem_of_getElem? (i := 1195) rfl) rfl
theorem fpX11_157 : qFp RX11 157 11 3 .int := ⟨RX11, TX11, 39, tyX11, rfl, by decide, jnX11, lk904, tyX11_ok, nmX11, rfl⟩
set_option maxRecDepth 100000 in
theorem lk1208 : Cond.methodLink "SealLineModel" 246 yX11_calledMany ∈ qg := qg_mem (List.mem_of_getElem? (i := 1208) rfl) rfl
set_option maxRecDepth 100000 in
theorem lk1211 : Cond.code yX11_calledMany cX11_calledMany 3 (some .int) ∈ qg := qg_mem (List.mem_of_getElem? (i := 1211) rfl) rfl
set_option maxRecDepth 100000 in
theorem lk1210 : Cond.instanceMethod yX11_calledMany ∈ qg := qg_mem (List.mem_of_getElem? (i := 1210) rfl) rfl
set_option maxRecDepth 100000 in
theorem lk57 : Cond.selects "SealLineModel" yX11_calledMany yX11_calledMany ∈ qg := qg_mem (List.mem_of_getElem? (i := 57) rfl) rfl
theorem vX11_calledMany : qMv mX11_calledMany 0 := ⟨⟨lk1211, lk76, by decide +kernel, by decide⟩, lk1210, lk57⟩
set_option maxRecDepth 100000 in
theorem lk1216 : Cond.methodLink "SealLineModel" 249 yX11_stands ∈ qg := qg_mem (List.mem_of_getElem? (i := 1216) rfl) rfl
set_option maxRecDepth 100000 in
theorem lk1219 : Cond.code yX11_stands cX11_stands 4 (some .boolean) ∈ qg := qg_mem (List.mem_of_getElem? (i := 1219) rfl) rfl
set_option maxRecDepth 100000 in
theorem lk1218 : Cond.instanceMethod yX11_stands ∈ qg := qg_mem (List.mem_of_getElem? (i := 1218) rfl) rfl
set_option maxRecDepth 100000 in
theorem lk58 : Cond.selects "SealLineModel" yX11_stands yX11_stands ∈ qg := qg_mem (List.mem_of_getElem? (i := 58) rfl) rfl
theorem vX11_stands : qMv mX11_stands 1 := ⟨⟨lk1219, lk76, by decide +kernel, by decide⟩, lk1218, lk58⟩
set_option maxRecDepth 100000 in
theorem lk1240 : Cond.methodLink "SealLineModel" 252 yX11_canHold ∈ qg := qg_mem (List.mem_of_getElem? (i := 1240) rfl) rfl
set_option maxRecDepth 100000 in
theorem lk1243 : Cond.code yX11_canHold cX11_canHold 6 (some .boolean) ∈ qg := qg_mem (List.mem_of_getElem? (i := 1243) rfl) rfl
set_option maxRecDepth 100000 in
theorem lk1242 : Cond.instanceMethod yX11_canHold ∈ qg := qg_mem (List.mem_of_getElem? (i := 1242) rfl) rfl
set_option maxRecDepth 100000 in
theorem lk60 : Cond.selects "SealLineModel" yX11_canHold yX11_canHold ∈ qg := qg_mem (List.mem_of_getElem? (i := 60) rfl) rfl
theorem vX11_canHold : qMv mX11_canHold 2 := ⟨⟨lk1243, lk76, by decide +kernel, by decide⟩, lk1242, lk60⟩
set_option maxRecDepth 100000 in
theorem lk1236 : Cond.methodLink "SealLineModel" 256 yX11_judged ∈ qg := qg_mem (List.mem_of_getElem? (i := 1236) rfl) rfl
set_option maxRecDepth 100000 in
theorem lk1239 : Cond.code yX11_judged cX11_judged 3 (some .int) ∈ qg := qg_mem (List.mem_of_getElem? (i := 1239) rfl) rfl
set_option maxRecDepth 100000 in
theorem lk1238 : Cond.instanceMethod yX11_judged ∈ qg := qg_mem (List.mem_of_getElem? (i := 1238) rfl) rfl
set_option maxRecDepth 100000 in
theorem lk59 : Cond.selects "SealLineModel" yX11_judged yX11_judged ∈ qg := qg_mem (List.mem_of_getElem? (i := 59) rfl) rfl
theorem vX11_judged : qMv mX11_judged 0 := ⟨⟨lk1239, lk76, by decide +kernel, by decide⟩, lk1238, lk59⟩
theorem fgX11_93 : qF RX11 93 11 38 := ⟨RX11, TX11, 39, rfl, by decide, jnX11, lk939⟩
set_option maxRecDepth 100000 in
theorem lk1252 : Cond.methodLink "SealLineModel" 259 yX11_firstOf ∈ qg := qg_mem (List.mem_of_getElem? (i := 1252) rfl) rfl
set_option maxRecDepth 100000 in
theorem lk1255 : Cond.code yX11_firstOf cX11_firstOf 3 (some .int) ∈ qg := qg_mem (List.mem_of_getElem? (i := 1255) rfl) rfl
set_option maxRecDepth 100000 in
theorem lk1254 : Cond.instanceMethod yX11_firstOf ∈ qg := qg_mem (List.mem_of_getElem? (i := 1254) rfl) rfl
set_option maxRecDepth 100000 in
theorem lk61 : Cond.selects "SealLineModel" yX11_firstOf yX11_firstOf ∈ qg := qg_mem (List.mem_of_getElem? (i := 61) rfl) rfl
theorem vX11_firstOf : qMv mX11_firstOf 1 := ⟨⟨lk1255, lk76, by decide +kernel, by decide⟩, lk1254, lk61⟩
set_option maxRecDepth 100000 in
theorem lk80 : Cond.classLink "SealLineLaw" 7 "SealLine" ∈ qg := qg_mem (List.mem_of_getElem? (i := 80) rfl) rfl
set_option maxRecDepth 100000 in
theorem lk81 : Cond.instantiable "SealLine" 11 ∈ qg := qg_mem (List.mem_of_getElem? (i := 81) rfl) rfl
theorem nwL_7 : qNw RL 7 10 11 [.null, .null, .null, .null, .null, .null, .null, .null, .null, .null, .int 0] := ⟨RX10, TX10, tyX10, rfl, jnX10, tyX10_ok, lk80, lk81, lk63, by decide +kernel, fun _ => rfl⟩
set_option maxRecDepth 100000 in
theorem lk895 : Cond.classLink "SealLineLaw" 10 "SealLineModel" ∈ qg := qg_mem (List.mem_of_getElem? (i := 895) rfl) rfl
set_option maxRecDepth 100000 in
theorem lk896 : Cond.instantiable "SealLineModel" 39 ∈ qg := qg_mem (List.mem_of_getElem? (i := 896) rfl) rfl
theorem nwL_10 : qNw RL 10 11 39 [.int 0, .int 0, .int 0, .int 0, .int 0, .int 0, .null, .null, .null, .null, .null, .null, .null, .null, .null, .null, .null, .null, .null, .null, .null, .null, .null, .null, .null, .null, .null, .null, .null, .null, .null, .null, .int 0, .int 0, .int 0, .int 0, .int 0, .null, .null] := ⟨RX11, TX11, tyX11, rfl, jnX11, tyX11_ok, lk895, lk896, lk76, by decide +kernel, fun _ => rfl⟩
set_option maxRecDepth 100000 in
theorem lk1268 : Cond.constantLong "SealLineLaw" 13 4294967295 ∈ qg := qg_mem (List.mem_of_getElem? (i := 1268) rfl) rfl
set_option maxRecDepth 100000 in
theorem lk82 : Cond.methodLink "SealLineLaw" 9 yX10_init ∈ qg := qg_mem (List.mem_of_getElem? (i := 82) rfl) rfl
set_option maxRecDepth 100000 in
theorem lk84 : Cond.code yX10_init cX10_init 1 none ∈ qg := qg_mem (List.mem_of_getElem? (i := 84) rfl) rfl
set_option maxRecDepth 100000 in
theorem lk83 : Cond.instanceMethod yX10_init ∈ qg := qg_mem (List.mem_of_getElem? (i := 83) rfl) rfl
theorem iX10_init : qMi mX10_init 0 := ⟨⟨lk84, lk63, by decide +kernel, by decide⟩, lk83, rfl, rfl⟩
set_option maxRecDepth 100000 in
theorem lk897 : Cond.methodLink "SealLineLaw" 12 yX11_init ∈ qg := qg_mem (List.mem_of_getElem? (i := 897) rfl) rfl
set_option maxRecDepth 100000 in
theorem lk899 : Cond.code yX11_init cX11_init 2 none ∈ qg := qg_mem (List.mem_of_getElem? (i := 899) rfl) rfl
set_option maxRecDepth 100000 in
theorem lk898 : Cond.instanceMethod yX11_init ∈ qg := qg_mem (List.mem_of_getElem? (i := 898) rfl) rfl
theorem iX11_init : qMi mX11_init 0 := ⟨⟨lk899, lk76, by decide +kernel, by decide⟩, lk898, rfl, rfl⟩
set_option maxRecDepth 100000 in
theorem lk334 : Cond.methodLink "SealLineLaw" 15 yX10_source ∈ qg := qg_mem (List.mem_of_getElem? (i := 334) rfl) rfl
set_option maxRecDepth 100000 in
theorem lk337 : Cond.code yX10_source cX10_source 6 (some .int) ∈ qg := qg_mem (List.mem_of_getElem? (i := 337) rfl) rfl
set_option maxRecDepth 100000 in
theorem lk335 : Cond.instanceMethod yX10_source ∈ qg := qg_mem (List.mem_of_getElem? (i := 335) rfl) rfl
set_option maxRecDepth 100000 in
theorem lk336 : Cond.selects "SealLine" yX10_source yX10_source ∈ qg := qg_mem (List.mem_of_getElem? (i := 336) rfl) rfl
theorem vX10_source : qMv mX10_source 2 := ⟨⟨lk337, lk63, by decide +kernel, by decide⟩, lk335, lk336⟩
set_option maxRecDepth 100000 in
theorem lk1023 : Cond.methodLink "SealLineLaw" 19 yX11_source ∈ qg := qg_mem (List.mem_of_getElem? (i := 1023) rfl) rfl
set_option maxRecDepth 100000 in
theorem lk1026 : Cond.code yX11_source cX11_source 5 (some .int) ∈ qg := qg_mem (List.mem_of_getElem? (i := 1026) rfl) rfl
set_option maxRecDepth 100000 in
theorem lk1024 : Cond.instanceMethod yX11_source ∈ qg := qg_mem (List.mem_of_getElem? (i := 1024) rfl) rfl
set_option maxRecDepth 100000 in
theorem lk1025 : Cond.selects "SealLineModel" yX11_source yX11_source ∈ qg := qg_mem (List.mem_of_getElem? (i := 1025) rfl) rfl
theorem vX11_source : qMv mX11_source 2 := ⟨⟨lk1026, lk76, by decide +kernel, by decide⟩, lk1024, lk1025⟩
set_option maxRecDepth 100000 in
theorem lk432 : Cond.methodLink "SealLineLaw" 20 yX10_build ∈ qg := qg_mem (List.mem_of_getElem? (i := 432) rfl) rfl
set_option maxRecDepth 100000 in
theorem lk435 : Cond.code yX10_build cX10_build 12 (some .int) ∈ qg := qg_mem (List.mem_of_getElem? (i := 435) rfl) rfl
set_option maxRecDepth 100000 in
theorem lk433 : Cond.instanceMethod yX10_build ∈ qg := qg_mem (List.mem_of_getElem? (i := 433) rfl) rfl
set_option maxRecDepth 100000 in
theorem lk434 : Cond.selects "SealLine" yX10_build yX10_build ∈ qg := qg_mem (List.mem_of_getElem? (i := 434) rfl) rfl
theorem vX10_build : qMv mX10_build 6 := ⟨⟨lk435, lk63, by decide +kernel, by decide⟩, lk433, lk434⟩
set_option maxRecDepth 100000 in
theorem lk1060 : Cond.methodLink "SealLineLaw" 24 yX11_build ∈ qg := qg_mem (List.mem_of_getElem? (i := 1060) rfl) rfl
set_option maxRecDepth 100000 in
theorem lk1063 : Cond.code yX11_build cX11_build 12 (some .int) ∈ qg := qg_mem (List.mem_of_getElem? (i := 1063) rfl) rfl
set_option maxRecDepth 100000 in
theorem lk1061 : Cond.instanceMethod yX11_build ∈ qg := qg_mem (List.mem_of_getElem? (i := 1061) rfl) rfl
set_option maxRecDepth 100000 in
theorem lk1062 : Cond.selects "SealLineModel" yX11_build yX11_build ∈ qg := qg_mem (List.mem_of_getElem? (i := 1062) rfl) rfl
theorem vX11_build : qMv mX11_build 6 := ⟨⟨lk1063, lk76, by decide +kernel, by decide⟩, lk1061, lk1062⟩
set_option maxRecDepth 100000 in
theorem lk482 : Cond.methodLink "SealLineLaw" 25 yX10_mix ∈ qg := qg_mem (List.mem_of_getElem? (i := 482) rfl) rfl
set_option maxRecDepth 100000 in
theorem lk485 : Cond.code yX10_mix cX10_mix 5 (some .long) ∈ qg := qg_mem (List.mem_of_getElem? (i := 485) rfl) rfl
set_option maxRecDepth 100000 in
theorem lk483 : Cond.instanceMethod yX10_mix ∈ qg := qg_mem (List.mem_of_getElem? (i := 483) rfl) rfl
set_option maxRecDepth 100000 in
theorem lk484 : Cond.selects "SealLine" yX10_mix yX10_mix ∈ qg := qg_mem (List.mem_of_getElem? (i := 484) rfl) rfl
theorem vX10_mix : qMv mX10_mix 4 := ⟨⟨lk485, lk63, by decide +kernel, by decide⟩, lk483, lk484⟩
set_option maxRecDepth 100000 in
theorem lk1042 : Cond.methodLink "SealLineLaw" 29 yX11_mix ∈ qg := qg_mem (List.mem_of_getElem? (i := 1042) rfl) rfl
set_option maxRecDepth 100000 in
theorem lk1045 : Cond.code yX11_mix cX11_mix 5 (some .long) ∈ qg := qg_mem (List.mem_of_getElem? (i := 1045) rfl) rfl
set_option maxRecDepth 100000 in
theorem lk1043 : Cond.instanceMethod yX11_mix ∈ qg := qg_mem (List.mem_of_getElem? (i := 1043) rfl) rfl
set_option maxRecDepth 100000 in
theorem lk1044 : Cond.selects "SealLineModel" yX11_mix yX11_mix ∈ qg := qg_mem (List.mem_of_getElem? (i := 1044) rfl) rfl
theorem vX11_mix : qMv mX11_mix 4 := ⟨⟨lk1045, lk76, by decide +kernel, by decide⟩, lk1043, lk1044⟩
set_option maxRecDepth 100000 in
theorem lk486 : Cond.methodLink "SealLineLaw" 30 yX10_tries ∈ qg := qg_mem (List.mem_of_getElem? (i := 486) rfl) rfl
set_option maxRecDepth 100000 in
theorem lk489 : Cond.code yX10_tries cX10_tries 5 (some .int) ∈ qg := qg_mem (List.mem_of_getElem? (i := 489) rfl) rfl
set_option maxRecDepth 100000 in
theorem lk487 : Cond.instanceMethod yX10_tries ∈ qg := qg_mem (List.mem_of_getElem? (i := 487) rfl) rfl
set_option maxRecDepth 100000 in
theorem lk488 : Cond.selects "SealLine" yX10_tries yX10_tries ∈ qg := qg_mem (List.mem_of_getElem? (i := 488) rfl) rfl
theorem vX10_tries : qMv mX10_tries 3 := ⟨⟨lk489, lk63, by decide +kernel, by decide⟩, lk487, lk488⟩
set_option maxRecDepth 100000 in
theorem lk1076 : Cond.methodLink "SealLineLaw" 34 yX11_tries ∈ qg := qg_mem (List.mem_of_getElem? (i := 1076) rfl) rfl
set_option maxRecDepth 100000 in
theorem lk1079 : Cond.code yX11_tries cX11_tries 4 (some .int) ∈ qg := qg_mem (List.mem_of_getElem? (i := 1079) rfl) rfl
set_option maxRecDepth 100000 in
theorem lk1077 : Cond.instanceMethod yX11_tries ∈ qg := qg_mem (List.mem_of_getElem? (i := 1077) rfl) rfl
set_option maxRecDepth 100000 in
theorem lk1078 : Cond.selects "SealLineModel" yX11_tries yX11_tries ∈ qg := qg_mem (List.mem_of_getElem? (i := 1078) rfl) rfl
theorem vX11_tries : qMv mX11_tries 3 := ⟨⟨lk1079, lk76, by decide +kernel, by decide⟩, lk1077, lk1078⟩
set_option maxRecDepth 100000 in
theorem lk498 : Cond.methodLink "SealLineLaw" 35 yX10_review ∈ qg := qg_mem (List.mem_of_getElem? (i := 498) rfl) rfl
set_option maxRecDepth 100000 in
theorem lk501 : Cond.code yX10_review cX10_review 5 (some .int) ∈ qg := qg_mem (List.mem_of_getElem? (i := 501) rfl) rfl
set_option maxRecDepth 100000 in
theorem lk499 : Cond.instanceMethod yX10_review ∈ qg := qg_mem (List.mem_of_getElem? (i := 499) rfl) rfl
set_option maxRecDepth 100000 in
theorem lk500 : Cond.selects "SealLine" yX10_review yX10_review ∈ qg := qg_mem (List.mem_of_getElem? (i := 500) rfl) rfl
theorem vX10_review : qMv mX10_review 3 := ⟨⟨lk501, lk63, by decide +kernel, by decide⟩, lk499, lk500⟩
set_option maxRecDepth 100000 in
theorem lk1084 : Cond.methodLink "SealLineLaw" 38 yX11_review ∈ qg := qg_mem (List.mem_of_getElem? (i := 1084) rfl) rfl
set_option maxRecDepth 100000 in
theorem lk1087 : Cond.code yX11_review cX11_review 4 (some .int) ∈ qg := qg_mem (List.mem_of_getElem? (i := 1087) rfl) rfl
set_option maxRecDepth 100000 in
theorem lk1085 : Cond.instanceMethod yX11_review ∈ qg := qg_mem (List.mem_of_getElem? (i := 1085) rfl) rfl
set_option maxRecDepth 100000 in
theorem lk1086 : Cond.selects "SealLineModel" yX11_review yX11_review ∈ qg := qg_mem (List.mem_of_getElem? (i := 1086) rfl) rfl
theorem vX11_review : qMv mX11_review 3 := ⟨⟨lk1087, lk76, by decide +kernel, by decide⟩, lk1085, lk1086⟩
set_option maxRecDepth 100000 in
theorem lk506 : Cond.methodLink "SealLineLaw" 39 yX10_feed ∈ qg := qg_mem (List.mem_of_getElem? (i := 506) rfl) rfl
set_option maxRecDepth 100000 in
theorem lk509 : Cond.code yX10_feed cX10_feed 2 (some .int) ∈ qg := qg_mem (List.mem_of_getElem? (i := 509) rfl) rfl
set_option maxRecDepth 100000 in
theorem lk507 : Cond.instanceMethod yX10_feed ∈ qg := qg_mem (List.mem_of_getElem? (i := 507) rfl) rfl
set_option maxRecDepth 100000 in
theorem lk508 : Cond.selects "SealLine" yX10_feed yX10_feed ∈ qg := qg_mem (List.mem_of_getElem? (i := 508) rfl) rfl
theorem vX10_feed : qMv mX10_feed 1 := ⟨⟨lk509, lk63, by decide +kernel, by decide⟩, lk507, lk508⟩
set_option maxRecDepth 100000 in
theorem lk1088 : Cond.methodLink "SealLineLaw" 43 yX11_feed ∈ qg := qg_mem (List.mem_of_getElem? (i := 1088) rfl) rfl
set_option maxRecDepth 100000 in
theorem lk1091 : Cond.code yX11_feed cX11_feed 5 (some .int) ∈ qg := qg_mem (List.mem_of_getElem? (i := 1091) rfl) rfl
set_option maxRecDepth 100000 in
theorem lk1089 : Cond.instanceMethod yX11_feed ∈ qg := qg_mem (List.mem_of_getElem? (i := 1089) rfl) rfl
set_option maxRecDepth 100000 in
theorem lk1090 : Cond.selects "SealLineModel" yX11_feed yX11_feed ∈ qg := qg_mem (List.mem_of_getElem? (i := 1090) rfl) rfl
theorem vX11_feed : qMv mX11_feed 1 := ⟨⟨lk1091, lk76, by decide +kernel, by decide⟩, lk1089, lk1090⟩
set_option maxRecDepth 100000 in
theorem lk515 : Cond.methodLink "SealLineLaw" 44 yX10_end ∈ qg := qg_mem (List.mem_of_getElem? (i := 515) rfl) rfl
set_option maxRecDepth 100000 in
theorem lk518 : Cond.code yX10_end cX10_end 2 (some .boolean) ∈ qg := qg_mem (List.mem_of_getElem? (i := 518) rfl) rfl
set_option maxRecDepth 100000 in
theorem lk516 : Cond.instanceMethod yX10_end ∈ qg := qg_mem (List.mem_of_getElem? (i := 516) rfl) rfl
set_option maxRecDepth 100000 in
theorem lk517 : Cond.selects "SealLine" yX10_end yX10_end ∈ qg := qg_mem (List.mem_of_getElem? (i := 517) rfl) rfl
theorem vX10_end : qMv mX10_end 1 := ⟨⟨lk518, lk63, by decide +kernel, by decide⟩, lk516, lk517⟩
set_option maxRecDepth 100000 in
theorem lk1092 : Cond.methodLink "SealLineLaw" 48 yX11_end ∈ qg := qg_mem (List.mem_of_getElem? (i := 1092) rfl) rfl
set_option maxRecDepth 100000 in
theorem lk1095 : Cond.code yX11_end cX11_end 2 (some .boolean) ∈ qg := qg_mem (List.mem_of_getElem? (i := 1095) rfl) rfl
set_option maxRecDepth 100000 in
theorem lk1093 : Cond.instanceMethod yX11_end ∈ qg := qg_mem (List.mem_of_getElem? (i := 1093) rfl) rfl
set_option maxRecDepth 100000 in
theorem lk1094 : Cond.selects "SealLineModel" yX11_end yX11_end ∈ qg := qg_mem (List.mem_of_getElem? (i := 1094) rfl) rfl
theorem vX11_end : qMv mX11_end 1 := ⟨⟨lk1095, lk76, by decide +kernel, by decide⟩, lk1093, lk1094⟩
set_option maxRecDepth 100000 in
theorem lk523 : Cond.methodLink "SealLineLaw" 49 yX10_fault ∈ qg := qg_mem (List.mem_of_getElem? (i := 523) rfl) rfl
set_option maxRecDepth 100000 in
theorem lk526 : Cond.code yX10_fault cX10_fault 1 (some .int) ∈ qg := qg_mem (List.mem_of_getElem? (i := 526) rfl) rfl
set_option maxRecDepth 100000 in
theorem lk524 : Cond.instanceMethod yX10_fault ∈ qg := qg_mem (List.mem_of_getElem? (i := 524) rfl) rfl
set_option maxRecDepth 100000 in
theorem lk525 : Cond.selects "SealLine" yX10_fault yX10_fault ∈ qg := qg_mem (List.mem_of_getElem? (i := 525) rfl) rfl
theorem vX10_fault : qMv mX10_fault 0 := ⟨⟨lk526, lk63, by decide +kernel, by decide⟩, lk524, lk525⟩
set_option maxRecDepth 100000 in
theorem lk1096 : Cond.methodLink "SealLineLaw" 53 yX11_fault ∈ qg := qg_mem (List.mem_of_getElem? (i := 1096) rfl) rfl
set_option maxRecDepth 100000 in
theorem lk565 : Cond.methodLink "SealLineLaw" 54 yX10_rule ∈ qg := qg_mem (List.mem_of_getElem? (i := 565) rfl) rfl
set_option maxRecDepth 100000 in
theorem lk568 : Cond.code yX10_rule cX10_rule 1 (some .int) ∈ qg := qg_mem (List.mem_of_getElem? (i := 568) rfl) rfl
set_option maxRecDepth 100000 in
theorem lk566 : Cond.instanceMethod yX10_rule ∈ qg := qg_mem (List.mem_of_getElem? (i := 566) rfl) rfl
set_option maxRecDepth 100000 in
theorem lk567 : Cond.selects "SealLine" yX10_rule yX10_rule ∈ qg := qg_mem (List.mem_of_getElem? (i := 567) rfl) rfl
theorem vX10_rule : qMv mX10_rule 0 := ⟨⟨lk568, lk63, by decide +kernel, by decide⟩, lk566, lk567⟩
set_option maxRecDepth 100000 in
theorem lk1124 : Cond.methodLink "SealLineLaw" 57 yX11_rule ∈ qg := qg_mem (List.mem_of_getElem? (i := 1124) rfl) rfl
set_option maxRecDepth 100000 in
theorem lk1127 : Cond.code yX11_rule cX11_rule 2 (some .int) ∈ qg := qg_mem (List.mem_of_getElem? (i := 1127) rfl) rfl
set_option maxRecDepth 100000 in
theorem lk1125 : Cond.instanceMethod yX11_rule ∈ qg := qg_mem (List.mem_of_getElem? (i := 1125) rfl) rfl
set_option maxRecDepth 100000 in
theorem lk1126 : Cond.selects "SealLineModel" yX11_rule yX11_rule ∈ qg := qg_mem (List.mem_of_getElem? (i := 1126) rfl) rfl
theorem vX11_rule : qMv mX11_rule 0 := ⟨⟨lk1127, lk76, by decide +kernel, by decide⟩, lk1125, lk1126⟩
set_option maxRecDepth 100000 in
theorem lk593 : Cond.methodLink "SealLineLaw" 58 yX10_ask ∈ qg := qg_mem (List.mem_of_getElem? (i := 593) rfl) rfl
set_option maxRecDepth 100000 in
theorem lk596 : Cond.code yX10_ask cX10_ask 2 (some .int) ∈ qg := qg_mem (List.mem_of_getElem? (i := 596) rfl) rfl
set_option maxRecDepth 100000 in
theorem lk594 : Cond.instanceMethod yX10_ask ∈ qg := qg_mem (List.mem_of_getElem? (i := 594) rfl) rfl
set_option maxRecDepth 100000 in
theorem lk595 : Cond.selects "SealLine" yX10_ask yX10_ask ∈ qg := qg_mem (List.mem_of_getElem? (i := 595) rfl) rfl
theorem vX10_ask : qMv mX10_ask 1 := ⟨⟨lk596, lk63, by decide +kernel, by decide⟩, lk594, lk595⟩
set_option maxRecDepth 100000 in
theorem lk1129 : Cond.methodLink "SealLineLaw" 61 yX11_ask ∈ qg := qg_mem (List.mem_of_getElem? (i := 1129) rfl) rfl
set_option maxRecDepth 100000 in
theorem lk1132 : Cond.code yX11_ask cX11_ask 2 (some .int) ∈ qg := qg_mem (List.mem_of_getElem? (i := 1132) rfl) rfl
set_option maxRecDepth 100000 in
theorem lk1130 : Cond.instanceMethod yX11_ask ∈ qg := qg_mem (List.mem_of_getElem? (i := 1130) rfl) rfl
set_option maxRecDepth 100000 in
theorem lk1131 : Cond.selects "SealLineModel" yX11_ask yX11_ask ∈ qg := qg_mem (List.mem_of_getElem? (i := 1131) rfl) rfl
theorem vX11_ask : qMv mX11_ask 1 := ⟨⟨lk1132, lk76, by decide +kernel, by decide⟩, lk1130, lk1131⟩
set_option maxRecDepth 100000 in
theorem lk605 : Cond.methodLink "SealLineLaw" 62 yX10_skip ∈ qg := qg_mem (List.mem_of_getElem? (i := 605) rfl) rfl
set_option maxRecDepth 100000 in
theorem lk608 : Cond.code yX10_skip cX10_skip 1 (some .int) ∈ qg := qg_mem (List.mem_of_getElem? (i := 608) rfl) rfl
set_option maxRecDepth 100000 in
theorem lk606 : Cond.instanceMethod yX10_skip ∈ qg := qg_mem (List.mem_of_getElem? (i := 606) rfl) rfl
set_option maxRecDepth 100000 in
theorem lk607 : Cond.selects "SealLine" yX10_skip yX10_skip ∈ qg := qg_mem (List.mem_of_getElem? (i := 607) rfl) rfl
theorem vX10_skip : qMv mX10_skip 0 := ⟨⟨lk608, lk63, by decide +kernel, by decide⟩, lk606, lk607⟩
set_option maxRecDepth 100000 in
theorem lk1137 : Cond.methodLink "SealLineLaw" 65 yX11_skip ∈ qg := qg_mem (List.mem_of_getElem? (i := 1137) rfl) rfl
set_option maxRecDepth 100000 in
theorem lk618 : Cond.methodLink "SealLineLaw" 66 yX10_seal ∈ qg := qg_mem (List.mem_of_getElem? (i := 618) rfl) rfl
set_option maxRecDepth 100000 in
theorem lk621 : Cond.code yX10_seal cX10_seal 7 (some .int) ∈ qg := qg_mem (List.mem_of_getElem? (i := 621) rfl) rfl
set_option maxRecDepth 100000 in
theorem lk619 : Cond.instanceMethod yX10_seal ∈ qg := qg_mem (List.mem_of_getElem? (i := 619) rfl) rfl
set_option maxRecDepth 100000 in
theorem lk620 : Cond.selects "SealLine" yX10_seal yX10_seal ∈ qg := qg_mem (List.mem_of_getElem? (i := 620) rfl) rfl
theorem vX10_seal : qMv mX10_seal 3 := ⟨⟨lk621, lk63, by decide +kernel, by decide⟩, lk619, lk620⟩
set_option maxRecDepth 100000 in
theorem lk1185 : Cond.methodLink "SealLineLaw" 70 yX11_seal ∈ qg := qg_mem (List.mem_of_getElem? (i := 1185) rfl) rfl
set_option maxRecDepth 100000 in
theorem lk1188 : Cond.code yX11_seal cX11_seal 6 (some .int) ∈ qg := qg_mem (List.mem_of_getElem? (i := 1188) rfl) rfl
set_option maxRecDepth 100000 in
theorem lk1186 : Cond.instanceMethod yX11_seal ∈ qg := qg_mem (List.mem_of_getElem? (i := 1186) rfl) rfl
set_option maxRecDepth 100000 in
theorem lk1187 : Cond.selects "SealLineModel" yX11_seal yX11_seal ∈ qg := qg_mem (List.mem_of_getElem? (i := 1187) rfl) rfl
theorem vX11_seal : qMv mX11_seal 3 := ⟨⟨lk1188, lk76, by decide +kernel, by decide⟩, lk1186, lk1187⟩
set_option maxRecDepth 100000 in
theorem lk702 : Cond.methodLink "SealLineLaw" 71 yX10_why ∈ qg := qg_mem (List.mem_of_getElem? (i := 702) rfl) rfl
set_option maxRecDepth 100000 in
theorem lk705 : Cond.code yX10_why cX10_why 4 (some .int) ∈ qg := qg_mem (List.mem_of_getElem? (i := 705) rfl) rfl
set_option maxRecDepth 100000 in
theorem lk703 : Cond.instanceMethod yX10_why ∈ qg := qg_mem (List.mem_of_getElem? (i := 703) rfl) rfl
set_option maxRecDepth 100000 in
theorem lk704 : Cond.selects "SealLine" yX10_why yX10_why ∈ qg := qg_mem (List.mem_of_getElem? (i := 704) rfl) rfl
theorem vX10_why : qMv mX10_why 3 := ⟨⟨lk705, lk63, by decide +kernel, by decide⟩, lk703, lk704⟩
set_option maxRecDepth 100000 in
theorem lk1141 : Cond.methodLink "SealLineLaw" 74 yX11_why ∈ qg := qg_mem (List.mem_of_getElem? (i := 1141) rfl) rfl
set_option maxRecDepth 100000 in
theorem lk706 : Cond.methodLink "SealLineLaw" 75 yX10_uses ∈ qg := qg_mem (List.mem_of_getElem? (i := 706) rfl) rfl
set_option maxRecDepth 100000 in
theorem lk709 : Cond.code yX10_uses cX10_uses 3 (some .int) ∈ qg := qg_mem (List.mem_of_getElem? (i := 709) rfl) rfl
set_option maxRecDepth 100000 in
theorem lk707 : Cond.instanceMethod yX10_uses ∈ qg := qg_mem (List.mem_of_getElem? (i := 707) rfl) rfl
set_option maxRecDepth 100000 in
theorem lk708 : Cond.selects "SealLine" yX10_uses yX10_uses ∈ qg := qg_mem (List.mem_of_getElem? (i := 708) rfl) rfl
theorem vX10_uses : qMv mX10_uses 2 := ⟨⟨lk709, lk63, by decide +kernel, by decide⟩, lk707, lk708⟩
set_option maxRecDepth 100000 in
theorem lk1191 : Cond.methodLink "SealLineLaw" 79 yX11_uses ∈ qg := qg_mem (List.mem_of_getElem? (i := 1191) rfl) rfl
set_option maxRecDepth 100000 in
theorem lk1194 : Cond.code yX11_uses cX11_uses 3 (some .int) ∈ qg := qg_mem (List.mem_of_getElem? (i := 1194) rfl) rfl
set_option maxRecDepth 100000 in
theorem lk1192 : Cond.instanceMethod yX11_uses ∈ qg := qg_mem (List.mem_of_getElem? (i := 1192) rfl) rfl
set_option maxRecDepth 100000 in
theorem lk1193 : Cond.selects "SealLineModel" yX11_uses yX11_uses ∈ qg := qg_mem (List.mem_of_getElem? (i := 1193) rfl) rfl
theorem vX11_uses : qMv mX11_uses 2 := ⟨⟨lk1194, lk76, by decide +kernel, by decide⟩, lk1192, lk1193⟩
set_option maxRecDepth 100000 in
theorem lk715 : Cond.methodLink "SealLineLaw" 80 yX10_finish ∈ qg := qg_mem (List.mem_of_getElem? (i := 715) rfl) rfl
set_option maxRecDepth 100000 in
theorem lk718 : Cond.code yX10_finish cX10_finish 2 (some .boolean) ∈ qg := qg_mem (List.mem_of_getElem? (i := 718) rfl) rfl
set_option maxRecDepth 100000 in
theorem lk716 : Cond.instanceMethod yX10_finish ∈ qg := qg_mem (List.mem_of_getElem? (i := 716) rfl) rfl
set_option maxRecDepth 100000 in
theorem lk717 : Cond.selects "SealLine" yX10_finish yX10_finish ∈ qg := qg_mem (List.mem_of_getElem? (i := 717) rfl) rfl
theorem vX10_finish : qMv mX10_finish 1 := ⟨⟨lk718, lk63, by decide +kernel, by decide⟩, lk716, lk717⟩
set_option maxRecDepth 100000 in
theorem lk1196 : Cond.methodLink "SealLineLaw" 83 yX11_finish ∈ qg := qg_mem (List.mem_of_getElem? (i := 1196) rfl) rfl
set_option maxRecDepth 100000 in
theorem lk1199 : Cond.code yX11_finish cX11_finish 2 (some .boolean) ∈ qg := qg_mem (List.mem_of_getElem? (i := 1199) rfl) rfl
set_option maxRecDepth 100000 in
theorem lk1197 : Cond.instanceMethod yX11_finish ∈ qg := qg_mem (List.mem_of_getElem? (i := 1197) rfl) rfl
set_option maxRecDepth 100000 in
theorem lk1198 : Cond.selects "SealLineModel" yX11_finish yX11_finish ∈ qg := qg_mem (List.mem_of_getElem? (i := 1198) rfl) rfl
theorem vX11_finish : qMv mX11_finish 1 := ⟨⟨lk1199, lk76, by decide +kernel, by decide⟩, lk1197, lk1198⟩
set_option maxRecDepth 100000 in
theorem lk723 : Cond.methodLink "SealLineLaw" 84 yX10_lose ∈ qg := qg_mem (List.mem_of_getElem? (i := 723) rfl) rfl
set_option maxRecDepth 100000 in
theorem lk726 : Cond.code yX10_lose cX10_lose 5 (some .int) ∈ qg := qg_mem (List.mem_of_getElem? (i := 726) rfl) rfl
set_option maxRecDepth 100000 in
theorem lk724 : Cond.instanceMethod yX10_lose ∈ qg := qg_mem (List.mem_of_getElem? (i := 724) rfl) rfl
set_option maxRecDepth 100000 in
theorem lk725 : Cond.selects "SealLine" yX10_lose yX10_lose ∈ qg := qg_mem (List.mem_of_getElem? (i := 725) rfl) rfl
theorem vX10_lose : qMv mX10_lose 2 := ⟨⟨lk726, lk63, by decide +kernel, by decide⟩, lk724, lk725⟩
set_option maxRecDepth 100000 in
theorem lk1200 : Cond.methodLink "SealLineLaw" 87 yX11_lose ∈ qg := qg_mem (List.mem_of_getElem? (i := 1200) rfl) rfl
set_option maxRecDepth 100000 in
theorem lk1203 : Cond.code yX11_lose cX11_lose 5 (some .int) ∈ qg := qg_mem (List.mem_of_getElem? (i := 1203) rfl) rfl
set_option maxRecDepth 100000 in
theorem lk1201 : Cond.instanceMethod yX11_lose ∈ qg := qg_mem (List.mem_of_getElem? (i := 1201) rfl) rfl
set_option maxRecDepth 100000 in
theorem lk1202 : Cond.selects "SealLineModel" yX11_lose yX11_lose ∈ qg := qg_mem (List.mem_of_getElem? (i := 1202) rfl) rfl
theorem vX11_lose : qMv mX11_lose 2 := ⟨⟨lk1203, lk76, by decide +kernel, by decide⟩, lk1201, lk1202⟩
set_option maxRecDepth 100000 in
theorem lk733 : Cond.methodLink "SealLineLaw" 88 yX10_recall ∈ qg := qg_mem (List.mem_of_getElem? (i := 733) rfl) rfl
set_option maxRecDepth 100000 in
theorem lk736 : Cond.code yX10_recall cX10_recall 5 (some .int) ∈ qg := qg_mem (List.mem_of_getElem? (i := 736) rfl) rfl
set_option maxRecDepth 100000 in
theorem lk734 : Cond.instanceMethod yX10_recall ∈ qg := qg_mem (List.mem_of_getElem? (i := 734) rfl) rfl
set_option maxRecDepth 100000 in
theorem lk735 : Cond.selects "SealLine" yX10_recall yX10_recall ∈ qg := qg_mem (List.mem_of_getElem? (i := 735) rfl) rfl
theorem vX10_recall : qMv mX10_recall 3 := ⟨⟨lk736, lk63, by decide +kernel, by decide⟩, lk734, lk735⟩
set_option maxRecDepth 100000 in
theorem lk1204 : Cond.methodLink "SealLineLaw" 91 yX11_recall ∈ qg := qg_mem (List.mem_of_getElem? (i := 1204) rfl) rfl
set_option maxRecDepth 100000 in
theorem lk1207 : Cond.code yX11_recall cX11_recall 5 (some .int) ∈ qg := qg_mem (List.mem_of_getElem? (i := 1207) rfl) rfl
set_option maxRecDepth 100000 in
theorem lk1205 : Cond.instanceMethod yX11_recall ∈ qg := qg_mem (List.mem_of_getElem? (i := 1205) rfl) rfl
set_option maxRecDepth 100000 in
theorem lk1206 : Cond.selects "SealLineModel" yX11_recall yX11_recall ∈ qg := qg_mem (List.mem_of_getElem? (i := 1206) rfl) rfl
theorem vX11_recall : qMv mX11_recall 3 := ⟨⟨lk1207, lk76, by decide +kernel, by decide⟩, lk1205, lk1206⟩
set_option maxRecDepth 100000 in
theorem lk758 : Cond.methodLink "SealLineLaw" 92 yX10_file ∈ qg := qg_mem (List.mem_of_getElem? (i := 758) rfl) rfl
set_option maxRecDepth 100000 in
theorem lk761 : Cond.code yX10_file cX10_file 3 (some .int) ∈ qg := qg_mem (List.mem_of_getElem? (i := 761) rfl) rfl
set_option maxRecDepth 100000 in
theorem lk759 : Cond.instanceMethod yX10_file ∈ qg := qg_mem (List.mem_of_getElem? (i := 759) rfl) rfl
set_option maxRecDepth 100000 in
theorem lk760 : Cond.selects "SealLine" yX10_file yX10_file ∈ qg := qg_mem (List.mem_of_getElem? (i := 760) rfl) rfl
theorem vX10_file : qMv mX10_file 2 := ⟨⟨lk761, lk63, by decide +kernel, by decide⟩, lk759, lk760⟩
set_option maxRecDepth 100000 in
theorem lk1212 : Cond.methodLink "SealLineLaw" 95 yX11_file ∈ qg := qg_mem (List.mem_of_getElem? (i := 1212) rfl) rfl
set_option maxRecDepth 100000 in
theorem lk1215 : Cond.code yX11_file cX11_file 5 (some .int) ∈ qg := qg_mem (List.mem_of_getElem? (i := 1215) rfl) rfl
set_option maxRecDepth 100000 in
theorem lk1213 : Cond.instanceMethod yX11_file ∈ qg := qg_mem (List.mem_of_getElem? (i := 1213) rfl) rfl
set_option maxRecDepth 100000 in
theorem lk1214 : Cond.selects "SealLineModel" yX11_file yX11_file ∈ qg := qg_mem (List.mem_of_getElem? (i := 1214) rfl) rfl
theorem vX11_file : qMv mX11_file 2 := ⟨⟨lk1215, lk76, by decide +kernel, by decide⟩, lk1213, lk1214⟩
set_option maxRecDepth 100000 in
theorem lk789 : Cond.methodLink "SealLineLaw" 96 yX10_hash ∈ qg := qg_mem (List.mem_of_getElem? (i := 789) rfl) rfl
set_option maxRecDepth 100000 in
theorem lk792 : Cond.code yX10_hash cX10_hash 2 (some .long) ∈ qg := qg_mem (List.mem_of_getElem? (i := 792) rfl) rfl
set_option maxRecDepth 100000 in
theorem lk790 : Cond.instanceMethod yX10_hash ∈ qg := qg_mem (List.mem_of_getElem? (i := 790) rfl) rfl
set_option maxRecDepth 100000 in
theorem lk791 : Cond.selects "SealLine" yX10_hash yX10_hash ∈ qg := qg_mem (List.mem_of_getElem? (i := 791) rfl) rfl
theorem vX10_hash : qMv mX10_hash 1 := ⟨⟨lk792, lk63, by decide +kernel, by decide⟩, lk790, lk791⟩
set_option maxRecDepth 100000 in
theorem lk1220 : Cond.methodLink "SealLineLaw" 100 yX11_hash ∈ qg := qg_mem (List.mem_of_getElem? (i := 1220) rfl) rfl
set_option maxRecDepth 100000 in
theorem lk1223 : Cond.code yX11_hash cX11_hash 2 (some .long) ∈ qg := qg_mem (List.mem_of_getElem? (i := 1223) rfl) rfl
set_option maxRecDepth 100000 in
theorem lk1221 : Cond.instanceMethod yX11_hash ∈ qg := qg_mem (List.mem_of_getElem? (i := 1221) rfl) rfl
set_option maxRecDepth 100000 in
theorem lk1222 : Cond.selects "SealLineModel" yX11_hash yX11_hash ∈ qg := qg_mem (List.mem_of_getElem? (i := 1222) rfl) rfl
theorem vX11_hash : qMv mX11_hash 1 := ⟨⟨lk1223, lk76, by decide +kernel, by decide⟩, lk1221, lk1222⟩
set_option maxRecDepth 100000 in
theorem lk793 : Cond.methodLink "SealLineLaw" 101 yX10_find ∈ qg := qg_mem (List.mem_of_getElem? (i := 793) rfl) rfl
set_option maxRecDepth 100000 in
theorem lk796 : Cond.code yX10_find cX10_find 3 (some .int) ∈ qg := qg_mem (List.mem_of_getElem? (i := 796) rfl) rfl
set_option maxRecDepth 100000 in
theorem lk794 : Cond.instanceMethod yX10_find ∈ qg := qg_mem (List.mem_of_getElem? (i := 794) rfl) rfl
set_option maxRecDepth 100000 in
theorem lk795 : Cond.selects "SealLine" yX10_find yX10_find ∈ qg := qg_mem (List.mem_of_getElem? (i := 795) rfl) rfl
theorem vX10_find : qMv mX10_find 1 := ⟨⟨lk796, lk63, by decide +kernel, by decide⟩, lk794, lk795⟩
set_option maxRecDepth 100000 in
theorem lk1019 : Cond.methodLink "SealLineLaw" 105 yX11_find ∈ qg := qg_mem (List.mem_of_getElem? (i := 1019) rfl) rfl
set_option maxRecDepth 100000 in
theorem lk797 : Cond.methodLink "SealLineLaw" 106 yX10_sealed ∈ qg := qg_mem (List.mem_of_getElem? (i := 797) rfl) rfl
set_option maxRecDepth 100000 in
theorem lk800 : Cond.code yX10_sealed cX10_sealed 3 (some .int) ∈ qg := qg_mem (List.mem_of_getElem? (i := 800) rfl) rfl
set_option maxRecDepth 100000 in
theorem lk798 : Cond.instanceMethod yX10_sealed ∈ qg := qg_mem (List.mem_of_getElem? (i := 798) rfl) rfl
set_option maxRecDepth 100000 in
theorem lk799 : Cond.selects "SealLine" yX10_sealed yX10_sealed ∈ qg := qg_mem (List.mem_of_getElem? (i := 799) rfl) rfl
theorem vX10_sealed : qMv mX10_sealed 2 := ⟨⟨lk800, lk63, by decide +kernel, by decide⟩, lk798, lk799⟩
set_option maxRecDepth 100000 in
theorem lk1224 : Cond.methodLink "SealLineLaw" 109 yX11_sealed ∈ qg := qg_mem (List.mem_of_getElem? (i := 1224) rfl) rfl
set_option maxRecDepth 100000 in
theorem lk1227 : Cond.code yX11_sealed cX11_sealed 4 (some .int) ∈ qg := qg_mem (List.mem_of_getElem? (i := 1227) rfl) rfl
set_option maxRecDepth 100000 in
theorem lk1225 : Cond.instanceMethod yX11_sealed ∈ qg := qg_mem (List.mem_of_getElem? (i := 1225) rfl) rfl
set_option maxRecDepth 100000 in
theorem lk1226 : Cond.selects "SealLineModel" yX11_sealed yX11_sealed ∈ qg := qg_mem (List.mem_of_getElem? (i := 1226) rfl) rfl
theorem vX11_sealed : qMv mX11_sealed 2 := ⟨⟨lk1227, lk76, by decide +kernel, by decide⟩, lk1225, lk1226⟩
set_option maxRecDepth 100000 in
theorem lk801 : Cond.methodLink "SealLineLaw" 110 yX10_note ∈ qg := qg_mem (List.mem_of_getElem? (i := 801) rfl) rfl
set_option maxRecDepth 100000 in
theorem lk804 : Cond.code yX10_note cX10_note 3 (some .int) ∈ qg := qg_mem (List.mem_of_getElem? (i := 804) rfl) rfl
set_option maxRecDepth 100000 in
theorem lk802 : Cond.instanceMethod yX10_note ∈ qg := qg_mem (List.mem_of_getElem? (i := 802) rfl) rfl
set_option maxRecDepth 100000 in
theorem lk803 : Cond.selects "SealLine" yX10_note yX10_note ∈ qg := qg_mem (List.mem_of_getElem? (i := 803) rfl) rfl
theorem vX10_note : qMv mX10_note 2 := ⟨⟨lk804, lk63, by decide +kernel, by decide⟩, lk802, lk803⟩
set_option maxRecDepth 100000 in
theorem lk1228 : Cond.methodLink "SealLineLaw" 113 yX11_note ∈ qg := qg_mem (List.mem_of_getElem? (i := 1228) rfl) rfl
set_option maxRecDepth 100000 in
theorem lk1231 : Cond.code yX11_note cX11_note 3 (some .int) ∈ qg := qg_mem (List.mem_of_getElem? (i := 1231) rfl) rfl
set_option maxRecDepth 100000 in
theorem lk1229 : Cond.instanceMethod yX11_note ∈ qg := qg_mem (List.mem_of_getElem? (i := 1229) rfl) rfl
set_option maxRecDepth 100000 in
theorem lk1230 : Cond.selects "SealLineModel" yX11_note yX11_note ∈ qg := qg_mem (List.mem_of_getElem? (i := 1230) rfl) rfl
theorem vX11_note : qMv mX11_note 2 := ⟨⟨lk1231, lk76, by decide +kernel, by decide⟩, lk1229, lk1230⟩
set_option maxRecDepth 100000 in
theorem lk805 : Cond.methodLink "SealLineLaw" 114 yX10_least ∈ qg := qg_mem (List.mem_of_getElem? (i := 805) rfl) rfl
set_option maxRecDepth 100000 in
theorem lk808 : Cond.code yX10_least cX10_least 1 (some .int) ∈ qg := qg_mem (List.mem_of_getElem? (i := 808) rfl) rfl
set_option maxRecDepth 100000 in
theorem lk806 : Cond.instanceMethod yX10_least ∈ qg := qg_mem (List.mem_of_getElem? (i := 806) rfl) rfl
set_option maxRecDepth 100000 in
theorem lk807 : Cond.selects "SealLine" yX10_least yX10_least ∈ qg := qg_mem (List.mem_of_getElem? (i := 807) rfl) rfl
theorem vX10_least : qMv mX10_least 0 := ⟨⟨lk808, lk63, by decide +kernel, by decide⟩, lk806, lk807⟩
set_option maxRecDepth 100000 in
theorem lk1232 : Cond.methodLink "SealLineLaw" 117 yX11_least ∈ qg := qg_mem (List.mem_of_getElem? (i := 1232) rfl) rfl
set_option maxRecDepth 100000 in
theorem lk1235 : Cond.code yX11_least cX11_least 2 (some .int) ∈ qg := qg_mem (List.mem_of_getElem? (i := 1235) rfl) rfl
set_option maxRecDepth 100000 in
theorem lk1233 : Cond.instanceMethod yX11_least ∈ qg := qg_mem (List.mem_of_getElem? (i := 1233) rfl) rfl
set_option maxRecDepth 100000 in
theorem lk1234 : Cond.selects "SealLineModel" yX11_least yX11_least ∈ qg := qg_mem (List.mem_of_getElem? (i := 1234) rfl) rfl
theorem vX11_least : qMv mX11_least 0 := ⟨⟨lk1235, lk76, by decide +kernel, by decide⟩, lk1233, lk1234⟩
set_option maxRecDepth 100000 in
theorem lk827 : Cond.methodLink "SealLineLaw" 118 yX10_makers ∈ qg := qg_mem (List.mem_of_getElem? (i := 827) rfl) rfl
set_option maxRecDepth 100000 in
theorem lk830 : Cond.code yX10_makers cX10_makers 1 (some .int) ∈ qg := qg_mem (List.mem_of_getElem? (i := 830) rfl) rfl
set_option maxRecDepth 100000 in
theorem lk828 : Cond.instanceMethod yX10_makers ∈ qg := qg_mem (List.mem_of_getElem? (i := 828) rfl) rfl
set_option maxRecDepth 100000 in
theorem lk829 : Cond.selects "SealLine" yX10_makers yX10_makers ∈ qg := qg_mem (List.mem_of_getElem? (i := 829) rfl) rfl
theorem vX10_makers : qMv mX10_makers 0 := ⟨⟨lk830, lk63, by decide +kernel, by decide⟩, lk828, lk829⟩
set_option maxRecDepth 100000 in
theorem lk1244 : Cond.methodLink "SealLineLaw" 121 yX11_makers ∈ qg := qg_mem (List.mem_of_getElem? (i := 1244) rfl) rfl
set_option maxRecDepth 100000 in
theorem lk1247 : Cond.code yX11_makers cX11_makers 2 (some .int) ∈ qg := qg_mem (List.mem_of_getElem? (i := 1247) rfl) rfl
set_option maxRecDepth 100000 in
theorem lk1245 : Cond.instanceMethod yX11_makers ∈ qg := qg_mem (List.mem_of_getElem? (i := 1245) rfl) rfl
set_option maxRecDepth 100000 in
theorem lk1246 : Cond.selects "SealLineModel" yX11_makers yX11_makers ∈ qg := qg_mem (List.mem_of_getElem? (i := 1246) rfl) rfl
theorem vX11_makers : qMv mX11_makers 0 := ⟨⟨lk1247, lk76, by decide +kernel, by decide⟩, lk1245, lk1246⟩
set_option maxRecDepth 100000 in
theorem lk835 : Cond.methodLink "SealLineLaw" 122 yX10_proof ∈ qg := qg_mem (List.mem_of_getElem? (i := 835) rfl) rfl
set_option maxRecDepth 100000 in
theorem lk838 : Cond.code yX10_proof cX10_proof 3 (some .int) ∈ qg := qg_mem (List.mem_of_getElem? (i := 838) rfl) rfl
set_option maxRecDepth 100000 in
theorem lk836 : Cond.instanceMethod yX10_proof ∈ qg := qg_mem (List.mem_of_getElem? (i := 836) rfl) rfl
set_option maxRecDepth 100000 in
theorem lk837 : Cond.selects "SealLine" yX10_proof yX10_proof ∈ qg := qg_mem (List.mem_of_getElem? (i := 837) rfl) rfl
theorem vX10_proof : qMv mX10_proof 2 := ⟨⟨lk838, lk63, by decide +kernel, by decide⟩, lk836, lk837⟩
set_option maxRecDepth 100000 in
theorem lk1248 : Cond.methodLink "SealLineLaw" 125 yX11_proof ∈ qg := qg_mem (List.mem_of_getElem? (i := 1248) rfl) rfl
set_option maxRecDepth 100000 in
theorem lk1251 : Cond.code yX11_proof cX11_proof 7 (some .int) ∈ qg := qg_mem (List.mem_of_getElem? (i := 1251) rfl) rfl
set_option maxRecDepth 100000 in
theorem lk1249 : Cond.instanceMethod yX11_proof ∈ qg := qg_mem (List.mem_of_getElem? (i := 1249) rfl) rfl
set_option maxRecDepth 100000 in
theorem lk1250 : Cond.selects "SealLineModel" yX11_proof yX11_proof ∈ qg := qg_mem (List.mem_of_getElem? (i := 1250) rfl) rfl
theorem vX11_proof : qMv mX11_proof 2 := ⟨⟨lk1251, lk76, by decide +kernel, by decide⟩, lk1249, lk1250⟩
set_option maxRecDepth 100000 in
theorem lk870 : Cond.methodLink "SealLineLaw" 126 yX10_called ∈ qg := qg_mem (List.mem_of_getElem? (i := 870) rfl) rfl
set_option maxRecDepth 100000 in
theorem lk873 : Cond.code yX10_called cX10_called 4 (some .int) ∈ qg := qg_mem (List.mem_of_getElem? (i := 873) rfl) rfl
set_option maxRecDepth 100000 in
theorem lk871 : Cond.instanceMethod yX10_called ∈ qg := qg_mem (List.mem_of_getElem? (i := 871) rfl) rfl
set_option maxRecDepth 100000 in
theorem lk872 : Cond.selects "SealLine" yX10_called yX10_called ∈ qg := qg_mem (List.mem_of_getElem? (i := 872) rfl) rfl
theorem vX10_called : qMv mX10_called 1 := ⟨⟨lk873, lk63, by decide +kernel, by decide⟩, lk871, lk872⟩
set_option maxRecDepth 100000 in
theorem lk1256 : Cond.methodLink "SealLineLaw" 129 yX11_called ∈ qg := qg_mem (List.mem_of_getElem? (i := 1256) rfl) rfl
set_option maxRecDepth 100000 in
theorem lk1259 : Cond.code yX11_called cX11_called 4 (some .int) ∈ qg := qg_mem (List.mem_of_getElem? (i := 1259) rfl) rfl
set_option maxRecDepth 100000 in
theorem lk1257 : Cond.instanceMethod yX11_called ∈ qg := qg_mem (List.mem_of_getElem? (i := 1257) rfl) rfl
set_option maxRecDepth 100000 in
theorem lk1258 : Cond.selects "SealLineModel" yX11_called yX11_called ∈ qg := qg_mem (List.mem_of_getElem? (i := 1258) rfl) rfl
theorem vX11_called : qMv mX11_called 1 := ⟨⟨lk1259, lk76, by decide +kernel, by decide⟩, lk1257, lk1258⟩
set_option maxRecDepth 100000 in
theorem lk874 : Cond.methodLink "SealLineLaw" 130 yX10_count ∈ qg := qg_mem (List.mem_of_getElem? (i := 874) rfl) rfl
set_option maxRecDepth 100000 in
theorem lk877 : Cond.code yX10_count cX10_count 2 (some .int) ∈ qg := qg_mem (List.mem_of_getElem? (i := 877) rfl) rfl
set_option maxRecDepth 100000 in
theorem lk875 : Cond.instanceMethod yX10_count ∈ qg := qg_mem (List.mem_of_getElem? (i := 875) rfl) rfl
set_option maxRecDepth 100000 in
theorem lk876 : Cond.selects "SealLine" yX10_count yX10_count ∈ qg := qg_mem (List.mem_of_getElem? (i := 876) rfl) rfl
theorem vX10_count : qMv mX10_count 1 := ⟨⟨lk877, lk63, by decide +kernel, by decide⟩, lk875, lk876⟩
set_option maxRecDepth 100000 in
theorem lk1260 : Cond.methodLink "SealLineLaw" 133 yX11_count ∈ qg := qg_mem (List.mem_of_getElem? (i := 1260) rfl) rfl
set_option maxRecDepth 100000 in
theorem lk1263 : Cond.code yX11_count cX11_count 4 (some .int) ∈ qg := qg_mem (List.mem_of_getElem? (i := 1263) rfl) rfl
set_option maxRecDepth 100000 in
theorem lk1261 : Cond.instanceMethod yX11_count ∈ qg := qg_mem (List.mem_of_getElem? (i := 1261) rfl) rfl
set_option maxRecDepth 100000 in
theorem lk1262 : Cond.selects "SealLineModel" yX11_count yX11_count ∈ qg := qg_mem (List.mem_of_getElem? (i := 1262) rfl) rfl
theorem vX11_count : qMv mX11_count 1 := ⟨⟨lk1263, lk76, by decide +kernel, by decide⟩, lk1261, lk1262⟩
set_option maxRecDepth 100000 in
theorem lk886 : Cond.methodLink "SealLineLaw" 134 yX10_key ∈ qg := qg_mem (List.mem_of_getElem? (i := 886) rfl) rfl
set_option maxRecDepth 100000 in
theorem lk889 : Cond.code yX10_key cX10_key 3 (some .int) ∈ qg := qg_mem (List.mem_of_getElem? (i := 889) rfl) rfl
set_option maxRecDepth 100000 in
theorem lk887 : Cond.instanceMethod yX10_key ∈ qg := qg_mem (List.mem_of_getElem? (i := 887) rfl) rfl
set_option maxRecDepth 100000 in
theorem lk888 : Cond.selects "SealLine" yX10_key yX10_key ∈ qg := qg_mem (List.mem_of_getElem? (i := 888) rfl) rfl
theorem vX10_key : qMv mX10_key 2 := ⟨⟨lk889, lk63, by decide +kernel, by decide⟩, lk887, lk888⟩
set_option maxRecDepth 100000 in
theorem lk1264 : Cond.methodLink "SealLineLaw" 137 yX11_key ∈ qg := qg_mem (List.mem_of_getElem? (i := 1264) rfl) rfl
set_option maxRecDepth 100000 in
theorem lk1267 : Cond.code yX11_key cX11_key 5 (some .int) ∈ qg := qg_mem (List.mem_of_getElem? (i := 1267) rfl) rfl
set_option maxRecDepth 100000 in
theorem lk1265 : Cond.instanceMethod yX11_key ∈ qg := qg_mem (List.mem_of_getElem? (i := 1265) rfl) rfl
set_option maxRecDepth 100000 in
theorem lk1266 : Cond.selects "SealLineModel" yX11_key yX11_key ∈ qg := qg_mem (List.mem_of_getElem? (i := 1266) rfl) rfl
theorem vX11_key : qMv mX11_key 2 := ⟨⟨lk1267, lk76, by decide +kernel, by decide⟩, lk1265, lk1266⟩

/-! arraycopy, Math: their words and rules; how many arguments a method takes -/
theorem gl_RX1_43 : Cond.methodLink RX1 43 arraycopyName ∈ WT := gmem 567 (by decide +kernel) (by decide +kernel)
theorem gl_RX9_272 : Cond.methodLink RX9 272 arraycopyName ∈ WT := gmem 975 (by decide +kernel) (by decide +kernel)
theorem gl_RX6_35 : Cond.methodLink RX6 35 arraycopyName ∈ WT := gmem 1101 (by decide +kernel) (by decide +kernel)
theorem gl_RX10_357 : Cond.methodLink RX10 357 arraycopyName ∈ WT := gmem 1636 (by decide +kernel) (by decide +kernel)
theorem gacw : Cond.native arraycopyName ∈ WT ∧ Cond.static arraycopyName ∈ WT ∧ Cond.initialized "java/lang/System" ∈ WT := ⟨gmem 569 (by decide +kernel) (by decide +kernel), gmem 568 (by decide +kernel) (by decide +kernel), gmem 134 (by decide +kernel) (by decide +kernel)⟩
theorem gmmax : Cond.static Lib.Math.max.name ∈ WT ∧ Cond.initialized "java/lang/Math" ∈ WT ∧ Cond.code Lib.Math.max.name Lib.Math.max.code 2 (some .int) ∈ WT := ⟨gmem 836 (by decide +kernel) (by decide +kernel), gmem 128 (by decide +kernel) (by decide +kernel), gmem 837 (by decide +kernel) (by decide +kernel)⟩
theorem gmmin : Cond.static Lib.Math.min.name ∈ WT ∧ Cond.initialized "java/lang/Math" ∈ WT ∧ Cond.code Lib.Math.min.name Lib.Math.min.code 2 (some .int) ∈ WT := ⟨gmem 495 (by decide +kernel) (by decide +kernel), gmem 128 (by decide +kernel) (by decide +kernel), gmem 496 (by decide +kernel) (by decide +kernel)⟩
theorem gmabs : Cond.static Lib.MathLoose.abs_long.x ∈ WT ∧ Cond.initialized "java/lang/Math" ∈ WT ∧ Cond.code Lib.MathLoose.abs_long.x Lib.MathLoose.abs_long.code 2 (some .long) ∈ WT := ⟨gmem 805 (by decide +kernel) (by decide +kernel), gmem 128 (by decide +kernel) (by decide +kernel), gmem 806 (by decide +kernel) (by decide +kernel)⟩
theorem gStandsW : Cond.fieldLink RX4 54 RX4 "STANDS" "[I" ∈ WT := gmem 788 (by decide +kernel) (by decide +kernel)
theorem gr_X0_init : gAr gm_X0_init 0 := ⟨by decide +kernel, by decide⟩
theorem gr_X0_clear : gAr gm_X0_clear 0 := ⟨by decide +kernel, by decide⟩
theorem gr_X0_has : gAr gm_X0_has 1 := ⟨by decide +kernel, by decide⟩
theorem gr_X0_isNumber : gAr gm_X0_isNumber 1 := ⟨by decide +kernel, by decide⟩
theorem gr_X0_isNumber_ : gAr gm_X0_isNumber_ 2 := ⟨by decide +kernel, by decide⟩
theorem gr_X0_kind : gAr gm_X0_kind 1 := ⟨by decide +kernel, by decide⟩
theorem gr_X0_number : gAr gm_X0_number 1 := ⟨by decide +kernel, by decide⟩
theorem gr_X0_first : gAr gm_X0_first 1 := ⟨by decide +kernel, by decide⟩
theorem gr_X0_nodes : gAr gm_X0_nodes 1 := ⟨by decide +kernel, by decide⟩
theorem gr_X0_make : gAr gm_X0_make 5 := ⟨by decide +kernel, by decide⟩
theorem gr_X0_leaf : gAr gm_X0_leaf 2 := ⟨by decide +kernel, by decide⟩
theorem gr_X0_pair : gAr gm_X0_pair 3 := ⟨by decide +kernel, by decide⟩
theorem gr_X0_await : gAr gm_X0_await 1 := ⟨by decide +kernel, by decide⟩
theorem gr_X0_settle : gAr gm_X0_settle 2 := ⟨by decide +kernel, by decide⟩
theorem gr_X1_init : gAr gm_X1_init 0 := ⟨by decide +kernel, by decide⟩
theorem gr_X1_size : gAr gm_X1_size 0 := ⟨by decide +kernel, by decide⟩
theorem gr_X1_isEmpty : gAr gm_X1_isEmpty 0 := ⟨by decide +kernel, by decide⟩
theorem gr_X1_has : gAr gm_X1_has 1 := ⟨by decide +kernel, by decide⟩
theorem gr_X1_kind : gAr gm_X1_kind 1 := ⟨by decide +kernel, by decide⟩
theorem gr_X1_number : gAr gm_X1_number 1 := ⟨by decide +kernel, by decide⟩
theorem gr_X1_parts : gAr gm_X1_parts 1 := ⟨by decide +kernel, by decide⟩
theorem gr_X1_nodes : gAr gm_X1_nodes 1 := ⟨by decide +kernel, by decide⟩
theorem gr_X1_part : gAr gm_X1_part 2 := ⟨by decide +kernel, by decide⟩
theorem gr_X1_placeOfNumber : gAr gm_X1_placeOfNumber 1 := ⟨by decide +kernel, by decide⟩
theorem gr_X1_clear : gAr gm_X1_clear 0 := ⟨by decide +kernel, by decide⟩
theorem gr_X1_add : gAr gm_X1_add 3 := ⟨by decide +kernel, by decide⟩
theorem gr_X1_setNumber : gAr gm_X1_setNumber 2 := ⟨by decide +kernel, by decide⟩
theorem gr_X1_become : gAr gm_X1_become 1 := ⟨by decide +kernel, by decide⟩
theorem gr_X1_isAlike : gAr gm_X1_isAlike 3 := ⟨by decide +kernel, by decide⟩
theorem gr_X2_init : gAr gm_X2_init 0 := ⟨by decide +kernel, by decide⟩
theorem gr_X2_toldOf : gAr gm_X2_toldOf 1 := ⟨by decide +kernel, by decide⟩
theorem gr_X2_measureOf : gAr gm_X2_measureOf 2 := ⟨by decide +kernel, by decide⟩
theorem gr_X2_join : gAr gm_X2_join 3 := ⟨by decide +kernel, by decide⟩
theorem gr_X2_own : gAr gm_X2_own 3 := ⟨by decide +kernel, by decide⟩
theorem gr_X2_joinedParts : gAr gm_X2_joinedParts 3 := ⟨by decide +kernel, by decide⟩
theorem gr_X2_degreeOf : gAr gm_X2_degreeOf 2 := ⟨by decide +kernel, by decide⟩
theorem gr_X2_namedAt : gAr gm_X2_namedAt 1 := ⟨by decide +kernel, by decide⟩
theorem gr_X2_hasName : gAr gm_X2_hasName 3 := ⟨by decide +kernel, by decide⟩
theorem gr_X2_hasNoneOf : gAr gm_X2_hasNoneOf 2 := ⟨by decide +kernel, by decide⟩
theorem gr_X2_nodeDegree : gAr gm_X2_nodeDegree 3 := ⟨by decide +kernel, by decide⟩
theorem gr_X3_init : gAr gm_X3_init 0 := ⟨by decide +kernel, by decide⟩
theorem gr_X3_lineCount : gAr gm_X3_lineCount 0 := ⟨by decide +kernel, by decide⟩
theorem gr_X3_lineAt : gAr gm_X3_lineAt 1 := ⟨by decide +kernel, by decide⟩
theorem gr_X3_steps : gAr gm_X3_steps 0 := ⟨by decide +kernel, by decide⟩
theorem gr_X3_high : gAr gm_X3_high 0 := ⟨by decide +kernel, by decide⟩
theorem gr_X3_translate : gAr gm_X3_translate 1 := ⟨by decide +kernel, by decide⟩
theorem gr_X3_lengthOf : gAr gm_X3_lengthOf 2 := ⟨by decide +kernel, by decide⟩
theorem gr_X3_lengthAt : gAr gm_X3_lengthAt 1 := ⟨by decide +kernel, by decide⟩
theorem gr_X3_place : gAr gm_X3_place 2 := ⟨by decide +kernel, by decide⟩
theorem gr_X3_write : gAr gm_X3_write 3 := ⟨by decide +kernel, by decide⟩
theorem gr_X3_writeNode : gAr gm_X3_writeNode 4 := ⟨by decide +kernel, by decide⟩
theorem gr_X3_writePick : gAr gm_X3_writePick 4 := ⟨by decide +kernel, by decide⟩
theorem gr_X3_execute : gAr gm_X3_execute 1 := ⟨by decide +kernel, by decide⟩
theorem gr_X3_push : gAr gm_X3_push 1 := ⟨by decide +kernel, by decide⟩
theorem gr_X3_pop : gAr gm_X3_pop 0 := ⟨by decide +kernel, by decide⟩
theorem gr_X3_lineBehind : gAr gm_X3_lineBehind 2 := ⟨by decide +kernel, by decide⟩
theorem gr_X3_calculate : gAr gm_X3_calculate 1 := ⟨by decide +kernel, by decide⟩
theorem gr_X4_init : gAr gm_X4_init 0 := ⟨by decide +kernel, by decide⟩
theorem gr_X4_byteAt : gAr gm_X4_byteAt 1 := ⟨by decide +kernel, by decide⟩
theorem gr_X4_printed : gAr gm_X4_printed 1 := ⟨by decide +kernel, by decide⟩
theorem gr_X4_put : gAr gm_X4_put 1 := ⟨by decide +kernel, by decide⟩
theorem gr_X4_later : gAr gm_X4_later 1 := ⟨by decide +kernel, by decide⟩
theorem gr_X4_laterSign : gAr gm_X4_laterSign 1 := ⟨by decide +kernel, by decide⟩
theorem gr_X4_laterTree : gAr gm_X4_laterTree 2 := ⟨by decide +kernel, by decide⟩
theorem gr_X4_putTree : gAr gm_X4_putTree 3 := ⟨by decide +kernel, by decide⟩
theorem gr_X4_putOpenTree : gAr gm_X4_putOpenTree 3 := ⟨by decide +kernel, by decide⟩
theorem gr_X4_laterSecondOfSum : gAr gm_X4_laterSecondOfSum 2 := ⟨by decide +kernel, by decide⟩
theorem gr_X4_putNumber : gAr gm_X4_putNumber 1 := ⟨by decide +kernel, by decide⟩
theorem gr_X5_init : gAr gm_X5_init 1 := ⟨by decide +kernel, by decide⟩
theorem gr_X5_tapeSize : gAr gm_X5_tapeSize 0 := ⟨by decide +kernel, by decide⟩
theorem gr_X5_faultPlace : gAr gm_X5_faultPlace 0 := ⟨by decide +kernel, by decide⟩
theorem gr_X5_append : gAr gm_X5_append 1 := ⟨by decide +kernel, by decide⟩
theorem gr_X5_readTape : gAr gm_X5_readTape 0 := ⟨by decide +kernel, by decide⟩
theorem gr_X5_byteAt : gAr gm_X5_byteAt 1 := ⟨by decide +kernel, by decide⟩
theorem gr_X5_isBlank : gAr gm_X5_isBlank 1 := ⟨by decide +kernel, by decide⟩
theorem gr_X5_isLetter : gAr gm_X5_isLetter 1 := ⟨by decide +kernel, by decide⟩
theorem gr_X5_isDigit : gAr gm_X5_isDigit 1 := ⟨by decide +kernel, by decide⟩
theorem gr_X5_isSign : gAr gm_X5_isSign 1 := ⟨by decide +kernel, by decide⟩
theorem gr_X5_advance : gAr gm_X5_advance 0 := ⟨by decide +kernel, by decide⟩
theorem gr_X5_takeWord : gAr gm_X5_takeWord 1 := ⟨by decide +kernel, by decide⟩
theorem gr_X5_takeNumber : gAr gm_X5_takeNumber 0 := ⟨by decide +kernel, by decide⟩
theorem gr_X5_fail : gAr gm_X5_fail 0 := ⟨by decide +kernel, by decide⟩
theorem gr_X5_choice : gAr gm_X5_choice 1 := ⟨by decide +kernel, by decide⟩
theorem gr_X5_sum : gAr gm_X5_sum 1 := ⟨by decide +kernel, by decide⟩
theorem gr_X5_term : gAr gm_X5_term 1 := ⟨by decide +kernel, by decide⟩
theorem gr_X5_pow : gAr gm_X5_pow 1 := ⟨by decide +kernel, by decide⟩
theorem gr_X5_one : gAr gm_X5_one 1 := ⟨by decide +kernel, by decide⟩
theorem gr_X5_leafOf : gAr gm_X5_leafOf 1 := ⟨by decide +kernel, by decide⟩
theorem gr_X5_negated : gAr gm_X5_negated 1 := ⟨by decide +kernel, by decide⟩
theorem gr_X5_squared : gAr gm_X5_squared 1 := ⟨by decide +kernel, by decide⟩
theorem gr_X5_enclosed : gAr gm_X5_enclosed 2 := ⟨by decide +kernel, by decide⟩
theorem gr_X6_init : gAr gm_X6_init 0 := ⟨by decide +kernel, by decide⟩
theorem gr_X6_isMissing : gAr gm_X6_isMissing 0 := ⟨by decide +kernel, by decide⟩
theorem gr_X6_sort : gAr gm_X6_sort 0 := ⟨by decide +kernel, by decide⟩
theorem gr_X6_size : gAr gm_X6_size 0 := ⟨by decide +kernel, by decide⟩
theorem gr_X6_remove : gAr gm_X6_remove 0 := ⟨by decide +kernel, by decide⟩
theorem gr_X6_begin : gAr gm_X6_begin 2 := ⟨by decide +kernel, by decide⟩
theorem gr_X6_at : gAr gm_X6_at 1 := ⟨by decide +kernel, by decide⟩
theorem gr_X6_set : gAr gm_X6_set 2 := ⟨by decide +kernel, by decide⟩
theorem gr_X6_holds : gAr gm_X6_holds 2 := ⟨by decide +kernel, by decide⟩
theorem gr_X6_take : gAr gm_X6_take 4 := ⟨by decide +kernel, by decide⟩
theorem gr_X7_init : gAr gm_X7_init 1 := ⟨by decide +kernel, by decide⟩
theorem gr_X7_partOf : gAr gm_X7_partOf 4 := ⟨by decide +kernel, by decide⟩
theorem gr_X7_remade : gAr gm_X7_remade 3 := ⟨by decide +kernel, by decide⟩
theorem gr_X7_replaced : gAr gm_X7_replaced 3 := ⟨by decide +kernel, by decide⟩
theorem gr_X7_derived : gAr gm_X7_derived 2 := ⟨by decide +kernel, by decide⟩
theorem gr_X7_derivedNode : gAr gm_X7_derivedNode 3 := ⟨by decide +kernel, by decide⟩
theorem gr_X7_derivedProduct : gAr gm_X7_derivedProduct 4 := ⟨by decide +kernel, by decide⟩
theorem gr_X7_derivedPower : gAr gm_X7_derivedPower 3 := ⟨by decide +kernel, by decide⟩
theorem gr_X7_folded : gAr gm_X7_folded 1 := ⟨by decide +kernel, by decide⟩
theorem gr_X7_foldedNode : gAr gm_X7_foldedNode 2 := ⟨by decide +kernel, by decide⟩
theorem gr_X7_foldedNegated : gAr gm_X7_foldedNegated 1 := ⟨by decide +kernel, by decide⟩
theorem gr_X7_foldedSum : gAr gm_X7_foldedSum 2 := ⟨by decide +kernel, by decide⟩
theorem gr_X7_foldedProduct : gAr gm_X7_foldedProduct 2 := ⟨by decide +kernel, by decide⟩
theorem gr_X7_foldedPower : gAr gm_X7_foldedPower 2 := ⟨by decide +kernel, by decide⟩
theorem gr_X7_foldedPick : gAr gm_X7_foldedPick 3 := ⟨by decide +kernel, by decide⟩
theorem gr_X7_foldedSquare : gAr gm_X7_foldedSquare 1 := ⟨by decide +kernel, by decide⟩
theorem gr_X8_init : gAr gm_X8_init 0 := ⟨by decide +kernel, by decide⟩
theorem gr_X8_power : gAr gm_X8_power 2 := ⟨by decide +kernel, by decide⟩
theorem gr_X8_worthOf : gAr gm_X8_worthOf 2 := ⟨by decide +kernel, by decide⟩
theorem gr_X8_worthAt : gAr gm_X8_worthAt 1 := ⟨by decide +kernel, by decide⟩
theorem gr_X8_valueOf : gAr gm_X8_valueOf 2 := ⟨by decide +kernel, by decide⟩
theorem gr_X8_nodeWorth : gAr gm_X8_nodeWorth 3 := ⟨by decide +kernel, by decide⟩
theorem gr_X8_metOf : gAr gm_X8_metOf 3 := ⟨by decide +kernel, by decide⟩
theorem gr_X8_metAs : gAr gm_X8_metAs 2 := ⟨by decide +kernel, by decide⟩
theorem gr_X8_askParts : gAr gm_X8_askParts 2 := ⟨by decide +kernel, by decide⟩
theorem gr_X9_init : gAr gm_X9_init 0 := ⟨by decide +kernel, by decide⟩
theorem gr_X9_feed : gAr gm_X9_feed 6 := ⟨by decide +kernel, by decide⟩
theorem gr_X9_text : gAr gm_X9_text 1 := ⟨by decide +kernel, by decide⟩
theorem gr_X9_let : gAr gm_X9_let 2 := ⟨by decide +kernel, by decide⟩
theorem gr_X9_turn : gAr gm_X9_turn 3 := ⟨by decide +kernel, by decide⟩
theorem gr_X9_node : gAr gm_X9_node 3 := ⟨by decide +kernel, by decide⟩
theorem gr_X9_taken : gAr gm_X9_taken 3 := ⟨by decide +kernel, by decide⟩
theorem gr_X9_worth : gAr gm_X9_worth 1 := ⟨by decide +kernel, by decide⟩
theorem gr_X9_met : gAr gm_X9_met 2 := ⟨by decide +kernel, by decide⟩
theorem gr_X9_purse : gAr gm_X9_purse 2 := ⟨by decide +kernel, by decide⟩
theorem gr_X9_print : gAr gm_X9_print 2 := ⟨by decide +kernel, by decide⟩
theorem gr_X9_measure : gAr gm_X9_measure 2 := ⟨by decide +kernel, by decide⟩
theorem gr_X9_code : gAr gm_X9_code 2 := ⟨by decide +kernel, by decide⟩
theorem gr_X9_run : gAr gm_X9_run 1 := ⟨by decide +kernel, by decide⟩
theorem gr_X9_alike : gAr gm_X9_alike 3 := ⟨by decide +kernel, by decide⟩
theorem gr_X9_degree : gAr gm_X9_degree 2 := ⟨by decide +kernel, by decide⟩
theorem gr_X9_sought : gAr gm_X9_sought 6 := ⟨by decide +kernel, by decide⟩
theorem gr_X9_drawn : gAr gm_X9_drawn 2 := ⟨by decide +kernel, by decide⟩
theorem gr_X9_chance : gAr gm_X9_chance 5 := ⟨by decide +kernel, by decide⟩
theorem gr_X9_tells : gAr gm_X9_tells 4 := ⟨by decide +kernel, by decide⟩
theorem gr_X9_film : gAr gm_X9_film 4 := ⟨by decide +kernel, by decide⟩
theorem gr_X9_image : gAr gm_X9_image 0 := ⟨by decide +kernel, by decide⟩
theorem gr_X9_back : gAr gm_X9_back 0 := ⟨by decide +kernel, by decide⟩
theorem gr_X9_count : gAr gm_X9_count 1 := ⟨by decide +kernel, by decide⟩
theorem gr_X9_sheet : gAr gm_X9_sheet 3 := ⟨by decide +kernel, by decide⟩
theorem gr_X9_cell : gAr gm_X9_cell 3 := ⟨by decide +kernel, by decide⟩
theorem gr_X9_copy : gAr gm_X9_copy 5 := ⟨by decide +kernel, by decide⟩
theorem gr_X9_isByte : gAr gm_X9_isByte 1 := ⟨by decide +kernel, by decide⟩
theorem gr_X9_isFormula : gAr gm_X9_isFormula 1 := ⟨by decide +kernel, by decide⟩
theorem gr_X9_isName : gAr gm_X9_isName 1 := ⟨by decide +kernel, by decide⟩
theorem gr_X9_isKind : gAr gm_X9_isKind 1 := ⟨by decide +kernel, by decide⟩
theorem gr_X9_isSheet : gAr gm_X9_isSheet 1 := ⟨by decide +kernel, by decide⟩
theorem gr_X9_isTurn : gAr gm_X9_isTurn 1 := ⟨by decide +kernel, by decide⟩
theorem gr_X9_isQuestion : gAr gm_X9_isQuestion 1 := ⟨by decide +kernel, by decide⟩
theorem gr_X9_refusalOf : gAr gm_X9_refusalOf 2 := ⟨by decide +kernel, by decide⟩
theorem gr_X9_refusalOfNode : gAr gm_X9_refusalOfNode 3 := ⟨by decide +kernel, by decide⟩
theorem gr_X9_turnedRoot : gAr gm_X9_turnedRoot 3 := ⟨by decide +kernel, by decide⟩
theorem gr_X9_sharedBy : gAr gm_X9_sharedBy 2 := ⟨by decide +kernel, by decide⟩
theorem gr_X9_unlikeOf : gAr gm_X9_unlikeOf 1 := ⟨by decide +kernel, by decide⟩
theorem gr_X9_supposeValues : gAr gm_X9_supposeValues 0 := ⟨by decide +kernel, by decide⟩
theorem gr_X9_drawnWorth : gAr gm_X9_drawnWorth 2 := ⟨by decide +kernel, by decide⟩
theorem gr_X9_commonDivisor : gAr gm_X9_commonDivisor 2 := ⟨by decide +kernel, by decide⟩
theorem gr_X9_firstOtherwise : gAr gm_X9_firstOtherwise 3 := ⟨by decide +kernel, by decide⟩
theorem gr_X9_formulasTold : gAr gm_X9_formulasTold 2 := ⟨by decide +kernel, by decide⟩
theorem gr_X9_namesTold : gAr gm_X9_namesTold 2 := ⟨by decide +kernel, by decide⟩
theorem gr_X9_numbersTold : gAr gm_X9_numbersTold 5 := ⟨by decide +kernel, by decide⟩
theorem gr_X9_fullFormulas : gAr gm_X9_fullFormulas 0 := ⟨by decide +kernel, by decide⟩
theorem gr_X9_allNodes : gAr gm_X9_allNodes 0 := ⟨by decide +kernel, by decide⟩
theorem gr_X10_init : gAr gm_X10_init 0 := ⟨by decide +kernel, by decide⟩
theorem gr_X10_in : gAr gm_X10_in 3 := ⟨by decide +kernel, by decide⟩
theorem gr_X10_isFormula : gAr gm_X10_isFormula 1 := ⟨by decide +kernel, by decide⟩
theorem gr_X10_isName : gAr gm_X10_isName 1 := ⟨by decide +kernel, by decide⟩
theorem gr_X10_asLong : gAr gm_X10_asLong 1 := ⟨by decide +kernel, by decide⟩
theorem gr_X10_parts : gAr gm_X10_parts 1 := ⟨by decide +kernel, by decide⟩
theorem gr_X10_begin : gAr gm_X10_begin 0 := ⟨by decide +kernel, by decide⟩
theorem gr_X10_put : gAr gm_X10_put 2 := ⟨by decide +kernel, by decide⟩
theorem gr_X10_madeEnd : gAr gm_X10_madeEnd 1 := ⟨by decide +kernel, by decide⟩
theorem gr_X10_takeOut : gAr gm_X10_takeOut 2 := ⟨by decide +kernel, by decide⟩
theorem gr_X10_putAhead : gAr gm_X10_putAhead 3 := ⟨by decide +kernel, by decide⟩
theorem gr_X10_handOver : gAr gm_X10_handOver 1 := ⟨by decide +kernel, by decide⟩
theorem gr_X10_again : gAr gm_X10_again 2 := ⟨by decide +kernel, by decide⟩
theorem gr_X10_second : gAr gm_X10_second 2 := ⟨by decide +kernel, by decide⟩
theorem gr_X10_third : gAr gm_X10_third 2 := ⟨by decide +kernel, by decide⟩
theorem gr_X10_isByte : gAr gm_X10_isByte 1 := ⟨by decide +kernel, by decide⟩
theorem gr_X10_feed : gAr gm_X10_feed 6 := ⟨by decide +kernel, by decide⟩
theorem gr_X10_byteAt : gAr gm_X10_byteAt 1 := ⟨by decide +kernel, by decide⟩
theorem gr_X10_next : gAr gm_X10_next 0 := ⟨by decide +kernel, by decide⟩
theorem gr_X10_isSign : gAr gm_X10_isSign 1 := ⟨by decide +kernel, by decide⟩
theorem gr_X10_need : gAr gm_X10_need 1 := ⟨by decide +kernel, by decide⟩
theorem gr_X10_choice : gAr gm_X10_choice 0 := ⟨by decide +kernel, by decide⟩
theorem gr_X10_sum : gAr gm_X10_sum 0 := ⟨by decide +kernel, by decide⟩
theorem gr_X10_term : gAr gm_X10_term 0 := ⟨by decide +kernel, by decide⟩
theorem gr_X10_pow : gAr gm_X10_pow 0 := ⟨by decide +kernel, by decide⟩
theorem gr_X10_opens : gAr gm_X10_opens 0 := ⟨by decide +kernel, by decide⟩
theorem gr_X10_one : gAr gm_X10_one 0 := ⟨by decide +kernel, by decide⟩
theorem gr_X10_text : gAr gm_X10_text 1 := ⟨by decide +kernel, by decide⟩
theorem gr_X10_let : gAr gm_X10_let 2 := ⟨by decide +kernel, by decide⟩
theorem gr_X10_isNumber : gAr gm_X10_isNumber 2 := ⟨by decide +kernel, by decide⟩
theorem gr_X10_becomes : gAr gm_X10_becomes 2 := ⟨by decide +kernel, by decide⟩
theorem gr_X10_fold : gAr gm_X10_fold 2 := ⟨by decide +kernel, by decide⟩
theorem gr_X10_foldSum : gAr gm_X10_foldSum 2 := ⟨by decide +kernel, by decide⟩
theorem gr_X10_foldProduct : gAr gm_X10_foldProduct 2 := ⟨by decide +kernel, by decide⟩
theorem gr_X10_power : gAr gm_X10_power 2 := ⟨by decide +kernel, by decide⟩
theorem gr_X10_foldPower : gAr gm_X10_foldPower 2 := ⟨by decide +kernel, by decide⟩
theorem gr_X10_foldPick : gAr gm_X10_foldPick 1 := ⟨by decide +kernel, by decide⟩
theorem gr_X10_derive : gAr gm_X10_derive 3 := ⟨by decide +kernel, by decide⟩
theorem gr_X10_deriveProduct : gAr gm_X10_deriveProduct 4 := ⟨by decide +kernel, by decide⟩
theorem gr_X10_replace : gAr gm_X10_replace 3 := ⟨by decide +kernel, by decide⟩
theorem gr_X10_turn : gAr gm_X10_turn 3 := ⟨by decide +kernel, by decide⟩
theorem gr_X10_isKind : gAr gm_X10_isKind 2 := ⟨by decide +kernel, by decide⟩
theorem gr_X10_node : gAr gm_X10_node 3 := ⟨by decide +kernel, by decide⟩
theorem gr_X10_taken : gAr gm_X10_taken 3 := ⟨by decide +kernel, by decide⟩
theorem gr_X10_refusal : gAr gm_X10_refusal 1 := ⟨by decide +kernel, by decide⟩
theorem gr_X10_metAll : gAr gm_X10_metAll 0 := ⟨by decide +kernel, by decide⟩
theorem gr_X10_worthOf : gAr gm_X10_worthOf 2 := ⟨by decide +kernel, by decide⟩
theorem gr_X10_worthNow : gAr gm_X10_worthNow 1 := ⟨by decide +kernel, by decide⟩
theorem gr_X10_worth : gAr gm_X10_worth 1 := ⟨by decide +kernel, by decide⟩
theorem gr_X10_met : gAr gm_X10_met 2 := ⟨by decide +kernel, by decide⟩
theorem gr_X10_purse : gAr gm_X10_purse 2 := ⟨by decide +kernel, by decide⟩
theorem gr_X10_sign : gAr gm_X10_sign 1 := ⟨by decide +kernel, by decide⟩
theorem gr_X10_digits : gAr gm_X10_digits 1 := ⟨by decide +kernel, by decide⟩
theorem gr_X10_rank : gAr gm_X10_rank 1 := ⟨by decide +kernel, by decide⟩
theorem gr_X10_printAs : gAr gm_X10_printAs 3 := ⟨by decide +kernel, by decide⟩
theorem gr_X10_printOne : gAr gm_X10_printOne 2 := ⟨by decide +kernel, by decide⟩
theorem gr_X10_print : gAr gm_X10_print 2 := ⟨by decide +kernel, by decide⟩
theorem gr_X10_own : gAr gm_X10_own 3 := ⟨by decide +kernel, by decide⟩
theorem gr_X10_join : gAr gm_X10_join 3 := ⟨by decide +kernel, by decide⟩
theorem gr_X10_measureOf : gAr gm_X10_measureOf 3 := ⟨by decide +kernel, by decide⟩
theorem gr_X10_measure : gAr gm_X10_measure 2 := ⟨by decide +kernel, by decide⟩
theorem gr_X10_line : gAr gm_X10_line 2 := ⟨by decide +kernel, by decide⟩
theorem gr_X10_make : gAr gm_X10_make 2 := ⟨by decide +kernel, by decide⟩
theorem gr_X10_runLines : gAr gm_X10_runLines 0 := ⟨by decide +kernel, by decide⟩
theorem gr_X10_code : gAr gm_X10_code 2 := ⟨by decide +kernel, by decide⟩
theorem gr_X10_run : gAr gm_X10_run 1 := ⟨by decide +kernel, by decide⟩
theorem gr_X10_areAlike : gAr gm_X10_areAlike 4 := ⟨by decide +kernel, by decide⟩
theorem gr_X10_shared : gAr gm_X10_shared 2 := ⟨by decide +kernel, by decide⟩
theorem gr_X10_unlike : gAr gm_X10_unlike 1 := ⟨by decide +kernel, by decide⟩
theorem gr_X10_alike : gAr gm_X10_alike 3 := ⟨by decide +kernel, by decide⟩
theorem gr_X10_hasName : gAr gm_X10_hasName 3 := ⟨by decide +kernel, by decide⟩
theorem gr_X10_degreeOf : gAr gm_X10_degreeOf 3 := ⟨by decide +kernel, by decide⟩
theorem gr_X10_degree : gAr gm_X10_degree 2 := ⟨by decide +kernel, by decide⟩
theorem gr_X10_sought : gAr gm_X10_sought 6 := ⟨by decide +kernel, by decide⟩
theorem gr_X10_worthDrawn : gAr gm_X10_worthDrawn 2 := ⟨by decide +kernel, by decide⟩
theorem gr_X10_drawn : gAr gm_X10_drawn 2 := ⟨by decide +kernel, by decide⟩
theorem gr_X10_common : gAr gm_X10_common 2 := ⟨by decide +kernel, by decide⟩
theorem gr_X10_chance : gAr gm_X10_chance 5 := ⟨by decide +kernel, by decide⟩
theorem gr_X10_otherwise : gAr gm_X10_otherwise 3 := ⟨by decide +kernel, by decide⟩
theorem gr_X10_numberAt : gAr gm_X10_numberAt 2 := ⟨by decide +kernel, by decide⟩
theorem gr_X10_numbersBy : gAr gm_X10_numbersBy 5 := ⟨by decide +kernel, by decide⟩
theorem gr_X10_tells : gAr gm_X10_tells 4 := ⟨by decide +kernel, by decide⟩
theorem gr_X10_film : gAr gm_X10_film 4 := ⟨by decide +kernel, by decide⟩
theorem gr_X10_notEmpty : gAr gm_X10_notEmpty 0 := ⟨by decide +kernel, by decide⟩
theorem gr_X10_image : gAr gm_X10_image 0 := ⟨by decide +kernel, by decide⟩
theorem gr_X10_back : gAr gm_X10_back 0 := ⟨by decide +kernel, by decide⟩
theorem gr_X10_count : gAr gm_X10_count 1 := ⟨by decide +kernel, by decide⟩
theorem gr_X10_isSheet : gAr gm_X10_isSheet 1 := ⟨by decide +kernel, by decide⟩
theorem gr_X10_sheet : gAr gm_X10_sheet 3 := ⟨by decide +kernel, by decide⟩
theorem gr_X10_cell : gAr gm_X10_cell 3 := ⟨by decide +kernel, by decide⟩
theorem gr_X10_copy : gAr gm_X10_copy 5 := ⟨by decide +kernel, by decide⟩
theorem gr_J11_isValidCodePoint_9a6ad : gAr gm_J11_isValidCodePoint_9a6ad 1 := ⟨by decide +kernel, by decide⟩
theorem gr_J11_highSurrogate_5068e : gAr gm_J11_highSurrogate_5068e 1 := ⟨by decide +kernel, by decide⟩
theorem gr_J11_lowSurrogate_5068e : gAr gm_J11_lowSurrogate_5068e 1 := ⟨by decide +kernel, by decide⟩
theorem gr_J0_length_8abf5 : gAr gm_J0_length_8abf5 0 := ⟨by decide +kernel, by decide⟩
theorem gr_J0_indexOf_0f7a4 : gAr gm_J0_indexOf_0f7a4 1 := ⟨by decide +kernel, by decide⟩
theorem gr_J0_indexOf_7cf53 : gAr gm_J0_indexOf_7cf53 2 := ⟨by decide +kernel, by decide⟩
theorem gr_J0_coder_7d493 : gAr gm_J0_coder_7d493 0 := ⟨by decide +kernel, by decide⟩
theorem gr_J0_isLatin1_aae02 : gAr gm_J0_isLatin1_aae02 0 := ⟨by decide +kernel, by decide⟩
theorem gr_J0_checkBoundsBeginEnd_23922 : gAr gm_J0_checkBoundsBeginEnd_23922 3 := ⟨by decide +kernel, by decide⟩
theorem gr_J1_canEncode_9a6ad : gAr gm_J1_canEncode_9a6ad 1 := ⟨by decide +kernel, by decide⟩
theorem gr_J1_indexOf_4cfef : gAr gm_J1_indexOf_4cfef 4 := ⟨by decide +kernel, by decide⟩
theorem gr_J1_indexOfChar_4cfef : gAr gm_J1_indexOfChar_4cfef 4 := ⟨by decide +kernel, by decide⟩
theorem gr_J2_getChar_3b067 : gAr gm_J2_getChar_3b067 2 := ⟨by decide +kernel, by decide⟩
theorem gr_J2_length_9d52b : gAr gm_J2_length_9d52b 1 := ⟨by decide +kernel, by decide⟩
theorem gr_J2_indexOf_4cfef : gAr gm_J2_indexOf_4cfef 4 := ⟨by decide +kernel, by decide⟩
theorem gr_J2_indexOfChar_4cfef : gAr gm_J2_indexOfChar_4cfef 4 := ⟨by decide +kernel, by decide⟩
theorem gr_J2_indexOfCharUnsafe_4cfef : gAr gm_J2_indexOfCharUnsafe_4cfef 4 := ⟨by decide +kernel, by decide⟩
theorem gr_J2_indexOfSupplementary_4cfef : gAr gm_J2_indexOfSupplementary_4cfef 4 := ⟨by decide +kernel, by decide⟩
theorem gr_J2_checkBoundsBeginEnd_d044e : gAr gm_J2_checkBoundsBeginEnd_d044e 3 := ⟨by decide +kernel, by decide⟩
theorem gr_J3_checkFromToIndex_8c36e : gAr gm_J3_checkFromToIndex_8c36e 4 := ⟨by decide +kernel, by decide⟩
theorem gur_self {I : Nat → Nat → Int} {k : Nat} {f : Nat → Int} : gur I k f k = f := by
  funext b
  simp [gur]
theorem gvr_self {J : Nat → Nat → Int64} {k : Nat} {f : Nat → Int64} : gvr J k f k = f := by
  funext b
  simp [gvr]
section GLB
variable {l : Launch} {Γ : gC} {mt : gY} {B : gB} {pc : Nat} {ls : List (Nat × Value)} {st : List Value} {μ : gM} {S : gS} {I : Nat → Nat → Int} {J : Nat → Nat → Int64} {Q : Option Value → gM → Prop} {a b : Int} {x y : Int64} {n n0 n1 sp dp : Int} {k1 k2 l0 l1 idx : Nat} {own : String}
theorem gg_mmax (ho : mt.1.cls = own) (hlk : Cond.methodLink own idx Lib.Math.max.name ∈ WT) (d : decode mt.2.1 pc = .ok (.invokestatic idx, 3)) (hr : -2147483648 ≤ a ∧ a ≤ 2147483647 ∧ -2147483648 ≤ b ∧ b ≤ 2147483647) (hcat : (st.map fun v => v.category).sum ≤ 8) (hd : 1 ≤ B.1) (hu : B.2.2.2.1 ≤ B.2.1 ∧ B.2.2.2.2 ≤ B.2.2.1) (kk : gG l Γ mt B (pc + 3) ls (.int (iv (max a b)) :: st) μ Q) : gG l Γ mt B pc ls (.int (iv b) :: .int (iv a) :: st) μ Q := fun p e R s m args below meth c Zf H locs lr X hR hW hS hl => by
  have hq : (if iv a < iv b then iv b else iv a) = iv (max a b) := by
    by_cases h : a < b
    · rw [if_pos ((iv_lt (a := a) (b := b) (by omega)).mpr h)]
      congr 1
      omega
    · rw [if_neg (fun z => h ((iv_lt (a := a) (b := b) (by omega)).mp z))]
      congr 1
      omega
  have z := kk p e R s m args below meth c Zf H locs lr X hR hW hS hl
  rw [← hq] at z
  obtain ⟨h1, h2, h3, h4⟩ := X.2.2.2.2.2.2.2
  exact va_mmax (own := own) X.1 X.2.1 (by rw [X.2.2.1]; exact hl.1.symm) (by rw [← ho]; exact X.2.2.2.1) (X.2.2.2.2.1 _ hlk) (X.2.2.2.2.1 _ gmmax.1) (X.2.2.2.2.1 _ gmmax.2.1) (X.2.2.2.2.1 _ gmmax.2.2) (by omega) (by omega) (by omega) (by omega) d z
theorem gg_mmin (ho : mt.1.cls = own) (hlk : Cond.methodLink own idx Lib.Math.min.name ∈ WT) (d : decode mt.2.1 pc = .ok (.invokestatic idx, 3)) (hr : -2147483648 ≤ a ∧ a ≤ 2147483647 ∧ -2147483648 ≤ b ∧ b ≤ 2147483647) (hcat : (st.map fun v => v.category).sum ≤ 8) (hd : 1 ≤ B.1) (hu : B.2.2.2.1 ≤ B.2.1 ∧ B.2.2.2.2 ≤ B.2.2.1) (kk : gG l Γ mt B (pc + 3) ls (.int (iv (min a b)) :: st) μ Q) : gG l Γ mt B pc ls (.int (iv b) :: .int (iv a) :: st) μ Q := fun p e R s m args below meth c Zf H locs lr X hR hW hS hl => by
  have hq : (if iv b < iv a then iv b else iv a) = iv (min a b) := by
    by_cases h : b < a
    · rw [if_pos ((iv_lt (a := b) (b := a) (by omega)).mpr h)]
      congr 1
      omega
    · rw [if_neg (fun z => h ((iv_lt (a := b) (b := a) (by omega)).mp z))]
      congr 1
      omega
  have z := kk p e R s m args below meth c Zf H locs lr X hR hW hS hl
  rw [← hq] at z
  obtain ⟨h1, h2, h3, h4⟩ := X.2.2.2.2.2.2.2
  exact va_mmin (own := own) X.1 X.2.1 (by rw [X.2.2.1]; exact hl.1.symm) (by rw [← ho]; exact X.2.2.2.1) (X.2.2.2.2.1 _ hlk) (X.2.2.2.2.1 _ gmmin.1) (X.2.2.2.2.1 _ gmmin.2.1) (X.2.2.2.2.1 _ gmmin.2.2) (by omega) (by omega) (by omega) (by omega) d z
theorem gg_mabs (ho : mt.1.cls = own) (hlk : Cond.methodLink own idx Lib.MathLoose.abs_long.x ∈ WT) (d : decode mt.2.1 pc = .ok (.invokestatic idx, 3)) (hcat : (st.map fun v => v.category).sum ≤ 8) (hd : 1 ≤ B.1) (hu : B.2.2.2.1 ≤ B.2.1 ∧ B.2.2.2.2 ≤ B.2.2.1) (kk : gG l Γ mt B (pc + 3) ls (.long (if 0 < x then x else -x) :: st) μ Q) : gG l Γ mt B pc ls (.long x :: st) μ Q := fun p e R s m args below meth c Zf H locs lr X hR hW hS hl => by
  obtain ⟨h1, h2, h3, h4⟩ := X.2.2.2.2.2.2.2
  exact va_mabs_long (own := own) X.1 X.2.1 (by rw [X.2.2.1]; exact hl.1.symm) (by rw [← ho]; exact X.2.2.2.1) (X.2.2.2.2.1 _ hlk) (X.2.2.2.2.1 _ gmabs.1) (X.2.2.2.2.1 _ gmabs.2.1) (X.2.2.2.2.1 _ gmabs.2.2) (by omega) (by omega) (by omega) (by omega) d (kk p e R s m args below meth c Zf H locs lr X hR hW hS hl)
theorem gg_copyi (ho : mt.1.cls = own) (hlk : Cond.methodLink own idx arraycopyName ∈ WT) (d : decode mt.2.1 pc = .ok (.invokestatic idx, 3)) (hs0 : S.2.1 k1 = (100, l0)) (hk0 : k1 < S.1) (hs1 : S.2.1 k2 = (100, l1)) (hk1 : k2 < S.1) (h : 0 ≤ sp ∧ 0 ≤ dp ∧ 0 ≤ n ∧ sp + n ≤ l0 ∧ dp + n ≤ l1) (hb : l0 < 2147483648 ∧ l1 < 2147483648) (hcat : (st.map fun v => v.category).sum ≤ 8) (hd : 1 ≤ B.1) (hu : B.2.2.2.1 ≤ B.2.1 ∧ B.2.2.2.2 ≤ B.2.2.1) (kk : gG l Γ mt B (pc + 3) ls st (S, gur I k2 (va_cpy (I k1) (I k2) sp.toNat dp.toNat n.toNat), J) Q) : gG l Γ mt B pc ls (.int (iv n) :: .int (iv dp) :: .ref (gad S k2) :: .int (iv sp) :: .ref (gad S k1) :: st) (S, I, J) Q := fun p e R s m args below meth c Zf H locs lr X hR hW hS hl => by
  obtain ⟨h1, h2, h3, h4⟩ := X.2.2.2.2.2.2.2
  have hwd : nativeFrameWords "java/lang/System" "arraycopy" 5 + 11 ≤ 20 := by decide
  have hlo : (st.map fun v => v.category).sum + (nativeFrameWords "java/lang/System" "arraycopy" 5 + 11) ≤ R.locals := by omega
  have hc : ∀ (u v w : Nat), va_cpy (fun j => iv (I k1 j)) (fun j => iv (I k2 j)) u v w = fun j => iv (va_cpy (I k1) (I k2) u v w j) := by
    intro u v w
    funext j
    unfold va_cpy
    split <;> rfl
  have hset : (gWl Γ (S, I, J)).set k2 (gad S k2, .inl (Γ.2.2.1 0, l1, .inl (fun j => iv (va_cpy (I k1) (I k2) sp.toNat dp.toNat n.toNat j)))) = gWl Γ (S, gur I k2 (va_cpy (I k1) (I k2) sp.toNat dp.toNat n.toNat), J) := by
    refine Eq.trans ?_ (gWl_set (I' := gur I k2 (va_cpy (I k1) (I k2) sp.toNat dp.toNat n.toNat)) (J' := J) (k := k2) (fun b hb => gE_other (gur_other hb) rfl))
    rw [gE_int (t := 0) hs1 (Or.inl rfl)]
    simp only [gur_self]
  refine va_copyi (own := own) X.1 X.2.1 (by rw [X.2.2.1]; exact hl.1.symm) (by rw [← ho]; exact X.2.2.2.1) (X.2.2.2.2.1 _ hlk) (X.2.2.2.2.1 _ gacw.1) (X.2.2.2.2.1 _ gacw.2.1) (X.2.2.2.2.1 _ gacw.2.2) hW.1 hW.2.1 hW.2.2 hS k1 k2 0 0 ((gWl_at (μ := (S, I, J)) hk0).trans (by rw [gE_int (t := 0) hs0 (Or.inl rfl)])) ((gWl_at (μ := (S, I, J)) hk1).trans (by rw [gE_int (t := 0) hs1 (Or.inl rfl)])) rfl rfl rfl (by intro z; have := (iv_lt (a := sp) (b := 0) (by omega)).mp z; omega) (by intro z; have := (iv_lt (a := dp) (b := 0) (by omega)).mp z; omega) (by intro z; have := (iv_lt (a := n) (b := 0) (by omega)).mp z; omega) (by rw [iv_cl (by omega), iv_cl (by omega)]; omega) (by rw [iv_cl (by omega), iv_cl (by omega)]; omega) (fun _ _ => rfl) (by omega) hlo d (fun H1 locs1 hP1 hD1 hS1 => ?_)
  rw [iv_cl (by omega), iv_cl (by omega), iv_cl (by omega)] at hP1 hD1
  rw [hc] at hP1 hD1
  rw [hset] at hP1 hD1
  exact kk p e R s m args below meth c Zf H1 locs1 lr X hR ⟨hW.1, hP1, hD1⟩ hS1 hl
theorem gg_copyl (ho : mt.1.cls = own) (hlk : Cond.methodLink own idx arraycopyName ∈ WT) (d : decode mt.2.1 pc = .ok (.invokestatic idx, 3)) (hs0 : S.2.1 k1 = (101, l0)) (hk0 : k1 < S.1) (hs1 : S.2.1 k2 = (101, l1)) (hk1 : k2 < S.1) (h : 0 ≤ sp ∧ 0 ≤ dp ∧ 0 ≤ n ∧ sp + n ≤ l0 ∧ dp + n ≤ l1) (hb : l0 < 2147483648 ∧ l1 < 2147483648) (hcat : (st.map fun v => v.category).sum ≤ 8) (hd : 1 ≤ B.1) (hu : B.2.2.2.1 ≤ B.2.1 ∧ B.2.2.2.2 ≤ B.2.2.1) (kk : gG l Γ mt B (pc + 3) ls st (S, I, gvr J k2 (va_cpy (J k1) (J k2) sp.toNat dp.toNat n.toNat)) Q) : gG l Γ mt B pc ls (.int (iv n) :: .int (iv dp) :: .ref (gad S k2) :: .int (iv sp) :: .ref (gad S k1) :: st) (S, I, J) Q := fun p e R s m args below meth c Zf H locs lr X hR hW hS hl => by
  obtain ⟨h1, h2, h3, h4⟩ := X.2.2.2.2.2.2.2
  have hwd : nativeFrameWords "java/lang/System" "arraycopy" 5 + 11 ≤ 20 := by decide
  have hlo : (st.map fun v => v.category).sum + (nativeFrameWords "java/lang/System" "arraycopy" 5 + 11) ≤ R.locals := by omega
  have hset : (gWl Γ (S, I, J)).set k2 (gad S k2, .inl (Γ.2.2.1 1, l1, .inr (.inl (va_cpy (J k1) (J k2) sp.toNat dp.toNat n.toNat)))) = gWl Γ (S, I, gvr J k2 (va_cpy (J k1) (J k2) sp.toNat dp.toNat n.toNat)) := by
    refine Eq.trans ?_ (gWl_set (I' := I) (J' := gvr J k2 (va_cpy (J k1) (J k2) sp.toNat dp.toNat n.toNat)) (k := k2) (fun b hb => gE_other rfl (gvr_other hb)))
    rw [gE_long hs1]
    simp only [gvr_self]
  refine va_copyl (own := own) X.1 X.2.1 (by rw [X.2.2.1]; exact hl.1.symm) (by rw [← ho]; exact X.2.2.2.1) (X.2.2.2.2.1 _ hlk) (X.2.2.2.2.1 _ gacw.1) (X.2.2.2.2.1 _ gacw.2.1) (X.2.2.2.2.1 _ gacw.2.2) hW.1 hW.2.1 hW.2.2 hS k1 k2 1 1 ((gWl_at (μ := (S, I, J)) hk0).trans (by rw [gE_long hs0])) ((gWl_at (μ := (S, I, J)) hk1).trans (by rw [gE_long hs1])) rfl rfl rfl (by intro z; have := (iv_lt (a := sp) (b := 0) (by omega)).mp z; omega) (by intro z; have := (iv_lt (a := dp) (b := 0) (by omega)).mp z; omega) (by intro z; have := (iv_lt (a := n) (b := 0) (by omega)).mp z; omega) (by rw [iv_cl (by omega), iv_cl (by omega)]; omega) (by rw [iv_cl (by omega), iv_cl (by omega)]; omega) (fun _ _ => rfl) (by omega) hlo d (fun H1 locs1 hP1 hD1 hS1 => ?_)
  rw [iv_cl (by omega), iv_cl (by omega), iv_cl (by omega)] at hP1 hD1
  rw [hset] at hP1 hD1
  exact kk p e R s m args below meth c Zf H1 locs1 lr X hR ⟨hW.1, hP1, hD1⟩ hS1 hl
end GLB

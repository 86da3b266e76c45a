/-! ===== what the tables say of each instruction (own text; tables printed by wip/whole/gencheck.py) ===== -/
/-- name, bytes, locals, result, the class's number, parameters, kind (0 static, 1 virtual, 2 a constructor) -/
abbrev j_I : Type := MethodName × ByteArray × Nat × Option FieldType × Nat × Nat × Nat
def j_infs : List j_I := [(yX0_init, cX0_init, 1, none, 0, 0, 2), (yX0_has, cX0_has, 2, (some .boolean), 0, 1, 1), (yX0_kindOf, cX0_kindOf, 2, (some .int), 0, 1, 1), (yX0_add, cX0_add, 2, (some .int), 0, 1, 1), (yX0_isUnder, cX0_isUnder, 4, (some .boolean), 0, 2, 0), (yX0_ranAt, cX0_ranAt, 2, (some .int), 0, 1, 1), (yX0_perform, cX0_perform, 4, (some .int), 0, 3, 1), (yX0_call, cX0_call, 4, (some .int), 0, 3, 1), (yX0_from, cX0_from, 7, (some .int), 0, 4, 1), (yX0_run, cX0_run, 4, (some .int), 0, 3, 1), (yX1_init, cX1_init, 1, none, 1, 0, 2), (yX1_note, cX1_note, 5, none, 1, 4, 1), (yX1_dropOldest, cX1_dropOldest, 1, none, 1, 0, 1), (yX1_takeBack, cX1_takeBack, 2, (some .int), 1, 1, 1), (yX1_doAgain, cX1_doAgain, 2, (some .int), 1, 1, 1), (yX2_init, cX2_init, 1, none, 2, 0, 2), (yX2_has, cX2_has, 2, (some .boolean), 2, 1, 1), (yX2_welcome, cX2_welcome, 3, none, 2, 2, 1), (yX2_allows, cX2_allows, 4, (some .boolean), 2, 3, 1), (yX2_told, cX2_told, 3, (some .int), 2, 2, 1), (yX2_tell, cX2_tell, 4, none, 2, 3, 1), (yX3_init, cX3_init, 1, none, 3, 0, 2), (yX3_lay, cX3_lay, 2, none, 3, 1, 1), (yX3_join, cX3_join, 2, none, 3, 1, 1), (yX3_weigh, cX3_weigh, 3, none, 3, 0, 1), (yX3_charge, cX3_charge, 2, none, 3, 1, 1), (yX3_cost, cX3_cost, 2, (some .int), 3, 1, 1), (yX3_besides, cX3_besides, 2, (some .int), 3, 1, 1), (yX3_partAmongAlike, cX3_partAmongAlike, 4, (some .int), 3, 1, 1), (yX3_partOfTwo, cX3_partOfTwo, 3, (some .int), 3, 1, 1), (yX3_givenBack, cX3_givenBack, 2, (some .int), 3, 1, 1), (yX3_intoChest, cX3_intoChest, 1, (some .int), 3, 0, 1), (yX4_init, cX4_init, 1, none, 4, 0, 2), (yX4_add, cX4_add, 2, (some .int), 4, 1, 1), (yX4_enact, cX4_enact, 1, (some .int), 4, 0, 1), (yX4_readLines, cX4_readLines, 2, none, 4, 0, 1), (yX4_readLine, cX4_readLine, 1, none, 4, 0, 1), (yX4_readEither, cX4_readEither, 3, none, 4, 1, 1), (yX4_readBoth, cX4_readBoth, 3, none, 4, 1, 1), (yX4_readCompared, cX4_readCompared, 3, none, 4, 1, 1), (yX4_readSum, cX4_readSum, 4, none, 4, 1, 1), (yX4_takesSumSign, cX4_takesSumSign, 1, (some .int), 4, 0, 1), (yX4_readProduct, cX4_readProduct, 4, none, 4, 1, 1), (yX4_takesProductSign, cX4_takesProductSign, 1, (some .int), 4, 0, 1), (yX4_readOperand, cX4_readOperand, 4, none, 4, 1, 1), (yX4_readNumber, cX4_readNumber, 3, none, 4, 0, 1), (yX4_letterHere, cX4_letterHere, 1, (some .int), 4, 0, 1), (yX4_isDigit, cX4_isDigit, 1, (some .boolean), 4, 1, 0), (yX4_nameOf, cX4_nameOf, 1, (some .int), 4, 1, 0), (yX4_takes, cX4_takes, 2, (some .boolean), 4, 1, 1), (yX4_fail, cX4_fail, 1, none, 4, 0, 1), (yX4_write, cX4_write, 2, none, 4, 1, 1), (yX4_gift, cX4_gift, 5, (some .int), 4, 3, 1), (yX4_shareOf, cX4_shareOf, 2, (some .int), 4, 2, 0), (yX4_workOut, cX4_workOut, 7, (some .int), 4, 3, 1), (yX4_apply, cX4_apply, 4, none, 4, 1, 1), (yX4_push, cX4_push, 2, none, 4, 1, 1), (yX4_pop, cX4_pop, 1, (some .int), 4, 0, 1), (yX4_valueOf, cX4_valueOf, 4, (some .int), 4, 4, 0), (yX4_joined, cX4_joined, 3, (some .int), 4, 3, 0), (yX4_truth, cX4_truth, 1, (some .int), 4, 1, 0), (yX5_init, cX5_init, 3, none, 5, 2, 2), (yX5_has, cX5_has, 2, (some .boolean), 5, 1, 1), (yX5_add, cX5_add, 2, (some .int), 5, 1, 1), (yX5_enjoy, cX5_enjoy, 6, (some .int), 5, 3, 1), (yX5_orderAll, cX5_orderAll, 3, (some .int), 5, 0, 1), (yX5_playOut, cX5_playOut, 9, (some .int), 5, 2, 1), (yX5_priceOf, cX5_priceOf, 2, (some .int), 5, 1, 1), (yX5_worth, cX5_worth, 5, (some .int), 5, 3, 1), (yX6_init, cX6_init, 3, none, 6, 2, 2), (yX6_costBy, cX6_costBy, 3, (some .int), 6, 2, 1), (yX6_search, cX6_search, 7, none, 6, 1, 1), (yX6_wouldChange, cX6_wouldChange, 7, (some .boolean), 6, 1, 1), (yX6_firstRestless, cX6_firstRestless, 2, (some .int), 6, 0, 1), (yX6_sumsOf, cX6_sumsOf, 2, (some .int), 6, 1, 1), (yX6_ways, cX6_ways, 4, (some .long), 6, 0, 1), (yX6_fewWays, cX6_fewWays, 1, (some .boolean), 6, 0, 1), (yX6_goThroughWays, cX6_goThroughWays, 4, (some .int), 6, 0, 1), (yX6_layWay, cX6_layWay, 5, none, 6, 1, 1), (yX6_takeTurns, cX6_takeTurns, 6, (some .int), 6, 0, 1), (yX6_settle, cX6_settle, 8, none, 6, 2, 1), (yX6_victimOf, cX6_victimOf, 4, (some .int), 6, 2, 1), (yX6_allWeights, cX6_allWeights, 4, (some .long), 6, 0, 1), (yX6_weighedCost, cX6_weighedCost, 8, (some .long), 6, 2, 1), (yX6_layByChance, cX6_layByChance, 7, (some .long), 6, 2, 1), (yX6_sumOfLeastMean, cX6_sumOfLeastMean, 9, (some .int), 6, 1, 1), (yX7_init, cX7_init, 3, none, 7, 2, 2), (yX7_pass, cX7_pass, 4, (some .int), 7, 0, 1), (yX7_draw, cX7_draw, 8, none, 7, 3, 1), (yX7_firstWrong, cX7_firstWrong, 4, (some .int), 7, 2, 1), (yX7_rulesThatFit, cX7_rulesThatFit, 4, (some .int), 7, 1, 1), (yX7_weighRules, cX7_weighRules, 3, none, 7, 0, 1), (yX7_greatestCost, cX7_greatestCost, 3, (some .int), 7, 0, 1), (yX8_init, cX8_init, 1, none, 8, 0, 2), (yX8_take, cX8_take, 2, none, 8, 1, 1), (yX8_layBack, cX8_layBack, 2, none, 8, 1, 1), (yX9_init, cX9_init, 1, none, 9, 0, 2), (yX9_holdsNothing, cX9_holdsNothing, 1, (some .boolean), 9, 0, 1), (yX9_isRow, cX9_isRow, 1, (some .boolean), 9, 0, 1), (yX9_isRowOf, cX9_isRowOf, 2, (some .boolean), 9, 1, 1), (yX9_holdHat, cX9_holdHat, 2, none, 9, 1, 1), (yX9_holdRow, cX9_holdRow, 3, none, 9, 2, 1), (yX9_hasPlaces, cX9_hasPlaces, 3, (some .boolean), 9, 2, 1), (yX9_refusalAt, cX9_refusalAt, 2, (some .int), 9, 1, 1), (yX9_get, cX9_get, 2, (some .long), 9, 1, 1), (yX9_set, cX9_set, 4, none, 9, 2, 1), (yX9_lowestBits, cX9_lowestBits, 3, (some .long), 9, 1, 1), (yX10_init, cX10_init, 2, none, 10, 0, 2), (yX10_guest, cX10_guest, 2, (some .int), 10, 1, 1), (yX10_guests, cX10_guests, 6, (some .int), 10, 3, 1), (yX10_mend, cX10_mend, 5, (some .int), 10, 3, 1), (yX10_of, cX10_of, 3, (some .int), 10, 2, 1), (yX10_think, cX10_think, 4, (some .int), 10, 2, 1), (yX10_feed, cX10_feed, 2, (some .int), 10, 1, 1), (yX10_law, cX10_law, 1, (some .int), 10, 0, 1), (yX10_putIn, cX10_putIn, 3, (some .int), 10, 2, 1), (yX10_mean, cX10_mean, 4, (some .long), 10, 3, 1), (yX10_bestMean, cX10_bestMean, 2, (some .int), 10, 1, 1), (yX10_rest, cX10_rest, 3, (some .int), 10, 1, 1), (yX10_rests, cX10_rests, 3, (some .int), 10, 1, 1), (yX10_turns, cX10_turns, 3, (some .int), 10, 1, 1), (yX10_agree, cX10_agree, 5, (some .int), 10, 2, 1), (yX10_dish, cX10_dish, 2, (some .int), 10, 1, 1), (yX10_joy, cX10_joy, 5, (some .int), 10, 2, 1), (yX10_ordered, cX10_ordered, 4, (some .int), 10, 2, 1), (yX10_thought, cX10_thought, 6, (some .int), 10, 3, 1), (yX10_given, cX10_given, 4, (some .int), 10, 1, 1), (yX10_stranger, cX10_stranger, 9, (some .long), 10, 3, 1), (yX10_night, cX10_night, 1, (some .int), 10, 0, 1), (yX10_drawn, cX10_drawn, 5, (some .int), 10, 4, 1), (yX10_judge, cX10_judge, 3, (some .int), 10, 1, 1), (yX10_fits, cX10_fits, 3, (some .int), 10, 1, 1), (yX10_fair, cX10_fair, 2, (some .int), 10, 1, 1), (yX10_image, cX10_image, 1, (some .int), 10, 0, 1), (yX10_back, cX10_back, 1, (some .int), 10, 0, 1), (yX10_undo, cX10_undo, 1, (some .int), 10, 0, 1), (yX10_redo, cX10_redo, 1, (some .int), 10, 0, 1), (yX10_body, cX10_body, 2, (some .int), 10, 1, 1), (yX10_act, cX10_act, 4, (some .int), 10, 3, 1), (yX10_trace, cX10_trace, 2, (some .int), 10, 1, 1), (yX10_keep, cX10_keep, 3, (some .int), 10, 2, 1), (yX10_row, cX10_row, 4, (some .int), 10, 3, 1), (yX10_put, cX10_put, 6, (some .int), 10, 3, 1), (yX10_element, cX10_element, 3, (some .long), 10, 2, 1), (yX10_shift, cX10_shift, 8, (some .int), 10, 5, 1), (yX10_taken, cX10_taken, 5, (some .int), 10, 2, 1), (yX10_count, cX10_count, 2, (some .int), 10, 1, 1), (yX10_within, cX10_within, 3, (some .boolean), 10, 3, 0), (yX10_isShelf, cX10_isShelf, 1, (some .boolean), 10, 1, 0), (yX10_comesFrom, cX10_comesFrom, 6, (some .boolean), 10, 2, 1), (yX10_ofOne, cX10_ofOne, 3, (some .int), 10, 2, 1), (yX10_ofTheTable, cX10_ofTheTable, 2, (some .int), 10, 1, 1), (yX10_givenBy, cX10_givenBy, 3, (some .int), 10, 1, 1), (yX10_refusalOfTold, cX10_refusalOfTold, 2, (some .int), 10, 1, 1), (yX10_fraction, cX10_fraction, 12, (some .long), 10, 3, 0), (yX11_within, cX11_within, 6, (some .boolean), 11, 3, 0), (yX11_init, cX11_init, 2, none, 11, 0, 2), (yX11_becomes, cX11_becomes, 5, (some .int), 11, 2, 1), (yX11_undo, cX11_undo, 1, (some .int), 11, 0, 1), (yX11_redo, cX11_redo, 1, (some .int), 11, 0, 1), (yX11_isGuest, cX11_isGuest, 2, (some .boolean), 11, 1, 1), (yX11_guest, cX11_guest, 2, (some .int), 11, 1, 1), (yX11_guests, cX11_guests, 7, (some .int), 11, 3, 1), (yX11_mend, cX11_mend, 4, (some .int), 11, 3, 1), (yX11_ofGuest, cX11_ofGuest, 3, (some .int), 11, 2, 1), (yX11_of, cX11_of, 5, (some .int), 11, 2, 1), (yX11_think, cX11_think, 4, (some .int), 11, 2, 1), (yX11_laysOut, cX11_laysOut, 2, none, 11, 0, 1), (yX11_leastBut, cX11_leastBut, 4, (some .int), 11, 1, 1), (yX11_alikePay, cX11_alikePay, 6, none, 11, 1, 1), (yX11_twoPay, cX11_twoPay, 4, none, 11, 1, 1), (yX11_givesBack, cX11_givesBack, 4, none, 11, 1, 1), (yX11_nightBy, cX11_nightBy, 7, none, 11, 2, 1), (yX11_nightAsIs, cX11_nightAsIs, 1, none, 11, 0, 1), (yX11_costIn, cX11_costIn, 2, (some .int), 11, 1, 1), (yX11_costNow, cX11_costNow, 2, (some .int), 11, 1, 1), (yX11_costBy, cX11_costBy, 5, (some .int), 11, 2, 1), (yX11_leastCost, cX11_leastCost, 5, (some .int), 11, 1, 1), (yX11_putIn, cX11_putIn, 4, (some .int), 11, 2, 1), (yX11_common, cX11_common, 10, (some .long), 11, 2, 0), (yX11_partOf, cX11_partOf, 7, (some .long), 11, 3, 0), (yX11_meanOf, cX11_meanOf, 10, (some .long), 11, 2, 1), (yX11_wholeOf, cX11_wholeOf, 4, (some .long), 11, 0, 1), (yX11_mean, cX11_mean, 4, (some .long), 11, 3, 1), (yX11_bestMean, cX11_bestMean, 8, (some .int), 11, 1, 1), (yX11_wouldChange, cX11_wouldChange, 2, (some .boolean), 11, 1, 1), (yX11_firstWho, cX11_firstWho, 2, (some .int), 11, 0, 1), (yX11_rest, cX11_rest, 3, (some .int), 11, 1, 1), (yX11_sumsOf, cX11_sumsOf, 2, (some .int), 11, 1, 1), (yX11_rests, cX11_rests, 8, (some .int), 11, 1, 1), (yX11_turns, cX11_turns, 6, (some .int), 11, 1, 1), (yX11_agree, cX11_agree, 11, (some .int), 11, 2, 1), (yX11_dish, cX11_dish, 2, (some .int), 11, 1, 1), (yX11_joy, cX11_joy, 5, (some .int), 11, 2, 1), (yX11_joyOf, cX11_joyOf, 3, (some .int), 11, 2, 1), (yX11_billFrom, cX11_billFrom, 8, (some .int), 11, 2, 1), (yX11_ordered, cX11_ordered, 4, (some .int), 11, 2, 1), (yX11_feed, cX11_feed, 2, (some .int), 11, 1, 1), (yX11_byteAt, cX11_byteAt, 1, (some .int), 11, 0, 1), (yX11_wrong, cX11_wrong, 1, (some .int), 11, 0, 1), (yX11_takes, cX11_takes, 2, (some .boolean), 11, 1, 1), (yX11_either, cX11_either, 3, (some .int), 11, 0, 1), (yX11_both, cX11_both, 3, (some .int), 11, 0, 1), (yX11_compared, cX11_compared, 4, (some .int), 11, 0, 1), (yX11_sums, cX11_sums, 4, (some .int), 11, 0, 1), (yX11_product, cX11_product, 4, (some .int), 11, 0, 1), (yX11_nameOf, cX11_nameOf, 1, (some .int), 11, 1, 0), (yX11_one, cX11_one, 5, (some .int), 11, 0, 1), (yX11_workOut, cX11_workOut, 8, (some .int), 11, 2, 1), (yX11_law, cX11_law, 4, (some .int), 11, 0, 1), (yX11_wouldGive, cX11_wouldGive, 4, (some .int), 11, 2, 1), (yX11_thought, cX11_thought, 7, (some .int), 11, 3, 1), (yX11_givenBy, cX11_givenBy, 2, (some .int), 11, 1, 1), (yX11_given, cX11_given, 4, (some .int), 11, 1, 1), (yX11_stranger, cX11_stranger, 7, (some .long), 11, 3, 1), (yX11_night, cX11_night, 3, (some .int), 11, 0, 1), (yX11_drawn, cX11_drawn, 10, (some .int), 11, 4, 1), (yX11_hatIs, cX11_hatIs, 2, (some .int), 11, 1, 1), (yX11_firstFalse, cX11_firstFalse, 4, (some .int), 11, 2, 1), (yX11_judge, cX11_judge, 2, (some .int), 11, 1, 1), (yX11_fits, cX11_fits, 4, (some .int), 11, 1, 1), (yX11_fair, cX11_fair, 7, (some .int), 11, 1, 1), (yX11_image, cX11_image, 2, (some .int), 11, 0, 1), (yX11_back, cX11_back, 2, (some .int), 11, 0, 1), (yX11_isBody, cX11_isBody, 2, (some .boolean), 11, 1, 1), (yX11_kindOf, cX11_kindOf, 2, (some .int), 11, 1, 1), (yX11_body, cX11_body, 2, (some .int), 11, 1, 1), (yX11_above, cX11_above, 1, (some .int), 11, 1, 0), (yX11_begins, cX11_begins, 2, none, 11, 1, 1), (yX11_givesAs, cX11_givesAs, 3, (some .int), 11, 2, 1), (yX11_owesAs, cX11_owesAs, 4, (some .int), 11, 2, 1), (yX11_lacksAs, cX11_lacksAs, 4, (some .int), 11, 2, 1), (yX11_tellsAs, cX11_tellsAs, 4, (some .int), 11, 2, 1), (yX11_act, cX11_act, 4, (some .int), 11, 3, 1), (yX11_trace, cX11_trace, 2, (some .int), 11, 1, 1), (yX11_isShelf, cX11_isShelf, 1, (some .boolean), 11, 1, 0), (yX11_keep, cX11_keep, 3, (some .int), 11, 2, 1), (yX11_row, cX11_row, 5, (some .int), 11, 3, 1), (yX11_refusal, cX11_refusal, 3, (some .int), 11, 2, 1), (yX11_asSort, cX11_asSort, 3, (some .long), 11, 2, 0), (yX11_put, cX11_put, 6, (some .int), 11, 3, 1), (yX11_element, cX11_element, 3, (some .long), 11, 2, 1), (yX11_shift, cX11_shift, 7, (some .int), 11, 5, 1), (yX11_taken, cX11_taken, 4, (some .int), 11, 2, 1), (yX11_count, cX11_count, 2, (some .int), 11, 1, 1), (yJ7_fill_d0a16, cJ7_fill_d0a16, 5, none, 12, 2, 0), (yJ7_fill_53178, cJ7_fill_53178, 4, none, 12, 2, 0)]
def j_in_ : List j_I → Nat → j_I
  | [], _ => (⟨"", "", ""⟩, ⟨#[]⟩, 0, none, 99, 0, 0)
  | x :: _, 0 => x
  | _ :: r, k + 1 => j_in_ r k
def j_info (i : Nat) : j_I := j_in_ j_infs i
def j_cn : Nat → String
  | 0 => RX0
  | 1 => RX1
  | 2 => RX2
  | 3 => RX3
  | 4 => RX4
  | 5 => RX5
  | 6 => RX6
  | 7 => RX7
  | 8 => RX8
  | 9 => RX9
  | 10 => RX10
  | 11 => RX11
  | _ => RJ7
def j_T : Nat → u_T
  | 0 => TX0
  | 1 => TX1
  | 2 => TX2
  | 3 => TX3
  | 4 => TX4
  | 5 => TX5
  | 6 => TX6
  | 7 => TX7
  | 8 => TX8
  | 9 => TX9
  | 10 => TX10
  | _ => TX11
def j_ty : Nat → Nat → FieldType
  | 0 => tyX0
  | 1 => tyX1
  | 2 => tyX2
  | 3 => tyX3
  | 4 => tyX4
  | 5 => tyX5
  | 6 => tyX6
  | 7 => tyX7
  | 8 => tyX8
  | 9 => tyX9
  | 10 => tyX10
  | _ => tyX11
def j_Nf : Nat → Nat
  | 0 => 5
  | 1 => 6
  | 2 => 12
  | 3 => 11
  | 4 => 11
  | 5 => 6
  | 6 => 6
  | 7 => 6
  | 8 => 6
  | 9 => 5
  | 10 => 10
  | _ => 47
def j_FL : List (Nat × Nat × Nat × Nat) := [(0, 11, 0, 0), (0, 15, 0, 1), (0, 18, 0, 2), (0, 29, 0, 3), (0, 32, 0, 4), (1, 11, 1, 0), (1, 15, 1, 1), (1, 18, 1, 2), (1, 21, 1, 3), (1, 24, 1, 4), (1, 31, 1, 5), (2, 9, 2, 0), (2, 15, 2, 1), (2, 18, 2, 2), (2, 21, 2, 3), (2, 24, 2, 4), (2, 27, 2, 5), (2, 30, 2, 7), (2, 34, 2, 8), (2, 37, 2, 9), (2, 40, 2, 6), (3, 9, 3, 0), (3, 15, 2, 6), (3, 21, 3, 1), (3, 22, 2, 8), (3, 25, 3, 2), (3, 26, 2, 7), (3, 29, 3, 3), (3, 30, 2, 1), (3, 42, 3, 4), (3, 45, 3, 7), (3, 48, 3, 8), (3, 51, 3, 9), (3, 54, 3, 10), (3, 67, 3, 5), (3, 70, 3, 6), (4, 11, 4, 0), (4, 15, 4, 1), (4, 18, 4, 2), (4, 21, 4, 3), (4, 24, 4, 4), (4, 31, 4, 6), (4, 34, 4, 7), (4, 43, 4, 8), (4, 46, 4, 9), (4, 50, 4, 5), (4, 110, 2, 6), (4, 119, 2, 0), (4, 130, 4, 10), (4, 154, 2, 8), (5, 11, 5, 2), (5, 15, 5, 3), (5, 18, 5, 4), (5, 21, 5, 0), (5, 25, 5, 1), (5, 29, 5, 5), (5, 39, 2, 6), (6, 9, 6, 2), (6, 15, 6, 0), (6, 19, 6, 1), (6, 23, 3, 0), (6, 35, 6, 3), (6, 40, 6, 4), (6, 46, 2, 9), (6, 55, 3, 1), (6, 62, 2, 0), (6, 65, 2, 6), (6, 99, 6, 5), (6, 111, 2, 3), (6, 114, 2, 1), (6, 117, 2, 2), (7, 9, 7, 0), (7, 15, 7, 1), (7, 25, 2, 6), (7, 35, 2, 5), (7, 39, 2, 10), (7, 46, 2, 11), (7, 49, 7, 2), (7, 52, 7, 3), (7, 56, 2, 2), (7, 59, 3, 0), (7, 62, 2, 3), (7, 65, 2, 1), (7, 74, 3, 2), (7, 77, 9, 2), (7, 93, 7, 5), (7, 96, 7, 4), (8, 9, 8, 0), (8, 15, 8, 1), (8, 18, 8, 5), (8, 22, 2, 6), (8, 28, 8, 2), (8, 29, 2, 11), (8, 32, 8, 3), (8, 33, 2, 10), (8, 36, 8, 4), (8, 37, 2, 1), (8, 44, 2, 5), (9, 9, 9, 0), (9, 15, 9, 4), (9, 19, 9, 1), (9, 22, 9, 3), (9, 25, 9, 2), (10, 10, 10, 0), (10, 19, 10, 1), (10, 28, 10, 2), (10, 35, 10, 3), (10, 42, 10, 4), (10, 49, 10, 5), (10, 56, 10, 6), (10, 63, 10, 7), (10, 70, 10, 8), (10, 76, 10, 9), (10, 85, 2, 6), (10, 136, 2, 4), (10, 155, 6, 3), (10, 158, 6, 4), (10, 161, 2, 0), (10, 190, 6, 2), (10, 196, 3, 0), (10, 202, 6, 5), (10, 217, 5, 4), (10, 244, 7, 2), (10, 247, 7, 3), (10, 253, 2, 8), (10, 267, 7, 4), (10, 270, 7, 5), (10, 276, 2, 11), (10, 278, 8, 5), (10, 320, 9, 1), (10, 327, 9, 0), (10, 337, 9, 3), (10, 346, 5, 5), (10, 347, 4, 4), (10, 350, 1, 4), (10, 353, 0, 2), (10, 354, 0, 3), (10, 357, 9, 2), (10, 358, 2, 1), (10, 360, 2, 2), (10, 363, 2, 3), (10, 366, 2, 5), (10, 369, 2, 7), (10, 372, 2, 9), (10, 375, 3, 4), (10, 378, 3, 5), (10, 381, 3, 6), (10, 384, 2, 10), (11, 9, 11, 0), (11, 13, 11, 1), (11, 16, 11, 2), (11, 19, 11, 3), (11, 22, 11, 7), (11, 25, 11, 8), (11, 28, 11, 11), (11, 31, 11, 13), (11, 34, 11, 14), (11, 37, 11, 18), (11, 40, 11, 19), (11, 43, 11, 20), (11, 46, 11, 21), (11, 49, 11, 23), (11, 52, 11, 30), (11, 55, 11, 35), (11, 58, 11, 36), (11, 61, 11, 38), (11, 64, 11, 39), (11, 67, 11, 43), (11, 70, 11, 44), (11, 73, 11, 45), (11, 77, 11, 46), (11, 80, 11, 24), (11, 84, 11, 5), (11, 87, 11, 4), (11, 90, 11, 6), (11, 126, 11, 10), (11, 129, 11, 9), (11, 134, 11, 12), (11, 140, 11, 15), (11, 169, 11, 16), (11, 207, 11, 17), (11, 220, 11, 22), (11, 223, 11, 26), (11, 226, 11, 27), (11, 229, 11, 25), (11, 232, 11, 28), (11, 256, 11, 29), (11, 286, 11, 31), (11, 290, 11, 32), (11, 293, 11, 33), (11, 296, 11, 34), (11, 299, 11, 37), (11, 304, 11, 40), (11, 313, 11, 42), (11, 319, 11, 41)]
def j_FLp : List Nat := [420, 421, 422, 424, 426, 368, 369, 370, 371, 372, 374, 114, 118, 124, 128, 132, 134, 146, 149, 153, 139, 194, 138, 198, 150, 200, 147, 202, 119, 203, 209, 210, 211, 212, 205, 207, 298, 299, 300, 301, 302, 305, 306, 307, 308, 304, 145, 117, 309, 152, 273, 274, 275, 271, 272, 277, 143, 244, 242, 243, 195, 246, 248, 154, 199, 115, 144, 250, 130, 122, 126, 339, 340, 142, 135, 157, 160, 341, 343, 125, 196, 129, 121, 201, 449, 347, 345, 394, 395, 399, 140, 396, 159, 397, 156, 398, 120, 136, 445, 454, 447, 452, 450, 467, 468, 469, 470, 471, 472, 473, 474, 475, 476, 141, 133, 247, 249, 116, 245, 197, 251, 276, 342, 344, 151, 346, 348, 161, 400, 448, 446, 453, 278, 303, 373, 423, 425, 451, 123, 127, 131, 137, 148, 155, 204, 206, 208, 158, 1131, 1132, 1133, 1134, 1138, 1139, 1142, 1144, 1145, 1149, 1150, 1151, 1152, 1154, 1161, 1166, 1167, 1169, 1170, 1174, 1175, 1176, 1177, 1155, 1136, 1135, 1137, 1141, 1140, 1143, 1146, 1147, 1148, 1153, 1157, 1158, 1156, 1159, 1160, 1162, 1163, 1164, 1165, 1168, 1171, 1173, 1172]
def j_ML : List (Nat × Nat × Nat × Nat) := [(0, 22, 1, 0), (0, 35, 7, 0), (0, 39, 8, 0), (0, 46, 9, 0), (1, 28, 12, 0), (1, 40, 20, 0), (2, 43, 16, 0), (2, 47, 147, 1), (3, 39, 24, 0), (3, 57, 25, 0), (3, 73, 27, 0), (3, 77, 30, 0), (3, 80, 28, 0), (3, 83, 29, 0), (4, 28, 35, 0), (4, 53, 36, 0), (4, 56, 49, 0), (4, 60, 50, 0), (4, 63, 37, 0), (4, 67, 51, 0), (4, 70, 38, 0), (4, 73, 39, 0), (4, 76, 40, 0), (4, 79, 42, 0), (4, 82, 41, 0), (4, 86, 44, 0), (4, 89, 43, 0), (4, 92, 46, 0), (4, 95, 48, 0), (4, 99, 47, 0), (4, 103, 45, 0), (4, 106, 54, 0), (4, 115, 53, 0), (4, 133, 57, 0), (4, 136, 58, 0), (4, 140, 56, 0), (4, 143, 55, 0), (4, 146, 60, 0), (4, 150, 59, 0), (5, 33, 22, 0), (5, 42, 66, 0), (5, 46, 67, 0), (5, 50, 68, 0), (5, 54, 62, 0), (5, 58, 25, 0), (5, 62, 26, 0), (6, 28, 24, 0), (6, 31, 26, 0), (6, 43, 74, 0), (6, 51, 70, 0), (6, 58, 72, 0), (6, 66, 75, 0), (6, 72, 22, 0), (6, 82, 78, 0), (6, 86, 73, 0), (6, 96, 71, 0), (6, 102, 27, 0), (6, 107, 84, 0), (6, 120, 83, 0), (7, 19, 22, 0), (7, 31, 26, 0), (7, 42, 31, 0), (7, 68, 24, 0), (7, 71, 27, 0), (7, 82, 104, 0), (7, 86, 89, 0), (7, 90, 92, 0), (8, 45, 246, 0), (9, 28, 245, 0), (9, 34, 102, 0), (9, 38, 106, 0), (10, 9, 15, 1), (10, 18, 21, 1), (10, 25, 69, 0), (10, 34, 61, 0), (10, 41, 32, 1), (10, 48, 86, 0), (10, 55, 10, 1), (10, 62, 93, 1), (10, 69, 0, 1), (10, 80, 96, 1), (10, 81, 147, 0), (10, 89, 17, 0), (10, 93, 148, 0), (10, 97, 97, 0), (10, 101, 99, 0), (10, 106, 149, 0), (10, 110, 18, 0), (10, 113, 19, 0), (10, 117, 20, 0), (10, 121, 11, 0), (10, 125, 151, 0), (10, 130, 16, 0), (10, 133, 150, 0), (10, 140, 33, 0), (10, 143, 34, 0), (10, 147, 22, 0), (10, 151, 71, 0), (10, 166, 83, 0), (10, 170, 82, 0), (10, 174, 154, 0), (10, 178, 85, 0), (10, 181, 73, 0), (10, 184, 76, 0), (10, 187, 77, 0), (10, 193, 79, 0), (10, 199, 80, 0), (10, 205, 81, 0), (10, 208, 63, 0), (10, 209, 62, 0), (10, 210, 64, 0), (10, 214, 65, 0), (10, 220, 68, 0), (10, 223, 52, 0), (10, 227, 152, 0), (10, 230, 26, 0), (10, 233, 23, 0), (10, 238, 87, 0), (10, 241, 88, 0), (10, 250, 153, 0), (10, 256, 89, 0), (10, 260, 90, 0), (10, 264, 91, 0), (10, 273, 94, 0), (10, 282, 95, 0), (10, 285, 13, 0), (10, 289, 14, 0), (10, 292, 3, 0), (10, 293, 6, 0), (10, 296, 5, 0), (10, 299, 1, 0), (10, 300, 100, 0), (10, 303, 101, 0), (10, 306, 103, 0), (10, 309, 105, 0), (10, 313, 104, 0), (10, 317, 98, 0), (10, 323, 102, 0), (10, 340, 2, 0), (10, 343, 4, 0), (11, 93, 155, 0), (11, 99, 235, 0), (11, 105, 160, 0), (11, 108, 157, 0), (11, 118, 175, 0), (11, 122, 164, 0), (11, 137, 168, 0), (11, 143, 169, 0), (11, 147, 170, 0), (11, 150, 171, 0), (11, 153, 172, 0), (11, 157, 167, 0), (11, 160, 173, 0), (11, 163, 174, 0), (11, 166, 176, 0), (11, 172, 177, 0), (11, 175, 179, 0), (11, 183, 181, 0), (11, 187, 182, 0), (11, 191, 180, 0), (11, 195, 185, 0), (11, 198, 186, 0), (11, 202, 188, 0), (11, 210, 195, 0), (11, 213, 194, 0), (11, 235, 198, 0), (11, 238, 202, 0), (11, 241, 200, 0), (11, 244, 203, 0), (11, 247, 204, 0), (11, 250, 205, 0), (11, 253, 207, 0), (11, 259, 199, 0), (11, 262, 201, 0), (11, 265, 206, 0), (11, 268, 208, 0), (11, 271, 210, 0), (11, 274, 212, 0), (11, 280, 217, 0), (11, 283, 218, 0), (11, 307, 228, 0), (11, 310, 229, 0), (11, 316, 230, 0), (11, 322, 231, 0), (11, 325, 232, 0), (11, 328, 224, 0), (11, 333, 238, 0), (11, 336, 239, 0), (11, 340, 225, 0), (11, 343, 227, 0)]
def j_MLp : List Nat := [1032, 1036, 1040, 1048, 562, 1007, 545, 549, 582, 586, 603, 615, 607, 611, 642, 646, 696, 692, 650, 688, 654, 658, 662, 666, 704, 670, 700, 674, 678, 681, 684, 872, 897, 876, 880, 883, 887, 891, 894, 847, 848, 859, 852, 857, 856, 858, 726, 727, 718, 722, 767, 779, 737, 791, 795, 805, 818, 738, 758, 927, 928, 929, 942, 943, 956, 965, 974, 996, 1077, 533, 1092, 110, 190, 238, 267, 294, 335, 364, 390, 416, 441, 502, 505, 513, 516, 520, 525, 541, 550, 554, 558, 573, 594, 595, 630, 638, 577, 713, 733, 742, 747, 754, 763, 775, 784, 801, 810, 814, 823, 831, 835, 843, 863, 868, 906, 599, 914, 923, 937, 948, 952, 961, 970, 983, 992, 1003, 1012, 1020, 1028, 1056, 1064, 1065, 1073, 1084, 1088, 529, 1104, 1108, 1114, 1118, 1286, 1293, 1302, 1306, 1321, 1317, 1337, 1341, 1345, 1349, 1333, 1325, 1329, 1353, 1371, 1367, 1391, 1380, 1384, 1388, 1406, 1402, 1414, 1440, 1444, 1485, 1465, 1493, 1469, 1473, 1477, 1481, 1489, 1461, 1497, 1457, 1504, 1512, 1534, 1538, 1575, 1571, 1579, 1583, 1587, 1567, 1607, 1611, 1626, 1630]
def j_CL : List (Nat × Nat × Nat) := [(10, 7, 2), (10, 16, 3), (10, 23, 6), (10, 32, 5), (10, 39, 4), (10, 46, 7), (10, 53, 1), (10, 60, 8), (10, 67, 0), (10, 74, 9)]
def j_CLp : List Nat := [108, 188, 236, 265, 292, 333, 362, 388, 414, 438]
def j_KI : List (Nat × Nat × Int32) := [(6, 39, 1000000), (7, 55, 1103515245), (10, 129, (-2000000000)), (11, 125, (-2000000000)), (11, 279, 1103515245)]
def j_KIp : List Nat := [717, 941, 593, 1357, 1529]
def j_KL : List (Nat × Nat × Int64) := [(6, 70, 4096), (6, 105, 12), (10, 104, 2), (10, 164, (-9223372036854775808)), (10, 236, 12), (11, 97, 99), (11, 103, 6), (11, 112, 12), (11, 114, 599), (11, 116, 4), (11, 132, (-1)), (11, 181, (-9223372036854775808)), (11, 205, 3), (11, 216, 2), (11, 218, 255), (11, 277, 50), (11, 302, 7), (11, 331, 5)]
def j_KLp : List Nat := [783, 746, 524, 732, 918, 1285, 1297, 1310, 1311, 1312, 1362, 1379, 1426, 1439, 1452, 1528, 1562, 1296]
def j_NL : List (Nat × Nat × Nat) := [(1, 34, 1000), (3, 33, 1000), (3, 61, 1001), (3, 86, 1002), (4, 37, 1000), (4, 122, 1002), (4, 127, 1001), (6, 76, 1003), (6, 90, 1000), (7, 99, 1001), (8, 38, 1000), (10, 331, 1000)]
def j_NLp : List Nat := [566, 581, 590, 619, 708, 900, 901, 788, 796, 978, 987, 1109]
def j_OL : List (Nat × Nat) := [(0, 3), (1, 3), (2, 3), (3, 3), (4, 3), (5, 3), (6, 3), (7, 3), (8, 3), (9, 3), (10, 1), (11, 3)]
def j_OLp : List Nat := [419, 367, 113, 193, 297, 270, 241, 338, 393, 444, 105, 1130]
def j_SL : List (Nat × Nat × Nat) := [(0, 26, 1000), (0, 43, 1001)]
def j_SLp : List Nat := [1046, 1044]
def j_isref : FieldType → Bool
  | .object _ => true
  | .array _ => true
  | _ => false
def j_hn (p : Nat) (w : Cond) : Bool := decide (lw_tbl[p]? = some w)
def j_hw (p : Nat) (w : Cond) : Bool := j_hn p w && goodWord w
def j_nn : Nat → MethodName
  | 1000 => arraycopyName
  | 1001 => Lib.Math.max.name
  | 1002 => Lib.Math.min.name
  | _ => Lib.MathLoose.min_long.x
def j_wFL (q : Nat × Nat × Nat × Nat) : Cond := .fieldLink (j_cn q.1) q.2.1 (j_T q.2.2.1 q.2.2.2).1 (j_T q.2.2.1 q.2.2.2).2.1 (j_T q.2.2.1 q.2.2.2).2.2.1
def j_wML (q : Nat × Nat × Nat × Nat) : Cond := bif Nat.beq q.2.2.2 0 then .methodLink (j_cn q.1) q.2.1 (j_info q.2.2.1).1 else .methodLinkNest (j_cn q.1) q.2.1 (j_info q.2.2.1).1 RX10
def j_wCL (q : Nat × Nat × Nat) : Cond := .classLink (j_cn q.1) q.2.1 (j_cn q.2.2)
def j_wKI (q : Nat × Nat × Int32) : Cond := .constant (j_cn q.1) q.2.1 q.2.2
def j_wKL (q : Nat × Nat × Int64) : Cond := .constantLong (j_cn q.1) q.2.1 q.2.2
def j_wNL (q : Nat × Nat × Nat) : Cond := .methodLink (j_cn q.1) q.2.1 (j_nn q.2.2)
def j_wOL (q : Nat × Nat) : Cond := .methodLink (j_cn q.1) q.2 objectInit
def j_wSL (q : Nat × Nat × Nat) : Cond := .fieldLink (j_cn q.1) q.2.1 RX0 (bif Nat.beq q.2.2 1000 then "ABOVE" else "OWN") "[I"
def j_tsok (pc : Nat) (lo : Int) (offs : List Int) (ts : List (Int32 × Nat)) : Bool := decide (ts = (List.range offs.length).map (fun j : Nat => (Int32.ofInt (lo + (j : Int)), ((pc : Int) + offs.getD j 0).toNat))) && offs.all (fun o => decide (0 ≤ (pc : Int) + o))
def j_lsok (pc : Nat) (ps : List (Int × Int)) (ts : List (Int32 × Nat)) : Bool := decide (ts = ps.map (fun q => (Int32.ofInt q.1, ((pc : Int) + q.2).toNat))) && ps.all (fun q => decide (0 ≤ (pc : Int) + q.2) && decide ((Int32.ofInt q.1).toInt = q.1)) && (ps.zip (ps.drop 1)).all (fun (a, next) => a.1 < next.1)
def j_p (ps : List Nat) : Nat := ps.headD 9999
/-- the words of a method: its code, that its class is ready, how it is called -/
def j_ws1 (I : j_I) : List Cond := [.code I.1 I.2.1 I.2.2.1 I.2.2.2.1, .initialized I.1.cls] ++ (bif Nat.beq I.2.2.2.2.2.2 0 then [.static I.1] else bif Nat.beq I.2.2.2.2.2.2 1 then [.instanceMethod I.1, .selects I.1.cls I.1 I.1] else [.instanceMethod I.1])
def j_wok : List Nat → List Cond → Bool
  | _, [] => true
  | p :: ps, w :: ws => j_hw p w && j_wok ps ws
  | [], _ :: _ => false
def j_mok (I : j_I) (ps : List Nat) : Bool := j_wok ps (j_ws1 I) && plainName I.1.cls && Nat.ble I.2.2.1 30 && decide (I.1.cls ≠ "java/lang/invoke/MethodHandle") && decide (I.1.cls ≠ "java/lang/invoke/VarHandle") && decide ((parseMethodDescriptor I.1.desc).map (fun d => d.parameters.length) = some I.2.2.2.2.2.1) && decide (I.1.cls = j_cn I.2.2.2.2.1) && (!(Nat.beq I.2.2.2.2.2.2 2) || (decide (I.1.name = "<init>") && decide (I.2.2.2.1 = none)))
def j_chk (I : j_I) (pc : Nat) (e : j_E) : Bool := match e with
  | (ins, z, a, b, v, ts, ps) =>
  let c := I.2.2.2.2.1
  let D := fun n => decide (decode I.2.1 pc = .ok (ins, n))
  match ins with
  | .iconst n => D 1 && decide (v = .int (Int32.ofInt n))
  | .bipush n => D 2 && decide (v = .int (Int8.ofInt n).toInt32)
  | .sipush n => D 3 && decide (v = .int (Int16.ofInt n).toInt32)
  | .ldc k => D 2 && j_vi false (fun x => decide (j_KI[j_p ps]? = some (c, k, x))) v
  | .ldc_w k => D 3 && j_vi false (fun x => decide (j_KI[j_p ps]? = some (c, k, x))) v
  | .lconst n => D 1 && decide (v = .long (Int64.ofNat n.val))
  | .ldc2_w k => D 3 && j_vl false (fun x => decide (j_KL[j_p ps]? = some (c, k, x))) v
  | .iload_n k => D 1 && decide (k.val = a)
  | .iload k => D 2 && decide (k = a)
  | .lload_n k => D 1 && decide (k.val = a)
  | .lload k => D 2 && decide (k = a)
  | .aload_n k => D 1 && decide (k.val = a)
  | .aload k => D 2 && decide (k = a)
  | .istore_n k => D 1 && decide (k.val = a) && decide (a < I.2.2.1)
  | .istore k => D 2 && decide (k = a) && decide (a < I.2.2.1)
  | .lstore_n k => D 1 && decide (k.val = a) && decide (a + 1 < I.2.2.1)
  | .lstore k => D 2 && decide (k = a) && decide (a + 1 < I.2.2.1)
  | .astore_n k => D 1 && decide (k.val = a) && decide (a < I.2.2.1)
  | .astore k => D 2 && decide (k = a) && decide (a < I.2.2.1)
  | .iinc k n => D 3 && decide (k = a) && decide (a < I.2.2.1) && decide (v = .int (Int32.ofInt n))
  | .ifCond _ off => D 3 && decide ((pc : Int) + off = (a : Int))
  | .if_icmp _ off => D 3 && decide ((pc : Int) + off = (a : Int))
  | .goto off => D 3 && decide ((pc : Int) + off = (a : Int))
  | .tableswitch d lo hi offs => D z && decide ((pc : Int) + d = (a : Int)) && decide (hi - lo + 1 = (offs.size : Int)) && decide (-2147483648 ≤ lo) && decide (hi ≤ 2147483647) && j_tsok pc lo offs.toList ts
  | .lookupswitch d prs => D z && decide ((pc : Int) + d = (a : Int)) && j_lsok pc prs.toList ts
  | .getfield k => D 3 && decide (a < 12) && decide (b < j_Nf a) && decide (j_FL[j_p ps]? = some (c, k, a, b)) && j_by v (decide (j_ty a b = .int)) (decide (j_ty a b = .boolean)) (j_isref (j_ty a b))
  | .putfield k => D 3 && decide (a < 12) && decide (b < j_Nf a) && decide (j_FL[j_p ps]? = some (c, k, a, b)) && j_by v (decide (j_ty a b = .int)) (decide (j_ty a b = .boolean)) (j_isref (j_ty a b)) && (!(j_T a b).2.2.2 || (Nat.beq I.2.2.2.2.2.2 2 && Nat.beq a c))
  | .getstatic k => D 3 && decide (j_SL[j_p ps]? = some (c, k, a)) && (Nat.beq a 1000 || Nat.beq a 1001)
  | .new k => D 3 && decide (a < 12) && decide (b = j_Nf a) && decide (j_CL[j_p ps]? = some (c, k, a))
  | .newarray t => D 2 && (match t with
    | .int => j_by v true false false
    | .long => j_by v false true false
    | _ => false)
  | .anewarray k => D 3 && decide (j_CL[j_p ps]? = some (c, k, 9))
  | .invokevirtual k => D 3 && decide (a < j_cnt) && decide (j_ML[j_p ps]? = some (c, k, a, 0)) && Nat.beq (j_info a).2.2.2.2.2.2 1 && Nat.beq (j_info a).2.2.2.2.2.1 b && Nat.beq z ((j_info a).2.2.2.2.1 + 3) && decide (z < 15)
  | .invokestatic k => D 3 && (bif Nat.ble 1000 a then decide (j_NL[j_p ps]? = some (c, k, a)) && Nat.ble a 1003
      else decide (a < j_cnt) && (decide (j_ML[j_p ps]? = some (c, k, a, 0)) || decide (j_ML[j_p ps]? = some (c, k, a, 1))) && Nat.beq (j_info a).2.2.2.2.2.2 0 && Nat.beq (j_info a).2.2.2.2.2.1 b)
  | .invokespecial k => D 3 && (bif Nat.beq a 999 then decide (j_OL[j_p ps]? = some (c, k))
      else decide (a < j_cnt) && (decide (j_ML[j_p ps]? = some (c, k, a, 0)) || decide (j_ML[j_p ps]? = some (c, k, a, 1))) && Nat.beq (j_info a).2.2.2.2.2.2 2 && Nat.beq (j_info a).2.2.2.2.2.1 b)
  | .ireturn => D 1 && j_by v (decide (I.2.2.2.1 = some .int)) (decide (I.2.2.2.1 = some .boolean)) false
  | .lreturn => D 1 && decide (I.2.2.2.1 = some .long)
  | .return_ => D 1 && decide (I.2.2.2.1 = none)
  | _ => D 1
def j_okm (i : Nat) : Bool := decide ((j_meth i).2.2 = (j_info i).2.2.1) && (j_meth i).1.all (fun q => j_chk (j_info i) q.1 q.2)
def j_zip {β : Type} (f : Nat → β → Bool) : List Nat → List β → Bool
  | _, [] => true
  | p :: ps, x :: xs => f p x && j_zip f ps xs
  | [], _ :: _ => false

/-! ===== what the tables say of each instruction (own text; tables printed by wip/whole/gencheck.py) ===== -/
/-- name, bytes, locals, result, a constructor -/
abbrev j_I : Type := MethodName × ByteArray × Nat × Option FieldType × Bool
def j_infs : List j_I := [(yX0_init, cX0_init, 1, none, true), (yX0_has, cX0_has, 2, (some .boolean), false), (yX0_kindOf, cX0_kindOf, 2, (some .int), false), (yX0_add, cX0_add, 2, (some .int), false), (yX0_isUnder, cX0_isUnder, 4, (some .boolean), false), (yX0_ranAt, cX0_ranAt, 2, (some .int), false), (yX0_perform, cX0_perform, 4, (some .int), false), (yX0_call, cX0_call, 4, (some .int), false), (yX0_from, cX0_from, 7, (some .int), false), (yX0_run, cX0_run, 4, (some .int), false), (yX1_init, cX1_init, 1, none, true), (yX1_note, cX1_note, 5, none, false), (yX1_dropOldest, cX1_dropOldest, 1, none, false), (yX1_takeBack, cX1_takeBack, 2, (some .int), false), (yX1_doAgain, cX1_doAgain, 2, (some .int), false), (yX2_init, cX2_init, 1, none, true), (yX2_has, cX2_has, 2, (some .boolean), false), (yX2_welcome, cX2_welcome, 3, none, false), (yX2_allows, cX2_allows, 4, (some .boolean), false), (yX2_told, cX2_told, 3, (some .int), false), (yX2_tell, cX2_tell, 4, none, false), (yX3_init, cX3_init, 1, none, true), (yX3_lay, cX3_lay, 2, none, false), (yX3_join, cX3_join, 2, none, false), (yX3_weigh, cX3_weigh, 3, none, false), (yX3_charge, cX3_charge, 2, none, false), (yX3_cost, cX3_cost, 2, (some .int), false), (yX3_besides, cX3_besides, 2, (some .int), false), (yX3_partAmongAlike, cX3_partAmongAlike, 4, (some .int), false), (yX3_partOfTwo, cX3_partOfTwo, 3, (some .int), false), (yX3_givenBack, cX3_givenBack, 2, (some .int), false), (yX3_intoChest, cX3_intoChest, 1, (some .int), false), (yX4_init, cX4_init, 1, none, true), (yX4_add, cX4_add, 2, (some .int), false), (yX4_enact, cX4_enact, 1, (some .int), false), (yX4_readLines, cX4_readLines, 2, none, false), (yX4_readLine, cX4_readLine, 1, none, false), (yX4_readEither, cX4_readEither, 3, none, false), (yX4_readBoth, cX4_readBoth, 3, none, false), (yX4_readCompared, cX4_readCompared, 3, none, false), (yX4_readSum, cX4_readSum, 4, none, false), (yX4_takesSumSign, cX4_takesSumSign, 1, (some .int), false), (yX4_readProduct, cX4_readProduct, 4, none, false), (yX4_takesProductSign, cX4_takesProductSign, 1, (some .int), false), (yX4_readOperand, cX4_readOperand, 4, none, false), (yX4_readNumber, cX4_readNumber, 3, none, false), (yX4_letterHere, cX4_letterHere, 1, (some .int), false), (yX4_isDigit, cX4_isDigit, 1, (some .boolean), false), (yX4_nameOf, cX4_nameOf, 1, (some .int), false), (yX4_takes, cX4_takes, 2, (some .boolean), false), (yX4_fail, cX4_fail, 1, none, false), (yX4_write, cX4_write, 2, none, false), (yX4_gift, cX4_gift, 5, (some .int), false), (yX4_shareOf, cX4_shareOf, 2, (some .int), false), (yX4_workOut, cX4_workOut, 7, (some .int), false), (yX4_apply, cX4_apply, 4, none, false), (yX4_push, cX4_push, 2, none, false), (yX4_pop, cX4_pop, 1, (some .int), false), (yX4_valueOf, cX4_valueOf, 4, (some .int), false), (yX4_joined, cX4_joined, 3, (some .int), false), (yX4_truth, cX4_truth, 1, (some .int), false), (yX5_init, cX5_init, 3, none, true), (yX5_has, cX5_has, 2, (some .boolean), false), (yX5_add, cX5_add, 2, (some .int), false), (yX5_enjoy, cX5_enjoy, 6, (some .int), false), (yX5_orderAll, cX5_orderAll, 3, (some .int), false), (yX5_playOut, cX5_playOut, 9, (some .int), false), (yX5_priceOf, cX5_priceOf, 2, (some .int), false), (yX5_worth, cX5_worth, 5, (some .int), false), (yX6_init, cX6_init, 3, none, true), (yX6_costBy, cX6_costBy, 3, (some .int), false), (yX6_search, cX6_search, 7, none, false), (yX6_wouldChange, cX6_wouldChange, 7, (some .boolean), false), (yX6_firstRestless, cX6_firstRestless, 2, (some .int), false), (yX6_sumsOf, cX6_sumsOf, 2, (some .int), false), (yX6_ways, cX6_ways, 4, (some .long), false), (yX6_fewWays, cX6_fewWays, 1, (some .boolean), false), (yX6_goThroughWays, cX6_goThroughWays, 4, (some .int), false), (yX6_layWay, cX6_layWay, 5, none, false), (yX6_takeTurns, cX6_takeTurns, 6, (some .int), false), (yX6_settle, cX6_settle, 8, none, false), (yX6_victimOf, cX6_victimOf, 4, (some .int), false), (yX6_allWeights, cX6_allWeights, 4, (some .long), false), (yX6_weighedCost, cX6_weighedCost, 8, (some .long), false), (yX6_layByChance, cX6_layByChance, 7, (some .long), false), (yX6_sumOfLeastMean, cX6_sumOfLeastMean, 9, (some .int), false), (yX7_init, cX7_init, 3, none, true), (yX7_pass, cX7_pass, 4, (some .int), false), (yX7_draw, cX7_draw, 8, none, false), (yX7_firstWrong, cX7_firstWrong, 4, (some .int), false), (yX7_rulesThatFit, cX7_rulesThatFit, 4, (some .int), false), (yX7_weighRules, cX7_weighRules, 3, none, false), (yX7_greatestCost, cX7_greatestCost, 3, (some .int), false), (yX8_init, cX8_init, 1, none, true), (yX8_take, cX8_take, 2, none, false), (yX8_layBack, cX8_layBack, 2, none, false), (yX9_init, cX9_init, 1, none, true), (yX9_holdsNothing, cX9_holdsNothing, 1, (some .boolean), false), (yX9_isRow, cX9_isRow, 1, (some .boolean), false), (yX9_isRowOf, cX9_isRowOf, 2, (some .boolean), false), (yX9_holdHat, cX9_holdHat, 2, none, false), (yX9_holdRow, cX9_holdRow, 3, none, false), (yX9_hasPlaces, cX9_hasPlaces, 3, (some .boolean), false), (yX9_refusalAt, cX9_refusalAt, 2, (some .int), false), (yX9_get, cX9_get, 2, (some .long), false), (yX9_set, cX9_set, 4, none, false), (yX9_lowestBits, cX9_lowestBits, 3, (some .long), false), (yX10_init, cX10_init, 2, none, true), (yX10_guest, cX10_guest, 2, (some .int), false), (yX10_guests, cX10_guests, 6, (some .int), false), (yX10_mend, cX10_mend, 5, (some .int), false), (yX10_of, cX10_of, 3, (some .int), false), (yX10_think, cX10_think, 4, (some .int), false), (yX10_feed, cX10_feed, 2, (some .int), false), (yX10_law, cX10_law, 1, (some .int), false), (yX10_putIn, cX10_putIn, 3, (some .int), false), (yX10_mean, cX10_mean, 4, (some .long), false), (yX10_bestMean, cX10_bestMean, 2, (some .int), false), (yX10_rest, cX10_rest, 3, (some .int), false), (yX10_rests, cX10_rests, 3, (some .int), false), (yX10_turns, cX10_turns, 3, (some .int), false), (yX10_agree, cX10_agree, 5, (some .int), false), (yX10_dish, cX10_dish, 2, (some .int), false), (yX10_joy, cX10_joy, 5, (some .int), false), (yX10_ordered, cX10_ordered, 4, (some .int), false), (yX10_thought, cX10_thought, 6, (some .int), false), (yX10_given, cX10_given, 4, (some .int), false), (yX10_stranger, cX10_stranger, 9, (some .long), false), (yX10_night, cX10_night, 1, (some .int), false), (yX10_drawn, cX10_drawn, 5, (some .int), false), (yX10_judge, cX10_judge, 3, (some .int), false), (yX10_fits, cX10_fits, 3, (some .int), false), (yX10_fair, cX10_fair, 2, (some .int), false), (yX10_image, cX10_image, 1, (some .int), false), (yX10_back, cX10_back, 1, (some .int), false), (yX10_undo, cX10_undo, 1, (some .int), false), (yX10_redo, cX10_redo, 1, (some .int), false), (yX10_body, cX10_body, 2, (some .int), false), (yX10_act, cX10_act, 4, (some .int), false), (yX10_trace, cX10_trace, 2, (some .int), false), (yX10_keep, cX10_keep, 3, (some .int), false), (yX10_row, cX10_row, 4, (some .int), false), (yX10_put, cX10_put, 6, (some .int), false), (yX10_element, cX10_element, 3, (some .long), false), (yX10_shift, cX10_shift, 8, (some .int), false), (yX10_taken, cX10_taken, 5, (some .int), false), (yX10_count, cX10_count, 2, (some .int), false), (yX10_within, cX10_within, 3, (some .boolean), false), (yX10_isShelf, cX10_isShelf, 1, (some .boolean), false), (yX10_comesFrom, cX10_comesFrom, 6, (some .boolean), false), (yX10_ofOne, cX10_ofOne, 3, (some .int), false), (yX10_ofTheTable, cX10_ofTheTable, 2, (some .int), false), (yX10_givenBy, cX10_givenBy, 3, (some .int), false), (yX10_refusalOfTold, cX10_refusalOfTold, 2, (some .int), false), (yX10_fraction, cX10_fraction, 12, (some .long), false), (yX11_within, cX11_within, 6, (some .boolean), false), (yX11_init, cX11_init, 2, none, true), (yX11_becomes, cX11_becomes, 5, (some .int), false), (yX11_undo, cX11_undo, 1, (some .int), false), (yX11_redo, cX11_redo, 1, (some .int), false), (yX11_isGuest, cX11_isGuest, 2, (some .boolean), false), (yX11_guest, cX11_guest, 2, (some .int), false), (yX11_guests, cX11_guests, 7, (some .int), false), (yX11_mend, cX11_mend, 4, (some .int), false), (yX11_ofGuest, cX11_ofGuest, 3, (some .int), false), (yX11_of, cX11_of, 5, (some .int), false), (yX11_think, cX11_think, 4, (some .int), false), (yX11_laysOut, cX11_laysOut, 2, none, false), (yX11_leastBut, cX11_leastBut, 4, (some .int), false), (yX11_alikePay, cX11_alikePay, 6, none, false), (yX11_twoPay, cX11_twoPay, 4, none, false), (yX11_givesBack, cX11_givesBack, 4, none, false), (yX11_nightBy, cX11_nightBy, 7, none, false), (yX11_nightAsIs, cX11_nightAsIs, 1, none, false), (yX11_costIn, cX11_costIn, 2, (some .int), false), (yX11_costNow, cX11_costNow, 2, (some .int), false), (yX11_costBy, cX11_costBy, 5, (some .int), false), (yX11_leastCost, cX11_leastCost, 5, (some .int), false), (yX11_putIn, cX11_putIn, 4, (some .int), false), (yX11_common, cX11_common, 10, (some .long), false), (yX11_partOf, cX11_partOf, 7, (some .long), false), (yX11_meanOf, cX11_meanOf, 10, (some .long), false), (yX11_wholeOf, cX11_wholeOf, 4, (some .long), false), (yX11_mean, cX11_mean, 4, (some .long), false), (yX11_bestMean, cX11_bestMean, 8, (some .int), false), (yX11_wouldChange, cX11_wouldChange, 2, (some .boolean), false), (yX11_firstWho, cX11_firstWho, 2, (some .int), false), (yX11_rest, cX11_rest, 3, (some .int), false), (yX11_sumsOf, cX11_sumsOf, 2, (some .int), false), (yX11_rests, cX11_rests, 8, (some .int), false), (yX11_turns, cX11_turns, 6, (some .int), false), (yX11_agree, cX11_agree, 11, (some .int), false), (yX11_dish, cX11_dish, 2, (some .int), false), (yX11_joy, cX11_joy, 5, (some .int), false), (yX11_joyOf, cX11_joyOf, 3, (some .int), false), (yX11_billFrom, cX11_billFrom, 8, (some .int), false), (yX11_ordered, cX11_ordered, 4, (some .int), false), (yX11_feed, cX11_feed, 2, (some .int), false), (yX11_byteAt, cX11_byteAt, 1, (some .int), false), (yX11_wrong, cX11_wrong, 1, (some .int), false), (yX11_takes, cX11_takes, 2, (some .boolean), false), (yX11_either, cX11_either, 3, (some .int), false), (yX11_both, cX11_both, 3, (some .int), false), (yX11_compared, cX11_compared, 4, (some .int), false), (yX11_sums, cX11_sums, 4, (some .int), false), (yX11_product, cX11_product, 4, (some .int), false), (yX11_nameOf, cX11_nameOf, 1, (some .int), false), (yX11_one, cX11_one, 5, (some .int), false), (yX11_workOut, cX11_workOut, 8, (some .int), false), (yX11_law, cX11_law, 4, (some .int), false), (yX11_wouldGive, cX11_wouldGive, 4, (some .int), false), (yX11_thought, cX11_thought, 7, (some .int), false), (yX11_givenBy, cX11_givenBy, 2, (some .int), false), (yX11_given, cX11_given, 4, (some .int), false), (yX11_stranger, cX11_stranger, 7, (some .long), false), (yX11_night, cX11_night, 3, (some .int), false), (yX11_drawn, cX11_drawn, 10, (some .int), false), (yX11_hatIs, cX11_hatIs, 2, (some .int), false), (yX11_firstFalse, cX11_firstFalse, 4, (some .int), false), (yX11_judge, cX11_judge, 2, (some .int), false), (yX11_fits, cX11_fits, 4, (some .int), false), (yX11_fair, cX11_fair, 7, (some .int), false), (yX11_image, cX11_image, 2, (some .int), false), (yX11_back, cX11_back, 2, (some .int), false), (yX11_isBody, cX11_isBody, 2, (some .boolean), false), (yX11_kindOf, cX11_kindOf, 2, (some .int), false), (yX11_body, cX11_body, 2, (some .int), false), (yX11_above, cX11_above, 1, (some .int), false), (yX11_begins, cX11_begins, 2, none, false), (yX11_givesAs, cX11_givesAs, 3, (some .int), false), (yX11_owesAs, cX11_owesAs, 4, (some .int), false), (yX11_lacksAs, cX11_lacksAs, 4, (some .int), false), (yX11_tellsAs, cX11_tellsAs, 4, (some .int), false), (yX11_act, cX11_act, 4, (some .int), false), (yX11_trace, cX11_trace, 2, (some .int), false), (yX11_isShelf, cX11_isShelf, 1, (some .boolean), false), (yX11_keep, cX11_keep, 3, (some .int), false), (yX11_row, cX11_row, 5, (some .int), false), (yX11_refusal, cX11_refusal, 3, (some .int), false), (yX11_asSort, cX11_asSort, 3, (some .long), false), (yX11_put, cX11_put, 6, (some .int), false), (yX11_element, cX11_element, 3, (some .long), false), (yX11_shift, cX11_shift, 7, (some .int), false), (yX11_taken, cX11_taken, 4, (some .int), false), (yX11_count, cX11_count, 2, (some .int), false), (yJ7_fill_d0a16, cJ7_fill_d0a16, 5, none, false), (yJ7_fill_53178, cJ7_fill_53178, 4, none, false)]
def j_in_ : List j_I → Nat → j_I
  | [], _ => (⟨"", "", ""⟩, ⟨#[]⟩, 0, none, false)
  | x :: _, 0 => x
  | _ :: r, k + 1 => j_in_ r k
def j_info (i : Nat) : j_I := j_in_ j_infs i
def j_cn : Nat → String
  | 0 => RX0
  | 1 => RX1
  | 2 => RX2
  | 3 => RX3
  | 4 => RX4
  | 5 => RX5
  | 6 => RX6
  | 7 => RX7
  | 8 => RX8
  | 9 => RX9
  | 10 => RX10
  | _ => RX11
def j_T : Nat → u_T
  | 0 => TX0
  | 1 => TX1
  | 2 => TX2
  | 3 => TX3
  | 4 => TX4
  | 5 => TX5
  | 6 => TX6
  | 7 => TX7
  | 8 => TX8
  | 9 => TX9
  | 10 => TX10
  | _ => TX11
def j_ty : Nat → Nat → FieldType
  | 0 => tyX0
  | 1 => tyX1
  | 2 => tyX2
  | 3 => tyX3
  | 4 => tyX4
  | 5 => tyX5
  | 6 => tyX6
  | 7 => tyX7
  | 8 => tyX8
  | 9 => tyX9
  | 10 => tyX10
  | _ => tyX11
def j_Nf : Nat → Nat
  | 0 => 5
  | 1 => 6
  | 2 => 12
  | 3 => 11
  | 4 => 11
  | 5 => 6
  | 6 => 6
  | 7 => 6
  | 8 => 6
  | 9 => 5
  | 10 => 10
  | _ => 47
def j_isref : FieldType → Bool
  | .object _ => true
  | .array _ => true
  | _ => false
def j_hn (p : Nat) (w : Cond) : Bool := decide (lw_tbl[p]? = some w)
def j_hw (p : Nat) (w : Cond) : Bool := j_hn p w && goodWord w
def j_p (ps : List Nat) (k : Nat) : Nat := ps.getD k 9999
def j_lkok (own : String) (k p : Nat) (y : MethodName) : Bool := j_hw p (.methodLink own k y) || j_hn p (.methodLinkNest own k y RX10)
def j_yok (y : MethodName) (b : Nat) : Bool := decide (y.cls ≠ "java/lang/invoke/MethodHandle") && decide (y.cls ≠ "java/lang/invoke/VarHandle") && decide ((parseMethodDescriptor y.desc).map (fun d => d.parameters.length) = some b)
def j_cdok (I : j_I) (p : Nat) : Bool := j_hw p (.code I.1 I.2.1 I.2.2.1 I.2.2.2.1)
def j_tsok (pc : Nat) (lo : Int) (offs : List Int) (ts : List (Int32 × Nat)) : Bool := decide (ts = (List.range offs.length).map (fun j => (Int32.ofInt (lo + j), ((pc : Int) + offs.getD j 0).toNat))) && offs.all (fun o => decide (0 ≤ (pc : Int) + o))
def j_lsok (pc : Nat) (ps : List (Int × Int)) (ts : List (Int32 × Nat)) : Bool := decide (ts = ps.map (fun q => (Int32.ofInt q.1, ((pc : Int) + q.2).toNat))) && ps.all (fun q => decide (0 ≤ (pc : Int) + q.2) && decide ((Int32.ofInt q.1).toInt = q.1)) && (ps.zip (ps.drop 1)).all (fun (a, next) => a.1 < next.1)
def j_chk (I : j_I) (pc : Nat) (e : j_E) : Bool := match e with
  | (ins, z, a, b, v, ts, ps) =>
  let own := I.1.cls
  let D := fun n => decide (decode I.2.1 pc = .ok (ins, n))
  match ins with
  | .iconst n => D 1 && decide (v = .int (Int32.ofInt n))
  | .bipush n => D 2 && decide (v = .int (Int8.ofInt n).toInt32)
  | .sipush n => D 3 && decide (v = .int (Int16.ofInt n).toInt32)
  | .ldc k => D 2 && j_vi false (fun x => j_hw (j_p ps 0) (.constant own k x)) v
  | .ldc_w k => D 3 && j_vi false (fun x => j_hw (j_p ps 0) (.constant own k x)) v
  | .lconst n => D 1 && decide (v = .long (Int64.ofNat n.val))
  | .ldc2_w k => D 3 && j_vl false (fun x => j_hw (j_p ps 0) (.constantLong own k x)) v
  | .iload_n k => D 1 && decide (k.val = a)
  | .iload k => D 2 && decide (k = a)
  | .lload_n k => D 1 && decide (k.val = a)
  | .lload k => D 2 && decide (k = a)
  | .aload_n k => D 1 && decide (k.val = a)
  | .aload k => D 2 && decide (k = a)
  | .istore_n k => D 1 && decide (k.val = a) && decide (a < I.2.2.1)
  | .istore k => D 2 && decide (k = a) && decide (a < I.2.2.1)
  | .lstore_n k => D 1 && decide (k.val = a) && decide (a + 1 < I.2.2.1)
  | .lstore k => D 2 && decide (k = a) && decide (a + 1 < I.2.2.1)
  | .astore_n k => D 1 && decide (k.val = a) && decide (a < I.2.2.1)
  | .astore k => D 2 && decide (k = a) && decide (a < I.2.2.1)
  | .iinc k n => D 3 && decide (k = a) && decide (a < I.2.2.1) && decide (v = .int (Int32.ofInt n))
  | .ifCond _ off => D 3 && decide ((pc : Int) + off = (a : Int))
  | .if_icmp _ off => D 3 && decide ((pc : Int) + off = (a : Int))
  | .goto off => D 3 && decide ((pc : Int) + off = (a : Int))
  | .tableswitch d lo hi offs => D z && decide ((pc : Int) + d = (a : Int)) && decide (hi - lo + 1 = (offs.size : Int)) && decide (-2147483648 ≤ lo) && decide (hi ≤ 2147483647) && j_tsok pc lo offs.toList ts
  | .lookupswitch d prs => D z && decide ((pc : Int) + d = (a : Int)) && j_lsok pc prs.toList ts
  | .getfield k => D 3 && decide (a < 12) && decide (b < j_Nf a) && j_hw (j_p ps 0) (.fieldLink own k (j_T a b).1 (j_T a b).2.1 (j_T a b).2.2.1) && j_by v (decide (j_ty a b = .int)) (decide (j_ty a b = .boolean)) (j_isref (j_ty a b))
  | .putfield k => D 3 && decide (a < 12) && decide (b < j_Nf a) && j_hw (j_p ps 0) (.fieldLink own k (j_T a b).1 (j_T a b).2.1 (j_T a b).2.2.1) && j_by v (decide (j_ty a b = .int)) (decide (j_ty a b = .boolean)) (j_isref (j_ty a b)) && (!(j_T a b).2.2.2 || (I.2.2.2.2 && decide ((j_T a b).1 = own)))
  | .getstatic k => D 3 && ((Nat.beq a 1000 && j_hw (j_p ps 0) (.fieldLink own k RX0 "ABOVE" "[I")) || (Nat.beq a 1001 && j_hw (j_p ps 0) (.fieldLink own k RX0 "OWN" "[I")))
  | .new k => D 3 && decide (a < 12) && decide (b = j_Nf a) && j_hw (j_p ps 0) (.classLink own k (j_cn a)) && j_hw (j_p ps 1) (.instantiable (j_cn a) b) && j_hw (j_p ps 2) (.initialized (j_cn a))
  | .newarray t => D 2 && (match t with
    | .int => j_by v (j_hw (j_p ps 0) (.arrayClass .int)) false false
    | .long => j_by v false (j_hw (j_p ps 0) (.arrayClass .long)) false
    | _ => false)
  | .anewarray k => D 3 && j_hw (j_p ps 0) (.classLink own k RX9)
  | .invokevirtual k => D 3 && decide (a < j_cnt) && j_hw (j_p ps 0) (.methodLink own k (j_info a).1) && j_hw (j_p ps 1) (.initialized (j_info a).1.cls) && j_cdok (j_info a) (j_p ps 2) && j_hw (j_p ps 3) (.instanceMethod (j_info a).1) && j_hw (j_p ps 4) (.selects (j_info a).1.cls (j_info a).1 (j_info a).1) && decide (3 ≤ z) && decide (z < 15) && decide ((j_info a).1.cls = j_cn (z - 3)) && j_yok (j_info a).1 b
  | .invokestatic k => D 3 && (bif Nat.ble 1000 a then
      (Nat.beq a 1000 && j_hw (j_p ps 0) (.methodLink own k arraycopyName) && j_hw (j_p ps 1) (.native arraycopyName) && j_hw (j_p ps 2) (.static arraycopyName) && j_hw (j_p ps 3) (.initialized "java/lang/System")) ||
      (Nat.beq a 1001 && j_hw (j_p ps 0) (.methodLink own k Lib.Math.max.name) && j_hw (j_p ps 1) (.static Lib.Math.max.name) && j_hw (j_p ps 2) (.initialized "java/lang/Math") && j_hw (j_p ps 3) (.code Lib.Math.max.name Lib.Math.max.code 2 (some .int))) ||
      (Nat.beq a 1002 && j_hw (j_p ps 0) (.methodLink own k Lib.Math.min.name) && j_hw (j_p ps 1) (.static Lib.Math.min.name) && j_hw (j_p ps 2) (.initialized "java/lang/Math") && j_hw (j_p ps 3) (.code Lib.Math.min.name Lib.Math.min.code 2 (some .int))) ||
      (Nat.beq a 1003 && j_hw (j_p ps 0) (.methodLink own k Lib.MathLoose.min_long.x) && j_hw (j_p ps 1) (.static Lib.MathLoose.min_long.x) && j_hw (j_p ps 2) (.initialized "java/lang/Math") && j_hw (j_p ps 3) (.code Lib.MathLoose.min_long.x Lib.MathLoose.min_long.code 4 (some .long)))
      else decide (a < j_cnt) && j_lkok own k (j_p ps 0) (j_info a).1 && j_hw (j_p ps 1) (.initialized (j_info a).1.cls) && j_cdok (j_info a) (j_p ps 2) && j_hw (j_p ps 3) (.static (j_info a).1) && j_yok (j_info a).1 b)
  | .invokespecial k => D 3 && (bif Nat.beq a 999 then j_hw (j_p ps 0) (.methodLink own k objectInit) && j_hw (j_p ps 1) (.instanceMethod objectInit) && j_hw (j_p ps 2) (.code objectInit ⟨#[0xb1]⟩ 1 none)
      else decide (a < j_cnt) && j_lkok own k (j_p ps 0) (j_info a).1 && j_hw (j_p ps 1) (.initialized (j_info a).1.cls) && j_cdok (j_info a) (j_p ps 2) && j_hw (j_p ps 3) (.instanceMethod (j_info a).1) && decide ((j_info a).1.name = "<init>") && decide ((j_info a).2.2.2.1 = none) && j_yok (j_info a).1 b)
  | .ireturn => D 1 && j_by v (decide (I.2.2.2.1 = some .int)) (decide (I.2.2.2.1 = some .boolean)) false
  | .lreturn => D 1 && decide (I.2.2.2.1 = some .long)
  | .return_ => D 1 && decide (I.2.2.2.1 = none)
  | _ => D 1
/-- a method's own facts: its code stands in the tables, its name, its locals -/
def j_mok (i p : Nat) : Bool := j_cdok (j_info i) p && plainName (j_info i).1.cls && decide ((j_info i).2.2.1 ≤ 30) && decide ((j_meth i).2.2 = (j_info i).2.2.1)
def j_cds : List Nat := [418, 1035, 1117, 1023, 1120, 1059, 1031, 1039, 1043, 1051, 366, 561, 565, 1006, 1015, 112, 548, 508, 544, 553, 557, 192, 580, 917, 585, 589, 602, 606, 610, 614, 618, 932, 296, 633, 641, 645, 649, 653, 657, 661, 665, 707, 669, 703, 673, 687, 677, 683, 680, 699, 695, 691, 871, 899, 875, 890, 886, 879, 882, 896, 893, 269, 834, 826, 838, 846, 851, 862, 855, 240, 725, 716, 770, 766, 721, 782, 778, 787, 794, 804, 813, 817, 745, 736, 741, 757, 337, 926, 940, 955, 964, 973, 977, 392, 986, 995, 443, 519, 1107, 523, 1068, 1076, 536, 1087, 532, 1091, 1095, 104, 501, 512, 540, 572, 625, 629, 637, 712, 731, 753, 762, 774, 800, 809, 822, 830, 842, 867, 905, 913, 922, 936, 947, 960, 969, 982, 991, 1002, 1011, 1019, 1027, 1055, 1063, 1072, 1083, 1099, 1103, 1113, 1124, 504, 515, 528, 598, 576, 909, 951, 749, 1288, 1129, 1309, 1276, 1280, 1305, 1284, 1292, 1301, 1320, 1316, 1361, 1328, 1340, 1344, 1348, 1352, 1336, 1332, 1356, 1324, 1374, 1370, 1366, 1393, 1390, 1383, 1387, 1378, 1397, 1409, 1405, 1401, 1417, 1413, 1421, 1425, 1430, 1434, 1447, 1443, 1438, 1451, 1488, 1492, 1496, 1464, 1468, 1472, 1476, 1480, 1499, 1484, 1460, 1456, 1507, 1503, 1515, 1511, 1519, 1523, 1527, 1537, 1541, 1533, 1545, 1549, 1553, 1557, 1570, 1629, 1561, 1632, 1578, 1574, 1582, 1586, 1590, 1566, 1594, 1295, 1598, 1602, 1610, 1613, 1606, 1617, 1621, 1625, 1636, 1079, 998]
def j_okm (i : Nat) : Bool := j_mok i (j_p j_cds i) && (j_meth i).1.all (fun q => j_chk (j_info i) q.1 q.2)
set_option maxRecDepth 100000 in
theorem j_ok_0 : ∀ i, i < 23 → j_okm (0 + i) = true := by decide +kernel
set_option maxRecDepth 100000 in
theorem j_ok_23 : ∀ i, i < 23 → j_okm (23 + i) = true := by decide +kernel
set_option maxRecDepth 100000 in
theorem j_ok_46 : ∀ i, i < 28 → j_okm (46 + i) = true := by decide +kernel
set_option maxRecDepth 100000 in
theorem j_ok_74 : ∀ i, i < 17 → j_okm (74 + i) = true := by decide +kernel
set_option maxRecDepth 100000 in
theorem j_ok_91 : ∀ i, i < 31 → j_okm (91 + i) = true := by decide +kernel
set_option maxRecDepth 100000 in
theorem j_ok_122 : ∀ i, i < 29 → j_okm (122 + i) = true := by decide +kernel
set_option maxRecDepth 100000 in
theorem j_ok_151 : ∀ i, i < 13 → j_okm (151 + i) = true := by decide +kernel
set_option maxRecDepth 100000 in
theorem j_ok_164 : ∀ i, i < 19 → j_okm (164 + i) = true := by decide +kernel
set_option maxRecDepth 100000 in
theorem j_ok_183 : ∀ i, i < 14 → j_okm (183 + i) = true := by decide +kernel
set_option maxRecDepth 100000 in
theorem j_ok_197 : ∀ i, i < 18 → j_okm (197 + i) = true := by decide +kernel
set_option maxRecDepth 100000 in
theorem j_ok_215 : ∀ i, i < 18 → j_okm (215 + i) = true := by decide +kernel
set_option maxRecDepth 100000 in
theorem j_ok_233 : ∀ i, i < 14 → j_okm (233 + i) = true := by decide +kernel
theorem j_ok (i : Nat) (h : i < j_cnt) : j_okm i = true := by
  have h : i < 247 := h
  rcases Nat.lt_or_ge i 23 with h23 | h23
  · have e := j_ok_0 (i - 0) (by omega)
    rwa [show 0 + (i - 0) = i by omega] at e
  rcases Nat.lt_or_ge i 46 with h46 | h46
  · have e := j_ok_23 (i - 23) (by omega)
    rwa [show 23 + (i - 23) = i by omega] at e
  rcases Nat.lt_or_ge i 74 with h74 | h74
  · have e := j_ok_46 (i - 46) (by omega)
    rwa [show 46 + (i - 46) = i by omega] at e
  rcases Nat.lt_or_ge i 91 with h91 | h91
  · have e := j_ok_74 (i - 74) (by omega)
    rwa [show 74 + (i - 74) = i by omega] at e
  rcases Nat.lt_or_ge i 122 with h122 | h122
  · have e := j_ok_91 (i - 91) (by omega)
    rwa [show 91 + (i - 91) = i by omega] at e
  rcases Nat.lt_or_ge i 151 with h151 | h151
  · have e := j_ok_122 (i - 122) (by omega)
    rwa [show 122 + (i - 122) = i by omega] at e
  rcases Nat.lt_or_ge i 164 with h164 | h164
  · have e := j_ok_151 (i - 151) (by omega)
    rwa [show 151 + (i - 151) = i by omega] at e
  rcases Nat.lt_or_ge i 183 with h183 | h183
  · have e := j_ok_164 (i - 164) (by omega)
    rwa [show 164 + (i - 164) = i by omega] at e
  rcases Nat.lt_or_ge i 197 with h197 | h197
  · have e := j_ok_183 (i - 183) (by omega)
    rwa [show 183 + (i - 183) = i by omega] at e
  rcases Nat.lt_or_ge i 215 with h215 | h215
  · have e := j_ok_197 (i - 197) (by omega)
    rwa [show 197 + (i - 197) = i by omega] at e
  rcases Nat.lt_or_ge i 233 with h233 | h233
  · have e := j_ok_215 (i - 215) (by omega)
    rwa [show 215 + (i - 215) = i by omega] at e
  rcases Nat.lt_or_ge i 247 with h247 | h247
  · have e := j_ok_233 (i - 233) (by omega)
    rwa [show 233 + (i - 233) = i by omega] at e
  omega

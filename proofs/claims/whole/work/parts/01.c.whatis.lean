/-! what there is: classes, methods, links, fields, constants, the cells in the order in which they are made -/
def cnL : List String := ["SchoolLosing$Chances", "SchoolLosing$Choice", "SchoolLosing$Going", "SchoolLosing$Laws", "SchoolLosing$Reader", "SchoolLosing$Text", "SchoolLosing$Tokens", "SchoolLosing$Wants", "SchoolLosing", "SchoolLosingModel", "SchoolLosingLaw", "java/lang/Integer", "java/lang/Math", "java/lang/String", "java/lang/StringLatin1", "java/util/Arrays", "jdk/internal/util/Preconditions"]
def cn (k : Nat) : String := cnL.getD k ""
abbrev clsX : List vw_C := [(RX0, TX0, 2), (RX1, TX1, 4), (RX2, TX2, 6), (RX3, TX3, 5), (RX4, TX4, 13), (RX5, TX5, 20), (RX6, TX6, 6), (RX7, TX7, 2), (RX8, TX8, 15), (RX9, TX9, 75)]
def nfX (k : Nat) : Nat := [2, 4, 6, 5, 13, 20, 6, 2, 15, 75].getD k 0
def ftX (k : Nat) : Nat → FieldType := match k with
  | 0 => tyX0
  | 1 => tyX1
  | 2 => tyX2
  | 3 => tyX3
  | 4 => tyX4
  | 5 => tyX5
  | 6 => tyX6
  | 7 => tyX7
  | 8 => tyX8
  | _ => tyX9
abbrev MI : Type := MethodName × ByteArray × Nat × Option FieldType × Nat × Nat × Nat × Nat
def mtb0 : List MI := [(yX0_init, cX0_init, 1, none, 0, 1, 20, 1),
  (yX0_look, cX0_look, 7, none, 0, 2, 49, 6),
  (yX0_leave, cX0_leave, 7, none, 0, 1, 23, 5),
  (yX0_likeliest, cX0_likeliest, 3, (some .int), 0, 0, 0, 1),
  (yX0_weight, cX0_weight, 4, (some .int), 0, 0, 0, 3),
  (yX1_init, cX1_init, 1, none, 1, 1, 20, 1),
  (yX1_look, cX1_look, 5, none, 1, 2, 48, 3),
  (yX1_pick, cX1_pick, 4, (some .int), 1, 2, 48, 2),
  (yX1_firstBest, cX1_firstBest, 5, (some .int), 1, 1, 24, 3),
  (yX1_costOf, cX1_costOf, 5, (some .int), 1, 0, 0, 4),
  (yX2_init, cX2_init, 1, none, 2, 1, 20, 1),
  (yX2_clear, cX2_clear, 2, none, 2, 1, 23, 1),
  (yX2_remember, cX2_remember, 1, none, 2, 1, 39, 1),
  (yX2_comeBack, cX2_comeBack, 1, (some .boolean), 2, 1, 39, 1),
  (yX2_keep, cX2_keep, 2, none, 2, 1, 39, 2),
  (yX2_goOnFrom, cX2_goOnFrom, 2, none, 2, 1, 39, 2)]
def mtb1 : List MI := [(yX2_heldSlots, cX2_heldSlots, 3, (some .int), 2, 0, 0, 1),
  (yX3_init, cX3_init, 1, none, 3, 1, 20, 1),
  (yX3_clear, cX3_clear, 1, none, 3, 2, 43, 1),
  (yX3_writeShort, cX3_writeShort, 3, none, 3, 1, 21, 3),
  (yX3_write, cX3_write, 2, none, 3, 0, 0, 2),
  (yX3_aimAtNext, cX3_aimAtNext, 2, none, 3, 0, 0, 2),
  (yX3_seeing, cX3_seeing, 5, (some .int), 3, 2, 49, 5),
  (yX3_learning, cX3_learning, 5, (some .int), 3, 2, 49, 5),
  (yX3_suiting, cX3_suiting, 4, (some .int), 3, 2, 49, 4),
  (yX3_payment, cX3_payment, 2, (some .int), 3, 2, 49, 2),
  (yX3_value, cX3_value, 8, (some .int), 3, 1, 22, 2),
  (yX3_joined, cX3_joined, 3, (some .int), 3, 0, 0, 3),
  (yX4_init, cX4_init, 1, none, 4, 5, 108, 1),
  (yX4_readAll, cX4_readAll, 3, (some .int), 4, 6, 136, 2),
  (yX4_readTell, cX4_readTell, 2, none, 4, 5, 115, 2),
  (yX4_readEnd, cX4_readEnd, 6, none, 4, 3, 66, 1)]
def mtb2 : List MI := [(yX4_readTurn, cX4_readTurn, 6, none, 4, 4, 90, 1),
  (yX4_readMove, cX4_readMove, 5, none, 4, 3, 66, 3),
  (yX4_readMan, cX4_readMan, 3, none, 4, 3, 66, 1),
  (yX4_readLesson, cX4_readLesson, 8, none, 4, 3, 66, 1),
  (yX4_readCourt, cX4_readCourt, 3, none, 4, 3, 66, 1),
  (yX4_readDie, cX4_readDie, 4, none, 4, 3, 66, 1),
  (yX4_readLaw, cX4_readLaw, 5, none, 4, 4, 87, 2),
  (yX4_readSum, cX4_readSum, 5, none, 4, 3, 63, 1),
  (yX4_readUnit, cX4_readUnit, 2, none, 4, 2, 42, 2),
  (yX4_keepAside, cX4_keepAside, 2, none, 4, 2, 42, 2),
  (yX4_writeWaiting, cX4_writeWaiting, 2, none, 4, 1, 21, 2),
  (yX4_kind, cX4_kind, 1, (some .int), 4, 0, 0, 1),
  (yX4_here, cX4_here, 1, (some .int), 4, 0, 0, 1),
  (yX4_take, cX4_take, 2, (some .boolean), 4, 1, 21, 2),
  (yX4_opens, cX4_opens, 4, (some .boolean), 4, 2, 42, 4),
  (yX4_takeInt, cX4_takeInt, 5, (some .int), 4, 2, 42, 3)]
def mtb3 : List MI := [(yX4_takeNewName, cX4_takeNewName, 2, (some .long), 4, 2, 42, 1),
  (yX4_takeKnown, cX4_takeKnown, 4, (some .int), 4, 2, 42, 2),
  (yX4_indexOf, cX4_indexOf, 4, (some .int), 4, 0, 0, 2),
  (yX4_know, cX4_know, 5, none, 4, 0, 0, 4),
  (yX4_stop, cX4_stop, 2, none, 4, 0, 0, 2),
  (yX4_note, cX4_note, 4, none, 4, 0, 0, 3),
  (yX5_init, cX5_init, 1, none, 5, 2, 40, 1),
  (yX5_clear, cX5_clear, 1, none, 5, 3, 63, 1),
  (yX5_compareDice, cX5_compareDice, 3, none, 5, 1, 25, 1),
  (yX5_throwsLower, cX5_throwsLower, 6, (some .int), 5, 0, 0, 3),
  (yX6_init, cX6_init, 4, none, 6, 4, 85, 1),
  (yX6_addFour, cX6_addFour, 3, none, 6, 0, 0, 2),
  (yX6_split, cX6_split, 4, none, 6, 5, 114, 1),
  (yX6_behindBlanks, cX6_behindBlanks, 3, (some .int), 6, 1, 20, 2),
  (yX6_splitOne, cX6_splitOne, 4, (some .int), 6, 4, 91, 3),
  (yX6_splitWord, cX6_splitWord, 4, (some .int), 6, 1, 23, 3)]
def mtb4 : List MI := [(yX6_kindOfWord, cX6_kindOfWord, 4, (some .int), 6, 0, 0, 2),
  (yX6_splitNumber, cX6_splitNumber, 4, (some .int), 6, 1, 20, 3),
  (yX6_withLetter, cX6_withLetter, 3, (some .long), 6, 0, 0, 2),
  (yX6_isBlank, cX6_isBlank, 1, (some .boolean), 6, 0, 0, 1),
  (yX6_isLetter, cX6_isLetter, 1, (some .boolean), 6, 0, 0, 1),
  (yX6_isDigit, cX6_isDigit, 1, (some .boolean), 6, 0, 0, 1),
  (yX7_init, cX7_init, 1, none, 7, 1, 20, 1),
  (yX7_look, cX7_look, 5, none, 7, 3, 72, 4),
  (yX7_lookAgainstWinner, cX7_lookAgainstWinner, 4, none, 7, 4, 96, 4),
  (yX7_choose, cX7_choose, 6, none, 7, 2, 47, 4),
  (yX7_liking, cX7_liking, 7, (some .int), 7, 1, 21, 5),
  (yX8_init, cX8_init, 1, none, 8, 6, 128, 1),
  (yX8_feed, cX8_feed, 6, (some .int), 8, 1, 22, 6),
  (yX8_back, cX8_back, 2, (some .int), 8, 0, 0, 2),
  (yX8_read, cX8_read, 3, (some .int), 8, 7, 158, 1),
  (yX8_place, cX8_place, 1, (some .int), 8, 0, 0, 1)]
def mtb5 : List MI := [(yX8_position, cX8_position, 3, (some .int), 8, 1, 21, 3),
  (yX8_move, cX8_move, 5, (some .int), 8, 2, 43, 4),
  (yX8_man, cX8_man, 3, (some .int), 8, 2, 42, 3),
  (yX8_game, cX8_game, 2, (some .int), 8, 1, 20, 2),
  (yX8_count, cX8_count, 2, (some .int), 8, 1, 22, 2),
  (yX8_begin, cX8_begin, 7, (some .boolean), 8, 2, 59, 6),
  (yX8_steps, cX8_steps, 3, (some .int), 8, 5, 123, 2),
  (yX8_make, cX8_make, 3, (some .int), 8, 5, 123, 2),
  (yX8_learn, cX8_learn, 6, (some .int), 8, 4, 96, 3),
  (yX8_undo, cX8_undo, 1, (some .boolean), 8, 2, 59, 1),
  (yX8_hold, cX8_hold, 2, (some .boolean), 8, 2, 60, 2),
  (yX8_restore, cX8_restore, 2, (some .boolean), 8, 2, 60, 2),
  (yX8_want, cX8_want, 4, (some .int), 8, 4, 96, 4),
  (yX8_wants, cX8_wants, 4, (some .int), 8, 4, 96, 4),
  (yX8_surely, cX8_surely, 6, (some .int), 8, 6, 149, 6),
  (yX8_loses, cX8_loses, 5, (some .int), 8, 6, 149, 5)]
def mtb6 : List MI := [(yX8_seen, cX8_seen, 6, (some .int), 8, 4, 97, 6),
  (yX8_cup, cX8_cup, 6, (some .int), 8, 1, 21, 2),
  (yX8_likely, cX8_likely, 7, (some .int), 8, 5, 120, 7),
  (yX8_most, cX8_most, 5, (some .int), 8, 5, 120, 5),
  (yX8_order, cX8_order, 4, (some .int), 8, 4, 96, 2),
  (yX8_courts, cX8_courts, 5, (some .int), 8, 3, 72, 2),
  (yX8_less, cX8_less, 4, (some .int), 8, 1, 31, 4),
  (yX8_reply, cX8_reply, 2, (some .int), 8, 1, 23, 2),
  (yX8_rests, cX8_rests, 5, (some .int), 8, 2, 45, 2),
  (yX8_fine, cX8_fine, 8, (some .int), 8, 3, 70, 1),
  (yX8_pays, cX8_pays, 2, (some .int), 8, 3, 70, 2),
  (yX8_tell, cX8_tell, 4, (some .int), 8, 2, 43, 4),
  (yX8_forget, cX8_forget, 2, (some .int), 8, 0, 0, 1),
  (yX8_meant, cX8_meant, 8, (some .int), 8, 6, 146, 4),
  (yX8_set, cX8_set, 8, (some .int), 8, 5, 119, 1),
  (yX8_isPosition, cX8_isPosition, 2, (some .boolean), 8, 0, 0, 2)]
def mtb7 : List MI := [(yX8_isTurn, cX8_isTurn, 2, (some .boolean), 8, 1, 21, 2),
  (yX8_isMove, cX8_isMove, 3, (some .boolean), 8, 1, 21, 3),
  (yX8_isMan, cX8_isMan, 2, (some .boolean), 8, 0, 0, 2),
  (yX8_isDie, cX8_isDie, 2, (some .boolean), 8, 0, 0, 2),
  (yX8_isOn, cX8_isOn, 1, (some .boolean), 8, 0, 0, 1),
  (yX8_areAims, cX8_areAims, 2, (some .boolean), 8, 0, 0, 2),
  (yX8_canAskSurely, cX8_canAskSurely, 5, (some .boolean), 8, 1, 21, 5),
  (yX8_canAskLikely, cX8_canAskLikely, 5, (some .boolean), 8, 1, 21, 5),
  (yX8_manCell, cX8_manCell, 2, (some .int), 8, 0, 0, 2),
  (yX8_skillOf, cX8_skillOf, 2, (some .int), 8, 1, 21, 2),
  (yX8_hoursOf, cX8_hoursOf, 4, (some .int), 8, 3, 73, 4),
  (yX8_heldToLimits, cX8_heldToLimits, 1, (some .int), 8, 1, 21, 1),
  (yX8_isSeen, cX8_isSeen, 5, (some .boolean), 8, 3, 73, 5),
  (yX8_stirred, cX8_stirred, 3, (some .int), 8, 0, 0, 2),
  (yX8_lot, cX8_lot, 4, (some .int), 8, 1, 22, 3),
  (yX8_moveOfStep, cX8_moveOfStep, 4, (some .int), 8, 4, 96, 1)]
def mtb8 : List MI := [(yX8_goBy, cX8_goBy, 7, none, 8, 4, 97, 2),
  (yX8_endFor, cX8_endFor, 5, none, 8, 1, 21, 3),
  (yX8_sureLosses, cX8_sureLosses, 7, (some .int), 8, 5, 123, 5),
  (yX8_sureByOwnMove, cX8_sureByOwnMove, 7, (some .int), 8, 4, 97, 4),
  (yX8_sureByAnyMove, cX8_sureByAnyMove, 4, (some .int), 8, 0, 0, 2),
  (yX8_lookAtChances, cX8_lookAtChances, 5, none, 8, 4, 96, 5),
  (yX8_weightOfKnown, cX8_weightOfKnown, 8, (some .long), 8, 5, 119, 4),
  (yX8_bestReply, cX8_bestReply, 4, (some .int), 8, 0, 0, 2),
  (yX8_isBestReply, cX8_isBestReply, 3, (some .boolean), 8, 1, 23, 3),
  (yX8_lessened, cX8_lessened, 12, (some .int), 8, 0, 0, 3),
  (yX9_init, cX9_init, 1, none, 9, 2, 48, 1),
  (yX9_feed, cX9_feed, 6, (some .int), 9, 1, 22, 6),
  (yX9_put, cX9_put, 3, none, 9, 0, 0, 2),
  (yX9_back, cX9_back, 2, (some .int), 9, 0, 0, 2),
  (yX9_byteAt, cX9_byteAt, 2, (some .int), 9, 0, 0, 2),
  (yX9_isDigit, cX9_isDigit, 1, (some .boolean), 9, 0, 0, 1)]
def mtb9 : List MI := [(yX9_isLetter, cX9_isLetter, 1, (some .boolean), 9, 0, 0, 1),
  (yX9_appends, cX9_appends, 3, (some .long), 9, 0, 0, 2),
  (yX9_word, cX9_word, 7, (some .long), 9, 1, 22, 7),
  (yX9_token, cX9_token, 6, none, 9, 0, 0, 5),
  (yX9_cut, cX9_cut, 8, none, 9, 2, 49, 1),
  (yX9_sign, cX9_sign, 5, (some .int), 9, 1, 25, 4),
  (yX9_is, cX9_is, 2, (some .boolean), 9, 0, 0, 2),
  (yX9_fail, cX9_fail, 2, none, 9, 0, 0, 2),
  (yX9_wrong, cX9_wrong, 4, none, 9, 0, 0, 3),
  (yX9_goesOn, cX9_goesOn, 1, none, 9, 1, 21, 1),
  (yX9_must, cX9_must, 2, none, 9, 2, 41, 2),
  (yX9_plain, cX9_plain, 3, none, 9, 0, 0, 2),
  (yX9_read, cX9_read, 2, (some .int), 9, 7, 147, 1),
  (yX9_place, cX9_place, 1, (some .int), 9, 0, 0, 1),
  (yX9_roomFor, cX9_roomFor, 3, none, 9, 2, 41, 3),
  (yX9_tellOne, cX9_tellOne, 2, none, 9, 6, 126, 1)]
def mtb10 : List MI := [(yX9_named, cX9_named, 3, (some .int), 9, 3, 62, 1),
  (yX9_ends, cX9_ends, 4, none, 9, 3, 62, 4),
  (yX9_known, cX9_known, 4, (some .int), 9, 3, 62, 2),
  (yX9_bounded, cX9_bounded, 4, (some .int), 9, 2, 41, 3),
  (yX9_tellEnd, cX9_tellEnd, 5, none, 9, 4, 85, 1),
  (yX9_tellTurn, cX9_tellTurn, 6, none, 9, 4, 85, 1),
  (yX9_tellMan, cX9_tellMan, 3, none, 9, 4, 85, 1),
  (yX9_tellLesson, cX9_tellLesson, 6, none, 9, 4, 85, 1),
  (yX9_tellCourt, cX9_tellCourt, 2, none, 9, 4, 85, 1),
  (yX9_tellDie, cX9_tellDie, 4, none, 9, 4, 85, 1),
  (yX9_tellLaw, cX9_tellLaw, 4, none, 9, 5, 103, 2),
  (yX9_term, cX9_term, 1, none, 9, 4, 83, 1),
  (yX9_emit, cX9_emit, 3, none, 9, 0, 0, 3),
  (yX9_comesOut, cX9_comesOut, 3, none, 9, 1, 22, 2),
  (yX9_expression, cX9_expression, 3, none, 9, 3, 61, 1),
  (yX9_unit, cX9_unit, 1, none, 9, 2, 41, 1)]
def mtb11 : List MI := [(yX9_termOf, cX9_termOf, 8, (some .int), 9, 0, 0, 3),
  (yX9_in, cX9_in, 3, (some .boolean), 9, 0, 0, 3),
  (yX9_bits, cX9_bits, 3, (some .int), 9, 0, 0, 1),
  (yX9_isPosition, cX9_isPosition, 2, (some .boolean), 9, 1, 22, 2),
  (yX9_isMan, cX9_isMan, 2, (some .boolean), 9, 1, 22, 2),
  (yX9_isAim, cX9_isAim, 1, (some .boolean), 9, 1, 22, 1),
  (yX9_turnAt, cX9_turnAt, 2, (some .int), 9, 0, 0, 2),
  (yX9_manyMoves, cX9_manyMoves, 2, (some .int), 9, 0, 0, 2),
  (yX9_leadsTo, cX9_leadsTo, 3, (some .int), 9, 0, 0, 3),
  (yX9_begins, cX9_begins, 2, none, 9, 1, 21, 1),
  (yX9_noGame, cX9_noGame, 2, none, 9, 0, 0, 1),
  (yX9_keepsRow, cX9_keepsRow, 2, none, 9, 0, 0, 1),
  (yX9_copies, cX9_copies, 2, none, 9, 0, 0, 1),
  (yX9_mixed, cX9_mixed, 3, (some .int), 9, 0, 0, 2),
  (yX9_lotOf, cX9_lotOf, 3, (some .int), 9, 1, 22, 3),
  (yX9_skillOf, cX9_skillOf, 3, (some .int), 9, 1, 22, 2)]
def mtb12 : List MI := [(yX9_looks, cX9_looks, 2, none, 9, 0, 0, 1),
  (yX9_asks, cX9_asks, 7, (some .int), 9, 1, 27, 3),
  (yX9_held, cX9_held, 1, (some .int), 9, 0, 0, 1),
  (yX9_isSeen, cX9_isSeen, 6, (some .boolean), 9, 2, 53, 6),
  (yX9_learnsIn, cX9_learnsIn, 4, (some .int), 9, 2, 53, 4),
  (yX9_ratherBy, cX9_ratherBy, 2, (some .int), 9, 0, 0, 2),
  (yX9_fillsWant, cX9_fillsWant, 7, none, 9, 1, 22, 3),
  (yX9_oneIsOver, cX9_oneIsOver, 4, none, 9, 0, 0, 3),
  (yX9_makes, cX9_makes, 5, none, 9, 3, 78, 2),
  (yX9_stepGoes, cX9_stepGoes, 3, none, 9, 4, 102, 1),
  (yX9_position, cX9_position, 3, (some .int), 9, 2, 43, 3),
  (yX9_isMove, cX9_isMove, 3, (some .boolean), 9, 2, 43, 3),
  (yX9_move, cX9_move, 4, (some .int), 9, 3, 65, 4),
  (yX9_man, cX9_man, 3, (some .int), 9, 2, 44, 3),
  (yX9_game, cX9_game, 2, (some .int), 9, 1, 22, 2),
  (yX9_keeps, cX9_keeps, 2, none, 9, 1, 21, 1)]
def mtb13 : List MI := [(yX9_begin, cX9_begin, 6, (some .boolean), 9, 2, 43, 6),
  (yX9_steps, cX9_steps, 3, (some .int), 9, 5, 124, 2),
  (yX9_make, cX9_make, 3, (some .int), 9, 4, 102, 2),
  (yX9_learn, cX9_learn, 4, (some .int), 9, 3, 76, 3),
  (yX9_undo, cX9_undo, 2, (some .boolean), 9, 0, 0, 1),
  (yX9_want, cX9_want, 4, (some .int), 9, 2, 48, 4),
  (yX9_wants, cX9_wants, 4, (some .int), 9, 2, 48, 4),
  (yX9_fillsSure, cX9_fillsSure, 11, none, 9, 3, 78, 5),
  (yX9_isSurely, cX9_isSurely, 5, (some .boolean), 9, 2, 43, 5),
  (yX9_surely, cX9_surely, 6, (some .int), 9, 4, 108, 6),
  (yX9_loses, cX9_loses, 7, (some .int), 9, 4, 108, 5),
  (yX9_seen, cX9_seen, 6, (some .int), 9, 3, 78, 6),
  (yX9_cup, cX9_cup, 5, (some .int), 9, 0, 0, 2),
  (yX9_sixtieths, cX9_sixtieths, 5, (some .int), 9, 1, 21, 4),
  (yX9_sixties, cX9_sixties, 3, (some .int), 9, 0, 0, 1),
  (yX9_fillsOften, cX9_fillsOften, 9, none, 9, 2, 48, 5)]
def mtb14 : List MI := [(yX9_common, cX9_common, 5, (some .int), 9, 0, 0, 2),
  (yX9_lineOf, cX9_lineOf, 4, (some .int), 9, 1, 24, 3),
  (yX9_isLikely, cX9_isLikely, 5, (some .boolean), 9, 2, 43, 5),
  (yX9_likely, cX9_likely, 7, (some .int), 9, 3, 76, 7),
  (yX9_most, cX9_most, 8, (some .int), 9, 3, 76, 5),
  (yX9_sixes, cX9_sixes, 3, (some .int), 9, 0, 0, 1),
  (yX9_hoursBy, cX9_hoursBy, 7, (some .int), 9, 3, 76, 2),
  (yX9_fillsOrder, cX9_fillsOrder, 3, none, 9, 4, 102, 1),
  (yX9_order, cX9_order, 2, (some .int), 9, 5, 124, 2),
  (yX9_suitsBy, cX9_suitsBy, 3, (some .int), 9, 2, 53, 3),
  (yX9_suitsAll, cX9_suitsAll, 7, (some .int), 9, 3, 75, 2),
  (yX9_fillsCourts, cX9_fillsCourts, 3, none, 9, 4, 101, 1),
  (yX9_courts, cX9_courts, 2, (some .int), 9, 5, 123, 2),
  (yX9_isDie, cX9_isDie, 2, (some .boolean), 9, 1, 22, 2),
  (yX9_lessOf, cX9_lessOf, 5, (some .int), 9, 0, 0, 3),
  (yX9_less, cX9_less, 4, (some .int), 9, 2, 47, 4)]
def mtb15 : List MI := [(yX9_reply, cX9_reply, 4, (some .int), 9, 2, 43, 2),
  (yX9_isResting, cX9_isResting, 4, (some .boolean), 9, 1, 24, 3),
  (yX9_rests, cX9_rests, 5, (some .int), 9, 2, 47, 2),
  (yX9_paysFor, cX9_paysFor, 2, (some .int), 9, 2, 53, 2),
  (yX9_isEnough, cX9_isEnough, 7, (some .boolean), 9, 3, 74, 2),
  (yX9_fine, cX9_fine, 2, (some .int), 9, 4, 100, 1),
  (yX9_pays, cX9_pays, 2, (some .int), 9, 3, 74, 2),
  (yX9_tell, cX9_tell, 4, (some .int), 9, 3, 65, 4),
  (yX9_forget, cX9_forget, 2, (some .int), 9, 0, 0, 1),
  (yX9_oftenWith, cX9_oftenWith, 6, (some .int), 9, 3, 70, 4),
  (yX9_meant, cX9_meant, 6, (some .int), 9, 4, 95, 4),
  (yX9_fillsFor, cX9_fillsFor, 3, none, 9, 2, 48, 3),
  (yX9_set, cX9_set, 7, (some .int), 9, 3, 70, 1),
  (yX9_hold, cX9_hold, 3, (some .boolean), 9, 1, 22, 2),
  (yX9_restore, cX9_restore, 3, (some .boolean), 9, 1, 22, 2),
  (yX9_count, cX9_count, 2, (some .int), 9, 0, 0, 2)]
def mtb16 : List MI := [(yJ6_bitCount_0f7a4, cJ6_bitCount_0f7a4, 1, (some .int), 11, 0, 0, 1),
  (yJ0_length_8abf5, cJ0_length_8abf5, 1, (some .int), 13, 1, 20, 1),
  (yJ0_charAt_5068e, cJ0_charAt_5068e, 2, (some .char), 13, 3, 64, 2),
  (yJ0_indexOf_0f7a4, cJ0_indexOf_0f7a4, 2, (some .int), 13, 3, 70, 2),
  (yJ0_indexOf_7cf53, cJ0_indexOf_7cf53, 3, (some .int), 13, 2, 48, 3),
  (yJ0_coder_7d493, cJ0_coder_7d493, 1, (some .byte), 13, 0, 0, 1),
  (yJ0_isLatin1_aae02, cJ0_isLatin1_aae02, 1, (some .boolean), 13, 0, 0, 1),
  (yJ0_checkIndex_df160, cJ0_checkIndex_df160, 2, none, 13, 1, 22, 2),
  (yJ1_charAt_3b067, cJ1_charAt_3b067, 2, (some .char), 14, 2, 43, 2),
  (yJ1_canEncode_9a6ad, cJ1_canEncode_9a6ad, 1, (some .boolean), 14, 0, 0, 1),
  (yJ1_indexOf_4cfef, cJ1_indexOf_4cfef, 4, (some .int), 14, 1, 25, 4),
  (yJ1_indexOfChar_4cfef, cJ1_indexOfChar_4cfef, 6, (some .int), 14, 0, 0, 4),
  (yJ7_fill_d0a16, cJ7_fill_d0a16, 5, none, 15, 0, 0, 2),
  (yJ7_fill_53178, cJ7_fill_53178, 4, none, 15, 0, 0, 2),
  (yJ3_checkIndex_8e157, cJ3_checkIndex_8e157, 3, (some .int), 16, 0, 0, 3),
  (x, code, 4, (some .boolean), 10, 8, 180, 1)]
def mtb : List (List MI) := [mtb0, mtb1, mtb2, mtb3, mtb4, mtb5, mtb6, mtb7, mtb8, mtb9, mtb10, mtb11, mtb12, mtb13, mtb14, mtb15, mtb16]
def mth (y : Nat) : MI := (mtb.getD (y / 16) []).getD (y % 16) (x, code, 0, none, 0, 0, 0, 0)
def nmM (y : Nat) : MethodName := (mth y).1
def cdM (y : Nat) : ByteArray := (mth y).2.1
def mlM (y : Nat) : Nat := (mth y).2.2.1
def rtM (y : Nat) : Option FieldType := (mth y).2.2.2.1
def ocM (y : Nat) : Nat := (mth y).2.2.2.2.1
def rfM (y : Nat) : Nat := (mth y).2.2.2.2.2.1
def rlM (y : Nat) : Nat := (mth y).2.2.2.2.2.2.1
def naM (y : Nat) : Nat := (mth y).2.2.2.2.2.2.2
def lnk0 : List (Nat × Nat × Nat) := [(3, 4, 0), (18, 1, 268), (40, 0, 2), (50, 1, 4)]
def lnk1 : List (Nat × Nat × Nat) := [(1, 4, 0), (19, 7, 0), (29, 1, 256), (35, 0, 8), (38, 0, 9)]
def lnk2 : List (Nat × Nat × Nat) := [(3, 4, 0), (25, 1, 269), (38, 5, 0), (44, 7, 0)]
def lnk3 : List (Nat × Nat × Nat) := [(5, 4, 0), (28, 0, 19), (32, 0, 20), (36, 1, 269), (42, 0, 26), (46, 1, 27)]
def lnk4 : List (Nat × Nat × Nat) := [(3, 4, 0), (11, 2, 58), (40, 0, 55), (60, 0, 43), (64, 0, 30), (68, 0, 56), (71, 0, 31), (74, 0, 32), (77, 0, 34), (80, 0, 35), (83, 0, 36), (86, 0, 37), (89, 0, 38), (92, 0, 45), (96, 0, 47), (103, 0, 52), (109, 0, 46), (113, 0, 48), (129, 0, 51), (133, 0, 44), (136, 0, 33), (140, 0, 53), (143, 0, 49), (153, 6, 0), (197, 0, 39), (200, 0, 20), (203, 0, 21), (212, 0, 41), (215, 0, 40), (218, 0, 42), (230, 0, 50)]
def lnk5 : List (Nat × Nat × Nat) := [(3, 4, 0), (53, 3, 17), (77, 0, 18), (80, 0, 57)]
def lnk6 : List (Nat × Nat × Nat) := [(3, 4, 0), (31, 0, 257), (37, 0, 258), (41, 1, 66), (48, 0, 61), (52, 0, 62), (56, 1, 67), (60, 1, 68), (63, 0, 63), (66, 1, 69), (69, 0, 65), (74, 0, 259), (77, 0, 64)]
def lnk7 : List (Nat × Nat × Nat) := [(3, 4, 0), (30, 0, 73), (34, 0, 71), (38, 0, 74), (45, 8, 0)]
def lnk8 : List (Nat × Nat × Nat) := [(3, 4, 0), (11, 3, 28), (23, 3, 10), (30, 3, 70), (37, 3, 0), (44, 3, 5), (68, 3, 54), (80, 0, 55), (83, 0, 11), (89, 0, 59), (93, 0, 60), (96, 0, 29), (104, 0, 111), (120, 0, 113), (130, 0, 114), (134, 0, 121), (144, 1, 120), (148, 0, 116), (170, 0, 16), (174, 0, 112), (177, 1, 117), (180, 0, 12), (183, 0, 127), (186, 0, 128), (192, 1, 256), (197, 0, 122), (201, 0, 13), (204, 0, 14), (211, 0, 15), (214, 0, 71), (222, 0, 118), (226, 0, 130), (230, 0, 124), (233, 0, 119), (236, 0, 133), (244, 1, 137), (248, 0, 3), (255, 0, 6), (261, 0, 7), (271, 0, 24), (276, 1, 123), (279, 0, 115), (287, 0, 135), (290, 0, 136), (293, 0, 25), (296, 8, 0), (303, 0, 134), (307, 0, 72), (313, 7, 0), (319, 0, 23), (322, 6, 0), (325, 0, 22), (332, 1, 125), (335, 0, 126), (338, 0, 129), (341, 0, 131), (344, 0, 132), (347, 0, 1), (350, 1, 4)]
def lnk9 : List (Nat × Nat × Nat) := [(7, 4, 0), (176, 0, 155), (180, 1, 146), (184, 0, 185), (187, 0, 187), (193, 0, 140), (201, 1, 145), (208, 0, 142), (212, 0, 147), (216, 1, 144), (220, 1, 143), (223, 0, 149), (242, 0, 151), (245, 0, 150), (248, 0, 153), (251, 0, 148), (272, 0, 159), (281, 0, 158), (285, 0, 164), (288, 0, 165), (291, 0, 166), (294, 0, 167), (297, 0, 168), (300, 0, 169), (303, 0, 163), (307, 0, 154), (310, 0, 170), (313, 0, 152), (316, 0, 160), (320, 0, 161), (324, 0, 162), (327, 0, 174), (330, 0, 171), (336, 0, 172), (339, 0, 175), (342, 0, 173), (350, 1, 177), (354, 0, 186), (358, 1, 189), (361, 1, 178), (364, 0, 176), (367, 0, 192), (370, 0, 191), (373, 0, 193), (376, 1, 194), (379, 0, 182), (382, 0, 183), (385, 0, 184), (388, 1, 197), (391, 0, 195), (395, 0, 199), (398, 0, 198), (401, 0, 190), (404, 0, 200), (407, 0, 179), (410, 0, 203), (414, 0, 180), (418, 0, 188), (421, 1, 181), (424, 0, 207), (427, 0, 201), (430, 0, 196), (433, 0, 216), (437, 0, 215), (441, 1, 222), (444, 0, 221), (447, 1, 224), (450, 0, 226), (453, 0, 223), (456, 1, 225), (460, 1, 229), (466, 0, 230), (472, 0, 231), (475, 0, 233), (478, 0, 234), (484, 0, 235), (487, 0, 237), (490, 0, 238), (493, 0, 241), (496, 0, 243), (499, 0, 244), (502, 0, 251), (505, 0, 249)]
def lnk10 : List (Nat × Nat × Nat) := [(9, 2, 75), (12, 2, 138), (13, 0, 76), (17, 0, 139), (18, 0, 77), (22, 0, 141), (23, 0, 78), (27, 0, 156), (28, 0, 79), (31, 0, 157), (32, 0, 80), (36, 0, 202), (37, 0, 81), (41, 0, 204), (42, 0, 82), (45, 0, 205), (46, 0, 83), (49, 0, 206), (50, 0, 85), (54, 0, 208), (55, 0, 86), (58, 0, 209), (59, 0, 87), (62, 0, 210), (63, 0, 88), (66, 0, 211), (67, 0, 89), (71, 0, 212), (72, 0, 92), (76, 0, 213), (77, 0, 93), (80, 0, 214), (81, 0, 94), (84, 0, 217), (85, 0, 95), (89, 0, 218), (90, 0, 96), (93, 0, 219), (94, 0, 97), (98, 0, 220), (99, 0, 98), (103, 0, 227), (104, 0, 99), (107, 0, 228), (108, 0, 100), (111, 0, 232), (112, 0, 101), (115, 0, 236), (116, 0, 102), (119, 0, 239), (120, 0, 103), (123, 0, 240), (124, 0, 104), (127, 0, 242), (128, 0, 105), (131, 0, 245), (132, 0, 106), (135, 0, 246), (136, 0, 107), (139, 0, 247), (140, 0, 108), (143, 0, 248), (144, 0, 109), (147, 0, 250), (148, 0, 110), (151, 0, 252), (152, 0, 90), (156, 0, 253), (157, 0, 91), (160, 0, 254), (161, 0, 84), (164, 0, 255)]
def lnk11 : List (Nat × Nat × Nat) := []
def lnk12 : List (Nat × Nat × Nat) := []
def lnk13 : List (Nat × Nat × Nat) := [(335, 0, 261), (492, 0, 262), (495, 1, 264), (505, 0, 257), (633, 0, 260), (637, 1, 266), (1059, 1, 270)]
def lnk14 : List (Nat × Nat × Nat) := [(9, 1, 263), (38, 7, 0), (88, 1, 265), (92, 6, 0), (95, 1, 267)]
def lnk15 : List (Nat × Nat × Nat) := []
def lnk16 : List (Nat × Nat × Nat) := []
def lnkL : List (List (Nat × Nat × Nat)) := [lnk0, lnk1, lnk2, lnk3, lnk4, lnk5, lnk6, lnk7, lnk8, lnk9, lnk10, lnk11, lnk12, lnk13, lnk14, lnk15, lnk16]
def pick3 (l : List (Nat × Nat × Nat)) (i : Nat) : Option (Nat × Nat) := match l with
  | [] => none
  | q :: r => if q.1 = i then some q.2 else pick3 r i
def lnkM (k i : Nat) : Option (Nat × Nat) := pick3 (lnkL.getD k []) i
def fdt0 : List (Nat × Nat × Nat) := [(9, 0, 0), (15, 0, 1), (26, 5, 0), (32, 5, 1), (35, 7, 1), (44, 5, 2), (45, 5, 4)]
def fdt1 : List (Nat × Nat × Nat) := [(9, 1, 0), (13, 1, 1), (16, 1, 2), (25, 1, 3)]
def fdt2 : List (Nat × Nat × Nat) := [(9, 2, 0), (15, 2, 1), (19, 2, 2), (22, 2, 3), (31, 2, 5), (35, 2, 4)]
def fdt3 : List (Nat × Nat × Nat) := [(11, 3, 0), (15, 3, 1), (18, 3, 2), (21, 3, 3), (24, 3, 4)]
def fdt4 : List (Nat × Nat × Nat) := [(12, 4, 0), (18, 4, 1), (22, 4, 2), (26, 4, 3), (29, 4, 4), (32, 4, 10), (36, 4, 7), (45, 4, 6), (48, 4, 8), (51, 4, 9), (54, 4, 11), (57, 4, 12), (100, 5, 19), (106, 5, 14), (117, 5, 0), (120, 5, 1), (123, 5, 2), (126, 5, 3), (147, 5, 5), (150, 5, 4), (158, 5, 15), (161, 5, 6), (164, 5, 7), (167, 5, 16), (170, 5, 8), (173, 5, 9), (176, 5, 17), (179, 5, 10), (182, 5, 18), (185, 5, 11), (188, 5, 13), (192, 3, 4), (206, 3, 3), (209, 4, 5), (221, 6, 3), (224, 6, 1), (227, 6, 2)]
def fdt5 : List (Nat × Nat × Nat) := [(9, 5, 0), (15, 5, 1), (18, 5, 2), (21, 5, 3), (24, 5, 4), (27, 5, 5), (30, 5, 6), (33, 5, 7), (36, 5, 8), (39, 5, 9), (42, 5, 10), (45, 5, 11), (48, 5, 12), (54, 5, 13), (58, 5, 14), (62, 5, 15), (65, 5, 16), (68, 5, 17), (71, 5, 18), (74, 5, 19)]
def fdt6 : List (Nat × Nat × Nat) := [(9, 6, 0), (15, 6, 1), (19, 6, 2), (22, 6, 3), (26, 6, 4), (45, 6, 5)]
def fdt7 : List (Nat × Nat × Nat) := [(9, 7, 0), (15, 7, 1), (18, 5, 14), (24, 5, 0), (27, 5, 1), (37, 5, 2), (42, 5, 4)]
def fdt8 : List (Nat × Nat × Nat) := [(12, 8, 1), (16, 4, 0), (20, 8, 0), (24, 8, 2), (31, 8, 3), (38, 8, 4), (45, 8, 5), (49, 8, 6), (53, 8, 7), (57, 8, 8), (60, 8, 9), (63, 8, 10), (69, 8, 11), (73, 8, 12), (76, 8, 14), (84, 6, 5), (100, 4, 10), (101, 8, 13), (108, 5, 0), (111, 5, 1), (114, 5, 2), (117, 5, 3), (124, 5, 5), (127, 5, 4), (138, 5, 7), (141, 2, 0), (152, 5, 14), (155, 5, 15), (158, 5, 16), (161, 5, 17), (164, 5, 18), (167, 2, 5), (189, 5, 9), (207, 2, 1), (218, 7, 0), (221, 7, 1), (240, 0, 0), (251, 1, 1), (252, 1, 0), (258, 1, 2), (264, 5, 13), (268, 5, 10), (282, 5, 12), (310, 5, 6), (316, 5, 8), (329, 5, 19)]
def fdt9 : List (Nat × Nat × Nat) := [(13, 9, 1), (17, 9, 3), (20, 9, 5), (24, 9, 6), (27, 9, 7), (30, 9, 8), (34, 9, 9), (37, 9, 17), (40, 9, 21), (43, 9, 22), (46, 9, 23), (49, 9, 24), (52, 9, 25), (55, 9, 26), (58, 9, 27), (61, 9, 28), (64, 9, 29), (67, 9, 30), (70, 9, 31), (73, 9, 32), (76, 9, 33), (79, 9, 34), (82, 9, 35), (85, 9, 36), (88, 9, 37), (91, 9, 38), (94, 9, 39), (97, 9, 40), (100, 9, 41), (103, 9, 42), (106, 9, 43), (109, 9, 45), (113, 9, 46), (116, 9, 47), (119, 9, 48), (122, 9, 49), (125, 9, 51), (128, 9, 52), (131, 9, 53), (134, 9, 55), (137, 9, 56), (140, 9, 58), (143, 9, 59), (146, 9, 60), (149, 9, 61), (152, 9, 63), (155, 9, 64), (158, 9, 65), (161, 9, 70), (164, 9, 71), (167, 9, 72), (170, 9, 73), (173, 9, 74), (190, 9, 2), (196, 9, 4), (205, 9, 10), (227, 9, 13), (230, 9, 11), (233, 9, 14), (236, 9, 15), (239, 9, 16), (254, 9, 12), (257, 9, 18), (260, 9, 19), (263, 9, 20), (266, 9, 44), (269, 9, 50), (275, 9, 62), (278, 9, 69), (333, 9, 54), (346, 9, 57), (463, 9, 67), (469, 9, 66), (481, 9, 68)]
def fdt10 : List (Nat × Nat × Nat) := []
def fdt11 : List (Nat × Nat × Nat) := []
def fdt12 : List (Nat × Nat × Nat) := []
def fdt13 : List (Nat × Nat × Nat) := [(9, 13, 0), (15, 13, 1)]
def fdt14 : List (Nat × Nat × Nat) := []
def fdt15 : List (Nat × Nat × Nat) := []
def fdt16 : List (Nat × Nat × Nat) := []
def fdtL : List (List (Nat × Nat × Nat)) := [fdt0, fdt1, fdt2, fdt3, fdt4, fdt5, fdt6, fdt7, fdt8, fdt9, fdt10, fdt11, fdt12, fdt13, fdt14, fdt15, fdt16]
def fdM (k i : Nat) : Option (Nat × Nat) := pick3 (fdtL.getD k []) i
def pickT {α : Type} (l : List (Nat × Nat × α)) (k i : Nat) : Option α := match l with
  | [] => none
  | q :: r => if q.1 = k ∧ q.2.1 = i then some q.2.2 else pickT r k i
def cstL : List (Nat × Nat × Int32) := [(8, 133, -100000), (11, 265, 1431655765), (11, 266, 858993459), (11, 267, 252645135), (8, 328, 1103515245), (1, 42, 1000000), (9, 417, -100000), (9, 357, 1103515245)]
def cslL : List (Nat × Nat × Int64) := [(6, 85, 32), (6, 87, 97), (6, 81, 10), (6, 83, 48), (0, 24, 777600000), (0, 48, 60), (8, 242, 777600000), (8, 285, 36), (8, 301, 99), (9, 199, 27)]
def clkL : List (Nat × Nat × Nat) := [(10, 7, 8), (8, 9, 4), (4, 9, 6), (8, 21, 2), (8, 28, 7), (8, 35, 0), (8, 42, 1), (8, 66, 5), (5, 51, 3), (10, 10, 9)]
def stsL : List (Nat × Nat × Nat) := [(6, 29, 1004), (6, 72, 1005)]
def wrdT : String := "end turn man lesson court die sees learns suits pays seed if then else shows eye skill hours had which pride margin seen"
def sgnT : String := ";=+-*/<()"
def wrdB : List Int32 := [101, 110, 100, 32, 116, 117, 114, 110, 32, 109, 97, 110, 32, 108, 101, 115, 115, 111, 110, 32, 99, 111, 117, 114, 116, 32, 100, 105, 101, 32, 115, 101, 101, 115, 32, 108, 101, 97, 114, 110, 115, 32, 115, 117, 105, 116, 115, 32, 112, 97, 121, 115, 32, 115, 101, 101, 100, 32, 105, 102, 32, 116, 104, 101, 110, 32, 101, 108, 115, 101, 32, 115, 104, 111, 119, 115, 32, 101, 121, 101, 32, 115, 107, 105, 108, 108, 32, 104, 111, 117, 114, 115, 32, 104, 97, 100, 32, 119, 104, 105, 99, 104, 32, 112, 114, 105, 100, 101, 32, 109, 97, 114, 103, 105, 110, 32, 115, 101, 101, 110]
def sgnB : List Int32 := [59, 61, 43, 45, 42, 47, 60, 40, 41]
def shpL : List (Nat ⊕ (Nat × Nat)) := [.inl 8, .inl 6, .inr (2, 2000), .inr (0, 401), .inr (0, 401), .inr (1, 401), .inr (1, 23), .inl 4, .inr (1, 35), .inr (0, 35), .inr (0, 35), .inr (0, 21), .inl 2, .inr (0, 45), .inr (3, 3), .inr (0, 1800), .inr (0, 135), .inl 7, .inr (0, 14), .inr (0, 14), .inl 0, .inr (1, 19), .inr (1, 14), .inl 1, .inr (0, 36), .inr (0, 6), .inr (0, 64), .inr (0, 14), .inr (1, 10), .inr (0, 5), .inr (0, 5), .inr (0, 5), .inl 5, .inr (0, 14), .inr (0, 14), .inr (0, 14), .inr (0, 14), .inr (0, 42), .inr (0, 42), .inr (0, 6), .inr (0, 6), .inr (0, 6), .inr (0, 6), .inr (0, 5), .inr (0, 24), .inr (0, 16), .inl 3, .inr (0, 408), .inr (0, 9), .inr (0, 16), .inr (0, 4), .inl 5, .inr (0, 14), .inr (0, 14), .inr (0, 14), .inr (0, 14), .inr (0, 42), .inr (0, 42), .inr (0, 6), .inr (0, 6), .inr (0, 6), .inr (0, 6), .inr (0, 5), .inr (0, 24), .inr (0, 16), .inl 3, .inr (0, 408), .inr (0, 9), .inr (0, 16), .inr (0, 4), .inl 9, .inr (2, 2000), .inr (2, 2000), .inr (0, 403), .inr (0, 403), .inr (0, 403), .inr (1, 403), .inr (1, 23), .inr (1, 35), .inr (0, 35), .inr (0, 35), .inr (0, 2), .inr (0, 28), .inr (0, 28), .inr (0, 28), .inr (0, 28), .inr (0, 84), .inr (0, 84), .inr (0, 2), .inr (0, 12), .inr (0, 12), .inr (0, 2), .inr (0, 12), .inr (0, 12), .inr (0, 2), .inr (0, 10), .inr (0, 2), .inr (0, 48), .inr (0, 2), .inr (0, 8), .inr (0, 8), .inr (3, 260), .inr (0, 260), .inr (0, 260), .inr (0, 260), .inr (0, 260), .inr (0, 840), .inr (0, 840), .inr (0, 64), .inr (0, 9), .inr (0, 400), .inr (0, 48), .inr (0, 48), .inr (0, 14), .inr (0, 14), .inr (0, 1920), .inr (3, 14), .inr (0, 84), .inr (0, 5), .inr (0, 5), .inr (0, 5), .inr (3, 3), .inr (0, 144)]

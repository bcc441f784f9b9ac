abbrev M_X9_agree : zM := (yX9_agree, cX9_agree, 3, (some FieldType.int))
theorem mk_X9_agree : zmk M_X9_agree 1 := ⟨ztb_at 925 (by decide +kernel), (ztb_at 1 (by decide +kernel)), by decide +kernel, by decide +kernel, Nat.le_of_ble_eq_true rfl⟩
abbrev M_X9_ask : zM := (yX9_ask, cX9_ask, 7, (some FieldType.int))
theorem mk_X9_ask : zmk M_X9_ask 3 := ⟨ztb_at 870 (by decide +kernel), (ztb_at 1 (by decide +kernel)), by decide +kernel, by decide +kernel, Nat.le_of_ble_eq_true rfl⟩
abbrev M_X9_bank : zM := (yX9_bank, cX9_bank, 6, (some FieldType.int))
theorem mk_X9_bank : zmk M_X9_bank 3 := ⟨ztb_at 437 (by decide +kernel), (ztb_at 1 (by decide +kernel)), by decide +kernel, by decide +kernel, Nat.le_of_ble_eq_true rfl⟩
abbrev M_X9_bankAt : zM := (yX9_bankAt, cX9_bankAt, 2, (some (FieldType.object "SwitchSeven$Bank")))
theorem mk_X9_bankAt : zmk M_X9_bankAt 1 := ⟨ztb_at 441 (by decide +kernel), (ztb_at 1 (by decide +kernel)), by decide +kernel, by decide +kernel, Nat.le_of_ble_eq_true rfl⟩
abbrev M_X9_bankAtFault : zM := (yX9_bankAtFault, cX9_bankAtFault, 4, (some (FieldType.object "SwitchSeven$Bank")))
theorem mk_X9_bankAtFault : zmk M_X9_bankAtFault 1 := ⟨ztb_at 397 (by decide +kernel), (ztb_at 1 (by decide +kernel)), by decide +kernel, by decide +kernel, Nat.le_of_ble_eq_true rfl⟩
abbrev M_X9_beginNight : zM := (yX9_beginNight, cX9_beginNight, 2, (none : Option FieldType))
theorem mk_X9_beginNight : zmk M_X9_beginNight 0 := ⟨ztb_at 248 (by decide +kernel), (ztb_at 1 (by decide +kernel)), by decide +kernel, by decide +kernel, Nat.le_of_ble_eq_true rfl⟩
abbrev M_X9_carry : zM := (yX9_carry, cX9_carry, 4, (none : Option FieldType))
theorem mk_X9_carry : zmk M_X9_carry 3 := ⟨ztb_at 349 (by decide +kernel), (ztb_at 1 (by decide +kernel)), by decide +kernel, by decide +kernel, Nat.le_of_ble_eq_true rfl⟩
abbrev M_X9_check : zM := (yX9_check, cX9_check, 2, (some FieldType.int))
theorem mk_X9_check : zmk M_X9_check 0 := ⟨ztb_at 984 (by decide +kernel), (ztb_at 1 (by decide +kernel)), by decide +kernel, by decide +kernel, Nat.le_of_ble_eq_true rfl⟩
abbrev M_X9_close : zM := (yX9_close, cX9_close, 3, (some FieldType.int))
theorem mk_X9_close : zmk M_X9_close 1 := ⟨ztb_at 608 (by decide +kernel), (ztb_at 1 (by decide +kernel)), by decide +kernel, by decide +kernel, Nat.le_of_ble_eq_true rfl⟩
abbrev M_X9_comeBack : zM := (yX9_comeBack, cX9_comeBack, 8, (none : Option FieldType))
theorem mk_X9_comeBack : zmk M_X9_comeBack 3 := ⟨ztb_at 393 (by decide +kernel), (ztb_at 1 (by decide +kernel)), by decide +kernel, by decide +kernel, Nat.le_of_ble_eq_true rfl⟩
abbrev M_X9_count : zM := (yX9_count, cX9_count, 2, (some FieldType.int))
theorem mk_X9_count : zmk M_X9_count 1 := ⟨ztb_at 1018 (by decide +kernel), (ztb_at 1 (by decide +kernel)), by decide +kernel, by decide +kernel, Nat.le_of_ble_eq_true rfl⟩
abbrev M_X9_countRivals : zM := (yX9_countRivals, cX9_countRivals, 6, (some FieldType.int))
theorem mk_X9_countRivals : zmk M_X9_countRivals 2 := ⟨ztb_at 958 (by decide +kernel), (ztb_at 1 (by decide +kernel)), by decide +kernel, by decide +kernel, Nat.le_of_ble_eq_true rfl⟩
abbrev M_X9_days : zM := (yX9_days, cX9_days, 4, (some FieldType.int))
theorem mk_X9_days : zmk M_X9_days 1 := ⟨ztb_at 229 (by decide +kernel), (ztb_at 1 (by decide +kernel)), by decide +kernel, by decide +kernel, Nat.le_of_ble_eq_true rfl⟩
abbrev M_X9_doLine : zM := (yX9_doLine, cX9_doLine, 5, (none : Option FieldType))
theorem mk_X9_doLine : zmk M_X9_doLine 1 := ⟨ztb_at 379 (by decide +kernel), (ztb_at 1 (by decide +kernel)), by decide +kernel, by decide +kernel, Nat.le_of_ble_eq_true rfl⟩
abbrev M_X9_doLines : zM := (yX9_doLines, cX9_doLines, 4, (none : Option FieldType))
theorem mk_X9_doLines : zmk M_X9_doLines 0 := ⟨ztb_at 366 (by decide +kernel), (ztb_at 1 (by decide +kernel)), by decide +kernel, by decide +kernel, Nat.le_of_ble_eq_true rfl⟩
abbrev M_X9_doMoves : zM := (yX9_doMoves, cX9_doMoves, 3, (none : Option FieldType))
theorem mk_X9_doMoves : zmk M_X9_doMoves 0 := ⟨ztb_at 252 (by decide +kernel), (ztb_at 1 (by decide +kernel)), by decide +kernel, by decide +kernel, Nat.le_of_ble_eq_true rfl⟩
abbrev M_X9_doStep : zM := (yX9_doStep, cX9_doStep, 2, (none : Option FieldType))
theorem mk_X9_doStep : zmk M_X9_doStep 1 := ⟨ztb_at 292 (by decide +kernel), (ztb_at 1 (by decide +kernel)), by decide +kernel, by decide +kernel, Nat.le_of_ble_eq_true rfl⟩
abbrev M_X9_end : zM := (yX9_end, cX9_end, 3, (some FieldType.int))
theorem mk_X9_end : zmk M_X9_end 1 := ⟨ztb_at 854 (by decide +kernel), (ztb_at 1 (by decide +kernel)), by decide +kernel, by decide +kernel, Nat.le_of_ble_eq_true rfl⟩
abbrev M_X9_feed : zM := (yX9_feed, cX9_feed, 5, (some FieldType.int))
theorem mk_X9_feed : zmk M_X9_feed 2 := ⟨ztb_at 636 (by decide +kernel), (ztb_at 1 (by decide +kernel)), by decide +kernel, by decide +kernel, Nat.le_of_ble_eq_true rfl⟩
abbrev M_X9_findRival : zM := (yX9_findRival, cX9_findRival, 8, (some FieldType.int))
theorem mk_X9_findRival : zmk M_X9_findRival 3 := ⟨ztb_at 976 (by decide +kernel), (ztb_at 1 (by decide +kernel)), by decide +kernel, by decide +kernel, Nat.le_of_ble_eq_true rfl⟩
abbrev M_X9_findRoutes : zM := (yX9_findRoutes, cX9_findRoutes, 5, (none : Option FieldType))
theorem mk_X9_findRoutes : zmk M_X9_findRoutes 1 := ⟨ztb_at 357 (by decide +kernel), (ztb_at 1 (by decide +kernel)), by decide +kernel, by decide +kernel, Nat.le_of_ble_eq_true rfl⟩
abbrev M_X9_greatestLikeness : zM := (yX9_greatestLikeness, cX9_greatestLikeness, 6, (some FieldType.int))
theorem mk_X9_greatestLikeness : zmk M_X9_greatestLikeness 2 := ⟨ztb_at 962 (by decide +kernel), (ztb_at 1 (by decide +kernel)), by decide +kernel, by decide +kernel, Nat.le_of_ble_eq_true rfl⟩
abbrev M_X9_holiday : zM := (yX9_holiday, cX9_holiday, 2, (some FieldType.int))
theorem mk_X9_holiday : zmk M_X9_holiday 1 := ⟨ztb_at 424 (by decide +kernel), (ztb_at 1 (by decide +kernel)), by decide +kernel, by decide +kernel, Nat.le_of_ble_eq_true rfl⟩
abbrev M_X9_init : zM := (yX9_init, cX9_init, 2, (none : Option FieldType))
theorem mk_X9_init : zmk M_X9_init 0 := ⟨ztb_at 29 (by decide +kernel), (ztb_at 1 (by decide +kernel)), by decide +kernel, by decide +kernel, Nat.le_of_ble_eq_true rfl⟩
abbrev M_X9_isInMove : zM := (yX9_isInMove, cX9_isInMove, 4, (some FieldType.boolean))
theorem mk_X9_isInMove : zmk M_X9_isInMove 1 := ⟨ztb_at 612 (by decide +kernel), (ztb_at 1 (by decide +kernel)), by decide +kernel, by decide +kernel, Nat.le_of_ble_eq_true rfl⟩
abbrev M_X9_isSentOn : zM := (yX9_isSentOn, cX9_isSentOn, 7, (some FieldType.boolean))
theorem mk_X9_isSentOn : zmk M_X9_isSentOn 4 := ⟨ztb_at 362 (by decide +kernel), (ztb_at 1 (by decide +kernel)), by decide +kernel, by decide +kernel, Nat.le_of_ble_eq_true rfl⟩
abbrev M_X9_isWorking : zM := (yX9_isWorking, cX9_isWorking, 3, (some FieldType.int))
theorem mk_X9_isWorking : zmk M_X9_isWorking 1 := ⟨ztb_at 433 (by decide +kernel), (ztb_at 1 (by decide +kernel)), by decide +kernel, by decide +kernel, Nat.le_of_ble_eq_true rfl⟩
abbrev M_X9_keepSums : zM := (yX9_keepSums, cX9_keepSums, 2, (none : Option FieldType))
theorem mk_X9_keepSums : zmk M_X9_keepSums 0 := ⟨ztb_at 416 (by decide +kernel), (ztb_at 1 (by decide +kernel)), by decide +kernel, by decide +kernel, Nat.le_of_ble_eq_true rfl⟩
abbrev M_X9_lastOf : zM := (yX9_lastOf, cX9_lastOf, 3, (some (FieldType.object "SwitchSeven$Account")))
theorem mk_X9_lastOf : zmk M_X9_lastOf 1 := ⟨ztb_at 382 (by decide +kernel), (ztb_at 1 (by decide +kernel)), by decide +kernel, by decide +kernel, Nat.le_of_ble_eq_true rfl⟩
abbrev M_X9_late : zM := (yX9_late, cX9_late, 3, (some FieldType.int))
theorem mk_X9_late : zmk M_X9_late 2 := ⟨ztb_at 453 (by decide +kernel), (ztb_at 1 (by decide +kernel)), by decide +kernel, by decide +kernel, Nat.le_of_ble_eq_true rfl⟩
abbrev M_X9_least : zM := (yX9_least, cX9_least, 1, (some FieldType.int))
theorem mk_X9_least : zmk M_X9_least 0 := ⟨ztb_at 996 (by decide +kernel), (ztb_at 1 (by decide +kernel)), by decide +kernel, by decide +kernel, Nat.le_of_ble_eq_true rfl⟩
abbrev M_X9_lettersOfLeaving : zM := (yX9_lettersOfLeaving, cX9_lettersOfLeaving, 4, (some (FieldType.array FieldType.long)))
theorem mk_X9_lettersOfLeaving : zmk M_X9_lettersOfLeaving 2 := ⟨ztb_at 316 (by decide +kernel), (ztb_at 1 (by decide +kernel)), by decide +kernel, by decide +kernel, Nat.le_of_ble_eq_true rfl⟩
abbrev M_X9_like : zM := (yX9_like, cX9_like, 5, (some FieldType.int))
theorem mk_X9_like : zmk M_X9_like 2 := ⟨ztb_at 941 (by decide +kernel), (ztb_at 1 (by decide +kernel)), by decide +kernel, by decide +kernel, Nat.le_of_ble_eq_true rfl⟩
abbrev M_X9_line : zM := (yX9_line, cX9_line, 11, (some FieldType.int))
theorem mk_X9_line : zmk M_X9_line 6 := ⟨ztb_at 805 (by decide +kernel), (ztb_at 1 (by decide +kernel)), by decide +kernel, by decide +kernel, Nat.le_of_ble_eq_true rfl⟩
abbrev M_X9_lineAt : zM := (yX9_lineAt, cX9_lineAt, 2, (some (FieldType.object "SwitchSeven$Line")))
theorem mk_X9_lineAt : zmk M_X9_lineAt 1 := ⟨ztb_at 858 (by decide +kernel), (ztb_at 1 (by decide +kernel)), by decide +kernel, by decide +kernel, Nat.le_of_ble_eq_true rfl⟩
abbrev M_X9_lineOf : zM := (yX9_lineOf, cX9_lineOf, 4, (some FieldType.int))
theorem mk_X9_lineOf : zmk M_X9_lineOf 2 := ⟨ztb_at 862 (by decide +kernel), (ztb_at 1 (by decide +kernel)), by decide +kernel, by decide +kernel, Nat.le_of_ble_eq_true rfl⟩
abbrev M_X9_linesNotEnded : zM := (yX9_linesNotEnded, cX9_linesNotEnded, 5, (some FieldType.int))
theorem mk_X9_linesNotEnded : zmk M_X9_linesNotEnded 1 := ⟨ztb_at 327 (by decide +kernel), (ztb_at 1 (by decide +kernel)), by decide +kernel, by decide +kernel, Nat.le_of_ble_eq_true rfl⟩
abbrev M_X9_mayLeave : zM := (yX9_mayLeave, cX9_mayLeave, 4, (some FieldType.boolean))
theorem mk_X9_mayLeave : zmk M_X9_mayLeave 2 := ⟨ztb_at 874 (by decide +kernel), (ztb_at 1 (by decide +kernel)), by decide +kernel, by decide +kernel, Nat.le_of_ble_eq_true rfl⟩
abbrev M_X9_moveAt : zM := (yX9_moveAt, cX9_moveAt, 2, (some (FieldType.object "SwitchSeven$Move")))
theorem mk_X9_moveAt : zmk M_X9_moveAt 1 := ⟨ztb_at 929 (by decide +kernel), (ztb_at 1 (by decide +kernel)), by decide +kernel, by decide +kernel, Nat.le_of_ble_eq_true rfl⟩
abbrev M_X9_moveLines : zM := (yX9_moveLines, cX9_moveLines, 4, (none : Option FieldType))
theorem mk_X9_moveLines : zmk M_X9_moveLines 1 := ⟨ztb_at 346 (by decide +kernel), (ztb_at 1 (by decide +kernel)), by decide +kernel, by decide +kernel, Nat.le_of_ble_eq_true rfl⟩
abbrev M_X9_moveOf : zM := (yX9_moveOf, cX9_moveOf, 4, (some FieldType.int))
theorem mk_X9_moveOf : zmk M_X9_moveOf 2 := ⟨ztb_at 937 (by decide +kernel), (ztb_at 1 (by decide +kernel)), by decide +kernel, by decide +kernel, Nat.le_of_ble_eq_true rfl⟩
abbrev M_X9_moveOn : zM := (yX9_moveOn, cX9_moveOn, 4, (none : Option FieldType))
theorem mk_X9_moveOn : zmk M_X9_moveOn 1 := ⟨ztb_at 275 (by decide +kernel), (ztb_at 1 (by decide +kernel)), by decide +kernel, by decide +kernel, Nat.le_of_ble_eq_true rfl⟩
abbrev M_X9_movesThatGoOn : zM := (yX9_movesThatGoOn, cX9_movesThatGoOn, 3, (some FieldType.int))
theorem mk_X9_movesThatGoOn : zmk M_X9_movesThatGoOn 0 := ⟨ztb_at 1026 (by decide +kernel), (ztb_at 1 (by decide +kernel)), by decide +kernel, by decide +kernel, Nat.le_of_ble_eq_true rfl⟩
abbrev M_X9_net : zM := (yX9_net, cX9_net, 3, (some FieldType.long))
theorem mk_X9_net : zmk M_X9_net 1 := ⟨ztb_at 465 (by decide +kernel), (ztb_at 1 (by decide +kernel)), by decide +kernel, by decide +kernel, Nat.le_of_ble_eq_true rfl⟩
abbrev M_X9_openAccount : zM := (yX9_openAccount, cX9_openAccount, 5, (some (FieldType.object "SwitchSeven$Account")))
theorem mk_X9_openAccount : zmk M_X9_openAccount 3 := ⟨ztb_at 478 (by decide +kernel), (ztb_at 1 (by decide +kernel)), by decide +kernel, by decide +kernel, Nat.le_of_ble_eq_true rfl⟩
abbrev M_X9_openAccounts : zM := (yX9_openAccounts, cX9_openAccounts, 3, (some FieldType.int))
theorem mk_X9_openAccounts : zmk M_X9_openAccounts 0 := ⟨ztb_at 1022 (by decide +kernel), (ztb_at 1 (by decide +kernel)), by decide +kernel, by decide +kernel, Nat.le_of_ble_eq_true rfl⟩
abbrev M_X9_outside : zM := (yX9_outside, cX9_outside, 3, (some FieldType.int))
theorem mk_X9_outside : zmk M_X9_outside 3 := ⟨ztb_at 232 (by decide +kernel), (ztb_at 1 (by decide +kernel)), by decide +kernel, by decide +kernel, Nat.le_of_ble_eq_true rfl⟩
abbrev M_X9_over : zM := (yX9_over, cX9_over, 6, (some FieldType.int))
theorem mk_X9_over : zmk M_X9_over 2 := ⟨ztb_at 604 (by decide +kernel), (ztb_at 1 (by decide +kernel)), by decide +kernel, by decide +kernel, Nat.le_of_ble_eq_true rfl⟩
abbrev M_X9_owes : zM := (yX9_owes, cX9_owes, 3, (some FieldType.int))
theorem mk_X9_owes : zmk M_X9_owes 1 := ⟨ztb_at 461 (by decide +kernel), (ztb_at 1 (by decide +kernel)), by decide +kernel, by decide +kernel, Nat.le_of_ble_eq_true rfl⟩
abbrev M_X9_put : zM := (yX9_put, cX9_put, 5, (some FieldType.long))
theorem mk_X9_put : zmk M_X9_put 2 := ⟨ztb_at 595 (by decide +kernel), (ztb_at 1 (by decide +kernel)), by decide +kernel, by decide +kernel, Nat.le_of_ble_eq_true rfl⟩
abbrev M_X9_refusalsCounted : zM := (yX9_refusalsCounted, cX9_refusalsCounted, 2, (some FieldType.int))
theorem mk_X9_refusalsCounted : zmk M_X9_refusalsCounted 1 := ⟨ztb_at 1030 (by decide +kernel), (ztb_at 1 (by decide +kernel)), by decide +kernel, by decide +kernel, Nat.le_of_ble_eq_true rfl⟩
abbrev M_X9_refuse : zM := (yX9_refuse, cX9_refuse, 3, (some FieldType.int))
theorem mk_X9_refuse : zmk M_X9_refuse 1 := ⟨ztb_at 236 (by decide +kernel), (ztb_at 1 (by decide +kernel)), by decide +kernel, by decide +kernel, Nat.le_of_ble_eq_true rfl⟩
abbrev M_X9_refuseLong : zM := (yX9_refuseLong, cX9_refuseLong, 2, (some FieldType.long))
theorem mk_X9_refuseLong : zmk M_X9_refuseLong 1 := ⟨ztb_at 469 (by decide +kernel), (ztb_at 1 (by decide +kernel)), by decide +kernel, by decide +kernel, Nat.le_of_ble_eq_true rfl⟩
abbrev M_X9_refusesOverdrawn : zM := (yX9_refusesOverdrawn, cX9_refusesOverdrawn, 4, (some FieldType.boolean))
theorem mk_X9_refusesOverdrawn : zmk M_X9_refusesOverdrawn 1 := ⟨ztb_at 305 (by decide +kernel), (ztb_at 1 (by decide +kernel)), by decide +kernel, by decide +kernel, Nat.le_of_ble_eq_true rfl⟩
abbrev M_X9_rival : zM := (yX9_rival, cX9_rival, 6, (some FieldType.int))
theorem mk_X9_rival : zmk M_X9_rival 3 := ⟨ztb_at 972 (by decide +kernel), (ztb_at 1 (by decide +kernel)), by decide +kernel, by decide +kernel, Nat.le_of_ble_eq_true rfl⟩
abbrev M_X9_rivals : zM := (yX9_rivals, cX9_rivals, 5, (some FieldType.int))
theorem mk_X9_rivals : zmk M_X9_rivals 2 := ⟨ztb_at 954 (by decide +kernel), (ztb_at 1 (by decide +kernel)), by decide +kernel, by decide +kernel, Nat.le_of_ble_eq_true rfl⟩
abbrev M_X9_rule : zM := (yX9_rule, cX9_rule, 4, (some FieldType.int))
theorem mk_X9_rule : zmk M_X9_rule 2 := ⟨ztb_at 645 (by decide +kernel), (ztb_at 1 (by decide +kernel)), by decide +kernel, by decide +kernel, Nat.le_of_ble_eq_true rfl⟩
abbrev M_X9_sends : zM := (yX9_sends, cX9_sends, 5, (some FieldType.int))
theorem mk_X9_sends : zmk M_X9_sends 2 := ⟨ztb_at 632 (by decide +kernel), (ztb_at 1 (by decide +kernel)), by decide +kernel, by decide +kernel, Nat.le_of_ble_eq_true rfl⟩
abbrev M_X9_sum : zM := (yX9_sum, cX9_sum, 3, (some FieldType.long))
theorem mk_X9_sum : zmk M_X9_sum 1 := ⟨ztb_at 616 (by decide +kernel), (ztb_at 1 (by decide +kernel)), by decide +kernel, by decide +kernel, Nat.le_of_ble_eq_true rfl⟩
abbrev M_X9_surge : zM := (yX9_surge, cX9_surge, 2, (some FieldType.int))
theorem mk_X9_surge : zmk M_X9_surge 1 := ⟨ztb_at 988 (by decide +kernel), (ztb_at 1 (by decide +kernel)), by decide +kernel, by decide +kernel, Nat.le_of_ble_eq_true rfl⟩
abbrev M_X9_takeBack : zM := (yX9_takeBack, cX9_takeBack, 3, (some FieldType.int))
theorem mk_X9_takeBack : zmk M_X9_takeBack 1 := ⟨ztb_at 933 (by decide +kernel), (ztb_at 1 (by decide +kernel)), by decide +kernel, by decide +kernel, Nat.le_of_ble_eq_true rfl⟩
abbrev M_X9_tell : zM := (yX9_tell, cX9_tell, 3, (some FieldType.int))
theorem mk_X9_tell : zmk M_X9_tell 1 := ⟨ztb_at 980 (by decide +kernel), (ztb_at 1 (by decide +kernel)), by decide +kernel, by decide +kernel, Nat.le_of_ble_eq_true rfl⟩
abbrev M_X9_tooLate : zM := (yX9_tooLate, cX9_tooLate, 4, (some FieldType.int))
theorem mk_X9_tooLate : zmk M_X9_tooLate 1 := ⟨ztb_at 1013 (by decide +kernel), (ztb_at 1 (by decide +kernel)), by decide +kernel, by decide +kernel, Nat.le_of_ble_eq_true rfl⟩
abbrev M_X9_was : zM := (yX9_was, cX9_was, 5, (some FieldType.long))
theorem mk_X9_was : zmk M_X9_was 2 := ⟨ztb_at 620 (by decide +kernel), (ztb_at 1 (by decide +kernel)), by decide +kernel, by decide +kernel, Nat.le_of_ble_eq_true rfl⟩
abbrev M_X9_whyBack : zM := (yX9_whyBack, cX9_whyBack, 4, (some FieldType.int))
theorem mk_X9_whyBack : zmk M_X9_whyBack 3 := ⟨ztb_at 385 (by decide +kernel), (ztb_at 1 (by decide +kernel)), by decide +kernel, by decide +kernel, Nat.le_of_ble_eq_true rfl⟩
abbrev M_X9_worthOfGood : zM := (yX9_worthOfGood, cX9_worthOfGood, 7, (some FieldType.long))
theorem mk_X9_worthOfGood : zmk M_X9_worthOfGood 3 := ⟨ztb_at 405 (by decide +kernel), (ztb_at 1 (by decide +kernel)), by decide +kernel, by decide +kernel, Nat.le_of_ble_eq_true rfl⟩
theorem ol_X0_3 : Cond.methodLink RX0 3 objectInit ∈ ztb := (ztb_at 482 (by decide +kernel))
theorem cs_X0_46 : zcsS RX0 46 M_X0_alike 2 := ⟨mk_X0_alike, (Or.inl (ztb_at 946 (by decide +kernel))), (ztb_at 947 (by decide +kernel))⟩
theorem cs_X0_50 : zcsV RX0 50 M_X0_isJoint 0 RX0 := ⟨mk_X0_isJoint, (Or.inl (ztb_at 949 (by decide +kernel))), (ztb_at 295 (by decide +kernel)), (ztb_of (List.mem_append_left _ (List.mem_of_getElem? (i := 10) (by decide +kernel))) rfl)⟩
theorem ml_X0_54 : Cond.methodLink RX0 54 Lib.Math.max.name ∈ ztb := (ztb_at 950 (by decide +kernel))
theorem cs_X0_59 : zcsV RX0 59 M_X0_likeness 1 RX0 := ⟨mk_X0_likeness, (Or.inl (ztb_at 968 (by decide +kernel))), (ztb_at 944 (by decide +kernel)), (ztb_of (List.mem_append_left _ (List.mem_of_getElem? (i := 64) (by decide +kernel))) rfl)⟩
theorem ol_X1_3 : Cond.methodLink RX1 3 objectInit ∈ ztb := (ztb_at 71 (by decide +kernel))
theorem ol_X10_1 : Cond.methodLink RX10 1 objectInit ∈ ztb := (ztb_at 1036 (by decide +kernel))
theorem cs_X10_163 : zcsV RX10 163 M_X10_refuse 1 RX10 := ⟨mk_X10_refuse, (Or.inl (ztb_at 1238 (by decide +kernel))), (ztb_at 1240 (by decide +kernel)), (ztb_of (List.mem_append_left _ (List.mem_of_getElem? (i := 76) (by decide +kernel))) rfl)⟩
theorem cs_X10_167 : zcsS RX10 167 M_X10_isIn 2 := ⟨mk_X10_isIn, (Or.inl (ztb_at 1344 (by decide +kernel))), (ztb_at 1345 (by decide +kernel))⟩
theorem cs_X10_180 : zcsV RX10 180 M_X10_works 1 RX10 := ⟨mk_X10_works, (Or.inl (ztb_at 1242 (by decide +kernel))), (ztb_at 1244 (by decide +kernel)), (ztb_of (List.mem_append_left _ (List.mem_of_getElem? (i := 77) (by decide +kernel))) rfl)⟩
theorem cs_X10_184 : zcsV RX10 184 M_X10_night 0 RX10 := ⟨mk_X10_night, (Or.inl (ztb_at 1246 (by decide +kernel))), (ztb_at 1248 (by decide +kernel)), (ztb_of (List.mem_append_left _ (List.mem_of_getElem? (i := 78) (by decide +kernel))) rfl)⟩
theorem cs_X10_187 : zcsS RX10 187 M_X10_within 3 := ⟨mk_X10_within, (Or.inl (ztb_at 1330 (by decide +kernel))), (ztb_at 1331 (by decide +kernel))⟩
theorem cs_X10_191 : zcsS RX10 191 M_X10_isBank 1 := ⟨mk_X10_isBank, (Or.inl (ztb_at 1341 (by decide +kernel))), (ztb_at 1342 (by decide +kernel))⟩
theorem cs_X10_197 : zcsV RX10 197 M_X10_isLate 2 RX10 := ⟨mk_X10_isLate, (Or.inl (ztb_at 1254 (by decide +kernel))), (ztb_at 1256 (by decide +kernel)), (ztb_of (List.mem_append_left _ (List.mem_of_getElem? (i := 80) (by decide +kernel))) rfl)⟩
theorem cs_X10_200 : zcsV RX10 200 M_X10_opens 3 RX10 := ⟨mk_X10_opens, (Or.inl (ztb_at 1355 (by decide +kernel))), (ztb_at 1357 (by decide +kernel)), (ztb_of (List.mem_append_left _ (List.mem_of_getElem? (i := 96) (by decide +kernel))) rfl)⟩
theorem cs_X10_203 : zcsV RX10 203 M_X10_isAccount 1 RX10 := ⟨mk_X10_isAccount, (Or.inl (ztb_at 1363 (by decide +kernel))), (ztb_at 1365 (by decide +kernel)), (ztb_of (List.mem_append_left _ (List.mem_of_getElem? (i := 97) (by decide +kernel))) rfl)⟩
theorem cs_X10_207 : zcsV RX10 207 M_X10_refuseFar 1 RX10 := ⟨mk_X10_refuseFar, (Or.inl (ztb_at 1368 (by decide +kernel))), (ztb_at 1370 (by decide +kernel)), (ztb_of (List.mem_append_left _ (List.mem_of_getElem? (i := 98) (by decide +kernel))) rfl)⟩
theorem cs_X10_214 : zcsV RX10 214 M_X10_isMoving 1 RX10 := ⟨mk_X10_isMoving, (Or.inl (ztb_at 1381 (by decide +kernel))), (ztb_at 1383 (by decide +kernel)), (ztb_of (List.mem_append_left _ (List.mem_of_getElem? (i := 99) (by decide +kernel))) rfl)⟩
theorem cs_X10_217 : zcsV RX10 217 M_X10_lastOf 1 RX10 := ⟨mk_X10_lastOf, (Or.inl (ztb_at 1322 (by decide +kernel))), (ztb_at 1324 (by decide +kernel)), (ztb_of (List.mem_append_left _ (List.mem_of_getElem? (i := 95) (by decide +kernel))) rfl)⟩
theorem cs_X10_220 : zcsV RX10 220 M_X10_bare 0 RX10 := ⟨mk_X10_bare, (Or.inl (ztb_at 1266 (by decide +kernel))), (ztb_at 1268 (by decide +kernel)), (ztb_of (List.mem_append_left _ (List.mem_of_getElem? (i := 83) (by decide +kernel))) rfl)⟩
theorem cs_X10_223 : zcsV RX10 223 M_X10_worth 2 RX10 := ⟨mk_X10_worth, (Or.inl (ztb_at 1275 (by decide +kernel))), (ztb_at 1277 (by decide +kernel)), (ztb_of (List.mem_append_left _ (List.mem_of_getElem? (i := 84) (by decide +kernel))) rfl)⟩
theorem cs_X10_227 : zcsV RX10 227 M_X10_sentOn 2 RX10 := ⟨mk_X10_sentOn, (Or.inl (ztb_at 1318 (by decide +kernel))), (ztb_at 1320 (by decide +kernel)), (ztb_of (List.mem_append_left _ (List.mem_of_getElem? (i := 94) (by decide +kernel))) rfl)⟩
theorem cs_X10_252 : zcsV RX10 252 M_X10_sign 0 RX10 := ⟨mk_X10_sign, (Or.inl (ztb_at 1295 (by decide +kernel))), (ztb_at 1297 (by decide +kernel)), (ztb_of (List.mem_append_left _ (List.mem_of_getElem? (i := 89) (by decide +kernel))) rfl)⟩
theorem cs_X10_259 : zcsS RX10 259 M_X10_held 1 := ⟨mk_X10_held, (Or.inl (ztb_at 1270 (by decide +kernel))), (ztb_at 1271 (by decide +kernel))⟩
theorem cs_X10_275 : zcsV RX10 275 M_X10_sumOf 0 RX10 := ⟨mk_X10_sumOf, (Or.inl (ztb_at 1283 (by decide +kernel))), (ztb_at 1285 (by decide +kernel)), (ztb_of (List.mem_append_left _ (List.mem_of_getElem? (i := 86) (by decide +kernel))) rfl)⟩
theorem cs_X10_284 : zcsV RX10 284 M_X10_goesThrough 2 RX10 := ⟨mk_X10_goesThrough, (Or.inl (ztb_at 1279 (by decide +kernel))), (ztb_at 1281 (by decide +kernel)), (ztb_of (List.mem_append_left _ (List.mem_of_getElem? (i := 85) (by decide +kernel))) rfl)⟩
theorem cs_X10_290 : zcsV RX10 290 M_X10_isLine 1 RX10 := ⟨mk_X10_isLine, (Or.inl (ztb_at 1418 (by decide +kernel))), (ztb_at 1420 (by decide +kernel)), (ztb_of (List.mem_append_left _ (List.mem_of_getElem? (i := 100) (by decide +kernel))) rfl)⟩
theorem cs_X10_293 : zcsV RX10 293 M_X10_puts 3 RX10 := ⟨mk_X10_puts, (Or.inl (ztb_at 1262 (by decide +kernel))), (ztb_at 1264 (by decide +kernel)), (ztb_of (List.mem_append_left _ (List.mem_of_getElem? (i := 82) (by decide +kernel))) rfl)⟩
theorem cs_X10_297 : zcsV RX10 297 M_X10_isMove 1 RX10 := ⟨mk_X10_isMove, (Or.inl (ztb_at 1434 (by decide +kernel))), (ztb_at 1436 (by decide +kernel)), (ztb_of (List.mem_append_left _ (List.mem_of_getElem? (i := 101) (by decide +kernel))) rfl)⟩
theorem cs_X10_300 : zcsV RX10 300 M_X10_refuses 2 RX10 := ⟨mk_X10_refuses, (Or.inl (ztb_at 1258 (by decide +kernel))), (ztb_at 1260 (by decide +kernel)), (ztb_of (List.mem_append_left _ (List.mem_of_getElem? (i := 81) (by decide +kernel))) rfl)⟩
theorem cs_X10_304 : zcsV RX10 304 M_X10_goesOn 1 RX10 := ⟨mk_X10_goesOn, (Or.inl (ztb_at 1250 (by decide +kernel))), (ztb_at 1252 (by decide +kernel)), (ztb_of (List.mem_append_left _ (List.mem_of_getElem? (i := 79) (by decide +kernel))) rfl)⟩
theorem cs_X10_308 : zcsV RX10 308 M_X10_isDue 2 RX10 := ⟨mk_X10_isDue, (Or.inl (ztb_at 1310 (by decide +kernel))), (ztb_at 1312 (by decide +kernel)), (ztb_of (List.mem_append_left _ (List.mem_of_getElem? (i := 92) (by decide +kernel))) rfl)⟩
theorem cs_X10_311 : zcsV RX10 311 M_X10_goesOut 1 RX10 := ⟨mk_X10_goesOut, (Or.inl (ztb_at 1314 (by decide +kernel))), (ztb_at 1316 (by decide +kernel)), (ztb_of (List.mem_append_left _ (List.mem_of_getElem? (i := 93) (by decide +kernel))) rfl)⟩
theorem cs_X10_317 : zcsS RX10 317 M_X10_likeOf 2 := ⟨mk_X10_likeOf, (Or.inl (ztb_at 1458 (by decide +kernel))), (ztb_at 1459 (by decide +kernel))⟩
theorem cs_X10_320 : zcsV RX10 320 M_X10_likes 2 RX10 := ⟨mk_X10_likes, (Or.inl (ztb_at 1454 (by decide +kernel))), (ztb_at 1456 (by decide +kernel)), (ztb_of (List.mem_append_left _ (List.mem_of_getElem? (i := 102) (by decide +kernel))) rfl)⟩
theorem cs_X10_323 : zcsV RX10 323 M_X10_rivalOf 3 RX10 := ⟨mk_X10_rivalOf, (Or.inl (ztb_at 1465 (by decide +kernel))), (ztb_at 1467 (by decide +kernel)), (ztb_of (List.mem_append_left _ (List.mem_of_getElem? (i := 103) (by decide +kernel))) rfl)⟩
theorem cs_X2_19 : zcsV RX2 19 M_X2_rests 1 RX2 := ⟨mk_X2_rests, (Or.inl (ztb_at 241 (by decide +kernel))), (ztb_at 243 (by decide +kernel)), (ztb_of (List.mem_append_left _ (List.mem_of_getElem? (i := 2) (by decide +kernel))) rfl)⟩
theorem ol_X2_3 : Cond.methodLink RX2 3 objectInit ∈ ztb := (ztb_at 38 (by decide +kernel))
theorem ol_X3_3 : Cond.methodLink RX3 3 objectInit ∈ ztb := (ztb_at 809 (by decide +kernel))
theorem ol_X4_3 : Cond.methodLink RX4 3 objectInit ∈ ztb := (ztb_at 878 (by decide +kernel))
theorem cs_X5_22 : zcsS RX5 22 M_X5_join 3 := ⟨mk_X5_join, (Or.inl (ztb_at 334 (by decide +kernel))), (ztb_at 335 (by decide +kernel))⟩
theorem cs_X5_26 : zcsS RX5 26 M_X5_hold 1 := ⟨mk_X5_hold, (Or.inl (ztb_at 337 (by decide +kernel))), (ztb_at 338 (by decide +kernel))⟩
theorem ol_X5_3 : Cond.methodLink RX5 3 objectInit ∈ ztb := (ztb_at 784 (by decide +kernel))
theorem ol_X6_3 : Cond.methodLink RX6 3 objectInit ∈ ztb := (ztb_at 125 (by decide +kernel))
theorem cs_X6_53 : zcsS RX6 53 M_J7_fill_d0a16 2 := ⟨mk_J7_fill_d0a16, (Or.inl (ztb_at 321 (by decide +kernel))), (ztb_at 322 (by decide +kernel))⟩
theorem cs_X7_19 : zcsV RX7 19 M_X7_firstDayTooLate 1 RX7 := ⟨mk_X7_firstDayTooLate, (Or.inl (ztb_at 1001 (by decide +kernel))), (ztb_at 1003 (by decide +kernel)), (ztb_of (List.mem_append_left _ (List.mem_of_getElem? (i := 71) (by decide +kernel))) rfl)⟩
theorem cs_X7_23 : zcsV RX7 23 M_X7_cameOn 1 RX7 := ⟨mk_X7_cameOn, (Or.inl (ztb_at 1005 (by decide +kernel))), (ztb_at 1007 (by decide +kernel)), (ztb_of (List.mem_append_left _ (List.mem_of_getElem? (i := 72) (by decide +kernel))) rfl)⟩
theorem ml_X7_26 : Cond.methodLink RX7 26 Lib.Math.min.name ∈ ztb := (ztb_at 1009 (by decide +kernel))
theorem ol_X7_3 : Cond.methodLink RX7 3 objectInit ∈ ztb := (ztb_at 183 (by decide +kernel))
theorem ml_X8_25 : Cond.methodLink RX8 25 Lib.Math.max.name ∈ ztb := (ztb_at 770 (by decide +kernel))
theorem ol_X8_3 : Cond.methodLink RX8 3 objectInit ∈ ztb := (ztb_at 157 (by decide +kernel))
theorem cs_X8_31 : zcsS RX8 31 M_J7_copyOf_59c91 2 := ⟨mk_J7_copyOf_59c91, (Or.inl (ztb_at 771 (by decide +kernel))), (ztb_at 772 (by decide +kernel))⟩
theorem cs_X8_43 : zcsV RX8 43 M_X8_readSum 1 RX8 := ⟨mk_X8_readSum, (Or.inl (ztb_at 654 (by decide +kernel))), (ztb_at 656 (by decide +kernel)), (ztb_of (List.mem_append_left _ (List.mem_of_getElem? (i := 49) (by decide +kernel))) rfl)⟩
theorem cs_X8_47 : zcsV RX8 47 M_X8_fail 0 RX8 := ⟨mk_X8_fail, (Or.inl (ztb_at 757 (by decide +kernel))), (ztb_at 759 (by decide +kernel)), (ztb_of (List.mem_append_left _ (List.mem_of_getElem? (i := 56) (by decide +kernel))) rfl)⟩
theorem cs_X8_53 : zcsV RX8 53 M_X8_next 0 RX8 := ⟨mk_X8_next, (Or.inl (ztb_at 666 (by decide +kernel))), (ztb_at 668 (by decide +kernel)), (ztb_of (List.mem_append_left _ (List.mem_of_getElem? (i := 52) (by decide +kernel))) rfl)⟩
theorem cs_X8_57 : zcsV RX8 57 M_X8_emit 1 RX8 := ⟨mk_X8_emit, (Or.inl (ztb_at 748 (by decide +kernel))), (ztb_at 750 (by decide +kernel)), (ztb_of (List.mem_append_left _ (List.mem_of_getElem? (i := 54) (by decide +kernel))) rfl)⟩
theorem ol_X9_1 : Cond.methodLink RX9 1 objectInit ∈ ztb := (ztb_at 30 (by decide +kernel))
theorem cs_X9_104 : zcsV RX9 104 M_X2_rests 1 RX2 := ⟨mk_X2_rests, (Or.inr ⟨"SwitchSeven", (ztn_at 425 (by decide +kernel))⟩), (ztb_at 243 (by decide +kernel)), (ztb_of (List.mem_append_left _ (List.mem_of_getElem? (i := 2) (by decide +kernel))) rfl)⟩
theorem cs_X9_107 : zcsV RX9 107 M_X2_addHoliday 1 RX2 := ⟨mk_X2_addHoliday, (Or.inr ⟨"SwitchSeven", (ztn_at 426 (by decide +kernel))⟩), (ztb_at 428 (by decide +kernel)), (ztb_of (List.mem_append_left _ (List.mem_of_getElem? (i := 33) (by decide +kernel))) rfl)⟩
theorem cs_X9_110 : zcsV RX9 110 M_X9_bankAt 1 RX9 := ⟨mk_X9_bankAt, (Or.inl (ztb_at 438 (by decide +kernel))), (ztb_at 440 (by decide +kernel)), (ztb_of (List.mem_append_left _ (List.mem_of_getElem? (i := 34) (by decide +kernel))) rfl)⟩
theorem cs_X9_114 : zcsV RX9 114 M_X1_changeFee 1 RX1 := ⟨mk_X1_changeFee, (Or.inr ⟨"SwitchSeven", (ztn_at 442 (by decide +kernel))⟩), (ztb_at 444 (by decide +kernel)), (ztb_of (List.mem_append_left _ (List.mem_of_getElem? (i := 35) (by decide +kernel))) rfl)⟩
theorem cs_X9_117 : zcsV RX9 117 M_X1_changeCap 1 RX1 := ⟨mk_X1_changeCap, (Or.inr ⟨"SwitchSeven", (ztn_at 446 (by decide +kernel))⟩), (ztb_at 448 (by decide +kernel)), (ztb_of (List.mem_append_left _ (List.mem_of_getElem? (i := 36) (by decide +kernel))) rfl)⟩
theorem cs_X9_120 : zcsV RX9 120 M_X2_isLate 2 RX2 := ⟨mk_X2_isLate, (Or.inr ⟨"SwitchSeven", (ztn_at 276 (by decide +kernel))⟩), (ztb_at 278 (by decide +kernel)), (ztb_of (List.mem_append_left _ (List.mem_of_getElem? (i := 6) (by decide +kernel))) rfl)⟩
theorem cs_X9_127 : zcsV RX9 127 M_X2_addLate 2 RX2 := ⟨mk_X2_addLate, (Or.inr ⟨"SwitchSeven", (ztn_at 454 (by decide +kernel))⟩), (ztb_at 456 (by decide +kernel)), (ztb_of (List.mem_append_left _ (List.mem_of_getElem? (i := 37) (by decide +kernel))) rfl)⟩
theorem cs_X9_134 : zcsV RX9 134 M_X9_refuseLong 1 RX9 := ⟨mk_X9_refuseLong, (Or.inl (ztb_at 466 (by decide +kernel))), (ztb_at 468 (by decide +kernel)), (ztb_of (List.mem_append_left _ (List.mem_of_getElem? (i := 38) (by decide +kernel))) rfl)⟩
theorem cs_X9_146 : zcsV RX9 146 M_X9_openAccount 3 RX9 := ⟨mk_X9_openAccount, (Or.inl (ztb_at 475 (by decide +kernel))), (ztb_at 477 (by decide +kernel)), (ztb_of (List.mem_append_left _ (List.mem_of_getElem? (i := 39) (by decide +kernel))) rfl)⟩
theorem cs_X9_155 : zcsV RX9 155 M_X9_accountAt 1 RX9 := ⟨mk_X9_accountAt, (Or.inl (ztb_at 596 (by decide +kernel))), (ztb_at 598 (by decide +kernel)), (ztb_of (List.mem_append_left _ (List.mem_of_getElem? (i := 43) (by decide +kernel))) rfl)⟩
theorem cs_X9_169 : zcsV RX9 169 M_X9_isInMove 1 RX9 := ⟨mk_X9_isInMove, (Or.inl (ztb_at 609 (by decide +kernel))), (ztb_at 611 (by decide +kernel)), (ztb_of (List.mem_append_left _ (List.mem_of_getElem? (i := 44) (by decide +kernel))) rfl)⟩
theorem cs_X9_173 : zcsV RX9 173 M_X0_keptSum 1 RX0 := ⟨mk_X0_keptSum, (Or.inr ⟨"SwitchSeven", (ztn_at 621 (by decide +kernel))⟩), (ztb_at 623 (by decide +kernel)), (ztb_of (List.mem_append_left _ (List.mem_of_getElem? (i := 45) (by decide +kernel))) rfl)⟩
theorem cs_X9_188 : zcsS RX9 188 M_X9_lastOf 1 := ⟨mk_X9_lastOf, (Or.inl (ztb_at 380 (by decide +kernel))), (ztb_at 381 (by decide +kernel))⟩
theorem cs_X9_202 : zcsV RX9 202 M_X8_add 1 RX8 := ⟨mk_X8_add, (Or.inr ⟨"SwitchSeven", (ztn_at 638 (by decide +kernel))⟩), (ztb_at 640 (by decide +kernel)), (ztb_of (List.mem_append_left _ (List.mem_of_getElem? (i := 46) (by decide +kernel))) rfl)⟩
theorem cs_X9_205 : zcsV RX9 205 M_X6_size 0 RX6 := ⟨mk_X6_size, (Or.inr ⟨"SwitchSeven", (ztn_at 646 (by decide +kernel))⟩), (ztb_at 648 (by decide +kernel)), (ztb_of (List.mem_append_left _ (List.mem_of_getElem? (i := 47) (by decide +kernel))) rfl)⟩
theorem cs_X9_206 : zcsV RX9 206 M_X8_read 0 RX8 := ⟨mk_X8_read, (Or.inr ⟨"SwitchSeven", (ztn_at 650 (by decide +kernel))⟩), (ztb_at 652 (by decide +kernel)), (ztb_of (List.mem_append_left _ (List.mem_of_getElem? (i := 48) (by decide +kernel))) rfl)⟩
theorem cs_X9_209 : zcsV RX9 209 M_X8_wipe 0 RX8 := ⟨mk_X8_wipe, (Or.inr ⟨"SwitchSeven", (ztn_at 761 (by decide +kernel))⟩), (ztb_at 763 (by decide +kernel)), (ztb_of (List.mem_append_left _ (List.mem_of_getElem? (i := 57) (by decide +kernel))) rfl)⟩
theorem cs_X9_214 : zcsV RX9 214 M_X8_codeRead 0 RX8 := ⟨mk_X8_codeRead, (Or.inr ⟨"SwitchSeven", (ztn_at 766 (by decide +kernel))⟩), (ztb_at 768 (by decide +kernel)), (ztb_of (List.mem_append_left _ (List.mem_of_getElem? (i := 58) (by decide +kernel))) rfl)⟩
theorem cs_X9_218 : zcsI RX9 218 M_X5_init 3 := ⟨mk_X5_init, (Or.inr ⟨"SwitchSeven", (ztn_at 781 (by decide +kernel))⟩), (ztb_at 782 (by decide +kernel)), rfl, rfl⟩
theorem cs_X9_22 : zcsI RX9 22 M_X1_init 1 := ⟨mk_X1_init, (Or.inr ⟨"SwitchSeven", (ztn_at 68 (by decide +kernel))⟩), (ztb_at 69 (by decide +kernel)), rfl, rfl⟩
theorem cs_X9_221 : zcsV RX9 221 M_X6_add 1 RX6 := ⟨mk_X6_add, (Or.inr ⟨"SwitchSeven", (ztn_at 797 (by decide +kernel))⟩), (ztb_at 799 (by decide +kernel)), (ztb_of (List.mem_append_left _ (List.mem_of_getElem? (i := 59) (by decide +kernel))) rfl)⟩
theorem cs_X9_226 : zcsI RX9 226 M_X3_init 6 := ⟨mk_X3_init, (Or.inr ⟨"SwitchSeven", (ztn_at 806 (by decide +kernel))⟩), (ztb_at 807 (by decide +kernel)), rfl, rfl⟩
theorem cs_X9_232 : zcsV RX9 232 M_X9_lineAt 1 RX9 := ⟨mk_X9_lineAt, (Or.inl (ztb_at 855 (by decide +kernel))), (ztb_at 857 (by decide +kernel)), (ztb_of (List.mem_append_left _ (List.mem_of_getElem? (i := 60) (by decide +kernel))) rfl)⟩
theorem cs_X9_255 : zcsV RX9 255 M_X3_timesBack 1 RX3 := ⟨mk_X3_timesBack, (Or.inr ⟨"SwitchSeven", (ztn_at 863 (by decide +kernel))⟩), (ztb_at 865 (by decide +kernel)), (ztb_of (List.mem_append_left _ (List.mem_of_getElem? (i := 61) (by decide +kernel))) rfl)⟩
theorem cs_X9_261 : zcsV RX9 261 M_X9_mayLeave 2 RX9 := ⟨mk_X9_mayLeave, (Or.inl (ztb_at 871 (by decide +kernel))), (ztb_at 873 (by decide +kernel)), (ztb_of (List.mem_append_left _ (List.mem_of_getElem? (i := 62) (by decide +kernel))) rfl)⟩
theorem cs_X9_273 : zcsI RX9 273 M_X4_init 4 := ⟨mk_X4_init, (Or.inr ⟨"SwitchSeven", (ztn_at 875 (by decide +kernel))⟩), (ztb_at 876 (by decide +kernel)), rfl, rfl⟩
theorem cs_X9_276 : zcsV RX9 276 M_X9_moveAt 1 RX9 := ⟨mk_X9_moveAt, (Or.inl (ztb_at 926 (by decide +kernel))), (ztb_at 928 (by decide +kernel)), (ztb_of (List.mem_append_left _ (List.mem_of_getElem? (i := 63) (by decide +kernel))) rfl)⟩
theorem cs_X9_283 : zcsV RX9 283 M_X0_isJoint 0 RX0 := ⟨mk_X0_isJoint, (Or.inr ⟨"SwitchSeven", (ztn_at 293 (by decide +kernel))⟩), (ztb_at 295 (by decide +kernel)), (ztb_of (List.mem_append_left _ (List.mem_of_getElem? (i := 10) (by decide +kernel))) rfl)⟩
theorem cs_X9_296 : zcsV RX9 296 M_X4_stop 1 RX4 := ⟨mk_X4_stop, (Or.inr ⟨"SwitchSeven", (ztn_at 298 (by decide +kernel))⟩), (ztb_at 300 (by decide +kernel)), (ztb_of (List.mem_append_left _ (List.mem_of_getElem? (i := 11) (by decide +kernel))) rfl)⟩
theorem cs_X9_317 : zcsV RX9 317 M_X0_likeness 1 RX0 := ⟨mk_X0_likeness, (Or.inr ⟨"SwitchSeven", (ztn_at 942 (by decide +kernel))⟩), (ztb_at 944 (by decide +kernel)), (ztb_of (List.mem_append_left _ (List.mem_of_getElem? (i := 64) (by decide +kernel))) rfl)⟩
theorem cs_X9_320 : zcsV RX9 320 M_X9_countRivals 2 RX9 := ⟨mk_X9_countRivals, (Or.inl (ztb_at 955 (by decide +kernel))), (ztb_at 957 (by decide +kernel)), (ztb_of (List.mem_append_left _ (List.mem_of_getElem? (i := 65) (by decide +kernel))) rfl)⟩
theorem cs_X9_324 : zcsV RX9 324 M_X9_findRival 3 RX9 := ⟨mk_X9_findRival, (Or.inl (ztb_at 973 (by decide +kernel))), (ztb_at 975 (by decide +kernel)), (ztb_of (List.mem_append_left _ (List.mem_of_getElem? (i := 68) (by decide +kernel))) rfl)⟩
theorem cs_X9_329 : zcsV RX9 329 M_X7_add 1 RX7 := ⟨mk_X7_add, (Or.inr ⟨"SwitchSeven", (ztn_at 989 (by decide +kernel))⟩), (ztb_at 991 (by decide +kernel)), (ztb_of (List.mem_append_left _ (List.mem_of_getElem? (i := 69) (by decide +kernel))) rfl)⟩
theorem cs_X9_331 : zcsV RX9 331 M_X7_leastCap 0 RX7 := ⟨mk_X7_leastCap, (Or.inr ⟨"SwitchSeven", (ztn_at 997 (by decide +kernel))⟩), (ztb_at 999 (by decide +kernel)), (ztb_of (List.mem_append_left _ (List.mem_of_getElem? (i := 70) (by decide +kernel))) rfl)⟩
theorem cs_X9_334 : zcsV RX9 334 M_X7_firstDayTooLate 1 RX7 := ⟨mk_X7_firstDayTooLate, (Or.inr ⟨"SwitchSeven", (ztn_at 1014 (by decide +kernel))⟩), (ztb_at 1003 (by decide +kernel)), (ztb_of (List.mem_append_left _ (List.mem_of_getElem? (i := 71) (by decide +kernel))) rfl)⟩
theorem cs_X9_337 : zcsV RX9 337 M_X9_openAccounts 0 RX9 := ⟨mk_X9_openAccounts, (Or.inl (ztb_at 1019 (by decide +kernel))), (ztb_at 1021 (by decide +kernel)), (ztb_of (List.mem_append_left _ (List.mem_of_getElem? (i := 73) (by decide +kernel))) rfl)⟩
theorem cs_X9_340 : zcsV RX9 340 M_X9_linesNotEnded 1 RX9 := ⟨mk_X9_linesNotEnded, (Or.inl (ztb_at 324 (by decide +kernel))), (ztb_at 326 (by decide +kernel)), (ztb_of (List.mem_append_left _ (List.mem_of_getElem? (i := 16) (by decide +kernel))) rfl)⟩
theorem cs_X9_344 : zcsV RX9 344 M_X9_movesThatGoOn 0 RX9 := ⟨mk_X9_movesThatGoOn, (Or.inl (ztb_at 1023 (by decide +kernel))), (ztb_at 1025 (by decide +kernel)), (ztb_of (List.mem_append_left _ (List.mem_of_getElem? (i := 74) (by decide +kernel))) rfl)⟩
theorem cs_X9_350 : zcsV RX9 350 M_X9_refusalsCounted 1 RX9 := ⟨mk_X9_refusalsCounted, (Or.inl (ztb_at 1027 (by decide +kernel))), (ztb_at 1029 (by decide +kernel)), (ztb_of (List.mem_append_left _ (List.mem_of_getElem? (i := 75) (by decide +kernel))) rfl)⟩
theorem cs_X9_359 : zcsI RX9 359 M_X0_init 5 := ⟨mk_X0_init, (Or.inr ⟨"SwitchSeven", (ztn_at 479 (by decide +kernel))⟩), (ztb_at 480 (by decide +kernel)), rfl, rfl⟩
theorem cs_X9_362 : zcsV RX9 362 M_X4_has 1 RX4 := ⟨mk_X4_has, (Or.inr ⟨"SwitchSeven", (ztn_at 398 (by decide +kernel))⟩), (ztb_at 400 (by decide +kernel)), (ztb_of (List.mem_append_left _ (List.mem_of_getElem? (i := 29) (by decide +kernel))) rfl)⟩
theorem cs_X9_365 : zcsV RX9 365 M_X6_inForce 2 RX6 := ⟨mk_X6_inForce, (Or.inr ⟨"SwitchSeven", (ztn_at 306 (by decide +kernel))⟩), (ztb_at 308 (by decide +kernel)), (ztb_of (List.mem_append_left _ (List.mem_of_getElem? (i := 13) (by decide +kernel))) rfl)⟩
theorem cs_X9_369 : zcsV RX9 369 M_X9_isSentOn 4 RX9 := ⟨mk_X9_isSentOn, (Or.inl (ztb_at 359 (by decide +kernel))), (ztb_at 361 (by decide +kernel)), (ztb_of (List.mem_append_left _ (List.mem_of_getElem? (i := 21) (by decide +kernel))) rfl)⟩
theorem cs_X9_373 : zcsV RX9 373 M_X6_freshLetters 0 RX6 := ⟨mk_X6_freshLetters, (Or.inr ⟨"SwitchSeven", (ztn_at 317 (by decide +kernel))⟩), (ztb_at 319 (by decide +kernel)), (ztb_of (List.mem_append_left _ (List.mem_of_getElem? (i := 15) (by decide +kernel))) rfl)⟩
theorem cs_X9_380 : zcsV RX9 380 M_X5_worth 2 RX5 := ⟨mk_X5_worth, (Or.inr ⟨"SwitchSeven", (ztn_at 329 (by decide +kernel))⟩), (ztb_at 331 (by decide +kernel)), (ztb_of (List.mem_append_left _ (List.mem_of_getElem? (i := 17) (by decide +kernel))) rfl)⟩
theorem ml_X9_384 : Cond.methodLink RX9 384 Lib.Math.max.name ∈ ztb := (ztb_at 963 (by decide +kernel))
theorem cs_X9_389 : zcsV RX9 389 M_X9_greatestLikeness 2 RX9 := ⟨mk_X9_greatestLikeness, (Or.inl (ztb_at 959 (by decide +kernel))), (ztb_at 961 (by decide +kernel)), (ztb_of (List.mem_append_left _ (List.mem_of_getElem? (i := 66) (by decide +kernel))) rfl)⟩
theorem cs_X9_392 : zcsV RX9 392 M_X0_isRival 3 RX0 := ⟨mk_X0_isRival, (Or.inr ⟨"SwitchSeven", (ztn_at 964 (by decide +kernel))⟩), (ztb_at 966 (by decide +kernel)), (ztb_of (List.mem_append_left _ (List.mem_of_getElem? (i := 67) (by decide +kernel))) rfl)⟩
theorem cs_X9_397 : zcsV RX9 397 M_X0_keepSum 1 RX0 := ⟨mk_X0_keepSum, (Or.inr ⟨"SwitchSeven", (ztn_at 417 (by decide +kernel))⟩), (ztb_at 419 (by decide +kernel)), (ztb_of (List.mem_append_left _ (List.mem_of_getElem? (i := 32) (by decide +kernel))) rfl)⟩
theorem cs_X9_40 : zcsI RX9 40 M_X6_init 0 := ⟨mk_X6_init, (Or.inr ⟨"SwitchSeven", (ztn_at 122 (by decide +kernel))⟩), (ztb_at 123 (by decide +kernel)), rfl, rfl⟩
theorem cs_X9_400 : zcsV RX9 400 M_X9_moveOn 1 RX9 := ⟨mk_X9_moveOn, (Or.inl (ztb_at 272 (by decide +kernel))), (ztb_at 274 (by decide +kernel)), (ztb_of (List.mem_append_left _ (List.mem_of_getElem? (i := 5) (by decide +kernel))) rfl)⟩
theorem cs_X9_404 : zcsV RX9 404 M_X4_addFault 1 RX4 := ⟨mk_X4_addFault, (Or.inr ⟨"SwitchSeven", (ztn_at 280 (by decide +kernel))⟩), (ztb_at 282 (by decide +kernel)), (ztb_of (List.mem_append_left _ (List.mem_of_getElem? (i := 7) (by decide +kernel))) rfl)⟩
theorem cs_X9_408 : zcsV RX9 408 M_X1_hasStepLeft 0 RX1 := ⟨mk_X1_hasStepLeft, (Or.inr ⟨"SwitchSeven", (ztn_at 285 (by decide +kernel))⟩), (ztb_at 287 (by decide +kernel)), (ztb_of (List.mem_append_left _ (List.mem_of_getElem? (i := 8) (by decide +kernel))) rfl)⟩
theorem cs_X9_411 : zcsV RX9 411 M_X9_doStep 1 RX9 := ⟨mk_X9_doStep, (Or.inl (ztb_at 289 (by decide +kernel))), (ztb_at 291 (by decide +kernel)), (ztb_of (List.mem_append_left _ (List.mem_of_getElem? (i := 9) (by decide +kernel))) rfl)⟩
theorem cs_X9_417 : zcsV RX9 417 M_X9_refusesOverdrawn 1 RX9 := ⟨mk_X9_refusesOverdrawn, (Or.inl (ztb_at 302 (by decide +kernel))), (ztb_at 304 (by decide +kernel)), (ztb_of (List.mem_append_left _ (List.mem_of_getElem? (i := 12) (by decide +kernel))) rfl)⟩
theorem cs_X9_421 : zcsV RX9 421 M_X9_moveLines 1 RX9 := ⟨mk_X9_moveLines, (Or.inl (ztb_at 343 (by decide +kernel))), (ztb_at 345 (by decide +kernel)), (ztb_of (List.mem_append_left _ (List.mem_of_getElem? (i := 18) (by decide +kernel))) rfl)⟩
theorem cs_X9_424 : zcsS RX9 424 M_X9_carry 3 := ⟨mk_X9_carry, (Or.inl (ztb_at 347 (by decide +kernel))), (ztb_at 348 (by decide +kernel))⟩
theorem cs_X9_428 : zcsV RX9 428 M_X0_leaveFor 2 RX0 := ⟨mk_X0_leaveFor, (Or.inr ⟨"SwitchSeven", (ztn_at 350 (by decide +kernel))⟩), (ztb_at 352 (by decide +kernel)), (ztb_of (List.mem_append_left _ (List.mem_of_getElem? (i := 19) (by decide +kernel))) rfl)⟩
theorem cs_X9_432 : zcsV RX9 432 M_X9_lettersOfLeaving 2 RX9 := ⟨mk_X9_lettersOfLeaving, (Or.inl (ztb_at 313 (by decide +kernel))), (ztb_at 315 (by decide +kernel)), (ztb_of (List.mem_append_left _ (List.mem_of_getElem? (i := 14) (by decide +kernel))) rfl)⟩
theorem cs_X9_439 : zcsV RX9 439 M_X3_isDue 1 RX3 := ⟨mk_X3_isDue, (Or.inr ⟨"SwitchSeven", (ztn_at 367 (by decide +kernel))⟩), (ztb_at 369 (by decide +kernel)), (ztb_of (List.mem_append_left _ (List.mem_of_getElem? (i := 23) (by decide +kernel))) rfl)⟩
theorem cs_X9_442 : zcsV RX9 442 M_X3_setNextDue 0 RX3 := ⟨mk_X3_setNextDue, (Or.inr ⟨"SwitchSeven", (ztn_at 372 (by decide +kernel))⟩), (ztb_at 374 (by decide +kernel)), (ztb_of (List.mem_append_left _ (List.mem_of_getElem? (i := 24) (by decide +kernel))) rfl)⟩
theorem cs_X9_445 : zcsV RX9 445 M_X9_doLine 1 RX9 := ⟨mk_X9_doLine, (Or.inl (ztb_at 376 (by decide +kernel))), (ztb_at 378 (by decide +kernel)), (ztb_of (List.mem_append_left _ (List.mem_of_getElem? (i := 25) (by decide +kernel))) rfl)⟩
theorem cs_X9_451 : zcsS RX9 451 M_X9_whyBack 3 := ⟨mk_X9_whyBack, (Or.inl (ztb_at 383 (by decide +kernel))), (ztb_at 384 (by decide +kernel))⟩
theorem cs_X9_455 : zcsV RX9 455 M_X3_addBack 1 RX3 := ⟨mk_X3_addBack, (Or.inr ⟨"SwitchSeven", (ztn_at 386 (by decide +kernel))⟩), (ztb_at 388 (by decide +kernel)), (ztb_of (List.mem_append_left _ (List.mem_of_getElem? (i := 26) (by decide +kernel))) rfl)⟩
theorem cs_X9_458 : zcsV RX9 458 M_X9_comeBack 3 RX9 := ⟨mk_X9_comeBack, (Or.inl (ztb_at 390 (by decide +kernel))), (ztb_at 392 (by decide +kernel)), (ztb_of (List.mem_append_left _ (List.mem_of_getElem? (i := 27) (by decide +kernel))) rfl)⟩
theorem cs_X9_465 : zcsV RX9 465 M_X9_bankAtFault 1 RX9 := ⟨mk_X9_bankAtFault, (Or.inl (ztb_at 394 (by decide +kernel))), (ztb_at 396 (by decide +kernel)), (ztb_of (List.mem_append_left _ (List.mem_of_getElem? (i := 28) (by decide +kernel))) rfl)⟩
theorem cs_X9_469 : zcsV RX9 469 M_X9_worthOfGood 3 RX9 := ⟨mk_X9_worthOfGood, (Or.inl (ztb_at 402 (by decide +kernel))), (ztb_at 404 (by decide +kernel)), (ztb_of (List.mem_append_left _ (List.mem_of_getElem? (i := 30) (by decide +kernel))) rfl)⟩
theorem cs_X9_47 : zcsI RX9 47 M_X8_init 0 := ⟨mk_X8_init, (Or.inr ⟨"SwitchSeven", (ztn_at 154 (by decide +kernel))⟩), (ztb_at 155 (by decide +kernel)), rfl, rfl⟩
theorem ml_X9_473 : Cond.methodLink RX9 473 Lib.MathLoose.max_long.x ∈ ztb := (ztb_at 406 (by decide +kernel))
theorem ml_X9_478 : Cond.methodLink RX9 478 Lib.MathLoose.min_long.x ∈ ztb := (ztb_at 410 (by decide +kernel))
theorem cs_X9_54 : zcsI RX9 54 M_X7_init 0 := ⟨mk_X7_init, (Or.inr ⟨"SwitchSeven", (ztn_at 180 (by decide +kernel))⟩), (ztb_at 181 (by decide +kernel)), rfl, rfl⟩
theorem cs_X9_74 : zcsS RX9 74 M_X9_outside 3 := ⟨mk_X9_outside, (Or.inl (ztb_at 230 (by decide +kernel))), (ztb_at 231 (by decide +kernel))⟩
theorem cs_X9_78 : zcsV RX9 78 M_X9_refuse 1 RX9 := ⟨mk_X9_refuse, (Or.inl (ztb_at 233 (by decide +kernel))), (ztb_at 235 (by decide +kernel)), (ztb_of (List.mem_append_left _ (List.mem_of_getElem? (i := 0) (by decide +kernel))) rfl)⟩
theorem cs_X9_82 : zcsV RX9 82 M_X2_works 1 RX2 := ⟨mk_X2_works, (Or.inr ⟨"SwitchSeven", (ztn_at 237 (by decide +kernel))⟩), (ztb_at 239 (by decide +kernel)), (ztb_of (List.mem_append_left _ (List.mem_of_getElem? (i := 1) (by decide +kernel))) rfl)⟩
theorem cs_X9_86 : zcsV RX9 86 M_X9_beginNight 0 RX9 := ⟨mk_X9_beginNight, (Or.inl (ztb_at 245 (by decide +kernel))), (ztb_at 247 (by decide +kernel)), (ztb_of (List.mem_append_left _ (List.mem_of_getElem? (i := 3) (by decide +kernel))) rfl)⟩
theorem cs_X9_89 : zcsV RX9 89 M_X9_doMoves 0 RX9 := ⟨mk_X9_doMoves, (Or.inl (ztb_at 249 (by decide +kernel))), (ztb_at 251 (by decide +kernel)), (ztb_of (List.mem_append_left _ (List.mem_of_getElem? (i := 4) (by decide +kernel))) rfl)⟩
theorem cs_X9_9 : zcsI RX9 9 M_X2_init 0 := ⟨mk_X2_init, (Or.inr ⟨"SwitchSeven", (ztn_at 35 (by decide +kernel))⟩), (ztb_at 36 (by decide +kernel)), rfl, rfl⟩
theorem cs_X9_92 : zcsV RX9 92 M_X9_findRoutes 1 RX9 := ⟨mk_X9_findRoutes, (Or.inl (ztb_at 354 (by decide +kernel))), (ztb_at 356 (by decide +kernel)), (ztb_of (List.mem_append_left _ (List.mem_of_getElem? (i := 20) (by decide +kernel))) rfl)⟩
theorem cs_X9_95 : zcsV RX9 95 M_X9_doLines 0 RX9 := ⟨mk_X9_doLines, (Or.inl (ztb_at 363 (by decide +kernel))), (ztb_at 365 (by decide +kernel)), (ztb_of (List.mem_append_left _ (List.mem_of_getElem? (i := 22) (by decide +kernel))) rfl)⟩
theorem cs_X9_98 : zcsV RX9 98 M_X9_keepSums 0 RX9 := ⟨mk_X9_keepSums, (Or.inl (ztb_at 413 (by decide +kernel))), (ztb_at 415 (by decide +kernel)), (ztb_of (List.mem_append_left _ (List.mem_of_getElem? (i := 31) (by decide +kernel))) rfl)⟩
theorem ws_obj : Cond.instanceMethod objectInit ∈ ztb ∧ Cond.code objectInit ⟨#[0xb1]⟩ 1 none ∈ ztb := ⟨(ztb_at 31 (by decide +kernel)), ztb_at 32 (by decide +kernel)⟩
theorem ws_max : Cond.static Lib.Math.max.name ∈ ztb ∧ Cond.initialized "java/lang/Math" ∈ ztb ∧ Cond.code Lib.Math.max.name Lib.Math.max.code 2 (some .int) ∈ ztb := ⟨(ztb_at 553 (by decide +kernel)), (ztb_at 16 (by decide +kernel)), ztb_at 554 (by decide +kernel)⟩
theorem ws_min : Cond.static Lib.Math.min.name ∈ ztb ∧ Cond.initialized "java/lang/Math" ∈ ztb ∧ Cond.code Lib.Math.min.name Lib.Math.min.code 2 (some .int) ∈ ztb := ⟨(ztb_at 585 (by decide +kernel)), (ztb_at 16 (by decide +kernel)), ztb_at 586 (by decide +kernel)⟩
theorem ws_maxJ : Cond.static Lib.MathLoose.max_long.x ∈ ztb ∧ Cond.initialized "java/lang/Math" ∈ ztb ∧ Cond.code Lib.MathLoose.max_long.x Lib.MathLoose.max_long.code 4 (some .long) ∈ ztb := ⟨(ztb_at 407 (by decide +kernel)), (ztb_at 16 (by decide +kernel)), ztb_at 408 (by decide +kernel)⟩
theorem ws_minJ : Cond.static Lib.MathLoose.min_long.x ∈ ztb ∧ Cond.initialized "java/lang/Math" ∈ ztb ∧ Cond.code Lib.MathLoose.min_long.x Lib.MathLoose.min_long.code 4 (some .long) ∈ ztb := ⟨(ztb_at 411 (by decide +kernel)), (ztb_at 16 (by decide +kernel)), ztb_at 412 (by decide +kernel)⟩
abbrev M_Jx4a65c_size_8abf5 : zM := (yJx4a65c_size_8abf5, cJx4a65c_size_8abf5, 1, (some FieldType.int))
theorem mk_Jx4a65c_size_8abf5 : zmk M_Jx4a65c_size_8abf5 0 := ⟨ztb_at 256 (by decide +kernel), (ztb_at 6 (by decide +kernel)), by decide +kernel, by decide +kernel, Nat.le_of_ble_eq_true rfl⟩
abbrev M_Jx4a65c_get_915e3 : zM := (yJx4a65c_get_915e3, cJx4a65c_get_915e3, 2, (some (FieldType.object "java/lang/Object")))
theorem mk_Jx4a65c_get_915e3 : zmk M_Jx4a65c_get_915e3 1 := ⟨ztb_at 260 (by decide +kernel), (ztb_at 6 (by decide +kernel)), by decide +kernel, by decide +kernel, Nat.le_of_ble_eq_true rfl⟩
abbrev M_Jx4a65c_add_9ea2d : zM := (yJx4a65c_add_9ea2d, cJx4a65c_add_9ea2d, 2, (some FieldType.boolean))
theorem mk_Jx4a65c_add_9ea2d : zmk M_Jx4a65c_add_9ea2d 1 := ⟨ztb_at 536 (by decide +kernel), (ztb_at 6 (by decide +kernel)), by decide +kernel, by decide +kernel, Nat.le_of_ble_eq_true rfl⟩
abbrev M_Jx4a65c_init_da8c8 : zM := (yJx4a65c_init_da8c8, cJx4a65c_init_da8c8, 1, (none : Option FieldType))
theorem mk_Jx4a65c_init_da8c8 : zmk M_Jx4a65c_init_da8c8 0 := ⟨ztb_at 98 (by decide +kernel), (ztb_at 6 (by decide +kernel)), by decide +kernel, by decide +kernel, Nat.le_of_ble_eq_true rfl⟩
theorem cli_X6_11 : zcsI RX6 11 M_Jx4a65c_init_da8c8 0 := ⟨mk_Jx4a65c_init_da8c8, (Or.inl (ztb_at 127 (by decide +kernel))), (ztb_at 97 (by decide +kernel)), rfl, rfl⟩
theorem cls_X6_33 : zcsV RX6 33 M_Jx4a65c_size_8abf5 0 RJx4a65c := ⟨mk_Jx4a65c_size_8abf5, (Or.inl (ztb_at 310 (by decide +kernel))), (ztb_at 254 (by decide +kernel)), (ztb_at 255 (by decide +kernel))⟩
theorem cla_X6_36 : zcsV RX6 36 M_Jx4a65c_add_9ea2d 1 RJx4a65c := ⟨mk_Jx4a65c_add_9ea2d, (Or.inl (ztb_at 801 (by decide +kernel))), (ztb_at 534 (by decide +kernel)), (ztb_at 535 (by decide +kernel))⟩
theorem clg_X6_40 : zcsV RX6 40 M_Jx4a65c_get_915e3 1 RJx4a65c := ⟨mk_Jx4a65c_get_915e3, (Or.inl (ztb_at 311 (by decide +kernel))), (ztb_at 258 (by decide +kernel)), (ztb_at 259 (by decide +kernel))⟩
theorem cls_X9_142 : zcsV RX9 142 M_Jx4a65c_size_8abf5 0 RJx4a65c := ⟨mk_Jx4a65c_size_8abf5, (Or.inl (ztb_at 253 (by decide +kernel))), (ztb_at 254 (by decide +kernel)), (ztb_at 255 (by decide +kernel))⟩
theorem cla_X9_229 : zcsV RX9 229 M_Jx4a65c_add_9ea2d 1 RJx4a65c := ⟨mk_Jx4a65c_add_9ea2d, (Or.inl (ztb_at 533 (by decide +kernel))), (ztb_at 534 (by decide +kernel)), (ztb_at 535 (by decide +kernel))⟩
theorem cli_X9_27 : zcsI RX9 27 M_Jx4a65c_init_da8c8 0 := ⟨mk_Jx4a65c_init_da8c8, (Or.inl (ztb_at 96 (by decide +kernel))), (ztb_at 97 (by decide +kernel)), rfl, rfl⟩
theorem clg_X9_353 : zcsV RX9 353 M_Jx4a65c_get_915e3 1 RJx4a65c := ⟨mk_Jx4a65c_get_915e3, (Or.inl (ztb_at 257 (by decide +kernel))), (ztb_at 258 (by decide +kernel)), (ztb_at 259 (by decide +kernel))⟩

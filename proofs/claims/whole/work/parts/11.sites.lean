-- the methods, their words
def M_X0_begin : MM := (yX0_begin, cX0_begin, 4, none)
theorem mv_X0_begin : Vv M_X0_begin 3 := ⟨⟨mw 360 _ (by decide +kernel) rfl, mw 65 _ (by decide +kernel) rfl, ⟨by decide, by decide⟩, by decide, mw 358 _ (by decide +kernel) rfl, mw 359 _ (by decide +kernel) rfl⟩, by unfold NA; decide +kernel, rfl⟩
theorem pn_X0_begin : plainName M_X0_begin.1.cls = true := by decide +kernel
def M_X0_beOfKind : MM := (yX0_beOfKind, cX0_beOfKind, 2, none)
theorem mv_X0_beOfKind : Vv M_X0_beOfKind 1 := ⟨⟨mw 364 _ (by decide +kernel) rfl, mw 65 _ (by decide +kernel) rfl, ⟨by decide, by decide⟩, by decide, mw 362 _ (by decide +kernel) rfl, mw 363 _ (by decide +kernel) rfl⟩, by unfold NA; decide +kernel, rfl⟩
theorem pn_X0_beOfKind : plainName M_X0_beOfKind.1.cls = true := by decide +kernel
def M_X0_copyFrom : MM := (yX0_copyFrom, cX0_copyFrom, 2, none)
theorem mv_X0_copyFrom : Vv M_X0_copyFrom 1 := ⟨⟨mw 873 _ (by decide +kernel) rfl, mw 65 _ (by decide +kernel) rfl, ⟨by decide, by decide⟩, by decide, mw 871 _ (by decide +kernel) rfl, mw 872 _ (by decide +kernel) rfl⟩, by unfold NA; decide +kernel, rfl⟩
theorem pn_X0_copyFrom : plainName M_X0_copyFrom.1.cls = true := by decide +kernel
def M_X0_grows : MM := (yX0_grows, cX0_grows, 3, some .int)
theorem mv_X0_grows : Vi M_X0_grows 1 := ⟨⟨mw 380 _ (by decide +kernel) rfl, mw 65 _ (by decide +kernel) rfl, ⟨by decide, by decide⟩, by decide, mw 378 _ (by decide +kernel) rfl, mw 379 _ (by decide +kernel) rfl⟩, by unfold NA; decide +kernel, ⟨_, rfl, fun _ h => by cases h⟩⟩
theorem pn_X0_grows : plainName M_X0_grows.1.cls = true := by decide +kernel
def M_X0_byDay : MM := (yX0_byDay, cX0_byDay, 2, some .int)
theorem ms_X0_byDay : Si M_X0_byDay 2 := ⟨⟨mw 383 _ (by decide +kernel) rfl, mw 65 _ (by decide +kernel) rfl, ⟨by decide, by decide⟩, by decide, mw 382 _ (by decide +kernel) rfl⟩, by unfold NA; decide +kernel, ⟨_, rfl, fun _ h => by cases h⟩⟩
theorem pn_X0_byDay : plainName M_X0_byDay.1.cls = true := by decide +kernel
def M_X0_pays : MM := (yX0_pays, cX0_pays, 2, some .int)
theorem mv_X0_pays : Vi M_X0_pays 0 := ⟨⟨mw 416 _ (by decide +kernel) rfl, mw 65 _ (by decide +kernel) rfl, ⟨by decide, by decide⟩, by decide, mw 414 _ (by decide +kernel) rfl, mw 415 _ (by decide +kernel) rfl⟩, by unfold NA; decide +kernel, ⟨_, rfl, fun _ h => by cases h⟩⟩
theorem pn_X0_pays : plainName M_X0_pays.1.cls = true := by decide +kernel
def M_X1_faultOf : MM := (yX1_faultOf, cX1_faultOf, 5, some .int)
theorem mv_X1_faultOf : Vi M_X1_faultOf 3 := ⟨⟨mw 510 _ (by decide +kernel) rfl, mw 68 _ (by decide +kernel) rfl, ⟨by decide, by decide⟩, by decide, mw 508 _ (by decide +kernel) rfl, mw 509 _ (by decide +kernel) rfl⟩, by unfold NA; decide +kernel, ⟨_, rfl, fun _ h => by cases h⟩⟩
theorem pn_X1_faultOf : plainName M_X1_faultOf.1.cls = true := by decide +kernel
def M_X1_readRank : MM := (yX1_readRank, cX1_readRank, 4, some .boolean)
theorem mv_X1_readRank : Vi M_X1_readRank 2 := ⟨⟨mw 520 _ (by decide +kernel) rfl, mw 68 _ (by decide +kernel) rfl, ⟨by decide, by decide⟩, by decide, mw 519 _ (by decide +kernel) rfl, mw 3 _ (by decide +kernel) rfl⟩, by unfold NA; decide +kernel, ⟨_, rfl, fun _ h => by cases h⟩⟩
theorem pn_X1_readRank : plainName M_X1_readRank.1.cls = true := by decide +kernel
def M_X1_rankOf : MM := (yX1_rankOf, cX1_rankOf, 1, some .int)
theorem ms_X1_rankOf : Si M_X1_rankOf 1 := ⟨⟨mw 628 _ (by decide +kernel) rfl, mw 68 _ (by decide +kernel) rfl, ⟨by decide, by decide⟩, by decide, mw 627 _ (by decide +kernel) rfl⟩, by unfold NA; decide +kernel, ⟨_, rfl, fun _ h => by cases h⟩⟩
theorem pn_X1_rankOf : plainName M_X1_rankOf.1.cls = true := by decide +kernel
def M_X1_readOperand : MM := (yX1_readOperand, cX1_readOperand, 4, some .boolean)
theorem mv_X1_readOperand : Vi M_X1_readOperand 1 := ⟨⟨mw 524 _ (by decide +kernel) rfl, mw 68 _ (by decide +kernel) rfl, ⟨by decide, by decide⟩, by decide, mw 523 _ (by decide +kernel) rfl, mw 4 _ (by decide +kernel) rfl⟩, by unfold NA; decide +kernel, ⟨_, rfl, fun _ h => by cases h⟩⟩
theorem pn_X1_readOperand : plainName M_X1_readOperand.1.cls = true := by decide +kernel
def M_X1_readNumber : MM := (yX1_readNumber, cX1_readNumber, 3, none)
theorem mv_X1_readNumber : Vv M_X1_readNumber 0 := ⟨⟨mw 531 _ (by decide +kernel) rfl, mw 68 _ (by decide +kernel) rfl, ⟨by decide, by decide⟩, by decide, mw 530 _ (by decide +kernel) rfl, mw 5 _ (by decide +kernel) rfl⟩, by unfold NA; decide +kernel, rfl⟩
theorem pn_X1_readNumber : plainName M_X1_readNumber.1.cls = true := by decide +kernel
def M_X1_readNot : MM := (yX1_readNot, cX1_readNot, 2, some .boolean)
theorem mv_X1_readNot : Vi M_X1_readNot 1 := ⟨⟨mw 621 _ (by decide +kernel) rfl, mw 68 _ (by decide +kernel) rfl, ⟨by decide, by decide⟩, by decide, mw 620 _ (by decide +kernel) rfl, mw 6 _ (by decide +kernel) rfl⟩, by unfold NA; decide +kernel, ⟨_, rfl, fun _ h => by cases h⟩⟩
theorem pn_X1_readNot : plainName M_X1_readNot.1.cls = true := by decide +kernel
def M_X1_readBracket : MM := (yX1_readBracket, cX1_readBracket, 2, some .boolean)
theorem mv_X1_readBracket : Vi M_X1_readBracket 1 := ⟨⟨mw 625 _ (by decide +kernel) rfl, mw 68 _ (by decide +kernel) rfl, ⟨by decide, by decide⟩, by decide, mw 624 _ (by decide +kernel) rfl, mw 7 _ (by decide +kernel) rfl⟩, by unfold NA; decide +kernel, ⟨_, rfl, fun _ h => by cases h⟩⟩
theorem pn_X1_readBracket : plainName M_X1_readBracket.1.cls = true := by decide +kernel
def M_X1_isDigit : MM := (yX1_isDigit, cX1_isDigit, 1, some .boolean)
theorem ms_X1_isDigit : Si M_X1_isDigit 1 := ⟨⟨mw 527 _ (by decide +kernel) rfl, mw 68 _ (by decide +kernel) rfl, ⟨by decide, by decide⟩, by decide, mw 526 _ (by decide +kernel) rfl⟩, by unfold NA; decide +kernel, ⟨_, rfl, fun _ h => by cases h⟩⟩
theorem pn_X1_isDigit : plainName M_X1_isDigit.1.cls = true := by decide +kernel
def M_X2_begin : MM := (yX2_begin, cX2_begin, 4, none)
theorem mv_X2_begin : Vv M_X2_begin 2 := ⟨⟨mw 834 _ (by decide +kernel) rfl, mw 70 _ (by decide +kernel) rfl, ⟨by decide, by decide⟩, by decide, mw 832 _ (by decide +kernel) rfl, mw 833 _ (by decide +kernel) rfl⟩, by unfold NA; decide +kernel, rfl⟩
theorem pn_X2_begin : plainName M_X2_begin.1.cls = true := by decide +kernel
def M_X2_isMissing : MM := (yX2_isMissing, cX2_isMissing, 1, some .boolean)
theorem mv_X2_isMissing : Vi M_X2_isMissing 0 := ⟨⟨mw 780 _ (by decide +kernel) rfl, mw 70 _ (by decide +kernel) rfl, ⟨by decide, by decide⟩, by decide, mw 778 _ (by decide +kernel) rfl, mw 779 _ (by decide +kernel) rfl⟩, by unfold NA; decide +kernel, ⟨_, rfl, fun _ h => by cases h⟩⟩
theorem pn_X2_isMissing : plainName M_X2_isMissing.1.cls = true := by decide +kernel
def M_X2_write : MM := (yX2_write, cX2_write, 3, none)
theorem mv_X2_write : Vv M_X2_write 2 := ⟨⟨mw 842 _ (by decide +kernel) rfl, mw 70 _ (by decide +kernel) rfl, ⟨by decide, by decide⟩, by decide, mw 840 _ (by decide +kernel) rfl, mw 841 _ (by decide +kernel) rfl⟩, by unfold NA; decide +kernel, rfl⟩
theorem pn_X2_write : plainName M_X2_write.1.cls = true := by decide +kernel
def M_X2_hasRow : MM := (yX2_hasRow, cX2_hasRow, 3, some .boolean)
theorem mv_X2_hasRow : Vi M_X2_hasRow 2 := ⟨⟨mw 851 _ (by decide +kernel) rfl, mw 70 _ (by decide +kernel) rfl, ⟨by decide, by decide⟩, by decide, mw 849 _ (by decide +kernel) rfl, mw 850 _ (by decide +kernel) rfl⟩, by unfold NA; decide +kernel, ⟨_, rfl, fun _ h => by cases h⟩⟩
theorem pn_X2_hasRow : plainName M_X2_hasRow.1.cls = true := by decide +kernel
def M_X3_clear : MM := (yX3_clear, cX3_clear, 1, none)
theorem mv_X3_clear : Vv M_X3_clear 0 := ⟨⟨mw 516 _ (by decide +kernel) rfl, mw 66 _ (by decide +kernel) rfl, ⟨by decide, by decide⟩, by decide, mw 514 _ (by decide +kernel) rfl, mw 515 _ (by decide +kernel) rfl⟩, by unfold NA; decide +kernel, rfl⟩
theorem pn_X3_clear : plainName M_X3_clear.1.cls = true := by decide +kernel
def M_X3_isThere : MM := (yX3_isThere, cX3_isThere, 1, some .boolean)
theorem mv_X3_isThere : Vi M_X3_isThere 0 := ⟨⟨mw 392 _ (by decide +kernel) rfl, mw 66 _ (by decide +kernel) rfl, ⟨by decide, by decide⟩, by decide, mw 390 _ (by decide +kernel) rfl, mw 391 _ (by decide +kernel) rfl⟩, by unfold NA; decide +kernel, ⟨_, rfl, fun _ h => by cases h⟩⟩
theorem pn_X3_isThere : plainName M_X3_isThere.1.cls = true := by decide +kernel
def M_X3_copyFrom : MM := (yX3_copyFrom, cX3_copyFrom, 2, none)
theorem mv_X3_copyFrom : Vv M_X3_copyFrom 1 := ⟨⟨mw 632 _ (by decide +kernel) rfl, mw 66 _ (by decide +kernel) rfl, ⟨by decide, by decide⟩, by decide, mw 630 _ (by decide +kernel) rfl, mw 631 _ (by decide +kernel) rfl⟩, by unfold NA; decide +kernel, rfl⟩
theorem pn_X3_copyFrom : plainName M_X3_copyFrom.1.cls = true := by decide +kernel
def M_X3_add : MM := (yX3_add, cX3_add, 3, none)
theorem mv_X3_add : Vv M_X3_add 2 := ⟨⟨mw 535 _ (by decide +kernel) rfl, mw 66 _ (by decide +kernel) rfl, ⟨by decide, by decide⟩, by decide, mw 533 _ (by decide +kernel) rfl, mw 534 _ (by decide +kernel) rfl⟩, by unfold NA; decide +kernel, rfl⟩
theorem pn_X3_add : plainName M_X3_add.1.cls = true := by decide +kernel
def M_X3_workedOut : MM := (yX3_workedOut, cX3_workedOut, 7, some .int)
theorem mv_X3_workedOut : Vi M_X3_workedOut 3 := ⟨⟨mw 396 _ (by decide +kernel) rfl, mw 66 _ (by decide +kernel) rfl, ⟨by decide, by decide⟩, by decide, mw 394 _ (by decide +kernel) rfl, mw 395 _ (by decide +kernel) rfl⟩, by unfold NA; decide +kernel, ⟨_, rfl, fun _ h => by cases h⟩⟩
theorem pn_X3_workedOut : plainName M_X3_workedOut.1.cls = true := by decide +kernel
def M_X3_named : MM := (yX3_named, cX3_named, 4, some .int)
theorem ms_X3_named : Si M_X3_named 4 := ⟨⟨mw 399 _ (by decide +kernel) rfl, mw 66 _ (by decide +kernel) rfl, ⟨by decide, by decide⟩, by decide, mw 398 _ (by decide +kernel) rfl⟩, by unfold NA; decide +kernel, ⟨_, rfl, fun _ h => by cases h⟩⟩
theorem pn_X3_named : plainName M_X3_named.1.cls = true := by decide +kernel
def M_X3_joined : MM := (yX3_joined, cX3_joined, 3, some .int)
theorem ms_X3_joined : Si M_X3_joined 3 := ⟨⟨mw 402 _ (by decide +kernel) rfl, mw 66 _ (by decide +kernel) rfl, ⟨by decide, by decide⟩, by decide, mw 401 _ (by decide +kernel) rfl⟩, by unfold NA; decide +kernel, ⟨_, rfl, fun _ h => by cases h⟩⟩
theorem pn_X3_joined : plainName M_X3_joined.1.cls = true := by decide +kernel
def M_X4_dryThen : MM := (yX4_dryThen, cX4_dryThen, 4, some .int)
theorem mv_X4_dryThen : Vi M_X4_dryThen 2 := ⟨⟨mw 686 _ (by decide +kernel) rfl, mw 67 _ (by decide +kernel) rfl, ⟨by decide, by decide⟩, by decide, mw 684 _ (by decide +kernel) rfl, mw 685 _ (by decide +kernel) rfl⟩, by unfold NA; decide +kernel, ⟨_, rfl, fun _ h => by cases h⟩⟩
theorem pn_X4_dryThen : plainName M_X4_dryThen.1.cls = true := by decide +kernel
def M_X4_startAhead : MM := (yX4_startAhead, cX4_startAhead, 2, none)
theorem mv_X4_startAhead : Vv M_X4_startAhead 0 := ⟨⟨mw 690 _ (by decide +kernel) rfl, mw 67 _ (by decide +kernel) rfl, ⟨by decide, by decide⟩, by decide, mw 689 _ (by decide +kernel) rfl, mw 9 _ (by decide +kernel) rfl⟩, by unfold NA; decide +kernel, rfl⟩
theorem pn_X4_startAhead : plainName M_X4_startAhead.1.cls = true := by decide +kernel
def M_X4_goAhead : MM := (yX4_goAhead, cX4_goAhead, 3, none)
theorem mv_X4_goAhead : Vv M_X4_goAhead 1 := ⟨⟨mw 694 _ (by decide +kernel) rfl, mw 67 _ (by decide +kernel) rfl, ⟨by decide, by decide⟩, by decide, mw 693 _ (by decide +kernel) rfl, mw 10 _ (by decide +kernel) rfl⟩, by unfold NA; decide +kernel, rfl⟩
theorem pn_X4_goAhead : plainName M_X4_goAhead.1.cls = true := by decide +kernel
def M_X4_hoursUntilAbove : MM := (yX4_hoursUntilAbove, cX4_hoursUntilAbove, 3, some .int)
theorem mv_X4_hoursUntilAbove : Vi M_X4_hoursUntilAbove 1 := ⟨⟨mw 705 _ (by decide +kernel) rfl, mw 67 _ (by decide +kernel) rfl, ⟨by decide, by decide⟩, by decide, mw 703 _ (by decide +kernel) rfl, mw 704 _ (by decide +kernel) rfl⟩, by unfold NA; decide +kernel, ⟨_, rfl, fun _ h => by cases h⟩⟩
theorem pn_X4_hoursUntilAbove : plainName M_X4_hoursUntilAbove.1.cls = true := by decide +kernel
def M_X4_firstAbove : MM := (yX4_firstAbove, cX4_firstAbove, 3, some .int)
theorem mv_X4_firstAbove : Vi M_X4_firstAbove 1 := ⟨⟨mw 709 _ (by decide +kernel) rfl, mw 67 _ (by decide +kernel) rfl, ⟨by decide, by decide⟩, by decide, mw 707 _ (by decide +kernel) rfl, mw 708 _ (by decide +kernel) rfl⟩, by unfold NA; decide +kernel, ⟨_, rfl, fun _ h => by cases h⟩⟩
theorem pn_X4_firstAbove : plainName M_X4_firstAbove.1.cls = true := by decide +kernel
def M_X4_hoursUntilAsTold : MM := (yX4_hoursUntilAsTold, cX4_hoursUntilAsTold, 3, some .int)
theorem mv_X4_hoursUntilAsTold : Vi M_X4_hoursUntilAsTold 1 := ⟨⟨mw 784 _ (by decide +kernel) rfl, mw 67 _ (by decide +kernel) rfl, ⟨by decide, by decide⟩, by decide, mw 782 _ (by decide +kernel) rfl, mw 783 _ (by decide +kernel) rfl⟩, by unfold NA; decide +kernel, ⟨_, rfl, fun _ h => by cases h⟩⟩
theorem pn_X4_hoursUntilAsTold : plainName M_X4_hoursUntilAsTold.1.cls = true := by decide +kernel
def M_X4_isAsTold : MM := (yX4_isAsTold, cX4_isAsTold, 3, some .boolean)
theorem mv_X4_isAsTold : Vi M_X4_isAsTold 1 := ⟨⟨mw 788 _ (by decide +kernel) rfl, mw 67 _ (by decide +kernel) rfl, ⟨by decide, by decide⟩, by decide, mw 787 _ (by decide +kernel) rfl, mw 12 _ (by decide +kernel) rfl⟩, by unfold NA; decide +kernel, ⟨_, rfl, fun _ h => by cases h⟩⟩
theorem pn_X4_isAsTold : plainName M_X4_isAsTold.1.cls = true := by decide +kernel
def M_X4_bestSet : MM := (yX4_bestSet, cX4_bestSet, 6, some .int)
theorem mv_X4_bestSet : Vi M_X4_bestSet 1 := ⟨⟨mw 718 _ (by decide +kernel) rfl, mw 67 _ (by decide +kernel) rfl, ⟨by decide, by decide⟩, by decide, mw 716 _ (by decide +kernel) rfl, mw 717 _ (by decide +kernel) rfl⟩, by unfold NA; decide +kernel, ⟨_, rfl, fun _ h => by cases h⟩⟩
theorem pn_X4_bestSet : plainName M_X4_bestSet.1.cls = true := by decide +kernel
def M_X4_setsWithin : MM := (yX4_setsWithin, cX4_setsWithin, 4, some .int)
theorem mv_X4_setsWithin : Vi M_X4_setsWithin 1 := ⟨⟨mw 753 _ (by decide +kernel) rfl, mw 67 _ (by decide +kernel) rfl, ⟨by decide, by decide⟩, by decide, mw 751 _ (by decide +kernel) rfl, mw 752 _ (by decide +kernel) rfl⟩, by unfold NA; decide +kernel, ⟨_, rfl, fun _ h => by cases h⟩⟩
theorem pn_X4_setsWithin : plainName M_X4_setsWithin.1.cls = true := by decide +kernel
def M_X4_setsOf : MM := (yX4_setsOf, cX4_setsOf, 4, some .int)
theorem mv_X4_setsOf : Vi M_X4_setsOf 1 := ⟨⟨mw 765 _ (by decide +kernel) rfl, mw 67 _ (by decide +kernel) rfl, ⟨by decide, by decide⟩, by decide, mw 763 _ (by decide +kernel) rfl, mw 764 _ (by decide +kernel) rfl⟩, by unfold NA; decide +kernel, ⟨_, rfl, fun _ h => by cases h⟩⟩
theorem pn_X4_setsOf : plainName M_X4_setsOf.1.cls = true := by decide +kernel
def M_X4_leastSetOf : MM := (yX4_leastSetOf, cX4_leastSetOf, 3, some .int)
theorem mv_X4_leastSetOf : Vi M_X4_leastSetOf 1 := ⟨⟨mw 769 _ (by decide +kernel) rfl, mw 67 _ (by decide +kernel) rfl, ⟨by decide, by decide⟩, by decide, mw 767 _ (by decide +kernel) rfl, mw 768 _ (by decide +kernel) rfl⟩, by unfold NA; decide +kernel, ⟨_, rfl, fun _ h => by cases h⟩⟩
theorem pn_X4_leastSetOf : plainName M_X4_leastSetOf.1.cls = true := by decide +kernel
def M_X4_fewestCarriers : MM := (yX4_fewestCarriers, cX4_fewestCarriers, 3, some .int)
theorem mv_X4_fewestCarriers : Vi M_X4_fewestCarriers 1 := ⟨⟨mw 730 _ (by decide +kernel) rfl, mw 67 _ (by decide +kernel) rfl, ⟨by decide, by decide⟩, by decide, mw 728 _ (by decide +kernel) rfl, mw 729 _ (by decide +kernel) rfl⟩, by unfold NA; decide +kernel, ⟨_, rfl, fun _ h => by cases h⟩⟩
theorem pn_X4_fewestCarriers : plainName M_X4_fewestCarriers.1.cls = true := by decide +kernel
def M_X4_carrierOf : MM := (yX4_carrierOf, cX4_carrierOf, 2, some .int)
theorem mv_X4_carrierOf : Vi M_X4_carrierOf 1 := ⟨⟨mw 745 _ (by decide +kernel) rfl, mw 67 _ (by decide +kernel) rfl, ⟨by decide, by decide⟩, by decide, mw 743 _ (by decide +kernel) rfl, mw 744 _ (by decide +kernel) rfl⟩, by unfold NA; decide +kernel, ⟨_, rfl, fun _ h => by cases h⟩⟩
theorem pn_X4_carrierOf : plainName M_X4_carrierOf.1.cls = true := by decide +kernel
def M_X4_placeFrom : MM := (yX4_placeFrom, cX4_placeFrom, 7, none)
theorem mv_X4_placeFrom : Vv M_X4_placeFrom 3 := ⟨⟨mw 735 _ (by decide +kernel) rfl, mw 67 _ (by decide +kernel) rfl, ⟨by decide, by decide⟩, by decide, mw 734 _ (by decide +kernel) rfl, mw 11 _ (by decide +kernel) rfl⟩, by unfold NA; decide +kernel, rfl⟩
theorem pn_X4_placeFrom : plainName M_X4_placeFrom.1.cls = true := by decide +kernel
def M_X5_answerOf : MM := (yX5_answerOf, cX5_answerOf, 5, some .int)
theorem mv_X5_answerOf : Vi M_X5_answerOf 4 := ⟨⟨mw 796 _ (by decide +kernel) rfl, mw 69 _ (by decide +kernel) rfl, ⟨by decide, by decide⟩, by decide, mw 794 _ (by decide +kernel) rfl, mw 795 _ (by decide +kernel) rfl⟩, by unfold NA; decide +kernel, ⟨_, rfl, fun _ h => by cases h⟩⟩
theorem pn_X5_answerOf : plainName M_X5_answerOf.1.cls = true := by decide +kernel
def M_X5_spoken : MM := (yX5_spoken, cX5_spoken, 7, some .int)
theorem mv_X5_spoken : Vi M_X5_spoken 4 := ⟨⟨mw 800 _ (by decide +kernel) rfl, mw 69 _ (by decide +kernel) rfl, ⟨by decide, by decide⟩, by decide, mw 799 _ (by decide +kernel) rfl, mw 13 _ (by decide +kernel) rfl⟩, by unfold NA; decide +kernel, ⟨_, rfl, fun _ h => by cases h⟩⟩
theorem pn_X5_spoken : plainName M_X5_spoken.1.cls = true := by decide +kernel
def M_X5_ownerOf : MM := (yX5_ownerOf, cX5_ownerOf, 4, some .int)
theorem ms_X5_ownerOf : Si M_X5_ownerOf 2 := ⟨⟨mw 803 _ (by decide +kernel) rfl, mw 69 _ (by decide +kernel) rfl, ⟨by decide, by decide⟩, by decide, mw 802 _ (by decide +kernel) rfl⟩, by unfold NA; decide +kernel, ⟨_, rfl, fun _ h => by cases h⟩⟩
theorem pn_X5_ownerOf : plainName M_X5_ownerOf.1.cls = true := by decide +kernel
def M_X5_bodyOf : MM := (yX5_bodyOf, cX5_bodyOf, 3, some .int)
theorem ms_X5_bodyOf : Si M_X5_bodyOf 2 := ⟨⟨mw 806 _ (by decide +kernel) rfl, mw 69 _ (by decide +kernel) rfl, ⟨by decide, by decide⟩, by decide, mw 805 _ (by decide +kernel) rfl⟩, by unfold NA; decide +kernel, ⟨_, rfl, fun _ h => by cases h⟩⟩
theorem pn_X5_bodyOf : plainName M_X5_bodyOf.1.cls = true := by decide +kernel
def M_X5_workedOut : MM := (yX5_workedOut, cX5_workedOut, 5, some .int)
theorem mv_X5_workedOut : Vi M_X5_workedOut 4 := ⟨⟨mw 814 _ (by decide +kernel) rfl, mw 69 _ (by decide +kernel) rfl, ⟨by decide, by decide⟩, by decide, mw 813 _ (by decide +kernel) rfl, mw 14 _ (by decide +kernel) rfl⟩, by unfold NA; decide +kernel, ⟨_, rfl, fun _ h => by cases h⟩⟩
theorem pn_X5_workedOut : plainName M_X5_workedOut.1.cls = true := by decide +kernel
def M_X5_partOf : MM := (yX5_partOf, cX5_partOf, 3, some .int)
theorem mv_X5_partOf : Vi M_X5_partOf 1 := ⟨⟨mw 818 _ (by decide +kernel) rfl, mw 69 _ (by decide +kernel) rfl, ⟨by decide, by decide⟩, by decide, mw 817 _ (by decide +kernel) rfl, mw 15 _ (by decide +kernel) rfl⟩, by unfold NA; decide +kernel, ⟨_, rfl, fun _ h => by cases h⟩⟩
theorem pn_X5_partOf : plainName M_X5_partOf.1.cls = true := by decide +kernel
def M_X5_partAndSips : MM := (yX5_partAndSips, cX5_partAndSips, 5, some .int)
theorem mv_X5_partAndSips : Vi M_X5_partAndSips 3 := ⟨⟨mw 822 _ (by decide +kernel) rfl, mw 69 _ (by decide +kernel) rfl, ⟨by decide, by decide⟩, by decide, mw 821 _ (by decide +kernel) rfl, mw 16 _ (by decide +kernel) rfl⟩, by unfold NA; decide +kernel, ⟨_, rfl, fun _ h => by cases h⟩⟩
theorem pn_X5_partAndSips : plainName M_X5_partAndSips.1.cls = true := by decide +kernel
def M_X6_copyFrom : MM := (yX6_copyFrom, cX6_copyFrom, 3, none)
theorem mv_X6_copyFrom : Vv M_X6_copyFrom 1 := ⟨⟨mw 869 _ (by decide +kernel) rfl, mw 64 _ (by decide +kernel) rfl, ⟨by decide, by decide⟩, by decide, mw 867 _ (by decide +kernel) rfl, mw 868 _ (by decide +kernel) rfl⟩, by unfold NA; decide +kernel, rfl⟩
theorem pn_X6_copyFrom : plainName M_X6_copyFrom.1.cls = true := by decide +kernel
def M_X6_allFarms : MM := (yX6_allFarms, cX6_allFarms, 1, some .int)
theorem mv_X6_allFarms : Vi M_X6_allFarms 0 := ⟨⟨mw 472 _ (by decide +kernel) rfl, mw 64 _ (by decide +kernel) rfl, ⟨by decide, by decide⟩, by decide, mw 470 _ (by decide +kernel) rfl, mw 471 _ (by decide +kernel) rfl⟩, by unfold NA; decide +kernel, ⟨_, rfl, fun _ h => by cases h⟩⟩
theorem pn_X6_allFarms : plainName M_X6_allFarms.1.cls = true := by decide +kernel
def M_X6_given : MM := (yX6_given, cX6_given, 7, some .int)
theorem mv_X6_given : Vi M_X6_given 4 := ⟨⟨mw 388 _ (by decide +kernel) rfl, mw 64 _ (by decide +kernel) rfl, ⟨by decide, by decide⟩, by decide, mw 386 _ (by decide +kernel) rfl, mw 387 _ (by decide +kernel) rfl⟩, by unfold NA; decide +kernel, ⟨_, rfl, fun _ h => by cases h⟩⟩
theorem pn_X6_given : plainName M_X6_given.1.cls = true := by decide +kernel
def M_X6_growthOf : MM := (yX6_growthOf, cX6_growthOf, 4, some .int)
theorem mv_X6_growthOf : Vi M_X6_growthOf 3 := ⟨⟨mw 376 _ (by decide +kernel) rfl, mw 64 _ (by decide +kernel) rfl, ⟨by decide, by decide⟩, by decide, mw 374 _ (by decide +kernel) rfl, mw 375 _ (by decide +kernel) rfl⟩, by unfold NA; decide +kernel, ⟨_, rfl, fun _ h => by cases h⟩⟩
theorem pn_X6_growthOf : plainName M_X6_growthOf.1.cls = true := by decide +kernel
def M_X6_payOf : MM := (yX6_payOf, cX6_payOf, 2, some .int)
theorem mv_X6_payOf : Vi M_X6_payOf 1 := ⟨⟨mw 412 _ (by decide +kernel) rfl, mw 64 _ (by decide +kernel) rfl, ⟨by decide, by decide⟩, by decide, mw 410 _ (by decide +kernel) rfl, mw 411 _ (by decide +kernel) rfl⟩, by unfold NA; decide +kernel, ⟨_, rfl, fun _ h => by cases h⟩⟩
theorem pn_X6_payOf : plainName M_X6_payOf.1.cls = true := by decide +kernel
def M_X6_payOfSet : MM := (yX6_payOfSet, cX6_payOfSet, 4, some .int)
theorem mv_X6_payOfSet : Vi M_X6_payOfSet 1 := ⟨⟨mw 488 _ (by decide +kernel) rfl, mw 64 _ (by decide +kernel) rfl, ⟨by decide, by decide⟩, by decide, mw 486 _ (by decide +kernel) rfl, mw 487 _ (by decide +kernel) rfl⟩, by unfold NA; decide +kernel, ⟨_, rfl, fun _ h => by cases h⟩⟩
theorem pn_X6_payOfSet : plainName M_X6_payOfSet.1.cls = true := by decide +kernel
def M_X6_dryOfSet : MM := (yX6_dryOfSet, cX6_dryOfSet, 4, some .int)
theorem mv_X6_dryOfSet : Vi M_X6_dryOfSet 1 := ⟨⟨mw 480 _ (by decide +kernel) rfl, mw 64 _ (by decide +kernel) rfl, ⟨by decide, by decide⟩, by decide, mw 478 _ (by decide +kernel) rfl, mw 479 _ (by decide +kernel) rfl⟩, by unfold NA; decide +kernel, ⟨_, rfl, fun _ h => by cases h⟩⟩
theorem pn_X6_dryOfSet : plainName M_X6_dryOfSet.1.cls = true := by decide +kernel
def M_X6_mayBeCarried : MM := (yX6_mayBeCarried, cX6_mayBeCarried, 5, some .boolean)
theorem mv_X6_mayBeCarried : Vi M_X6_mayBeCarried 3 := ⟨⟨mw 476 _ (by decide +kernel) rfl, mw 64 _ (by decide +kernel) rfl, ⟨by decide, by decide⟩, by decide, mw 474 _ (by decide +kernel) rfl, mw 475 _ (by decide +kernel) rfl⟩, by unfold NA; decide +kernel, ⟨_, rfl, fun _ h => by cases h⟩⟩
theorem pn_X6_mayBeCarried : plainName M_X6_mayBeCarried.1.cls = true := by decide +kernel
def M_X6_beCarried : MM := (yX6_beCarried, cX6_beCarried, 6, some .int)
theorem mv_X6_beCarried : Vi M_X6_beCarried 3 := ⟨⟨mw 484 _ (by decide +kernel) rfl, mw 64 _ (by decide +kernel) rfl, ⟨by decide, by decide⟩, by decide, mw 482 _ (by decide +kernel) rfl, mw 483 _ (by decide +kernel) rfl⟩, by unfold NA; decide +kernel, ⟨_, rfl, fun _ h => by cases h⟩⟩
theorem pn_X6_beCarried : plainName M_X6_beCarried.1.cls = true := by decide +kernel
def M_X6_carryByDraws : MM := (yX6_carryByDraws, cX6_carryByDraws, 4, some .int)
theorem mv_X6_carryByDraws : Vi M_X6_carryByDraws 0 := ⟨⟨mw 663 _ (by decide +kernel) rfl, mw 64 _ (by decide +kernel) rfl, ⟨by decide, by decide⟩, by decide, mw 661 _ (by decide +kernel) rfl, mw 662 _ (by decide +kernel) rfl⟩, by unfold NA; decide +kernel, ⟨_, rfl, fun _ h => by cases h⟩⟩
theorem pn_X6_carryByDraws : plainName M_X6_carryByDraws.1.cls = true := by decide +kernel
def M_X6_drawn : MM := (yX6_drawn, cX6_drawn, 1, some .int)
theorem mv_X6_drawn : Vi M_X6_drawn 0 := ⟨⟨mw 667 _ (by decide +kernel) rfl, mw 64 _ (by decide +kernel) rfl, ⟨by decide, by decide⟩, by decide, mw 666 _ (by decide +kernel) rfl, mw 8 _ (by decide +kernel) rfl⟩, by unfold NA; decide +kernel, ⟨_, rfl, fun _ h => by cases h⟩⟩
theorem pn_X6_drawn : plainName M_X6_drawn.1.cls = true := by decide +kernel
def M_X6_goOnAnHour : MM := (yX6_goOnAnHour, cX6_goOnAnHour, 3, none)
theorem mv_X6_goOnAnHour : Vv M_X6_goOnAnHour 0 := ⟨⟨mw 654 _ (by decide +kernel) rfl, mw 64 _ (by decide +kernel) rfl, ⟨by decide, by decide⟩, by decide, mw 652 _ (by decide +kernel) rfl, mw 653 _ (by decide +kernel) rfl⟩, by unfold NA; decide +kernel, rfl⟩
theorem pn_X6_goOnAnHour : plainName M_X6_goOnAnHour.1.cls = true := by decide +kernel
def M_X7_farm : MM := (yX7_farm, cX7_farm, 4, some .int)
theorem mv_X7_farm : Vi M_X7_farm 3 := ⟨⟨mw 345 _ (by decide +kernel) rfl, mw 63 _ (by decide +kernel) rfl, ⟨by decide, by decide⟩, by decide, mw 343 _ (by decide +kernel) rfl, mw 344 _ (by decide +kernel) rfl⟩, by unfold NA; decide +kernel, ⟨_, rfl, fun _ h => by cases h⟩⟩
theorem pn_X7_farm : plainName M_X7_farm.1.cls = true := by decide +kernel
def M_X7_farmIs : MM := (yX7_farmIs, cX7_farmIs, 4, some .int)
theorem mv_X7_farmIs : Vi M_X7_farmIs 2 := ⟨⟨mw 368 _ (by decide +kernel) rfl, mw 63 _ (by decide +kernel) rfl, ⟨by decide, by decide⟩, by decide, mw 366 _ (by decide +kernel) rfl, mw 367 _ (by decide +kernel) rfl⟩, by unfold NA; decide +kernel, ⟨_, rfl, fun _ h => by cases h⟩⟩
theorem pn_X7_farmIs : plainName M_X7_farmIs.1.cls = true := by decide +kernel
def M_X7_become : MM := (yX7_become, cX7_become, 4, some .int)
theorem mv_X7_become : Vi M_X7_become 2 := ⟨⟨mw 420 _ (by decide +kernel) rfl, mw 63 _ (by decide +kernel) rfl, ⟨by decide, by decide⟩, by decide, mw 418 _ (by decide +kernel) rfl, mw 419 _ (by decide +kernel) rfl⟩, by unfold NA; decide +kernel, ⟨_, rfl, fun _ h => by cases h⟩⟩
theorem pn_X7_become : plainName M_X7_become.1.cls = true := by decide +kernel
def M_X7_as : MM := (yX7_as, cX7_as, 3, some .int)
theorem mv_X7_as : Vi M_X7_as 2 := ⟨⟨mw 425 _ (by decide +kernel) rfl, mw 63 _ (by decide +kernel) rfl, ⟨by decide, by decide⟩, by decide, mw 423 _ (by decide +kernel) rfl, mw 424 _ (by decide +kernel) rfl⟩, by unfold NA; decide +kernel, ⟨_, rfl, fun _ h => by cases h⟩⟩
theorem pn_X7_as : plainName M_X7_as.1.cls = true := by decide +kernel
def M_X7_parch : MM := (yX7_parch, cX7_parch, 4, some .int)
theorem mv_X7_parch : Vi M_X7_parch 2 := ⟨⟨mw 437 _ (by decide +kernel) rfl, mw 63 _ (by decide +kernel) rfl, ⟨by decide, by decide⟩, by decide, mw 435 _ (by decide +kernel) rfl, mw 436 _ (by decide +kernel) rfl⟩, by unfold NA; decide +kernel, ⟨_, rfl, fun _ h => by cases h⟩⟩
theorem pn_X7_parch : plainName M_X7_parch.1.cls = true := by decide +kernel
def M_X7_graze : MM := (yX7_graze, cX7_graze, 4, some .int)
theorem mv_X7_graze : Vi M_X7_graze 2 := ⟨⟨mw 441 _ (by decide +kernel) rfl, mw 63 _ (by decide +kernel) rfl, ⟨by decide, by decide⟩, by decide, mw 439 _ (by decide +kernel) rfl, mw 440 _ (by decide +kernel) rfl⟩, by unfold NA; decide +kernel, ⟨_, rfl, fun _ h => by cases h⟩⟩
theorem pn_X7_graze : plainName M_X7_graze.1.cls = true := by decide +kernel
def M_X7_carrier : MM := (yX7_carrier, cX7_carrier, 2, some .int)
theorem mv_X7_carrier : Vi M_X7_carrier 1 := ⟨⟨mw 445 _ (by decide +kernel) rfl, mw 63 _ (by decide +kernel) rfl, ⟨by decide, by decide⟩, by decide, mw 443 _ (by decide +kernel) rfl, mw 444 _ (by decide +kernel) rfl⟩, by unfold NA; decide +kernel, ⟨_, rfl, fun _ h => by cases h⟩⟩
theorem pn_X7_carrier : plainName M_X7_carrier.1.cls = true := by decide +kernel
def M_X7_carrierIs : MM := (yX7_carrierIs, cX7_carrierIs, 3, some .int)
theorem mv_X7_carrierIs : Vi M_X7_carrierIs 2 := ⟨⟨mw 449 _ (by decide +kernel) rfl, mw 63 _ (by decide +kernel) rfl, ⟨by decide, by decide⟩, by decide, mw 447 _ (by decide +kernel) rfl, mw 448 _ (by decide +kernel) rfl⟩, by unfold NA; decide +kernel, ⟨_, rfl, fun _ h => by cases h⟩⟩
theorem pn_X7_carrierIs : plainName M_X7_carrierIs.1.cls = true := by decide +kernel
def M_X7_pool : MM := (yX7_pool, cX7_pool, 4, some .int)
theorem mv_X7_pool : Vi M_X7_pool 2 := ⟨⟨mw 457 _ (by decide +kernel) rfl, mw 63 _ (by decide +kernel) rfl, ⟨by decide, by decide⟩, by decide, mw 455 _ (by decide +kernel) rfl, mw 456 _ (by decide +kernel) rfl⟩, by unfold NA; decide +kernel, ⟨_, rfl, fun _ h => by cases h⟩⟩
theorem pn_X7_pool : plainName M_X7_pool.1.cls = true := by decide +kernel
def M_X7_swap : MM := (yX7_swap, cX7_swap, 4, some .int)
theorem mv_X7_swap : Vi M_X7_swap 2 := ⟨⟨mw 464 _ (by decide +kernel) rfl, mw 63 _ (by decide +kernel) rfl, ⟨by decide, by decide⟩, by decide, mw 462 _ (by decide +kernel) rfl, mw 463 _ (by decide +kernel) rfl⟩, by unfold NA; decide +kernel, ⟨_, rfl, fun _ h => by cases h⟩⟩
theorem pn_X7_swap : plainName M_X7_swap.1.cls = true := by decide +kernel
def M_X7_carry : MM := (yX7_carry, cX7_carry, 4, some .int)
theorem mv_X7_carry : Vi M_X7_carry 3 := ⟨⟨mw 468 _ (by decide +kernel) rfl, mw 63 _ (by decide +kernel) rfl, ⟨by decide, by decide⟩, by decide, mw 466 _ (by decide +kernel) rfl, mw 467 _ (by decide +kernel) rfl⟩, by unfold NA; decide +kernel, ⟨_, rfl, fun _ h => by cases h⟩⟩
theorem pn_X7_carry : plainName M_X7_carry.1.cls = true := by decide +kernel
def M_X7_feed : MM := (yX7_feed, cX7_feed, 5, some .int)
theorem mv_X7_feed : Vi M_X7_feed 2 := ⟨⟨mw 494 _ (by decide +kernel) rfl, mw 63 _ (by decide +kernel) rfl, ⟨by decide, by decide⟩, by decide, mw 492 _ (by decide +kernel) rfl, mw 493 _ (by decide +kernel) rfl⟩, by unfold NA; decide +kernel, ⟨_, rfl, fun _ h => by cases h⟩⟩
theorem pn_X7_feed : plainName M_X7_feed.1.cls = true := by decide +kernel
def M_X7_text : MM := (yX7_text, cX7_text, 3, some .int)
theorem mv_X7_text : Vi M_X7_text 1 := ⟨⟨mw 498 _ (by decide +kernel) rfl, mw 63 _ (by decide +kernel) rfl, ⟨by decide, by decide⟩, by decide, mw 496 _ (by decide +kernel) rfl, mw 497 _ (by decide +kernel) rfl⟩, by unfold NA; decide +kernel, ⟨_, rfl, fun _ h => by cases h⟩⟩
theorem pn_X7_text : plainName M_X7_text.1.cls = true := by decide +kernel
def M_X7_untell : MM := (yX7_untell, cX7_untell, 3, some .int)
theorem mv_X7_untell : Vi M_X7_untell 1 := ⟨⟨mw 639 _ (by decide +kernel) rfl, mw 63 _ (by decide +kernel) rfl, ⟨by decide, by decide⟩, by decide, mw 637 _ (by decide +kernel) rfl, mw 638 _ (by decide +kernel) rfl⟩, by unfold NA; decide +kernel, ⟨_, rfl, fun _ h => by cases h⟩⟩
theorem pn_X7_untell : plainName M_X7_untell.1.cls = true := by decide +kernel
def M_X7_law : MM := (yX7_law, cX7_law, 5, some .int)
theorem mv_X7_law : Vi M_X7_law 4 := ⟨⟨mw 645 _ (by decide +kernel) rfl, mw 63 _ (by decide +kernel) rfl, ⟨by decide, by decide⟩, by decide, mw 643 _ (by decide +kernel) rfl, mw 644 _ (by decide +kernel) rfl⟩, by unfold NA; decide +kernel, ⟨_, rfl, fun _ h => by cases h⟩⟩
theorem pn_X7_law : plainName M_X7_law.1.cls = true := by decide +kernel
def M_X7_hours : MM := (yX7_hours, cX7_hours, 3, some .int)
theorem mv_X7_hours : Vi M_X7_hours 1 := ⟨⟨mw 650 _ (by decide +kernel) rfl, mw 63 _ (by decide +kernel) rfl, ⟨by decide, by decide⟩, by decide, mw 648 _ (by decide +kernel) rfl, mw 649 _ (by decide +kernel) rfl⟩, by unfold NA; decide +kernel, ⟨_, rfl, fun _ h => by cases h⟩⟩
theorem pn_X7_hours : plainName M_X7_hours.1.cls = true := by decide +kernel
def M_X7_loose : MM := (yX7_loose, cX7_loose, 4, some .int)
theorem mv_X7_loose : Vi M_X7_loose 1 := ⟨⟨mw 659 _ (by decide +kernel) rfl, mw 63 _ (by decide +kernel) rfl, ⟨by decide, by decide⟩, by decide, mw 657 _ (by decide +kernel) rfl, mw 658 _ (by decide +kernel) rfl⟩, by unfold NA; decide +kernel, ⟨_, rfl, fun _ h => by cases h⟩⟩
theorem pn_X7_loose : plainName M_X7_loose.1.cls = true := by decide +kernel
def M_X7_hour : MM := (yX7_hour, cX7_hour, 3, some .int)
theorem mv_X7_hour : Vi M_X7_hour 1 := ⟨⟨mw 674 _ (by decide +kernel) rfl, mw 63 _ (by decide +kernel) rfl, ⟨by decide, by decide⟩, by decide, mw 672 _ (by decide +kernel) rfl, mw 673 _ (by decide +kernel) rfl⟩, by unfold NA; decide +kernel, ⟨_, rfl, fun _ h => by cases h⟩⟩
theorem pn_X7_hour : plainName M_X7_hour.1.cls = true := by decide +kernel
def M_X7_seed : MM := (yX7_seed, cX7_seed, 3, some .int)
theorem mv_X7_seed : Vi M_X7_seed 1 := ⟨⟨mw 678 _ (by decide +kernel) rfl, mw 63 _ (by decide +kernel) rfl, ⟨by decide, by decide⟩, by decide, mw 676 _ (by decide +kernel) rfl, mw 677 _ (by decide +kernel) rfl⟩, by unfold NA; decide +kernel, ⟨_, rfl, fun _ h => by cases h⟩⟩
theorem pn_X7_seed : plainName M_X7_seed.1.cls = true := by decide +kernel
def M_X7_then : MM := (yX7_then, cX7_then, 3, some .int)
theorem mv_X7_then : Vi M_X7_then 2 := ⟨⟨mw 682 _ (by decide +kernel) rfl, mw 63 _ (by decide +kernel) rfl, ⟨by decide, by decide⟩, by decide, mw 680 _ (by decide +kernel) rfl, mw 681 _ (by decide +kernel) rfl⟩, by unfold NA; decide +kernel, ⟨_, rfl, fun _ h => by cases h⟩⟩
theorem pn_X7_then : plainName M_X7_then.1.cls = true := by decide +kernel
def M_X7_first : MM := (yX7_first, cX7_first, 4, some .int)
theorem mv_X7_first : Vi M_X7_first 2 := ⟨⟨mw 701 _ (by decide +kernel) rfl, mw 63 _ (by decide +kernel) rfl, ⟨by decide, by decide⟩, by decide, mw 699 _ (by decide +kernel) rfl, mw 700 _ (by decide +kernel) rfl⟩, by unfold NA; decide +kernel, ⟨_, rfl, fun _ h => by cases h⟩⟩
theorem pn_X7_first : plainName M_X7_first.1.cls = true := by decide +kernel
def M_X7_round : MM := (yX7_round, cX7_round, 4, some .int)
theorem mv_X7_round : Vi M_X7_round 2 := ⟨⟨mw 714 _ (by decide +kernel) rfl, mw 63 _ (by decide +kernel) rfl, ⟨by decide, by decide⟩, by decide, mw 712 _ (by decide +kernel) rfl, mw 713 _ (by decide +kernel) rfl⟩, by unfold NA; decide +kernel, ⟨_, rfl, fun _ h => by cases h⟩⟩
theorem pn_X7_round : plainName M_X7_round.1.cls = true := by decide +kernel
def M_X7_fewest : MM := (yX7_fewest, cX7_fewest, 4, some .int)
theorem mv_X7_fewest : Vi M_X7_fewest 2 := ⟨⟨mw 726 _ (by decide +kernel) rfl, mw 63 _ (by decide +kernel) rfl, ⟨by decide, by decide⟩, by decide, mw 724 _ (by decide +kernel) rfl, mw 725 _ (by decide +kernel) rfl⟩, by unfold NA; decide +kernel, ⟨_, rfl, fun _ h => by cases h⟩⟩
theorem pn_X7_fewest : plainName M_X7_fewest.1.cls = true := by decide +kernel
def M_X7_odds : MM := (yX7_odds, cX7_odds, 6, some .int)
theorem mv_X7_odds : Vi M_X7_odds 2 := ⟨⟨mw 749 _ (by decide +kernel) rfl, mw 63 _ (by decide +kernel) rfl, ⟨by decide, by decide⟩, by decide, mw 747 _ (by decide +kernel) rfl, mw 748 _ (by decide +kernel) rfl⟩, by unfold NA; decide +kernel, ⟨_, rfl, fun _ h => by cases h⟩⟩
theorem pn_X7_odds : plainName M_X7_odds.1.cls = true := by decide +kernel
def M_X7_whose : MM := (yX7_whose, cX7_whose, 4, some .int)
theorem mv_X7_whose : Vi M_X7_whose 2 := ⟨⟨mw 761 _ (by decide +kernel) rfl, mw 63 _ (by decide +kernel) rfl, ⟨by decide, by decide⟩, by decide, mw 759 _ (by decide +kernel) rfl, mw 760 _ (by decide +kernel) rfl⟩, by unfold NA; decide +kernel, ⟨_, rfl, fun _ h => by cases h⟩⟩
theorem pn_X7_whose : plainName M_X7_whose.1.cls = true := by decide +kernel
def M_X7_fits : MM := (yX7_fits, cX7_fits, 3, some .int)
theorem mv_X7_fits : Vi M_X7_fits 1 := ⟨⟨mw 773 _ (by decide +kernel) rfl, mw 63 _ (by decide +kernel) rfl, ⟨by decide, by decide⟩, by decide, mw 771 _ (by decide +kernel) rfl, mw 772 _ (by decide +kernel) rfl⟩, by unfold NA; decide +kernel, ⟨_, rfl, fun _ h => by cases h⟩⟩
theorem pn_X7_fits : plainName M_X7_fits.1.cls = true := by decide +kernel
def M_X7_voice : MM := (yX7_voice, cX7_voice, 5, some .int)
theorem mv_X7_voice : Vi M_X7_voice 3 := ⟨⟨mw 792 _ (by decide +kernel) rfl, mw 63 _ (by decide +kernel) rfl, ⟨by decide, by decide⟩, by decide, mw 790 _ (by decide +kernel) rfl, mw 791 _ (by decide +kernel) rfl⟩, by unfold NA; decide +kernel, ⟨_, rfl, fun _ h => by cases h⟩⟩
theorem pn_X7_voice : plainName M_X7_voice.1.cls = true := by decide +kernel
def M_X7_body : MM := (yX7_body, cX7_body, 2, some .int)
theorem mv_X7_body : Vi M_X7_body 1 := ⟨⟨mw 826 _ (by decide +kernel) rfl, mw 63 _ (by decide +kernel) rfl, ⟨by decide, by decide⟩, by decide, mw 824 _ (by decide +kernel) rfl, mw 825 _ (by decide +kernel) rfl⟩, by unfold NA; decide +kernel, ⟨_, rfl, fun _ h => by cases h⟩⟩
theorem pn_X7_body : plainName M_X7_body.1.cls = true := by decide +kernel
def M_X7_sheet : MM := (yX7_sheet, cX7_sheet, 4, some .int)
theorem mv_X7_sheet : Vi M_X7_sheet 3 := ⟨⟨mw 830 _ (by decide +kernel) rfl, mw 63 _ (by decide +kernel) rfl, ⟨by decide, by decide⟩, by decide, mw 828 _ (by decide +kernel) rfl, mw 829 _ (by decide +kernel) rfl⟩, by unfold NA; decide +kernel, ⟨_, rfl, fun _ h => by cases h⟩⟩
theorem pn_X7_sheet : plainName M_X7_sheet.1.cls = true := by decide +kernel
def M_X7_put : MM := (yX7_put, cX7_put, 4, some .int)
theorem mv_X7_put : Vi M_X7_put 3 := ⟨⟨mw 838 _ (by decide +kernel) rfl, mw 63 _ (by decide +kernel) rfl, ⟨by decide, by decide⟩, by decide, mw 836 _ (by decide +kernel) rfl, mw 837 _ (by decide +kernel) rfl⟩, by unfold NA; decide +kernel, ⟨_, rfl, fun _ h => by cases h⟩⟩
theorem pn_X7_put : plainName M_X7_put.1.cls = true := by decide +kernel
def M_X7_move : MM := (yX7_move, cX7_move, 8, some .int)
theorem mv_X7_move : Vi M_X7_move 5 := ⟨⟨mw 847 _ (by decide +kernel) rfl, mw 63 _ (by decide +kernel) rfl, ⟨by decide, by decide⟩, by decide, mw 845 _ (by decide +kernel) rfl, mw 846 _ (by decide +kernel) rfl⟩, by unfold NA; decide +kernel, ⟨_, rfl, fun _ h => by cases h⟩⟩
theorem pn_X7_move : plainName M_X7_move.1.cls = true := by decide +kernel
def M_X7_parches : MM := (yX7_parches, cX7_parches, 5, some .int)
theorem mv_X7_parches : Vi M_X7_parches 1 := ⟨⟨mw 856 _ (by decide +kernel) rfl, mw 63 _ (by decide +kernel) rfl, ⟨by decide, by decide⟩, by decide, mw 854 _ (by decide +kernel) rfl, mw 855 _ (by decide +kernel) rfl⟩, by unfold NA; decide +kernel, ⟨_, rfl, fun _ h => by cases h⟩⟩
theorem pn_X7_parches : plainName M_X7_parches.1.cls = true := by decide +kernel
def M_X7_judge : MM := (yX7_judge, cX7_judge, 5, some .int)
theorem mv_X7_judge : Vi M_X7_judge 1 := ⟨⟨mw 861 _ (by decide +kernel) rfl, mw 63 _ (by decide +kernel) rfl, ⟨by decide, by decide⟩, by decide, mw 859 _ (by decide +kernel) rfl, mw 860 _ (by decide +kernel) rfl⟩, by unfold NA; decide +kernel, ⟨_, rfl, fun _ h => by cases h⟩⟩
theorem pn_X7_judge : plainName M_X7_judge.1.cls = true := by decide +kernel
def M_X7_image : MM := (yX7_image, cX7_image, 1, some .int)
theorem mv_X7_image : Vi M_X7_image 0 := ⟨⟨mw 865 _ (by decide +kernel) rfl, mw 63 _ (by decide +kernel) rfl, ⟨by decide, by decide⟩, by decide, mw 863 _ (by decide +kernel) rfl, mw 864 _ (by decide +kernel) rfl⟩, by unfold NA; decide +kernel, ⟨_, rfl, fun _ h => by cases h⟩⟩
theorem pn_X7_image : plainName M_X7_image.1.cls = true := by decide +kernel
def M_X7_restore : MM := (yX7_restore, cX7_restore, 1, some .int)
theorem mv_X7_restore : Vi M_X7_restore 0 := ⟨⟨mw 879 _ (by decide +kernel) rfl, mw 63 _ (by decide +kernel) rfl, ⟨by decide, by decide⟩, by decide, mw 877 _ (by decide +kernel) rfl, mw 878 _ (by decide +kernel) rfl⟩, by unfold NA; decide +kernel, ⟨_, rfl, fun _ h => by cases h⟩⟩
theorem pn_X7_restore : plainName M_X7_restore.1.cls = true := by decide +kernel
def M_X7_tell : MM := (yX7_tell, cX7_tell, 2, some .int)
theorem mv_X7_tell : Vi M_X7_tell 1 := ⟨⟨mw 883 _ (by decide +kernel) rfl, mw 63 _ (by decide +kernel) rfl, ⟨by decide, by decide⟩, by decide, mw 881 _ (by decide +kernel) rfl, mw 882 _ (by decide +kernel) rfl⟩, by unfold NA; decide +kernel, ⟨_, rfl, fun _ h => by cases h⟩⟩
theorem pn_X7_tell : plainName M_X7_tell.1.cls = true := by decide +kernel
def M_X7_check : MM := (yX7_check, cX7_check, 3, some .int)
theorem mv_X7_check : Vi M_X7_check 0 := ⟨⟨mw 887 _ (by decide +kernel) rfl, mw 63 _ (by decide +kernel) rfl, ⟨by decide, by decide⟩, by decide, mw 885 _ (by decide +kernel) rfl, mw 886 _ (by decide +kernel) rfl⟩, by unfold NA; decide +kernel, ⟨_, rfl, fun _ h => by cases h⟩⟩
theorem pn_X7_check : plainName M_X7_check.1.cls = true := by decide +kernel
def M_X7_count : MM := (yX7_count, cX7_count, 2, some .int)
theorem mv_X7_count : Vi M_X7_count 1 := ⟨⟨mw 891 _ (by decide +kernel) rfl, mw 63 _ (by decide +kernel) rfl, ⟨by decide, by decide⟩, by decide, mw 889 _ (by decide +kernel) rfl, mw 890 _ (by decide +kernel) rfl⟩, by unfold NA; decide +kernel, ⟨_, rfl, fun _ h => by cases h⟩⟩
theorem pn_X7_count : plainName M_X7_count.1.cls = true := by decide +kernel
def M_X7_told : MM := (yX7_told, cX7_told, 2, some .int)
theorem mv_X7_told : Vi M_X7_told 1 := ⟨⟨mw 895 _ (by decide +kernel) rfl, mw 63 _ (by decide +kernel) rfl, ⟨by decide, by decide⟩, by decide, mw 893 _ (by decide +kernel) rfl, mw 894 _ (by decide +kernel) rfl⟩, by unfold NA; decide +kernel, ⟨_, rfl, fun _ h => by cases h⟩⟩
theorem pn_X7_told : plainName M_X7_told.1.cls = true := by decide +kernel
def M_X7_refuse : MM := (yX7_refuse, cX7_refuse, 2, some .int)
theorem mv_X7_refuse : Vi M_X7_refuse 1 := ⟨⟨mw 355 _ (by decide +kernel) rfl, mw 63 _ (by decide +kernel) rfl, ⟨by decide, by decide⟩, by decide, mw 354 _ (by decide +kernel) rfl, mw 0 _ (by decide +kernel) rfl⟩, by unfold NA; decide +kernel, ⟨_, rfl, fun _ h => by cases h⟩⟩
theorem pn_X7_refuse : plainName M_X7_refuse.1.cls = true := by decide +kernel
def M_X7_isFarm : MM := (yX7_isFarm, cX7_isFarm, 2, some .boolean)
theorem mv_X7_isFarm : Vi M_X7_isFarm 1 := ⟨⟨mw 372 _ (by decide +kernel) rfl, mw 63 _ (by decide +kernel) rfl, ⟨by decide, by decide⟩, by decide, mw 371 _ (by decide +kernel) rfl, mw 1 _ (by decide +kernel) rfl⟩, by unfold NA; decide +kernel, ⟨_, rfl, fun _ h => by cases h⟩⟩
theorem pn_X7_isFarm : plainName M_X7_isFarm.1.cls = true := by decide +kernel
def M_X7_isCarrier : MM := (yX7_isCarrier, cX7_isCarrier, 2, some .boolean)
theorem mv_X7_isCarrier : Vi M_X7_isCarrier 1 := ⟨⟨mw 453 _ (by decide +kernel) rfl, mw 63 _ (by decide +kernel) rfl, ⟨by decide, by decide⟩, by decide, mw 452 _ (by decide +kernel) rfl, mw 2 _ (by decide +kernel) rfl⟩, by unfold NA; decide +kernel, ⟨_, rfl, fun _ h => by cases h⟩⟩
theorem pn_X7_isCarrier : plainName M_X7_isCarrier.1.cls = true := by decide +kernel
def M_X7_isPool : MM := (yX7_isPool, cX7_isPool, 1, some .boolean)
theorem ms_X7_isPool : Si M_X7_isPool 1 := ⟨⟨mw 460 _ (by decide +kernel) rfl, mw 63 _ (by decide +kernel) rfl, ⟨by decide, by decide⟩, by decide, mw 459 _ (by decide +kernel) rfl⟩, by unfold NA; decide +kernel, ⟨_, rfl, fun _ h => by cases h⟩⟩
theorem pn_X7_isPool : plainName M_X7_isPool.1.cls = true := by decide +kernel
def M_X7_isSheet : MM := (yX7_isSheet, cX7_isSheet, 1, some .boolean)
theorem ms_X7_isSheet : Si M_X7_isSheet 1 := ⟨⟨mw 776 _ (by decide +kernel) rfl, mw 63 _ (by decide +kernel) rfl, ⟨by decide, by decide⟩, by decide, mw 775 _ (by decide +kernel) rfl⟩, by unfold NA; decide +kernel, ⟨_, rfl, fun _ h => by cases h⟩⟩
theorem pn_X7_isSheet : plainName M_X7_isSheet.1.cls = true := by decide +kernel
def M_X7_isUse : MM := (yX7_isUse, cX7_isUse, 1, some .boolean)
theorem ms_X7_isUse : Si M_X7_isUse 1 := ⟨⟨mw 501 _ (by decide +kernel) rfl, mw 63 _ (by decide +kernel) rfl, ⟨by decide, by decide⟩, by decide, mw 500 _ (by decide +kernel) rfl⟩, by unfold NA; decide +kernel, ⟨_, rfl, fun _ h => by cases h⟩⟩
theorem pn_X7_isUse : plainName M_X7_isUse.1.cls = true := by decide +kernel
def M_X7_isKindAndM : MM := (yX7_isKindAndM, cX7_isKindAndM, 1, some .boolean)
theorem ms_X7_isKindAndM : Si M_X7_isKindAndM 1 := ⟨⟨mw 348 _ (by decide +kernel) rfl, mw 63 _ (by decide +kernel) rfl, ⟨by decide, by decide⟩, by decide, mw 347 _ (by decide +kernel) rfl⟩, by unfold NA; decide +kernel, ⟨_, rfl, fun _ h => by cases h⟩⟩
theorem pn_X7_isKindAndM : plainName M_X7_isKindAndM.1.cls = true := by decide +kernel
def M_X7_within : MM := (yX7_within, cX7_within, 3, some .boolean)
theorem ms_X7_within : Si M_X7_within 3 := ⟨⟨mw 351 _ (by decide +kernel) rfl, mw 63 _ (by decide +kernel) rfl, ⟨by decide, by decide⟩, by decide, mw 350 _ (by decide +kernel) rfl⟩, by unfold NA; decide +kernel, ⟨_, rfl, fun _ h => by cases h⟩⟩
theorem pn_X7_within : plainName M_X7_within.1.cls = true := by decide +kernel
def M_X7_kindAbove : MM := (yX7_kindAbove, cX7_kindAbove, 1, some .int)
theorem ms_X7_kindAbove : Si M_X7_kindAbove 1 := ⟨⟨mw 431 _ (by decide +kernel) rfl, mw 63 _ (by decide +kernel) rfl, ⟨by decide, by decide⟩, by decide, mw 430 _ (by decide +kernel) rfl⟩, by unfold NA; decide +kernel, ⟨_, rfl, fun _ h => by cases h⟩⟩
theorem pn_X7_kindAbove : plainName M_X7_kindAbove.1.cls = true := by decide +kernel
def M_X7_isOrUnder : MM := (yX7_isOrUnder, cX7_isOrUnder, 4, some .boolean)
theorem ms_X7_isOrUnder : Si M_X7_isOrUnder 2 := ⟨⟨mw 428 _ (by decide +kernel) rfl, mw 63 _ (by decide +kernel) rfl, ⟨by decide, by decide⟩, by decide, mw 427 _ (by decide +kernel) rfl⟩, by unfold NA; decide +kernel, ⟨_, rfl, fun _ h => by cases h⟩⟩
theorem pn_X7_isOrUnder : plainName M_X7_isOrUnder.1.cls = true := by decide +kernel
def M_X7_namesOf : MM := (yX7_namesOf, cX7_namesOf, 1, some (.object "java/lang/String"))
theorem ms_X7_namesOf : Sr M_X7_namesOf 1 := ⟨⟨mw 504 _ (by decide +kernel) rfl, mw 63 _ (by decide +kernel) rfl, ⟨by decide, by decide⟩, by decide, mw 503 _ (by decide +kernel) rfl⟩, by unfold NA; decide +kernel, ⟨_, rfl⟩⟩
theorem pn_X7_namesOf : plainName M_X7_namesOf.1.cls = true := by decide +kernel
def M_X7_commonDivisor : MM := (yX7_commonDivisor, cX7_commonDivisor, 6, some .int)
theorem ms_X7_commonDivisor : Si M_X7_commonDivisor 2 := ⟨⟨mw 756 _ (by decide +kernel) rfl, mw 63 _ (by decide +kernel) rfl, ⟨by decide, by decide⟩, by decide, mw 755 _ (by decide +kernel) rfl⟩, by unfold NA; decide +kernel, ⟨_, rfl, fun _ h => by cases h⟩⟩
theorem pn_X7_commonDivisor : plainName M_X7_commonDivisor.1.cls = true := by decide +kernel
def M_X8_error : MM := (yX8_error, cX8_error, 2, some .int)
theorem mv_X8_error : Vi M_X8_error 1 := ⟨⟨mw 988 _ (by decide +kernel) rfl, mw 71 _ (by decide +kernel) rfl, ⟨by decide, by decide⟩, by decide, mw 987 _ (by decide +kernel) rfl, mw 17 _ (by decide +kernel) rfl⟩, by unfold NA; decide +kernel, ⟨_, rfl, fun _ h => by cases h⟩⟩
theorem pn_X8_error : plainName M_X8_error.1.cls = true := by decide +kernel
def M_X8_in : MM := (yX8_in, cX8_in, 3, some .boolean)
theorem ms_X8_in : Si M_X8_in 3 := ⟨⟨mw 984 _ (by decide +kernel) rfl, mw 71 _ (by decide +kernel) rfl, ⟨by decide, by decide⟩, by decide, mw 983 _ (by decide +kernel) rfl⟩, by unfold NA; decide +kernel, ⟨_, rfl, fun _ h => by cases h⟩⟩
theorem pn_X8_in : plainName M_X8_in.1.cls = true := by decide +kernel
def M_X8_held : MM := (yX8_held, cX8_held, 3, some .int)
theorem ms_X8_held : Si M_X8_held 3 := ⟨⟨mw 1087 _ (by decide +kernel) rfl, mw 71 _ (by decide +kernel) rfl, ⟨by decide, by decide⟩, by decide, mw 1086 _ (by decide +kernel) rfl⟩, by unfold NA; decide +kernel, ⟨_, rfl, fun _ h => by cases h⟩⟩
theorem pn_X8_held : plainName M_X8_held.1.cls = true := by decide +kernel
def M_X8_copyAll : MM := (yX8_copyAll, cX8_copyAll, 3, none)
theorem ms_X8_copyAll : Sv M_X8_copyAll 2 := ⟨⟨mw 1321 _ (by decide +kernel) rfl, mw 71 _ (by decide +kernel) rfl, ⟨by decide, by decide⟩, by decide, mw 1320 _ (by decide +kernel) rfl⟩, by unfold NA; decide +kernel, rfl⟩
theorem pn_X8_copyAll : plainName M_X8_copyAll.1.cls = true := by decide +kernel
def M_X8_layDown : MM := (yX8_layDown, cX8_layDown, 2, none)
theorem mv_X8_layDown : Vv M_X8_layDown 0 := ⟨⟨mw 1208 _ (by decide +kernel) rfl, mw 71 _ (by decide +kernel) rfl, ⟨by decide, by decide⟩, by decide, mw 1207 _ (by decide +kernel) rfl, mw 49 _ (by decide +kernel) rfl⟩, by unfold NA; decide +kernel, rfl⟩
theorem pn_X8_layDown : plainName M_X8_layDown.1.cls = true := by decide +kernel
def M_X8_layBack : MM := (yX8_layBack, cX8_layBack, 2, none)
theorem mv_X8_layBack : Vv M_X8_layBack 0 := ⟨⟨mw 1212 _ (by decide +kernel) rfl, mw 71 _ (by decide +kernel) rfl, ⟨by decide, by decide⟩, by decide, mw 1211 _ (by decide +kernel) rfl, mw 50 _ (by decide +kernel) rfl⟩, by unfold NA; decide +kernel, rfl⟩
theorem pn_X8_layBack : plainName M_X8_layBack.1.cls = true := by decide +kernel
def M_X8_isFarm : MM := (yX8_isFarm, cX8_isFarm, 2, some .boolean)
theorem mv_X8_isFarm : Vi M_X8_isFarm 1 := ⟨⟨mw 1061 _ (by decide +kernel) rfl, mw 71 _ (by decide +kernel) rfl, ⟨by decide, by decide⟩, by decide, mw 1060 _ (by decide +kernel) rfl, mw 30 _ (by decide +kernel) rfl⟩, by unfold NA; decide +kernel, ⟨_, rfl, fun _ h => by cases h⟩⟩
theorem pn_X8_isFarm : plainName M_X8_isFarm.1.cls = true := by decide +kernel
def M_X8_isCarrier : MM := (yX8_isCarrier, cX8_isCarrier, 2, some .boolean)
theorem mv_X8_isCarrier : Vi M_X8_isCarrier 1 := ⟨⟨mw 1134 _ (by decide +kernel) rfl, mw 71 _ (by decide +kernel) rfl, ⟨by decide, by decide⟩, by decide, mw 1133 _ (by decide +kernel) rfl, mw 40 _ (by decide +kernel) rfl⟩, by unfold NA; decide +kernel, ⟨_, rfl, fun _ h => by cases h⟩⟩
theorem pn_X8_isCarrier : plainName M_X8_isCarrier.1.cls = true := by decide +kernel
def M_X8_its : MM := (yX8_its, cX8_its, 3, some .int)
theorem mv_X8_its : Vi M_X8_its 2 := ⟨⟨mw 1065 _ (by decide +kernel) rfl, mw 71 _ (by decide +kernel) rfl, ⟨by decide, by decide⟩, by decide, mw 1064 _ (by decide +kernel) rfl, mw 31 _ (by decide +kernel) rfl⟩, by unfold NA; decide +kernel, ⟨_, rfl, fun _ h => by cases h⟩⟩
theorem pn_X8_its : plainName M_X8_its.1.cls = true := by decide +kernel
def M_X8_lays1 : MM := (yX8_lays1, cX8_lays1, 4, none)
theorem mv_X8_lays1 : Vv M_X8_lays1 3 := ⟨⟨mw 1053 _ (by decide +kernel) rfl, mw 71 _ (by decide +kernel) rfl, ⟨by decide, by decide⟩, by decide, mw 1052 _ (by decide +kernel) rfl, mw 29 _ (by decide +kernel) rfl⟩, by unfold NA; decide +kernel, rfl⟩
theorem pn_X8_lays1 : plainName M_X8_lays1.1.cls = true := by decide +kernel
def M_X8_belly : MM := (yX8_belly, cX8_belly, 2, some .int)
theorem mv_X8_belly : Vi M_X8_belly 1 := ⟨⟨mw 1158 _ (by decide +kernel) rfl, mw 71 _ (by decide +kernel) rfl, ⟨by decide, by decide⟩, by decide, mw 1157 _ (by decide +kernel) rfl, mw 43 _ (by decide +kernel) rfl⟩, by unfold NA; decide +kernel, ⟨_, rfl, fun _ h => by cases h⟩⟩
theorem pn_X8_belly : plainName M_X8_belly.1.cls = true := by decide +kernel
def M_X8_change1 : MM := (yX8_change1, cX8_change1, 4, some .int)
theorem mv_X8_change1 : Vi M_X8_change1 2 := ⟨⟨mw 1107 _ (by decide +kernel) rfl, mw 71 _ (by decide +kernel) rfl, ⟨by decide, by decide⟩, by decide, mw 1106 _ (by decide +kernel) rfl, mw 39 _ (by decide +kernel) rfl⟩, by unfold NA; decide +kernel, ⟨_, rfl, fun _ h => by cases h⟩⟩
theorem pn_X8_change1 : plainName M_X8_change1.1.cls = true := by decide +kernel
def M_X8_feed : MM := (yX8_feed, cX8_feed, 5, some .int)
theorem mv_X8_feed : Vi M_X8_feed 2 := ⟨⟨mw 981 _ (by decide +kernel) rfl, mw 71 _ (by decide +kernel) rfl, ⟨by decide, by decide⟩, by decide, mw 979 _ (by decide +kernel) rfl, mw 980 _ (by decide +kernel) rfl⟩, by unfold NA; decide +kernel, ⟨_, rfl, fun _ h => by cases h⟩⟩
theorem pn_X8_feed : plainName M_X8_feed.1.cls = true := by decide +kernel
def M_X8_look : MM := (yX8_look, cX8_look, 1, some .int)
theorem mv_X8_look : Vi M_X8_look 0 := ⟨⟨mw 1022 _ (by decide +kernel) rfl, mw 71 _ (by decide +kernel) rfl, ⟨by decide, by decide⟩, by decide, mw 1021 _ (by decide +kernel) rfl, mw 24 _ (by decide +kernel) rfl⟩, by unfold NA; decide +kernel, ⟨_, rfl, fun _ h => by cases h⟩⟩
theorem pn_X8_look : plainName M_X8_look.1.cls = true := by decide +kernel
def M_X8_isName : MM := (yX8_isName, cX8_isName, 2, some .boolean)
theorem mv_X8_isName : Vi M_X8_isName 1 := ⟨⟨mw 1026 _ (by decide +kernel) rfl, mw 71 _ (by decide +kernel) rfl, ⟨by decide, by decide⟩, by decide, mw 1025 _ (by decide +kernel) rfl, mw 25 _ (by decide +kernel) rfl⟩, by unfold NA; decide +kernel, ⟨_, rfl, fun _ h => by cases h⟩⟩
theorem pn_X8_isName : plainName M_X8_isName.1.cls = true := by decide +kernel
def M_X8_step1 : MM := (yX8_step1, cX8_step1, 3, none)
theorem mv_X8_step1 : Vv M_X8_step1 2 := ⟨⟨mw 1030 _ (by decide +kernel) rfl, mw 71 _ (by decide +kernel) rfl, ⟨by decide, by decide⟩, by decide, mw 1029 _ (by decide +kernel) rfl, mw 26 _ (by decide +kernel) rfl⟩, by unfold NA; decide +kernel, rfl⟩
theorem pn_X8_step1 : plainName M_X8_step1.1.cls = true := by decide +kernel
def M_X8_whole : MM := (yX8_whole, cX8_whole, 1, some .boolean)
theorem mv_X8_whole : Vi M_X8_whole 0 := ⟨⟨mw 998 _ (by decide +kernel) rfl, mw 71 _ (by decide +kernel) rfl, ⟨by decide, by decide⟩, by decide, mw 997 _ (by decide +kernel) rfl, mw 18 _ (by decide +kernel) rfl⟩, by unfold NA; decide +kernel, ⟨_, rfl, fun _ h => by cases h⟩⟩
theorem pn_X8_whole : plainName M_X8_whole.1.cls = true := by decide +kernel
def M_X8_both : MM := (yX8_both, cX8_both, 1, some .boolean)
theorem mv_X8_both : Vi M_X8_both 0 := ⟨⟨mw 1002 _ (by decide +kernel) rfl, mw 71 _ (by decide +kernel) rfl, ⟨by decide, by decide⟩, by decide, mw 1001 _ (by decide +kernel) rfl, mw 19 _ (by decide +kernel) rfl⟩, by unfold NA; decide +kernel, ⟨_, rfl, fun _ h => by cases h⟩⟩
theorem pn_X8_both : plainName M_X8_both.1.cls = true := by decide +kernel
def M_X8_compared : MM := (yX8_compared, cX8_compared, 2, some .boolean)
theorem mv_X8_compared : Vi M_X8_compared 0 := ⟨⟨mw 1006 _ (by decide +kernel) rfl, mw 71 _ (by decide +kernel) rfl, ⟨by decide, by decide⟩, by decide, mw 1005 _ (by decide +kernel) rfl, mw 20 _ (by decide +kernel) rfl⟩, by unfold NA; decide +kernel, ⟨_, rfl, fun _ h => by cases h⟩⟩
theorem pn_X8_compared : plainName M_X8_compared.1.cls = true := by decide +kernel
def M_X8_sum : MM := (yX8_sum, cX8_sum, 2, some .boolean)
theorem mv_X8_sum : Vi M_X8_sum 0 := ⟨⟨mw 1010 _ (by decide +kernel) rfl, mw 71 _ (by decide +kernel) rfl, ⟨by decide, by decide⟩, by decide, mw 1009 _ (by decide +kernel) rfl, mw 21 _ (by decide +kernel) rfl⟩, by unfold NA; decide +kernel, ⟨_, rfl, fun _ h => by cases h⟩⟩
theorem pn_X8_sum : plainName M_X8_sum.1.cls = true := by decide +kernel
def M_X8_product : MM := (yX8_product, cX8_product, 2, some .boolean)
theorem mv_X8_product : Vi M_X8_product 0 := ⟨⟨mw 1014 _ (by decide +kernel) rfl, mw 71 _ (by decide +kernel) rfl, ⟨by decide, by decide⟩, by decide, mw 1013 _ (by decide +kernel) rfl, mw 22 _ (by decide +kernel) rfl⟩, by unfold NA; decide +kernel, ⟨_, rfl, fun _ h => by cases h⟩⟩
theorem pn_X8_product : plainName M_X8_product.1.cls = true := by decide +kernel
def M_X8_opens : MM := (yX8_opens, cX8_opens, 1, some .boolean)
theorem mv_X8_opens : Vi M_X8_opens 0 := ⟨⟨mw 1034 _ (by decide +kernel) rfl, mw 71 _ (by decide +kernel) rfl, ⟨by decide, by decide⟩, by decide, mw 1033 _ (by decide +kernel) rfl, mw 27 _ (by decide +kernel) rfl⟩, by unfold NA; decide +kernel, ⟨_, rfl, fun _ h => by cases h⟩⟩
theorem pn_X8_opens : plainName M_X8_opens.1.cls = true := by decide +kernel
def M_X8_one : MM := (yX8_one, cX8_one, 4, some .boolean)
theorem mv_X8_one : Vi M_X8_one 0 := ⟨⟨mw 1018 _ (by decide +kernel) rfl, mw 71 _ (by decide +kernel) rfl, ⟨by decide, by decide⟩, by decide, mw 1017 _ (by decide +kernel) rfl, mw 23 _ (by decide +kernel) rfl⟩, by unfold NA; decide +kernel, ⟨_, rfl, fun _ h => by cases h⟩⟩
theorem pn_X8_one : plainName M_X8_one.1.cls = true := by decide +kernel
def M_X8_hasText : MM := (yX8_hasText, cX8_hasText, 2, some .boolean)
theorem mv_X8_hasText : Vi M_X8_hasText 1 := ⟨⟨mw 1042 _ (by decide +kernel) rfl, mw 71 _ (by decide +kernel) rfl, ⟨by decide, by decide⟩, by decide, mw 1041 _ (by decide +kernel) rfl, mw 28 _ (by decide +kernel) rfl⟩, by unfold NA; decide +kernel, ⟨_, rfl, fun _ h => by cases h⟩⟩
theorem pn_X8_hasText : plainName M_X8_hasText.1.cls = true := by decide +kernel
def M_X8_text : MM := (yX8_text, cX8_text, 5, some .int)
theorem mv_X8_text : Vi M_X8_text 1 := ⟨⟨mw 994 _ (by decide +kernel) rfl, mw 71 _ (by decide +kernel) rfl, ⟨by decide, by decide⟩, by decide, mw 992 _ (by decide +kernel) rfl, mw 993 _ (by decide +kernel) rfl⟩, by unfold NA; decide +kernel, ⟨_, rfl, fun _ h => by cases h⟩⟩
theorem pn_X8_text : plainName M_X8_text.1.cls = true := by decide +kernel
def M_X8_untell : MM := (yX8_untell, cX8_untell, 3, some .int)
theorem mv_X8_untell : Vi M_X8_untell 1 := ⟨⟨mw 1038 _ (by decide +kernel) rfl, mw 71 _ (by decide +kernel) rfl, ⟨by decide, by decide⟩, by decide, mw 1036 _ (by decide +kernel) rfl, mw 1037 _ (by decide +kernel) rfl⟩, by unfold NA; decide +kernel, ⟨_, rfl, fun _ h => by cases h⟩⟩
theorem pn_X8_untell : plainName M_X8_untell.1.cls = true := by decide +kernel
def M_X8_joined : MM := (yX8_joined, cX8_joined, 3, some .int)
theorem ms_X8_joined : Si M_X8_joined 3 := ⟨⟨mw 1084 _ (by decide +kernel) rfl, mw 71 _ (by decide +kernel) rfl, ⟨by decide, by decide⟩, by decide, mw 1083 _ (by decide +kernel) rfl⟩, by unfold NA; decide +kernel, ⟨_, rfl, fun _ h => by cases h⟩⟩
theorem pn_X8_joined : plainName M_X8_joined.1.cls = true := by decide +kernel
def M_X8_worked : MM := (yX8_worked, cX8_worked, 7, some .int)
theorem mv_X8_worked : Vi M_X8_worked 1 := ⟨⟨mw 1081 _ (by decide +kernel) rfl, mw 71 _ (by decide +kernel) rfl, ⟨by decide, by decide⟩, by decide, mw 1080 _ (by decide +kernel) rfl, mw 35 _ (by decide +kernel) rfl⟩, by unfold NA; decide +kernel, ⟨_, rfl, fun _ h => by cases h⟩⟩
theorem pn_X8_worked : plainName M_X8_worked.1.cls = true := by decide +kernel
def M_X8_growsOf : MM := (yX8_growsOf, cX8_growsOf, 5, some .int)
theorem mv_X8_growsOf : Vi M_X8_growsOf 1 := ⟨⟨mw 1073 _ (by decide +kernel) rfl, mw 71 _ (by decide +kernel) rfl, ⟨by decide, by decide⟩, by decide, mw 1072 _ (by decide +kernel) rfl, mw 33 _ (by decide +kernel) rfl⟩, by unfold NA; decide +kernel, ⟨_, rfl, fun _ h => by cases h⟩⟩
theorem pn_X8_growsOf : plainName M_X8_growsOf.1.cls = true := by decide +kernel
def M_X8_paysOf : MM := (yX8_paysOf, cX8_paysOf, 3, some .int)
theorem mv_X8_paysOf : Vi M_X8_paysOf 1 := ⟨⟨mw 1095 _ (by decide +kernel) rfl, mw 71 _ (by decide +kernel) rfl, ⟨by decide, by decide⟩, by decide, mw 1094 _ (by decide +kernel) rfl, mw 37 _ (by decide +kernel) rfl⟩, by unfold NA; decide +kernel, ⟨_, rfl, fun _ h => by cases h⟩⟩
theorem pn_X8_paysOf : plainName M_X8_paysOf.1.cls = true := by decide +kernel
def M_X8_growthTold : MM := (yX8_growthTold, cX8_growthTold, 4, some .int)
theorem mv_X8_growthTold : Vi M_X8_growthTold 3 := ⟨⟨mw 1077 _ (by decide +kernel) rfl, mw 71 _ (by decide +kernel) rfl, ⟨by decide, by decide⟩, by decide, mw 1076 _ (by decide +kernel) rfl, mw 34 _ (by decide +kernel) rfl⟩, by unfold NA; decide +kernel, ⟨_, rfl, fun _ h => by cases h⟩⟩
theorem pn_X8_growthTold : plainName M_X8_growthTold.1.cls = true := by decide +kernel
def M_X8_payTold : MM := (yX8_payTold, cX8_payTold, 4, some .int)
theorem mv_X8_payTold : Vi M_X8_payTold 3 := ⟨⟨mw 1099 _ (by decide +kernel) rfl, mw 71 _ (by decide +kernel) rfl, ⟨by decide, by decide⟩, by decide, mw 1098 _ (by decide +kernel) rfl, mw 38 _ (by decide +kernel) rfl⟩, by unfold NA; decide +kernel, ⟨_, rfl, fun _ h => by cases h⟩⟩
theorem pn_X8_payTold : plainName M_X8_payTold.1.cls = true := by decide +kernel
def M_X8_growthOf : MM := (yX8_growthOf, cX8_growthOf, 2, some .int)
theorem mv_X8_growthOf : Vi M_X8_growthOf 1 := ⟨⟨mw 1069 _ (by decide +kernel) rfl, mw 71 _ (by decide +kernel) rfl, ⟨by decide, by decide⟩, by decide, mw 1068 _ (by decide +kernel) rfl, mw 32 _ (by decide +kernel) rfl⟩, by unfold NA; decide +kernel, ⟨_, rfl, fun _ h => by cases h⟩⟩
theorem pn_X8_growthOf : plainName M_X8_growthOf.1.cls = true := by decide +kernel
def M_X8_payOf : MM := (yX8_payOf, cX8_payOf, 2, some .int)
theorem mv_X8_payOf : Vi M_X8_payOf 1 := ⟨⟨mw 1091 _ (by decide +kernel) rfl, mw 71 _ (by decide +kernel) rfl, ⟨by decide, by decide⟩, by decide, mw 1090 _ (by decide +kernel) rfl, mw 36 _ (by decide +kernel) rfl⟩, by unfold NA; decide +kernel, ⟨_, rfl, fun _ h => by cases h⟩⟩
theorem pn_X8_payOf : plainName M_X8_payOf.1.cls = true := by decide +kernel
def M_X8_anHour : MM := (yX8_anHour, cX8_anHour, 3, none)
theorem mv_X8_anHour : Vv M_X8_anHour 0 := ⟨⟨mw 1179 _ (by decide +kernel) rfl, mw 71 _ (by decide +kernel) rfl, ⟨by decide, by decide⟩, by decide, mw 1178 _ (by decide +kernel) rfl, mw 46 _ (by decide +kernel) rfl⟩, by unfold NA; decide +kernel, rfl⟩
theorem pn_X8_anHour : plainName M_X8_anHour.1.cls = true := by decide +kernel
def M_X8_draw : MM := (yX8_draw, cX8_draw, 1, some .int)
theorem mv_X8_draw : Vi M_X8_draw 0 := ⟨⟨mw 1191 _ (by decide +kernel) rfl, mw 71 _ (by decide +kernel) rfl, ⟨by decide, by decide⟩, by decide, mw 1190 _ (by decide +kernel) rfl, mw 48 _ (by decide +kernel) rfl⟩, by unfold NA; decide +kernel, ⟨_, rfl, fun _ h => by cases h⟩⟩
theorem pn_X8_draw : plainName M_X8_draw.1.cls = true := by decide +kernel
def M_X8_dryOf : MM := (yX8_dryOf, cX8_dryOf, 4, some .int)
theorem mv_X8_dryOf : Vi M_X8_dryOf 1 := ⟨⟨mw 1154 _ (by decide +kernel) rfl, mw 71 _ (by decide +kernel) rfl, ⟨by decide, by decide⟩, by decide, mw 1153 _ (by decide +kernel) rfl, mw 42 _ (by decide +kernel) rfl⟩, by unfold NA; decide +kernel, ⟨_, rfl, fun _ h => by cases h⟩⟩
theorem pn_X8_dryOf : plainName M_X8_dryOf.1.cls = true := by decide +kernel
def M_X8_mayCarry : MM := (yX8_mayCarry, cX8_mayCarry, 5, some .boolean)
theorem mv_X8_mayCarry : Vi M_X8_mayCarry 3 := ⟨⟨mw 1150 _ (by decide +kernel) rfl, mw 71 _ (by decide +kernel) rfl, ⟨by decide, by decide⟩, by decide, mw 1149 _ (by decide +kernel) rfl, mw 41 _ (by decide +kernel) rfl⟩, by unfold NA; decide +kernel, ⟨_, rfl, fun _ h => by cases h⟩⟩
theorem pn_X8_mayCarry : plainName M_X8_mayCarry.1.cls = true := by decide +kernel
def M_X8_carries : MM := (yX8_carries, cX8_carries, 6, some .int)
theorem mv_X8_carries : Vi M_X8_carries 3 := ⟨⟨mw 1162 _ (by decide +kernel) rfl, mw 71 _ (by decide +kernel) rfl, ⟨by decide, by decide⟩, by decide, mw 1161 _ (by decide +kernel) rfl, mw 44 _ (by decide +kernel) rfl⟩, by unfold NA; decide +kernel, ⟨_, rfl, fun _ h => by cases h⟩⟩
theorem pn_X8_carries : plainName M_X8_carries.1.cls = true := by decide +kernel
def M_X8_isKind : MM := (yX8_isKind, cX8_isKind, 1, some .boolean)
theorem ms_X8_isKind : Si M_X8_isKind 1 := ⟨⟨mw 1049 _ (by decide +kernel) rfl, mw 71 _ (by decide +kernel) rfl, ⟨by decide, by decide⟩, by decide, mw 1048 _ (by decide +kernel) rfl⟩, by unfold NA; decide +kernel, ⟨_, rfl, fun _ h => by cases h⟩⟩
theorem pn_X8_isKind : plainName M_X8_isKind.1.cls = true := by decide +kernel
def M_X8_farm : MM := (yX8_farm, cX8_farm, 5, some .int)
theorem mv_X8_farm : Vi M_X8_farm 3 := ⟨⟨mw 1046 _ (by decide +kernel) rfl, mw 71 _ (by decide +kernel) rfl, ⟨by decide, by decide⟩, by decide, mw 1044 _ (by decide +kernel) rfl, mw 1045 _ (by decide +kernel) rfl⟩, by unfold NA; decide +kernel, ⟨_, rfl, fun _ h => by cases h⟩⟩
theorem pn_X8_farm : plainName M_X8_farm.1.cls = true := by decide +kernel
def M_X8_farmIs : MM := (yX8_farmIs, cX8_farmIs, 3, some .int)
theorem mv_X8_farmIs : Vi M_X8_farmIs 2 := ⟨⟨mw 1057 _ (by decide +kernel) rfl, mw 71 _ (by decide +kernel) rfl, ⟨by decide, by decide⟩, by decide, mw 1055 _ (by decide +kernel) rfl, mw 1056 _ (by decide +kernel) rfl⟩, by unfold NA; decide +kernel, ⟨_, rfl, fun _ h => by cases h⟩⟩
theorem pn_X8_farmIs : plainName M_X8_farmIs.1.cls = true := by decide +kernel
def M_X8_become : MM := (yX8_become, cX8_become, 3, some .int)
theorem mv_X8_become : Vi M_X8_become 2 := ⟨⟨mw 1103 _ (by decide +kernel) rfl, mw 71 _ (by decide +kernel) rfl, ⟨by decide, by decide⟩, by decide, mw 1101 _ (by decide +kernel) rfl, mw 1102 _ (by decide +kernel) rfl⟩, by unfold NA; decide +kernel, ⟨_, rfl, fun _ h => by cases h⟩⟩
theorem pn_X8_become : plainName M_X8_become.1.cls = true := by decide +kernel
def M_X8_as : MM := (yX8_as, cX8_as, 4, some .int)
theorem mv_X8_as : Vi M_X8_as 2 := ⟨⟨mw 1111 _ (by decide +kernel) rfl, mw 71 _ (by decide +kernel) rfl, ⟨by decide, by decide⟩, by decide, mw 1109 _ (by decide +kernel) rfl, mw 1110 _ (by decide +kernel) rfl⟩, by unfold NA; decide +kernel, ⟨_, rfl, fun _ h => by cases h⟩⟩
theorem pn_X8_as : plainName M_X8_as.1.cls = true := by decide +kernel
def M_X8_parch : MM := (yX8_parch, cX8_parch, 3, some .int)
theorem mv_X8_parch : Vi M_X8_parch 2 := ⟨⟨mw 1118 _ (by decide +kernel) rfl, mw 71 _ (by decide +kernel) rfl, ⟨by decide, by decide⟩, by decide, mw 1116 _ (by decide +kernel) rfl, mw 1117 _ (by decide +kernel) rfl⟩, by unfold NA; decide +kernel, ⟨_, rfl, fun _ h => by cases h⟩⟩
theorem pn_X8_parch : plainName M_X8_parch.1.cls = true := by decide +kernel
def M_X8_graze : MM := (yX8_graze, cX8_graze, 3, some .int)
theorem mv_X8_graze : Vi M_X8_graze 2 := ⟨⟨mw 1122 _ (by decide +kernel) rfl, mw 71 _ (by decide +kernel) rfl, ⟨by decide, by decide⟩, by decide, mw 1120 _ (by decide +kernel) rfl, mw 1121 _ (by decide +kernel) rfl⟩, by unfold NA; decide +kernel, ⟨_, rfl, fun _ h => by cases h⟩⟩
theorem pn_X8_graze : plainName M_X8_graze.1.cls = true := by decide +kernel
def M_X8_carrier : MM := (yX8_carrier, cX8_carrier, 3, some .int)
theorem mv_X8_carrier : Vi M_X8_carrier 1 := ⟨⟨mw 1126 _ (by decide +kernel) rfl, mw 71 _ (by decide +kernel) rfl, ⟨by decide, by decide⟩, by decide, mw 1124 _ (by decide +kernel) rfl, mw 1125 _ (by decide +kernel) rfl⟩, by unfold NA; decide +kernel, ⟨_, rfl, fun _ h => by cases h⟩⟩
theorem pn_X8_carrier : plainName M_X8_carrier.1.cls = true := by decide +kernel
def M_X8_carrierIs : MM := (yX8_carrierIs, cX8_carrierIs, 3, some .int)
theorem mv_X8_carrierIs : Vi M_X8_carrierIs 2 := ⟨⟨mw 1130 _ (by decide +kernel) rfl, mw 71 _ (by decide +kernel) rfl, ⟨by decide, by decide⟩, by decide, mw 1128 _ (by decide +kernel) rfl, mw 1129 _ (by decide +kernel) rfl⟩, by unfold NA; decide +kernel, ⟨_, rfl, fun _ h => by cases h⟩⟩
theorem pn_X8_carrierIs : plainName M_X8_carrierIs.1.cls = true := by decide +kernel
def M_X8_pool : MM := (yX8_pool, cX8_pool, 3, some .int)
theorem mv_X8_pool : Vi M_X8_pool 2 := ⟨⟨mw 1138 _ (by decide +kernel) rfl, mw 71 _ (by decide +kernel) rfl, ⟨by decide, by decide⟩, by decide, mw 1136 _ (by decide +kernel) rfl, mw 1137 _ (by decide +kernel) rfl⟩, by unfold NA; decide +kernel, ⟨_, rfl, fun _ h => by cases h⟩⟩
theorem pn_X8_pool : plainName M_X8_pool.1.cls = true := by decide +kernel
def M_X8_swap : MM := (yX8_swap, cX8_swap, 4, some .int)
theorem mv_X8_swap : Vi M_X8_swap 2 := ⟨⟨mw 1142 _ (by decide +kernel) rfl, mw 71 _ (by decide +kernel) rfl, ⟨by decide, by decide⟩, by decide, mw 1140 _ (by decide +kernel) rfl, mw 1141 _ (by decide +kernel) rfl⟩, by unfold NA; decide +kernel, ⟨_, rfl, fun _ h => by cases h⟩⟩
theorem pn_X8_swap : plainName M_X8_swap.1.cls = true := by decide +kernel
def M_X8_carry : MM := (yX8_carry, cX8_carry, 4, some .int)
theorem mv_X8_carry : Vi M_X8_carry 3 := ⟨⟨mw 1146 _ (by decide +kernel) rfl, mw 71 _ (by decide +kernel) rfl, ⟨by decide, by decide⟩, by decide, mw 1144 _ (by decide +kernel) rfl, mw 1145 _ (by decide +kernel) rfl⟩, by unfold NA; decide +kernel, ⟨_, rfl, fun _ h => by cases h⟩⟩
theorem pn_X8_carry : plainName M_X8_carry.1.cls = true := by decide +kernel
def M_X8_law : MM := (yX8_law, cX8_law, 5, some .int)
theorem mv_X8_law : Vi M_X8_law 4 := ⟨⟨mw 1167 _ (by decide +kernel) rfl, mw 71 _ (by decide +kernel) rfl, ⟨by decide, by decide⟩, by decide, mw 1165 _ (by decide +kernel) rfl, mw 1166 _ (by decide +kernel) rfl⟩, by unfold NA; decide +kernel, ⟨_, rfl, fun _ h => by cases h⟩⟩
theorem pn_X8_law : plainName M_X8_law.1.cls = true := by decide +kernel
def M_X8_whyNot : MM := (yX8_whyNot, cX8_whyNot, 3, some .int)
theorem mv_X8_whyNot : Vi M_X8_whyNot 2 := ⟨⟨mw 1175 _ (by decide +kernel) rfl, mw 71 _ (by decide +kernel) rfl, ⟨by decide, by decide⟩, by decide, mw 1174 _ (by decide +kernel) rfl, mw 45 _ (by decide +kernel) rfl⟩, by unfold NA; decide +kernel, ⟨_, rfl, fun _ h => by cases h⟩⟩
theorem pn_X8_whyNot : plainName M_X8_whyNot.1.cls = true := by decide +kernel
def M_X8_hours : MM := (yX8_hours, cX8_hours, 4, some .int)
theorem mv_X8_hours : Vi M_X8_hours 1 := ⟨⟨mw 1171 _ (by decide +kernel) rfl, mw 71 _ (by decide +kernel) rfl, ⟨by decide, by decide⟩, by decide, mw 1169 _ (by decide +kernel) rfl, mw 1170 _ (by decide +kernel) rfl⟩, by unfold NA; decide +kernel, ⟨_, rfl, fun _ h => by cases h⟩⟩
theorem pn_X8_hours : plainName M_X8_hours.1.cls = true := by decide +kernel
def M_X8_errand : MM := (yX8_errand, cX8_errand, 4, some .int)
theorem mv_X8_errand : Vi M_X8_errand 0 := ⟨⟨mw 1187 _ (by decide +kernel) rfl, mw 71 _ (by decide +kernel) rfl, ⟨by decide, by decide⟩, by decide, mw 1186 _ (by decide +kernel) rfl, mw 47 _ (by decide +kernel) rfl⟩, by unfold NA; decide +kernel, ⟨_, rfl, fun _ h => by cases h⟩⟩
theorem pn_X8_errand : plainName M_X8_errand.1.cls = true := by decide +kernel
def M_X8_loose : MM := (yX8_loose, cX8_loose, 5, some .int)
theorem mv_X8_loose : Vi M_X8_loose 1 := ⟨⟨mw 1183 _ (by decide +kernel) rfl, mw 71 _ (by decide +kernel) rfl, ⟨by decide, by decide⟩, by decide, mw 1181 _ (by decide +kernel) rfl, mw 1182 _ (by decide +kernel) rfl⟩, by unfold NA; decide +kernel, ⟨_, rfl, fun _ h => by cases h⟩⟩
theorem pn_X8_loose : plainName M_X8_loose.1.cls = true := by decide +kernel
def M_X8_hour : MM := (yX8_hour, cX8_hour, 2, some .int)
theorem mv_X8_hour : Vi M_X8_hour 1 := ⟨⟨mw 1196 _ (by decide +kernel) rfl, mw 71 _ (by decide +kernel) rfl, ⟨by decide, by decide⟩, by decide, mw 1194 _ (by decide +kernel) rfl, mw 1195 _ (by decide +kernel) rfl⟩, by unfold NA; decide +kernel, ⟨_, rfl, fun _ h => by cases h⟩⟩
theorem pn_X8_hour : plainName M_X8_hour.1.cls = true := by decide +kernel
def M_X8_seed : MM := (yX8_seed, cX8_seed, 2, some .int)
theorem mv_X8_seed : Vi M_X8_seed 1 := ⟨⟨mw 1200 _ (by decide +kernel) rfl, mw 71 _ (by decide +kernel) rfl, ⟨by decide, by decide⟩, by decide, mw 1198 _ (by decide +kernel) rfl, mw 1199 _ (by decide +kernel) rfl⟩, by unfold NA; decide +kernel, ⟨_, rfl, fun _ h => by cases h⟩⟩
theorem pn_X8_seed : plainName M_X8_seed.1.cls = true := by decide +kernel
def M_X8_then : MM := (yX8_then, cX8_then, 4, some .int)
theorem mv_X8_then : Vi M_X8_then 2 := ⟨⟨mw 1204 _ (by decide +kernel) rfl, mw 71 _ (by decide +kernel) rfl, ⟨by decide, by decide⟩, by decide, mw 1202 _ (by decide +kernel) rfl, mw 1203 _ (by decide +kernel) rfl⟩, by unfold NA; decide +kernel, ⟨_, rfl, fun _ h => by cases h⟩⟩
theorem pn_X8_then : plainName M_X8_then.1.cls = true := by decide +kernel
def M_X8_drier : MM := (yX8_drier, cX8_drier, 4, some .int)
theorem mv_X8_drier : Vi M_X8_drier 1 := ⟨⟨mw 1220 _ (by decide +kernel) rfl, mw 71 _ (by decide +kernel) rfl, ⟨by decide, by decide⟩, by decide, mw 1219 _ (by decide +kernel) rfl, mw 51 _ (by decide +kernel) rfl⟩, by unfold NA; decide +kernel, ⟨_, rfl, fun _ h => by cases h⟩⟩
theorem pn_X8_drier : plainName M_X8_drier.1.cls = true := by decide +kernel
def M_X8_first : MM := (yX8_first, cX8_first, 5, some .int)
theorem mv_X8_first : Vi M_X8_first 2 := ⟨⟨mw 1216 _ (by decide +kernel) rfl, mw 71 _ (by decide +kernel) rfl, ⟨by decide, by decide⟩, by decide, mw 1214 _ (by decide +kernel) rfl, mw 1215 _ (by decide +kernel) rfl⟩, by unfold NA; decide +kernel, ⟨_, rfl, fun _ h => by cases h⟩⟩
theorem pn_X8_first : plainName M_X8_first.1.cls = true := by decide +kernel
def M_X8_round : MM := (yX8_round, cX8_round, 8, some .int)
theorem mv_X8_round : Vi M_X8_round 2 := ⟨⟨mw 1224 _ (by decide +kernel) rfl, mw 71 _ (by decide +kernel) rfl, ⟨by decide, by decide⟩, by decide, mw 1222 _ (by decide +kernel) rfl, mw 1223 _ (by decide +kernel) rfl⟩, by unfold NA; decide +kernel, ⟨_, rfl, fun _ h => by cases h⟩⟩
theorem pn_X8_round : plainName M_X8_round.1.cls = true := by decide +kernel
def M_X8_goes : MM := (yX8_goes, cX8_goes, 7, none)
theorem mv_X8_goes : Vv M_X8_goes 3 := ⟨⟨mw 1232 _ (by decide +kernel) rfl, mw 71 _ (by decide +kernel) rfl, ⟨by decide, by decide⟩, by decide, mw 1231 _ (by decide +kernel) rfl, mw 52 _ (by decide +kernel) rfl⟩, by unfold NA; decide +kernel, rfl⟩
theorem pn_X8_goes : plainName M_X8_goes.1.cls = true := by decide +kernel
def M_X8_fewest : MM := (yX8_fewest, cX8_fewest, 4, some .int)
theorem mv_X8_fewest : Vi M_X8_fewest 2 := ⟨⟨mw 1228 _ (by decide +kernel) rfl, mw 71 _ (by decide +kernel) rfl, ⟨by decide, by decide⟩, by decide, mw 1226 _ (by decide +kernel) rfl, mw 1227 _ (by decide +kernel) rfl⟩, by unfold NA; decide +kernel, ⟨_, rfl, fun _ h => by cases h⟩⟩
theorem pn_X8_fewest : plainName M_X8_fewest.1.cls = true := by decide +kernel
def M_X8_divisor : MM := (yX8_divisor, cX8_divisor, 5, some .int)
theorem ms_X8_divisor : Si M_X8_divisor 2 := ⟨⟨mw 1239 _ (by decide +kernel) rfl, mw 71 _ (by decide +kernel) rfl, ⟨by decide, by decide⟩, by decide, mw 1238 _ (by decide +kernel) rfl⟩, by unfold NA; decide +kernel, ⟨_, rfl, fun _ h => by cases h⟩⟩
theorem pn_X8_divisor : plainName M_X8_divisor.1.cls = true := by decide +kernel
def M_X8_odds : MM := (yX8_odds, cX8_odds, 6, some .int)
theorem mv_X8_odds : Vi M_X8_odds 2 := ⟨⟨mw 1236 _ (by decide +kernel) rfl, mw 71 _ (by decide +kernel) rfl, ⟨by decide, by decide⟩, by decide, mw 1234 _ (by decide +kernel) rfl, mw 1235 _ (by decide +kernel) rfl⟩, by unfold NA; decide +kernel, ⟨_, rfl, fun _ h => by cases h⟩⟩
theorem pn_X8_odds : plainName M_X8_odds.1.cls = true := by decide +kernel
def M_X8_whose : MM := (yX8_whose, cX8_whose, 7, some .int)
theorem mv_X8_whose : Vi M_X8_whose 2 := ⟨⟨mw 1243 _ (by decide +kernel) rfl, mw 71 _ (by decide +kernel) rfl, ⟨by decide, by decide⟩, by decide, mw 1241 _ (by decide +kernel) rfl, mw 1242 _ (by decide +kernel) rfl⟩, by unfold NA; decide +kernel, ⟨_, rfl, fun _ h => by cases h⟩⟩
theorem pn_X8_whose : plainName M_X8_whose.1.cls = true := by decide +kernel
def M_X8_areDrySo : MM := (yX8_areDrySo, cX8_areDrySo, 4, some .boolean)
theorem mv_X8_areDrySo : Vi M_X8_areDrySo 1 := ⟨⟨mw 1258 _ (by decide +kernel) rfl, mw 71 _ (by decide +kernel) rfl, ⟨by decide, by decide⟩, by decide, mw 1257 _ (by decide +kernel) rfl, mw 54 _ (by decide +kernel) rfl⟩, by unfold NA; decide +kernel, ⟨_, rfl, fun _ h => by cases h⟩⟩
theorem pn_X8_areDrySo : plainName M_X8_areDrySo.1.cls = true := by decide +kernel
def M_X8_fits : MM := (yX8_fits, cX8_fits, 4, some .int)
theorem mv_X8_fits : Vi M_X8_fits 1 := ⟨⟨mw 1247 _ (by decide +kernel) rfl, mw 71 _ (by decide +kernel) rfl, ⟨by decide, by decide⟩, by decide, mw 1245 _ (by decide +kernel) rfl, mw 1246 _ (by decide +kernel) rfl⟩, by unfold NA; decide +kernel, ⟨_, rfl, fun _ h => by cases h⟩⟩
theorem pn_X8_fits : plainName M_X8_fits.1.cls = true := by decide +kernel
def M_X8_starts : MM := (yX8_starts, cX8_starts, 2, none)
theorem mv_X8_starts : Vv M_X8_starts 1 := ⟨⟨mw 1274 _ (by decide +kernel) rfl, mw 71 _ (by decide +kernel) rfl, ⟨by decide, by decide⟩, by decide, mw 1273 _ (by decide +kernel) rfl, mw 57 _ (by decide +kernel) rfl⟩, by unfold NA; decide +kernel, rfl⟩
theorem pn_X8_starts : plainName M_X8_starts.1.cls = true := by decide +kernel
def M_X8_above : MM := (yX8_above, cX8_above, 1, some .int)
theorem ms_X8_above : Si M_X8_above 1 := ⟨⟨mw 1114 _ (by decide +kernel) rfl, mw 71 _ (by decide +kernel) rfl, ⟨by decide, by decide⟩, by decide, mw 1113 _ (by decide +kernel) rfl⟩, by unfold NA; decide +kernel, ⟨_, rfl, fun _ h => by cases h⟩⟩
theorem pn_X8_above : plainName M_X8_above.1.cls = true := by decide +kernel
def M_X8_kindNow : MM := (yX8_kindNow, cX8_kindNow, 1, some .int)
theorem mv_X8_kindNow : Vi M_X8_kindNow 0 := ⟨⟨mw 1266 _ (by decide +kernel) rfl, mw 71 _ (by decide +kernel) rfl, ⟨by decide, by decide⟩, by decide, mw 1265 _ (by decide +kernel) rfl, mw 55 _ (by decide +kernel) rfl⟩, by unfold NA; decide +kernel, ⟨_, rfl, fun _ h => by cases h⟩⟩
theorem pn_X8_kindNow : plainName M_X8_kindNow.1.cls = true := by decide +kernel
def M_X8_mNow : MM := (yX8_mNow, cX8_mNow, 1, some .int)
theorem mv_X8_mNow : Vi M_X8_mNow 0 := ⟨⟨mw 1282 _ (by decide +kernel) rfl, mw 71 _ (by decide +kernel) rfl, ⟨by decide, by decide⟩, by decide, mw 1281 _ (by decide +kernel) rfl, mw 59 _ (by decide +kernel) rfl⟩, by unfold NA; decide +kernel, ⟨_, rfl, fun _ h => by cases h⟩⟩
theorem pn_X8_mNow : plainName M_X8_mNow.1.cls = true := by decide +kernel
def M_X8_gulpsAs : MM := (yX8_gulpsAs, cX8_gulpsAs, 3, some .int)
theorem mv_X8_gulpsAs : Vi M_X8_gulpsAs 2 := ⟨⟨mw 1270 _ (by decide +kernel) rfl, mw 71 _ (by decide +kernel) rfl, ⟨by decide, by decide⟩, by decide, mw 1269 _ (by decide +kernel) rfl, mw 56 _ (by decide +kernel) rfl⟩, by unfold NA; decide +kernel, ⟨_, rfl, fun _ h => by cases h⟩⟩
theorem pn_X8_gulpsAs : plainName M_X8_gulpsAs.1.cls = true := by decide +kernel
def M_X8_sipsAs : MM := (yX8_sipsAs, cX8_sipsAs, 3, some .int)
theorem mv_X8_sipsAs : Vi M_X8_sipsAs 2 := ⟨⟨mw 1278 _ (by decide +kernel) rfl, mw 71 _ (by decide +kernel) rfl, ⟨by decide, by decide⟩, by decide, mw 1277 _ (by decide +kernel) rfl, mw 58 _ (by decide +kernel) rfl⟩, by unfold NA; decide +kernel, ⟨_, rfl, fun _ h => by cases h⟩⟩
theorem pn_X8_sipsAs : plainName M_X8_sipsAs.1.cls = true := by decide +kernel
def M_X8_sighsAs : MM := (yX8_sighsAs, cX8_sighsAs, 3, some .int)
theorem mv_X8_sighsAs : Vi M_X8_sighsAs 2 := ⟨⟨mw 1286 _ (by decide +kernel) rfl, mw 71 _ (by decide +kernel) rfl, ⟨by decide, by decide⟩, by decide, mw 1285 _ (by decide +kernel) rfl, mw 60 _ (by decide +kernel) rfl⟩, by unfold NA; decide +kernel, ⟨_, rfl, fun _ h => by cases h⟩⟩
theorem pn_X8_sighsAs : plainName M_X8_sighsAs.1.cls = true := by decide +kernel
def M_X8_partsAs : MM := (yX8_partsAs, cX8_partsAs, 5, some .int)
theorem mv_X8_partsAs : Vi M_X8_partsAs 2 := ⟨⟨mw 1290 _ (by decide +kernel) rfl, mw 71 _ (by decide +kernel) rfl, ⟨by decide, by decide⟩, by decide, mw 1289 _ (by decide +kernel) rfl, mw 61 _ (by decide +kernel) rfl⟩, by unfold NA; decide +kernel, ⟨_, rfl, fun _ h => by cases h⟩⟩
theorem pn_X8_partsAs : plainName M_X8_partsAs.1.cls = true := by decide +kernel
def M_X8_voice : MM := (yX8_voice, cX8_voice, 6, some .int)
theorem mv_X8_voice : Vi M_X8_voice 3 := ⟨⟨mw 1262 _ (by decide +kernel) rfl, mw 71 _ (by decide +kernel) rfl, ⟨by decide, by decide⟩, by decide, mw 1260 _ (by decide +kernel) rfl, mw 1261 _ (by decide +kernel) rfl⟩, by unfold NA; decide +kernel, ⟨_, rfl, fun _ h => by cases h⟩⟩
theorem pn_X8_voice : plainName M_X8_voice.1.cls = true := by decide +kernel
def M_X8_body : MM := (yX8_body, cX8_body, 2, some .int)
theorem mv_X8_body : Vi M_X8_body 1 := ⟨⟨mw 1294 _ (by decide +kernel) rfl, mw 71 _ (by decide +kernel) rfl, ⟨by decide, by decide⟩, by decide, mw 1292 _ (by decide +kernel) rfl, mw 1293 _ (by decide +kernel) rfl⟩, by unfold NA; decide +kernel, ⟨_, rfl, fun _ h => by cases h⟩⟩
theorem pn_X8_body : plainName M_X8_body.1.cls = true := by decide +kernel
def M_X8_isSheet : MM := (yX8_isSheet, cX8_isSheet, 1, some .boolean)
theorem ms_X8_isSheet : Si M_X8_isSheet 1 := ⟨⟨mw 1254 _ (by decide +kernel) rfl, mw 71 _ (by decide +kernel) rfl, ⟨by decide, by decide⟩, by decide, mw 1253 _ (by decide +kernel) rfl⟩, by unfold NA; decide +kernel, ⟨_, rfl, fun _ h => by cases h⟩⟩
theorem pn_X8_isSheet : plainName M_X8_isSheet.1.cls = true := by decide +kernel
def M_X8_sheet : MM := (yX8_sheet, cX8_sheet, 5, some .int)
theorem mv_X8_sheet : Vi M_X8_sheet 3 := ⟨⟨mw 1298 _ (by decide +kernel) rfl, mw 71 _ (by decide +kernel) rfl, ⟨by decide, by decide⟩, by decide, mw 1296 _ (by decide +kernel) rfl, mw 1297 _ (by decide +kernel) rfl⟩, by unfold NA; decide +kernel, ⟨_, rfl, fun _ h => by cases h⟩⟩
theorem pn_X8_sheet : plainName M_X8_sheet.1.cls = true := by decide +kernel
def M_X8_put : MM := (yX8_put, cX8_put, 5, some .int)
theorem mv_X8_put : Vi M_X8_put 3 := ⟨⟨mw 1302 _ (by decide +kernel) rfl, mw 71 _ (by decide +kernel) rfl, ⟨by decide, by decide⟩, by decide, mw 1300 _ (by decide +kernel) rfl, mw 1301 _ (by decide +kernel) rfl⟩, by unfold NA; decide +kernel, ⟨_, rfl, fun _ h => by cases h⟩⟩
theorem pn_X8_put : plainName M_X8_put.1.cls = true := by decide +kernel
def M_X8_move : MM := (yX8_move, cX8_move, 7, some .int)
theorem mv_X8_move : Vi M_X8_move 5 := ⟨⟨mw 1306 _ (by decide +kernel) rfl, mw 71 _ (by decide +kernel) rfl, ⟨by decide, by decide⟩, by decide, mw 1304 _ (by decide +kernel) rfl, mw 1305 _ (by decide +kernel) rfl⟩, by unfold NA; decide +kernel, ⟨_, rfl, fun _ h => by cases h⟩⟩
theorem pn_X8_move : plainName M_X8_move.1.cls = true := by decide +kernel
def M_X8_lacks : MM := (yX8_lacks, cX8_lacks, 2, some .int)
theorem mv_X8_lacks : Vi M_X8_lacks 1 := ⟨⟨mw 1251 _ (by decide +kernel) rfl, mw 71 _ (by decide +kernel) rfl, ⟨by decide, by decide⟩, by decide, mw 1250 _ (by decide +kernel) rfl, mw 53 _ (by decide +kernel) rfl⟩, by unfold NA; decide +kernel, ⟨_, rfl, fun _ h => by cases h⟩⟩
theorem pn_X8_lacks : plainName M_X8_lacks.1.cls = true := by decide +kernel
def M_X8_parches : MM := (yX8_parches, cX8_parches, 4, some .int)
theorem mv_X8_parches : Vi M_X8_parches 1 := ⟨⟨mw 1310 _ (by decide +kernel) rfl, mw 71 _ (by decide +kernel) rfl, ⟨by decide, by decide⟩, by decide, mw 1308 _ (by decide +kernel) rfl, mw 1309 _ (by decide +kernel) rfl⟩, by unfold NA; decide +kernel, ⟨_, rfl, fun _ h => by cases h⟩⟩
theorem pn_X8_parches : plainName M_X8_parches.1.cls = true := by decide +kernel
def M_X8_judge : MM := (yX8_judge, cX8_judge, 4, some .int)
theorem mv_X8_judge : Vi M_X8_judge 1 := ⟨⟨mw 1314 _ (by decide +kernel) rfl, mw 71 _ (by decide +kernel) rfl, ⟨by decide, by decide⟩, by decide, mw 1312 _ (by decide +kernel) rfl, mw 1313 _ (by decide +kernel) rfl⟩, by unfold NA; decide +kernel, ⟨_, rfl, fun _ h => by cases h⟩⟩
theorem pn_X8_judge : plainName M_X8_judge.1.cls = true := by decide +kernel
def M_X8_image : MM := (yX8_image, cX8_image, 1, some .int)
theorem mv_X8_image : Vi M_X8_image 0 := ⟨⟨mw 1318 _ (by decide +kernel) rfl, mw 71 _ (by decide +kernel) rfl, ⟨by decide, by decide⟩, by decide, mw 1316 _ (by decide +kernel) rfl, mw 1317 _ (by decide +kernel) rfl⟩, by unfold NA; decide +kernel, ⟨_, rfl, fun _ h => by cases h⟩⟩
theorem pn_X8_image : plainName M_X8_image.1.cls = true := by decide +kernel
def M_X8_restore : MM := (yX8_restore, cX8_restore, 1, some .int)
theorem mv_X8_restore : Vi M_X8_restore 0 := ⟨⟨mw 1325 _ (by decide +kernel) rfl, mw 71 _ (by decide +kernel) rfl, ⟨by decide, by decide⟩, by decide, mw 1323 _ (by decide +kernel) rfl, mw 1324 _ (by decide +kernel) rfl⟩, by unfold NA; decide +kernel, ⟨_, rfl, fun _ h => by cases h⟩⟩
theorem pn_X8_restore : plainName M_X8_restore.1.cls = true := by decide +kernel
def M_X8_tell : MM := (yX8_tell, cX8_tell, 2, some .int)
theorem mv_X8_tell : Vi M_X8_tell 1 := ⟨⟨mw 1329 _ (by decide +kernel) rfl, mw 71 _ (by decide +kernel) rfl, ⟨by decide, by decide⟩, by decide, mw 1327 _ (by decide +kernel) rfl, mw 1328 _ (by decide +kernel) rfl⟩, by unfold NA; decide +kernel, ⟨_, rfl, fun _ h => by cases h⟩⟩
theorem pn_X8_tell : plainName M_X8_tell.1.cls = true := by decide +kernel
def M_X8_check : MM := (yX8_check, cX8_check, 3, some .int)
theorem mv_X8_check : Vi M_X8_check 0 := ⟨⟨mw 1333 _ (by decide +kernel) rfl, mw 71 _ (by decide +kernel) rfl, ⟨by decide, by decide⟩, by decide, mw 1331 _ (by decide +kernel) rfl, mw 1332 _ (by decide +kernel) rfl⟩, by unfold NA; decide +kernel, ⟨_, rfl, fun _ h => by cases h⟩⟩
theorem pn_X8_check : plainName M_X8_check.1.cls = true := by decide +kernel
def M_X8_count : MM := (yX8_count, cX8_count, 2, some .int)
theorem mv_X8_count : Vi M_X8_count 1 := ⟨⟨mw 1337 _ (by decide +kernel) rfl, mw 71 _ (by decide +kernel) rfl, ⟨by decide, by decide⟩, by decide, mw 1335 _ (by decide +kernel) rfl, mw 1336 _ (by decide +kernel) rfl⟩, by unfold NA; decide +kernel, ⟨_, rfl, fun _ h => by cases h⟩⟩
theorem pn_X8_count : plainName M_X8_count.1.cls = true := by decide +kernel
def M_X8_told : MM := (yX8_told, cX8_told, 2, some .int)
theorem mv_X8_told : Vi M_X8_told 1 := ⟨⟨mw 1341 _ (by decide +kernel) rfl, mw 71 _ (by decide +kernel) rfl, ⟨by decide, by decide⟩, by decide, mw 1339 _ (by decide +kernel) rfl, mw 1340 _ (by decide +kernel) rfl⟩, by unfold NA; decide +kernel, ⟨_, rfl, fun _ h => by cases h⟩⟩
theorem pn_X8_told : plainName M_X8_told.1.cls = true := by decide +kernel
def M_J6_bitCount_0f7a4 : MM := (yJ6_bitCount_0f7a4, cJ6_bitCount_0f7a4, 1, some .int)
theorem ms_J6_bitCount_0f7a4 : Si M_J6_bitCount_0f7a4 1 := ⟨⟨mw 738 _ (by decide +kernel) rfl, mw 79 _ (by decide +kernel) rfl, ⟨by decide, by decide⟩, by decide, mw 737 _ (by decide +kernel) rfl⟩, by unfold NA; decide +kernel, ⟨_, rfl, fun _ h => by cases h⟩⟩
theorem pn_J6_bitCount_0f7a4 : plainName M_J6_bitCount_0f7a4.1.cls = true := by decide +kernel
def M_J9_max_7cf53 : MM := (yJ9_max_7cf53, cJ9_max_7cf53, 2, some .int)
theorem ms_J9_max_7cf53 : Si M_J9_max_7cf53 2 := ⟨⟨mw 408 _ (by decide +kernel) rfl, mw 72 _ (by decide +kernel) rfl, ⟨by decide, by decide⟩, by decide, mw 407 _ (by decide +kernel) rfl⟩, by unfold NA; decide +kernel, ⟨_, rfl, fun _ h => by cases h⟩⟩
def M_J9_min_7cf53 : MM := (yJ9_min_7cf53, cJ9_min_7cf53, 2, some .int)
theorem ms_J9_min_7cf53 : Si M_J9_min_7cf53 2 := ⟨⟨mw 405 _ (by decide +kernel) rfl, mw 72 _ (by decide +kernel) rfl, ⟨by decide, by decide⟩, by decide, mw 404 _ (by decide +kernel) rfl⟩, by unfold NA; decide +kernel, ⟨_, rfl, fun _ h => by cases h⟩⟩
def M_J0_length_8abf5 : MM := (yJ0_length_8abf5, cJ0_length_8abf5, 1, some .int)
theorem mv_J0_length_8abf5 : Vi M_J0_length_8abf5 0 := ⟨⟨mw 553 _ (by decide +kernel) rfl, mw 73 _ (by decide +kernel) rfl, ⟨by decide, by decide⟩, by decide, mw 551 _ (by decide +kernel) rfl, mw 552 _ (by decide +kernel) rfl⟩, by unfold NA; decide +kernel, ⟨_, rfl, fun _ h => by cases h⟩⟩
theorem pn_J0_length_8abf5 : plainName M_J0_length_8abf5.1.cls = true := by decide +kernel
def M_J0_indexOf_0f7a4 : MM := (yJ0_indexOf_0f7a4, cJ0_indexOf_0f7a4, 2, some .int)
theorem mv_J0_indexOf_0f7a4 : Vi M_J0_indexOf_0f7a4 1 := ⟨⟨mw 539 _ (by decide +kernel) rfl, mw 73 _ (by decide +kernel) rfl, ⟨by decide, by decide⟩, by decide, mw 537 _ (by decide +kernel) rfl, mw 538 _ (by decide +kernel) rfl⟩, by unfold NA; decide +kernel, ⟨_, rfl, fun _ h => by cases h⟩⟩
theorem pn_J0_indexOf_0f7a4 : plainName M_J0_indexOf_0f7a4.1.cls = true := by decide +kernel
def M_J0_indexOf_7cf53 : MM := (yJ0_indexOf_7cf53, cJ0_indexOf_7cf53, 3, some .int)
theorem mv_J0_indexOf_7cf53 : Vi M_J0_indexOf_7cf53 2 := ⟨⟨mw 543 _ (by decide +kernel) rfl, mw 73 _ (by decide +kernel) rfl, ⟨by decide, by decide⟩, by decide, mw 541 _ (by decide +kernel) rfl, mw 542 _ (by decide +kernel) rfl⟩, by unfold NA; decide +kernel, ⟨_, rfl, fun _ h => by cases h⟩⟩
theorem pn_J0_indexOf_7cf53 : plainName M_J0_indexOf_7cf53.1.cls = true := by decide +kernel
def M_J0_coder_7d493 : MM := (yJ0_coder_7d493, cJ0_coder_7d493, 1, some .byte)
theorem mv_J0_coder_7d493 : Vi M_J0_coder_7d493 0 := ⟨⟨mw 557 _ (by decide +kernel) rfl, mw 73 _ (by decide +kernel) rfl, ⟨by decide, by decide⟩, by decide, mw 555 _ (by decide +kernel) rfl, mw 556 _ (by decide +kernel) rfl⟩, by unfold NA; decide +kernel, ⟨_, rfl, fun _ h => by cases h⟩⟩
theorem pn_J0_coder_7d493 : plainName M_J0_coder_7d493.1.cls = true := by decide +kernel
def M_J0_isLatin1_aae02 : MM := (yJ0_isLatin1_aae02, cJ0_isLatin1_aae02, 1, some .boolean)
theorem mv_J0_isLatin1_aae02 : Vi M_J0_isLatin1_aae02 0 := ⟨⟨mw 547 _ (by decide +kernel) rfl, mw 73 _ (by decide +kernel) rfl, ⟨by decide, by decide⟩, by decide, mw 545 _ (by decide +kernel) rfl, mw 546 _ (by decide +kernel) rfl⟩, by unfold NA; decide +kernel, ⟨_, rfl, fun _ h => by cases h⟩⟩
theorem pn_J0_isLatin1_aae02 : plainName M_J0_isLatin1_aae02.1.cls = true := by decide +kernel
def M_J0_checkBoundsBeginEnd_23922 : MM := (yJ0_checkBoundsBeginEnd_23922, cJ0_checkBoundsBeginEnd_23922, 3, none)
theorem ms_J0_checkBoundsBeginEnd_23922 : Sv M_J0_checkBoundsBeginEnd_23922 3 := ⟨⟨mw 586 _ (by decide +kernel) rfl, mw 73 _ (by decide +kernel) rfl, ⟨by decide, by decide⟩, by decide, mw 585 _ (by decide +kernel) rfl⟩, by unfold NA; decide +kernel, rfl⟩
theorem pn_J0_checkBoundsBeginEnd_23922 : plainName M_J0_checkBoundsBeginEnd_23922.1.cls = true := by decide +kernel
def M_J1_canEncode_9a6ad : MM := (yJ1_canEncode_9a6ad, cJ1_canEncode_9a6ad, 1, some .boolean)
theorem ms_J1_canEncode_9a6ad : Si M_J1_canEncode_9a6ad 1 := ⟨⟨mw 563 _ (by decide +kernel) rfl, mw 74 _ (by decide +kernel) rfl, ⟨by decide, by decide⟩, by decide, mw 562 _ (by decide +kernel) rfl⟩, by unfold NA; decide +kernel, ⟨_, rfl, fun _ h => by cases h⟩⟩
theorem pn_J1_canEncode_9a6ad : plainName M_J1_canEncode_9a6ad.1.cls = true := by decide +kernel
def M_J1_indexOf_4cfef : MM := (yJ1_indexOf_4cfef, cJ1_indexOf_4cfef, 4, some .int)
theorem ms_J1_indexOf_4cfef : Si M_J1_indexOf_4cfef 4 := ⟨⟨mw 560 _ (by decide +kernel) rfl, mw 74 _ (by decide +kernel) rfl, ⟨by decide, by decide⟩, by decide, mw 559 _ (by decide +kernel) rfl⟩, by unfold NA; decide +kernel, ⟨_, rfl, fun _ h => by cases h⟩⟩
theorem pn_J1_indexOf_4cfef : plainName M_J1_indexOf_4cfef.1.cls = true := by decide +kernel
def M_J1_indexOfChar_4cfef : MM := (yJ1_indexOfChar_4cfef, cJ1_indexOfChar_4cfef, 6, some .int)
theorem ms_J1_indexOfChar_4cfef : Si M_J1_indexOfChar_4cfef 4 := ⟨⟨mw 568 _ (by decide +kernel) rfl, mw 74 _ (by decide +kernel) rfl, ⟨by decide, by decide⟩, by decide, mw 567 _ (by decide +kernel) rfl⟩, by unfold NA; decide +kernel, ⟨_, rfl, fun _ h => by cases h⟩⟩
theorem pn_J1_indexOfChar_4cfef : plainName M_J1_indexOfChar_4cfef.1.cls = true := by decide +kernel
-- places of the constants
theorem lk_X0_9 : LK RX0 9 yX0_beOfKind := .inl (mw 361 _ (by decide +kernel) rfl)
theorem fs_X0_15 : FS RX0 15 0 2 := ⟨_, rfl, by decide, .inl (mw 109 _ (by decide +kernel) rfl)⟩
theorem fs_X0_19 : FS RX0 19 0 3 := ⟨_, rfl, by decide, .inl (mw 112 _ (by decide +kernel) rfl)⟩
theorem fs_X0_22 : FS RX0 22 0 4 := ⟨_, rfl, by decide, .inl (mw 114 _ (by decide +kernel) rfl)⟩
theorem fs_X0_25 : FS RX0 25 0 5 := ⟨_, rfl, by decide, .inl (mw 118 _ (by decide +kernel) rfl)⟩
theorem fs_X0_28 : FS RX0 28 0 0 := ⟨_, rfl, by decide, .inl (mw 104 _ (by decide +kernel) rfl)⟩
theorem fs_X0_31 : FS RX0 31 0 1 := ⟨_, rfl, by decide, .inl (mw 107 _ (by decide +kernel) rfl)⟩
theorem lk_X0_34 : LK RX0 34 yX0_byDay := .inl (mw 381 _ (by decide +kernel) rfl)
theorem lk_X0_38 : LK RX0 38 yX7_within := .inr ⟨"ThirstPay", mwn 384 _ (by decide +kernel) rfl⟩
theorem fs_X1_12 : FS RX1 12 1 0 := ⟨_, rfl, by decide, .inl (mw 250 _ (by decide +kernel) rfl)⟩
theorem fs_X1_18 : FS RX1 18 1 1 := ⟨_, rfl, by decide, .inl (mw 252 _ (by decide +kernel) rfl)⟩
-- X1_22: None
theorem fs_X1_24 : FS RX1 24 1 4 := ⟨_, rfl, by decide, .inl (mw 255 _ (by decide +kernel) rfl)⟩
theorem lk_X1_28 : LK RX1 28 yJ9_min_7cf53 := .inl (mw 511 _ (by decide +kernel) rfl)
theorem lk_X1_34 : LK RX1 34 yJ9_max_7cf53 := .inl (mw 512 _ (by decide +kernel) rfl)
theorem fs_X1_37 : FS RX1 37 1 2 := ⟨_, rfl, by decide, .inl (mw 253 _ (by decide +kernel) rfl)⟩
theorem fs_X1_41 : FS RX1 41 1 3 := ⟨_, rfl, by decide, .inl (mw 254 _ (by decide +kernel) rfl)⟩
theorem lk_X1_44 : LK RX1 44 yX3_clear := .inl (mw 513 _ (by decide +kernel) rfl)
theorem lk_X1_47 : LK RX1 47 yX1_readRank := .inl (mw 517 _ (by decide +kernel) rfl)
theorem lk_X1_51 : LK RX1 51 yX1_readOperand := .inl (mw 521 _ (by decide +kernel) rfl)
theorem lk_X1_55 : LK RX1 55 yX1_rankOf := .inl (mw 626 _ (by decide +kernel) rfl)
theorem lk_X1_59 : LK RX1 59 yX3_add := .inl (mw 532 _ (by decide +kernel) rfl)
theorem lk_X1_63 : LK RX1 63 yX1_isDigit := .inl (mw 525 _ (by decide +kernel) rfl)
theorem lk_X1_66 : LK RX1 66 yX1_readNumber := .inl (mw 528 _ (by decide +kernel) rfl)
theorem lk_X1_69 : LK RX1 69 yJ0_indexOf_0f7a4 := .inl (mw 536 _ (by decide +kernel) rfl)
theorem lk_X1_74 : LK RX1 74 yX1_readNot := .inl (mw 618 _ (by decide +kernel) rfl)
theorem lk_X1_77 : LK RX1 77 yX1_readBracket := .inl (mw 622 _ (by decide +kernel) rfl)
theorem fs_X2_9 : FS RX2 9 2 0 := ⟨_, rfl, by decide, .inl (mw 302 _ (by decide +kernel) rfl)⟩
theorem fs_X2_15 : FS RX2 15 2 1 := ⟨_, rfl, by decide, .inl (mw 305 _ (by decide +kernel) rfl)⟩
theorem fs_X2_19 : FS RX2 19 2 2 := ⟨_, rfl, by decide, .inl (mw 307 _ (by decide +kernel) rfl)⟩
theorem lk_X2_22 : LK RX2 22 yX7_within := .inr ⟨"ThirstPay", mwn 843 _ (by decide +kernel) rfl⟩
theorem fs_X3_9 : FS RX3 9 3 0 := ⟨_, rfl, by decide, .inl (mw 141 _ (by decide +kernel) rfl)⟩
theorem fs_X3_15 : FS RX3 15 3 1 := ⟨_, rfl, by decide, .inl (mw 142 _ (by decide +kernel) rfl)⟩
theorem fs_X3_18 : FS RX3 18 3 2 := ⟨_, rfl, by decide, .inl (mw 143 _ (by decide +kernel) rfl)⟩
theorem fs_X3_21 : FS RX3 21 3 3 := ⟨_, rfl, by decide, .inl (mw 144 _ (by decide +kernel) rfl)⟩
-- X3_25: ('java/lang/System', 'arraycopy', '(Ljava/lang/Object;ILjava/lang/Object;II)V')
theorem lk_X3_25 : Cond.methodLink RX3 25 arraycopyName ∈ lw_g := mw 633 _ (by decide +kernel) rfl
theorem lk_X3_31 : LK RX3 31 yX3_named := .inl (mw 397 _ (by decide +kernel) rfl)
theorem lk_X3_35 : LK RX3 35 yX3_joined := .inl (mw 400 _ (by decide +kernel) rfl)
theorem fs_X4_9 : FS RX4 9 4 1 := ⟨_, rfl, by decide, .inl (mw 223 _ (by decide +kernel) rfl)⟩
theorem fs_X4_15 : FS RX4 15 4 2 := ⟨_, rfl, by decide, .inl (mw 224 _ (by decide +kernel) rfl)⟩
theorem fs_X4_18 : FS RX4 18 4 3 := ⟨_, rfl, by decide, .inl (mw 225 _ (by decide +kernel) rfl)⟩
theorem fs_X4_21 : FS RX4 21 4 4 := ⟨_, rfl, by decide, .inl (mw 226 _ (by decide +kernel) rfl)⟩
theorem fs_X4_24 : FS RX4 24 4 0 := ⟨_, rfl, by decide, .inl (mw 222 _ (by decide +kernel) rfl)⟩
theorem lk_X4_28 : LK RX4 28 yX4_startAhead := .inl (mw 687 _ (by decide +kernel) rfl)
theorem fs_X4_31 : FS RX4 31 6 6 := ⟨_, rfl, by decide, .inr ⟨"ThirstPay", mwn 170 _ (by decide +kernel) rfl⟩⟩
theorem lk_X4_37 : LK RX4 37 yX4_goAhead := .inl (mw 691 _ (by decide +kernel) rfl)
theorem lk_X4_41 : LK RX4 41 yX7_within := .inr ⟨"ThirstPay", mwn 697 _ (by decide +kernel) rfl⟩
theorem fs_X4_45 : FS RX4 45 6 1 := ⟨_, rfl, by decide, .inr ⟨"ThirstPay", mwn 159 _ (by decide +kernel) rfl⟩⟩
theorem fs_X4_48 : FS RX4 48 6 0 := ⟨_, rfl, by decide, .inr ⟨"ThirstPay", mwn 156 _ (by decide +kernel) rfl⟩⟩
theorem fs_X4_52 : FS RX4 52 0 4 := ⟨_, rfl, by decide, .inr ⟨"ThirstPay", mwn 115 _ (by decide +kernel) rfl⟩⟩
theorem lk_X4_56 : LK RX4 56 yX6_growthOf := .inl (mw 695 _ (by decide +kernel) rfl)
theorem lk_X4_60 : LK RX4 60 yJ9_min_7cf53 := .inl (mw 696 _ (by decide +kernel) rfl)
theorem lk_X4_66 : LK RX4 66 yX4_firstAbove := .inl (mw 706 _ (by decide +kernel) rfl)
theorem lk_X4_70 : LK RX4 70 yX4_isAsTold := .inl (mw 785 _ (by decide +kernel) rfl)
theorem fs_X4_74 : FS RX4 74 2 2 := ⟨_, rfl, by decide, .inr ⟨"ThirstPay", mwn 308 _ (by decide +kernel) rfl⟩⟩
theorem fs_X4_79 : FS RX4 79 2 0 := ⟨_, rfl, by decide, .inr ⟨"ThirstPay", mwn 303 _ (by decide +kernel) rfl⟩⟩
theorem lk_X4_82 : LK RX4 82 yX6_allFarms := .inl (mw 719 _ (by decide +kernel) rfl)
theorem lk_X4_86 : LK RX4 86 yX6_dryOfSet := .inl (mw 720 _ (by decide +kernel) rfl)
theorem lk_X4_89 : LK RX4 89 yX6_payOfSet := .inl (mw 721 _ (by decide +kernel) rfl)
theorem fs_X4_92 : FS RX4 92 6 2 := ⟨_, rfl, by decide, .inr ⟨"ThirstPay", mwn 162 _ (by decide +kernel) rfl⟩⟩
-- X4_95: ('java/lang/System', 'arraycopy', '(Ljava/lang/Object;ILjava/lang/Object;II)V')
theorem lk_X4_95 : Cond.methodLink RX4 95 arraycopyName ∈ lw_g := mw 731 _ (by decide +kernel) rfl
theorem fs_X4_101 : FS RX4 101 4 5 := ⟨_, rfl, by decide, .inl (mw 227 _ (by decide +kernel) rfl)⟩
theorem lk_X4_104 : LK RX4 104 yX4_placeFrom := .inl (mw 732 _ (by decide +kernel) rfl)
theorem lk_X4_108 : LK RX4 108 yJ6_bitCount_0f7a4 := .inl (mw 736 _ (by decide +kernel) rfl)
theorem fs_X4_113 : FS RX4 113 6 4 := ⟨_, rfl, by decide, .inr ⟨"ThirstPay", mwn 167 _ (by decide +kernel) rfl⟩⟩
theorem fs_X5_11 : FS RX5 11 5 0 := ⟨_, rfl, by decide, .inl (mw 273 _ (by decide +kernel) rfl)⟩
theorem fs_X5_15 : FS RX5 15 5 3 := ⟨_, rfl, by decide, .inl (mw 279 _ (by decide +kernel) rfl)⟩
theorem fs_X5_19 : FS RX5 19 0 1 := ⟨_, rfl, by decide, .inr ⟨"ThirstPay", mwn 106 _ (by decide +kernel) rfl⟩⟩
theorem fs_X5_24 : FS RX5 24 5 4 := ⟨_, rfl, by decide, .inl (mw 280 _ (by decide +kernel) rfl)⟩
theorem fs_X5_25 : FS RX5 25 0 0 := ⟨_, rfl, by decide, .inr ⟨"ThirstPay", mwn 103 _ (by decide +kernel) rfl⟩⟩
theorem fs_X5_28 : FS RX5 28 5 5 := ⟨_, rfl, by decide, .inl (mw 281 _ (by decide +kernel) rfl)⟩
theorem fs_X5_29 : FS RX5 29 5 1 := ⟨_, rfl, by decide, .inl (mw 275 _ (by decide +kernel) rfl)⟩
theorem fs_X5_32 : FS RX5 32 5 2 := ⟨_, rfl, by decide, .inl (mw 277 _ (by decide +kernel) rfl)⟩
theorem lk_X5_36 : LK RX5 36 yX5_spoken := .inl (mw 797 _ (by decide +kernel) rfl)
theorem lk_X5_40 : LK RX5 40 yX5_ownerOf := .inl (mw 801 _ (by decide +kernel) rfl)
theorem lk_X5_44 : LK RX5 44 yX5_bodyOf := .inl (mw 804 _ (by decide +kernel) rfl)
theorem lk_X5_47 : LK RX5 47 yX7_kindAbove := .inr ⟨"ThirstPay", mwn 810 _ (by decide +kernel) rfl⟩
theorem lk_X5_51 : LK RX5 51 yX5_workedOut := .inl (mw 811 _ (by decide +kernel) rfl)
theorem gs_X5_54 : Cond.fieldLink RX5 54 "ThirstPay$Voices" "BODIES" "[I" ∈ lw_g := mw 807 _ (by decide +kernel) rfl
theorem lk_X5_57 : LK RX5 57 yX7_within := .inr ⟨"ThirstPay", mwn 809 _ (by decide +kernel) rfl⟩
theorem lk_X5_61 : LK RX5 61 yX5_partOf := .inl (mw 815 _ (by decide +kernel) rfl)
theorem lk_X5_64 : LK RX5 64 yX5_partAndSips := .inl (mw 819 _ (by decide +kernel) rfl)
theorem fs_X6_11 : FS RX6 11 6 0 := ⟨_, rfl, by decide, .inl (mw 154 _ (by decide +kernel) rfl)⟩
theorem fs_X6_17 : FS RX6 17 6 2 := ⟨_, rfl, by decide, .inl (mw 160 _ (by decide +kernel) rfl)⟩
theorem fs_X6_21 : FS RX6 21 6 3 := ⟨_, rfl, by decide, .inl (mw 163 _ (by decide +kernel) rfl)⟩
theorem fs_X6_24 : FS RX6 24 6 5 := ⟨_, rfl, by decide, .inl (mw 168 _ (by decide +kernel) rfl)⟩
theorem fs_X6_27 : FS RX6 27 6 8 := ⟨_, rfl, by decide, .inl (mw 175 _ (by decide +kernel) rfl)⟩
theorem fs_X6_31 : FS RX6 31 6 9 := ⟨_, rfl, by decide, .inl (mw 177 _ (by decide +kernel) rfl)⟩
theorem fs_X6_37 : FS RX6 37 6 11 := ⟨_, rfl, by decide, .inl (mw 181 _ (by decide +kernel) rfl)⟩
theorem fs_X6_41 : FS RX6 41 6 12 := ⟨_, rfl, by decide, .inl (mw 183 _ (by decide +kernel) rfl)⟩
theorem lk_X6_46 : LK RX6 46 yX0_copyFrom := .inl (mw 870 _ (by decide +kernel) rfl)
theorem lk_X6_50 : LK RX6 50 yX3_copyFrom := .inl (mw 874 _ (by decide +kernel) rfl)
-- X6_53: ('java/lang/System', 'arraycopy', '(Ljava/lang/Object;ILjava/lang/Object;II)V')
theorem lk_X6_53 : Cond.methodLink RX6 53 arraycopyName ∈ lw_g := mw 875 _ (by decide +kernel) rfl
theorem fs_X6_59 : FS RX6 59 6 1 := ⟨_, rfl, by decide, .inl (mw 158 _ (by decide +kernel) rfl)⟩
theorem fs_X6_62 : FS RX6 62 6 4 := ⟨_, rfl, by decide, .inl (mw 165 _ (by decide +kernel) rfl)⟩
theorem fs_X6_65 : FS RX6 65 6 6 := ⟨_, rfl, by decide, .inl (mw 171 _ (by decide +kernel) rfl)⟩
theorem fs_X6_68 : FS RX6 68 6 7 := ⟨_, rfl, by decide, .inl (mw 173 _ (by decide +kernel) rfl)⟩
theorem fs_X6_71 : FS RX6 71 6 10 := ⟨_, rfl, by decide, .inl (mw 179 _ (by decide +kernel) rfl)⟩
theorem fs_X6_74 : FS RX6 74 6 13 := ⟨_, rfl, by decide, .inl (mw 185 _ (by decide +kernel) rfl)⟩
theorem lk_X6_77 : LK RX6 77 yX3_isThere := .inl (mw 389 _ (by decide +kernel) rfl)
theorem lk_X6_81 : LK RX6 81 yX3_workedOut := .inl (mw 393 _ (by decide +kernel) rfl)
theorem lk_X6_85 : LK RX6 85 yJ9_min_7cf53 := .inl (mw 403 _ (by decide +kernel) rfl)
theorem lk_X6_91 : LK RX6 91 yJ9_max_7cf53 := .inl (mw 406 _ (by decide +kernel) rfl)
theorem lk_X6_94 : LK RX6 94 yX0_grows := .inl (mw 377 _ (by decide +kernel) rfl)
theorem lk_X6_98 : LK RX6 98 yX6_given := .inl (mw 385 _ (by decide +kernel) rfl)
theorem lk_X6_102 : LK RX6 102 yX0_pays := .inl (mw 413 _ (by decide +kernel) rfl)
theorem fs_X6_106 : FS RX6 106 0 4 := ⟨_, rfl, by decide, .inr ⟨"ThirstPay", mwn 117 _ (by decide +kernel) rfl⟩⟩
theorem fs_X6_109 : FS RX6 109 0 2 := ⟨_, rfl, by decide, .inr ⟨"ThirstPay", mwn 111 _ (by decide +kernel) rfl⟩⟩
theorem lk_X6_112 : LK RX6 112 yX6_payOf := .inl (mw 489 _ (by decide +kernel) rfl)
theorem lk_X6_116 : LK RX6 116 yX6_dryOfSet := .inl (mw 477 _ (by decide +kernel) rfl)
theorem lk_X6_119 : LK RX6 119 yX6_payOfSet := .inl (mw 485 _ (by decide +kernel) rfl)
theorem cn_X6_122 : Cond.constant RX6 122 99999 ∈ lw_g := mw 490 _ (by decide +kernel) rfl
theorem fs_X6_123 : FS RX6 123 0 5 := ⟨_, rfl, by decide, .inr ⟨"ThirstPay", mwn 120 _ (by decide +kernel) rfl⟩⟩
theorem lk_X6_126 : LK RX6 126 yX6_drawn := .inl (mw 664 _ (by decide +kernel) rfl)
theorem lk_X6_129 : LK RX6 129 yX6_mayBeCarried := .inl (mw 669 _ (by decide +kernel) rfl)
theorem lk_X6_133 : LK RX6 133 yX6_beCarried := .inl (mw 670 _ (by decide +kernel) rfl)
theorem cn_X6_136 : Cond.constant RX6 136 1103515245 ∈ lw_g := mw 668 _ (by decide +kernel) rfl
theorem lk_X6_137 : LK RX6 137 yX6_growthOf := .inl (mw 655 _ (by decide +kernel) rfl)
theorem fs_X7_10 : FS RX7 10 7 0 := ⟨_, rfl, by decide, .inl (mw 317 _ (by decide +kernel) rfl)⟩
theorem fs_X7_16 : FS RX7 16 7 1 := ⟨_, rfl, by decide, .inl (mw 318 _ (by decide +kernel) rfl)⟩
theorem fs_X7_24 : FS RX7 24 7 2 := ⟨_, rfl, by decide, .inl (mw 319 _ (by decide +kernel) rfl)⟩
theorem fs_X7_31 : FS RX7 31 7 3 := ⟨_, rfl, by decide, .inl (mw 320 _ (by decide +kernel) rfl)⟩
theorem fs_X7_38 : FS RX7 38 7 4 := ⟨_, rfl, by decide, .inl (mw 321 _ (by decide +kernel) rfl)⟩
theorem fs_X7_44 : FS RX7 44 7 5 := ⟨_, rfl, by decide, .inl (mw 322 _ (by decide +kernel) rfl)⟩
theorem fs_X7_48 : FS RX7 48 7 6 := ⟨_, rfl, by decide, .inl (mw 323 _ (by decide +kernel) rfl)⟩
theorem lk_X7_53 : LK RX7 53 yX7_isKindAndM := .inl (mw 346 _ (by decide +kernel) rfl)
theorem lk_X7_57 : LK RX7 57 yX7_within := .inl (mw 349 _ (by decide +kernel) rfl)
theorem lk_X7_61 : LK RX7 61 yX7_refuse := .inl (mw 352 _ (by decide +kernel) rfl)
theorem fs_X7_65 : FS RX7 65 6 1 := ⟨_, rfl, by decide, .inr ⟨"ThirstPay", mwn 157 _ (by decide +kernel) rfl⟩⟩
theorem fs_X7_69 : FS RX7 69 6 0 := ⟨_, rfl, by decide, .inr ⟨"ThirstPay", mwn 155 _ (by decide +kernel) rfl⟩⟩
theorem lk_X7_73 : LK RX7 73 yX0_begin := .inl (mw 357 _ (by decide +kernel) rfl)
theorem lk_X7_79 : LK RX7 79 yX7_isFarm := .inl (mw 369 _ (by decide +kernel) rfl)
theorem fs_X7_82 : FS RX7 82 0 0 := ⟨_, rfl, by decide, .inr ⟨"ThirstPay", mwn 105 _ (by decide +kernel) rfl⟩⟩
theorem fs_X7_85 : FS RX7 85 0 1 := ⟨_, rfl, by decide, .inr ⟨"ThirstPay", mwn 108 _ (by decide +kernel) rfl⟩⟩
theorem fs_X7_88 : FS RX7 88 0 2 := ⟨_, rfl, by decide, .inr ⟨"ThirstPay", mwn 110 _ (by decide +kernel) rfl⟩⟩
theorem fs_X7_91 : FS RX7 91 0 3 := ⟨_, rfl, by decide, .inr ⟨"ThirstPay", mwn 113 _ (by decide +kernel) rfl⟩⟩
theorem fs_X7_94 : FS RX7 94 0 4 := ⟨_, rfl, by decide, .inr ⟨"ThirstPay", mwn 116 _ (by decide +kernel) rfl⟩⟩
theorem fs_X7_97 : FS RX7 97 0 5 := ⟨_, rfl, by decide, .inr ⟨"ThirstPay", mwn 119 _ (by decide +kernel) rfl⟩⟩
theorem fs_X7_100 : FS RX7 100 6 6 := ⟨_, rfl, by decide, .inr ⟨"ThirstPay", mwn 172 _ (by decide +kernel) rfl⟩⟩
theorem lk_X7_103 : LK RX7 103 yX6_growthOf := .inl (mw 373 _ (by decide +kernel) rfl)
theorem lk_X7_107 : LK RX7 107 yX6_payOf := .inl (mw 409 _ (by decide +kernel) rfl)
theorem lk_X7_111 : LK RX7 111 yX0_beOfKind := .inl (mw 421 _ (by decide +kernel) rfl)
theorem lk_X7_115 : LK RX7 115 yX7_isOrUnder := .inl (mw 426 _ (by decide +kernel) rfl)
theorem fs_X7_119 : FS RX7 119 6 4 := ⟨_, rfl, by decide, .inr ⟨"ThirstPay", mwn 166 _ (by decide +kernel) rfl⟩⟩
theorem fs_X7_122 : FS RX7 122 6 2 := ⟨_, rfl, by decide, .inr ⟨"ThirstPay", mwn 161 _ (by decide +kernel) rfl⟩⟩
theorem fs_X7_125 : FS RX7 125 6 3 := ⟨_, rfl, by decide, .inr ⟨"ThirstPay", mwn 164 _ (by decide +kernel) rfl⟩⟩
theorem lk_X7_128 : LK RX7 128 yX7_isCarrier := .inl (mw 450 _ (by decide +kernel) rfl)
theorem lk_X7_131 : LK RX7 131 yX7_isPool := .inl (mw 458 _ (by decide +kernel) rfl)
theorem fs_X7_134 : FS RX7 134 6 5 := ⟨_, rfl, by decide, .inr ⟨"ThirstPay", mwn 169 _ (by decide +kernel) rfl⟩⟩
theorem lk_X7_137 : LK RX7 137 yX6_allFarms := .inl (mw 469 _ (by decide +kernel) rfl)
theorem lk_X7_141 : LK RX7 141 yX6_mayBeCarried := .inl (mw 473 _ (by decide +kernel) rfl)
theorem lk_X7_144 : LK RX7 144 yX6_beCarried := .inl (mw 481 _ (by decide +kernel) rfl)
theorem fs_X7_148 : FS RX7 148 6 10 := ⟨_, rfl, by decide, .inr ⟨"ThirstPay", mwn 180 _ (by decide +kernel) rfl⟩⟩
theorem fs_X7_151 : FS RX7 151 6 9 := ⟨_, rfl, by decide, .inr ⟨"ThirstPay", mwn 178 _ (by decide +kernel) rfl⟩⟩
theorem lk_X7_155 : LK RX7 155 yX7_isUse := .inl (mw 499 _ (by decide +kernel) rfl)
theorem lk_X7_158 : LK RX7 158 yX7_namesOf := .inl (mw 502 _ (by decide +kernel) rfl)
theorem lk_X7_162 : LK RX7 162 yX1_faultOf := .inl (mw 507 _ (by decide +kernel) rfl)
theorem fs_X7_166 : FS RX7 166 6 11 := ⟨_, rfl, by decide, .inr ⟨"ThirstPay", mwn 182 _ (by decide +kernel) rfl⟩⟩
theorem fs_X7_170 : FS RX7 170 1 0 := ⟨_, rfl, by decide, .inr ⟨"ThirstPay", mwn 251 _ (by decide +kernel) rfl⟩⟩
theorem lk_X7_174 : LK RX7 174 yX3_copyFrom := .inl (mw 629 _ (by decide +kernel) rfl)
theorem lk_X7_180 : LK RX7 180 yX3_isThere := .inl (mw 640 _ (by decide +kernel) rfl)
theorem lk_X7_184 : LK RX7 184 yX3_clear := .inl (mw 641 _ (by decide +kernel) rfl)
theorem lk_X7_187 : LK RX7 187 yX6_given := .inl (mw 646 _ (by decide +kernel) rfl)
theorem lk_X7_191 : LK RX7 191 yX6_goOnAnHour := .inl (mw 651 _ (by decide +kernel) rfl)
theorem fs_X7_194 : FS RX7 194 6 7 := ⟨_, rfl, by decide, .inr ⟨"ThirstPay", mwn 174 _ (by decide +kernel) rfl⟩⟩
theorem lk_X7_197 : LK RX7 197 yX6_carryByDraws := .inl (mw 660 _ (by decide +kernel) rfl)
theorem fs_X7_200 : FS RX7 200 6 8 := ⟨_, rfl, by decide, .inr ⟨"ThirstPay", mwn 176 _ (by decide +kernel) rfl⟩⟩
theorem lk_X7_203 : LK RX7 203 yX4_dryThen := .inl (mw 683 _ (by decide +kernel) rfl)
theorem lk_X7_207 : LK RX7 207 yX4_hoursUntilAbove := .inl (mw 702 _ (by decide +kernel) rfl)
theorem lk_X7_210 : LK RX7 210 yX4_firstAbove := .inl (mw 710 _ (by decide +kernel) rfl)
theorem lk_X7_213 : LK RX7 213 yX4_bestSet := .inl (mw 715 _ (by decide +kernel) rfl)
theorem lk_X7_216 : LK RX7 216 yX6_payOfSet := .inl (mw 722 _ (by decide +kernel) rfl)
theorem lk_X7_219 : LK RX7 219 yX4_fewestCarriers := .inl (mw 727 _ (by decide +kernel) rfl)
theorem lk_X7_222 : LK RX7 222 yX4_carrierOf := .inl (mw 742 _ (by decide +kernel) rfl)
theorem lk_X7_225 : LK RX7 225 yX4_setsWithin := .inl (mw 750 _ (by decide +kernel) rfl)
theorem lk_X7_228 : LK RX7 228 yX7_commonDivisor := .inl (mw 754 _ (by decide +kernel) rfl)
theorem lk_X7_231 : LK RX7 231 yJ9_max_7cf53 := .inl (mw 757 _ (by decide +kernel) rfl)
theorem lk_X7_236 : LK RX7 236 yX4_setsOf := .inl (mw 762 _ (by decide +kernel) rfl)
theorem lk_X7_239 : LK RX7 239 yX4_leastSetOf := .inl (mw 766 _ (by decide +kernel) rfl)
theorem lk_X7_242 : LK RX7 242 yX7_isSheet := .inl (mw 774 _ (by decide +kernel) rfl)
theorem lk_X7_245 : LK RX7 245 yX2_isMissing := .inl (mw 777 _ (by decide +kernel) rfl)
theorem lk_X7_248 : LK RX7 248 yX4_hoursUntilAsTold := .inl (mw 781 _ (by decide +kernel) rfl)
theorem lk_X7_252 : LK RX7 252 yX5_answerOf := .inl (mw 793 _ (by decide +kernel) rfl)
theorem fs_X7_256 : FS RX7 256 5 2 := ⟨_, rfl, by decide, .inr ⟨"ThirstPay", mwn 278 _ (by decide +kernel) rfl⟩⟩
theorem fs_X7_260 : FS RX7 260 5 1 := ⟨_, rfl, by decide, .inr ⟨"ThirstPay", mwn 276 _ (by decide +kernel) rfl⟩⟩
theorem fs_X7_263 : FS RX7 263 5 0 := ⟨_, rfl, by decide, .inr ⟨"ThirstPay", mwn 274 _ (by decide +kernel) rfl⟩⟩
theorem lk_X7_266 : LK RX7 266 yX2_begin := .inl (mw 831 _ (by decide +kernel) rfl)
theorem fs_X7_269 : FS RX7 269 2 2 := ⟨_, rfl, by decide, .inr ⟨"ThirstPay", mwn 309 _ (by decide +kernel) rfl⟩⟩
theorem lk_X7_272 : LK RX7 272 yX2_write := .inl (mw 839 _ (by decide +kernel) rfl)
theorem fs_X7_275 : FS RX7 275 2 1 := ⟨_, rfl, by decide, .inr ⟨"ThirstPay", mwn 306 _ (by decide +kernel) rfl⟩⟩
theorem lk_X7_278 : LK RX7 278 yX2_hasRow := .inl (mw 848 _ (by decide +kernel) rfl)
theorem fs_X7_281 : FS RX7 281 2 0 := ⟨_, rfl, by decide, .inr ⟨"ThirstPay", mwn 304 _ (by decide +kernel) rfl⟩⟩
-- X7_284: ('java/lang/System', 'arraycopy', '(Ljava/lang/Object;ILjava/lang/Object;II)V')
theorem lk_X7_284 : Cond.methodLink RX7 284 arraycopyName ∈ lw_g := mw 852 _ (by decide +kernel) rfl
theorem lk_X7_290 : LK RX7 290 yJ9_min_7cf53 := .inl (mw 857 _ (by decide +kernel) rfl)
theorem lk_X7_293 : LK RX7 293 yX6_copyFrom := .inl (mw 866 _ (by decide +kernel) rfl)
theorem fs_X7_295 : FS RX7 295 7 7 := ⟨_, rfl, by decide, .inl (mw 324 _ (by decide +kernel) rfl)⟩
theorem fs_X7_298 : FS RX7 298 6 13 := ⟨_, rfl, by decide, .inr ⟨"ThirstPay", mwn 186 _ (by decide +kernel) rfl⟩⟩
theorem fs_X7_301 : FS RX7 301 6 12 := ⟨_, rfl, by decide, .inr ⟨"ThirstPay", mwn 184 _ (by decide +kernel) rfl⟩⟩
theorem cn_X7_304 : Cond.constant RX7 304 (-1000000000) ∈ lw_g := mw 356 _ (by decide +kernel) rfl
theorem gs_X7_305 : Cond.fieldLink RX7 305 "ThirstPay" "KIND_ABOVE" "[I" ∈ lw_g := mw 432 _ (by decide +kernel) rfl
theorem lk_X7_308 : LK RX7 308 yX7_kindAbove := .inl (mw 429 _ (by decide +kernel) rfl)
-- X7_311: ('String', 'gdh')
-- X7_313: ('String', 'pds')
theorem fs_X8_7 : FS RX8 7 8 0 := ⟨_, rfl, by decide, .inl (mw 902 _ (by decide +kernel) rfl)⟩
theorem fs_X8_13 : FS RX8 13 8 1 := ⟨_, rfl, by decide, .inl (mw 903 _ (by decide +kernel) rfl)⟩
theorem fs_X8_16 : FS RX8 16 8 2 := ⟨_, rfl, by decide, .inl (mw 904 _ (by decide +kernel) rfl)⟩
theorem fs_X8_19 : FS RX8 19 8 4 := ⟨_, rfl, by decide, .inl (mw 906 _ (by decide +kernel) rfl)⟩
theorem fs_X8_22 : FS RX8 22 8 9 := ⟨_, rfl, by decide, .inl (mw 911 _ (by decide +kernel) rfl)⟩
theorem fs_X8_25 : FS RX8 25 8 10 := ⟨_, rfl, by decide, .inl (mw 912 _ (by decide +kernel) rfl)⟩
theorem fs_X8_28 : FS RX8 28 8 11 := ⟨_, rfl, by decide, .inl (mw 913 _ (by decide +kernel) rfl)⟩
theorem fs_X8_31 : FS RX8 31 8 12 := ⟨_, rfl, by decide, .inl (mw 914 _ (by decide +kernel) rfl)⟩
theorem fs_X8_34 : FS RX8 34 8 13 := ⟨_, rfl, by decide, .inl (mw 915 _ (by decide +kernel) rfl)⟩
theorem fs_X8_37 : FS RX8 37 8 14 := ⟨_, rfl, by decide, .inl (mw 916 _ (by decide +kernel) rfl)⟩
theorem fs_X8_40 : FS RX8 40 8 15 := ⟨_, rfl, by decide, .inl (mw 917 _ (by decide +kernel) rfl)⟩
theorem fs_X8_43 : FS RX8 43 8 18 := ⟨_, rfl, by decide, .inl (mw 920 _ (by decide +kernel) rfl)⟩
theorem fs_X8_46 : FS RX8 46 8 21 := ⟨_, rfl, by decide, .inl (mw 923 _ (by decide +kernel) rfl)⟩
theorem fs_X8_49 : FS RX8 49 8 22 := ⟨_, rfl, by decide, .inl (mw 924 _ (by decide +kernel) rfl)⟩
theorem fs_X8_52 : FS RX8 52 8 23 := ⟨_, rfl, by decide, .inl (mw 925 _ (by decide +kernel) rfl)⟩
theorem fs_X8_55 : FS RX8 55 8 24 := ⟨_, rfl, by decide, .inl (mw 926 _ (by decide +kernel) rfl)⟩
theorem cn_X8_58 : Cond.constant RX8 58 (-1000000000) ∈ lw_g := mw 989 _ (by decide +kernel) rfl
theorem lk_X8_59 : LK RX8 59 yX8_in := .inl (mw 982 _ (by decide +kernel) rfl)
theorem lk_X8_63 : LK RX8 63 yX8_error := .inl (mw 985 _ (by decide +kernel) rfl)
theorem cn_X8_67 : Cond.constantLong RX8 67 255 ∈ lw_g := mw 990 _ (by decide +kernel) rfl
theorem fs_X8_69 : FS RX8 69 8 5 := ⟨_, rfl, by decide, .inl (mw 907 _ (by decide +kernel) rfl)⟩
theorem fs_X8_73 : FS RX8 73 8 8 := ⟨_, rfl, by decide, .inl (mw 910 _ (by decide +kernel) rfl)⟩
theorem fs_X8_76 : FS RX8 76 8 7 := ⟨_, rfl, by decide, .inl (mw 909 _ (by decide +kernel) rfl)⟩
theorem lk_X8_79 : LK RX8 79 yX8_both := .inl (mw 999 _ (by decide +kernel) rfl)
theorem lk_X8_83 : LK RX8 83 yX8_look := .inl (mw 1019 _ (by decide +kernel) rfl)
theorem lk_X8_87 : LK RX8 87 yX8_step1 := .inl (mw 1027 _ (by decide +kernel) rfl)
theorem lk_X8_91 : LK RX8 91 yX8_compared := .inl (mw 1003 _ (by decide +kernel) rfl)
theorem lk_X8_94 : LK RX8 94 yX8_sum := .inl (mw 1007 _ (by decide +kernel) rfl)
theorem lk_X8_97 : LK RX8 97 yX8_product := .inl (mw 1011 _ (by decide +kernel) rfl)
theorem lk_X8_100 : LK RX8 100 yX8_one := .inl (mw 1015 _ (by decide +kernel) rfl)
theorem fs_X8_103 : FS RX8 103 8 6 := ⟨_, rfl, by decide, .inl (mw 908 _ (by decide +kernel) rfl)⟩
theorem lk_X8_106 : LK RX8 106 yX8_isName := .inl (mw 1023 _ (by decide +kernel) rfl)
theorem lk_X8_110 : LK RX8 110 yX8_opens := .inl (mw 1031 _ (by decide +kernel) rfl)
theorem lk_X8_113 : LK RX8 113 yX8_whole := .inl (mw 995 _ (by decide +kernel) rfl)
theorem lk_X8_116 : LK RX8 116 yX8_hasText := .inl (mw 1039 _ (by decide +kernel) rfl)
theorem lk_X8_119 : LK RX8 119 yX8_joined := .inl (mw 1082 _ (by decide +kernel) rfl)
theorem lk_X8_123 : LK RX8 123 yX8_its := .inl (mw 1062 _ (by decide +kernel) rfl)
theorem lk_X8_127 : LK RX8 127 yX8_worked := .inl (mw 1078 _ (by decide +kernel) rfl)
theorem lk_X8_130 : LK RX8 130 yX8_held := .inl (mw 1085 _ (by decide +kernel) rfl)
theorem lk_X8_133 : LK RX8 133 yX8_growsOf := .inl (mw 1070 _ (by decide +kernel) rfl)
theorem lk_X8_136 : LK RX8 136 yX8_growthTold := .inl (mw 1074 _ (by decide +kernel) rfl)
theorem lk_X8_139 : LK RX8 139 yX8_paysOf := .inl (mw 1092 _ (by decide +kernel) rfl)
theorem lk_X8_142 : LK RX8 142 yX8_payTold := .inl (mw 1096 _ (by decide +kernel) rfl)
theorem lk_X8_145 : LK RX8 145 yX8_growthOf := .inl (mw 1066 _ (by decide +kernel) rfl)
theorem cn_X8_148 : Cond.constant RX8 148 99999 ∈ lw_g := mw 1163 _ (by decide +kernel) rfl
theorem lk_X8_149 : LK RX8 149 yX8_lays1 := .inl (mw 1050 _ (by decide +kernel) rfl)
theorem cn_X8_153 : Cond.constant RX8 153 1103515245 ∈ lw_g := mw 1192 _ (by decide +kernel) rfl
theorem lk_X8_154 : LK RX8 154 yX8_dryOf := .inl (mw 1151 _ (by decide +kernel) rfl)
theorem lk_X8_157 : LK RX8 157 yX8_belly := .inl (mw 1155 _ (by decide +kernel) rfl)
theorem lk_X8_160 : LK RX8 160 yX8_payOf := .inl (mw 1088 _ (by decide +kernel) rfl)
theorem lk_X8_163 : LK RX8 163 yX8_isKind := .inl (mw 1047 _ (by decide +kernel) rfl)
theorem lk_X8_166 : LK RX8 166 yX8_isFarm := .inl (mw 1058 _ (by decide +kernel) rfl)
theorem lk_X8_169 : LK RX8 169 yX8_change1 := .inl (mw 1104 _ (by decide +kernel) rfl)
theorem lk_X8_172 : LK RX8 172 yX8_above := .inl (mw 1112 _ (by decide +kernel) rfl)
theorem lk_X8_175 : LK RX8 175 yX8_isCarrier := .inl (mw 1131 _ (by decide +kernel) rfl)
theorem lk_X8_178 : LK RX8 178 yX8_mayCarry := .inl (mw 1147 _ (by decide +kernel) rfl)
theorem lk_X8_181 : LK RX8 181 yX8_carries := .inl (mw 1159 _ (by decide +kernel) rfl)
theorem lk_X8_184 : LK RX8 184 yX8_whyNot := .inl (mw 1172 _ (by decide +kernel) rfl)
theorem lk_X8_187 : LK RX8 187 yX8_anHour := .inl (mw 1176 _ (by decide +kernel) rfl)
theorem lk_X8_190 : LK RX8 190 yX8_draw := .inl (mw 1188 _ (by decide +kernel) rfl)
theorem lk_X8_193 : LK RX8 193 yX8_errand := .inl (mw 1184 _ (by decide +kernel) rfl)
theorem lk_X8_196 : LK RX8 196 yX8_layDown := .inl (mw 1205 _ (by decide +kernel) rfl)
theorem lk_X8_199 : LK RX8 199 yX8_layBack := .inl (mw 1209 _ (by decide +kernel) rfl)
theorem lk_X8_202 : LK RX8 202 yX8_drier := .inl (mw 1217 _ (by decide +kernel) rfl)
theorem fs_X8_205 : FS RX8 205 8 16 := ⟨_, rfl, by decide, .inl (mw 918 _ (by decide +kernel) rfl)⟩
theorem lk_X8_208 : LK RX8 208 yX8_goes := .inl (mw 1229 _ (by decide +kernel) rfl)
theorem lk_X8_211 : LK RX8 211 yX8_divisor := .inl (mw 1237 _ (by decide +kernel) rfl)
theorem lk_X8_214 : LK RX8 214 yX8_lacks := .inl (mw 1248 _ (by decide +kernel) rfl)
theorem lk_X8_217 : LK RX8 217 yX8_areDrySo := .inl (mw 1255 _ (by decide +kernel) rfl)
theorem fs_X8_220 : FS RX8 220 8 17 := ⟨_, rfl, by decide, .inl (mw 919 _ (by decide +kernel) rfl)⟩
theorem fs_X8_223 : FS RX8 223 8 19 := ⟨_, rfl, by decide, .inl (mw 921 _ (by decide +kernel) rfl)⟩
theorem lk_X8_226 : LK RX8 226 yX8_starts := .inl (mw 1271 _ (by decide +kernel) rfl)
theorem lk_X8_230 : LK RX8 230 yX8_gulpsAs := .inl (mw 1267 _ (by decide +kernel) rfl)
theorem lk_X8_233 : LK RX8 233 yX8_kindNow := .inl (mw 1263 _ (by decide +kernel) rfl)
theorem lk_X8_236 : LK RX8 236 yX8_sipsAs := .inl (mw 1275 _ (by decide +kernel) rfl)
theorem lk_X8_239 : LK RX8 239 yX8_mNow := .inl (mw 1279 _ (by decide +kernel) rfl)
theorem lk_X8_242 : LK RX8 242 yX8_sighsAs := .inl (mw 1283 _ (by decide +kernel) rfl)
theorem fs_X8_245 : FS RX8 245 8 20 := ⟨_, rfl, by decide, .inl (mw 922 _ (by decide +kernel) rfl)⟩
theorem lk_X8_249 : LK RX8 249 yX8_partsAs := .inl (mw 1287 _ (by decide +kernel) rfl)
theorem lk_X8_252 : LK RX8 252 yX8_isSheet := .inl (mw 1252 _ (by decide +kernel) rfl)
theorem lk_X8_255 : LK RX8 255 yX8_copyAll := .inl (mw 1319 _ (by decide +kernel) rfl)
theorem fs_X8_259 : FS RX8 259 8 3 := ⟨_, rfl, by decide, .inl (mw 905 _ (by decide +kernel) rfl)⟩
theorem cn_J6_265 : Cond.constant RJ6 265 1431655765 ∈ lw_g := mw 739 _ (by decide +kernel) rfl
theorem cn_J6_266 : Cond.constant RJ6 266 858993459 ∈ lw_g := mw 740 _ (by decide +kernel) rfl
theorem cn_J6_267 : Cond.constant RJ6 267 252645135 ∈ lw_g := mw 741 _ (by decide +kernel) rfl
-- J0_9: ('java/lang/String', 'value', '[B')
theorem lk_J0_335 : LK RJ0 335 yJ0_coder_7d493 := .inl (mw 554 _ (by decide +kernel) rfl)
theorem lk_J0_633 : LK RJ0 633 yJ0_indexOf_7cf53 := .inl (mw 540 _ (by decide +kernel) rfl)
theorem lk_J0_492 : LK RJ0 492 yJ0_isLatin1_aae02 := .inl (mw 544 _ (by decide +kernel) rfl)
theorem lk_J0_505 : LK RJ0 505 yJ0_length_8abf5 := .inl (mw 550 _ (by decide +kernel) rfl)
theorem lk_J0_637 : LK RJ0 637 yJ1_indexOf_4cfef := .inl (mw 558 _ (by decide +kernel) rfl)
theorem lk_J0_640 : LK RJ0 640 yJ2_indexOf_4cfef := .inl (mw 569 _ (by decide +kernel) rfl)
theorem gs_J0_38 : Cond.fieldLink RJ0 38 "java/lang/String" "COMPACT_STRINGS" "Z" ∈ lw_g := mw 548 _ (by decide +kernel) rfl
-- J0_15: ('java/lang/String', 'coder', 'B')
theorem gs_J0_1053 : Cond.fieldLink RJ0 1053 "jdk/internal/util/Preconditions" "SIOOBE_FORMATTER" "Ljava/util/function/BiFunction;" ∈ lw_g := mw 587 _ (by decide +kernel) rfl
theorem lk_J0_1062 : LK RJ0 1062 yJ3_checkFromToIndex_8c36e := .inl (mw 589 _ (by decide +kernel) rfl)
theorem lk_J1_88 : LK RJ1 88 yJ1_canEncode_9a6ad := .inl (mw 561 _ (by decide +kernel) rfl)
theorem lk_J1_92 : LK RJ1 92 yJ9_max_7cf53 := .inl (mw 564 _ (by decide +kernel) rfl)
theorem lk_J1_38 : LK RJ1 38 yJ9_min_7cf53 := .inl (mw 565 _ (by decide +kernel) rfl)
theorem lk_J1_95 : LK RJ1 95 yJ1_indexOfChar_4cfef := .inl (mw 566 _ (by decide +kernel) rfl)
theorem lk_L_13 : LK RL 13 yX7_farm := .inl (mw 342 _ (by decide +kernel) rfl)
theorem lk_L_17 : LK RL 17 yX8_farm := .inl (mw 1043 _ (by decide +kernel) rfl)
theorem lk_L_18 : LK RL 18 yX7_farmIs := .inl (mw 365 _ (by decide +kernel) rfl)
theorem lk_L_22 : LK RL 22 yX8_farmIs := .inl (mw 1054 _ (by decide +kernel) rfl)
theorem lk_L_23 : LK RL 23 yX7_become := .inl (mw 417 _ (by decide +kernel) rfl)
theorem lk_L_26 : LK RL 26 yX8_become := .inl (mw 1100 _ (by decide +kernel) rfl)
theorem lk_L_27 : LK RL 27 yX7_as := .inl (mw 422 _ (by decide +kernel) rfl)
theorem lk_L_30 : LK RL 30 yX8_as := .inl (mw 1108 _ (by decide +kernel) rfl)
theorem lk_L_31 : LK RL 31 yX7_parch := .inl (mw 434 _ (by decide +kernel) rfl)
theorem lk_L_34 : LK RL 34 yX8_parch := .inl (mw 1115 _ (by decide +kernel) rfl)
theorem lk_L_35 : LK RL 35 yX7_graze := .inl (mw 438 _ (by decide +kernel) rfl)
theorem lk_L_38 : LK RL 38 yX8_graze := .inl (mw 1119 _ (by decide +kernel) rfl)
theorem lk_L_39 : LK RL 39 yX7_carrier := .inl (mw 442 _ (by decide +kernel) rfl)
theorem lk_L_43 : LK RL 43 yX8_carrier := .inl (mw 1123 _ (by decide +kernel) rfl)
theorem lk_L_44 : LK RL 44 yX7_carrierIs := .inl (mw 446 _ (by decide +kernel) rfl)
theorem lk_L_47 : LK RL 47 yX8_carrierIs := .inl (mw 1127 _ (by decide +kernel) rfl)
theorem lk_L_48 : LK RL 48 yX7_pool := .inl (mw 454 _ (by decide +kernel) rfl)
theorem lk_L_51 : LK RL 51 yX8_pool := .inl (mw 1135 _ (by decide +kernel) rfl)
theorem lk_L_52 : LK RL 52 yX7_swap := .inl (mw 461 _ (by decide +kernel) rfl)
theorem lk_L_55 : LK RL 55 yX8_swap := .inl (mw 1139 _ (by decide +kernel) rfl)
theorem lk_L_56 : LK RL 56 yX7_carry := .inl (mw 465 _ (by decide +kernel) rfl)
theorem lk_L_59 : LK RL 59 yX8_carry := .inl (mw 1143 _ (by decide +kernel) rfl)
theorem cn_L_60 : Cond.constantLong RL 60 4294967295 ∈ lw_g := mw 1342 _ (by decide +kernel) rfl
theorem lk_L_62 : LK RL 62 yX7_feed := .inl (mw 491 _ (by decide +kernel) rfl)
theorem lk_L_66 : LK RL 66 yX8_feed := .inl (mw 978 _ (by decide +kernel) rfl)
theorem lk_L_67 : LK RL 67 yX7_text := .inl (mw 495 _ (by decide +kernel) rfl)
theorem lk_L_70 : LK RL 70 yX8_text := .inl (mw 991 _ (by decide +kernel) rfl)
theorem lk_L_71 : LK RL 71 yX7_untell := .inl (mw 636 _ (by decide +kernel) rfl)
theorem lk_L_74 : LK RL 74 yX8_untell := .inl (mw 1035 _ (by decide +kernel) rfl)
theorem lk_L_75 : LK RL 75 yX7_law := .inl (mw 642 _ (by decide +kernel) rfl)
theorem lk_L_79 : LK RL 79 yX8_law := .inl (mw 1164 _ (by decide +kernel) rfl)
theorem lk_L_80 : LK RL 80 yX7_hours := .inl (mw 647 _ (by decide +kernel) rfl)
theorem lk_L_83 : LK RL 83 yX8_hours := .inl (mw 1168 _ (by decide +kernel) rfl)
theorem lk_L_84 : LK RL 84 yX7_loose := .inl (mw 656 _ (by decide +kernel) rfl)
theorem lk_L_87 : LK RL 87 yX8_loose := .inl (mw 1180 _ (by decide +kernel) rfl)
theorem lk_L_88 : LK RL 88 yX7_hour := .inl (mw 671 _ (by decide +kernel) rfl)
theorem lk_L_91 : LK RL 91 yX8_hour := .inl (mw 1193 _ (by decide +kernel) rfl)
theorem lk_L_92 : LK RL 92 yX7_seed := .inl (mw 675 _ (by decide +kernel) rfl)
theorem lk_L_95 : LK RL 95 yX8_seed := .inl (mw 1197 _ (by decide +kernel) rfl)
theorem lk_L_96 : LK RL 96 yX7_then := .inl (mw 679 _ (by decide +kernel) rfl)
theorem lk_L_99 : LK RL 99 yX8_then := .inl (mw 1201 _ (by decide +kernel) rfl)
theorem lk_L_100 : LK RL 100 yX7_first := .inl (mw 698 _ (by decide +kernel) rfl)
theorem lk_L_103 : LK RL 103 yX8_first := .inl (mw 1213 _ (by decide +kernel) rfl)
theorem lk_L_104 : LK RL 104 yX7_round := .inl (mw 711 _ (by decide +kernel) rfl)
theorem lk_L_107 : LK RL 107 yX8_round := .inl (mw 1221 _ (by decide +kernel) rfl)
theorem lk_L_108 : LK RL 108 yX7_fewest := .inl (mw 723 _ (by decide +kernel) rfl)
theorem lk_L_111 : LK RL 111 yX8_fewest := .inl (mw 1225 _ (by decide +kernel) rfl)
theorem lk_L_112 : LK RL 112 yX7_odds := .inl (mw 746 _ (by decide +kernel) rfl)
theorem lk_L_115 : LK RL 115 yX8_odds := .inl (mw 1233 _ (by decide +kernel) rfl)
theorem lk_L_116 : LK RL 116 yX7_whose := .inl (mw 758 _ (by decide +kernel) rfl)
theorem lk_L_119 : LK RL 119 yX8_whose := .inl (mw 1240 _ (by decide +kernel) rfl)
theorem lk_L_120 : LK RL 120 yX7_fits := .inl (mw 770 _ (by decide +kernel) rfl)
theorem lk_L_123 : LK RL 123 yX8_fits := .inl (mw 1244 _ (by decide +kernel) rfl)
theorem lk_L_124 : LK RL 124 yX7_voice := .inl (mw 789 _ (by decide +kernel) rfl)
theorem lk_L_127 : LK RL 127 yX8_voice := .inl (mw 1259 _ (by decide +kernel) rfl)
theorem lk_L_128 : LK RL 128 yX7_body := .inl (mw 823 _ (by decide +kernel) rfl)
theorem lk_L_131 : LK RL 131 yX8_body := .inl (mw 1291 _ (by decide +kernel) rfl)
theorem lk_L_132 : LK RL 132 yX7_sheet := .inl (mw 827 _ (by decide +kernel) rfl)
theorem lk_L_135 : LK RL 135 yX8_sheet := .inl (mw 1295 _ (by decide +kernel) rfl)
theorem lk_L_136 : LK RL 136 yX7_put := .inl (mw 835 _ (by decide +kernel) rfl)
theorem lk_L_139 : LK RL 139 yX8_put := .inl (mw 1299 _ (by decide +kernel) rfl)
theorem lk_L_140 : LK RL 140 yX7_move := .inl (mw 844 _ (by decide +kernel) rfl)
theorem lk_L_144 : LK RL 144 yX8_move := .inl (mw 1303 _ (by decide +kernel) rfl)
theorem lk_L_145 : LK RL 145 yX7_parches := .inl (mw 853 _ (by decide +kernel) rfl)
theorem lk_L_148 : LK RL 148 yX8_parches := .inl (mw 1307 _ (by decide +kernel) rfl)
theorem lk_L_149 : LK RL 149 yX7_judge := .inl (mw 858 _ (by decide +kernel) rfl)
theorem lk_L_152 : LK RL 152 yX8_judge := .inl (mw 1311 _ (by decide +kernel) rfl)
theorem lk_L_153 : LK RL 153 yX7_image := .inl (mw 862 _ (by decide +kernel) rfl)
theorem lk_L_157 : LK RL 157 yX8_image := .inl (mw 1315 _ (by decide +kernel) rfl)
theorem lk_L_158 : LK RL 158 yX7_restore := .inl (mw 876 _ (by decide +kernel) rfl)
theorem lk_L_161 : LK RL 161 yX8_restore := .inl (mw 1322 _ (by decide +kernel) rfl)
theorem lk_L_162 : LK RL 162 yX7_tell := .inl (mw 880 _ (by decide +kernel) rfl)
theorem lk_L_165 : LK RL 165 yX8_tell := .inl (mw 1326 _ (by decide +kernel) rfl)
theorem lk_L_166 : LK RL 166 yX7_check := .inl (mw 884 _ (by decide +kernel) rfl)
theorem lk_L_169 : LK RL 169 yX8_check := .inl (mw 1330 _ (by decide +kernel) rfl)
theorem lk_L_170 : LK RL 170 yX7_count := .inl (mw 888 _ (by decide +kernel) rfl)
theorem lk_L_173 : LK RL 173 yX8_count := .inl (mw 1334 _ (by decide +kernel) rfl)
theorem lk_L_174 : LK RL 174 yX7_told := .inl (mw 892 _ (by decide +kernel) rfl)
theorem lk_L_177 : LK RL 177 yX8_told := .inl (mw 1338 _ (by decide +kernel) rfl)
-- max [408] 407
theorem ma_max_s : Cond.static Lib.Math.max.name ∈ lw_g := mw 407 _ (by decide +kernel) rfl
theorem ma_max_c : Cond.code Lib.Math.max.name Lib.Math.max.code 2 (some .int) ∈ lw_g := mw 408 _ (by decide +kernel) rfl
-- min [405] 404
theorem ma_min_s : Cond.static Lib.Math.min.name ∈ lw_g := mw 404 _ (by decide +kernel) rfl
theorem ma_min_c : Cond.code Lib.Math.min.name Lib.Math.min.code 2 (some .int) ∈ lw_g := mw 405 _ (by decide +kernel) rfl
theorem ma_i : Cond.initialized "java/lang/Math" ∈ lw_g := mw 72 _ (by decide +kernel) rfl
theorem ac_n : Cond.native arraycopyName ∈ lw_g := mw 635 _ (by decide +kernel) rfl
theorem ac_s : Cond.static arraycopyName ∈ lw_g := mw 634 _ (by decide +kernel) rfl
theorem ac_i : Cond.initialized "java/lang/System" ∈ lw_g := mw 78 _ (by decide +kernel) rfl
theorem fp_0_0 : FP 0 0 .int := ⟨_, rfl, rfl, by decide +kernel⟩
theorem fp_0_1 : FP 0 1 .int := ⟨_, rfl, rfl, by decide +kernel⟩
theorem fp_0_2 : FP 0 2 .int := ⟨_, rfl, rfl, by decide +kernel⟩
theorem fp_0_3 : FP 0 3 .int := ⟨_, rfl, rfl, by decide +kernel⟩
theorem fp_0_4 : FP 0 4 .int := ⟨_, rfl, rfl, by decide +kernel⟩
theorem fp_0_5 : FP 0 5 .int := ⟨_, rfl, rfl, by decide +kernel⟩
theorem fp_1_2 : FP 1 2 .int := ⟨_, rfl, rfl, by decide +kernel⟩
theorem fp_1_3 : FP 1 3 .int := ⟨_, rfl, rfl, by decide +kernel⟩
theorem fp_1_4 : FP 1 4 (.object "java/lang/String") := ⟨_, rfl, rfl, by decide +kernel⟩
theorem fp_2_1 : FP 2 1 .int := ⟨_, rfl, rfl, by decide +kernel⟩
theorem fp_2_2 : FP 2 2 .int := ⟨_, rfl, rfl, by decide +kernel⟩
theorem fp_3_3 : FP 3 3 .int := ⟨_, rfl, rfl, by decide +kernel⟩
theorem fp_4_5 : FP 4 5 .int := ⟨_, rfl, rfl, by decide +kernel⟩
theorem fp_5_1 : FP 5 1 .int := ⟨_, rfl, rfl, by decide +kernel⟩
theorem fp_5_2 : FP 5 2 .boolean := ⟨_, rfl, rfl, by decide +kernel⟩
theorem fp_5_3 : FP 5 3 .int := ⟨_, rfl, rfl, by decide +kernel⟩
theorem fp_5_4 : FP 5 4 .int := ⟨_, rfl, rfl, by decide +kernel⟩
theorem fp_5_5 : FP 5 5 .int := ⟨_, rfl, rfl, by decide +kernel⟩
theorem fp_6_1 : FP 6 1 .int := ⟨_, rfl, rfl, by decide +kernel⟩
theorem fp_6_4 : FP 6 4 .int := ⟨_, rfl, rfl, by decide +kernel⟩
theorem fp_6_6 : FP 6 6 .int := ⟨_, rfl, rfl, by decide +kernel⟩
theorem fp_6_7 : FP 6 7 .int := ⟨_, rfl, rfl, by decide +kernel⟩
theorem fp_6_8 : FP 6 8 .int := ⟨_, rfl, rfl, by decide +kernel⟩
theorem fp_6_10 : FP 6 10 .int := ⟨_, rfl, rfl, by decide +kernel⟩
theorem fp_6_13 : FP 6 13 .int := ⟨_, rfl, rfl, by decide +kernel⟩
theorem fp_7_7 : FP 7 7 .int := ⟨_, rfl, rfl, by decide +kernel⟩
theorem fp_8_3 : FP 8 3 .int := ⟨_, rfl, rfl, by decide +kernel⟩
theorem fp_8_5 : FP 8 5 .int := ⟨_, rfl, rfl, by decide +kernel⟩
theorem fp_8_6 : FP 8 6 .int := ⟨_, rfl, rfl, by decide +kernel⟩
theorem fp_8_7 : FP 8 7 .int := ⟨_, rfl, rfl, by decide +kernel⟩
theorem fp_8_8 : FP 8 8 .int := ⟨_, rfl, rfl, by decide +kernel⟩
theorem fp_8_16 : FP 8 16 .int := ⟨_, rfl, rfl, by decide +kernel⟩
theorem fp_8_17 : FP 8 17 .int := ⟨_, rfl, rfl, by decide +kernel⟩
theorem fp_8_19 : FP 8 19 .int := ⟨_, rfl, rfl, by decide +kernel⟩
theorem fp_8_20 : FP 8 20 .boolean := ⟨_, rfl, rfl, by decide +kernel⟩
theorem ob_0 : OB 0 RX7 := .inl ⟨7, _, rfl, rfl, rfl⟩
theorem ob_3 : OB 3 RX4 := .inl ⟨4, _, rfl, rfl, rfl⟩
theorem ob_8 : OB 8 RX6 := .inl ⟨6, _, rfl, rfl, rfl⟩
theorem ob_16 : OB 16 RX0 := .inl ⟨0, _, rfl, rfl, rfl⟩
theorem ob_17 : OB 17 RX0 := .inl ⟨0, _, rfl, rfl, rfl⟩
theorem ob_18 : OB 18 RX0 := .inl ⟨0, _, rfl, rfl, rfl⟩
theorem ob_19 : OB 19 RX0 := .inl ⟨0, _, rfl, rfl, rfl⟩
theorem ob_20 : OB 20 RX0 := .inl ⟨0, _, rfl, rfl, rfl⟩
theorem ob_21 : OB 21 RX0 := .inl ⟨0, _, rfl, rfl, rfl⟩
theorem ob_22 : OB 22 RX0 := .inl ⟨0, _, rfl, rfl, rfl⟩
theorem ob_23 : OB 23 RX3 := .inl ⟨3, _, rfl, rfl, rfl⟩
theorem ob_27 : OB 27 RX3 := .inl ⟨3, _, rfl, rfl, rfl⟩
theorem ob_31 : OB 31 RX6 := .inl ⟨6, _, rfl, rfl, rfl⟩
theorem ob_39 : OB 39 RX0 := .inl ⟨0, _, rfl, rfl, rfl⟩
theorem ob_40 : OB 40 RX0 := .inl ⟨0, _, rfl, rfl, rfl⟩
theorem ob_41 : OB 41 RX0 := .inl ⟨0, _, rfl, rfl, rfl⟩
theorem ob_42 : OB 42 RX0 := .inl ⟨0, _, rfl, rfl, rfl⟩
theorem ob_43 : OB 43 RX0 := .inl ⟨0, _, rfl, rfl, rfl⟩
theorem ob_44 : OB 44 RX0 := .inl ⟨0, _, rfl, rfl, rfl⟩
theorem ob_45 : OB 45 RX0 := .inl ⟨0, _, rfl, rfl, rfl⟩
theorem ob_46 : OB 46 RX3 := .inl ⟨3, _, rfl, rfl, rfl⟩
theorem ob_50 : OB 50 RX3 := .inl ⟨3, _, rfl, rfl, rfl⟩
theorem ob_54 : OB 54 RX1 := .inl ⟨1, _, rfl, rfl, rfl⟩
theorem ob_56 : OB 56 RX3 := .inl ⟨3, _, rfl, rfl, rfl⟩
theorem ob_60 : OB 60 RX5 := .inl ⟨5, _, rfl, rfl, rfl⟩
theorem ob_62 : OB 62 RX2 := .inl ⟨2, _, rfl, rfl, rfl⟩
theorem ob_64 : OB 64 RX2 := .inl ⟨2, _, rfl, rfl, rfl⟩
theorem ob_66 : OB 66 RX2 := .inl ⟨2, _, rfl, rfl, rfl⟩
theorem ob_68 : OB 68 RX2 := .inl ⟨2, _, rfl, rfl, rfl⟩
theorem ob_70 : OB 70 RX8 := .inl ⟨8, _, rfl, rfl, rfl⟩
theorem ob_s (i : Nat) (hi : i < 3) : OB (100 + i) RJ0 := .inr ⟨i, hi, rfl, rfl⟩

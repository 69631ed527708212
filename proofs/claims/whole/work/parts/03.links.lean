/-! methods and their links, by program -/
abbrev M_X0_init : rn_M := (yX0_init, cX0_init, 1, none)
theorem mo_X0_init : rn_mok M_X0_init 0 := ⟨⟨by decide +kernel, by decide +kernel, by decide +kernel⟩, by decide, plainFor_of_name (by decide +kernel)⟩
theorem mc_X0_init : Cond.code yX0_init cX0_init 1 (none) ∈ rn_WS := rn_ws 328 (by decide +kernel) rfl
abbrev M_X0_begin : rn_M := (yX0_begin, cX0_begin, 5, some .int)
theorem mo_X0_begin : rn_mok M_X0_begin 4 := ⟨⟨by decide +kernel, by decide +kernel, by decide +kernel⟩, by decide, plainFor_of_name (by decide +kernel)⟩
theorem mc_X0_begin : Cond.code yX0_begin cX0_begin 5 (some .int) ∈ rn_WS := rn_ws 905 (by decide +kernel) rfl
abbrev M_X0_run : rn_M := (yX0_run, cX0_run, 6, some .int)
theorem mo_X0_run : rn_mok M_X0_run 4 := ⟨⟨by decide +kernel, by decide +kernel, by decide +kernel⟩, by decide, plainFor_of_name (by decide +kernel)⟩
theorem mc_X0_run : Cond.code yX0_run cX0_run 6 (some .int) ∈ rn_WS := rn_ws 909 (by decide +kernel) rfl
abbrev M_X0_answerOf : rn_M := (yX0_answerOf, cX0_answerOf, 4, some .int)
theorem mo_X0_answerOf : rn_mok M_X0_answerOf 3 := ⟨⟨by decide +kernel, by decide +kernel, by decide +kernel⟩, by decide, plainFor_of_name (by decide +kernel)⟩
theorem mc_X0_answerOf : Cond.code yX0_answerOf cX0_answerOf 4 (some .int) ∈ rn_WS := rn_ws 924 (by decide +kernel) rfl
abbrev M_X0_bodyOf : rn_M := (yX0_bodyOf, cX0_bodyOf, 4, some .int)
theorem mo_X0_bodyOf : rn_mok M_X0_bodyOf 2 := ⟨⟨by decide +kernel, by decide +kernel, by decide +kernel⟩, by decide, plainFor_of_name (by decide +kernel)⟩
theorem mc_X0_bodyOf : Cond.code yX0_bodyOf cX0_bodyOf 4 (some .int) ∈ rn_WS := rn_ws 912 (by decide +kernel) rfl
abbrev M_X0_keep : rn_M := (yX0_keep, cX0_keep, 2, none)
theorem mo_X0_keep : rn_mok M_X0_keep 1 := ⟨⟨by decide +kernel, by decide +kernel, by decide +kernel⟩, by decide, plainFor_of_name (by decide +kernel)⟩
theorem mc_X0_keep : Cond.code yX0_keep cX0_keep 2 (none) ∈ rn_WS := rn_ws 920 (by decide +kernel) rfl
abbrev M_X1_init : rn_M := (yX1_init, cX1_init, 1, none)
theorem mo_X1_init : rn_mok M_X1_init 0 := ⟨⟨by decide +kernel, by decide +kernel, by decide +kernel⟩, by decide, plainFor_of_name (by decide +kernel)⟩
theorem mc_X1_init : Cond.code yX1_init cX1_init 1 (none) ∈ rn_WS := rn_ws 122 (by decide +kernel) rfl
abbrev M_X1_empty : rn_M := (yX1_empty, cX1_empty, 1, none)
theorem mo_X1_empty : rn_mok M_X1_empty 0 := ⟨⟨by decide +kernel, by decide +kernel, by decide +kernel⟩, by decide, plainFor_of_name (by decide +kernel)⟩
theorem mc_X1_empty : Cond.code yX1_empty cX1_empty 1 (none) ∈ rn_WS := rn_ws 540 (by decide +kernel) rfl
abbrev M_X1_addCode : rn_M := (yX1_addCode, cX1_addCode, 2, none)
theorem mo_X1_addCode : rn_mok M_X1_addCode 1 := ⟨⟨by decide +kernel, by decide +kernel, by decide +kernel⟩, by decide, plainFor_of_name (by decide +kernel)⟩
theorem mc_X1_addCode : Cond.code yX1_addCode cX1_addCode 2 (none) ∈ rn_WS := rn_ws 697 (by decide +kernel) rfl
abbrev M_X1_earsBy : rn_M := (yX1_earsBy, cX1_earsBy, 7, some .int)
theorem mo_X1_earsBy : rn_mok M_X1_earsBy 1 := ⟨⟨by decide +kernel, by decide +kernel, by decide +kernel⟩, by decide, plainFor_of_name (by decide +kernel)⟩
theorem mc_X1_earsBy : Cond.code yX1_earsBy cX1_earsBy 7 (some .int) ∈ rn_WS := rn_ws 454 (by decide +kernel) rfl
abbrev M_X1_testHolds : rn_M := (yX1_testHolds, cX1_testHolds, 4, some .boolean)
theorem mo_X1_testHolds : rn_mok M_X1_testHolds 2 := ⟨⟨by decide +kernel, by decide +kernel, by decide +kernel⟩, by decide, plainFor_of_name (by decide +kernel)⟩
theorem mc_X1_testHolds : Cond.code yX1_testHolds cX1_testHolds 4 (some .boolean) ∈ rn_WS := rn_ws 457 (by decide +kernel) rfl
abbrev M_X2_init : rn_M := (yX2_init, cX2_init, 1, none)
theorem mo_X2_init : rn_mok M_X2_init 0 := ⟨⟨by decide +kernel, by decide +kernel, by decide +kernel⟩, by decide, plainFor_of_name (by decide +kernel)⟩
theorem mc_X2_init : Cond.code yX2_init cX2_init 1 (none) ∈ rn_WS := rn_ws 273 (by decide +kernel) rfl
abbrev M_X3_init : rn_M := (yX3_init, cX3_init, 2, none)
theorem mo_X3_init : rn_mok M_X3_init 0 := ⟨⟨by decide +kernel, by decide +kernel, by decide +kernel⟩, by decide, plainFor_of_name (by decide +kernel)⟩
theorem mc_X3_init : Cond.code yX3_init cX3_init 2 (none) ∈ rn_WS := rn_ws 114 (by decide +kernel) rfl
abbrev M_X3_copyFrom : rn_M := (yX3_copyFrom, cX3_copyFrom, 3, none)
theorem mo_X3_copyFrom : rn_mok M_X3_copyFrom 1 := ⟨⟨by decide +kernel, by decide +kernel, by decide +kernel⟩, by decide, plainFor_of_name (by decide +kernel)⟩
theorem mc_X3_copyFrom : Cond.code yX3_copyFrom cX3_copyFrom 3 (none) ∈ rn_WS := rn_ws 746 (by decide +kernel) rfl
abbrev M_X3_hasGate : rn_M := (yX3_hasGate, cX3_hasGate, 2, some .boolean)
theorem mo_X3_hasGate : rn_mok M_X3_hasGate 1 := ⟨⟨by decide +kernel, by decide +kernel, by decide +kernel⟩, by decide, plainFor_of_name (by decide +kernel)⟩
theorem mc_X3_hasGate : Cond.code yX3_hasGate cX3_hasGate 2 (some .boolean) ∈ rn_WS := rn_ws 500 (by decide +kernel) rfl
abbrev M_X3_hasPerson : rn_M := (yX3_hasPerson, cX3_hasPerson, 2, some .boolean)
theorem mo_X3_hasPerson : rn_mok M_X3_hasPerson 1 := ⟨⟨by decide +kernel, by decide +kernel, by decide +kernel⟩, by decide, plainFor_of_name (by decide +kernel)⟩
theorem mc_X3_hasPerson : Cond.code yX3_hasPerson cX3_hasPerson 2 (some .boolean) ∈ rn_WS := rn_ws 437 (by decide +kernel) rfl
abbrev M_X3_addGate : rn_M := (yX3_addGate, cX3_addGate, 2, some .int)
theorem mo_X3_addGate : rn_mok M_X3_addGate 1 := ⟨⟨by decide +kernel, by decide +kernel, by decide +kernel⟩, by decide, plainFor_of_name (by decide +kernel)⟩
theorem mc_X3_addGate : Cond.code yX3_addGate cX3_addGate 2 (some .int) ∈ rn_WS := rn_ws 414 (by decide +kernel) rfl
abbrev M_X3_addPerson : rn_M := (yX3_addPerson, cX3_addPerson, 4, some .int)
theorem mo_X3_addPerson : rn_mok M_X3_addPerson 3 := ⟨⟨by decide +kernel, by decide +kernel, by decide +kernel⟩, by decide, plainFor_of_name (by decide +kernel)⟩
theorem mc_X3_addPerson : Cond.code yX3_addPerson cX3_addPerson 4 (some .int) ∈ rn_WS := rn_ws 425 (by decide +kernel) rfl
abbrev M_X3_isShut : rn_M := (yX3_isShut, cX3_isShut, 2, some .boolean)
theorem mo_X3_isShut : rn_mok M_X3_isShut 1 := ⟨⟨by decide +kernel, by decide +kernel, by decide +kernel⟩, by decide, plainFor_of_name (by decide +kernel)⟩
theorem mc_X3_isShut : Cond.code yX3_isShut cX3_isShut 2 (some .boolean) ∈ rn_WS := rn_ws 504 (by decide +kernel) rfl
abbrev M_X3_setShut : rn_M := (yX3_setShut, cX3_setShut, 3, none)
theorem mo_X3_setShut : rn_mok M_X3_setShut 2 := ⟨⟨by decide +kernel, by decide +kernel, by decide +kernel⟩, by decide, plainFor_of_name (by decide +kernel)⟩
theorem mc_X3_setShut : Cond.code yX3_setShut cX3_setShut 3 (none) ∈ rn_WS := rn_ws 508 (by decide +kernel) rfl
abbrev M_X3_setDown : rn_M := (yX3_setDown, cX3_setDown, 3, none)
theorem mo_X3_setDown : rn_mok M_X3_setDown 2 := ⟨⟨by decide +kernel, by decide +kernel, by decide +kernel⟩, by decide, plainFor_of_name (by decide +kernel)⟩
theorem mc_X3_setDown : Cond.code yX3_setDown cX3_setDown 3 (none) ∈ rn_WS := rn_ws 488 (by decide +kernel) rfl
abbrev M_X3_endRound : rn_M := (yX3_endRound, cX3_endRound, 1, none)
theorem mo_X3_endRound : rn_mok M_X3_endRound 0 := ⟨⟨by decide +kernel, by decide +kernel, by decide +kernel⟩, by decide, plainFor_of_name (by decide +kernel)⟩
theorem mc_X3_endRound : Cond.code yX3_endRound cX3_endRound 1 (none) ∈ rn_WS := rn_ws 520 (by decide +kernel) rfl
abbrev M_X3_beginRoundWith : rn_M := (yX3_beginRoundWith, cX3_beginRoundWith, 4, none)
theorem mo_X3_beginRoundWith : rn_mok M_X3_beginRoundWith 1 := ⟨⟨by decide +kernel, by decide +kernel, by decide +kernel⟩, by decide, plainFor_of_name (by decide +kernel)⟩
theorem mc_X3_beginRoundWith : Cond.code yX3_beginRoundWith cX3_beginRoundWith 4 (none) ∈ rn_WS := rn_ws 793 (by decide +kernel) rfl
abbrev M_X3_swapInRound : rn_M := (yX3_swapInRound, cX3_swapInRound, 4, none)
theorem mo_X3_swapInRound : rn_mok M_X3_swapInRound 2 := ⟨⟨by decide +kernel, by decide +kernel, by decide +kernel⟩, by decide, plainFor_of_name (by decide +kernel)⟩
theorem mc_X3_swapInRound : Cond.code yX3_swapInRound cX3_swapInRound 4 (none) ∈ rn_WS := rn_ws 797 (by decide +kernel) rfl
abbrev M_X3_keepOpen : rn_M := (yX3_keepOpen, cX3_keepOpen, 2, none)
theorem mo_X3_keepOpen : rn_mok M_X3_keepOpen 1 := ⟨⟨by decide +kernel, by decide +kernel, by decide +kernel⟩, by decide, plainFor_of_name (by decide +kernel)⟩
theorem mc_X3_keepOpen : Cond.code yX3_keepOpen cX3_keepOpen 2 (none) ∈ rn_WS := rn_ws 801 (by decide +kernel) rfl
abbrev M_X3_sendOthersOut : rn_M := (yX3_sendOthersOut, cX3_sendOthersOut, 3, none)
theorem mo_X3_sendOthersOut : rn_mok M_X3_sendOthersOut 1 := ⟨⟨by decide +kernel, by decide +kernel, by decide +kernel⟩, by decide, plainFor_of_name (by decide +kernel)⟩
theorem mc_X3_sendOthersOut : Cond.code yX3_sendOthersOut cX3_sendOthersOut 3 (none) ∈ rn_WS := rn_ws 809 (by decide +kernel) rfl
abbrev M_X3_outBits : rn_M := (yX3_outBits, cX3_outBits, 3, some .int)
theorem mo_X3_outBits : rn_mok M_X3_outBits 0 := ⟨⟨by decide +kernel, by decide +kernel, by decide +kernel⟩, by decide, plainFor_of_name (by decide +kernel)⟩
theorem mc_X3_outBits : Cond.code yX3_outBits cX3_outBits 3 (some .int) ∈ rn_WS := rn_ws 709 (by decide +kernel) rfl
abbrev M_X3_inside : rn_M := (yX3_inside, cX3_inside, 1, some .int)
theorem mo_X3_inside : rn_mok M_X3_inside 0 := ⟨⟨by decide +kernel, by decide +kernel, by decide +kernel⟩, by decide, plainFor_of_name (by decide +kernel)⟩
theorem mc_X3_inside : Cond.code yX3_inside cX3_inside 1 (some .int) ∈ rn_WS := rn_ws 762 (by decide +kernel) rfl
abbrev M_X3_leftBehind : rn_M := (yX3_leftBehind, cX3_leftBehind, 2, some .int)
theorem mo_X3_leftBehind : rn_mok M_X3_leftBehind 0 := ⟨⟨by decide +kernel, by decide +kernel, by decide +kernel⟩, by decide, plainFor_of_name (by decide +kernel)⟩
theorem mc_X3_leftBehind : Cond.code yX3_leftBehind cX3_leftBehind 2 (some .int) ∈ rn_WS := rn_ws 776 (by decide +kernel) rfl
abbrev M_X3_passMinutes : rn_M := (yX3_passMinutes, cX3_passMinutes, 3, none)
theorem mo_X3_passMinutes : rn_mok M_X3_passMinutes 1 := ⟨⟨by decide +kernel, by decide +kernel, by decide +kernel⟩, by decide, plainFor_of_name (by decide +kernel)⟩
theorem mc_X3_passMinutes : Cond.code yX3_passMinutes cX3_passMinutes 3 (none) ∈ rn_WS := rn_ws 717 (by decide +kernel) rfl
abbrev M_X3_passMinute : rn_M := (yX3_passMinute, cX3_passMinute, 3, none)
theorem mo_X3_passMinute : rn_mok M_X3_passMinute 0 := ⟨⟨by decide +kernel, by decide +kernel, by decide +kernel⟩, by decide, plainFor_of_name (by decide +kernel)⟩
theorem mc_X3_passMinute : Cond.code yX3_passMinute cX3_passMinute 3 (none) ∈ rn_WS := rn_ws 721 (by decide +kernel) rfl
abbrev M_X3_walk : rn_M := (yX3_walk, cX3_walk, 3, none)
theorem mo_X3_walk : rn_mok M_X3_walk 1 := ⟨⟨by decide +kernel, by decide +kernel, by decide +kernel⟩, by decide, plainFor_of_name (by decide +kernel)⟩
theorem mc_X3_walk : Cond.code yX3_walk cX3_walk 3 (none) ∈ rn_WS := rn_ws 726 (by decide +kernel) rfl
abbrev M_X3_goRound : rn_M := (yX3_goRound, cX3_goRound, 2, none)
theorem mo_X3_goRound : rn_mok M_X3_goRound 0 := ⟨⟨by decide +kernel, by decide +kernel, by decide +kernel⟩, by decide, plainFor_of_name (by decide +kernel)⟩
theorem mc_X3_goRound : Cond.code yX3_goRound cX3_goRound 2 (none) ∈ rn_WS := rn_ws 737 (by decide +kernel) rfl
abbrev M_X3_ears : rn_M := (yX3_ears, cX3_ears, 3, some .int)
theorem mo_X3_ears : rn_mok M_X3_ears 1 := ⟨⟨by decide +kernel, by decide +kernel, by decide +kernel⟩, by decide, plainFor_of_name (by decide +kernel)⟩
theorem mc_X3_ears : Cond.code yX3_ears cX3_ears 3 (some .int) ∈ rn_WS := rn_ws 444 (by decide +kernel) rfl
abbrev M_X3_hears : rn_M := (yX3_hears, cX3_hears, 2, some .boolean)
theorem mo_X3_hears : rn_mok M_X3_hears 1 := ⟨⟨by decide +kernel, by decide +kernel, by decide +kernel⟩, by decide, plainFor_of_name (by decide +kernel)⟩
theorem mc_X3_hears : Cond.code yX3_hears cX3_hears 2 (some .boolean) ∈ rn_WS := rn_ws 462 (by decide +kernel) rfl
abbrev M_X3_steps : rn_M := (yX3_steps, cX3_steps, 2, some .int)
theorem mo_X3_steps : rn_mok M_X3_steps 1 := ⟨⟨by decide +kernel, by decide +kernel, by decide +kernel⟩, by decide, plainFor_of_name (by decide +kernel)⟩
theorem mc_X3_steps : Cond.code yX3_steps cX3_steps 2 (some .int) ∈ rn_WS := rn_ws 476 (by decide +kernel) rfl
abbrev M_X3_goal : rn_M := (yX3_goal, cX3_goal, 7, some .int)
theorem mo_X3_goal : rn_mok M_X3_goal 1 := ⟨⟨by decide +kernel, by decide +kernel, by decide +kernel⟩, by decide, plainFor_of_name (by decide +kernel)⟩
theorem mc_X3_goal : Cond.code yX3_goal cX3_goal 7 (some .int) ∈ rn_WS := rn_ws 480 (by decide +kernel) rfl
abbrev M_X3_way : rn_M := (yX3_way, cX3_way, 3, some .int)
theorem mo_X3_way : rn_mok M_X3_way 2 := ⟨⟨by decide +kernel, by decide +kernel, by decide +kernel⟩, by decide, plainFor_of_name (by decide +kernel)⟩
theorem mc_X3_way : Cond.code yX3_way cX3_way 3 (some .int) ∈ rn_WS := rn_ws 465 (by decide +kernel) rfl
abbrev M_X3_toward : rn_M := (yX3_toward, cX3_toward, 5, some .int)
theorem mo_X3_toward : rn_mok M_X3_toward 3 := ⟨⟨by decide +kernel, by decide +kernel, by decide +kernel⟩, by decide, plainFor_of_name (by decide +kernel)⟩
theorem mc_X3_toward : Cond.code yX3_toward cX3_toward 5 (some .int) ∈ rn_WS := rn_ws 732 (by decide +kernel) rfl
abbrev M_X4_init : rn_M := (yX4_init, cX4_init, 1, none)
theorem mo_X4_init : rn_mok M_X4_init 0 := ⟨⟨by decide +kernel, by decide +kernel, by decide +kernel⟩, by decide, plainFor_of_name (by decide +kernel)⟩
theorem mc_X4_init : Cond.code yX4_init cX4_init 1 (none) ∈ rn_WS := rn_ws 147 (by decide +kernel) rfl
abbrev M_X4_begin : rn_M := (yX4_begin, cX4_begin, 5, none)
theorem mo_X4_begin : rn_mok M_X4_begin 3 := ⟨⟨by decide +kernel, by decide +kernel, by decide +kernel⟩, by decide, plainFor_of_name (by decide +kernel)⟩
theorem mc_X4_begin : Cond.code yX4_begin cX4_begin 5 (none) ∈ rn_WS := rn_ws 429 (by decide +kernel) rfl
abbrev M_X4_copyFrom : rn_M := (yX4_copyFrom, cX4_copyFrom, 2, none)
theorem mo_X4_copyFrom : rn_mok M_X4_copyFrom 1 := ⟨⟨by decide +kernel, by decide +kernel, by decide +kernel⟩, by decide, plainFor_of_name (by decide +kernel)⟩
theorem mc_X4_copyFrom : Cond.code yX4_copyFrom cX4_copyFrom 2 (none) ∈ rn_WS := rn_ws 753 (by decide +kernel) rfl
abbrev M_X5_init : rn_M := (yX5_init, cX5_init, 1, none)
theorem mo_X5_init : rn_mok M_X5_init 0 := ⟨⟨by decide +kernel, by decide +kernel, by decide +kernel⟩, by decide, plainFor_of_name (by decide +kernel)⟩
theorem mc_X5_init : Cond.code yX5_init cX5_init 1 (none) ∈ rn_WS := rn_ws 303 (by decide +kernel) rfl
abbrev M_X5_addSign : rn_M := (yX5_addSign, cX5_addSign, 2, some .int)
theorem mo_X5_addSign : rn_mok M_X5_addSign 1 := ⟨⟨by decide +kernel, by decide +kernel, by decide +kernel⟩, by decide, plainFor_of_name (by decide +kernel)⟩
theorem mc_X5_addSign : Cond.code yX5_addSign cX5_addSign 2 (some .int) ∈ rn_WS := rn_ws 528 (by decide +kernel) rfl
abbrev M_X5_readInto : rn_M := (yX5_readInto, cX5_readInto, 3, some .int)
theorem mo_X5_readInto : rn_mok M_X5_readInto 1 := ⟨⟨by decide +kernel, by decide +kernel, by decide +kernel⟩, by decide, plainFor_of_name (by decide +kernel)⟩
theorem mc_X5_readInto : Cond.code yX5_readInto cX5_readInto 3 (some .int) ∈ rn_WS := rn_ws 536 (by decide +kernel) rfl
abbrev M_X5_isNext : rn_M := (yX5_isNext, cX5_isNext, 2, some .boolean)
theorem mo_X5_isNext : rn_mok M_X5_isNext 1 := ⟨⟨by decide +kernel, by decide +kernel, by decide +kernel⟩, by decide, plainFor_of_name (by decide +kernel)⟩
theorem mc_X5_isNext : Cond.code yX5_isNext cX5_isNext 2 (some .boolean) ∈ rn_WS := rn_ws 548 (by decide +kernel) rfl
abbrev M_X5_skip : rn_M := (yX5_skip, cX5_skip, 2, some .boolean)
theorem mo_X5_skip : rn_mok M_X5_skip 1 := ⟨⟨by decide +kernel, by decide +kernel, by decide +kernel⟩, by decide, plainFor_of_name (by decide +kernel)⟩
theorem mc_X5_skip : Cond.code yX5_skip cX5_skip 2 (some .boolean) ∈ rn_WS := rn_ws 608 (by decide +kernel) rfl
abbrev M_X5_readClause : rn_M := (yX5_readClause, cX5_readClause, 5, some .boolean)
theorem mo_X5_readClause : rn_mok M_X5_readClause 0 := ⟨⟨by decide +kernel, by decide +kernel, by decide +kernel⟩, by decide, plainFor_of_name (by decide +kernel)⟩
theorem mc_X5_readClause : Cond.code yX5_readClause cX5_readClause 5 (some .boolean) ∈ rn_WS := rn_ws 544 (by decide +kernel) rfl
abbrev M_X5_readWord : rn_M := (yX5_readWord, cX5_readWord, 3, some .boolean)
theorem mo_X5_readWord : rn_mok M_X5_readWord 1 := ⟨⟨by decide +kernel, by decide +kernel, by decide +kernel⟩, by decide, plainFor_of_name (by decide +kernel)⟩
theorem mc_X5_readWord : Cond.code yX5_readWord cX5_readWord 3 (some .boolean) ∈ rn_WS := rn_ws 556 (by decide +kernel) rfl
abbrev M_X5_readNumber : rn_M := (yX5_readNumber, cX5_readNumber, 3, some .int)
theorem mo_X5_readNumber : rn_mok M_X5_readNumber 0 := ⟨⟨by decide +kernel, by decide +kernel, by decide +kernel⟩, by decide, plainFor_of_name (by decide +kernel)⟩
theorem mc_X5_readNumber : Cond.code yX5_readNumber cX5_readNumber 3 (some .int) ∈ rn_WS := rn_ws 612 (by decide +kernel) rfl
abbrev M_X5_readEither : rn_M := (yX5_readEither, cX5_readEither, 3, some .boolean)
theorem mo_X5_readEither : rn_mok M_X5_readEither 1 := ⟨⟨by decide +kernel, by decide +kernel, by decide +kernel⟩, by decide, plainFor_of_name (by decide +kernel)⟩
theorem mc_X5_readEither : Cond.code yX5_readEither cX5_readEither 3 (some .boolean) ∈ rn_WS := rn_ws 620 (by decide +kernel) rfl
abbrev M_X5_readBoth : rn_M := (yX5_readBoth, cX5_readBoth, 3, some .boolean)
theorem mo_X5_readBoth : rn_mok M_X5_readBoth 1 := ⟨⟨by decide +kernel, by decide +kernel, by decide +kernel⟩, by decide, plainFor_of_name (by decide +kernel)⟩
theorem mc_X5_readBoth : Cond.code yX5_readBoth cX5_readBoth 3 (some .boolean) ∈ rn_WS := rn_ws 624 (by decide +kernel) rfl
abbrev M_X5_readPart : rn_M := (yX5_readPart, cX5_readPart, 3, some .boolean)
theorem mo_X5_readPart : rn_mok M_X5_readPart 1 := ⟨⟨by decide +kernel, by decide +kernel, by decide +kernel⟩, by decide, plainFor_of_name (by decide +kernel)⟩
theorem mc_X5_readPart : Cond.code yX5_readPart cX5_readPart 3 (some .boolean) ∈ rn_WS := rn_ws 628 (by decide +kernel) rfl
abbrev M_X5_readBehindNot : rn_M := (yX5_readBehindNot, cX5_readBehindNot, 2, some .boolean)
theorem mo_X5_readBehindNot : rn_mok M_X5_readBehindNot 1 := ⟨⟨by decide +kernel, by decide +kernel, by decide +kernel⟩, by decide, plainFor_of_name (by decide +kernel)⟩
theorem mc_X5_readBehindNot : Cond.code yX5_readBehindNot cX5_readBehindNot 2 (some .boolean) ∈ rn_WS := rn_ws 701 (by decide +kernel) rfl
abbrev M_X5_readTest : rn_M := (yX5_readTest, cX5_readTest, 4, some .boolean)
theorem mo_X5_readTest : rn_mok M_X5_readTest 0 := ⟨⟨by decide +kernel, by decide +kernel, by decide +kernel⟩, by decide, plainFor_of_name (by decide +kernel)⟩
theorem mc_X5_readTest : Cond.code yX5_readTest cX5_readTest 4 (some .boolean) ∈ rn_WS := rn_ws 632 (by decide +kernel) rfl
abbrev M_X5_readOneOf : rn_M := (yX5_readOneOf, cX5_readOneOf, 3, some .int)
theorem mo_X5_readOneOf : rn_mok M_X5_readOneOf 1 := ⟨⟨by decide +kernel, by decide +kernel, by decide +kernel⟩, by decide, plainFor_of_name (by decide +kernel)⟩
theorem mc_X5_readOneOf : Cond.code yX5_readOneOf cX5_readOneOf 3 (some .int) ∈ rn_WS := rn_ws 637 (by decide +kernel) rfl
abbrev M_X6_init : rn_M := (yX6_init, cX6_init, 2, none)
theorem mo_X6_init : rn_mok M_X6_init 1 := ⟨⟨by decide +kernel, by decide +kernel, by decide +kernel⟩, by decide, plainFor_of_name (by decide +kernel)⟩
theorem mc_X6_init : Cond.code yX6_init cX6_init 2 (none) ∈ rn_WS := rn_ws 250 (by decide +kernel) rfl
abbrev M_X6_isFull : rn_M := (yX6_isFull, cX6_isFull, 1, some .boolean)
theorem mo_X6_isFull : rn_mok M_X6_isFull 0 := ⟨⟨by decide +kernel, by decide +kernel, by decide +kernel⟩, by decide, plainFor_of_name (by decide +kernel)⟩
theorem mc_X6_isFull : Cond.code yX6_isFull cX6_isFull 1 (some .boolean) ∈ rn_WS := rn_ws 817 (by decide +kernel) rfl
abbrev M_X6_addRow : rn_M := (yX6_addRow, cX6_addRow, 4, some .int)
theorem mo_X6_addRow : rn_mok M_X6_addRow 3 := ⟨⟨by decide +kernel, by decide +kernel, by decide +kernel⟩, by decide, plainFor_of_name (by decide +kernel)⟩
theorem mc_X6_addRow : Cond.code yX6_addRow cX6_addRow 4 (some .int) ∈ rn_WS := rn_ws 821 (by decide +kernel) rfl
abbrev M_X6_copyFrom : rn_M := (yX6_copyFrom, cX6_copyFrom, 2, none)
theorem mo_X6_copyFrom : rn_mok M_X6_copyFrom 1 := ⟨⟨by decide +kernel, by decide +kernel, by decide +kernel⟩, by decide, plainFor_of_name (by decide +kernel)⟩
theorem mc_X6_copyFrom : Cond.code yX6_copyFrom cX6_copyFrom 2 (none) ∈ rn_WS := rn_ws 891 (by decide +kernel) rfl
abbrev M_X7_init : rn_M := (yX7_init, cX7_init, 1, none)
theorem mo_X7_init : rn_mok M_X7_init 0 := ⟨⟨by decide +kernel, by decide +kernel, by decide +kernel⟩, by decide, plainFor_of_name (by decide +kernel)⟩
theorem mc_X7_init : Cond.code yX7_init cX7_init 1 (none) ∈ rn_WS := rn_ws 354 (by decide +kernel) rfl
abbrev M_X7_become : rn_M := (yX7_become, cX7_become, 4, none)
theorem mo_X7_become : rn_mok M_X7_become 2 := ⟨⟨by decide +kernel, by decide +kernel, by decide +kernel⟩, by decide, plainFor_of_name (by decide +kernel)⟩
theorem mc_X7_become : Cond.code yX7_become cX7_become 4 (none) ∈ rn_WS := rn_ws 949 (by decide +kernel) rfl
abbrev M_X7_hasItem : rn_M := (yX7_hasItem, cX7_hasItem, 2, some .boolean)
theorem mo_X7_hasItem : rn_mok M_X7_hasItem 1 := ⟨⟨by decide +kernel, by decide +kernel, by decide +kernel⟩, by decide, plainFor_of_name (by decide +kernel)⟩
theorem mc_X7_hasItem : Cond.code yX7_hasItem cX7_hasItem 2 (some .boolean) ∈ rn_WS := rn_ws 957 (by decide +kernel) rfl
abbrev M_X7_hasItems : rn_M := (yX7_hasItems, cX7_hasItems, 3, some .boolean)
theorem mo_X7_hasItems : rn_mok M_X7_hasItems 2 := ⟨⟨by decide +kernel, by decide +kernel, by decide +kernel⟩, by decide, plainFor_of_name (by decide +kernel)⟩
theorem mc_X7_hasItems : Cond.code yX7_hasItems cX7_hasItems 3 (some .boolean) ∈ rn_WS := rn_ws 973 (by decide +kernel) rfl
abbrev M_X7_narrowed : rn_M := (yX7_narrowed, cX7_narrowed, 3, some .long)
theorem mo_X7_narrowed : rn_mok M_X7_narrowed 1 := ⟨⟨by decide +kernel, by decide +kernel, by decide +kernel⟩, by decide, plainFor_of_name (by decide +kernel)⟩
theorem mc_X7_narrowed : Cond.code yX7_narrowed cX7_narrowed 3 (some .long) ∈ rn_WS := rn_ws 961 (by decide +kernel) rfl
abbrev M_X8_init : rn_M := (yX8_init, cX8_init, 2, none)
theorem mo_X8_init : rn_mok M_X8_init 0 := ⟨⟨by decide +kernel, by decide +kernel, by decide +kernel⟩, by decide, plainFor_of_name (by decide +kernel)⟩
theorem mc_X8_init : Cond.code yX8_init cX8_init 2 (none) ∈ rn_WS := rn_ws 106 (by decide +kernel) rfl
abbrev M_X8_gate : rn_M := (yX8_gate, cX8_gate, 2, some .int)
theorem mo_X8_gate : rn_mok M_X8_gate 1 := ⟨⟨by decide +kernel, by decide +kernel, by decide +kernel⟩, by decide, plainFor_of_name (by decide +kernel)⟩
theorem mc_X8_gate : Cond.code yX8_gate cX8_gate 2 (some .int) ∈ rn_WS := rn_ws 407 (by decide +kernel) rfl
abbrev M_X8_person : rn_M := (yX8_person, cX8_person, 4, some .int)
theorem mo_X8_person : rn_mok M_X8_person 3 := ⟨⟨by decide +kernel, by decide +kernel, by decide +kernel⟩, by decide, plainFor_of_name (by decide +kernel)⟩
theorem mc_X8_person : Cond.code yX8_person cX8_person 4 (some .int) ∈ rn_WS := rn_ws 418 (by decide +kernel) rfl
abbrev M_X8_of : rn_M := (yX8_of, cX8_of, 4, some .int)
theorem mo_X8_of : rn_mok M_X8_of 2 := ⟨⟨by decide +kernel, by decide +kernel, by decide +kernel⟩, by decide, plainFor_of_name (by decide +kernel)⟩
theorem mc_X8_of : Cond.code yX8_of cX8_of 4 (some .int) ∈ rn_WS := rn_ws 433 (by decide +kernel) rfl
abbrev M_X8_put : rn_M := (yX8_put, cX8_put, 4, some .int)
theorem mo_X8_put : rn_mok M_X8_put 2 := ⟨⟨by decide +kernel, by decide +kernel, by decide +kernel⟩, by decide, plainFor_of_name (by decide +kernel)⟩
theorem mc_X8_put : Cond.code yX8_put cX8_put 4 (some .int) ∈ rn_WS := rn_ws 484 (by decide +kernel) rfl
abbrev M_X8_call : rn_M := (yX8_call, cX8_call, 5, some .int)
theorem mo_X8_call : rn_mok M_X8_call 2 := ⟨⟨by decide +kernel, by decide +kernel, by decide +kernel⟩, by decide, plainFor_of_name (by decide +kernel)⟩
theorem mc_X8_call : Cond.code yX8_call cX8_call 5 (some .int) ∈ rn_WS := rn_ws 492 (by decide +kernel) rfl
abbrev M_X8_shut : rn_M := (yX8_shut, cX8_shut, 4, some .int)
theorem mo_X8_shut : rn_mok M_X8_shut 2 := ⟨⟨by decide +kernel, by decide +kernel, by decide +kernel⟩, by decide, plainFor_of_name (by decide +kernel)⟩
theorem mc_X8_shut : Cond.code yX8_shut cX8_shut 4 (some .int) ∈ rn_WS := rn_ws 496 (by decide +kernel) rfl
abbrev M_X8_row : rn_M := (yX8_row, cX8_row, 6, some .int)
theorem mo_X8_row : rn_mok M_X8_row 3 := ⟨⟨by decide +kernel, by decide +kernel, by decide +kernel⟩, by decide, plainFor_of_name (by decide +kernel)⟩
theorem mc_X8_row : Cond.code yX8_row cX8_row 6 (some .int) ∈ rn_WS := rn_ws 512 (by decide +kernel) rfl
abbrev M_X8_round : rn_M := (yX8_round, cX8_round, 2, some .int)
theorem mo_X8_round : rn_mok M_X8_round 1 := ⟨⟨by decide +kernel, by decide +kernel, by decide +kernel⟩, by decide, plainFor_of_name (by decide +kernel)⟩
theorem mc_X8_round : Cond.code yX8_round cX8_round 2 (some .int) ∈ rn_WS := rn_ws 516 (by decide +kernel) rfl
abbrev M_X8_feed : rn_M := (yX8_feed, cX8_feed, 2, some .int)
theorem mo_X8_feed : rn_mok M_X8_feed 1 := ⟨⟨by decide +kernel, by decide +kernel, by decide +kernel⟩, by decide, plainFor_of_name (by decide +kernel)⟩
theorem mc_X8_feed : Cond.code yX8_feed cX8_feed 2 (some .int) ∈ rn_WS := rn_ws 524 (by decide +kernel) rfl
abbrev M_X8_dusk : rn_M := (yX8_dusk, cX8_dusk, 2, some .int)
theorem mo_X8_dusk : rn_mok M_X8_dusk 0 := ⟨⟨by decide +kernel, by decide +kernel, by decide +kernel⟩, by decide, plainFor_of_name (by decide +kernel)⟩
theorem mc_X8_dusk : Cond.code yX8_dusk cX8_dusk 2 (some .int) ∈ rn_WS := rn_ws 532 (by decide +kernel) rfl
abbrev M_X8_told : rn_M := (yX8_told, cX8_told, 2, some .int)
theorem mo_X8_told : rn_mok M_X8_told 1 := ⟨⟨by decide +kernel, by decide +kernel, by decide +kernel⟩, by decide, plainFor_of_name (by decide +kernel)⟩
theorem mc_X8_told : Cond.code yX8_told cX8_told 2 (some .int) ∈ rn_WS := rn_ws 705 (by decide +kernel) rfl
abbrev M_X8_pass : rn_M := (yX8_pass, cX8_pass, 2, some .int)
theorem mo_X8_pass : rn_mok M_X8_pass 1 := ⟨⟨by decide +kernel, by decide +kernel, by decide +kernel⟩, by decide, plainFor_of_name (by decide +kernel)⟩
theorem mc_X8_pass : Cond.code yX8_pass cX8_pass 2 (some .int) ∈ rn_WS := rn_ws 713 (by decide +kernel) rfl
abbrev M_X8_on : rn_M := (yX8_on, cX8_on, 5, some .int)
theorem mo_X8_on : rn_mok M_X8_on 2 := ⟨⟨by decide +kernel, by decide +kernel, by decide +kernel⟩, by decide, plainFor_of_name (by decide +kernel)⟩
theorem mc_X8_on : Cond.code yX8_on cX8_on 5 (some .int) ∈ rn_WS := rn_ws 742 (by decide +kernel) rfl
abbrev M_X8_clear : rn_M := (yX8_clear, cX8_clear, 2, some .int)
theorem mo_X8_clear : rn_mok M_X8_clear 0 := ⟨⟨by decide +kernel, by decide +kernel, by decide +kernel⟩, by decide, plainFor_of_name (by decide +kernel)⟩
theorem mc_X8_clear : Cond.code yX8_clear cX8_clear 2 (some .int) ∈ rn_WS := rn_ws 758 (by decide +kernel) rfl
abbrev M_X8_stay : rn_M := (yX8_stay, cX8_stay, 2, some .int)
theorem mo_X8_stay : rn_mok M_X8_stay 0 := ⟨⟨by decide +kernel, by decide +kernel, by decide +kernel⟩, by decide, plainFor_of_name (by decide +kernel)⟩
theorem mc_X8_stay : Cond.code yX8_stay cX8_stay 2 (some .int) ∈ rn_WS := rn_ws 768 (by decide +kernel) rfl
abbrev M_X8_best : rn_M := (yX8_best, cX8_best, 4, some .int)
theorem mo_X8_best : rn_mok M_X8_best 1 := ⟨⟨by decide +kernel, by decide +kernel, by decide +kernel⟩, by decide, plainFor_of_name (by decide +kernel)⟩
theorem mc_X8_best : Cond.code yX8_best cX8_best 4 (some .int) ∈ rn_WS := rn_ws 772 (by decide +kernel) rfl
abbrev M_X8_bestChange : rn_M := (yX8_bestChange, cX8_bestChange, 7, some .int)
theorem mo_X8_bestChange : rn_mok M_X8_bestChange 2 := ⟨⟨by decide +kernel, by decide +kernel, by decide +kernel⟩, by decide, plainFor_of_name (by decide +kernel)⟩
theorem mc_X8_bestChange : Cond.code yX8_bestChange cX8_bestChange 7 (some .int) ∈ rn_WS := rn_ws 781 (by decide +kernel) rfl
abbrev M_X8_canChange : rn_M := (yX8_canChange, cX8_canChange, 3, some .boolean)
theorem mo_X8_canChange : rn_mok M_X8_canChange 2 := ⟨⟨by decide +kernel, by decide +kernel, by decide +kernel⟩, by decide, plainFor_of_name (by decide +kernel)⟩
theorem mc_X8_canChange : Cond.code yX8_canChange cX8_canChange 3 (some .boolean) ∈ rn_WS := rn_ws 785 (by decide +kernel) rfl
abbrev M_X8_makeChange : rn_M := (yX8_makeChange, cX8_makeChange, 3, none)
theorem mo_X8_makeChange : rn_mok M_X8_makeChange 2 := ⟨⟨by decide +kernel, by decide +kernel, by decide +kernel⟩, by decide, plainFor_of_name (by decide +kernel)⟩
theorem mc_X8_makeChange : Cond.code yX8_makeChange cX8_makeChange 3 (none) ∈ rn_WS := rn_ws 789 (by decide +kernel) rfl
abbrev M_X8_hides : rn_M := (yX8_hides, cX8_hides, 4, some .int)
theorem mo_X8_hides : rn_mok M_X8_hides 1 := ⟨⟨by decide +kernel, by decide +kernel, by decide +kernel⟩, by decide, plainFor_of_name (by decide +kernel)⟩
theorem mc_X8_hides : Cond.code yX8_hides cX8_hides 4 (some .int) ∈ rn_WS := rn_ws 805 (by decide +kernel) rfl
abbrev M_X8_see : rn_M := (yX8_see, cX8_see, 4, some .int)
theorem mo_X8_see : rn_mok M_X8_see 3 := ⟨⟨by decide +kernel, by decide +kernel, by decide +kernel⟩, by decide, plainFor_of_name (by decide +kernel)⟩
theorem mc_X8_see : Cond.code yX8_see cX8_see 4 (some .int) ∈ rn_WS := rn_ws 813 (by decide +kernel) rfl
abbrev M_X8_where : rn_M := (yX8_where, cX8_where, 5, some .int)
theorem mo_X8_where : rn_mok M_X8_where 2 := ⟨⟨by decide +kernel, by decide +kernel, by decide +kernel⟩, by decide, plainFor_of_name (by decide +kernel)⟩
theorem mc_X8_where : Cond.code yX8_where cX8_where 5 (some .int) ∈ rn_WS := rn_ws 825 (by decide +kernel) rfl
abbrev M_X8_can : rn_M := (yX8_can, cX8_can, 5, some .int)
theorem mo_X8_can : rn_mok M_X8_can 2 := ⟨⟨by decide +kernel, by decide +kernel, by decide +kernel⟩, by decide, plainFor_of_name (by decide +kernel)⟩
theorem mc_X8_can : Cond.code yX8_can cX8_can 5 (some .int) ∈ rn_WS := rn_ws 845 (by decide +kernel) rfl
abbrev M_X8_trialIsAsSeen : rn_M := (yX8_trialIsAsSeen, cX8_trialIsAsSeen, 4, some .boolean)
theorem mo_X8_trialIsAsSeen : rn_mok M_X8_trialIsAsSeen 0 := ⟨⟨by decide +kernel, by decide +kernel, by decide +kernel⟩, by decide, plainFor_of_name (by decide +kernel)⟩
theorem mc_X8_trialIsAsSeen : Cond.code yX8_trialIsAsSeen cX8_trialIsAsSeen 4 (some .boolean) ∈ rn_WS := rn_ws 832 (by decide +kernel) rfl
abbrev M_X8_leastOf : rn_M := (yX8_leastOf, cX8_leastOf, 1, some .int)
theorem mo_X8_leastOf : rn_mok M_X8_leastOf 1 := ⟨⟨by decide +kernel, by decide +kernel, by decide +kernel⟩, by decide, plainFor_of_name (by decide +kernel)⟩
theorem mc_X8_leastOf : Cond.code yX8_leastOf cX8_leastOf 1 (some .int) ∈ rn_WS := rn_ws 837 (by decide +kernel) rfl
abbrev M_X8_odds : rn_M := (yX8_odds, cX8_odds, 5, some .long)
theorem mo_X8_odds : rn_mok M_X8_odds 2 := ⟨⟨by decide +kernel, by decide +kernel, by decide +kernel⟩, by decide, plainFor_of_name (by decide +kernel)⟩
theorem mc_X8_odds : Cond.code yX8_odds cX8_odds 5 (some .long) ∈ rn_WS := rn_ws 849 (by decide +kernel) rfl
abbrev M_X8_mean : rn_M := (yX8_mean, cX8_mean, 5, some .long)
theorem mo_X8_mean : rn_mok M_X8_mean 2 := ⟨⟨by decide +kernel, by decide +kernel, by decide +kernel⟩, by decide, plainFor_of_name (by decide +kernel)⟩
theorem mc_X8_mean : Cond.code yX8_mean cX8_mean 5 (some .long) ∈ rn_WS := rn_ws 860 (by decide +kernel) rfl
abbrev M_X8_fractionPart : rn_M := (yX8_fractionPart, cX8_fractionPart, 4, some .long)
theorem mo_X8_fractionPart : rn_mok M_X8_fractionPart 3 := ⟨⟨by decide +kernel, by decide +kernel, by decide +kernel⟩, by decide, plainFor_of_name (by decide +kernel)⟩
theorem mc_X8_fractionPart : Cond.code yX8_fractionPart cX8_fractionPart 4 (some .long) ∈ rn_WS := rn_ws 853 (by decide +kernel) rfl
abbrev M_X8_commonDivisor : rn_M := (yX8_commonDivisor, cX8_commonDivisor, 6, some .int)
theorem mo_X8_commonDivisor : rn_mok M_X8_commonDivisor 2 := ⟨⟨by decide +kernel, by decide +kernel, by decide +kernel⟩, by decide, plainFor_of_name (by decide +kernel)⟩
theorem mc_X8_commonDivisor : Cond.code yX8_commonDivisor cX8_commonDivisor 6 (some .int) ∈ rn_WS := rn_ws 856 (by decide +kernel) rfl
abbrev M_X8_evening : rn_M := (yX8_evening, cX8_evening, 5, some .int)
theorem mo_X8_evening : rn_mok M_X8_evening 2 := ⟨⟨by decide +kernel, by decide +kernel, by decide +kernel⟩, by decide, plainFor_of_name (by decide +kernel)⟩
theorem mc_X8_evening : Cond.code yX8_evening cX8_evening 5 (some .int) ∈ rn_WS := rn_ws 864 (by decide +kernel) rfl
abbrev M_X8_gone : rn_M := (yX8_gone, cX8_gone, 4, some .int)
theorem mo_X8_gone : rn_mok M_X8_gone 1 := ⟨⟨by decide +kernel, by decide +kernel, by decide +kernel⟩, by decide, plainFor_of_name (by decide +kernel)⟩
theorem mc_X8_gone : Cond.code yX8_gone cX8_gone 4 (some .int) ∈ rn_WS := rn_ws 868 (by decide +kernel) rfl
abbrev M_X8_book : rn_M := (yX8_book, cX8_book, 3, some .int)
theorem mo_X8_book : rn_mok M_X8_book 2 := ⟨⟨by decide +kernel, by decide +kernel, by decide +kernel⟩, by decide, plainFor_of_name (by decide +kernel)⟩
theorem mc_X8_book : Cond.code yX8_book cX8_book 3 (some .int) ∈ rn_WS := rn_ws 872 (by decide +kernel) rfl
abbrev M_X8_looked : rn_M := (yX8_looked, cX8_looked, 2, some .int)
theorem mo_X8_looked : rn_mok M_X8_looked 0 := ⟨⟨by decide +kernel, by decide +kernel, by decide +kernel⟩, by decide, plainFor_of_name (by decide +kernel)⟩
theorem mc_X8_looked : Cond.code yX8_looked cX8_looked 2 (some .int) ∈ rn_WS := rn_ws 876 (by decide +kernel) rfl
abbrev M_X8_judge : rn_M := (yX8_judge, cX8_judge, 5, some .int)
theorem mo_X8_judge : rn_mok M_X8_judge 2 := ⟨⟨by decide +kernel, by decide +kernel, by decide +kernel⟩, by decide, plainFor_of_name (by decide +kernel)⟩
theorem mc_X8_judge : Cond.code yX8_judge cX8_judge 5 (some .int) ∈ rn_WS := rn_ws 880 (by decide +kernel) rfl
abbrev M_X8_image : rn_M := (yX8_image, cX8_image, 1, some .int)
theorem mo_X8_image : rn_mok M_X8_image 0 := ⟨⟨by decide +kernel, by decide +kernel, by decide +kernel⟩, by decide, plainFor_of_name (by decide +kernel)⟩
theorem mc_X8_image : Cond.code yX8_image cX8_image 1 (some .int) ∈ rn_WS := rn_ws 887 (by decide +kernel) rfl
abbrev M_X8_undo : rn_M := (yX8_undo, cX8_undo, 1, some .int)
theorem mo_X8_undo : rn_mok M_X8_undo 0 := ⟨⟨by decide +kernel, by decide +kernel, by decide +kernel⟩, by decide, plainFor_of_name (by decide +kernel)⟩
theorem mc_X8_undo : Cond.code yX8_undo cX8_undo 1 (some .int) ∈ rn_WS := rn_ws 897 (by decide +kernel) rfl
abbrev M_X8_act : rn_M := (yX8_act, cX8_act, 4, some .int)
theorem mo_X8_act : rn_mok M_X8_act 3 := ⟨⟨by decide +kernel, by decide +kernel, by decide +kernel⟩, by decide, plainFor_of_name (by decide +kernel)⟩
theorem mc_X8_act : Cond.code yX8_act cX8_act 4 (some .int) ∈ rn_WS := rn_ws 901 (by decide +kernel) rfl
abbrev M_X8_trace : rn_M := (yX8_trace, cX8_trace, 2, some .int)
theorem mo_X8_trace : rn_mok M_X8_trace 1 := ⟨⟨by decide +kernel, by decide +kernel, by decide +kernel⟩, by decide, plainFor_of_name (by decide +kernel)⟩
theorem mc_X8_trace : Cond.code yX8_trace cX8_trace 2 (some .int) ∈ rn_WS := rn_ws 928 (by decide +kernel) rfl
abbrev M_X8_taken : rn_M := (yX8_taken, cX8_taken, 4, some .int)
theorem mo_X8_taken : rn_mok M_X8_taken 2 := ⟨⟨by decide +kernel, by decide +kernel, by decide +kernel⟩, by decide, plainFor_of_name (by decide +kernel)⟩
theorem mc_X8_taken : Cond.code yX8_taken cX8_taken 4 (some .int) ∈ rn_WS := rn_ws 933 (by decide +kernel) rfl
abbrev M_X8_isUnder : rn_M := (yX8_isUnder, cX8_isUnder, 4, some .boolean)
theorem mo_X8_isUnder : rn_mok M_X8_isUnder 2 := ⟨⟨by decide +kernel, by decide +kernel, by decide +kernel⟩, by decide, plainFor_of_name (by decide +kernel)⟩
theorem mc_X8_isUnder : Cond.code yX8_isUnder cX8_isUnder 4 (some .boolean) ∈ rn_WS := rn_ws 936 (by decide +kernel) rfl
abbrev M_X8_count : rn_M := (yX8_count, cX8_count, 2, some .int)
theorem mo_X8_count : rn_mok M_X8_count 1 := ⟨⟨by decide +kernel, by decide +kernel, by decide +kernel⟩, by decide, plainFor_of_name (by decide +kernel)⟩
theorem mc_X8_count : Cond.code yX8_count cX8_count 2 (some .int) ∈ rn_WS := rn_ws 941 (by decide +kernel) rfl
abbrev M_X8_tape : rn_M := (yX8_tape, cX8_tape, 4, some .int)
theorem mo_X8_tape : rn_mok M_X8_tape 3 := ⟨⟨by decide +kernel, by decide +kernel, by decide +kernel⟩, by decide, plainFor_of_name (by decide +kernel)⟩
theorem mc_X8_tape : Cond.code yX8_tape cX8_tape 4 (some .int) ∈ rn_WS := rn_ws 945 (by decide +kernel) rfl
abbrev M_X8_item : rn_M := (yX8_item, cX8_item, 6, some .int)
theorem mo_X8_item : rn_mok M_X8_item 3 := ⟨⟨by decide +kernel, by decide +kernel, by decide +kernel⟩, by decide, plainFor_of_name (by decide +kernel)⟩
theorem mc_X8_item : Cond.code yX8_item cX8_item 6 (some .int) ∈ rn_WS := rn_ws 953 (by decide +kernel) rfl
abbrev M_X8_read : rn_M := (yX8_read, cX8_read, 3, some .long)
theorem mo_X8_read : rn_mok M_X8_read 2 := ⟨⟨by decide +kernel, by decide +kernel, by decide +kernel⟩, by decide, plainFor_of_name (by decide +kernel)⟩
theorem mc_X8_read : Cond.code yX8_read cX8_read 3 (some .long) ∈ rn_WS := rn_ws 965 (by decide +kernel) rfl
abbrev M_X8_shift : rn_M := (yX8_shift, cX8_shift, 8, some .int)
theorem mo_X8_shift : rn_mok M_X8_shift 5 := ⟨⟨by decide +kernel, by decide +kernel, by decide +kernel⟩, by decide, plainFor_of_name (by decide +kernel)⟩
theorem mc_X8_shift : Cond.code yX8_shift cX8_shift 8 (some .int) ∈ rn_WS := rn_ws 969 (by decide +kernel) rfl
abbrev M_X8_isPlace : rn_M := (yX8_isPlace, cX8_isPlace, 1, some .boolean)
theorem mo_X8_isPlace : rn_mok M_X8_isPlace 1 := ⟨⟨by decide +kernel, by decide +kernel, by decide +kernel⟩, by decide, plainFor_of_name (by decide +kernel)⟩
theorem mc_X8_isPlace : Cond.code yX8_isPlace cX8_isPlace 1 (some .boolean) ∈ rn_WS := rn_ws 410 (by decide +kernel) rfl
abbrev M_X8_isDigit : rn_M := (yX8_isDigit, cX8_isDigit, 1, some .boolean)
theorem mo_X8_isDigit : rn_mok M_X8_isDigit 1 := ⟨⟨by decide +kernel, by decide +kernel, by decide +kernel⟩, by decide, plainFor_of_name (by decide +kernel)⟩
theorem mc_X8_isDigit : Cond.code yX8_isDigit cX8_isDigit 1 (some .boolean) ∈ rn_WS := rn_ws 421 (by decide +kernel) rfl
abbrev M_X8_isPart : rn_M := (yX8_isPart, cX8_isPart, 1, some .boolean)
theorem mo_X8_isPart : rn_mok M_X8_isPart 1 := ⟨⟨by decide +kernel, by decide +kernel, by decide +kernel⟩, by decide, plainFor_of_name (by decide +kernel)⟩
theorem mc_X8_isPart : Cond.code yX8_isPart cX8_isPart 1 (some .boolean) ∈ rn_WS := rn_ws 828 (by decide +kernel) rfl
abbrev M_X8_isTape : rn_M := (yX8_isTape, cX8_isTape, 1, some .boolean)
theorem mo_X8_isTape : rn_mok M_X8_isTape 1 := ⟨⟨by decide +kernel, by decide +kernel, by decide +kernel⟩, by decide, plainFor_of_name (by decide +kernel)⟩
theorem mc_X8_isTape : Cond.code yX8_isTape cX8_isTape 1 (some .boolean) ∈ rn_WS := rn_ws 883 (by decide +kernel) rfl
abbrev M_X8_bit : rn_M := (yX8_bit, cX8_bit, 1, some .int)
theorem mo_X8_bit : rn_mok M_X8_bit 1 := ⟨⟨by decide +kernel, by decide +kernel, by decide +kernel⟩, by decide, plainFor_of_name (by decide +kernel)⟩
theorem mc_X8_bit : Cond.code yX8_bit cX8_bit 1 (some .int) ∈ rn_WS := rn_ws 440 (by decide +kernel) rfl
abbrev M_X9_init : rn_M := (yX9_init, cX9_init, 1, none)
theorem mo_X9_init : rn_mok M_X9_init 0 := ⟨⟨by decide +kernel, by decide +kernel, by decide +kernel⟩, by decide, plainFor_of_name (by decide +kernel)⟩
set_option maxRecDepth 200000 in
theorem mc_X9_init : Cond.code yX9_init cX9_init 1 (none) ∈ rn_WS := rn_ws 979 rfl rfl
abbrev M_X9_in : rn_M := (yX9_in, cX9_in, 4, some .boolean)
theorem mo_X9_in : rn_mok M_X9_in 3 := ⟨⟨by decide +kernel, by decide +kernel, by decide +kernel⟩, by decide, plainFor_of_name (by decide +kernel)⟩
theorem mc_X9_in : Cond.code yX9_in cX9_in 4 (some .boolean) ∈ rn_WS := rn_ws 1273 (by decide +kernel) rfl
abbrev M_X9_has : rn_M := (yX9_has, cX9_has, 3, some .boolean)
theorem mo_X9_has : rn_mok M_X9_has 2 := ⟨⟨by decide +kernel, by decide +kernel, by decide +kernel⟩, by decide, plainFor_of_name (by decide +kernel)⟩
theorem mc_X9_has : Cond.code yX9_has cX9_has 3 (some .boolean) ∈ rn_WS := rn_ws 1301 (by decide +kernel) rfl
abbrev M_X9_with0 : rn_M := (yX9_with0, cX9_with0, 4, some .int)
theorem mo_X9_with0 : rn_mok M_X9_with0 3 := ⟨⟨by decide +kernel, by decide +kernel, by decide +kernel⟩, by decide, plainFor_of_name (by decide +kernel)⟩
theorem mc_X9_with0 : Cond.code yX9_with0 cX9_with0 4 (some .int) ∈ rn_WS := rn_ws 1277 (by decide +kernel) rfl
abbrev M_X9_ones : rn_M := (yX9_ones, cX9_ones, 4, some .int)
theorem mo_X9_ones : rn_mok M_X9_ones 1 := ⟨⟨by decide +kernel, by decide +kernel, by decide +kernel⟩, by decide, plainFor_of_name (by decide +kernel)⟩
theorem mc_X9_ones : Cond.code yX9_ones cX9_ones 4 (some .int) ∈ rn_WS := rn_ws 1409 (by decide +kernel) rfl
abbrev M_X9_isGate : rn_M := (yX9_isGate, cX9_isGate, 2, some .boolean)
theorem mo_X9_isGate : rn_mok M_X9_isGate 1 := ⟨⟨by decide +kernel, by decide +kernel, by decide +kernel⟩, by decide, plainFor_of_name (by decide +kernel)⟩
theorem mc_X9_isGate : Cond.code yX9_isGate cX9_isGate 2 (some .boolean) ∈ rn_WS := rn_ws 1309 (by decide +kernel) rfl
abbrev M_X9_isPerson : rn_M := (yX9_isPerson, cX9_isPerson, 2, some .boolean)
theorem mo_X9_isPerson : rn_mok M_X9_isPerson 1 := ⟨⟨by decide +kernel, by decide +kernel, by decide +kernel⟩, by decide, plainFor_of_name (by decide +kernel)⟩
theorem mc_X9_isPerson : Cond.code yX9_isPerson cX9_isPerson 2 (some .boolean) ∈ rn_WS := rn_ws 1289 (by decide +kernel) rfl
abbrev M_X9_isPlace : rn_M := (yX9_isPlace, cX9_isPlace, 2, some .boolean)
theorem mo_X9_isPlace : rn_mok M_X9_isPlace 1 := ⟨⟨by decide +kernel, by decide +kernel, by decide +kernel⟩, by decide, plainFor_of_name (by decide +kernel)⟩
theorem mc_X9_isPlace : Cond.code yX9_isPlace cX9_isPlace 2 (some .boolean) ∈ rn_WS := rn_ws 1269 (by decide +kernel) rfl
abbrev M_X9_isMinutes : rn_M := (yX9_isMinutes, cX9_isMinutes, 2, some .boolean)
theorem mo_X9_isMinutes : rn_mok M_X9_isMinutes 1 := ⟨⟨by decide +kernel, by decide +kernel, by decide +kernel⟩, by decide, plainFor_of_name (by decide +kernel)⟩
theorem mc_X9_isMinutes : Cond.code yX9_isMinutes cX9_isMinutes 2 (some .boolean) ∈ rn_WS := rn_ws 1473 (by decide +kernel) rfl
abbrev M_X9_gate : rn_M := (yX9_gate, cX9_gate, 2, some .int)
theorem mo_X9_gate : rn_mok M_X9_gate 1 := ⟨⟨by decide +kernel, by decide +kernel, by decide +kernel⟩, by decide, plainFor_of_name (by decide +kernel)⟩
theorem mc_X9_gate : Cond.code yX9_gate cX9_gate 2 (some .int) ∈ rn_WS := rn_ws 1265 (by decide +kernel) rfl
abbrev M_X9_person : rn_M := (yX9_person, cX9_person, 5, some .int)
theorem mo_X9_person : rn_mok M_X9_person 3 := ⟨⟨by decide +kernel, by decide +kernel, by decide +kernel⟩, by decide, plainFor_of_name (by decide +kernel)⟩
theorem mc_X9_person : Cond.code yX9_person cX9_person 5 (some .int) ∈ rn_WS := rn_ws 1281 (by decide +kernel) rfl
abbrev M_X9_puts : rn_M := (yX9_puts, cX9_puts, 3, none)
theorem mo_X9_puts : rn_mok M_X9_puts 2 := ⟨⟨by decide +kernel, by decide +kernel, by decide +kernel⟩, by decide, plainFor_of_name (by decide +kernel)⟩
theorem mc_X9_puts : Cond.code yX9_puts cX9_puts 3 (none) ∈ rn_WS := rn_ws 1293 (by decide +kernel) rfl
abbrev M_X9_put : rn_M := (yX9_put, cX9_put, 4, some .int)
theorem mo_X9_put : rn_mok M_X9_put 2 := ⟨⟨by decide +kernel, by decide +kernel, by decide +kernel⟩, by decide, plainFor_of_name (by decide +kernel)⟩
theorem mc_X9_put : Cond.code yX9_put cX9_put 4 (some .int) ∈ rn_WS := rn_ws 1285 (by decide +kernel) rfl
abbrev M_X9_call : rn_M := (yX9_call, cX9_call, 4, some .int)
theorem mo_X9_call : rn_mok M_X9_call 2 := ⟨⟨by decide +kernel, by decide +kernel, by decide +kernel⟩, by decide, plainFor_of_name (by decide +kernel)⟩
theorem mc_X9_call : Cond.code yX9_call cX9_call 4 (some .int) ∈ rn_WS := rn_ws 1297 (by decide +kernel) rfl
abbrev M_X9_shut : rn_M := (yX9_shut, cX9_shut, 4, some .int)
theorem mo_X9_shut : rn_mok M_X9_shut 2 := ⟨⟨by decide +kernel, by decide +kernel, by decide +kernel⟩, by decide, plainFor_of_name (by decide +kernel)⟩
theorem mc_X9_shut : Cond.code yX9_shut cX9_shut 4 (some .int) ∈ rn_WS := rn_ws 1305 (by decide +kernel) rfl
abbrev M_X9_row : rn_M := (yX9_row, cX9_row, 5, some .int)
theorem mo_X9_row : rn_mok M_X9_row 3 := ⟨⟨by decide +kernel, by decide +kernel, by decide +kernel⟩, by decide, plainFor_of_name (by decide +kernel)⟩
theorem mc_X9_row : Cond.code yX9_row cX9_row 5 (some .int) ∈ rn_WS := rn_ws 1313 (by decide +kernel) rfl
abbrev M_X9_round : rn_M := (yX9_round, cX9_round, 2, some .int)
theorem mo_X9_round : rn_mok M_X9_round 1 := ⟨⟨by decide +kernel, by decide +kernel, by decide +kernel⟩, by decide, plainFor_of_name (by decide +kernel)⟩
theorem mc_X9_round : Cond.code yX9_round cX9_round 2 (some .int) ∈ rn_WS := rn_ws 1317 (by decide +kernel) rfl
abbrev M_X9_feed : rn_M := (yX9_feed, cX9_feed, 2, some .int)
theorem mo_X9_feed : rn_mok M_X9_feed 1 := ⟨⟨by decide +kernel, by decide +kernel, by decide +kernel⟩, by decide, plainFor_of_name (by decide +kernel)⟩
theorem mc_X9_feed : Cond.code yX9_feed cX9_feed 2 (some .int) ∈ rn_WS := rn_ws 1321 (by decide +kernel) rfl
abbrev M_X9_next : rn_M := (yX9_next, cX9_next, 1, some .int)
theorem mo_X9_next : rn_mok M_X9_next 0 := ⟨⟨by decide +kernel, by decide +kernel, by decide +kernel⟩, by decide, plainFor_of_name (by decide +kernel)⟩
theorem mc_X9_next : Cond.code yX9_next cX9_next 1 (some .int) ∈ rn_WS := rn_ws 1341 (by decide +kernel) rfl
abbrev M_X9_takes : rn_M := (yX9_takes, cX9_takes, 2, some .boolean)
theorem mo_X9_takes : rn_mok M_X9_takes 1 := ⟨⟨by decide +kernel, by decide +kernel, by decide +kernel⟩, by decide, plainFor_of_name (by decide +kernel)⟩
theorem mc_X9_takes : Cond.code yX9_takes cX9_takes 2 (some .boolean) ∈ rn_WS := rn_ws 1349 (by decide +kernel) rfl
abbrev M_X9_takesWord : rn_M := (yX9_takesWord, cX9_takesWord, 4, some .boolean)
theorem mo_X9_takesWord : rn_mok M_X9_takesWord 2 := ⟨⟨by decide +kernel, by decide +kernel, by decide +kernel⟩, by decide, plainFor_of_name (by decide +kernel)⟩
theorem mc_X9_takesWord : Cond.code yX9_takesWord cX9_takesWord 4 (some .boolean) ∈ rn_WS := rn_ws 1345 (by decide +kernel) rfl
abbrev M_X9_isDigit : rn_M := (yX9_isDigit, cX9_isDigit, 1, some .boolean)
theorem mo_X9_isDigit : rn_mok M_X9_isDigit 0 := ⟨⟨by decide +kernel, by decide +kernel, by decide +kernel⟩, by decide, plainFor_of_name (by decide +kernel)⟩
theorem mc_X9_isDigit : Cond.code yX9_isDigit cX9_isDigit 1 (some .boolean) ∈ rn_WS := rn_ws 1357 (by decide +kernel) rfl
abbrev M_X9_takesNumber : rn_M := (yX9_takesNumber, cX9_takesNumber, 2, some .boolean)
theorem mo_X9_takesNumber : rn_mok M_X9_takesNumber 0 := ⟨⟨by decide +kernel, by decide +kernel, by decide +kernel⟩, by decide, plainFor_of_name (by decide +kernel)⟩
theorem mc_X9_takesNumber : Cond.code yX9_takesNumber cX9_takesNumber 2 (some .boolean) ∈ rn_WS := rn_ws 1353 (by decide +kernel) rfl
abbrev M_X9_emits : rn_M := (yX9_emits, cX9_emits, 2, none)
theorem mo_X9_emits : rn_mok M_X9_emits 1 := ⟨⟨by decide +kernel, by decide +kernel, by decide +kernel⟩, by decide, plainFor_of_name (by decide +kernel)⟩
theorem mc_X9_emits : Cond.code yX9_emits cX9_emits 2 (none) ∈ rn_WS := rn_ws 1373 (by decide +kernel) rfl
abbrev M_X9_whole : rn_M := (yX9_whole, cX9_whole, 1, none)
theorem mo_X9_whole : rn_mok M_X9_whole 0 := ⟨⟨by decide +kernel, by decide +kernel, by decide +kernel⟩, by decide, plainFor_of_name (by decide +kernel)⟩
theorem mc_X9_whole : Cond.code yX9_whole cX9_whole 1 (none) ∈ rn_WS := rn_ws 1377 (by decide +kernel) rfl
abbrev M_X9_settle : rn_M := (yX9_settle, cX9_settle, 2, none)
theorem mo_X9_settle : rn_mok M_X9_settle 1 := ⟨⟨by decide +kernel, by decide +kernel, by decide +kernel⟩, by decide, plainFor_of_name (by decide +kernel)⟩
theorem mc_X9_settle : Cond.code yX9_settle cX9_settle 2 (none) ∈ rn_WS := rn_ws 1381 (by decide +kernel) rfl
abbrev M_X9_place : rn_M := (yX9_place, cX9_place, 2, some .int)
theorem mo_X9_place : rn_mok M_X9_place 1 := ⟨⟨by decide +kernel, by decide +kernel, by decide +kernel⟩, by decide, plainFor_of_name (by decide +kernel)⟩
theorem mc_X9_place : Cond.code yX9_place cX9_place 2 (some .int) ∈ rn_WS := rn_ws 1369 (by decide +kernel) rfl
abbrev M_X9_takesTest : rn_M := (yX9_takesTest, cX9_takesTest, 3, some .boolean)
theorem mo_X9_takesTest : rn_mok M_X9_takesTest 0 := ⟨⟨by decide +kernel, by decide +kernel, by decide +kernel⟩, by decide, plainFor_of_name (by decide +kernel)⟩
theorem mc_X9_takesTest : Cond.code yX9_takesTest cX9_takesTest 3 (some .boolean) ∈ rn_WS := rn_ws 1365 (by decide +kernel) rfl
abbrev M_X9_takesE : rn_M := (yX9_takesE, cX9_takesE, 4, some .boolean)
theorem mo_X9_takesE : rn_mok M_X9_takesE 1 := ⟨⟨by decide +kernel, by decide +kernel, by decide +kernel⟩, by decide, plainFor_of_name (by decide +kernel)⟩
theorem mc_X9_takesE : Cond.code yX9_takesE cX9_takesE 4 (some .boolean) ∈ rn_WS := rn_ws 1361 (by decide +kernel) rfl
abbrev M_X9_takesHead : rn_M := (yX9_takesHead, cX9_takesHead, 2, some .boolean)
theorem mo_X9_takesHead : rn_mok M_X9_takesHead 1 := ⟨⟨by decide +kernel, by decide +kernel, by decide +kernel⟩, by decide, plainFor_of_name (by decide +kernel)⟩
theorem mc_X9_takesHead : Cond.code yX9_takesHead cX9_takesHead 2 (some .boolean) ∈ rn_WS := rn_ws 1337 (by decide +kernel) rfl
abbrev M_X9_takesClause : rn_M := (yX9_takesClause, cX9_takesClause, 2, some .boolean)
theorem mo_X9_takesClause : rn_mok M_X9_takesClause 1 := ⟨⟨by decide +kernel, by decide +kernel, by decide +kernel⟩, by decide, plainFor_of_name (by decide +kernel)⟩
theorem mc_X9_takesClause : Cond.code yX9_takesClause cX9_takesClause 2 (some .boolean) ∈ rn_WS := rn_ws 1333 (by decide +kernel) rfl
abbrev M_X9_goesText : rn_M := (yX9_goesText, cX9_goesText, 3, some .boolean)
theorem mo_X9_goesText : rn_mok M_X9_goesText 1 := ⟨⟨by decide +kernel, by decide +kernel, by decide +kernel⟩, by decide, plainFor_of_name (by decide +kernel)⟩
theorem mc_X9_goesText : Cond.code yX9_goesText cX9_goesText 3 (some .boolean) ∈ rn_WS := rn_ws 1329 (by decide +kernel) rfl
abbrev M_X9_dusk : rn_M := (yX9_dusk, cX9_dusk, 2, some .int)
theorem mo_X9_dusk : rn_mok M_X9_dusk 0 := ⟨⟨by decide +kernel, by decide +kernel, by decide +kernel⟩, by decide, plainFor_of_name (by decide +kernel)⟩
theorem mc_X9_dusk : Cond.code yX9_dusk cX9_dusk 2 (some .int) ∈ rn_WS := rn_ws 1325 (by decide +kernel) rfl
abbrev M_X9_begin : rn_M := (yX9_begin, cX9_begin, 1, some .int)
theorem mo_X9_begin : rn_mok M_X9_begin 0 := ⟨⟨by decide +kernel, by decide +kernel, by decide +kernel⟩, by decide, plainFor_of_name (by decide +kernel)⟩
theorem mc_X9_begin : Cond.code yX9_begin cX9_begin 1 (some .int) ∈ rn_WS := rn_ws 1393 (by decide +kernel) rfl
abbrev M_X9_behind : rn_M := (yX9_behind, cX9_behind, 1, some .int)
theorem mo_X9_behind : rn_mok M_X9_behind 0 := ⟨⟨by decide +kernel, by decide +kernel, by decide +kernel⟩, by decide, plainFor_of_name (by decide +kernel)⟩
theorem mc_X9_behind : Cond.code yX9_behind cX9_behind 1 (some .int) ∈ rn_WS := rn_ws 1397 (by decide +kernel) rfl
abbrev M_X9_lastOf : rn_M := (yX9_lastOf, cX9_lastOf, 5, some .int)
theorem mo_X9_lastOf : rn_mok M_X9_lastOf 2 := ⟨⟨by decide +kernel, by decide +kernel, by decide +kernel⟩, by decide, plainFor_of_name (by decide +kernel)⟩
theorem mc_X9_lastOf : Cond.code yX9_lastOf cX9_lastOf 5 (some .int) ∈ rn_WS := rn_ws 1425 (by decide +kernel) rfl
abbrev M_X9_pace : rn_M := (yX9_pace, cX9_pace, 2, some .int)
theorem mo_X9_pace : rn_mok M_X9_pace 0 := ⟨⟨by decide +kernel, by decide +kernel, by decide +kernel⟩, by decide, plainFor_of_name (by decide +kernel)⟩
theorem mc_X9_pace : Cond.code yX9_pace cX9_pace 2 (some .int) ∈ rn_WS := rn_ws 1441 (by decide +kernel) rfl
abbrev M_X9_factOf : rn_M := (yX9_factOf, cX9_factOf, 3, some .int)
theorem mo_X9_factOf : rn_mok M_X9_factOf 2 := ⟨⟨by decide +kernel, by decide +kernel, by decide +kernel⟩, by decide, plainFor_of_name (by decide +kernel)⟩
theorem mc_X9_factOf : Cond.code yX9_factOf cX9_factOf 3 (some .int) ∈ rn_WS := rn_ws 1405 (by decide +kernel) rfl
abbrev M_X9_holds : rn_M := (yX9_holds, cX9_holds, 8, some .boolean)
theorem mo_X9_holds : rn_mok M_X9_holds 2 := ⟨⟨by decide +kernel, by decide +kernel, by decide +kernel⟩, by decide, plainFor_of_name (by decide +kernel)⟩
theorem mc_X9_holds : Cond.code yX9_holds cX9_holds 8 (some .boolean) ∈ rn_WS := rn_ws 1401 (by decide +kernel) rfl
abbrev M_X9_ears : rn_M := (yX9_ears, cX9_ears, 4, some .int)
theorem mo_X9_ears : rn_mok M_X9_ears 1 := ⟨⟨by decide +kernel, by decide +kernel, by decide +kernel⟩, by decide, plainFor_of_name (by decide +kernel)⟩
theorem mc_X9_ears : Cond.code yX9_ears cX9_ears 4 (some .int) ∈ rn_WS := rn_ws 1389 (by decide +kernel) rfl
abbrev M_X9_up : rn_M := (yX9_up, cX9_up, 3, some .int)
theorem mo_X9_up : rn_mok M_X9_up 2 := ⟨⟨by decide +kernel, by decide +kernel, by decide +kernel⟩, by decide, plainFor_of_name (by decide +kernel)⟩
theorem mc_X9_up : Cond.code yX9_up cX9_up 3 (some .int) ∈ rn_WS := rn_ws 1421 (by decide +kernel) rfl
abbrev M_X9_way : rn_M := (yX9_way, cX9_way, 4, some .int)
theorem mo_X9_way : rn_mok M_X9_way 2 := ⟨⟨by decide +kernel, by decide +kernel, by decide +kernel⟩, by decide, plainFor_of_name (by decide +kernel)⟩
theorem mc_X9_way : Cond.code yX9_way cX9_way 4 (some .int) ∈ rn_WS := rn_ws 1417 (by decide +kernel) rfl
abbrev M_X9_toward : rn_M := (yX9_toward, cX9_toward, 6, some .int)
theorem mo_X9_toward : rn_mok M_X9_toward 3 := ⟨⟨by decide +kernel, by decide +kernel, by decide +kernel⟩, by decide, plainFor_of_name (by decide +kernel)⟩
theorem mc_X9_toward : Cond.code yX9_toward cX9_toward 6 (some .int) ∈ rn_WS := rn_ws 1461 (by decide +kernel) rfl
abbrev M_X9_hears : rn_M := (yX9_hears, cX9_hears, 2, some .boolean)
theorem mo_X9_hears : rn_mok M_X9_hears 1 := ⟨⟨by decide +kernel, by decide +kernel, by decide +kernel⟩, by decide, plainFor_of_name (by decide +kernel)⟩
theorem mc_X9_hears : Cond.code yX9_hears cX9_hears 2 (some .boolean) ∈ rn_WS := rn_ws 1413 (by decide +kernel) rfl
abbrev M_X9_steps : rn_M := (yX9_steps, cX9_steps, 3, some .int)
theorem mo_X9_steps : rn_mok M_X9_steps 1 := ⟨⟨by decide +kernel, by decide +kernel, by decide +kernel⟩, by decide, plainFor_of_name (by decide +kernel)⟩
theorem mc_X9_steps : Cond.code yX9_steps cX9_steps 3 (some .int) ∈ rn_WS := rn_ws 1429 (by decide +kernel) rfl
abbrev M_X9_goal : rn_M := (yX9_goal, cX9_goal, 7, some .int)
theorem mo_X9_goal : rn_mok M_X9_goal 1 := ⟨⟨by decide +kernel, by decide +kernel, by decide +kernel⟩, by decide, plainFor_of_name (by decide +kernel)⟩
theorem mc_X9_goal : Cond.code yX9_goal cX9_goal 7 (some .int) ∈ rn_WS := rn_ws 1433 (by decide +kernel) rfl
abbrev M_X9_of : rn_M := (yX9_of, cX9_of, 3, some .int)
theorem mo_X9_of : rn_mok M_X9_of 2 := ⟨⟨by decide +kernel, by decide +kernel, by decide +kernel⟩, by decide, plainFor_of_name (by decide +kernel)⟩
theorem mc_X9_of : Cond.code yX9_of cX9_of 3 (some .int) ∈ rn_WS := rn_ws 1385 (by decide +kernel) rfl
abbrev M_X9_told : rn_M := (yX9_told, cX9_told, 2, some .int)
theorem mo_X9_told : rn_mok M_X9_told 1 := ⟨⟨by decide +kernel, by decide +kernel, by decide +kernel⟩, by decide, plainFor_of_name (by decide +kernel)⟩
theorem mc_X9_told : Cond.code yX9_told cX9_told 2 (some .int) ∈ rn_WS := rn_ws 1437 (by decide +kernel) rfl
abbrev M_X9_goPerson : rn_M := (yX9_goPerson, cX9_goPerson, 3, none)
theorem mo_X9_goPerson : rn_mok M_X9_goPerson 1 := ⟨⟨by decide +kernel, by decide +kernel, by decide +kernel⟩, by decide, plainFor_of_name (by decide +kernel)⟩
theorem mc_X9_goPerson : Cond.code yX9_goPerson cX9_goPerson 3 (none) ∈ rn_WS := rn_ws 1457 (by decide +kernel) rfl
abbrev M_X9_goKeeper : rn_M := (yX9_goKeeper, cX9_goKeeper, 2, none)
theorem mo_X9_goKeeper : rn_mok M_X9_goKeeper 0 := ⟨⟨by decide +kernel, by decide +kernel, by decide +kernel⟩, by decide, plainFor_of_name (by decide +kernel)⟩
theorem mc_X9_goKeeper : Cond.code yX9_goKeeper cX9_goKeeper 2 (none) ∈ rn_WS := rn_ws 1465 (by decide +kernel) rfl
abbrev M_X9_goMinute : rn_M := (yX9_goMinute, cX9_goMinute, 2, none)
theorem mo_X9_goMinute : rn_mok M_X9_goMinute 0 := ⟨⟨by decide +kernel, by decide +kernel, by decide +kernel⟩, by decide, plainFor_of_name (by decide +kernel)⟩
theorem mc_X9_goMinute : Cond.code yX9_goMinute cX9_goMinute 2 (none) ∈ rn_WS := rn_ws 1453 (by decide +kernel) rfl
abbrev M_X9_goMinutes : rn_M := (yX9_goMinutes, cX9_goMinutes, 3, none)
theorem mo_X9_goMinutes : rn_mok M_X9_goMinutes 1 := ⟨⟨by decide +kernel, by decide +kernel, by decide +kernel⟩, by decide, plainFor_of_name (by decide +kernel)⟩
theorem mc_X9_goMinutes : Cond.code yX9_goMinutes cX9_goMinutes 3 (none) ∈ rn_WS := rn_ws 1449 (by decide +kernel) rfl
abbrev M_X9_pass : rn_M := (yX9_pass, cX9_pass, 2, some .int)
theorem mo_X9_pass : rn_mok M_X9_pass 1 := ⟨⟨by decide +kernel, by decide +kernel, by decide +kernel⟩, by decide, plainFor_of_name (by decide +kernel)⟩
theorem mc_X9_pass : Cond.code yX9_pass cX9_pass 2 (some .int) ∈ rn_WS := rn_ws 1445 (by decide +kernel) rfl
abbrev M_X9_save : rn_M := (yX9_save, cX9_save, 2, none)
theorem mo_X9_save : rn_mok M_X9_save 0 := ⟨⟨by decide +kernel, by decide +kernel, by decide +kernel⟩, by decide, plainFor_of_name (by decide +kernel)⟩
theorem mc_X9_save : Cond.code yX9_save cX9_save 2 (none) ∈ rn_WS := rn_ws 1477 (by decide +kernel) rfl
abbrev M_X9_putBack : rn_M := (yX9_putBack, cX9_putBack, 2, none)
theorem mo_X9_putBack : rn_mok M_X9_putBack 0 := ⟨⟨by decide +kernel, by decide +kernel, by decide +kernel⟩, by decide, plainFor_of_name (by decide +kernel)⟩
theorem mc_X9_putBack : Cond.code yX9_putBack cX9_putBack 2 (none) ∈ rn_WS := rn_ws 1481 (by decide +kernel) rfl
abbrev M_X9_on : rn_M := (yX9_on, cX9_on, 4, some .int)
theorem mo_X9_on : rn_mok M_X9_on 2 := ⟨⟨by decide +kernel, by decide +kernel, by decide +kernel⟩, by decide, plainFor_of_name (by decide +kernel)⟩
theorem mc_X9_on : Cond.code yX9_on cX9_on 4 (some .int) ∈ rn_WS := rn_ws 1469 (by decide +kernel) rfl
abbrev M_X9_all : rn_M := (yX9_all, cX9_all, 1, some .int)
theorem mo_X9_all : rn_mok M_X9_all 0 := ⟨⟨by decide +kernel, by decide +kernel, by decide +kernel⟩, by decide, plainFor_of_name (by decide +kernel)⟩
theorem mc_X9_all : Cond.code yX9_all cX9_all 1 (some .int) ∈ rn_WS := rn_ws 1489 (by decide +kernel) rfl
abbrev M_X9_clear : rn_M := (yX9_clear, cX9_clear, 2, some .int)
theorem mo_X9_clear : rn_mok M_X9_clear 0 := ⟨⟨by decide +kernel, by decide +kernel, by decide +kernel⟩, by decide, plainFor_of_name (by decide +kernel)⟩
theorem mc_X9_clear : Cond.code yX9_clear cX9_clear 2 (some .int) ∈ rn_WS := rn_ws 1485 (by decide +kernel) rfl
abbrev M_X9_stay : rn_M := (yX9_stay, cX9_stay, 1, some .int)
theorem mo_X9_stay : rn_mok M_X9_stay 0 := ⟨⟨by decide +kernel, by decide +kernel, by decide +kernel⟩, by decide, plainFor_of_name (by decide +kernel)⟩
theorem mc_X9_stay : Cond.code yX9_stay cX9_stay 1 (some .int) ∈ rn_WS := rn_ws 1493 (by decide +kernel) rfl
abbrev M_X9_leftThen : rn_M := (yX9_leftThen, cX9_leftThen, 2, some .int)
theorem mo_X9_leftThen : rn_mok M_X9_leftThen 0 := ⟨⟨by decide +kernel, by decide +kernel, by decide +kernel⟩, by decide, plainFor_of_name (by decide +kernel)⟩
theorem mc_X9_leftThen : Cond.code yX9_leftThen cX9_leftThen 2 (some .int) ∈ rn_WS := rn_ws 1506 (by decide +kernel) rfl
abbrev M_X9_left : rn_M := (yX9_left, cX9_left, 1, some .int)
theorem mo_X9_left : rn_mok M_X9_left 0 := ⟨⟨by decide +kernel, by decide +kernel, by decide +kernel⟩, by decide, plainFor_of_name (by decide +kernel)⟩
theorem mc_X9_left : Cond.code yX9_left cX9_left 1 (some .int) ∈ rn_WS := rn_ws 1514 (by decide +kernel) rfl
abbrev M_X9_firstOf : rn_M := (yX9_firstOf, cX9_firstOf, 5, some .int)
theorem mo_X9_firstOf : rn_mok M_X9_firstOf 0 := ⟨⟨by decide +kernel, by decide +kernel, by decide +kernel⟩, by decide, plainFor_of_name (by decide +kernel)⟩
theorem mc_X9_firstOf : Cond.code yX9_firstOf cX9_firstOf 5 (some .int) ∈ rn_WS := rn_ws 1502 (by decide +kernel) rfl
abbrev M_X9_swapOf : rn_M := (yX9_swapOf, cX9_swapOf, 6, some .int)
theorem mo_X9_swapOf : rn_mok M_X9_swapOf 0 := ⟨⟨by decide +kernel, by decide +kernel, by decide +kernel⟩, by decide, plainFor_of_name (by decide +kernel)⟩
theorem mc_X9_swapOf : Cond.code yX9_swapOf cX9_swapOf 6 (some .int) ∈ rn_WS := rn_ws 1510 (by decide +kernel) rfl
abbrev M_X9_quickOf : rn_M := (yX9_quickOf, cX9_quickOf, 5, some .int)
theorem mo_X9_quickOf : rn_mok M_X9_quickOf 0 := ⟨⟨by decide +kernel, by decide +kernel, by decide +kernel⟩, by decide, plainFor_of_name (by decide +kernel)⟩
theorem mc_X9_quickOf : Cond.code yX9_quickOf cX9_quickOf 5 (some .int) ∈ rn_WS := rn_ws 1518 (by decide +kernel) rfl
abbrev M_X9_waitOf : rn_M := (yX9_waitOf, cX9_waitOf, 5, some .int)
theorem mo_X9_waitOf : rn_mok M_X9_waitOf 0 := ⟨⟨by decide +kernel, by decide +kernel, by decide +kernel⟩, by decide, plainFor_of_name (by decide +kernel)⟩
theorem mc_X9_waitOf : Cond.code yX9_waitOf cX9_waitOf 5 (some .int) ∈ rn_WS := rn_ws 1522 (by decide +kernel) rfl
abbrev M_X9_openOf : rn_M := (yX9_openOf, cX9_openOf, 5, some .int)
theorem mo_X9_openOf : rn_mok M_X9_openOf 0 := ⟨⟨by decide +kernel, by decide +kernel, by decide +kernel⟩, by decide, plainFor_of_name (by decide +kernel)⟩
theorem mc_X9_openOf : Cond.code yX9_openOf cX9_openOf 5 (some .int) ∈ rn_WS := rn_ws 1526 (by decide +kernel) rfl
abbrev M_X9_best : rn_M := (yX9_best, cX9_best, 2, some .int)
theorem mo_X9_best : rn_mok M_X9_best 1 := ⟨⟨by decide +kernel, by decide +kernel, by decide +kernel⟩, by decide, plainFor_of_name (by decide +kernel)⟩
theorem mc_X9_best : Cond.code yX9_best cX9_best 2 (some .int) ∈ rn_WS := rn_ws 1498 (by decide +kernel) rfl
abbrev M_X9_hides : rn_M := (yX9_hides, cX9_hides, 4, some .int)
theorem mo_X9_hides : rn_mok M_X9_hides 1 := ⟨⟨by decide +kernel, by decide +kernel, by decide +kernel⟩, by decide, plainFor_of_name (by decide +kernel)⟩
theorem mc_X9_hides : Cond.code yX9_hides cX9_hides 4 (some .int) ∈ rn_WS := rn_ws 1530 (by decide +kernel) rfl
abbrev M_X9_see : rn_M := (yX9_see, cX9_see, 4, some .int)
theorem mo_X9_see : rn_mok M_X9_see 3 := ⟨⟨by decide +kernel, by decide +kernel, by decide +kernel⟩, by decide, plainFor_of_name (by decide +kernel)⟩
theorem mc_X9_see : Cond.code yX9_see cX9_see 4 (some .int) ∈ rn_WS := rn_ws 1534 (by decide +kernel) rfl
abbrev M_X9_isSeen : rn_M := (yX9_isSeen, cX9_isSeen, 5, some .boolean)
theorem mo_X9_isSeen : rn_mok M_X9_isSeen 2 := ⟨⟨by decide +kernel, by decide +kernel, by decide +kernel⟩, by decide, plainFor_of_name (by decide +kernel)⟩
theorem mc_X9_isSeen : Cond.code yX9_isSeen cX9_isSeen 5 (some .boolean) ∈ rn_WS := rn_ws 1542 (by decide +kernel) rfl
abbrev M_X9_where : rn_M := (yX9_where, cX9_where, 6, some .int)
theorem mo_X9_where : rn_mok M_X9_where 2 := ⟨⟨by decide +kernel, by decide +kernel, by decide +kernel⟩, by decide, plainFor_of_name (by decide +kernel)⟩
theorem mc_X9_where : Cond.code yX9_where cX9_where 6 (some .int) ∈ rn_WS := rn_ws 1538 (by decide +kernel) rfl
abbrev M_X9_can : rn_M := (yX9_can, cX9_can, 7, some .int)
theorem mo_X9_can : rn_mok M_X9_can 2 := ⟨⟨by decide +kernel, by decide +kernel, by decide +kernel⟩, by decide, plainFor_of_name (by decide +kernel)⟩
theorem mc_X9_can : Cond.code yX9_can cX9_can 7 (some .int) ∈ rn_WS := rn_ws 1546 (by decide +kernel) rfl
abbrev M_X9_divisor : rn_M := (yX9_divisor, cX9_divisor, 6, some .int)
theorem mo_X9_divisor : rn_mok M_X9_divisor 2 := ⟨⟨by decide +kernel, by decide +kernel, by decide +kernel⟩, by decide, plainFor_of_name (by decide +kernel)⟩
theorem mc_X9_divisor : Cond.code yX9_divisor cX9_divisor 6 (some .int) ∈ rn_WS := rn_ws 1559 (by decide +kernel) rfl
abbrev M_X9_lowest : rn_M := (yX9_lowest, cX9_lowest, 5, some .long)
theorem mo_X9_lowest : rn_mok M_X9_lowest 3 := ⟨⟨by decide +kernel, by decide +kernel, by decide +kernel⟩, by decide, plainFor_of_name (by decide +kernel)⟩
theorem mc_X9_lowest : Cond.code yX9_lowest cX9_lowest 5 (some .long) ∈ rn_WS := rn_ws 1555 (by decide +kernel) rfl
abbrev M_X9_odds : rn_M := (yX9_odds, cX9_odds, 5, some .long)
theorem mo_X9_odds : rn_mok M_X9_odds 2 := ⟨⟨by decide +kernel, by decide +kernel, by decide +kernel⟩, by decide, plainFor_of_name (by decide +kernel)⟩
theorem mc_X9_odds : Cond.code yX9_odds cX9_odds 5 (some .long) ∈ rn_WS := rn_ws 1550 (by decide +kernel) rfl
abbrev M_X9_mean : rn_M := (yX9_mean, cX9_mean, 5, some .long)
theorem mo_X9_mean : rn_mok M_X9_mean 2 := ⟨⟨by decide +kernel, by decide +kernel, by decide +kernel⟩, by decide, plainFor_of_name (by decide +kernel)⟩
theorem mc_X9_mean : Cond.code yX9_mean cX9_mean 5 (some .long) ∈ rn_WS := rn_ws 1563 (by decide +kernel) rfl
abbrev M_X9_evening : rn_M := (yX9_evening, cX9_evening, 3, some .int)
theorem mo_X9_evening : rn_mok M_X9_evening 2 := ⟨⟨by decide +kernel, by decide +kernel, by decide +kernel⟩, by decide, plainFor_of_name (by decide +kernel)⟩
theorem mc_X9_evening : Cond.code yX9_evening cX9_evening 3 (some .int) ∈ rn_WS := rn_ws 1567 (by decide +kernel) rfl
abbrev M_X9_gone : rn_M := (yX9_gone, cX9_gone, 3, some .int)
theorem mo_X9_gone : rn_mok M_X9_gone 1 := ⟨⟨by decide +kernel, by decide +kernel, by decide +kernel⟩, by decide, plainFor_of_name (by decide +kernel)⟩
theorem mc_X9_gone : Cond.code yX9_gone cX9_gone 3 (some .int) ∈ rn_WS := rn_ws 1571 (by decide +kernel) rfl
abbrev M_X9_book : rn_M := (yX9_book, cX9_book, 3, some .int)
theorem mo_X9_book : rn_mok M_X9_book 2 := ⟨⟨by decide +kernel, by decide +kernel, by decide +kernel⟩, by decide, plainFor_of_name (by decide +kernel)⟩
theorem mc_X9_book : Cond.code yX9_book cX9_book 3 (some .int) ∈ rn_WS := rn_ws 1575 (by decide +kernel) rfl
abbrev M_X9_looked : rn_M := (yX9_looked, cX9_looked, 2, some .int)
theorem mo_X9_looked : rn_mok M_X9_looked 0 := ⟨⟨by decide +kernel, by decide +kernel, by decide +kernel⟩, by decide, plainFor_of_name (by decide +kernel)⟩
theorem mc_X9_looked : Cond.code yX9_looked cX9_looked 2 (some .int) ∈ rn_WS := rn_ws 1579 (by decide +kernel) rfl
abbrev M_X9_judge : rn_M := (yX9_judge, cX9_judge, 4, some .int)
theorem mo_X9_judge : rn_mok M_X9_judge 2 := ⟨⟨by decide +kernel, by decide +kernel, by decide +kernel⟩, by decide, plainFor_of_name (by decide +kernel)⟩
theorem mc_X9_judge : Cond.code yX9_judge cX9_judge 4 (some .int) ∈ rn_WS := rn_ws 1583 (by decide +kernel) rfl
abbrev M_X9_image : rn_M := (yX9_image, cX9_image, 2, some .int)
theorem mo_X9_image : rn_mok M_X9_image 0 := ⟨⟨by decide +kernel, by decide +kernel, by decide +kernel⟩, by decide, plainFor_of_name (by decide +kernel)⟩
theorem mc_X9_image : Cond.code yX9_image cX9_image 2 (some .int) ∈ rn_WS := rn_ws 1591 (by decide +kernel) rfl
abbrev M_X9_undo : rn_M := (yX9_undo, cX9_undo, 2, some .int)
theorem mo_X9_undo : rn_mok M_X9_undo 0 := ⟨⟨by decide +kernel, by decide +kernel, by decide +kernel⟩, by decide, plainFor_of_name (by decide +kernel)⟩
theorem mc_X9_undo : Cond.code yX9_undo cX9_undo 2 (some .int) ∈ rn_WS := rn_ws 1595 (by decide +kernel) rfl
abbrev M_X9_body : rn_M := (yX9_body, cX9_body, 2, none)
theorem mo_X9_body : rn_mok M_X9_body 1 := ⟨⟨by decide +kernel, by decide +kernel, by decide +kernel⟩, by decide, plainFor_of_name (by decide +kernel)⟩
theorem mc_X9_body : Cond.code yX9_body cX9_body 2 (none) ∈ rn_WS := rn_ws 1607 (by decide +kernel) rfl
abbrev M_X9_personWaits : rn_M := (yX9_personWaits, cX9_personWaits, 3, some .int)
theorem mo_X9_personWaits : rn_mok M_X9_personWaits 2 := ⟨⟨by decide +kernel, by decide +kernel, by decide +kernel⟩, by decide, plainFor_of_name (by decide +kernel)⟩
theorem mc_X9_personWaits : Cond.code yX9_personWaits cX9_personWaits 3 (some .int) ∈ rn_WS := rn_ws 1611 (by decide +kernel) rfl
abbrev M_X9_waitsAct : rn_M := (yX9_waitsAct, cX9_waitsAct, 3, some .int)
theorem mo_X9_waitsAct : rn_mok M_X9_waitsAct 2 := ⟨⟨by decide +kernel, by decide +kernel, by decide +kernel⟩, by decide, plainFor_of_name (by decide +kernel)⟩
theorem mc_X9_waitsAct : Cond.code yX9_waitsAct cX9_waitsAct 3 (some .int) ∈ rn_WS := rn_ws 1603 (by decide +kernel) rfl
abbrev M_X9_personWalks : rn_M := (yX9_personWalks, cX9_personWalks, 3, some .int)
theorem mo_X9_personWalks : rn_mok M_X9_personWalks 2 := ⟨⟨by decide +kernel, by decide +kernel, by decide +kernel⟩, by decide, plainFor_of_name (by decide +kernel)⟩
theorem mc_X9_personWalks : Cond.code yX9_personWalks cX9_personWalks 3 (some .int) ∈ rn_WS := rn_ws 1623 (by decide +kernel) rfl
abbrev M_X9_oldWalks : rn_M := (yX9_oldWalks, cX9_oldWalks, 3, some .int)
theorem mo_X9_oldWalks : rn_mok M_X9_oldWalks 2 := ⟨⟨by decide +kernel, by decide +kernel, by decide +kernel⟩, by decide, plainFor_of_name (by decide +kernel)⟩
theorem mc_X9_oldWalks : Cond.code yX9_oldWalks cX9_oldWalks 3 (some .int) ∈ rn_WS := rn_ws 1619 (by decide +kernel) rfl
abbrev M_X9_walksAct : rn_M := (yX9_walksAct, cX9_walksAct, 4, some .int)
theorem mo_X9_walksAct : rn_mok M_X9_walksAct 2 := ⟨⟨by decide +kernel, by decide +kernel, by decide +kernel⟩, by decide, plainFor_of_name (by decide +kernel)⟩
theorem mc_X9_walksAct : Cond.code yX9_walksAct cX9_walksAct 4 (some .int) ∈ rn_WS := rn_ws 1615 (by decide +kernel) rfl
abbrev M_X9_personTells : rn_M := (yX9_personTells, cX9_personTells, 3, some .int)
theorem mo_X9_personTells : rn_mok M_X9_personTells 2 := ⟨⟨by decide +kernel, by decide +kernel, by decide +kernel⟩, by decide, plainFor_of_name (by decide +kernel)⟩
theorem mc_X9_personTells : Cond.code yX9_personTells cX9_personTells 3 (some .int) ∈ rn_WS := rn_ws 1631 (by decide +kernel) rfl
abbrev M_X9_tellsAct : rn_M := (yX9_tellsAct, cX9_tellsAct, 4, some .int)
theorem mo_X9_tellsAct : rn_mok M_X9_tellsAct 2 := ⟨⟨by decide +kernel, by decide +kernel, by decide +kernel⟩, by decide, plainFor_of_name (by decide +kernel)⟩
theorem mc_X9_tellsAct : Cond.code yX9_tellsAct cX9_tellsAct 4 (some .int) ∈ rn_WS := rn_ws 1627 (by decide +kernel) rfl
abbrev M_X9_act : rn_M := (yX9_act, cX9_act, 4, some .int)
theorem mo_X9_act : rn_mok M_X9_act 3 := ⟨⟨by decide +kernel, by decide +kernel, by decide +kernel⟩, by decide, plainFor_of_name (by decide +kernel)⟩
theorem mc_X9_act : Cond.code yX9_act cX9_act 4 (some .int) ∈ rn_WS := rn_ws 1599 (by decide +kernel) rfl
abbrev M_X9_trace : rn_M := (yX9_trace, cX9_trace, 2, some .int)
theorem mo_X9_trace : rn_mok M_X9_trace 1 := ⟨⟨by decide +kernel, by decide +kernel, by decide +kernel⟩, by decide, plainFor_of_name (by decide +kernel)⟩
theorem mc_X9_trace : Cond.code yX9_trace cX9_trace 2 (some .int) ∈ rn_WS := rn_ws 1635 (by decide +kernel) rfl
abbrev M_X9_taken : rn_M := (yX9_taken, cX9_taken, 4, some .int)
theorem mo_X9_taken : rn_mok M_X9_taken 2 := ⟨⟨by decide +kernel, by decide +kernel, by decide +kernel⟩, by decide, plainFor_of_name (by decide +kernel)⟩
theorem mc_X9_taken : Cond.code yX9_taken cX9_taken 4 (some .int) ∈ rn_WS := rn_ws 1639 (by decide +kernel) rfl
abbrev M_X9_count : rn_M := (yX9_count, cX9_count, 2, some .int)
theorem mo_X9_count : rn_mok M_X9_count 1 := ⟨⟨by decide +kernel, by decide +kernel, by decide +kernel⟩, by decide, plainFor_of_name (by decide +kernel)⟩
theorem mc_X9_count : Cond.code yX9_count cX9_count 2 (some .int) ∈ rn_WS := rn_ws 1643 (by decide +kernel) rfl
abbrev M_X9_isTape : rn_M := (yX9_isTape, cX9_isTape, 2, some .boolean)
theorem mo_X9_isTape : rn_mok M_X9_isTape 1 := ⟨⟨by decide +kernel, by decide +kernel, by decide +kernel⟩, by decide, plainFor_of_name (by decide +kernel)⟩
theorem mc_X9_isTape : Cond.code yX9_isTape cX9_isTape 2 (some .boolean) ∈ rn_WS := rn_ws 1587 (by decide +kernel) rfl
abbrev M_X9_tape : rn_M := (yX9_tape, cX9_tape, 5, some .int)
theorem mo_X9_tape : rn_mok M_X9_tape 3 := ⟨⟨by decide +kernel, by decide +kernel, by decide +kernel⟩, by decide, plainFor_of_name (by decide +kernel)⟩
theorem mc_X9_tape : Cond.code yX9_tape cX9_tape 5 (some .int) ∈ rn_WS := rn_ws 1647 (by decide +kernel) rfl
abbrev M_X9_narrow : rn_M := (yX9_narrow, cX9_narrow, 4, some .long)
theorem mo_X9_narrow : rn_mok M_X9_narrow 2 := ⟨⟨by decide +kernel, by decide +kernel, by decide +kernel⟩, by decide, plainFor_of_name (by decide +kernel)⟩
theorem mc_X9_narrow : Cond.code yX9_narrow cX9_narrow 4 (some .long) ∈ rn_WS := rn_ws 1655 (by decide +kernel) rfl
abbrev M_X9_item : rn_M := (yX9_item, cX9_item, 5, some .int)
theorem mo_X9_item : rn_mok M_X9_item 3 := ⟨⟨by decide +kernel, by decide +kernel, by decide +kernel⟩, by decide, plainFor_of_name (by decide +kernel)⟩
theorem mc_X9_item : Cond.code yX9_item cX9_item 5 (some .int) ∈ rn_WS := rn_ws 1651 (by decide +kernel) rfl
abbrev M_X9_read : rn_M := (yX9_read, cX9_read, 3, some .long)
theorem mo_X9_read : rn_mok M_X9_read 2 := ⟨⟨by decide +kernel, by decide +kernel, by decide +kernel⟩, by decide, plainFor_of_name (by decide +kernel)⟩
theorem mc_X9_read : Cond.code yX9_read cX9_read 3 (some .long) ∈ rn_WS := rn_ws 1659 (by decide +kernel) rfl
abbrev M_X9_shift : rn_M := (yX9_shift, cX9_shift, 7, some .int)
theorem mo_X9_shift : rn_mok M_X9_shift 5 := ⟨⟨by decide +kernel, by decide +kernel, by decide +kernel⟩, by decide, plainFor_of_name (by decide +kernel)⟩
theorem mc_X9_shift : Cond.code yX9_shift cX9_shift 7 (some .int) ∈ rn_WS := rn_ws 1663 (by decide +kernel) rfl
abbrev M_L_law : rn_M := (yL_law, cL_law, 4, some .boolean)
abbrev M_J0_length_8abf5 : rn_M := (yJ0_length_8abf5, cJ0_length_8abf5, 1, some .int)
theorem mo_J0_length_8abf5 : rn_mok M_J0_length_8abf5 0 := ⟨⟨by decide +kernel, by decide +kernel, by decide +kernel⟩, by decide, plainFor_of_name (by decide +kernel)⟩
theorem mc_J0_length_8abf5 : Cond.code yJ0_length_8abf5 cJ0_length_8abf5 1 (some .int) ∈ rn_WS := rn_ws 560 (by decide +kernel) rfl
abbrev M_J0_charAt_5068e : rn_M := (yJ0_charAt_5068e, cJ0_charAt_5068e, 2, some .char)
theorem mo_J0_charAt_5068e : rn_mok M_J0_charAt_5068e 1 := ⟨⟨by decide +kernel, by decide +kernel, by decide +kernel⟩, by decide, plainFor_of_name (by decide +kernel)⟩
theorem mc_J0_charAt_5068e : Cond.code yJ0_charAt_5068e cJ0_charAt_5068e 2 (some .char) ∈ rn_WS := rn_ws 570 (by decide +kernel) rfl
abbrev M_J0_indexOf_0f7a4 : rn_M := (yJ0_indexOf_0f7a4, cJ0_indexOf_0f7a4, 2, some .int)
theorem mo_J0_indexOf_0f7a4 : rn_mok M_J0_indexOf_0f7a4 1 := ⟨⟨by decide +kernel, by decide +kernel, by decide +kernel⟩, by decide, plainFor_of_name (by decide +kernel)⟩
theorem mc_J0_indexOf_0f7a4 : Cond.code yJ0_indexOf_0f7a4 cJ0_indexOf_0f7a4 2 (some .int) ∈ rn_WS := rn_ws 641 (by decide +kernel) rfl
abbrev M_J0_indexOf_7cf53 : rn_M := (yJ0_indexOf_7cf53, cJ0_indexOf_7cf53, 3, some .int)
theorem mo_J0_indexOf_7cf53 : rn_mok M_J0_indexOf_7cf53 2 := ⟨⟨by decide +kernel, by decide +kernel, by decide +kernel⟩, by decide, plainFor_of_name (by decide +kernel)⟩
theorem mc_J0_indexOf_7cf53 : Cond.code yJ0_indexOf_7cf53 cJ0_indexOf_7cf53 3 (some .int) ∈ rn_WS := rn_ws 645 (by decide +kernel) rfl
abbrev M_J0_coder_7d493 : rn_M := (yJ0_coder_7d493, cJ0_coder_7d493, 1, some .byte)
theorem mo_J0_coder_7d493 : rn_mok M_J0_coder_7d493 0 := ⟨⟨by decide +kernel, by decide +kernel, by decide +kernel⟩, by decide, plainFor_of_name (by decide +kernel)⟩
theorem mc_J0_coder_7d493 : Cond.code yJ0_coder_7d493 cJ0_coder_7d493 1 (some .byte) ∈ rn_WS := rn_ws 564 (by decide +kernel) rfl
abbrev M_J0_isLatin1_aae02 : rn_M := (yJ0_isLatin1_aae02, cJ0_isLatin1_aae02, 1, some .boolean)
theorem mo_J0_isLatin1_aae02 : rn_mok M_J0_isLatin1_aae02 0 := ⟨⟨by decide +kernel, by decide +kernel, by decide +kernel⟩, by decide, plainFor_of_name (by decide +kernel)⟩
theorem mc_J0_isLatin1_aae02 : Cond.code yJ0_isLatin1_aae02 cJ0_isLatin1_aae02 1 (some .boolean) ∈ rn_WS := rn_ws 574 (by decide +kernel) rfl
abbrev M_J0_checkIndex_df160 : rn_M := (yJ0_checkIndex_df160, cJ0_checkIndex_df160, 2, none)
theorem mo_J0_checkIndex_df160 : rn_mok M_J0_checkIndex_df160 2 := ⟨⟨by decide +kernel, by decide +kernel, by decide +kernel⟩, by decide, plainFor_of_name (by decide +kernel)⟩
theorem mc_J0_checkIndex_df160 : Cond.code yJ0_checkIndex_df160 cJ0_checkIndex_df160 2 (none) ∈ rn_WS := rn_ws 580 (by decide +kernel) rfl
abbrev M_J1_charAt_3b067 : rn_M := (yJ1_charAt_3b067, cJ1_charAt_3b067, 2, some .char)
theorem mo_J1_charAt_3b067 : rn_mok M_J1_charAt_3b067 2 := ⟨⟨by decide +kernel, by decide +kernel, by decide +kernel⟩, by decide, plainFor_of_name (by decide +kernel)⟩
theorem mc_J1_charAt_3b067 : Cond.code yJ1_charAt_3b067 cJ1_charAt_3b067 2 (some .char) ∈ rn_WS := rn_ws 577 (by decide +kernel) rfl
abbrev M_J1_canEncode_9a6ad : rn_M := (yJ1_canEncode_9a6ad, cJ1_canEncode_9a6ad, 1, some .boolean)
theorem mo_J1_canEncode_9a6ad : rn_mok M_J1_canEncode_9a6ad 1 := ⟨⟨by decide +kernel, by decide +kernel, by decide +kernel⟩, by decide, plainFor_of_name (by decide +kernel)⟩
theorem mc_J1_canEncode_9a6ad : Cond.code yJ1_canEncode_9a6ad cJ1_canEncode_9a6ad 1 (some .boolean) ∈ rn_WS := rn_ws 652 (by decide +kernel) rfl
abbrev M_J1_indexOf_4cfef : rn_M := (yJ1_indexOf_4cfef, cJ1_indexOf_4cfef, 4, some .int)
theorem mo_J1_indexOf_4cfef : rn_mok M_J1_indexOf_4cfef 4 := ⟨⟨by decide +kernel, by decide +kernel, by decide +kernel⟩, by decide, plainFor_of_name (by decide +kernel)⟩
theorem mc_J1_indexOf_4cfef : Cond.code yJ1_indexOf_4cfef cJ1_indexOf_4cfef 4 (some .int) ∈ rn_WS := rn_ws 649 (by decide +kernel) rfl
abbrev M_J1_indexOfChar_4cfef : rn_M := (yJ1_indexOfChar_4cfef, cJ1_indexOfChar_4cfef, 6, some .int)
theorem mo_J1_indexOfChar_4cfef : rn_mok M_J1_indexOfChar_4cfef 4 := ⟨⟨by decide +kernel, by decide +kernel, by decide +kernel⟩, by decide, plainFor_of_name (by decide +kernel)⟩
theorem mc_J1_indexOfChar_4cfef : Cond.code yJ1_indexOfChar_4cfef cJ1_indexOfChar_4cfef 6 (some .int) ∈ rn_WS := rn_ws 657 (by decide +kernel) rfl
abbrev M_J3_checkIndex_8e157 : rn_M := (yJ3_checkIndex_8e157, cJ3_checkIndex_8e157, 3, some .int)
theorem mo_J3_checkIndex_8e157 : rn_mok M_J3_checkIndex_8e157 3 := ⟨⟨by decide +kernel, by decide +kernel, by decide +kernel⟩, by decide, plainFor_of_name (by decide +kernel)⟩
theorem mc_J3_checkIndex_8e157 : Cond.code yJ3_checkIndex_8e157 cJ3_checkIndex_8e157 3 (some .int) ∈ rn_WS := rn_ws 585 (by decide +kernel) rfl
abbrev M_J9_floorMod_7cf53 : rn_M := (yJ9_floorMod_7cf53, cJ9_floorMod_7cf53, 3, some .int)
theorem mo_J9_floorMod_7cf53 : rn_mok M_J9_floorMod_7cf53 2 := ⟨⟨by decide +kernel, by decide +kernel, by decide +kernel⟩, by decide, by decide +kernel⟩
theorem mc_J9_floorMod_7cf53 : Cond.code yJ9_floorMod_7cf53 cJ9_floorMod_7cf53 3 (some .int) ∈ rn_WS := rn_ws 468 (by decide +kernel) rfl
abbrev M_J9_max_7cf53 : rn_M := (yJ9_max_7cf53, cJ9_max_7cf53, 2, some .int)
theorem mo_J9_max_7cf53 : rn_mok M_J9_max_7cf53 2 := ⟨⟨by decide +kernel, by decide +kernel, by decide +kernel⟩, by decide, by decide +kernel⟩
theorem mc_J9_max_7cf53 : Cond.code yJ9_max_7cf53 cJ9_max_7cf53 2 (some .int) ∈ rn_WS := rn_ws 615 (by decide +kernel) rfl
abbrev M_J9_min_7cf53 : rn_M := (yJ9_min_7cf53, cJ9_min_7cf53, 2, some .int)
theorem mo_J9_min_7cf53 : rn_mok M_J9_min_7cf53 2 := ⟨⟨by decide +kernel, by decide +kernel, by decide +kernel⟩, by decide, by decide +kernel⟩
theorem mc_J9_min_7cf53 : Cond.code yJ9_min_7cf53 cJ9_min_7cf53 2 (some .int) ∈ rn_WS := rn_ws 471 (by decide +kernel) rfl
abbrev M_J6_bitCount_0f7a4 : rn_M := (yJ6_bitCount_0f7a4, cJ6_bitCount_0f7a4, 1, some .int)
theorem mo_J6_bitCount_0f7a4 : rn_mok M_J6_bitCount_0f7a4 1 := ⟨⟨by decide +kernel, by decide +kernel, by decide +kernel⟩, by decide, plainFor_of_name (by decide +kernel)⟩
theorem mc_J6_bitCount_0f7a4 : Cond.code yJ6_bitCount_0f7a4 cJ6_bitCount_0f7a4 1 (some .int) ∈ rn_WS := rn_ws 447 (by decide +kernel) rfl
abbrev M_J6_numberOfTrailingZeros_0f7a4 : rn_M := (yJ6_numberOfTrailingZeros_0f7a4, cJ6_numberOfTrailingZeros_0f7a4, 2, some .int)
theorem mo_J6_numberOfTrailingZeros_0f7a4 : rn_mok M_J6_numberOfTrailingZeros_0f7a4 1 := ⟨⟨by decide +kernel, by decide +kernel, by decide +kernel⟩, by decide, plainFor_of_name (by decide +kernel)⟩
theorem mc_J6_numberOfTrailingZeros_0f7a4 : Cond.code yJ6_numberOfTrailingZeros_0f7a4 cJ6_numberOfTrailingZeros_0f7a4 2 (some .int) ∈ rn_WS := rn_ws 840 (by decide +kernel) rfl
theorem mi_obj : Cond.instanceMethod Lib.objectInit ∈ rn_WS := rn_ws 108 (by decide +kernel) rfl
theorem mi_objc : Cond.code Lib.objectInit ⟨#[0xb1]⟩ 1 none ∈ rn_WS := rn_ws 109 (by decide +kernel) rfl
theorem ma_nat : Cond.native arraycopyName ∈ rn_WS := rn_ws 749 (by decide +kernel) rfl
theorem ma_st : Cond.static arraycopyName ∈ rn_WS := rn_ws 748 (by decide +kernel) rfl
theorem ma_in : Cond.initialized "java/lang/System" ∈ rn_WS := rn_ws 101 (by decide +kernel) rfl
theorem mk_int : Cond.arrayClass .int ∈ rn_WS := rn_ws 143 (by decide +kernel) rfl
theorem mk_byte : Cond.arrayClass .byte ∈ rn_WS := rn_ws 321 (by decide +kernel) rfl
theorem mk_boolean : Cond.arrayClass .boolean ∈ rn_WS := rn_ws 1261 (by decide +kernel) rfl
theorem mk_long : Cond.arrayClass .long ∈ rn_WS := rn_ws 369 (by decide +kernel) rfl
theorem ob_RX0_3 : Cond.methodLink RX0 3 Lib.objectInit ∈ rn_WS := rn_ws 329 (by decide +kernel) rfl
theorem fl_RX0_9 : rn_FL RX0 9 0 0 := ⟨(RX0, TX0, 5), rfl, by decide, rn_ws 330 (by decide +kernel) rfl⟩
theorem fl_RX0_15 : rn_FL RX0 15 0 3 := ⟨(RX0, TX0, 5), rfl, by decide, rn_ws 335 (by decide +kernel) rfl⟩
theorem fl_RX0_19 : rn_FL RX0 19 4 0 := ⟨(RX4, TX4, 7), rfl, by decide, rn_ws 150 (by decide +kernel) rfl⟩
theorem fl_RX0_24 : rn_FL RX0 24 0 2 := ⟨(RX0, TX0, 5), rfl, by decide, rn_ws 334 (by decide +kernel) rfl⟩
theorem fl_RX0_25 : rn_FL RX0 25 4 1 := ⟨(RX4, TX4, 7), rfl, by decide, rn_ws 154 (by decide +kernel) rfl⟩
theorem fl_RX0_28 : rn_FL RX0 28 0 4 := ⟨(RX0, TX0, 5), rfl, by decide, rn_ws 336 (by decide +kernel) rfl⟩
theorem mn_X0_run : Cond.instanceMethod yX0_run ∈ rn_WS := rn_ws 908 (by decide +kernel) rfl
theorem mx_X0_run : Cond.selects RX0 yX0_run yX0_run ∈ rn_WS := rn_ws 17 (by decide +kernel) rfl
theorem mz_RX0 : Cond.initialized RX0 ∈ rn_WS := rn_ws 91 (by decide +kernel) rfl
theorem mm_RX0_29 : rn_MV RX0 29 M_X0_run 4 := ⟨rn_gi (pre := [.methodLink RX0 29 yX0_run, .instanceMethod yX0_run, .selects RX0 yX0_run yX0_run, .initialized RX0]) mc_X0_run (List.forall_mem_cons.mpr ⟨rn_ws 906 (by decide +kernel) rfl, List.forall_mem_cons.mpr ⟨mn_X0_run, List.forall_mem_cons.mpr ⟨mx_X0_run, List.forall_mem_cons.mpr ⟨mz_RX0, (fun _ h => absurd h List.not_mem_nil)⟩⟩⟩⟩), mo_X0_run⟩
theorem mt_X0_bodyOf : Cond.static yX0_bodyOf ∈ rn_WS := rn_ws 911 (by decide +kernel) rfl
theorem mm_RX0_33 : rn_MS RX0 33 M_X0_bodyOf 2 := ⟨rn_gi (pre := [.methodLink RX0 33 yX0_bodyOf, .static yX0_bodyOf, .initialized RX0]) mc_X0_bodyOf (List.forall_mem_cons.mpr ⟨rn_ws 910 (by decide +kernel) rfl, List.forall_mem_cons.mpr ⟨mt_X0_bodyOf, List.forall_mem_cons.mpr ⟨mz_RX0, (fun _ h => absurd h List.not_mem_nil)⟩⟩⟩), mo_X0_bodyOf⟩
theorem mn_X0_keep : Cond.instanceMethod yX0_keep ∈ rn_WS := rn_ws 919 (by decide +kernel) rfl
theorem mx_X0_keep : Cond.selects RX0 yX0_keep yX0_keep ∈ rn_WS := rn_ws 18 (by decide +kernel) rfl
theorem mm_RX0_37 : rn_MV RX0 37 M_X0_keep 1 := ⟨rn_gi (pre := [.methodLink RX0 37 yX0_keep, .instanceMethod yX0_keep, .selects RX0 yX0_keep yX0_keep, .initialized RX0]) mc_X0_keep (List.forall_mem_cons.mpr ⟨rn_ws 917 (by decide +kernel) rfl, List.forall_mem_cons.mpr ⟨mn_X0_keep, List.forall_mem_cons.mpr ⟨mx_X0_keep, List.forall_mem_cons.mpr ⟨mz_RX0, (fun _ h => absurd h List.not_mem_nil)⟩⟩⟩⟩), mo_X0_keep⟩
theorem mn_X0_answerOf : Cond.instanceMethod yX0_answerOf ∈ rn_WS := rn_ws 923 (by decide +kernel) rfl
theorem mx_X0_answerOf : Cond.selects RX0 yX0_answerOf yX0_answerOf ∈ rn_WS := rn_ws 19 (by decide +kernel) rfl
theorem mm_RX0_41 : rn_MV RX0 41 M_X0_answerOf 3 := ⟨rn_gi (pre := [.methodLink RX0 41 yX0_answerOf, .instanceMethod yX0_answerOf, .selects RX0 yX0_answerOf yX0_answerOf, .initialized RX0]) mc_X0_answerOf (List.forall_mem_cons.mpr ⟨rn_ws 921 (by decide +kernel) rfl, List.forall_mem_cons.mpr ⟨mn_X0_answerOf, List.forall_mem_cons.mpr ⟨mx_X0_answerOf, List.forall_mem_cons.mpr ⟨mz_RX0, (fun _ h => absurd h List.not_mem_nil)⟩⟩⟩⟩), mo_X0_answerOf⟩
theorem gn_RX0_45 : Cond.fieldLinkNest RX0 45 "LockedAtDusk" "KIND_ABOVE" "[I" "LockedAtDusk" ∈ rn_NW := List.mem_filter.mpr ⟨List.mem_of_getElem? (i := 915) (by decide +kernel), rfl⟩
theorem gn_RX0_48 : Cond.fieldLinkNest RX0 48 "LockedAtDusk" "BODIES" "[I" "LockedAtDusk" ∈ rn_NW := List.mem_filter.mpr ⟨List.mem_of_getElem? (i := 913) (by decide +kernel), rfl⟩
theorem fl_RX0_51 : rn_FL RX0 51 0 1 := ⟨(RX0, TX0, 5), rfl, by decide, rn_ws 332 (by decide +kernel) rfl⟩
theorem ob_RX1_3 : Cond.methodLink RX1 3 Lib.objectInit ∈ rn_WS := rn_ws 123 (by decide +kernel) rfl
theorem fl_RX1_9 : rn_FL RX1 9 1 0 := ⟨(RX1, TX1, 4), rfl, by decide, rn_ws 124 (by decide +kernel) rfl⟩
theorem fl_RX1_15 : rn_FL RX1 15 1 2 := ⟨(RX1, TX1, 4), rfl, by decide, rn_ws 126 (by decide +kernel) rfl⟩
theorem fl_RX1_19 : rn_FL RX1 19 1 3 := ⟨(RX1, TX1, 4), rfl, by decide, rn_ws 130 (by decide +kernel) rfl⟩
theorem fl_RX1_22 : rn_FL RX1 22 1 1 := ⟨(RX1, TX1, 4), rfl, by decide, rn_ws 125 (by decide +kernel) rfl⟩
theorem mt_X1_testHolds : Cond.static yX1_testHolds ∈ rn_WS := rn_ws 456 (by decide +kernel) rfl
theorem mz_RX1 : Cond.initialized RX1 ∈ rn_WS := rn_ws 86 (by decide +kernel) rfl
theorem mm_RX1_25 : rn_MS RX1 25 M_X1_testHolds 2 := ⟨rn_gi (pre := [.methodLink RX1 25 yX1_testHolds, .static yX1_testHolds, .initialized RX1]) mc_X1_testHolds (List.forall_mem_cons.mpr ⟨rn_ws 455 (by decide +kernel) rfl, List.forall_mem_cons.mpr ⟨mt_X1_testHolds, List.forall_mem_cons.mpr ⟨mz_RX1, (fun _ h => absurd h List.not_mem_nil)⟩⟩⟩), mo_X1_testHolds⟩
theorem mt_X8_bit : Cond.static yX8_bit ∈ rn_WS := rn_ws 439 (by decide +kernel) rfl
theorem mz_RX8 : Cond.initialized RX8 ∈ rn_WS := rn_ws 84 (by decide +kernel) rfl
theorem mm_RX1_29 : rn_MSN RX1 29 "LockedAtDusk" M_X8_bit 1 := ⟨⟨rn_gi (pre := [.static yX8_bit, .initialized RX8]) mc_X8_bit (List.forall_mem_cons.mpr ⟨mt_X8_bit, List.forall_mem_cons.mpr ⟨mz_RX8, (fun _ h => absurd h List.not_mem_nil)⟩⟩), List.mem_filter.mpr ⟨List.mem_of_getElem? (i := 458) (by decide +kernel), rfl⟩⟩, mo_X8_bit⟩
theorem ob_RX2_3 : Cond.methodLink RX2 3 Lib.objectInit ∈ rn_WS := rn_ws 274 (by decide +kernel) rfl
theorem cl_RX2_9 : Cond.classLink RX2 9 RX3 ∈ rn_WS := rn_ws 275 (by decide +kernel) rfl
theorem mz_RX3 : Cond.initialized RX3 ∈ rn_WS := rn_ws 85 (by decide +kernel) rfl
theorem nw_RX3 : Cond.instantiable RX3 15 ∈ rn_WS := rn_ws 111 (by decide +kernel) rfl
theorem mn_X3_init : Cond.instanceMethod yX3_init ∈ rn_WS := rn_ws 113 (by decide +kernel) rfl
theorem mm_RX2_11 : rn_MI RX2 11 M_X3_init 0 := ⟨⟨rn_gi (pre := [.methodLink RX2 11 yX3_init, .instanceMethod yX3_init, .initialized RX3]) mc_X3_init (List.forall_mem_cons.mpr ⟨rn_ws 276 (by decide +kernel) rfl, List.forall_mem_cons.mpr ⟨mn_X3_init, List.forall_mem_cons.mpr ⟨mz_RX3, (fun _ h => absurd h List.not_mem_nil)⟩⟩⟩), rfl, rfl⟩, mo_X3_init⟩
theorem fl_RX2_12 : rn_FL RX2 12 2 0 := ⟨(RX2, TX2, 5), rfl, by decide, rn_ws 279 (by decide +kernel) rfl⟩
theorem cl_RX2_18 : Cond.classLink RX2 18 RX6 ∈ rn_WS := rn_ws 277 (by decide +kernel) rfl
theorem mz_RX6 : Cond.initialized RX6 ∈ rn_WS := rn_ws 88 (by decide +kernel) rfl
theorem nw_RX6 : Cond.instantiable RX6 4 ∈ rn_WS := rn_ws 247 (by decide +kernel) rfl
theorem mn_X6_init : Cond.instanceMethod yX6_init ∈ rn_WS := rn_ws 249 (by decide +kernel) rfl
theorem mm_RX2_20 : rn_MI RX2 20 M_X6_init 1 := ⟨⟨rn_gi (pre := [.methodLink RX2 20 yX6_init, .instanceMethod yX6_init, .initialized RX6]) mc_X6_init (List.forall_mem_cons.mpr ⟨rn_ws 278 (by decide +kernel) rfl, List.forall_mem_cons.mpr ⟨mn_X6_init, List.forall_mem_cons.mpr ⟨mz_RX6, (fun _ h => absurd h List.not_mem_nil)⟩⟩⟩), rfl, rfl⟩, mo_X6_init⟩
theorem fl_RX2_23 : rn_FL RX2 23 2 1 := ⟨(RX2, TX2, 5), rfl, by decide, rn_ws 281 (by decide +kernel) rfl⟩
theorem fl_RX2_27 : rn_FL RX2 27 2 2 := ⟨(RX2, TX2, 5), rfl, by decide, rn_ws 283 (by decide +kernel) rfl⟩
theorem fl_RX2_30 : rn_FL RX2 30 2 3 := ⟨(RX2, TX2, 5), rfl, by decide, rn_ws 285 (by decide +kernel) rfl⟩
theorem ob_RX3_3 : Cond.methodLink RX3 3 Lib.objectInit ∈ rn_WS := rn_ws 115 (by decide +kernel) rfl
theorem fl_RX3_9 : rn_FL RX3 9 3 0 := ⟨(RX3, TX3, 15), rfl, by decide, rn_ws 187 (by decide +kernel) rfl⟩
theorem cl_RX3_15 : Cond.classLink RX3 15 RX4 ∈ rn_WS := rn_ws 116 (by decide +kernel) rfl
theorem fl_RX3_17 : rn_FL RX3 17 3 1 := ⟨(RX3, TX3, 15), rfl, by decide, rn_ws 189 (by decide +kernel) rfl⟩
theorem fl_RX3_21 : rn_FL RX3 21 3 2 := ⟨(RX3, TX3, 15), rfl, by decide, rn_ws 191 (by decide +kernel) rfl⟩
theorem fl_RX3_26 : rn_FL RX3 26 3 3 := ⟨(RX3, TX3, 15), rfl, by decide, rn_ws 193 (by decide +kernel) rfl⟩
theorem cl_RX3_24 : Cond.classLink RX3 24 RX1 ∈ rn_WS := rn_ws 118 (by decide +kernel) rfl
theorem nw_RX1 : Cond.instantiable RX1 4 ∈ rn_WS := rn_ws 119 (by decide +kernel) rfl
theorem mn_X1_init : Cond.instanceMethod yX1_init ∈ rn_WS := rn_ws 121 (by decide +kernel) rfl
theorem mm_RX3_29 : rn_MIN RX3 29 "LockedAtDusk" M_X1_init 0 := ⟨⟨rn_gi (pre := [.instanceMethod yX1_init, .initialized RX1]) mc_X1_init (List.forall_mem_cons.mpr ⟨mn_X1_init, List.forall_mem_cons.mpr ⟨mz_RX1, (fun _ h => absurd h List.not_mem_nil)⟩⟩), List.mem_filter.mpr ⟨List.mem_of_getElem? (i := 120) (by decide +kernel), rfl⟩, rfl, rfl⟩, mo_X1_init⟩
theorem fl_RX3_30 : rn_FL RX3 30 3 11 := ⟨(RX3, TX3, 15), rfl, by decide, rn_ws 208 (by decide +kernel) rfl⟩
theorem fl_RX3_34 : rn_FL RX3 34 3 14 := ⟨(RX3, TX3, 15), rfl, by decide, rn_ws 214 (by decide +kernel) rfl⟩
theorem mn_X4_init : Cond.instanceMethod yX4_init ∈ rn_WS := rn_ws 146 (by decide +kernel) rfl
theorem mz_RX4 : Cond.initialized RX4 ∈ rn_WS := rn_ws 87 (by decide +kernel) rfl
theorem mm_RX3_38 : rn_MIN RX3 38 "LockedAtDusk" M_X4_init 0 := ⟨⟨rn_gi (pre := [.instanceMethod yX4_init, .initialized RX4]) mc_X4_init (List.forall_mem_cons.mpr ⟨mn_X4_init, List.forall_mem_cons.mpr ⟨mz_RX4, (fun _ h => absurd h List.not_mem_nil)⟩⟩), List.mem_filter.mpr ⟨List.mem_of_getElem? (i := 145) (by decide +kernel), rfl⟩, rfl, rfl⟩, mo_X4_init⟩
theorem ac_RX3_39 : Cond.methodLink RX3 39 arraycopyName ∈ rn_WS := rn_ws 747 (by decide +kernel) rfl
theorem fl_RX3_45 : rn_FL RX3 45 3 6 := ⟨(RX3, TX3, 15), rfl, by decide, rn_ws 198 (by decide +kernel) rfl⟩
theorem mn_X4_copyFrom : Cond.instanceMethod yX4_copyFrom ∈ rn_WS := rn_ws 751 (by decide +kernel) rfl
theorem mx_X4_copyFrom : Cond.selects RX4 yX4_copyFrom yX4_copyFrom ∈ rn_WS := rn_ws 752 (by decide +kernel) rfl
theorem mm_RX3_48 : rn_MV RX3 48 M_X4_copyFrom 1 := ⟨rn_gi (pre := [.methodLink RX3 48 yX4_copyFrom, .instanceMethod yX4_copyFrom, .selects RX4 yX4_copyFrom yX4_copyFrom, .initialized RX4]) mc_X4_copyFrom (List.forall_mem_cons.mpr ⟨rn_ws 750 (by decide +kernel) rfl, List.forall_mem_cons.mpr ⟨mn_X4_copyFrom, List.forall_mem_cons.mpr ⟨mx_X4_copyFrom, List.forall_mem_cons.mpr ⟨mz_RX4, (fun _ h => absurd h List.not_mem_nil)⟩⟩⟩⟩), mo_X4_copyFrom⟩
theorem fl_RX3_52 : rn_FL RX3 52 3 4 := ⟨(RX3, TX3, 15), rfl, by decide, rn_ws 195 (by decide +kernel) rfl⟩
theorem fl_RX3_55 : rn_FL RX3 55 3 5 := ⟨(RX3, TX3, 15), rfl, by decide, rn_ws 196 (by decide +kernel) rfl⟩
theorem fl_RX3_58 : rn_FL RX3 58 3 7 := ⟨(RX3, TX3, 15), rfl, by decide, rn_ws 200 (by decide +kernel) rfl⟩
theorem fl_RX3_61 : rn_FL RX3 61 3 8 := ⟨(RX3, TX3, 15), rfl, by decide, rn_ws 202 (by decide +kernel) rfl⟩
theorem fl_RX3_64 : rn_FL RX3 64 3 9 := ⟨(RX3, TX3, 15), rfl, by decide, rn_ws 204 (by decide +kernel) rfl⟩
theorem fl_RX3_67 : rn_FL RX3 67 3 10 := ⟨(RX3, TX3, 15), rfl, by decide, rn_ws 206 (by decide +kernel) rfl⟩
theorem fl_RX3_70 : rn_FL RX3 70 3 12 := ⟨(RX3, TX3, 15), rfl, by decide, rn_ws 210 (by decide +kernel) rfl⟩
theorem fl_RX3_73 : rn_FL RX3 73 3 13 := ⟨(RX3, TX3, 15), rfl, by decide, rn_ws 212 (by decide +kernel) rfl⟩
theorem mn_X4_begin : Cond.instanceMethod yX4_begin ∈ rn_WS := rn_ws 427 (by decide +kernel) rfl
theorem mx_X4_begin : Cond.selects RX4 yX4_begin yX4_begin ∈ rn_WS := rn_ws 428 (by decide +kernel) rfl
theorem mm_RX3_76 : rn_MV RX3 76 M_X4_begin 3 := ⟨rn_gi (pre := [.methodLink RX3 76 yX4_begin, .instanceMethod yX4_begin, .selects RX4 yX4_begin yX4_begin, .initialized RX4]) mc_X4_begin (List.forall_mem_cons.mpr ⟨rn_ws 426 (by decide +kernel) rfl, List.forall_mem_cons.mpr ⟨mn_X4_begin, List.forall_mem_cons.mpr ⟨mx_X4_begin, List.forall_mem_cons.mpr ⟨mz_RX4, (fun _ h => absurd h List.not_mem_nil)⟩⟩⟩⟩), mo_X4_begin⟩
theorem fl_RX3_80 : rn_FL RX3 80 4 2 := ⟨(RX4, TX4, 7), rfl, by decide, rn_ws 159 (by decide +kernel) rfl⟩
theorem fl_RX3_83 : rn_FL RX3 83 4 5 := ⟨(RX4, TX4, 7), rfl, by decide, rn_ws 168 (by decide +kernel) rfl⟩
theorem mn_X3_setShut : Cond.instanceMethod yX3_setShut ∈ rn_WS := rn_ws 506 (by decide +kernel) rfl
theorem mx_X3_setShut : Cond.selects RX3 yX3_setShut yX3_setShut ∈ rn_WS := rn_ws 507 (by decide +kernel) rfl
theorem mm_RX3_87 : rn_MV RX3 87 M_X3_setShut 2 := ⟨rn_gi (pre := [.methodLink RX3 87 yX3_setShut, .instanceMethod yX3_setShut, .selects RX3 yX3_setShut yX3_setShut, .initialized RX3]) mc_X3_setShut (List.forall_mem_cons.mpr ⟨rn_ws 738 (by decide +kernel) rfl, List.forall_mem_cons.mpr ⟨mn_X3_setShut, List.forall_mem_cons.mpr ⟨mx_X3_setShut, List.forall_mem_cons.mpr ⟨mz_RX3, (fun _ h => absurd h List.not_mem_nil)⟩⟩⟩⟩), mo_X3_setShut⟩
theorem mn_X3_outBits : Cond.instanceMethod yX3_outBits ∈ rn_WS := rn_ws 707 (by decide +kernel) rfl
theorem mx_X3_outBits : Cond.selects RX3 yX3_outBits yX3_outBits ∈ rn_WS := rn_ws 708 (by decide +kernel) rfl
theorem mm_RX3_91 : rn_MV RX3 91 M_X3_outBits 0 := ⟨rn_gi (pre := [.methodLink RX3 91 yX3_outBits, .instanceMethod yX3_outBits, .selects RX3 yX3_outBits yX3_outBits, .initialized RX3]) mc_X3_outBits (List.forall_mem_cons.mpr ⟨rn_ws 763 (by decide +kernel) rfl, List.forall_mem_cons.mpr ⟨mn_X3_outBits, List.forall_mem_cons.mpr ⟨mx_X3_outBits, List.forall_mem_cons.mpr ⟨mz_RX3, (fun _ h => absurd h List.not_mem_nil)⟩⟩⟩⟩), mo_X3_outBits⟩
theorem mt_J6_bitCount_0f7a4 : Cond.static yJ6_bitCount_0f7a4 ∈ rn_WS := rn_ws 446 (by decide +kernel) rfl
theorem mz_RJ6 : Cond.initialized RJ6 ∈ rn_WS := rn_ws 94 (by decide +kernel) rfl
theorem mm_RX3_95 : rn_MS RX3 95 M_J6_bitCount_0f7a4 1 := ⟨rn_gi (pre := [.methodLink RX3 95 yJ6_bitCount_0f7a4, .static yJ6_bitCount_0f7a4, .initialized RJ6]) mc_J6_bitCount_0f7a4 (List.forall_mem_cons.mpr ⟨rn_ws 445 (by decide +kernel) rfl, List.forall_mem_cons.mpr ⟨mt_J6_bitCount_0f7a4, List.forall_mem_cons.mpr ⟨mz_RJ6, (fun _ h => absurd h List.not_mem_nil)⟩⟩⟩), mo_J6_bitCount_0f7a4⟩
theorem mn_X3_inside : Cond.instanceMethod yX3_inside ∈ rn_WS := rn_ws 760 (by decide +kernel) rfl
theorem mx_X3_inside : Cond.selects RX3 yX3_inside yX3_inside ∈ rn_WS := rn_ws 761 (by decide +kernel) rfl
theorem mm_RX3_101 : rn_MV RX3 101 M_X3_inside 0 := ⟨rn_gi (pre := [.methodLink RX3 101 yX3_inside, .instanceMethod yX3_inside, .selects RX3 yX3_inside yX3_inside, .initialized RX3]) mc_X3_inside (List.forall_mem_cons.mpr ⟨rn_ws 777 (by decide +kernel) rfl, List.forall_mem_cons.mpr ⟨mn_X3_inside, List.forall_mem_cons.mpr ⟨mx_X3_inside, List.forall_mem_cons.mpr ⟨mz_RX3, (fun _ h => absurd h List.not_mem_nil)⟩⟩⟩⟩), mo_X3_inside⟩
theorem mn_X3_passMinute : Cond.instanceMethod yX3_passMinute ∈ rn_WS := rn_ws 719 (by decide +kernel) rfl
theorem mx_X3_passMinute : Cond.selects RX3 yX3_passMinute yX3_passMinute ∈ rn_WS := rn_ws 720 (by decide +kernel) rfl
theorem mm_RX3_104 : rn_MV RX3 104 M_X3_passMinute 0 := ⟨rn_gi (pre := [.methodLink RX3 104 yX3_passMinute, .instanceMethod yX3_passMinute, .selects RX3 yX3_passMinute yX3_passMinute, .initialized RX3]) mc_X3_passMinute (List.forall_mem_cons.mpr ⟨rn_ws 718 (by decide +kernel) rfl, List.forall_mem_cons.mpr ⟨mn_X3_passMinute, List.forall_mem_cons.mpr ⟨mx_X3_passMinute, List.forall_mem_cons.mpr ⟨mz_RX3, (fun _ h => absurd h List.not_mem_nil)⟩⟩⟩⟩), mo_X3_passMinute⟩
theorem fl_RX3_107 : rn_FL RX3 107 4 4 := ⟨(RX4, TX4, 7), rfl, by decide, rn_ws 165 (by decide +kernel) rfl⟩
theorem mn_X3_hears : Cond.instanceMethod yX3_hears ∈ rn_WS := rn_ws 460 (by decide +kernel) rfl
theorem mx_X3_hears : Cond.selects RX3 yX3_hears yX3_hears ∈ rn_WS := rn_ws 461 (by decide +kernel) rfl
theorem mm_RX3_110 : rn_MV RX3 110 M_X3_hears 1 := ⟨rn_gi (pre := [.methodLink RX3 110 yX3_hears, .instanceMethod yX3_hears, .selects RX3 yX3_hears yX3_hears, .initialized RX3]) mc_X3_hears (List.forall_mem_cons.mpr ⟨rn_ws 722 (by decide +kernel) rfl, List.forall_mem_cons.mpr ⟨mn_X3_hears, List.forall_mem_cons.mpr ⟨mx_X3_hears, List.forall_mem_cons.mpr ⟨mz_RX3, (fun _ h => absurd h List.not_mem_nil)⟩⟩⟩⟩), mo_X3_hears⟩
theorem mn_X3_walk : Cond.instanceMethod yX3_walk ∈ rn_WS := rn_ws 725 (by decide +kernel) rfl
theorem mx_X3_walk : Cond.selects RX3 yX3_walk yX3_walk ∈ rn_WS := rn_ws 11 (by decide +kernel) rfl
theorem mm_RX3_114 : rn_MV RX3 114 M_X3_walk 1 := ⟨rn_gi (pre := [.methodLink RX3 114 yX3_walk, .instanceMethod yX3_walk, .selects RX3 yX3_walk yX3_walk, .initialized RX3]) mc_X3_walk (List.forall_mem_cons.mpr ⟨rn_ws 723 (by decide +kernel) rfl, List.forall_mem_cons.mpr ⟨mn_X3_walk, List.forall_mem_cons.mpr ⟨mx_X3_walk, List.forall_mem_cons.mpr ⟨mz_RX3, (fun _ h => absurd h List.not_mem_nil)⟩⟩⟩⟩), mo_X3_walk⟩
theorem mn_X3_goRound : Cond.instanceMethod yX3_goRound ∈ rn_WS := rn_ws 736 (by decide +kernel) rfl
theorem mx_X3_goRound : Cond.selects RX3 yX3_goRound yX3_goRound ∈ rn_WS := rn_ws 12 (by decide +kernel) rfl
theorem mm_RX3_117 : rn_MV RX3 117 M_X3_goRound 0 := ⟨rn_gi (pre := [.methodLink RX3 117 yX3_goRound, .instanceMethod yX3_goRound, .selects RX3 yX3_goRound yX3_goRound, .initialized RX3]) mc_X3_goRound (List.forall_mem_cons.mpr ⟨rn_ws 734 (by decide +kernel) rfl, List.forall_mem_cons.mpr ⟨mn_X3_goRound, List.forall_mem_cons.mpr ⟨mx_X3_goRound, List.forall_mem_cons.mpr ⟨mz_RX3, (fun _ h => absurd h List.not_mem_nil)⟩⟩⟩⟩), mo_X3_goRound⟩
theorem mn_X3_goal : Cond.instanceMethod yX3_goal ∈ rn_WS := rn_ws 478 (by decide +kernel) rfl
theorem mx_X3_goal : Cond.selects RX3 yX3_goal yX3_goal ∈ rn_WS := rn_ws 479 (by decide +kernel) rfl
theorem mm_RX3_120 : rn_MV RX3 120 M_X3_goal 1 := ⟨rn_gi (pre := [.methodLink RX3 120 yX3_goal, .instanceMethod yX3_goal, .selects RX3 yX3_goal yX3_goal, .initialized RX3]) mc_X3_goal (List.forall_mem_cons.mpr ⟨rn_ws 727 (by decide +kernel) rfl, List.forall_mem_cons.mpr ⟨mn_X3_goal, List.forall_mem_cons.mpr ⟨mx_X3_goal, List.forall_mem_cons.mpr ⟨mz_RX3, (fun _ h => absurd h List.not_mem_nil)⟩⟩⟩⟩), mo_X3_goal⟩
theorem mn_X3_hasGate : Cond.instanceMethod yX3_hasGate ∈ rn_WS := rn_ws 498 (by decide +kernel) rfl
theorem mx_X3_hasGate : Cond.selects RX3 yX3_hasGate yX3_hasGate ∈ rn_WS := rn_ws 499 (by decide +kernel) rfl
theorem mm_RX3_124 : rn_MV RX3 124 M_X3_hasGate 1 := ⟨rn_gi (pre := [.methodLink RX3 124 yX3_hasGate, .instanceMethod yX3_hasGate, .selects RX3 yX3_hasGate yX3_hasGate, .initialized RX3]) mc_X3_hasGate (List.forall_mem_cons.mpr ⟨rn_ws 728 (by decide +kernel) rfl, List.forall_mem_cons.mpr ⟨mn_X3_hasGate, List.forall_mem_cons.mpr ⟨mx_X3_hasGate, List.forall_mem_cons.mpr ⟨mz_RX3, (fun _ h => absurd h List.not_mem_nil)⟩⟩⟩⟩), mo_X3_hasGate⟩
theorem mn_X3_steps : Cond.instanceMethod yX3_steps ∈ rn_WS := rn_ws 474 (by decide +kernel) rfl
theorem mx_X3_steps : Cond.selects RX3 yX3_steps yX3_steps ∈ rn_WS := rn_ws 475 (by decide +kernel) rfl
theorem mm_RX3_127 : rn_MV RX3 127 M_X3_steps 1 := ⟨rn_gi (pre := [.methodLink RX3 127 yX3_steps, .instanceMethod yX3_steps, .selects RX3 yX3_steps yX3_steps, .initialized RX3]) mc_X3_steps (List.forall_mem_cons.mpr ⟨rn_ws 729 (by decide +kernel) rfl, List.forall_mem_cons.mpr ⟨mn_X3_steps, List.forall_mem_cons.mpr ⟨mx_X3_steps, List.forall_mem_cons.mpr ⟨mz_RX3, (fun _ h => absurd h List.not_mem_nil)⟩⟩⟩⟩), mo_X3_steps⟩
theorem mt_X3_toward : Cond.static yX3_toward ∈ rn_WS := rn_ws 731 (by decide +kernel) rfl
theorem mm_RX3_130 : rn_MS RX3 130 M_X3_toward 3 := ⟨rn_gi (pre := [.methodLink RX3 130 yX3_toward, .static yX3_toward, .initialized RX3]) mc_X3_toward (List.forall_mem_cons.mpr ⟨rn_ws 730 (by decide +kernel) rfl, List.forall_mem_cons.mpr ⟨mt_X3_toward, List.forall_mem_cons.mpr ⟨mz_RX3, (fun _ h => absurd h List.not_mem_nil)⟩⟩⟩), mo_X3_toward⟩
theorem mn_X3_isShut : Cond.instanceMethod yX3_isShut ∈ rn_WS := rn_ws 502 (by decide +kernel) rfl
theorem mx_X3_isShut : Cond.selects RX3 yX3_isShut yX3_isShut ∈ rn_WS := rn_ws 503 (by decide +kernel) rfl
theorem mm_RX3_134 : rn_MV RX3 134 M_X3_isShut 1 := ⟨rn_gi (pre := [.methodLink RX3 134 yX3_isShut, .instanceMethod yX3_isShut, .selects RX3 yX3_isShut yX3_isShut, .initialized RX3]) mc_X3_isShut (List.forall_mem_cons.mpr ⟨rn_ws 733 (by decide +kernel) rfl, List.forall_mem_cons.mpr ⟨mn_X3_isShut, List.forall_mem_cons.mpr ⟨mx_X3_isShut, List.forall_mem_cons.mpr ⟨mz_RX3, (fun _ h => absurd h List.not_mem_nil)⟩⟩⟩⟩), mo_X3_isShut⟩
theorem fl_RX3_137 : rn_FL RX3 137 4 3 := ⟨(RX4, TX4, 7), rfl, by decide, rn_ws 162 (by decide +kernel) rfl⟩
theorem fl_RX3_140 : rn_FL RX3 140 1 3 := ⟨(RX1, TX1, 4), rfl, by decide, rn_ws 133 (by decide +kernel) rfl⟩
theorem fl_RX3_143 : rn_FL RX3 143 4 0 := ⟨(RX4, TX4, 7), rfl, by decide, rn_ws 152 (by decide +kernel) rfl⟩
theorem fl_RX3_146 : rn_FL RX3 146 4 1 := ⟨(RX4, TX4, 7), rfl, by decide, rn_ws 156 (by decide +kernel) rfl⟩
theorem mn_X1_earsBy : Cond.instanceMethod yX1_earsBy ∈ rn_WS := rn_ws 452 (by decide +kernel) rfl
theorem mx_X1_earsBy : Cond.selects RX1 yX1_earsBy yX1_earsBy ∈ rn_WS := rn_ws 453 (by decide +kernel) rfl
theorem mm_RX3_149 : rn_MV RX3 149 M_X1_earsBy 1 := ⟨rn_gi (pre := [.methodLink RX3 149 yX1_earsBy, .instanceMethod yX1_earsBy, .selects RX1 yX1_earsBy yX1_earsBy, .initialized RX1]) mc_X1_earsBy (List.forall_mem_cons.mpr ⟨rn_ws 451 (by decide +kernel) rfl, List.forall_mem_cons.mpr ⟨mn_X1_earsBy, List.forall_mem_cons.mpr ⟨mx_X1_earsBy, List.forall_mem_cons.mpr ⟨mz_RX1, (fun _ h => absurd h List.not_mem_nil)⟩⟩⟩⟩), mo_X1_earsBy⟩
theorem mt_X3_way : Cond.static yX3_way ∈ rn_WS := rn_ws 464 (by decide +kernel) rfl
theorem mm_RX3_153 : rn_MS RX3 153 M_X3_way 2 := ⟨rn_gi (pre := [.methodLink RX3 153 yX3_way, .static yX3_way, .initialized RX3]) mc_X3_way (List.forall_mem_cons.mpr ⟨rn_ws 463 (by decide +kernel) rfl, List.forall_mem_cons.mpr ⟨mt_X3_way, List.forall_mem_cons.mpr ⟨mz_RX3, (fun _ h => absurd h List.not_mem_nil)⟩⟩⟩), mo_X3_way⟩
theorem fl_RX3_157 : rn_FL RX3 157 1 2 := ⟨(RX1, TX1, 4), rfl, by decide, rn_ws 129 (by decide +kernel) rfl⟩
theorem mn_X3_ears : Cond.instanceMethod yX3_ears ∈ rn_WS := rn_ws 442 (by decide +kernel) rfl
theorem mx_X3_ears : Cond.selects RX3 yX3_ears yX3_ears ∈ rn_WS := rn_ws 443 (by decide +kernel) rfl
theorem mm_RX3_160 : rn_MV RX3 160 M_X3_ears 1 := ⟨rn_gi (pre := [.methodLink RX3 160 yX3_ears, .instanceMethod yX3_ears, .selects RX3 yX3_ears yX3_ears, .initialized RX3]) mc_X3_ears (List.forall_mem_cons.mpr ⟨rn_ws 472 (by decide +kernel) rfl, List.forall_mem_cons.mpr ⟨mn_X3_ears, List.forall_mem_cons.mpr ⟨mx_X3_ears, List.forall_mem_cons.mpr ⟨mz_RX3, (fun _ h => absurd h List.not_mem_nil)⟩⟩⟩⟩), mo_X3_ears⟩
theorem fl_RX3_163 : rn_FL RX3 163 4 6 := ⟨(RX4, TX4, 7), rfl, by decide, rn_ws 171 (by decide +kernel) rfl⟩
theorem mt_J9_floorMod_7cf53 : Cond.static yJ9_floorMod_7cf53 ∈ rn_WS := rn_ws 467 (by decide +kernel) rfl
theorem mz_RJ9 : Cond.initialized RJ9 ∈ rn_WS := rn_ws 95 (by decide +kernel) rfl
theorem mm_RX3_166 : rn_MS RX3 166 M_J9_floorMod_7cf53 2 := ⟨rn_gi (pre := [.methodLink RX3 166 yJ9_floorMod_7cf53, .static yJ9_floorMod_7cf53, .initialized RJ9]) mc_J9_floorMod_7cf53 (List.forall_mem_cons.mpr ⟨rn_ws 466 (by decide +kernel) rfl, List.forall_mem_cons.mpr ⟨mt_J9_floorMod_7cf53, List.forall_mem_cons.mpr ⟨mz_RJ9, (fun _ h => absurd h List.not_mem_nil)⟩⟩⟩), mo_J9_floorMod_7cf53⟩
theorem mt_J9_min_7cf53 : Cond.static yJ9_min_7cf53 ∈ rn_WS := rn_ws 470 (by decide +kernel) rfl
theorem mm_RX3_171 : rn_MS RX3 171 M_J9_min_7cf53 2 := ⟨rn_gi (pre := [.methodLink RX3 171 yJ9_min_7cf53, .static yJ9_min_7cf53, .initialized RJ9]) mc_J9_min_7cf53 (List.forall_mem_cons.mpr ⟨rn_ws 469 (by decide +kernel) rfl, List.forall_mem_cons.mpr ⟨mt_J9_min_7cf53, List.forall_mem_cons.mpr ⟨mz_RJ9, (fun _ h => absurd h List.not_mem_nil)⟩⟩⟩), mo_J9_min_7cf53⟩
theorem ob_RX4_3 : Cond.methodLink RX4 3 Lib.objectInit ∈ rn_WS := rn_ws 148 (by decide +kernel) rfl
theorem fl_RX4_9 : rn_FL RX4 9 4 6 := ⟨(RX4, TX4, 7), rfl, by decide, rn_ws 169 (by decide +kernel) rfl⟩
theorem fl_RX4_15 : rn_FL RX4 15 4 0 := ⟨(RX4, TX4, 7), rfl, by decide, rn_ws 149 (by decide +kernel) rfl⟩
theorem fl_RX4_19 : rn_FL RX4 19 4 1 := ⟨(RX4, TX4, 7), rfl, by decide, rn_ws 153 (by decide +kernel) rfl⟩
theorem fl_RX4_22 : rn_FL RX4 22 4 2 := ⟨(RX4, TX4, 7), rfl, by decide, rn_ws 157 (by decide +kernel) rfl⟩
theorem fl_RX4_25 : rn_FL RX4 25 4 3 := ⟨(RX4, TX4, 7), rfl, by decide, rn_ws 160 (by decide +kernel) rfl⟩
theorem fl_RX4_28 : rn_FL RX4 28 4 4 := ⟨(RX4, TX4, 7), rfl, by decide, rn_ws 163 (by decide +kernel) rfl⟩
theorem fl_RX4_32 : rn_FL RX4 32 4 5 := ⟨(RX4, TX4, 7), rfl, by decide, rn_ws 166 (by decide +kernel) rfl⟩
theorem ac_RX4_35 : Cond.methodLink RX4 35 arraycopyName ∈ rn_WS := rn_ws 754 (by decide +kernel) rfl
theorem ob_RX5_3 : Cond.methodLink RX5 3 Lib.objectInit ∈ rn_WS := rn_ws 304 (by decide +kernel) rfl
theorem fl_RX5_9 : rn_FL RX5 9 5 0 := ⟨(RX5, TX5, 4), rfl, by decide, rn_ws 307 (by decide +kernel) rfl⟩
theorem cl_RX5_15 : Cond.classLink RX5 15 RX1 ∈ rn_WS := rn_ws 305 (by decide +kernel) rfl
theorem mm_RX5_17 : rn_MIN RX5 17 "LockedAtDusk" M_X1_init 0 := ⟨⟨rn_gi (pre := [.instanceMethod yX1_init, .initialized RX1]) mc_X1_init (List.forall_mem_cons.mpr ⟨mn_X1_init, List.forall_mem_cons.mpr ⟨mz_RX1, (fun _ h => absurd h List.not_mem_nil)⟩⟩), List.mem_filter.mpr ⟨List.mem_of_getElem? (i := 306) (by decide +kernel), rfl⟩, rfl, rfl⟩, mo_X1_init⟩
theorem fl_RX5_18 : rn_FL RX5 18 5 3 := ⟨(RX5, TX5, 4), rfl, by decide, rn_ws 311 (by decide +kernel) rfl⟩
theorem fl_RX5_22 : rn_FL RX5 22 5 1 := ⟨(RX5, TX5, 4), rfl, by decide, rn_ws 308 (by decide +kernel) rfl⟩
theorem mn_X1_empty : Cond.instanceMethod yX1_empty ∈ rn_WS := rn_ws 538 (by decide +kernel) rfl
theorem mx_X1_empty : Cond.selects RX1 yX1_empty yX1_empty ∈ rn_WS := rn_ws 539 (by decide +kernel) rfl
theorem mm_RX5_26 : rn_MV RX5 26 M_X1_empty 0 := ⟨rn_gi (pre := [.methodLink RX5 26 yX1_empty, .instanceMethod yX1_empty, .selects RX1 yX1_empty yX1_empty, .initialized RX1]) mc_X1_empty (List.forall_mem_cons.mpr ⟨rn_ws 537 (by decide +kernel) rfl, List.forall_mem_cons.mpr ⟨mn_X1_empty, List.forall_mem_cons.mpr ⟨mx_X1_empty, List.forall_mem_cons.mpr ⟨mz_RX1, (fun _ h => absurd h List.not_mem_nil)⟩⟩⟩⟩), mo_X1_empty⟩
theorem fl_RX5_29 : rn_FL RX5 29 5 2 := ⟨(RX5, TX5, 4), rfl, by decide, rn_ws 310 (by decide +kernel) rfl⟩
theorem mn_X5_readClause : Cond.instanceMethod yX5_readClause ∈ rn_WS := rn_ws 543 (by decide +kernel) rfl
theorem mx_X5_readClause : Cond.selects RX5 yX5_readClause yX5_readClause ∈ rn_WS := rn_ws 0 (by decide +kernel) rfl
theorem mz_RX5 : Cond.initialized RX5 ∈ rn_WS := rn_ws 90 (by decide +kernel) rfl
theorem mm_RX5_32 : rn_MV RX5 32 M_X5_readClause 0 := ⟨rn_gi (pre := [.methodLink RX5 32 yX5_readClause, .instanceMethod yX5_readClause, .selects RX5 yX5_readClause yX5_readClause, .initialized RX5]) mc_X5_readClause (List.forall_mem_cons.mpr ⟨rn_ws 541 (by decide +kernel) rfl, List.forall_mem_cons.mpr ⟨mn_X5_readClause, List.forall_mem_cons.mpr ⟨mx_X5_readClause, List.forall_mem_cons.mpr ⟨mz_RX5, (fun _ h => absurd h List.not_mem_nil)⟩⟩⟩⟩), mo_X5_readClause⟩
theorem mn_X5_skip : Cond.instanceMethod yX5_skip ∈ rn_WS := rn_ws 607 (by decide +kernel) rfl
theorem mx_X5_skip : Cond.selects RX5 yX5_skip yX5_skip ∈ rn_WS := rn_ws 3 (by decide +kernel) rfl
theorem mm_RX5_36 : rn_MV RX5 36 M_X5_skip 1 := ⟨rn_gi (pre := [.methodLink RX5 36 yX5_skip, .instanceMethod yX5_skip, .selects RX5 yX5_skip yX5_skip, .initialized RX5]) mc_X5_skip (List.forall_mem_cons.mpr ⟨rn_ws 605 (by decide +kernel) rfl, List.forall_mem_cons.mpr ⟨mn_X5_skip, List.forall_mem_cons.mpr ⟨mx_X5_skip, List.forall_mem_cons.mpr ⟨mz_RX5, (fun _ h => absurd h List.not_mem_nil)⟩⟩⟩⟩), mo_X5_skip⟩
theorem mn_X5_isNext : Cond.instanceMethod yX5_isNext ∈ rn_WS := rn_ws 547 (by decide +kernel) rfl
theorem mx_X5_isNext : Cond.selects RX5 yX5_isNext yX5_isNext ∈ rn_WS := rn_ws 1 (by decide +kernel) rfl
theorem mm_RX5_40 : rn_MV RX5 40 M_X5_isNext 1 := ⟨rn_gi (pre := [.methodLink RX5 40 yX5_isNext, .instanceMethod yX5_isNext, .selects RX5 yX5_isNext yX5_isNext, .initialized RX5]) mc_X5_isNext (List.forall_mem_cons.mpr ⟨rn_ws 545 (by decide +kernel) rfl, List.forall_mem_cons.mpr ⟨mn_X5_isNext, List.forall_mem_cons.mpr ⟨mx_X5_isNext, List.forall_mem_cons.mpr ⟨mz_RX5, (fun _ h => absurd h List.not_mem_nil)⟩⟩⟩⟩), mo_X5_isNext⟩
theorem mn_X5_readWord : Cond.instanceMethod yX5_readWord ∈ rn_WS := rn_ws 555 (by decide +kernel) rfl
theorem mx_X5_readWord : Cond.selects RX5 yX5_readWord yX5_readWord ∈ rn_WS := rn_ws 2 (by decide +kernel) rfl
theorem mm_RX5_51 : rn_MV RX5 51 M_X5_readWord 1 := ⟨rn_gi (pre := [.methodLink RX5 51 yX5_readWord, .instanceMethod yX5_readWord, .selects RX5 yX5_readWord yX5_readWord, .initialized RX5]) mc_X5_readWord (List.forall_mem_cons.mpr ⟨rn_ws 553 (by decide +kernel) rfl, List.forall_mem_cons.mpr ⟨mn_X5_readWord, List.forall_mem_cons.mpr ⟨mx_X5_readWord, List.forall_mem_cons.mpr ⟨mz_RX5, (fun _ h => absurd h List.not_mem_nil)⟩⟩⟩⟩), mo_X5_readWord⟩
theorem mn_X5_readNumber : Cond.instanceMethod yX5_readNumber ∈ rn_WS := rn_ws 611 (by decide +kernel) rfl
theorem mx_X5_readNumber : Cond.selects RX5 yX5_readNumber yX5_readNumber ∈ rn_WS := rn_ws 4 (by decide +kernel) rfl
theorem mm_RX5_55 : rn_MV RX5 55 M_X5_readNumber 0 := ⟨rn_gi (pre := [.methodLink RX5 55 yX5_readNumber, .instanceMethod yX5_readNumber, .selects RX5 yX5_readNumber yX5_readNumber, .initialized RX5]) mc_X5_readNumber (List.forall_mem_cons.mpr ⟨rn_ws 609 (by decide +kernel) rfl, List.forall_mem_cons.mpr ⟨mn_X5_readNumber, List.forall_mem_cons.mpr ⟨mx_X5_readNumber, List.forall_mem_cons.mpr ⟨mz_RX5, (fun _ h => absurd h List.not_mem_nil)⟩⟩⟩⟩), mo_X5_readNumber⟩
theorem fl_RX5_59 : rn_FL RX5 59 1 2 := ⟨(RX1, TX1, 4), rfl, by decide, rn_ws 127 (by decide +kernel) rfl⟩
theorem mm_RX5_62 : rn_MS RX5 62 M_J9_min_7cf53 2 := ⟨rn_gi (pre := [.methodLink RX5 62 yJ9_min_7cf53, .static yJ9_min_7cf53, .initialized RJ9]) mc_J9_min_7cf53 (List.forall_mem_cons.mpr ⟨rn_ws 616 (by decide +kernel) rfl, List.forall_mem_cons.mpr ⟨mt_J9_min_7cf53, List.forall_mem_cons.mpr ⟨mz_RJ9, (fun _ h => absurd h List.not_mem_nil)⟩⟩⟩), mo_J9_min_7cf53⟩
theorem mt_J9_max_7cf53 : Cond.static yJ9_max_7cf53 ∈ rn_WS := rn_ws 614 (by decide +kernel) rfl
theorem mm_RX5_68 : rn_MS RX5 68 M_J9_max_7cf53 2 := ⟨rn_gi (pre := [.methodLink RX5 68 yJ9_max_7cf53, .static yJ9_max_7cf53, .initialized RJ9]) mc_J9_max_7cf53 (List.forall_mem_cons.mpr ⟨rn_ws 613 (by decide +kernel) rfl, List.forall_mem_cons.mpr ⟨mt_J9_max_7cf53, List.forall_mem_cons.mpr ⟨mz_RJ9, (fun _ h => absurd h List.not_mem_nil)⟩⟩⟩), mo_J9_max_7cf53⟩
theorem fl_RX5_71 : rn_FL RX5 71 1 3 := ⟨(RX1, TX1, 4), rfl, by decide, rn_ws 131 (by decide +kernel) rfl⟩
theorem mn_X5_readEither : Cond.instanceMethod yX5_readEither ∈ rn_WS := rn_ws 619 (by decide +kernel) rfl
theorem mx_X5_readEither : Cond.selects RX5 yX5_readEither yX5_readEither ∈ rn_WS := rn_ws 5 (by decide +kernel) rfl
theorem mm_RX5_74 : rn_MV RX5 74 M_X5_readEither 1 := ⟨rn_gi (pre := [.methodLink RX5 74 yX5_readEither, .instanceMethod yX5_readEither, .selects RX5 yX5_readEither yX5_readEither, .initialized RX5]) mc_X5_readEither (List.forall_mem_cons.mpr ⟨rn_ws 617 (by decide +kernel) rfl, List.forall_mem_cons.mpr ⟨mn_X5_readEither, List.forall_mem_cons.mpr ⟨mx_X5_readEither, List.forall_mem_cons.mpr ⟨mz_RX5, (fun _ h => absurd h List.not_mem_nil)⟩⟩⟩⟩), mo_X5_readEither⟩
theorem mn_X1_addCode : Cond.instanceMethod yX1_addCode ∈ rn_WS := rn_ws 695 (by decide +kernel) rfl
theorem mx_X1_addCode : Cond.selects RX1 yX1_addCode yX1_addCode ∈ rn_WS := rn_ws 696 (by decide +kernel) rfl
theorem mm_RX5_78 : rn_MV RX5 78 M_X1_addCode 1 := ⟨rn_gi (pre := [.methodLink RX5 78 yX1_addCode, .instanceMethod yX1_addCode, .selects RX1 yX1_addCode yX1_addCode, .initialized RX1]) mc_X1_addCode (List.forall_mem_cons.mpr ⟨rn_ws 694 (by decide +kernel) rfl, List.forall_mem_cons.mpr ⟨mn_X1_addCode, List.forall_mem_cons.mpr ⟨mx_X1_addCode, List.forall_mem_cons.mpr ⟨mz_RX1, (fun _ h => absurd h List.not_mem_nil)⟩⟩⟩⟩), mo_X1_addCode⟩
theorem mn_J0_length_8abf5 : Cond.instanceMethod yJ0_length_8abf5 ∈ rn_WS := rn_ws 558 (by decide +kernel) rfl
theorem mx_J0_length_8abf5 : Cond.selects RJ0 yJ0_length_8abf5 yJ0_length_8abf5 ∈ rn_WS := rn_ws 559 (by decide +kernel) rfl
theorem mz_RJ0 : Cond.initialized RJ0 ∈ rn_WS := rn_ws 96 (by decide +kernel) rfl
theorem mm_RX5_82 : rn_MV RX5 82 M_J0_length_8abf5 0 := ⟨rn_gi (pre := [.methodLink RX5 82 yJ0_length_8abf5, .instanceMethod yJ0_length_8abf5, .selects RJ0 yJ0_length_8abf5 yJ0_length_8abf5, .initialized RJ0]) mc_J0_length_8abf5 (List.forall_mem_cons.mpr ⟨rn_ws 557 (by decide +kernel) rfl, List.forall_mem_cons.mpr ⟨mn_J0_length_8abf5, List.forall_mem_cons.mpr ⟨mx_J0_length_8abf5, List.forall_mem_cons.mpr ⟨mz_RJ0, (fun _ h => absurd h List.not_mem_nil)⟩⟩⟩⟩), mo_J0_length_8abf5⟩
theorem mn_J0_charAt_5068e : Cond.instanceMethod yJ0_charAt_5068e ∈ rn_WS := rn_ws 568 (by decide +kernel) rfl
theorem mx_J0_charAt_5068e : Cond.selects RJ0 yJ0_charAt_5068e yJ0_charAt_5068e ∈ rn_WS := rn_ws 569 (by decide +kernel) rfl
theorem mm_RX5_86 : rn_MV RX5 86 M_J0_charAt_5068e 1 := ⟨rn_gi (pre := [.methodLink RX5 86 yJ0_charAt_5068e, .instanceMethod yJ0_charAt_5068e, .selects RJ0 yJ0_charAt_5068e yJ0_charAt_5068e, .initialized RJ0]) mc_J0_charAt_5068e (List.forall_mem_cons.mpr ⟨rn_ws 567 (by decide +kernel) rfl, List.forall_mem_cons.mpr ⟨mn_J0_charAt_5068e, List.forall_mem_cons.mpr ⟨mx_J0_charAt_5068e, List.forall_mem_cons.mpr ⟨mz_RJ0, (fun _ h => absurd h List.not_mem_nil)⟩⟩⟩⟩), mo_J0_charAt_5068e⟩
theorem mn_X5_readBoth : Cond.instanceMethod yX5_readBoth ∈ rn_WS := rn_ws 623 (by decide +kernel) rfl
theorem mx_X5_readBoth : Cond.selects RX5 yX5_readBoth yX5_readBoth ∈ rn_WS := rn_ws 6 (by decide +kernel) rfl
theorem mm_RX5_90 : rn_MV RX5 90 M_X5_readBoth 1 := ⟨rn_gi (pre := [.methodLink RX5 90 yX5_readBoth, .instanceMethod yX5_readBoth, .selects RX5 yX5_readBoth yX5_readBoth, .initialized RX5]) mc_X5_readBoth (List.forall_mem_cons.mpr ⟨rn_ws 621 (by decide +kernel) rfl, List.forall_mem_cons.mpr ⟨mn_X5_readBoth, List.forall_mem_cons.mpr ⟨mx_X5_readBoth, List.forall_mem_cons.mpr ⟨mz_RX5, (fun _ h => absurd h List.not_mem_nil)⟩⟩⟩⟩), mo_X5_readBoth⟩
theorem mn_X5_readPart : Cond.instanceMethod yX5_readPart ∈ rn_WS := rn_ws 627 (by decide +kernel) rfl
theorem mx_X5_readPart : Cond.selects RX5 yX5_readPart yX5_readPart ∈ rn_WS := rn_ws 7 (by decide +kernel) rfl
theorem mm_RX5_93 : rn_MV RX5 93 M_X5_readPart 1 := ⟨rn_gi (pre := [.methodLink RX5 93 yX5_readPart, .instanceMethod yX5_readPart, .selects RX5 yX5_readPart yX5_readPart, .initialized RX5]) mc_X5_readPart (List.forall_mem_cons.mpr ⟨rn_ws 625 (by decide +kernel) rfl, List.forall_mem_cons.mpr ⟨mn_X5_readPart, List.forall_mem_cons.mpr ⟨mx_X5_readPart, List.forall_mem_cons.mpr ⟨mz_RX5, (fun _ h => absurd h List.not_mem_nil)⟩⟩⟩⟩), mo_X5_readPart⟩
theorem mn_X5_readTest : Cond.instanceMethod yX5_readTest ∈ rn_WS := rn_ws 631 (by decide +kernel) rfl
theorem mx_X5_readTest : Cond.selects RX5 yX5_readTest yX5_readTest ∈ rn_WS := rn_ws 8 (by decide +kernel) rfl
theorem mm_RX5_96 : rn_MV RX5 96 M_X5_readTest 0 := ⟨rn_gi (pre := [.methodLink RX5 96 yX5_readTest, .instanceMethod yX5_readTest, .selects RX5 yX5_readTest yX5_readTest, .initialized RX5]) mc_X5_readTest (List.forall_mem_cons.mpr ⟨rn_ws 629 (by decide +kernel) rfl, List.forall_mem_cons.mpr ⟨mn_X5_readTest, List.forall_mem_cons.mpr ⟨mx_X5_readTest, List.forall_mem_cons.mpr ⟨mz_RX5, (fun _ h => absurd h List.not_mem_nil)⟩⟩⟩⟩), mo_X5_readTest⟩
theorem mn_X5_readBehindNot : Cond.instanceMethod yX5_readBehindNot ∈ rn_WS := rn_ws 700 (by decide +kernel) rfl
theorem mx_X5_readBehindNot : Cond.selects RX5 yX5_readBehindNot yX5_readBehindNot ∈ rn_WS := rn_ws 10 (by decide +kernel) rfl
theorem mm_RX5_99 : rn_MV RX5 99 M_X5_readBehindNot 1 := ⟨rn_gi (pre := [.methodLink RX5 99 yX5_readBehindNot, .instanceMethod yX5_readBehindNot, .selects RX5 yX5_readBehindNot yX5_readBehindNot, .initialized RX5]) mc_X5_readBehindNot (List.forall_mem_cons.mpr ⟨rn_ws 698 (by decide +kernel) rfl, List.forall_mem_cons.mpr ⟨mn_X5_readBehindNot, List.forall_mem_cons.mpr ⟨mx_X5_readBehindNot, List.forall_mem_cons.mpr ⟨mz_RX5, (fun _ h => absurd h List.not_mem_nil)⟩⟩⟩⟩), mo_X5_readBehindNot⟩
theorem mn_X5_readOneOf : Cond.instanceMethod yX5_readOneOf ∈ rn_WS := rn_ws 636 (by decide +kernel) rfl
theorem mx_X5_readOneOf : Cond.selects RX5 yX5_readOneOf yX5_readOneOf ∈ rn_WS := rn_ws 9 (by decide +kernel) rfl
theorem mm_RX5_104 : rn_MV RX5 104 M_X5_readOneOf 1 := ⟨rn_gi (pre := [.methodLink RX5 104 yX5_readOneOf, .instanceMethod yX5_readOneOf, .selects RX5 yX5_readOneOf yX5_readOneOf, .initialized RX5]) mc_X5_readOneOf (List.forall_mem_cons.mpr ⟨rn_ws 634 (by decide +kernel) rfl, List.forall_mem_cons.mpr ⟨mn_X5_readOneOf, List.forall_mem_cons.mpr ⟨mx_X5_readOneOf, List.forall_mem_cons.mpr ⟨mz_RX5, (fun _ h => absurd h List.not_mem_nil)⟩⟩⟩⟩), mo_X5_readOneOf⟩
theorem mn_J0_indexOf_0f7a4 : Cond.instanceMethod yJ0_indexOf_0f7a4 ∈ rn_WS := rn_ws 639 (by decide +kernel) rfl
theorem mx_J0_indexOf_0f7a4 : Cond.selects RJ0 yJ0_indexOf_0f7a4 yJ0_indexOf_0f7a4 ∈ rn_WS := rn_ws 640 (by decide +kernel) rfl
theorem mm_RX5_110 : rn_MV RX5 110 M_J0_indexOf_0f7a4 1 := ⟨rn_gi (pre := [.methodLink RX5 110 yJ0_indexOf_0f7a4, .instanceMethod yJ0_indexOf_0f7a4, .selects RJ0 yJ0_indexOf_0f7a4 yJ0_indexOf_0f7a4, .initialized RJ0]) mc_J0_indexOf_0f7a4 (List.forall_mem_cons.mpr ⟨rn_ws 638 (by decide +kernel) rfl, List.forall_mem_cons.mpr ⟨mn_J0_indexOf_0f7a4, List.forall_mem_cons.mpr ⟨mx_J0_indexOf_0f7a4, List.forall_mem_cons.mpr ⟨mz_RJ0, (fun _ h => absurd h List.not_mem_nil)⟩⟩⟩⟩), mo_J0_indexOf_0f7a4⟩
theorem ob_RX6_1 : Cond.methodLink RX6 1 Lib.objectInit ∈ rn_WS := rn_ws 251 (by decide +kernel) rfl
theorem fl_RX6_7 : rn_FL RX6 7 6 0 := ⟨(RX6, TX6, 4), rfl, by decide, rn_ws 252 (by decide +kernel) rfl⟩
theorem fl_RX6_13 : rn_FL RX6 13 6 1 := ⟨(RX6, TX6, 4), rfl, by decide, rn_ws 254 (by decide +kernel) rfl⟩
theorem fl_RX6_16 : rn_FL RX6 16 6 2 := ⟨(RX6, TX6, 4), rfl, by decide, rn_ws 256 (by decide +kernel) rfl⟩
theorem fl_RX6_19 : rn_FL RX6 19 6 3 := ⟨(RX6, TX6, 4), rfl, by decide, rn_ws 258 (by decide +kernel) rfl⟩
theorem mm_RX6_23 : rn_MS RX6 23 M_J9_min_7cf53 2 := ⟨rn_gi (pre := [.methodLink RX6 23 yJ9_min_7cf53, .static yJ9_min_7cf53, .initialized RJ9]) mc_J9_min_7cf53 (List.forall_mem_cons.mpr ⟨rn_ws 892 (by decide +kernel) rfl, List.forall_mem_cons.mpr ⟨mt_J9_min_7cf53, List.forall_mem_cons.mpr ⟨mz_RJ9, (fun _ h => absurd h List.not_mem_nil)⟩⟩⟩), mo_J9_min_7cf53⟩
theorem ac_RX6_29 : Cond.methodLink RX6 29 arraycopyName ∈ rn_WS := rn_ws 893 (by decide +kernel) rfl
theorem ob_RX7_3 : Cond.methodLink RX7 3 Lib.objectInit ∈ rn_WS := rn_ws 355 (by decide +kernel) rfl
theorem fl_RX7_9 : rn_FL RX7 9 7 0 := ⟨(RX7, TX7, 3), rfl, by decide, rn_ws 356 (by decide +kernel) rfl⟩
theorem fl_RX7_15 : rn_FL RX7 15 7 1 := ⟨(RX7, TX7, 3), rfl, by decide, rn_ws 358 (by decide +kernel) rfl⟩
theorem fl_RX7_19 : rn_FL RX7 19 7 2 := ⟨(RX7, TX7, 3), rfl, by decide, rn_ws 360 (by decide +kernel) rfl⟩
theorem ob_RX8_3 : Cond.methodLink RX8 3 Lib.objectInit ∈ rn_WS := rn_ws 107 (by decide +kernel) rfl
theorem cl_RX8_9 : Cond.classLink RX8 9 RX3 ∈ rn_WS := rn_ws 110 (by decide +kernel) rfl
theorem mm_RX8_11 : rn_MI RX8 11 M_X3_init 0 := ⟨⟨rn_gi (pre := [.methodLink RX8 11 yX3_init, .instanceMethod yX3_init, .initialized RX3]) mc_X3_init (List.forall_mem_cons.mpr ⟨rn_ws 112 (by decide +kernel) rfl, List.forall_mem_cons.mpr ⟨mn_X3_init, List.forall_mem_cons.mpr ⟨mz_RX3, (fun _ h => absurd h List.not_mem_nil)⟩⟩⟩), rfl, rfl⟩, mo_X3_init⟩
theorem fl_RX8_12 : rn_FL RX8 12 8 0 := ⟨(RX8, TX8, 11), rfl, by decide, rn_ws 370 (by decide +kernel) rfl⟩
theorem fl_RX8_18 : rn_FL RX8 18 8 1 := ⟨(RX8, TX8, 11), rfl, by decide, rn_ws 371 (by decide +kernel) rfl⟩
theorem cl_RX8_21 : Cond.classLink RX8 21 RX6 ∈ rn_WS := rn_ws 246 (by decide +kernel) rfl
theorem mm_RX8_23 : rn_MI RX8 23 M_X6_init 1 := ⟨⟨rn_gi (pre := [.methodLink RX8 23 yX6_init, .instanceMethod yX6_init, .initialized RX6]) mc_X6_init (List.forall_mem_cons.mpr ⟨rn_ws 248 (by decide +kernel) rfl, List.forall_mem_cons.mpr ⟨mn_X6_init, List.forall_mem_cons.mpr ⟨mz_RX6, (fun _ h => absurd h List.not_mem_nil)⟩⟩⟩), rfl, rfl⟩, mo_X6_init⟩
theorem fl_RX8_26 : rn_FL RX8 26 8 2 := ⟨(RX8, TX8, 11), rfl, by decide, rn_ws 372 (by decide +kernel) rfl⟩
theorem fl_RX8_30 : rn_FL RX8 30 8 3 := ⟨(RX8, TX8, 11), rfl, by decide, rn_ws 373 (by decide +kernel) rfl⟩
theorem fl_RX8_33 : rn_FL RX8 33 8 4 := ⟨(RX8, TX8, 11), rfl, by decide, rn_ws 374 (by decide +kernel) rfl⟩
theorem cl_RX8_36 : Cond.classLink RX8 36 RX2 ∈ rn_WS := rn_ws 269 (by decide +kernel) rfl
theorem mz_RX2 : Cond.initialized RX2 ∈ rn_WS := rn_ws 89 (by decide +kernel) rfl
theorem nw_RX2 : Cond.instantiable RX2 5 ∈ rn_WS := rn_ws 270 (by decide +kernel) rfl
theorem mn_X2_init : Cond.instanceMethod yX2_init ∈ rn_WS := rn_ws 272 (by decide +kernel) rfl
theorem mm_RX8_38 : rn_MIN RX8 38 "LockedAtDusk" M_X2_init 0 := ⟨⟨rn_gi (pre := [.instanceMethod yX2_init, .initialized RX2]) mc_X2_init (List.forall_mem_cons.mpr ⟨mn_X2_init, List.forall_mem_cons.mpr ⟨mz_RX2, (fun _ h => absurd h List.not_mem_nil)⟩⟩), List.mem_filter.mpr ⟨List.mem_of_getElem? (i := 271) (by decide +kernel), rfl⟩, rfl, rfl⟩, mo_X2_init⟩
theorem fl_RX8_39 : rn_FL RX8 39 8 5 := ⟨(RX8, TX8, 11), rfl, by decide, rn_ws 375 (by decide +kernel) rfl⟩
theorem cl_RX8_43 : Cond.classLink RX8 43 RX5 ∈ rn_WS := rn_ws 299 (by decide +kernel) rfl
theorem nw_RX5 : Cond.instantiable RX5 4 ∈ rn_WS := rn_ws 300 (by decide +kernel) rfl
theorem mn_X5_init : Cond.instanceMethod yX5_init ∈ rn_WS := rn_ws 302 (by decide +kernel) rfl
theorem mm_RX8_45 : rn_MIN RX8 45 "LockedAtDusk" M_X5_init 0 := ⟨⟨rn_gi (pre := [.instanceMethod yX5_init, .initialized RX5]) mc_X5_init (List.forall_mem_cons.mpr ⟨mn_X5_init, List.forall_mem_cons.mpr ⟨mz_RX5, (fun _ h => absurd h List.not_mem_nil)⟩⟩), List.mem_filter.mpr ⟨List.mem_of_getElem? (i := 301) (by decide +kernel), rfl⟩, rfl, rfl⟩, mo_X5_init⟩
theorem fl_RX8_46 : rn_FL RX8 46 8 6 := ⟨(RX8, TX8, 11), rfl, by decide, rn_ws 376 (by decide +kernel) rfl⟩
theorem cl_RX8_50 : Cond.classLink RX8 50 RX1 ∈ rn_WS := rn_ws 322 (by decide +kernel) rfl
theorem fl_RX8_52 : rn_FL RX8 52 8 7 := ⟨(RX8, TX8, 11), rfl, by decide, rn_ws 377 (by decide +kernel) rfl⟩
theorem cl_RX8_56 : Cond.classLink RX8 56 RX0 ∈ rn_WS := rn_ws 324 (by decide +kernel) rfl
theorem nw_RX0 : Cond.instantiable RX0 5 ∈ rn_WS := rn_ws 325 (by decide +kernel) rfl
theorem mn_X0_init : Cond.instanceMethod yX0_init ∈ rn_WS := rn_ws 327 (by decide +kernel) rfl
theorem mm_RX8_58 : rn_MIN RX8 58 "LockedAtDusk" M_X0_init 0 := ⟨⟨rn_gi (pre := [.instanceMethod yX0_init, .initialized RX0]) mc_X0_init (List.forall_mem_cons.mpr ⟨mn_X0_init, List.forall_mem_cons.mpr ⟨mz_RX0, (fun _ h => absurd h List.not_mem_nil)⟩⟩), List.mem_filter.mpr ⟨List.mem_of_getElem? (i := 326) (by decide +kernel), rfl⟩, rfl, rfl⟩, mo_X0_init⟩
theorem fl_RX8_59 : rn_FL RX8 59 8 8 := ⟨(RX8, TX8, 11), rfl, by decide, rn_ws 378 (by decide +kernel) rfl⟩
theorem cl_RX8_63 : Cond.classLink RX8 63 RX7 ∈ rn_WS := rn_ws 348 (by decide +kernel) rfl
theorem fl_RX8_65 : rn_FL RX8 65 8 9 := ⟨(RX8, TX8, 11), rfl, by decide, rn_ws 379 (by decide +kernel) rfl⟩
theorem mm_RX8_69 : rn_MIN RX8 69 "LockedAtDusk" M_X1_init 0 := ⟨⟨rn_gi (pre := [.instanceMethod yX1_init, .initialized RX1]) mc_X1_init (List.forall_mem_cons.mpr ⟨mn_X1_init, List.forall_mem_cons.mpr ⟨mz_RX1, (fun _ h => absurd h List.not_mem_nil)⟩⟩), List.mem_filter.mpr ⟨List.mem_of_getElem? (i := 350) (by decide +kernel), rfl⟩, rfl, rfl⟩, mo_X1_init⟩
theorem mn_X7_init : Cond.instanceMethod yX7_init ∈ rn_WS := rn_ws 353 (by decide +kernel) rfl
theorem mz_RX7 : Cond.initialized RX7 ∈ rn_WS := rn_ws 92 (by decide +kernel) rfl
theorem mm_RX8_70 : rn_MIN RX8 70 "LockedAtDusk" M_X7_init 0 := ⟨⟨rn_gi (pre := [.instanceMethod yX7_init, .initialized RX7]) mc_X7_init (List.forall_mem_cons.mpr ⟨mn_X7_init, List.forall_mem_cons.mpr ⟨mz_RX7, (fun _ h => absurd h List.not_mem_nil)⟩⟩), List.mem_filter.mpr ⟨List.mem_of_getElem? (i := 352) (by decide +kernel), rfl⟩, rfl, rfl⟩, mo_X7_init⟩
theorem mt_X8_isPlace : Cond.static yX8_isPlace ∈ rn_WS := rn_ws 409 (by decide +kernel) rfl
theorem mm_RX8_71 : rn_MS RX8 71 M_X8_isPlace 1 := ⟨rn_gi (pre := [.methodLink RX8 71 yX8_isPlace, .static yX8_isPlace, .initialized RX8]) mc_X8_isPlace (List.forall_mem_cons.mpr ⟨rn_ws 408 (by decide +kernel) rfl, List.forall_mem_cons.mpr ⟨mt_X8_isPlace, List.forall_mem_cons.mpr ⟨mz_RX8, (fun _ h => absurd h List.not_mem_nil)⟩⟩⟩), mo_X8_isPlace⟩
theorem fl_RX8_75 : rn_FL RX8 75 3 4 := ⟨(RX3, TX3, 15), rfl, by decide, rn_ws 194 (by decide +kernel) rfl⟩
theorem mn_X3_addGate : Cond.instanceMethod yX3_addGate ∈ rn_WS := rn_ws 412 (by decide +kernel) rfl
theorem mx_X3_addGate : Cond.selects RX3 yX3_addGate yX3_addGate ∈ rn_WS := rn_ws 413 (by decide +kernel) rfl
theorem mm_RX8_79 : rn_MV RX8 79 M_X3_addGate 1 := ⟨rn_gi (pre := [.methodLink RX8 79 yX3_addGate, .instanceMethod yX3_addGate, .selects RX3 yX3_addGate yX3_addGate, .initialized RX3]) mc_X3_addGate (List.forall_mem_cons.mpr ⟨rn_ws 411 (by decide +kernel) rfl, List.forall_mem_cons.mpr ⟨mn_X3_addGate, List.forall_mem_cons.mpr ⟨mx_X3_addGate, List.forall_mem_cons.mpr ⟨mz_RX3, (fun _ h => absurd h List.not_mem_nil)⟩⟩⟩⟩), mo_X3_addGate⟩
theorem mt_X8_isDigit : Cond.static yX8_isDigit ∈ rn_WS := rn_ws 420 (by decide +kernel) rfl
theorem mm_RX8_83 : rn_MS RX8 83 M_X8_isDigit 1 := ⟨rn_gi (pre := [.methodLink RX8 83 yX8_isDigit, .static yX8_isDigit, .initialized RX8]) mc_X8_isDigit (List.forall_mem_cons.mpr ⟨rn_ws 419 (by decide +kernel) rfl, List.forall_mem_cons.mpr ⟨mt_X8_isDigit, List.forall_mem_cons.mpr ⟨mz_RX8, (fun _ h => absurd h List.not_mem_nil)⟩⟩⟩), mo_X8_isDigit⟩
theorem fl_RX8_86 : rn_FL RX8 86 3 6 := ⟨(RX3, TX3, 15), rfl, by decide, rn_ws 199 (by decide +kernel) rfl⟩
theorem mn_X3_addPerson : Cond.instanceMethod yX3_addPerson ∈ rn_WS := rn_ws 423 (by decide +kernel) rfl
theorem mx_X3_addPerson : Cond.selects RX3 yX3_addPerson yX3_addPerson ∈ rn_WS := rn_ws 424 (by decide +kernel) rfl
theorem mm_RX8_89 : rn_MV RX8 89 M_X3_addPerson 3 := ⟨rn_gi (pre := [.methodLink RX8 89 yX3_addPerson, .instanceMethod yX3_addPerson, .selects RX3 yX3_addPerson yX3_addPerson, .initialized RX3]) mc_X3_addPerson (List.forall_mem_cons.mpr ⟨rn_ws 422 (by decide +kernel) rfl, List.forall_mem_cons.mpr ⟨mn_X3_addPerson, List.forall_mem_cons.mpr ⟨mx_X3_addPerson, List.forall_mem_cons.mpr ⟨mz_RX3, (fun _ h => absurd h List.not_mem_nil)⟩⟩⟩⟩), mo_X3_addPerson⟩
theorem mn_X3_hasPerson : Cond.instanceMethod yX3_hasPerson ∈ rn_WS := rn_ws 435 (by decide +kernel) rfl
theorem mx_X3_hasPerson : Cond.selects RX3 yX3_hasPerson yX3_hasPerson ∈ rn_WS := rn_ws 436 (by decide +kernel) rfl
theorem mm_RX8_93 : rn_MV RX8 93 M_X3_hasPerson 1 := ⟨rn_gi (pre := [.methodLink RX8 93 yX3_hasPerson, .instanceMethod yX3_hasPerson, .selects RX3 yX3_hasPerson yX3_hasPerson, .initialized RX3]) mc_X3_hasPerson (List.forall_mem_cons.mpr ⟨rn_ws 434 (by decide +kernel) rfl, List.forall_mem_cons.mpr ⟨mn_X3_hasPerson, List.forall_mem_cons.mpr ⟨mx_X3_hasPerson, List.forall_mem_cons.mpr ⟨mz_RX3, (fun _ h => absurd h List.not_mem_nil)⟩⟩⟩⟩), mo_X3_hasPerson⟩
theorem fl_RX8_96 : rn_FL RX8 96 3 1 := ⟨(RX3, TX3, 15), rfl, by decide, rn_ws 190 (by decide +kernel) rfl⟩
theorem fl_RX8_100 : rn_FL RX8 100 4 0 := ⟨(RX4, TX4, 7), rfl, by decide, rn_ws 151 (by decide +kernel) rfl⟩
theorem fl_RX8_105 : rn_FL RX8 105 4 1 := ⟨(RX4, TX4, 7), rfl, by decide, rn_ws 155 (by decide +kernel) rfl⟩
theorem fl_RX8_108 : rn_FL RX8 108 4 2 := ⟨(RX4, TX4, 7), rfl, by decide, rn_ws 158 (by decide +kernel) rfl⟩
theorem fl_RX8_111 : rn_FL RX8 111 4 4 := ⟨(RX4, TX4, 7), rfl, by decide, rn_ws 164 (by decide +kernel) rfl⟩
theorem mm_RX8_115 : rn_MS RX8 115 M_X8_bit 1 := ⟨rn_gi (pre := [.methodLink RX8 115 yX8_bit, .static yX8_bit, .initialized RX8]) mc_X8_bit (List.forall_mem_cons.mpr ⟨rn_ws 438 (by decide +kernel) rfl, List.forall_mem_cons.mpr ⟨mt_X8_bit, List.forall_mem_cons.mpr ⟨mz_RX8, (fun _ h => absurd h List.not_mem_nil)⟩⟩⟩), mo_X8_bit⟩
theorem fl_RX8_119 : rn_FL RX8 119 4 3 := ⟨(RX4, TX4, 7), rfl, by decide, rn_ws 161 (by decide +kernel) rfl⟩
theorem fl_RX8_122 : rn_FL RX8 122 4 5 := ⟨(RX4, TX4, 7), rfl, by decide, rn_ws 167 (by decide +kernel) rfl⟩
theorem mm_RX8_125 : rn_MV RX8 125 M_X3_ears 1 := ⟨rn_gi (pre := [.methodLink RX8 125 yX3_ears, .instanceMethod yX3_ears, .selects RX3 yX3_ears yX3_ears, .initialized RX3]) mc_X3_ears (List.forall_mem_cons.mpr ⟨rn_ws 441 (by decide +kernel) rfl, List.forall_mem_cons.mpr ⟨mn_X3_ears, List.forall_mem_cons.mpr ⟨mx_X3_ears, List.forall_mem_cons.mpr ⟨mz_RX3, (fun _ h => absurd h List.not_mem_nil)⟩⟩⟩⟩), mo_X3_ears⟩
theorem mm_RX8_128 : rn_MV RX8 128 M_X3_hears 1 := ⟨rn_gi (pre := [.methodLink RX8 128 yX3_hears, .instanceMethod yX3_hears, .selects RX3 yX3_hears yX3_hears, .initialized RX3]) mc_X3_hears (List.forall_mem_cons.mpr ⟨rn_ws 459 (by decide +kernel) rfl, List.forall_mem_cons.mpr ⟨mn_X3_hears, List.forall_mem_cons.mpr ⟨mx_X3_hears, List.forall_mem_cons.mpr ⟨mz_RX3, (fun _ h => absurd h List.not_mem_nil)⟩⟩⟩⟩), mo_X3_hears⟩
theorem mm_RX8_131 : rn_MV RX8 131 M_X3_steps 1 := ⟨rn_gi (pre := [.methodLink RX8 131 yX3_steps, .instanceMethod yX3_steps, .selects RX3 yX3_steps yX3_steps, .initialized RX3]) mc_X3_steps (List.forall_mem_cons.mpr ⟨rn_ws 473 (by decide +kernel) rfl, List.forall_mem_cons.mpr ⟨mn_X3_steps, List.forall_mem_cons.mpr ⟨mx_X3_steps, List.forall_mem_cons.mpr ⟨mz_RX3, (fun _ h => absurd h List.not_mem_nil)⟩⟩⟩⟩), mo_X3_steps⟩
theorem mm_RX8_135 : rn_MV RX8 135 M_X3_goal 1 := ⟨rn_gi (pre := [.methodLink RX8 135 yX3_goal, .instanceMethod yX3_goal, .selects RX3 yX3_goal yX3_goal, .initialized RX3]) mc_X3_goal (List.forall_mem_cons.mpr ⟨rn_ws 477 (by decide +kernel) rfl, List.forall_mem_cons.mpr ⟨mn_X3_goal, List.forall_mem_cons.mpr ⟨mx_X3_goal, List.forall_mem_cons.mpr ⟨mz_RX3, (fun _ h => absurd h List.not_mem_nil)⟩⟩⟩⟩), mo_X3_goal⟩
theorem mn_X3_setDown : Cond.instanceMethod yX3_setDown ∈ rn_WS := rn_ws 486 (by decide +kernel) rfl
theorem mx_X3_setDown : Cond.selects RX3 yX3_setDown yX3_setDown ∈ rn_WS := rn_ws 487 (by decide +kernel) rfl
theorem mm_RX8_138 : rn_MV RX8 138 M_X3_setDown 2 := ⟨rn_gi (pre := [.methodLink RX8 138 yX3_setDown, .instanceMethod yX3_setDown, .selects RX3 yX3_setDown yX3_setDown, .initialized RX3]) mc_X3_setDown (List.forall_mem_cons.mpr ⟨rn_ws 485 (by decide +kernel) rfl, List.forall_mem_cons.mpr ⟨mn_X3_setDown, List.forall_mem_cons.mpr ⟨mx_X3_setDown, List.forall_mem_cons.mpr ⟨mz_RX3, (fun _ h => absurd h List.not_mem_nil)⟩⟩⟩⟩), mo_X3_setDown⟩
theorem mm_RX8_142 : rn_MV RX8 142 M_X3_hasGate 1 := ⟨rn_gi (pre := [.methodLink RX8 142 yX3_hasGate, .instanceMethod yX3_hasGate, .selects RX3 yX3_hasGate yX3_hasGate, .initialized RX3]) mc_X3_hasGate (List.forall_mem_cons.mpr ⟨rn_ws 497 (by decide +kernel) rfl, List.forall_mem_cons.mpr ⟨mn_X3_hasGate, List.forall_mem_cons.mpr ⟨mx_X3_hasGate, List.forall_mem_cons.mpr ⟨mz_RX3, (fun _ h => absurd h List.not_mem_nil)⟩⟩⟩⟩), mo_X3_hasGate⟩
theorem mm_RX8_145 : rn_MV RX8 145 M_X3_isShut 1 := ⟨rn_gi (pre := [.methodLink RX8 145 yX3_isShut, .instanceMethod yX3_isShut, .selects RX3 yX3_isShut yX3_isShut, .initialized RX3]) mc_X3_isShut (List.forall_mem_cons.mpr ⟨rn_ws 501 (by decide +kernel) rfl, List.forall_mem_cons.mpr ⟨mn_X3_isShut, List.forall_mem_cons.mpr ⟨mx_X3_isShut, List.forall_mem_cons.mpr ⟨mz_RX3, (fun _ h => absurd h List.not_mem_nil)⟩⟩⟩⟩), mo_X3_isShut⟩
theorem mm_RX8_148 : rn_MV RX8 148 M_X3_setShut 2 := ⟨rn_gi (pre := [.methodLink RX8 148 yX3_setShut, .instanceMethod yX3_setShut, .selects RX3 yX3_setShut yX3_setShut, .initialized RX3]) mc_X3_setShut (List.forall_mem_cons.mpr ⟨rn_ws 505 (by decide +kernel) rfl, List.forall_mem_cons.mpr ⟨mn_X3_setShut, List.forall_mem_cons.mpr ⟨mx_X3_setShut, List.forall_mem_cons.mpr ⟨mz_RX3, (fun _ h => absurd h List.not_mem_nil)⟩⟩⟩⟩), mo_X3_setShut⟩
theorem fl_RX8_152 : rn_FL RX8 152 4 6 := ⟨(RX4, TX4, 7), rfl, by decide, rn_ws 170 (by decide +kernel) rfl⟩
theorem mn_X3_endRound : Cond.instanceMethod yX3_endRound ∈ rn_WS := rn_ws 518 (by decide +kernel) rfl
theorem mx_X3_endRound : Cond.selects RX3 yX3_endRound yX3_endRound ∈ rn_WS := rn_ws 519 (by decide +kernel) rfl
theorem mm_RX8_156 : rn_MV RX8 156 M_X3_endRound 0 := ⟨rn_gi (pre := [.methodLink RX8 156 yX3_endRound, .instanceMethod yX3_endRound, .selects RX3 yX3_endRound yX3_endRound, .initialized RX3]) mc_X3_endRound (List.forall_mem_cons.mpr ⟨rn_ws 517 (by decide +kernel) rfl, List.forall_mem_cons.mpr ⟨mn_X3_endRound, List.forall_mem_cons.mpr ⟨mx_X3_endRound, List.forall_mem_cons.mpr ⟨mz_RX3, (fun _ h => absurd h List.not_mem_nil)⟩⟩⟩⟩), mo_X3_endRound⟩
theorem fl_RX8_159 : rn_FL RX8 159 3 8 := ⟨(RX3, TX3, 15), rfl, by decide, rn_ws 203 (by decide +kernel) rfl⟩
theorem fl_RX8_162 : rn_FL RX8 162 3 2 := ⟨(RX3, TX3, 15), rfl, by decide, rn_ws 192 (by decide +kernel) rfl⟩
theorem fl_RX8_165 : rn_FL RX8 165 5 1 := ⟨(RX5, TX5, 4), rfl, by decide, rn_ws 309 (by decide +kernel) rfl⟩
theorem mn_X5_addSign : Cond.instanceMethod yX5_addSign ∈ rn_WS := rn_ws 526 (by decide +kernel) rfl
theorem mx_X5_addSign : Cond.selects RX5 yX5_addSign yX5_addSign ∈ rn_WS := rn_ws 527 (by decide +kernel) rfl
theorem mm_RX8_168 : rn_MV RX8 168 M_X5_addSign 1 := ⟨rn_gi (pre := [.methodLink RX8 168 yX5_addSign, .instanceMethod yX5_addSign, .selects RX5 yX5_addSign yX5_addSign, .initialized RX5]) mc_X5_addSign (List.forall_mem_cons.mpr ⟨rn_ws 525 (by decide +kernel) rfl, List.forall_mem_cons.mpr ⟨mn_X5_addSign, List.forall_mem_cons.mpr ⟨mx_X5_addSign, List.forall_mem_cons.mpr ⟨mz_RX5, (fun _ h => absurd h List.not_mem_nil)⟩⟩⟩⟩), mo_X5_addSign⟩
theorem fl_RX8_171 : rn_FL RX8 171 8 10 := ⟨(RX8, TX8, 11), rfl, by decide, rn_ws 380 (by decide +kernel) rfl⟩
theorem mn_X5_readInto : Cond.instanceMethod yX5_readInto ∈ rn_WS := rn_ws 534 (by decide +kernel) rfl
theorem mx_X5_readInto : Cond.selects RX5 yX5_readInto yX5_readInto ∈ rn_WS := rn_ws 535 (by decide +kernel) rfl
theorem mm_RX8_174 : rn_MV RX8 174 M_X5_readInto 1 := ⟨rn_gi (pre := [.methodLink RX8 174 yX5_readInto, .instanceMethod yX5_readInto, .selects RX5 yX5_readInto yX5_readInto, .initialized RX5]) mc_X5_readInto (List.forall_mem_cons.mpr ⟨rn_ws 533 (by decide +kernel) rfl, List.forall_mem_cons.mpr ⟨mn_X5_readInto, List.forall_mem_cons.mpr ⟨mx_X5_readInto, List.forall_mem_cons.mpr ⟨mz_RX5, (fun _ h => absurd h List.not_mem_nil)⟩⟩⟩⟩), mo_X5_readInto⟩
theorem fl_RX8_178 : rn_FL RX8 178 3 11 := ⟨(RX3, TX3, 15), rfl, by decide, rn_ws 209 (by decide +kernel) rfl⟩
theorem fl_RX8_182 : rn_FL RX8 182 3 0 := ⟨(RX3, TX3, 15), rfl, by decide, rn_ws 188 (by decide +kernel) rfl⟩
theorem fl_RX8_185 : rn_FL RX8 185 3 10 := ⟨(RX3, TX3, 15), rfl, by decide, rn_ws 207 (by decide +kernel) rfl⟩
theorem fl_RX8_188 : rn_FL RX8 188 1 2 := ⟨(RX1, TX1, 4), rfl, by decide, rn_ws 128 (by decide +kernel) rfl⟩
theorem fl_RX8_191 : rn_FL RX8 191 1 3 := ⟨(RX1, TX1, 4), rfl, by decide, rn_ws 132 (by decide +kernel) rfl⟩
theorem fl_RX8_194 : rn_FL RX8 194 3 7 := ⟨(RX3, TX3, 15), rfl, by decide, rn_ws 201 (by decide +kernel) rfl⟩
theorem fl_RX8_197 : rn_FL RX8 197 3 9 := ⟨(RX3, TX3, 15), rfl, by decide, rn_ws 205 (by decide +kernel) rfl⟩
theorem fl_RX8_200 : rn_FL RX8 200 3 5 := ⟨(RX3, TX3, 15), rfl, by decide, rn_ws 197 (by decide +kernel) rfl⟩
theorem mm_RX8_203 : rn_MV RX8 203 M_X3_outBits 0 := ⟨rn_gi (pre := [.methodLink RX8 203 yX3_outBits, .instanceMethod yX3_outBits, .selects RX3 yX3_outBits yX3_outBits, .initialized RX3]) mc_X3_outBits (List.forall_mem_cons.mpr ⟨rn_ws 706 (by decide +kernel) rfl, List.forall_mem_cons.mpr ⟨mn_X3_outBits, List.forall_mem_cons.mpr ⟨mx_X3_outBits, List.forall_mem_cons.mpr ⟨mz_RX3, (fun _ h => absurd h List.not_mem_nil)⟩⟩⟩⟩), mo_X3_outBits⟩
theorem mn_X3_passMinutes : Cond.instanceMethod yX3_passMinutes ∈ rn_WS := rn_ws 715 (by decide +kernel) rfl
theorem mx_X3_passMinutes : Cond.selects RX3 yX3_passMinutes yX3_passMinutes ∈ rn_WS := rn_ws 716 (by decide +kernel) rfl
theorem mm_RX8_207 : rn_MV RX8 207 M_X3_passMinutes 1 := ⟨rn_gi (pre := [.methodLink RX8 207 yX3_passMinutes, .instanceMethod yX3_passMinutes, .selects RX3 yX3_passMinutes yX3_passMinutes, .initialized RX3]) mc_X3_passMinutes (List.forall_mem_cons.mpr ⟨rn_ws 714 (by decide +kernel) rfl, List.forall_mem_cons.mpr ⟨mn_X3_passMinutes, List.forall_mem_cons.mpr ⟨mx_X3_passMinutes, List.forall_mem_cons.mpr ⟨mz_RX3, (fun _ h => absurd h List.not_mem_nil)⟩⟩⟩⟩), mo_X3_passMinutes⟩
theorem mn_X3_copyFrom : Cond.instanceMethod yX3_copyFrom ∈ rn_WS := rn_ws 744 (by decide +kernel) rfl
theorem mx_X3_copyFrom : Cond.selects RX3 yX3_copyFrom yX3_copyFrom ∈ rn_WS := rn_ws 745 (by decide +kernel) rfl
theorem mm_RX8_210 : rn_MV RX8 210 M_X3_copyFrom 1 := ⟨rn_gi (pre := [.methodLink RX8 210 yX3_copyFrom, .instanceMethod yX3_copyFrom, .selects RX3 yX3_copyFrom yX3_copyFrom, .initialized RX3]) mc_X3_copyFrom (List.forall_mem_cons.mpr ⟨rn_ws 743 (by decide +kernel) rfl, List.forall_mem_cons.mpr ⟨mn_X3_copyFrom, List.forall_mem_cons.mpr ⟨mx_X3_copyFrom, List.forall_mem_cons.mpr ⟨mz_RX3, (fun _ h => absurd h List.not_mem_nil)⟩⟩⟩⟩), mo_X3_copyFrom⟩
theorem mm_RX8_214 : rn_MV RX8 214 M_X3_inside 0 := ⟨rn_gi (pre := [.methodLink RX8 214 yX3_inside, .instanceMethod yX3_inside, .selects RX3 yX3_inside yX3_inside, .initialized RX3]) mc_X3_inside (List.forall_mem_cons.mpr ⟨rn_ws 759 (by decide +kernel) rfl, List.forall_mem_cons.mpr ⟨mn_X3_inside, List.forall_mem_cons.mpr ⟨mx_X3_inside, List.forall_mem_cons.mpr ⟨mz_RX3, (fun _ h => absurd h List.not_mem_nil)⟩⟩⟩⟩), mo_X3_inside⟩
theorem mm_RX8_217 : rn_MV RX8 217 M_X3_passMinute 0 := ⟨rn_gi (pre := [.methodLink RX8 217 yX3_passMinute, .instanceMethod yX3_passMinute, .selects RX3 yX3_passMinute yX3_passMinute, .initialized RX3]) mc_X3_passMinute (List.forall_mem_cons.mpr ⟨rn_ws 764 (by decide +kernel) rfl, List.forall_mem_cons.mpr ⟨mn_X3_passMinute, List.forall_mem_cons.mpr ⟨mx_X3_passMinute, List.forall_mem_cons.mpr ⟨mz_RX3, (fun _ h => absurd h List.not_mem_nil)⟩⟩⟩⟩), mo_X3_passMinute⟩
theorem mn_X3_leftBehind : Cond.instanceMethod yX3_leftBehind ∈ rn_WS := rn_ws 774 (by decide +kernel) rfl
theorem mx_X3_leftBehind : Cond.selects RX3 yX3_leftBehind yX3_leftBehind ∈ rn_WS := rn_ws 775 (by decide +kernel) rfl
theorem mm_RX8_220 : rn_MV RX8 220 M_X3_leftBehind 0 := ⟨rn_gi (pre := [.methodLink RX8 220 yX3_leftBehind, .instanceMethod yX3_leftBehind, .selects RX3 yX3_leftBehind yX3_leftBehind, .initialized RX3]) mc_X3_leftBehind (List.forall_mem_cons.mpr ⟨rn_ws 773 (by decide +kernel) rfl, List.forall_mem_cons.mpr ⟨mn_X3_leftBehind, List.forall_mem_cons.mpr ⟨mx_X3_leftBehind, List.forall_mem_cons.mpr ⟨mz_RX3, (fun _ h => absurd h List.not_mem_nil)⟩⟩⟩⟩), mo_X3_leftBehind⟩
theorem mn_X8_bestChange : Cond.instanceMethod yX8_bestChange ∈ rn_WS := rn_ws 780 (by decide +kernel) rfl
theorem mx_X8_bestChange : Cond.selects RX8 yX8_bestChange yX8_bestChange ∈ rn_WS := rn_ws 13 (by decide +kernel) rfl
theorem mm_RX8_223 : rn_MV RX8 223 M_X8_bestChange 2 := ⟨rn_gi (pre := [.methodLink RX8 223 yX8_bestChange, .instanceMethod yX8_bestChange, .selects RX8 yX8_bestChange yX8_bestChange, .initialized RX8]) mc_X8_bestChange (List.forall_mem_cons.mpr ⟨rn_ws 778 (by decide +kernel) rfl, List.forall_mem_cons.mpr ⟨mn_X8_bestChange, List.forall_mem_cons.mpr ⟨mx_X8_bestChange, List.forall_mem_cons.mpr ⟨mz_RX8, (fun _ h => absurd h List.not_mem_nil)⟩⟩⟩⟩), mo_X8_bestChange⟩
theorem mn_X8_canChange : Cond.instanceMethod yX8_canChange ∈ rn_WS := rn_ws 784 (by decide +kernel) rfl
theorem mx_X8_canChange : Cond.selects RX8 yX8_canChange yX8_canChange ∈ rn_WS := rn_ws 14 (by decide +kernel) rfl
theorem mm_RX8_227 : rn_MV RX8 227 M_X8_canChange 2 := ⟨rn_gi (pre := [.methodLink RX8 227 yX8_canChange, .instanceMethod yX8_canChange, .selects RX8 yX8_canChange yX8_canChange, .initialized RX8]) mc_X8_canChange (List.forall_mem_cons.mpr ⟨rn_ws 782 (by decide +kernel) rfl, List.forall_mem_cons.mpr ⟨mn_X8_canChange, List.forall_mem_cons.mpr ⟨mx_X8_canChange, List.forall_mem_cons.mpr ⟨mz_RX8, (fun _ h => absurd h List.not_mem_nil)⟩⟩⟩⟩), mo_X8_canChange⟩
theorem mn_X8_makeChange : Cond.instanceMethod yX8_makeChange ∈ rn_WS := rn_ws 788 (by decide +kernel) rfl
theorem mx_X8_makeChange : Cond.selects RX8 yX8_makeChange yX8_makeChange ∈ rn_WS := rn_ws 15 (by decide +kernel) rfl
theorem mm_RX8_231 : rn_MV RX8 231 M_X8_makeChange 2 := ⟨rn_gi (pre := [.methodLink RX8 231 yX8_makeChange, .instanceMethod yX8_makeChange, .selects RX8 yX8_makeChange yX8_makeChange, .initialized RX8]) mc_X8_makeChange (List.forall_mem_cons.mpr ⟨rn_ws 786 (by decide +kernel) rfl, List.forall_mem_cons.mpr ⟨mn_X8_makeChange, List.forall_mem_cons.mpr ⟨mx_X8_makeChange, List.forall_mem_cons.mpr ⟨mz_RX8, (fun _ h => absurd h List.not_mem_nil)⟩⟩⟩⟩), mo_X8_makeChange⟩
theorem mn_X3_beginRoundWith : Cond.instanceMethod yX3_beginRoundWith ∈ rn_WS := rn_ws 791 (by decide +kernel) rfl
theorem mx_X3_beginRoundWith : Cond.selects RX3 yX3_beginRoundWith yX3_beginRoundWith ∈ rn_WS := rn_ws 792 (by decide +kernel) rfl
theorem mm_RX8_234 : rn_MV RX8 234 M_X3_beginRoundWith 1 := ⟨rn_gi (pre := [.methodLink RX8 234 yX3_beginRoundWith, .instanceMethod yX3_beginRoundWith, .selects RX3 yX3_beginRoundWith yX3_beginRoundWith, .initialized RX3]) mc_X3_beginRoundWith (List.forall_mem_cons.mpr ⟨rn_ws 790 (by decide +kernel) rfl, List.forall_mem_cons.mpr ⟨mn_X3_beginRoundWith, List.forall_mem_cons.mpr ⟨mx_X3_beginRoundWith, List.forall_mem_cons.mpr ⟨mz_RX3, (fun _ h => absurd h List.not_mem_nil)⟩⟩⟩⟩), mo_X3_beginRoundWith⟩
theorem mn_X3_swapInRound : Cond.instanceMethod yX3_swapInRound ∈ rn_WS := rn_ws 795 (by decide +kernel) rfl
theorem mx_X3_swapInRound : Cond.selects RX3 yX3_swapInRound yX3_swapInRound ∈ rn_WS := rn_ws 796 (by decide +kernel) rfl
theorem mm_RX8_237 : rn_MV RX8 237 M_X3_swapInRound 2 := ⟨rn_gi (pre := [.methodLink RX8 237 yX3_swapInRound, .instanceMethod yX3_swapInRound, .selects RX3 yX3_swapInRound yX3_swapInRound, .initialized RX3]) mc_X3_swapInRound (List.forall_mem_cons.mpr ⟨rn_ws 794 (by decide +kernel) rfl, List.forall_mem_cons.mpr ⟨mn_X3_swapInRound, List.forall_mem_cons.mpr ⟨mx_X3_swapInRound, List.forall_mem_cons.mpr ⟨mz_RX3, (fun _ h => absurd h List.not_mem_nil)⟩⟩⟩⟩), mo_X3_swapInRound⟩
theorem fl_RX8_240 : rn_FL RX8 240 3 12 := ⟨(RX3, TX3, 15), rfl, by decide, rn_ws 211 (by decide +kernel) rfl⟩
theorem fl_RX8_243 : rn_FL RX8 243 3 13 := ⟨(RX3, TX3, 15), rfl, by decide, rn_ws 213 (by decide +kernel) rfl⟩
theorem mn_X3_keepOpen : Cond.instanceMethod yX3_keepOpen ∈ rn_WS := rn_ws 799 (by decide +kernel) rfl
theorem mx_X3_keepOpen : Cond.selects RX3 yX3_keepOpen yX3_keepOpen ∈ rn_WS := rn_ws 800 (by decide +kernel) rfl
theorem mm_RX8_246 : rn_MV RX8 246 M_X3_keepOpen 1 := ⟨rn_gi (pre := [.methodLink RX8 246 yX3_keepOpen, .instanceMethod yX3_keepOpen, .selects RX3 yX3_keepOpen yX3_keepOpen, .initialized RX3]) mc_X3_keepOpen (List.forall_mem_cons.mpr ⟨rn_ws 798 (by decide +kernel) rfl, List.forall_mem_cons.mpr ⟨mn_X3_keepOpen, List.forall_mem_cons.mpr ⟨mx_X3_keepOpen, List.forall_mem_cons.mpr ⟨mz_RX3, (fun _ h => absurd h List.not_mem_nil)⟩⟩⟩⟩), mo_X3_keepOpen⟩
theorem mn_X3_sendOthersOut : Cond.instanceMethod yX3_sendOthersOut ∈ rn_WS := rn_ws 807 (by decide +kernel) rfl
theorem mx_X3_sendOthersOut : Cond.selects RX3 yX3_sendOthersOut yX3_sendOthersOut ∈ rn_WS := rn_ws 808 (by decide +kernel) rfl
theorem mm_RX8_249 : rn_MV RX8 249 M_X3_sendOthersOut 1 := ⟨rn_gi (pre := [.methodLink RX8 249 yX3_sendOthersOut, .instanceMethod yX3_sendOthersOut, .selects RX3 yX3_sendOthersOut yX3_sendOthersOut, .initialized RX3]) mc_X3_sendOthersOut (List.forall_mem_cons.mpr ⟨rn_ws 806 (by decide +kernel) rfl, List.forall_mem_cons.mpr ⟨mn_X3_sendOthersOut, List.forall_mem_cons.mpr ⟨mx_X3_sendOthersOut, List.forall_mem_cons.mpr ⟨mz_RX3, (fun _ h => absurd h List.not_mem_nil)⟩⟩⟩⟩), mo_X3_sendOthersOut⟩
theorem fl_RX8_252 : rn_FL RX8 252 6 3 := ⟨(RX6, TX6, 4), rfl, by decide, rn_ws 259 (by decide +kernel) rfl⟩
theorem mn_X6_isFull : Cond.instanceMethod yX6_isFull ∈ rn_WS := rn_ws 815 (by decide +kernel) rfl
theorem mx_X6_isFull : Cond.selects RX6 yX6_isFull yX6_isFull ∈ rn_WS := rn_ws 816 (by decide +kernel) rfl
theorem mm_RX8_255 : rn_MV RX8 255 M_X6_isFull 0 := ⟨rn_gi (pre := [.methodLink RX8 255 yX6_isFull, .instanceMethod yX6_isFull, .selects RX6 yX6_isFull yX6_isFull, .initialized RX6]) mc_X6_isFull (List.forall_mem_cons.mpr ⟨rn_ws 814 (by decide +kernel) rfl, List.forall_mem_cons.mpr ⟨mn_X6_isFull, List.forall_mem_cons.mpr ⟨mx_X6_isFull, List.forall_mem_cons.mpr ⟨mz_RX6, (fun _ h => absurd h List.not_mem_nil)⟩⟩⟩⟩), mo_X6_isFull⟩
theorem mn_X6_addRow : Cond.instanceMethod yX6_addRow ∈ rn_WS := rn_ws 819 (by decide +kernel) rfl
theorem mx_X6_addRow : Cond.selects RX6 yX6_addRow yX6_addRow ∈ rn_WS := rn_ws 820 (by decide +kernel) rfl
theorem mm_RX8_259 : rn_MV RX8 259 M_X6_addRow 3 := ⟨rn_gi (pre := [.methodLink RX8 259 yX6_addRow, .instanceMethod yX6_addRow, .selects RX6 yX6_addRow yX6_addRow, .initialized RX6]) mc_X6_addRow (List.forall_mem_cons.mpr ⟨rn_ws 818 (by decide +kernel) rfl, List.forall_mem_cons.mpr ⟨mn_X6_addRow, List.forall_mem_cons.mpr ⟨mx_X6_addRow, List.forall_mem_cons.mpr ⟨mz_RX6, (fun _ h => absurd h List.not_mem_nil)⟩⟩⟩⟩), mo_X6_addRow⟩
theorem mt_X8_isPart : Cond.static yX8_isPart ∈ rn_WS := rn_ws 827 (by decide +kernel) rfl
theorem mm_RX8_262 : rn_MS RX8 262 M_X8_isPart 1 := ⟨rn_gi (pre := [.methodLink RX8 262 yX8_isPart, .static yX8_isPart, .initialized RX8]) mc_X8_isPart (List.forall_mem_cons.mpr ⟨rn_ws 826 (by decide +kernel) rfl, List.forall_mem_cons.mpr ⟨mt_X8_isPart, List.forall_mem_cons.mpr ⟨mz_RX8, (fun _ h => absurd h List.not_mem_nil)⟩⟩⟩), mo_X8_isPart⟩
theorem mn_X8_trialIsAsSeen : Cond.instanceMethod yX8_trialIsAsSeen ∈ rn_WS := rn_ws 831 (by decide +kernel) rfl
theorem mx_X8_trialIsAsSeen : Cond.selects RX8 yX8_trialIsAsSeen yX8_trialIsAsSeen ∈ rn_WS := rn_ws 16 (by decide +kernel) rfl
theorem mm_RX8_265 : rn_MV RX8 265 M_X8_trialIsAsSeen 0 := ⟨rn_gi (pre := [.methodLink RX8 265 yX8_trialIsAsSeen, .instanceMethod yX8_trialIsAsSeen, .selects RX8 yX8_trialIsAsSeen yX8_trialIsAsSeen, .initialized RX8]) mc_X8_trialIsAsSeen (List.forall_mem_cons.mpr ⟨rn_ws 829 (by decide +kernel) rfl, List.forall_mem_cons.mpr ⟨mn_X8_trialIsAsSeen, List.forall_mem_cons.mpr ⟨mx_X8_trialIsAsSeen, List.forall_mem_cons.mpr ⟨mz_RX8, (fun _ h => absurd h List.not_mem_nil)⟩⟩⟩⟩), mo_X8_trialIsAsSeen⟩
theorem mm_RX8_268 : rn_MS RX8 268 M_J6_bitCount_0f7a4 1 := ⟨rn_gi (pre := [.methodLink RX8 268 yJ6_bitCount_0f7a4, .static yJ6_bitCount_0f7a4, .initialized RJ6]) mc_J6_bitCount_0f7a4 (List.forall_mem_cons.mpr ⟨rn_ws 834 (by decide +kernel) rfl, List.forall_mem_cons.mpr ⟨mt_J6_bitCount_0f7a4, List.forall_mem_cons.mpr ⟨mz_RJ6, (fun _ h => absurd h List.not_mem_nil)⟩⟩⟩), mo_J6_bitCount_0f7a4⟩
theorem mt_X8_leastOf : Cond.static yX8_leastOf ∈ rn_WS := rn_ws 836 (by decide +kernel) rfl
theorem mm_RX8_273 : rn_MS RX8 273 M_X8_leastOf 1 := ⟨rn_gi (pre := [.methodLink RX8 273 yX8_leastOf, .static yX8_leastOf, .initialized RX8]) mc_X8_leastOf (List.forall_mem_cons.mpr ⟨rn_ws 835 (by decide +kernel) rfl, List.forall_mem_cons.mpr ⟨mt_X8_leastOf, List.forall_mem_cons.mpr ⟨mz_RX8, (fun _ h => absurd h List.not_mem_nil)⟩⟩⟩), mo_X8_leastOf⟩
theorem fl_RX8_276 : rn_FL RX8 276 6 2 := ⟨(RX6, TX6, 4), rfl, by decide, rn_ws 257 (by decide +kernel) rfl⟩
theorem mm_RX8_279 : rn_MS RX8 279 M_J9_max_7cf53 2 := ⟨rn_gi (pre := [.methodLink RX8 279 yJ9_max_7cf53, .static yJ9_max_7cf53, .initialized RJ9]) mc_J9_max_7cf53 (List.forall_mem_cons.mpr ⟨rn_ws 833 (by decide +kernel) rfl, List.forall_mem_cons.mpr ⟨mt_J9_max_7cf53, List.forall_mem_cons.mpr ⟨mz_RJ9, (fun _ h => absurd h List.not_mem_nil)⟩⟩⟩), mo_J9_max_7cf53⟩
theorem fl_RX8_284 : rn_FL RX8 284 6 0 := ⟨(RX6, TX6, 4), rfl, by decide, rn_ws 253 (by decide +kernel) rfl⟩
theorem fl_RX8_287 : rn_FL RX8 287 6 1 := ⟨(RX6, TX6, 4), rfl, by decide, rn_ws 255 (by decide +kernel) rfl⟩
theorem mt_J6_numberOfTrailingZeros_0f7a4 : Cond.static yJ6_numberOfTrailingZeros_0f7a4 ∈ rn_WS := rn_ws 839 (by decide +kernel) rfl
theorem mm_RX8_290 : rn_MS RX8 290 M_J6_numberOfTrailingZeros_0f7a4 1 := ⟨rn_gi (pre := [.methodLink RX8 290 yJ6_numberOfTrailingZeros_0f7a4, .static yJ6_numberOfTrailingZeros_0f7a4, .initialized RJ6]) mc_J6_numberOfTrailingZeros_0f7a4 (List.forall_mem_cons.mpr ⟨rn_ws 838 (by decide +kernel) rfl, List.forall_mem_cons.mpr ⟨mt_J6_numberOfTrailingZeros_0f7a4, List.forall_mem_cons.mpr ⟨mz_RJ6, (fun _ h => absurd h List.not_mem_nil)⟩⟩⟩), mo_J6_numberOfTrailingZeros_0f7a4⟩
theorem kl_RX8_293 : Cond.constantLong RX8 293 (-9223372036854775808) ∈ rn_WS := rn_ws 850 (by decide +kernel) rfl
theorem mt_X8_fractionPart : Cond.static yX8_fractionPart ∈ rn_WS := rn_ws 852 (by decide +kernel) rfl
theorem mm_RX8_295 : rn_MS RX8 295 M_X8_fractionPart 3 := ⟨rn_gi (pre := [.methodLink RX8 295 yX8_fractionPart, .static yX8_fractionPart, .initialized RX8]) mc_X8_fractionPart (List.forall_mem_cons.mpr ⟨rn_ws 851 (by decide +kernel) rfl, List.forall_mem_cons.mpr ⟨mt_X8_fractionPart, List.forall_mem_cons.mpr ⟨mz_RX8, (fun _ h => absurd h List.not_mem_nil)⟩⟩⟩), mo_X8_fractionPart⟩
theorem mt_X8_commonDivisor : Cond.static yX8_commonDivisor ∈ rn_WS := rn_ws 855 (by decide +kernel) rfl
theorem mm_RX8_299 : rn_MS RX8 299 M_X8_commonDivisor 2 := ⟨rn_gi (pre := [.methodLink RX8 299 yX8_commonDivisor, .static yX8_commonDivisor, .initialized RX8]) mc_X8_commonDivisor (List.forall_mem_cons.mpr ⟨rn_ws 854 (by decide +kernel) rfl, List.forall_mem_cons.mpr ⟨mt_X8_commonDivisor, List.forall_mem_cons.mpr ⟨mz_RX8, (fun _ h => absurd h List.not_mem_nil)⟩⟩⟩), mo_X8_commonDivisor⟩
theorem mt_X8_isTape : Cond.static yX8_isTape ∈ rn_WS := rn_ws 882 (by decide +kernel) rfl
theorem mm_RX8_302 : rn_MS RX8 302 M_X8_isTape 1 := ⟨rn_gi (pre := [.methodLink RX8 302 yX8_isTape, .static yX8_isTape, .initialized RX8]) mc_X8_isTape (List.forall_mem_cons.mpr ⟨rn_ws 881 (by decide +kernel) rfl, List.forall_mem_cons.mpr ⟨mt_X8_isTape, List.forall_mem_cons.mpr ⟨mz_RX8, (fun _ h => absurd h List.not_mem_nil)⟩⟩⟩), mo_X8_isTape⟩
theorem fl_RX8_305 : rn_FL RX8 305 7 1 := ⟨(RX7, TX7, 3), rfl, by decide, rn_ws 359 (by decide +kernel) rfl⟩
theorem fl_RX8_308 : rn_FL RX8 308 7 2 := ⟨(RX7, TX7, 3), rfl, by decide, rn_ws 361 (by decide +kernel) rfl⟩
theorem fl_RX8_309 : rn_FL RX8 309 7 0 := ⟨(RX7, TX7, 3), rfl, by decide, rn_ws 357 (by decide +kernel) rfl⟩
theorem fl_RX8_313 : rn_FL RX8 313 2 0 := ⟨(RX2, TX2, 5), rfl, by decide, rn_ws 280 (by decide +kernel) rfl⟩
theorem fl_RX8_316 : rn_FL RX8 316 2 1 := ⟨(RX2, TX2, 5), rfl, by decide, rn_ws 282 (by decide +kernel) rfl⟩
theorem mn_X6_copyFrom : Cond.instanceMethod yX6_copyFrom ∈ rn_WS := rn_ws 889 (by decide +kernel) rfl
theorem mx_X6_copyFrom : Cond.selects RX6 yX6_copyFrom yX6_copyFrom ∈ rn_WS := rn_ws 890 (by decide +kernel) rfl
theorem mm_RX8_317 : rn_MV RX8 317 M_X6_copyFrom 1 := ⟨rn_gi (pre := [.methodLink RX8 317 yX6_copyFrom, .instanceMethod yX6_copyFrom, .selects RX6 yX6_copyFrom yX6_copyFrom, .initialized RX6]) mc_X6_copyFrom (List.forall_mem_cons.mpr ⟨rn_ws 888 (by decide +kernel) rfl, List.forall_mem_cons.mpr ⟨mn_X6_copyFrom, List.forall_mem_cons.mpr ⟨mx_X6_copyFrom, List.forall_mem_cons.mpr ⟨mz_RX6, (fun _ h => absurd h List.not_mem_nil)⟩⟩⟩⟩), mo_X6_copyFrom⟩
theorem fl_RX8_320 : rn_FL RX8 320 2 2 := ⟨(RX2, TX2, 5), rfl, by decide, rn_ws 284 (by decide +kernel) rfl⟩
theorem fl_RX8_321 : rn_FL RX8 321 2 3 := ⟨(RX2, TX2, 5), rfl, by decide, rn_ws 286 (by decide +kernel) rfl⟩
theorem fl_RX8_322 : rn_FL RX8 322 2 4 := ⟨(RX2, TX2, 5), rfl, by decide, rn_ws 287 (by decide +kernel) rfl⟩
theorem fl_RX8_325 : rn_FL RX8 325 0 1 := ⟨(RX0, TX0, 5), rfl, by decide, rn_ws 333 (by decide +kernel) rfl⟩
theorem mn_X0_begin : Cond.instanceMethod yX0_begin ∈ rn_WS := rn_ws 903 (by decide +kernel) rfl
theorem mx_X0_begin : Cond.selects RX0 yX0_begin yX0_begin ∈ rn_WS := rn_ws 904 (by decide +kernel) rfl
theorem mm_RX8_328 : rn_MV RX8 328 M_X0_begin 4 := ⟨rn_gi (pre := [.methodLink RX8 328 yX0_begin, .instanceMethod yX0_begin, .selects RX0 yX0_begin yX0_begin, .initialized RX0]) mc_X0_begin (List.forall_mem_cons.mpr ⟨rn_ws 902 (by decide +kernel) rfl, List.forall_mem_cons.mpr ⟨mn_X0_begin, List.forall_mem_cons.mpr ⟨mx_X0_begin, List.forall_mem_cons.mpr ⟨mz_RX0, (fun _ h => absurd h List.not_mem_nil)⟩⟩⟩⟩), mo_X0_begin⟩
theorem mm_RX8_332 : rn_MS RX8 332 M_J9_min_7cf53 2 := ⟨rn_gi (pre := [.methodLink RX8 332 yJ9_min_7cf53, .static yJ9_min_7cf53, .initialized RJ9]) mc_J9_min_7cf53 (List.forall_mem_cons.mpr ⟨rn_ws 929 (by decide +kernel) rfl, List.forall_mem_cons.mpr ⟨mt_J9_min_7cf53, List.forall_mem_cons.mpr ⟨mz_RJ9, (fun _ h => absurd h List.not_mem_nil)⟩⟩⟩), mo_J9_min_7cf53⟩
theorem fl_RX8_335 : rn_FL RX8 335 0 0 := ⟨(RX0, TX0, 5), rfl, by decide, rn_ws 331 (by decide +kernel) rfl⟩
theorem mt_X8_isUnder : Cond.static yX8_isUnder ∈ rn_WS := rn_ws 935 (by decide +kernel) rfl
theorem mm_RX8_338 : rn_MS RX8 338 M_X8_isUnder 2 := ⟨rn_gi (pre := [.methodLink RX8 338 yX8_isUnder, .static yX8_isUnder, .initialized RX8]) mc_X8_isUnder (List.forall_mem_cons.mpr ⟨rn_ws 934 (by decide +kernel) rfl, List.forall_mem_cons.mpr ⟨mt_X8_isUnder, List.forall_mem_cons.mpr ⟨mz_RX8, (fun _ h => absurd h List.not_mem_nil)⟩⟩⟩), mo_X8_isUnder⟩
theorem gs_RX8_341 : Cond.fieldLink RX8 341 "LockedAtDusk" "KIND_ABOVE" "[I" ∈ rn_WS := rn_ws 937 (by decide +kernel) rfl
theorem mn_X7_become : Cond.instanceMethod yX7_become ∈ rn_WS := rn_ws 947 (by decide +kernel) rfl
theorem mx_X7_become : Cond.selects RX7 yX7_become yX7_become ∈ rn_WS := rn_ws 948 (by decide +kernel) rfl
theorem mm_RX8_344 : rn_MV RX8 344 M_X7_become 2 := ⟨rn_gi (pre := [.methodLink RX8 344 yX7_become, .instanceMethod yX7_become, .selects RX7 yX7_become yX7_become, .initialized RX7]) mc_X7_become (List.forall_mem_cons.mpr ⟨rn_ws 946 (by decide +kernel) rfl, List.forall_mem_cons.mpr ⟨mn_X7_become, List.forall_mem_cons.mpr ⟨mx_X7_become, List.forall_mem_cons.mpr ⟨mz_RX7, (fun _ h => absurd h List.not_mem_nil)⟩⟩⟩⟩), mo_X7_become⟩
theorem mn_X7_hasItem : Cond.instanceMethod yX7_hasItem ∈ rn_WS := rn_ws 955 (by decide +kernel) rfl
theorem mx_X7_hasItem : Cond.selects RX7 yX7_hasItem yX7_hasItem ∈ rn_WS := rn_ws 956 (by decide +kernel) rfl
theorem mm_RX8_347 : rn_MV RX8 347 M_X7_hasItem 1 := ⟨rn_gi (pre := [.methodLink RX8 347 yX7_hasItem, .instanceMethod yX7_hasItem, .selects RX7 yX7_hasItem yX7_hasItem, .initialized RX7]) mc_X7_hasItem (List.forall_mem_cons.mpr ⟨rn_ws 954 (by decide +kernel) rfl, List.forall_mem_cons.mpr ⟨mn_X7_hasItem, List.forall_mem_cons.mpr ⟨mx_X7_hasItem, List.forall_mem_cons.mpr ⟨mz_RX7, (fun _ h => absurd h List.not_mem_nil)⟩⟩⟩⟩), mo_X7_hasItem⟩
theorem mn_X7_narrowed : Cond.instanceMethod yX7_narrowed ∈ rn_WS := rn_ws 959 (by decide +kernel) rfl
theorem mx_X7_narrowed : Cond.selects RX7 yX7_narrowed yX7_narrowed ∈ rn_WS := rn_ws 960 (by decide +kernel) rfl
theorem mm_RX8_350 : rn_MV RX8 350 M_X7_narrowed 1 := ⟨rn_gi (pre := [.methodLink RX8 350 yX7_narrowed, .instanceMethod yX7_narrowed, .selects RX7 yX7_narrowed yX7_narrowed, .initialized RX7]) mc_X7_narrowed (List.forall_mem_cons.mpr ⟨rn_ws 958 (by decide +kernel) rfl, List.forall_mem_cons.mpr ⟨mn_X7_narrowed, List.forall_mem_cons.mpr ⟨mx_X7_narrowed, List.forall_mem_cons.mpr ⟨mz_RX7, (fun _ h => absurd h List.not_mem_nil)⟩⟩⟩⟩), mo_X7_narrowed⟩
theorem mn_X7_hasItems : Cond.instanceMethod yX7_hasItems ∈ rn_WS := rn_ws 971 (by decide +kernel) rfl
theorem mx_X7_hasItems : Cond.selects RX7 yX7_hasItems yX7_hasItems ∈ rn_WS := rn_ws 972 (by decide +kernel) rfl
theorem mm_RX8_354 : rn_MV RX8 354 M_X7_hasItems 2 := ⟨rn_gi (pre := [.methodLink RX8 354 yX7_hasItems, .instanceMethod yX7_hasItems, .selects RX7 yX7_hasItems yX7_hasItems, .initialized RX7]) mc_X7_hasItems (List.forall_mem_cons.mpr ⟨rn_ws 970 (by decide +kernel) rfl, List.forall_mem_cons.mpr ⟨mn_X7_hasItems, List.forall_mem_cons.mpr ⟨mx_X7_hasItems, List.forall_mem_cons.mpr ⟨mz_RX7, (fun _ h => absurd h List.not_mem_nil)⟩⟩⟩⟩), mo_X7_hasItems⟩
theorem ac_RX8_357 : Cond.methodLink RX8 357 arraycopyName ∈ rn_WS := rn_ws 974 (by decide +kernel) rfl
theorem ob_RX9_1 : Cond.methodLink RX9 1 Lib.objectInit ∈ rn_WS := rn_ws 980 (by decide +kernel) rfl
theorem fl_RX9_7 : rn_FL RX9 7 9 0 := ⟨(RX9, TX9, 93), rfl, by decide, rn_ws 981 (by decide +kernel) rfl⟩
theorem fl_RX9_13 : rn_FL RX9 13 9 1 := ⟨(RX9, TX9, 93), rfl, by decide, rn_ws 982 (by decide +kernel) rfl⟩
theorem fl_RX9_16 : rn_FL RX9 16 9 2 := ⟨(RX9, TX9, 93), rfl, by decide, rn_ws 983 (by decide +kernel) rfl⟩
theorem fl_RX9_19 : rn_FL RX9 19 9 3 := ⟨(RX9, TX9, 93), rfl, by decide, rn_ws 984 (by decide +kernel) rfl⟩
theorem fl_RX9_22 : rn_FL RX9 22 9 4 := ⟨(RX9, TX9, 93), rfl, by decide, rn_ws 985 (by decide +kernel) rfl⟩
theorem fl_RX9_25 : rn_FL RX9 25 9 5 := ⟨(RX9, TX9, 93), rfl, by decide, rn_ws 986 (by decide +kernel) rfl⟩
theorem fl_RX9_28 : rn_FL RX9 28 9 6 := ⟨(RX9, TX9, 93), rfl, by decide, rn_ws 987 (by decide +kernel) rfl⟩
theorem fl_RX9_31 : rn_FL RX9 31 9 7 := ⟨(RX9, TX9, 93), rfl, by decide, rn_ws 988 (by decide +kernel) rfl⟩
theorem fl_RX9_34 : rn_FL RX9 34 9 8 := ⟨(RX9, TX9, 93), rfl, by decide, rn_ws 989 (by decide +kernel) rfl⟩
theorem fl_RX9_37 : rn_FL RX9 37 9 9 := ⟨(RX9, TX9, 93), rfl, by decide, rn_ws 990 (by decide +kernel) rfl⟩
theorem fl_RX9_41 : rn_FL RX9 41 9 10 := ⟨(RX9, TX9, 93), rfl, by decide, rn_ws 991 (by decide +kernel) rfl⟩
theorem fl_RX9_44 : rn_FL RX9 44 9 11 := ⟨(RX9, TX9, 93), rfl, by decide, rn_ws 992 (by decide +kernel) rfl⟩
theorem fl_RX9_47 : rn_FL RX9 47 9 12 := ⟨(RX9, TX9, 93), rfl, by decide, rn_ws 993 (by decide +kernel) rfl⟩
theorem fl_RX9_50 : rn_FL RX9 50 9 13 := ⟨(RX9, TX9, 93), rfl, by decide, rn_ws 994 (by decide +kernel) rfl⟩
theorem fl_RX9_53 : rn_FL RX9 53 9 14 := ⟨(RX9, TX9, 93), rfl, by decide, rn_ws 995 (by decide +kernel) rfl⟩
theorem fl_RX9_56 : rn_FL RX9 56 9 15 := ⟨(RX9, TX9, 93), rfl, by decide, rn_ws 996 (by decide +kernel) rfl⟩
theorem fl_RX9_59 : rn_FL RX9 59 9 16 := ⟨(RX9, TX9, 93), rfl, by decide, rn_ws 997 (by decide +kernel) rfl⟩
theorem fl_RX9_62 : rn_FL RX9 62 9 17 := ⟨(RX9, TX9, 93), rfl, by decide, rn_ws 998 (by decide +kernel) rfl⟩
theorem fl_RX9_65 : rn_FL RX9 65 9 18 := ⟨(RX9, TX9, 93), rfl, by decide, rn_ws 999 (by decide +kernel) rfl⟩
theorem fl_RX9_68 : rn_FL RX9 68 9 19 := ⟨(RX9, TX9, 93), rfl, by decide, rn_ws 1000 (by decide +kernel) rfl⟩
theorem fl_RX9_71 : rn_FL RX9 71 9 20 := ⟨(RX9, TX9, 93), rfl, by decide, rn_ws 1001 (by decide +kernel) rfl⟩
theorem fl_RX9_74 : rn_FL RX9 74 9 21 := ⟨(RX9, TX9, 93), rfl, by decide, rn_ws 1002 (by decide +kernel) rfl⟩
theorem fl_RX9_77 : rn_FL RX9 77 9 22 := ⟨(RX9, TX9, 93), rfl, by decide, rn_ws 1003 (by decide +kernel) rfl⟩
theorem fl_RX9_80 : rn_FL RX9 80 9 23 := ⟨(RX9, TX9, 93), rfl, by decide, rn_ws 1004 (by decide +kernel) rfl⟩
theorem fl_RX9_83 : rn_FL RX9 83 9 24 := ⟨(RX9, TX9, 93), rfl, by decide, rn_ws 1005 (by decide +kernel) rfl⟩
theorem fl_RX9_86 : rn_FL RX9 86 9 25 := ⟨(RX9, TX9, 93), rfl, by decide, rn_ws 1006 (by decide +kernel) rfl⟩
theorem fl_RX9_89 : rn_FL RX9 89 9 26 := ⟨(RX9, TX9, 93), rfl, by decide, rn_ws 1007 (by decide +kernel) rfl⟩
theorem fl_RX9_92 : rn_FL RX9 92 9 27 := ⟨(RX9, TX9, 93), rfl, by decide, rn_ws 1008 (by decide +kernel) rfl⟩
theorem fl_RX9_95 : rn_FL RX9 95 9 28 := ⟨(RX9, TX9, 93), rfl, by decide, rn_ws 1009 (by decide +kernel) rfl⟩
theorem fl_RX9_98 : rn_FL RX9 98 9 29 := ⟨(RX9, TX9, 93), rfl, by decide, rn_ws 1010 (by decide +kernel) rfl⟩
theorem fl_RX9_101 : rn_FL RX9 101 9 30 := ⟨(RX9, TX9, 93), rfl, by decide, rn_ws 1011 (by decide +kernel) rfl⟩
theorem fl_RX9_104 : rn_FL RX9 104 9 31 := ⟨(RX9, TX9, 93), rfl, by decide, rn_ws 1012 (by decide +kernel) rfl⟩
theorem fl_RX9_107 : rn_FL RX9 107 9 32 := ⟨(RX9, TX9, 93), rfl, by decide, rn_ws 1013 (by decide +kernel) rfl⟩
theorem fl_RX9_110 : rn_FL RX9 110 9 33 := ⟨(RX9, TX9, 93), rfl, by decide, rn_ws 1014 (by decide +kernel) rfl⟩
theorem fl_RX9_113 : rn_FL RX9 113 9 34 := ⟨(RX9, TX9, 93), rfl, by decide, rn_ws 1015 (by decide +kernel) rfl⟩
theorem fl_RX9_116 : rn_FL RX9 116 9 35 := ⟨(RX9, TX9, 93), rfl, by decide, rn_ws 1016 (by decide +kernel) rfl⟩
theorem fl_RX9_119 : rn_FL RX9 119 9 36 := ⟨(RX9, TX9, 93), rfl, by decide, rn_ws 1017 (by decide +kernel) rfl⟩
theorem fl_RX9_123 : rn_FL RX9 123 9 37 := ⟨(RX9, TX9, 93), rfl, by decide, rn_ws 1018 (by decide +kernel) rfl⟩
theorem fl_RX9_126 : rn_FL RX9 126 9 38 := ⟨(RX9, TX9, 93), rfl, by decide, rn_ws 1019 (by decide +kernel) rfl⟩
theorem fl_RX9_129 : rn_FL RX9 129 9 39 := ⟨(RX9, TX9, 93), rfl, by decide, rn_ws 1020 (by decide +kernel) rfl⟩
theorem fl_RX9_132 : rn_FL RX9 132 9 40 := ⟨(RX9, TX9, 93), rfl, by decide, rn_ws 1021 (by decide +kernel) rfl⟩
theorem fl_RX9_135 : rn_FL RX9 135 9 41 := ⟨(RX9, TX9, 93), rfl, by decide, rn_ws 1022 (by decide +kernel) rfl⟩
theorem fl_RX9_138 : rn_FL RX9 138 9 42 := ⟨(RX9, TX9, 93), rfl, by decide, rn_ws 1023 (by decide +kernel) rfl⟩
theorem fl_RX9_141 : rn_FL RX9 141 9 43 := ⟨(RX9, TX9, 93), rfl, by decide, rn_ws 1024 (by decide +kernel) rfl⟩
theorem fl_RX9_144 : rn_FL RX9 144 9 44 := ⟨(RX9, TX9, 93), rfl, by decide, rn_ws 1025 (by decide +kernel) rfl⟩
theorem fl_RX9_147 : rn_FL RX9 147 9 45 := ⟨(RX9, TX9, 93), rfl, by decide, rn_ws 1026 (by decide +kernel) rfl⟩
theorem fl_RX9_150 : rn_FL RX9 150 9 46 := ⟨(RX9, TX9, 93), rfl, by decide, rn_ws 1027 (by decide +kernel) rfl⟩
theorem fl_RX9_153 : rn_FL RX9 153 9 47 := ⟨(RX9, TX9, 93), rfl, by decide, rn_ws 1028 (by decide +kernel) rfl⟩
theorem fl_RX9_156 : rn_FL RX9 156 9 48 := ⟨(RX9, TX9, 93), rfl, by decide, rn_ws 1029 (by decide +kernel) rfl⟩
theorem fl_RX9_159 : rn_FL RX9 159 9 49 := ⟨(RX9, TX9, 93), rfl, by decide, rn_ws 1030 (by decide +kernel) rfl⟩
theorem fl_RX9_162 : rn_FL RX9 162 9 50 := ⟨(RX9, TX9, 93), rfl, by decide, rn_ws 1031 (by decide +kernel) rfl⟩
theorem fl_RX9_165 : rn_FL RX9 165 9 51 := ⟨(RX9, TX9, 93), rfl, by decide, rn_ws 1032 (by decide +kernel) rfl⟩
theorem fl_RX9_168 : rn_FL RX9 168 9 52 := ⟨(RX9, TX9, 93), rfl, by decide, rn_ws 1033 (by decide +kernel) rfl⟩
theorem fl_RX9_171 : rn_FL RX9 171 9 53 := ⟨(RX9, TX9, 93), rfl, by decide, rn_ws 1034 (by decide +kernel) rfl⟩
theorem fl_RX9_174 : rn_FL RX9 174 9 54 := ⟨(RX9, TX9, 93), rfl, by decide, rn_ws 1035 (by decide +kernel) rfl⟩
theorem fl_RX9_177 : rn_FL RX9 177 9 55 := ⟨(RX9, TX9, 93), rfl, by decide, rn_ws 1036 (by decide +kernel) rfl⟩
theorem fl_RX9_180 : rn_FL RX9 180 9 56 := ⟨(RX9, TX9, 93), rfl, by decide, rn_ws 1037 (by decide +kernel) rfl⟩
theorem fl_RX9_183 : rn_FL RX9 183 9 57 := ⟨(RX9, TX9, 93), rfl, by decide, rn_ws 1038 (by decide +kernel) rfl⟩
theorem fl_RX9_186 : rn_FL RX9 186 9 58 := ⟨(RX9, TX9, 93), rfl, by decide, rn_ws 1039 (by decide +kernel) rfl⟩
theorem fl_RX9_189 : rn_FL RX9 189 9 59 := ⟨(RX9, TX9, 93), rfl, by decide, rn_ws 1040 (by decide +kernel) rfl⟩
theorem fl_RX9_193 : rn_FL RX9 193 9 60 := ⟨(RX9, TX9, 93), rfl, by decide, rn_ws 1041 (by decide +kernel) rfl⟩
theorem fl_RX9_196 : rn_FL RX9 196 9 61 := ⟨(RX9, TX9, 93), rfl, by decide, rn_ws 1042 (by decide +kernel) rfl⟩
theorem fl_RX9_199 : rn_FL RX9 199 9 62 := ⟨(RX9, TX9, 93), rfl, by decide, rn_ws 1043 (by decide +kernel) rfl⟩
theorem fl_RX9_202 : rn_FL RX9 202 9 63 := ⟨(RX9, TX9, 93), rfl, by decide, rn_ws 1044 (by decide +kernel) rfl⟩
theorem fl_RX9_205 : rn_FL RX9 205 9 64 := ⟨(RX9, TX9, 93), rfl, by decide, rn_ws 1045 (by decide +kernel) rfl⟩
theorem fl_RX9_208 : rn_FL RX9 208 9 65 := ⟨(RX9, TX9, 93), rfl, by decide, rn_ws 1046 (by decide +kernel) rfl⟩
theorem fl_RX9_211 : rn_FL RX9 211 9 66 := ⟨(RX9, TX9, 93), rfl, by decide, rn_ws 1047 (by decide +kernel) rfl⟩
theorem fl_RX9_214 : rn_FL RX9 214 9 67 := ⟨(RX9, TX9, 93), rfl, by decide, rn_ws 1048 (by decide +kernel) rfl⟩
theorem fl_RX9_217 : rn_FL RX9 217 9 68 := ⟨(RX9, TX9, 93), rfl, by decide, rn_ws 1049 (by decide +kernel) rfl⟩
theorem fl_RX9_220 : rn_FL RX9 220 9 69 := ⟨(RX9, TX9, 93), rfl, by decide, rn_ws 1050 (by decide +kernel) rfl⟩
theorem fl_RX9_223 : rn_FL RX9 223 9 70 := ⟨(RX9, TX9, 93), rfl, by decide, rn_ws 1051 (by decide +kernel) rfl⟩
theorem fl_RX9_226 : rn_FL RX9 226 9 71 := ⟨(RX9, TX9, 93), rfl, by decide, rn_ws 1052 (by decide +kernel) rfl⟩
theorem fl_RX9_229 : rn_FL RX9 229 9 72 := ⟨(RX9, TX9, 93), rfl, by decide, rn_ws 1053 (by decide +kernel) rfl⟩
theorem fl_RX9_232 : rn_FL RX9 232 9 73 := ⟨(RX9, TX9, 93), rfl, by decide, rn_ws 1054 (by decide +kernel) rfl⟩
theorem fl_RX9_235 : rn_FL RX9 235 9 74 := ⟨(RX9, TX9, 93), rfl, by decide, rn_ws 1055 (by decide +kernel) rfl⟩
theorem fl_RX9_238 : rn_FL RX9 238 9 75 := ⟨(RX9, TX9, 93), rfl, by decide, rn_ws 1056 (by decide +kernel) rfl⟩
theorem fl_RX9_241 : rn_FL RX9 241 9 76 := ⟨(RX9, TX9, 93), rfl, by decide, rn_ws 1057 (by decide +kernel) rfl⟩
theorem fl_RX9_244 : rn_FL RX9 244 9 77 := ⟨(RX9, TX9, 93), rfl, by decide, rn_ws 1058 (by decide +kernel) rfl⟩
theorem fl_RX9_247 : rn_FL RX9 247 9 78 := ⟨(RX9, TX9, 93), rfl, by decide, rn_ws 1059 (by decide +kernel) rfl⟩
theorem fl_RX9_250 : rn_FL RX9 250 9 79 := ⟨(RX9, TX9, 93), rfl, by decide, rn_ws 1060 (by decide +kernel) rfl⟩
theorem fl_RX9_253 : rn_FL RX9 253 9 80 := ⟨(RX9, TX9, 93), rfl, by decide, rn_ws 1061 (by decide +kernel) rfl⟩
theorem fl_RX9_256 : rn_FL RX9 256 9 81 := ⟨(RX9, TX9, 93), rfl, by decide, rn_ws 1062 (by decide +kernel) rfl⟩
theorem fl_RX9_259 : rn_FL RX9 259 9 82 := ⟨(RX9, TX9, 93), rfl, by decide, rn_ws 1063 (by decide +kernel) rfl⟩
theorem fl_RX9_262 : rn_FL RX9 262 9 83 := ⟨(RX9, TX9, 93), rfl, by decide, rn_ws 1064 (by decide +kernel) rfl⟩
theorem fl_RX9_265 : rn_FL RX9 265 9 84 := ⟨(RX9, TX9, 93), rfl, by decide, rn_ws 1065 (by decide +kernel) rfl⟩
theorem fl_RX9_268 : rn_FL RX9 268 9 85 := ⟨(RX9, TX9, 93), rfl, by decide, rn_ws 1066 (by decide +kernel) rfl⟩
theorem fl_RX9_271 : rn_FL RX9 271 9 86 := ⟨(RX9, TX9, 93), rfl, by decide, rn_ws 1067 (by decide +kernel) rfl⟩
theorem fl_RX9_274 : rn_FL RX9 274 9 87 := ⟨(RX9, TX9, 93), rfl, by decide, rn_ws 1068 (by decide +kernel) rfl⟩
theorem fl_RX9_277 : rn_FL RX9 277 9 88 := ⟨(RX9, TX9, 93), rfl, by decide, rn_ws 1069 (by decide +kernel) rfl⟩
theorem fl_RX9_280 : rn_FL RX9 280 9 89 := ⟨(RX9, TX9, 93), rfl, by decide, rn_ws 1070 (by decide +kernel) rfl⟩
theorem fl_RX9_283 : rn_FL RX9 283 9 90 := ⟨(RX9, TX9, 93), rfl, by decide, rn_ws 1071 (by decide +kernel) rfl⟩
theorem fl_RX9_286 : rn_FL RX9 286 9 91 := ⟨(RX9, TX9, 93), rfl, by decide, rn_ws 1072 (by decide +kernel) rfl⟩
theorem fl_RX9_290 : rn_FL RX9 290 9 92 := ⟨(RX9, TX9, 93), rfl, by decide, rn_ws 1073 (by decide +kernel) rfl⟩
theorem mn_X9_in : Cond.instanceMethod yX9_in ∈ rn_WS := rn_ws 1272 (by decide +kernel) rfl
theorem mx_X9_in : Cond.selects RX9 yX9_in yX9_in ∈ rn_WS := rn_ws 21 (by decide +kernel) rfl
theorem mz_RX9 : Cond.initialized RX9 ∈ rn_WS := rn_ws 93 (by decide +kernel) rfl
theorem mm_RX9_293 : rn_MV RX9 293 M_X9_in 3 := ⟨rn_gi (pre := [.methodLink RX9 293 yX9_in, .instanceMethod yX9_in, .selects RX9 yX9_in yX9_in, .initialized RX9]) mc_X9_in (List.forall_mem_cons.mpr ⟨rn_ws 1270 (by decide +kernel) rfl, List.forall_mem_cons.mpr ⟨mn_X9_in, List.forall_mem_cons.mpr ⟨mx_X9_in, List.forall_mem_cons.mpr ⟨mz_RX9, (fun _ h => absurd h List.not_mem_nil)⟩⟩⟩⟩), mo_X9_in⟩
theorem mn_X9_isPlace : Cond.instanceMethod yX9_isPlace ∈ rn_WS := rn_ws 1268 (by decide +kernel) rfl
theorem mx_X9_isPlace : Cond.selects RX9 yX9_isPlace yX9_isPlace ∈ rn_WS := rn_ws 20 (by decide +kernel) rfl
theorem mm_RX9_297 : rn_MV RX9 297 M_X9_isPlace 1 := ⟨rn_gi (pre := [.methodLink RX9 297 yX9_isPlace, .instanceMethod yX9_isPlace, .selects RX9 yX9_isPlace yX9_isPlace, .initialized RX9]) mc_X9_isPlace (List.forall_mem_cons.mpr ⟨rn_ws 1266 (by decide +kernel) rfl, List.forall_mem_cons.mpr ⟨mn_X9_isPlace, List.forall_mem_cons.mpr ⟨mx_X9_isPlace, List.forall_mem_cons.mpr ⟨mz_RX9, (fun _ h => absurd h List.not_mem_nil)⟩⟩⟩⟩), mo_X9_isPlace⟩
theorem mn_X9_with0 : Cond.instanceMethod yX9_with0 ∈ rn_WS := rn_ws 1276 (by decide +kernel) rfl
theorem mx_X9_with0 : Cond.selects RX9 yX9_with0 yX9_with0 ∈ rn_WS := rn_ws 22 (by decide +kernel) rfl
theorem mm_RX9_301 : rn_MV RX9 301 M_X9_with0 3 := ⟨rn_gi (pre := [.methodLink RX9 301 yX9_with0, .instanceMethod yX9_with0, .selects RX9 yX9_with0 yX9_with0, .initialized RX9]) mc_X9_with0 (List.forall_mem_cons.mpr ⟨rn_ws 1274 (by decide +kernel) rfl, List.forall_mem_cons.mpr ⟨mn_X9_with0, List.forall_mem_cons.mpr ⟨mx_X9_with0, List.forall_mem_cons.mpr ⟨mz_RX9, (fun _ h => absurd h List.not_mem_nil)⟩⟩⟩⟩), mo_X9_with0⟩
theorem mn_X9_isPerson : Cond.instanceMethod yX9_isPerson ∈ rn_WS := rn_ws 1288 (by decide +kernel) rfl
theorem mx_X9_isPerson : Cond.selects RX9 yX9_isPerson yX9_isPerson ∈ rn_WS := rn_ws 23 (by decide +kernel) rfl
theorem mm_RX9_305 : rn_MV RX9 305 M_X9_isPerson 1 := ⟨rn_gi (pre := [.methodLink RX9 305 yX9_isPerson, .instanceMethod yX9_isPerson, .selects RX9 yX9_isPerson yX9_isPerson, .initialized RX9]) mc_X9_isPerson (List.forall_mem_cons.mpr ⟨rn_ws 1286 (by decide +kernel) rfl, List.forall_mem_cons.mpr ⟨mn_X9_isPerson, List.forall_mem_cons.mpr ⟨mx_X9_isPerson, List.forall_mem_cons.mpr ⟨mz_RX9, (fun _ h => absurd h List.not_mem_nil)⟩⟩⟩⟩), mo_X9_isPerson⟩
theorem mn_X9_puts : Cond.instanceMethod yX9_puts ∈ rn_WS := rn_ws 1292 (by decide +kernel) rfl
theorem mx_X9_puts : Cond.selects RX9 yX9_puts yX9_puts ∈ rn_WS := rn_ws 24 (by decide +kernel) rfl
theorem mm_RX9_308 : rn_MV RX9 308 M_X9_puts 2 := ⟨rn_gi (pre := [.methodLink RX9 308 yX9_puts, .instanceMethod yX9_puts, .selects RX9 yX9_puts yX9_puts, .initialized RX9]) mc_X9_puts (List.forall_mem_cons.mpr ⟨rn_ws 1290 (by decide +kernel) rfl, List.forall_mem_cons.mpr ⟨mn_X9_puts, List.forall_mem_cons.mpr ⟨mx_X9_puts, List.forall_mem_cons.mpr ⟨mz_RX9, (fun _ h => absurd h List.not_mem_nil)⟩⟩⟩⟩), mo_X9_puts⟩
theorem mn_X9_has : Cond.instanceMethod yX9_has ∈ rn_WS := rn_ws 1300 (by decide +kernel) rfl
theorem mx_X9_has : Cond.selects RX9 yX9_has yX9_has ∈ rn_WS := rn_ws 25 (by decide +kernel) rfl
theorem mm_RX9_312 : rn_MV RX9 312 M_X9_has 2 := ⟨rn_gi (pre := [.methodLink RX9 312 yX9_has, .instanceMethod yX9_has, .selects RX9 yX9_has yX9_has, .initialized RX9]) mc_X9_has (List.forall_mem_cons.mpr ⟨rn_ws 1298 (by decide +kernel) rfl, List.forall_mem_cons.mpr ⟨mn_X9_has, List.forall_mem_cons.mpr ⟨mx_X9_has, List.forall_mem_cons.mpr ⟨mz_RX9, (fun _ h => absurd h List.not_mem_nil)⟩⟩⟩⟩), mo_X9_has⟩
theorem mn_X9_isGate : Cond.instanceMethod yX9_isGate ∈ rn_WS := rn_ws 1308 (by decide +kernel) rfl
theorem mx_X9_isGate : Cond.selects RX9 yX9_isGate yX9_isGate ∈ rn_WS := rn_ws 26 (by decide +kernel) rfl
theorem mm_RX9_316 : rn_MV RX9 316 M_X9_isGate 1 := ⟨rn_gi (pre := [.methodLink RX9 316 yX9_isGate, .instanceMethod yX9_isGate, .selects RX9 yX9_isGate yX9_isGate, .initialized RX9]) mc_X9_isGate (List.forall_mem_cons.mpr ⟨rn_ws 1306 (by decide +kernel) rfl, List.forall_mem_cons.mpr ⟨mn_X9_isGate, List.forall_mem_cons.mpr ⟨mx_X9_isGate, List.forall_mem_cons.mpr ⟨mz_RX9, (fun _ h => absurd h List.not_mem_nil)⟩⟩⟩⟩), mo_X9_isGate⟩
theorem mn_X9_next : Cond.instanceMethod yX9_next ∈ rn_WS := rn_ws 1340 (by decide +kernel) rfl
theorem mx_X9_next : Cond.selects RX9 yX9_next yX9_next ∈ rn_WS := rn_ws 30 (by decide +kernel) rfl
theorem mm_RX9_319 : rn_MV RX9 319 M_X9_next 0 := ⟨rn_gi (pre := [.methodLink RX9 319 yX9_next, .instanceMethod yX9_next, .selects RX9 yX9_next yX9_next, .initialized RX9]) mc_X9_next (List.forall_mem_cons.mpr ⟨rn_ws 1338 (by decide +kernel) rfl, List.forall_mem_cons.mpr ⟨mn_X9_next, List.forall_mem_cons.mpr ⟨mx_X9_next, List.forall_mem_cons.mpr ⟨mz_RX9, (fun _ h => absurd h List.not_mem_nil)⟩⟩⟩⟩), mo_X9_next⟩
theorem mn_X9_takes : Cond.instanceMethod yX9_takes ∈ rn_WS := rn_ws 1348 (by decide +kernel) rfl
theorem mx_X9_takes : Cond.selects RX9 yX9_takes yX9_takes ∈ rn_WS := rn_ws 32 (by decide +kernel) rfl
theorem mm_RX9_323 : rn_MV RX9 323 M_X9_takes 1 := ⟨rn_gi (pre := [.methodLink RX9 323 yX9_takes, .instanceMethod yX9_takes, .selects RX9 yX9_takes yX9_takes, .initialized RX9]) mc_X9_takes (List.forall_mem_cons.mpr ⟨rn_ws 1346 (by decide +kernel) rfl, List.forall_mem_cons.mpr ⟨mn_X9_takes, List.forall_mem_cons.mpr ⟨mx_X9_takes, List.forall_mem_cons.mpr ⟨mz_RX9, (fun _ h => absurd h List.not_mem_nil)⟩⟩⟩⟩), mo_X9_takes⟩
theorem mn_X9_isDigit : Cond.instanceMethod yX9_isDigit ∈ rn_WS := rn_ws 1356 (by decide +kernel) rfl
theorem mx_X9_isDigit : Cond.selects RX9 yX9_isDigit yX9_isDigit ∈ rn_WS := rn_ws 34 (by decide +kernel) rfl
theorem mm_RX9_326 : rn_MV RX9 326 M_X9_isDigit 0 := ⟨rn_gi (pre := [.methodLink RX9 326 yX9_isDigit, .instanceMethod yX9_isDigit, .selects RX9 yX9_isDigit yX9_isDigit, .initialized RX9]) mc_X9_isDigit (List.forall_mem_cons.mpr ⟨rn_ws 1354 (by decide +kernel) rfl, List.forall_mem_cons.mpr ⟨mn_X9_isDigit, List.forall_mem_cons.mpr ⟨mx_X9_isDigit, List.forall_mem_cons.mpr ⟨mz_RX9, (fun _ h => absurd h List.not_mem_nil)⟩⟩⟩⟩), mo_X9_isDigit⟩
theorem mn_X9_emits : Cond.instanceMethod yX9_emits ∈ rn_WS := rn_ws 1372 (by decide +kernel) rfl
theorem mx_X9_emits : Cond.selects RX9 yX9_emits yX9_emits ∈ rn_WS := rn_ws 38 (by decide +kernel) rfl
theorem mm_RX9_330 : rn_MV RX9 330 M_X9_emits 1 := ⟨rn_gi (pre := [.methodLink RX9 330 yX9_emits, .instanceMethod yX9_emits, .selects RX9 yX9_emits yX9_emits, .initialized RX9]) mc_X9_emits (List.forall_mem_cons.mpr ⟨rn_ws 1370 (by decide +kernel) rfl, List.forall_mem_cons.mpr ⟨mn_X9_emits, List.forall_mem_cons.mpr ⟨mx_X9_emits, List.forall_mem_cons.mpr ⟨mz_RX9, (fun _ h => absurd h List.not_mem_nil)⟩⟩⟩⟩), mo_X9_emits⟩
theorem mn_X9_place : Cond.instanceMethod yX9_place ∈ rn_WS := rn_ws 1368 (by decide +kernel) rfl
theorem mx_X9_place : Cond.selects RX9 yX9_place yX9_place ∈ rn_WS := rn_ws 37 (by decide +kernel) rfl
theorem mm_RX9_334 : rn_MV RX9 334 M_X9_place 1 := ⟨rn_gi (pre := [.methodLink RX9 334 yX9_place, .instanceMethod yX9_place, .selects RX9 yX9_place yX9_place, .initialized RX9]) mc_X9_place (List.forall_mem_cons.mpr ⟨rn_ws 1366 (by decide +kernel) rfl, List.forall_mem_cons.mpr ⟨mn_X9_place, List.forall_mem_cons.mpr ⟨mx_X9_place, List.forall_mem_cons.mpr ⟨mz_RX9, (fun _ h => absurd h List.not_mem_nil)⟩⟩⟩⟩), mo_X9_place⟩
theorem mn_X9_takesNumber : Cond.instanceMethod yX9_takesNumber ∈ rn_WS := rn_ws 1352 (by decide +kernel) rfl
theorem mx_X9_takesNumber : Cond.selects RX9 yX9_takesNumber yX9_takesNumber ∈ rn_WS := rn_ws 33 (by decide +kernel) rfl
theorem mm_RX9_338 : rn_MV RX9 338 M_X9_takesNumber 0 := ⟨rn_gi (pre := [.methodLink RX9 338 yX9_takesNumber, .instanceMethod yX9_takesNumber, .selects RX9 yX9_takesNumber yX9_takesNumber, .initialized RX9]) mc_X9_takesNumber (List.forall_mem_cons.mpr ⟨rn_ws 1350 (by decide +kernel) rfl, List.forall_mem_cons.mpr ⟨mn_X9_takesNumber, List.forall_mem_cons.mpr ⟨mx_X9_takesNumber, List.forall_mem_cons.mpr ⟨mz_RX9, (fun _ h => absurd h List.not_mem_nil)⟩⟩⟩⟩), mo_X9_takesNumber⟩
theorem mn_X9_whole : Cond.instanceMethod yX9_whole ∈ rn_WS := rn_ws 1376 (by decide +kernel) rfl
theorem mx_X9_whole : Cond.selects RX9 yX9_whole yX9_whole ∈ rn_WS := rn_ws 39 (by decide +kernel) rfl
theorem mm_RX9_341 : rn_MV RX9 341 M_X9_whole 0 := ⟨rn_gi (pre := [.methodLink RX9 341 yX9_whole, .instanceMethod yX9_whole, .selects RX9 yX9_whole yX9_whole, .initialized RX9]) mc_X9_whole (List.forall_mem_cons.mpr ⟨rn_ws 1374 (by decide +kernel) rfl, List.forall_mem_cons.mpr ⟨mn_X9_whole, List.forall_mem_cons.mpr ⟨mx_X9_whole, List.forall_mem_cons.mpr ⟨mz_RX9, (fun _ h => absurd h List.not_mem_nil)⟩⟩⟩⟩), mo_X9_whole⟩
theorem mn_X9_takesTest : Cond.instanceMethod yX9_takesTest ∈ rn_WS := rn_ws 1364 (by decide +kernel) rfl
theorem mx_X9_takesTest : Cond.selects RX9 yX9_takesTest yX9_takesTest ∈ rn_WS := rn_ws 36 (by decide +kernel) rfl
theorem mm_RX9_344 : rn_MV RX9 344 M_X9_takesTest 0 := ⟨rn_gi (pre := [.methodLink RX9 344 yX9_takesTest, .instanceMethod yX9_takesTest, .selects RX9 yX9_takesTest yX9_takesTest, .initialized RX9]) mc_X9_takesTest (List.forall_mem_cons.mpr ⟨rn_ws 1362 (by decide +kernel) rfl, List.forall_mem_cons.mpr ⟨mn_X9_takesTest, List.forall_mem_cons.mpr ⟨mx_X9_takesTest, List.forall_mem_cons.mpr ⟨mz_RX9, (fun _ h => absurd h List.not_mem_nil)⟩⟩⟩⟩), mo_X9_takesTest⟩
theorem mn_X9_settle : Cond.instanceMethod yX9_settle ∈ rn_WS := rn_ws 1380 (by decide +kernel) rfl
theorem mx_X9_settle : Cond.selects RX9 yX9_settle yX9_settle ∈ rn_WS := rn_ws 40 (by decide +kernel) rfl
theorem mm_RX9_347 : rn_MV RX9 347 M_X9_settle 1 := ⟨rn_gi (pre := [.methodLink RX9 347 yX9_settle, .instanceMethod yX9_settle, .selects RX9 yX9_settle yX9_settle, .initialized RX9]) mc_X9_settle (List.forall_mem_cons.mpr ⟨rn_ws 1378 (by decide +kernel) rfl, List.forall_mem_cons.mpr ⟨mn_X9_settle, List.forall_mem_cons.mpr ⟨mx_X9_settle, List.forall_mem_cons.mpr ⟨mz_RX9, (fun _ h => absurd h List.not_mem_nil)⟩⟩⟩⟩), mo_X9_settle⟩
theorem mn_X9_takesWord : Cond.instanceMethod yX9_takesWord ∈ rn_WS := rn_ws 1344 (by decide +kernel) rfl
theorem mx_X9_takesWord : Cond.selects RX9 yX9_takesWord yX9_takesWord ∈ rn_WS := rn_ws 31 (by decide +kernel) rfl
theorem mm_RX9_350 : rn_MV RX9 350 M_X9_takesWord 2 := ⟨rn_gi (pre := [.methodLink RX9 350 yX9_takesWord, .instanceMethod yX9_takesWord, .selects RX9 yX9_takesWord yX9_takesWord, .initialized RX9]) mc_X9_takesWord (List.forall_mem_cons.mpr ⟨rn_ws 1342 (by decide +kernel) rfl, List.forall_mem_cons.mpr ⟨mn_X9_takesWord, List.forall_mem_cons.mpr ⟨mx_X9_takesWord, List.forall_mem_cons.mpr ⟨mz_RX9, (fun _ h => absurd h List.not_mem_nil)⟩⟩⟩⟩), mo_X9_takesWord⟩
theorem mn_X9_takesHead : Cond.instanceMethod yX9_takesHead ∈ rn_WS := rn_ws 1336 (by decide +kernel) rfl
theorem mx_X9_takesHead : Cond.selects RX9 yX9_takesHead yX9_takesHead ∈ rn_WS := rn_ws 29 (by decide +kernel) rfl
theorem mm_RX9_353 : rn_MV RX9 353 M_X9_takesHead 1 := ⟨rn_gi (pre := [.methodLink RX9 353 yX9_takesHead, .instanceMethod yX9_takesHead, .selects RX9 yX9_takesHead yX9_takesHead, .initialized RX9]) mc_X9_takesHead (List.forall_mem_cons.mpr ⟨rn_ws 1334 (by decide +kernel) rfl, List.forall_mem_cons.mpr ⟨mn_X9_takesHead, List.forall_mem_cons.mpr ⟨mx_X9_takesHead, List.forall_mem_cons.mpr ⟨mz_RX9, (fun _ h => absurd h List.not_mem_nil)⟩⟩⟩⟩), mo_X9_takesHead⟩
theorem mn_X9_takesE : Cond.instanceMethod yX9_takesE ∈ rn_WS := rn_ws 1360 (by decide +kernel) rfl
theorem mx_X9_takesE : Cond.selects RX9 yX9_takesE yX9_takesE ∈ rn_WS := rn_ws 35 (by decide +kernel) rfl
theorem mm_RX9_356 : rn_MV RX9 356 M_X9_takesE 1 := ⟨rn_gi (pre := [.methodLink RX9 356 yX9_takesE, .instanceMethod yX9_takesE, .selects RX9 yX9_takesE yX9_takesE, .initialized RX9]) mc_X9_takesE (List.forall_mem_cons.mpr ⟨rn_ws 1358 (by decide +kernel) rfl, List.forall_mem_cons.mpr ⟨mn_X9_takesE, List.forall_mem_cons.mpr ⟨mx_X9_takesE, List.forall_mem_cons.mpr ⟨mz_RX9, (fun _ h => absurd h List.not_mem_nil)⟩⟩⟩⟩), mo_X9_takesE⟩
theorem mn_X9_takesClause : Cond.instanceMethod yX9_takesClause ∈ rn_WS := rn_ws 1332 (by decide +kernel) rfl
theorem mx_X9_takesClause : Cond.selects RX9 yX9_takesClause yX9_takesClause ∈ rn_WS := rn_ws 28 (by decide +kernel) rfl
theorem mm_RX9_359 : rn_MV RX9 359 M_X9_takesClause 1 := ⟨rn_gi (pre := [.methodLink RX9 359 yX9_takesClause, .instanceMethod yX9_takesClause, .selects RX9 yX9_takesClause yX9_takesClause, .initialized RX9]) mc_X9_takesClause (List.forall_mem_cons.mpr ⟨rn_ws 1330 (by decide +kernel) rfl, List.forall_mem_cons.mpr ⟨mn_X9_takesClause, List.forall_mem_cons.mpr ⟨mx_X9_takesClause, List.forall_mem_cons.mpr ⟨mz_RX9, (fun _ h => absurd h List.not_mem_nil)⟩⟩⟩⟩), mo_X9_takesClause⟩
theorem mn_X9_goesText : Cond.instanceMethod yX9_goesText ∈ rn_WS := rn_ws 1328 (by decide +kernel) rfl
theorem mx_X9_goesText : Cond.selects RX9 yX9_goesText yX9_goesText ∈ rn_WS := rn_ws 27 (by decide +kernel) rfl
theorem mm_RX9_362 : rn_MV RX9 362 M_X9_goesText 1 := ⟨rn_gi (pre := [.methodLink RX9 362 yX9_goesText, .instanceMethod yX9_goesText, .selects RX9 yX9_goesText yX9_goesText, .initialized RX9]) mc_X9_goesText (List.forall_mem_cons.mpr ⟨rn_ws 1326 (by decide +kernel) rfl, List.forall_mem_cons.mpr ⟨mn_X9_goesText, List.forall_mem_cons.mpr ⟨mx_X9_goesText, List.forall_mem_cons.mpr ⟨mz_RX9, (fun _ h => absurd h List.not_mem_nil)⟩⟩⟩⟩), mo_X9_goesText⟩
theorem mn_X9_begin : Cond.instanceMethod yX9_begin ∈ rn_WS := rn_ws 1392 (by decide +kernel) rfl
theorem mx_X9_begin : Cond.selects RX9 yX9_begin yX9_begin ∈ rn_WS := rn_ws 42 (by decide +kernel) rfl
theorem mm_RX9_365 : rn_MV RX9 365 M_X9_begin 0 := ⟨rn_gi (pre := [.methodLink RX9 365 yX9_begin, .instanceMethod yX9_begin, .selects RX9 yX9_begin yX9_begin, .initialized RX9]) mc_X9_begin (List.forall_mem_cons.mpr ⟨rn_ws 1390 (by decide +kernel) rfl, List.forall_mem_cons.mpr ⟨mn_X9_begin, List.forall_mem_cons.mpr ⟨mx_X9_begin, List.forall_mem_cons.mpr ⟨mz_RX9, (fun _ h => absurd h List.not_mem_nil)⟩⟩⟩⟩), mo_X9_begin⟩
theorem mn_X9_behind : Cond.instanceMethod yX9_behind ∈ rn_WS := rn_ws 1396 (by decide +kernel) rfl
theorem mx_X9_behind : Cond.selects RX9 yX9_behind yX9_behind ∈ rn_WS := rn_ws 43 (by decide +kernel) rfl
theorem mm_RX9_368 : rn_MV RX9 368 M_X9_behind 0 := ⟨rn_gi (pre := [.methodLink RX9 368 yX9_behind, .instanceMethod yX9_behind, .selects RX9 yX9_behind yX9_behind, .initialized RX9]) mc_X9_behind (List.forall_mem_cons.mpr ⟨rn_ws 1394 (by decide +kernel) rfl, List.forall_mem_cons.mpr ⟨mn_X9_behind, List.forall_mem_cons.mpr ⟨mx_X9_behind, List.forall_mem_cons.mpr ⟨mz_RX9, (fun _ h => absurd h List.not_mem_nil)⟩⟩⟩⟩), mo_X9_behind⟩
theorem mn_X9_lastOf : Cond.instanceMethod yX9_lastOf ∈ rn_WS := rn_ws 1424 (by decide +kernel) rfl
theorem mx_X9_lastOf : Cond.selects RX9 yX9_lastOf yX9_lastOf ∈ rn_WS := rn_ws 50 (by decide +kernel) rfl
theorem mm_RX9_371 : rn_MV RX9 371 M_X9_lastOf 2 := ⟨rn_gi (pre := [.methodLink RX9 371 yX9_lastOf, .instanceMethod yX9_lastOf, .selects RX9 yX9_lastOf yX9_lastOf, .initialized RX9]) mc_X9_lastOf (List.forall_mem_cons.mpr ⟨rn_ws 1422 (by decide +kernel) rfl, List.forall_mem_cons.mpr ⟨mn_X9_lastOf, List.forall_mem_cons.mpr ⟨mx_X9_lastOf, List.forall_mem_cons.mpr ⟨mz_RX9, (fun _ h => absurd h List.not_mem_nil)⟩⟩⟩⟩), mo_X9_lastOf⟩
theorem mn_X9_ones : Cond.instanceMethod yX9_ones ∈ rn_WS := rn_ws 1408 (by decide +kernel) rfl
theorem mx_X9_ones : Cond.selects RX9 yX9_ones yX9_ones ∈ rn_WS := rn_ws 46 (by decide +kernel) rfl
theorem mm_RX9_375 : rn_MV RX9 375 M_X9_ones 1 := ⟨rn_gi (pre := [.methodLink RX9 375 yX9_ones, .instanceMethod yX9_ones, .selects RX9 yX9_ones yX9_ones, .initialized RX9]) mc_X9_ones (List.forall_mem_cons.mpr ⟨rn_ws 1406 (by decide +kernel) rfl, List.forall_mem_cons.mpr ⟨mn_X9_ones, List.forall_mem_cons.mpr ⟨mx_X9_ones, List.forall_mem_cons.mpr ⟨mz_RX9, (fun _ h => absurd h List.not_mem_nil)⟩⟩⟩⟩), mo_X9_ones⟩
theorem mn_X9_factOf : Cond.instanceMethod yX9_factOf ∈ rn_WS := rn_ws 1404 (by decide +kernel) rfl
theorem mx_X9_factOf : Cond.selects RX9 yX9_factOf yX9_factOf ∈ rn_WS := rn_ws 45 (by decide +kernel) rfl
theorem mm_RX9_378 : rn_MV RX9 378 M_X9_factOf 2 := ⟨rn_gi (pre := [.methodLink RX9 378 yX9_factOf, .instanceMethod yX9_factOf, .selects RX9 yX9_factOf yX9_factOf, .initialized RX9]) mc_X9_factOf (List.forall_mem_cons.mpr ⟨rn_ws 1402 (by decide +kernel) rfl, List.forall_mem_cons.mpr ⟨mn_X9_factOf, List.forall_mem_cons.mpr ⟨mx_X9_factOf, List.forall_mem_cons.mpr ⟨mz_RX9, (fun _ h => absurd h List.not_mem_nil)⟩⟩⟩⟩), mo_X9_factOf⟩
theorem mn_X9_holds : Cond.instanceMethod yX9_holds ∈ rn_WS := rn_ws 1400 (by decide +kernel) rfl
theorem mx_X9_holds : Cond.selects RX9 yX9_holds yX9_holds ∈ rn_WS := rn_ws 44 (by decide +kernel) rfl
theorem mm_RX9_381 : rn_MV RX9 381 M_X9_holds 2 := ⟨rn_gi (pre := [.methodLink RX9 381 yX9_holds, .instanceMethod yX9_holds, .selects RX9 yX9_holds yX9_holds, .initialized RX9]) mc_X9_holds (List.forall_mem_cons.mpr ⟨rn_ws 1398 (by decide +kernel) rfl, List.forall_mem_cons.mpr ⟨mn_X9_holds, List.forall_mem_cons.mpr ⟨mx_X9_holds, List.forall_mem_cons.mpr ⟨mz_RX9, (fun _ h => absurd h List.not_mem_nil)⟩⟩⟩⟩), mo_X9_holds⟩
theorem mn_X9_up : Cond.instanceMethod yX9_up ∈ rn_WS := rn_ws 1420 (by decide +kernel) rfl
theorem mx_X9_up : Cond.selects RX9 yX9_up yX9_up ∈ rn_WS := rn_ws 49 (by decide +kernel) rfl
theorem mm_RX9_384 : rn_MV RX9 384 M_X9_up 2 := ⟨rn_gi (pre := [.methodLink RX9 384 yX9_up, .instanceMethod yX9_up, .selects RX9 yX9_up yX9_up, .initialized RX9]) mc_X9_up (List.forall_mem_cons.mpr ⟨rn_ws 1418 (by decide +kernel) rfl, List.forall_mem_cons.mpr ⟨mn_X9_up, List.forall_mem_cons.mpr ⟨mx_X9_up, List.forall_mem_cons.mpr ⟨mz_RX9, (fun _ h => absurd h List.not_mem_nil)⟩⟩⟩⟩), mo_X9_up⟩
theorem mn_X9_way : Cond.instanceMethod yX9_way ∈ rn_WS := rn_ws 1416 (by decide +kernel) rfl
theorem mx_X9_way : Cond.selects RX9 yX9_way yX9_way ∈ rn_WS := rn_ws 48 (by decide +kernel) rfl
theorem mm_RX9_387 : rn_MV RX9 387 M_X9_way 2 := ⟨rn_gi (pre := [.methodLink RX9 387 yX9_way, .instanceMethod yX9_way, .selects RX9 yX9_way yX9_way, .initialized RX9]) mc_X9_way (List.forall_mem_cons.mpr ⟨rn_ws 1414 (by decide +kernel) rfl, List.forall_mem_cons.mpr ⟨mn_X9_way, List.forall_mem_cons.mpr ⟨mx_X9_way, List.forall_mem_cons.mpr ⟨mz_RX9, (fun _ h => absurd h List.not_mem_nil)⟩⟩⟩⟩), mo_X9_way⟩
theorem mn_X9_ears : Cond.instanceMethod yX9_ears ∈ rn_WS := rn_ws 1388 (by decide +kernel) rfl
theorem mx_X9_ears : Cond.selects RX9 yX9_ears yX9_ears ∈ rn_WS := rn_ws 41 (by decide +kernel) rfl
theorem mm_RX9_390 : rn_MV RX9 390 M_X9_ears 1 := ⟨rn_gi (pre := [.methodLink RX9 390 yX9_ears, .instanceMethod yX9_ears, .selects RX9 yX9_ears yX9_ears, .initialized RX9]) mc_X9_ears (List.forall_mem_cons.mpr ⟨rn_ws 1386 (by decide +kernel) rfl, List.forall_mem_cons.mpr ⟨mn_X9_ears, List.forall_mem_cons.mpr ⟨mx_X9_ears, List.forall_mem_cons.mpr ⟨mz_RX9, (fun _ h => absurd h List.not_mem_nil)⟩⟩⟩⟩), mo_X9_ears⟩
theorem mn_X9_hears : Cond.instanceMethod yX9_hears ∈ rn_WS := rn_ws 1412 (by decide +kernel) rfl
theorem mx_X9_hears : Cond.selects RX9 yX9_hears yX9_hears ∈ rn_WS := rn_ws 47 (by decide +kernel) rfl
theorem mm_RX9_393 : rn_MV RX9 393 M_X9_hears 1 := ⟨rn_gi (pre := [.methodLink RX9 393 yX9_hears, .instanceMethod yX9_hears, .selects RX9 yX9_hears yX9_hears, .initialized RX9]) mc_X9_hears (List.forall_mem_cons.mpr ⟨rn_ws 1410 (by decide +kernel) rfl, List.forall_mem_cons.mpr ⟨mn_X9_hears, List.forall_mem_cons.mpr ⟨mx_X9_hears, List.forall_mem_cons.mpr ⟨mz_RX9, (fun _ h => absurd h List.not_mem_nil)⟩⟩⟩⟩), mo_X9_hears⟩
theorem mn_X9_steps : Cond.instanceMethod yX9_steps ∈ rn_WS := rn_ws 1428 (by decide +kernel) rfl
theorem mx_X9_steps : Cond.selects RX9 yX9_steps yX9_steps ∈ rn_WS := rn_ws 51 (by decide +kernel) rfl
theorem mm_RX9_396 : rn_MV RX9 396 M_X9_steps 1 := ⟨rn_gi (pre := [.methodLink RX9 396 yX9_steps, .instanceMethod yX9_steps, .selects RX9 yX9_steps yX9_steps, .initialized RX9]) mc_X9_steps (List.forall_mem_cons.mpr ⟨rn_ws 1426 (by decide +kernel) rfl, List.forall_mem_cons.mpr ⟨mn_X9_steps, List.forall_mem_cons.mpr ⟨mx_X9_steps, List.forall_mem_cons.mpr ⟨mz_RX9, (fun _ h => absurd h List.not_mem_nil)⟩⟩⟩⟩), mo_X9_steps⟩
theorem mn_X9_goal : Cond.instanceMethod yX9_goal ∈ rn_WS := rn_ws 1432 (by decide +kernel) rfl
theorem mx_X9_goal : Cond.selects RX9 yX9_goal yX9_goal ∈ rn_WS := rn_ws 52 (by decide +kernel) rfl
theorem mm_RX9_399 : rn_MV RX9 399 M_X9_goal 1 := ⟨rn_gi (pre := [.methodLink RX9 399 yX9_goal, .instanceMethod yX9_goal, .selects RX9 yX9_goal yX9_goal, .initialized RX9]) mc_X9_goal (List.forall_mem_cons.mpr ⟨rn_ws 1430 (by decide +kernel) rfl, List.forall_mem_cons.mpr ⟨mn_X9_goal, List.forall_mem_cons.mpr ⟨mx_X9_goal, List.forall_mem_cons.mpr ⟨mz_RX9, (fun _ h => absurd h List.not_mem_nil)⟩⟩⟩⟩), mo_X9_goal⟩
theorem mn_X9_pace : Cond.instanceMethod yX9_pace ∈ rn_WS := rn_ws 1440 (by decide +kernel) rfl
theorem mx_X9_pace : Cond.selects RX9 yX9_pace yX9_pace ∈ rn_WS := rn_ws 53 (by decide +kernel) rfl
theorem mm_RX9_402 : rn_MV RX9 402 M_X9_pace 0 := ⟨rn_gi (pre := [.methodLink RX9 402 yX9_pace, .instanceMethod yX9_pace, .selects RX9 yX9_pace yX9_pace, .initialized RX9]) mc_X9_pace (List.forall_mem_cons.mpr ⟨rn_ws 1438 (by decide +kernel) rfl, List.forall_mem_cons.mpr ⟨mn_X9_pace, List.forall_mem_cons.mpr ⟨mx_X9_pace, List.forall_mem_cons.mpr ⟨mz_RX9, (fun _ h => absurd h List.not_mem_nil)⟩⟩⟩⟩), mo_X9_pace⟩
theorem mn_X9_toward : Cond.instanceMethod yX9_toward ∈ rn_WS := rn_ws 1460 (by decide +kernel) rfl
theorem mx_X9_toward : Cond.selects RX9 yX9_toward yX9_toward ∈ rn_WS := rn_ws 57 (by decide +kernel) rfl
theorem mm_RX9_405 : rn_MV RX9 405 M_X9_toward 3 := ⟨rn_gi (pre := [.methodLink RX9 405 yX9_toward, .instanceMethod yX9_toward, .selects RX9 yX9_toward yX9_toward, .initialized RX9]) mc_X9_toward (List.forall_mem_cons.mpr ⟨rn_ws 1458 (by decide +kernel) rfl, List.forall_mem_cons.mpr ⟨mn_X9_toward, List.forall_mem_cons.mpr ⟨mx_X9_toward, List.forall_mem_cons.mpr ⟨mz_RX9, (fun _ h => absurd h List.not_mem_nil)⟩⟩⟩⟩), mo_X9_toward⟩
theorem mn_X9_goPerson : Cond.instanceMethod yX9_goPerson ∈ rn_WS := rn_ws 1456 (by decide +kernel) rfl
theorem mx_X9_goPerson : Cond.selects RX9 yX9_goPerson yX9_goPerson ∈ rn_WS := rn_ws 56 (by decide +kernel) rfl
theorem mm_RX9_409 : rn_MV RX9 409 M_X9_goPerson 1 := ⟨rn_gi (pre := [.methodLink RX9 409 yX9_goPerson, .instanceMethod yX9_goPerson, .selects RX9 yX9_goPerson yX9_goPerson, .initialized RX9]) mc_X9_goPerson (List.forall_mem_cons.mpr ⟨rn_ws 1454 (by decide +kernel) rfl, List.forall_mem_cons.mpr ⟨mn_X9_goPerson, List.forall_mem_cons.mpr ⟨mx_X9_goPerson, List.forall_mem_cons.mpr ⟨mz_RX9, (fun _ h => absurd h List.not_mem_nil)⟩⟩⟩⟩), mo_X9_goPerson⟩
theorem mn_X9_goKeeper : Cond.instanceMethod yX9_goKeeper ∈ rn_WS := rn_ws 1464 (by decide +kernel) rfl
theorem mx_X9_goKeeper : Cond.selects RX9 yX9_goKeeper yX9_goKeeper ∈ rn_WS := rn_ws 58 (by decide +kernel) rfl
theorem mm_RX9_412 : rn_MV RX9 412 M_X9_goKeeper 0 := ⟨rn_gi (pre := [.methodLink RX9 412 yX9_goKeeper, .instanceMethod yX9_goKeeper, .selects RX9 yX9_goKeeper yX9_goKeeper, .initialized RX9]) mc_X9_goKeeper (List.forall_mem_cons.mpr ⟨rn_ws 1462 (by decide +kernel) rfl, List.forall_mem_cons.mpr ⟨mn_X9_goKeeper, List.forall_mem_cons.mpr ⟨mx_X9_goKeeper, List.forall_mem_cons.mpr ⟨mz_RX9, (fun _ h => absurd h List.not_mem_nil)⟩⟩⟩⟩), mo_X9_goKeeper⟩
theorem mn_X9_goMinute : Cond.instanceMethod yX9_goMinute ∈ rn_WS := rn_ws 1452 (by decide +kernel) rfl
theorem mx_X9_goMinute : Cond.selects RX9 yX9_goMinute yX9_goMinute ∈ rn_WS := rn_ws 55 (by decide +kernel) rfl
theorem mm_RX9_415 : rn_MV RX9 415 M_X9_goMinute 0 := ⟨rn_gi (pre := [.methodLink RX9 415 yX9_goMinute, .instanceMethod yX9_goMinute, .selects RX9 yX9_goMinute yX9_goMinute, .initialized RX9]) mc_X9_goMinute (List.forall_mem_cons.mpr ⟨rn_ws 1450 (by decide +kernel) rfl, List.forall_mem_cons.mpr ⟨mn_X9_goMinute, List.forall_mem_cons.mpr ⟨mx_X9_goMinute, List.forall_mem_cons.mpr ⟨mz_RX9, (fun _ h => absurd h List.not_mem_nil)⟩⟩⟩⟩), mo_X9_goMinute⟩
theorem mn_X9_goMinutes : Cond.instanceMethod yX9_goMinutes ∈ rn_WS := rn_ws 1448 (by decide +kernel) rfl
theorem mx_X9_goMinutes : Cond.selects RX9 yX9_goMinutes yX9_goMinutes ∈ rn_WS := rn_ws 54 (by decide +kernel) rfl
theorem mm_RX9_418 : rn_MV RX9 418 M_X9_goMinutes 1 := ⟨rn_gi (pre := [.methodLink RX9 418 yX9_goMinutes, .instanceMethod yX9_goMinutes, .selects RX9 yX9_goMinutes yX9_goMinutes, .initialized RX9]) mc_X9_goMinutes (List.forall_mem_cons.mpr ⟨rn_ws 1446 (by decide +kernel) rfl, List.forall_mem_cons.mpr ⟨mn_X9_goMinutes, List.forall_mem_cons.mpr ⟨mx_X9_goMinutes, List.forall_mem_cons.mpr ⟨mz_RX9, (fun _ h => absurd h List.not_mem_nil)⟩⟩⟩⟩), mo_X9_goMinutes⟩
theorem mn_X9_isMinutes : Cond.instanceMethod yX9_isMinutes ∈ rn_WS := rn_ws 1472 (by decide +kernel) rfl
theorem mx_X9_isMinutes : Cond.selects RX9 yX9_isMinutes yX9_isMinutes ∈ rn_WS := rn_ws 59 (by decide +kernel) rfl
theorem mm_RX9_421 : rn_MV RX9 421 M_X9_isMinutes 1 := ⟨rn_gi (pre := [.methodLink RX9 421 yX9_isMinutes, .instanceMethod yX9_isMinutes, .selects RX9 yX9_isMinutes yX9_isMinutes, .initialized RX9]) mc_X9_isMinutes (List.forall_mem_cons.mpr ⟨rn_ws 1470 (by decide +kernel) rfl, List.forall_mem_cons.mpr ⟨mn_X9_isMinutes, List.forall_mem_cons.mpr ⟨mx_X9_isMinutes, List.forall_mem_cons.mpr ⟨mz_RX9, (fun _ h => absurd h List.not_mem_nil)⟩⟩⟩⟩), mo_X9_isMinutes⟩
theorem mn_X9_save : Cond.instanceMethod yX9_save ∈ rn_WS := rn_ws 1476 (by decide +kernel) rfl
theorem mx_X9_save : Cond.selects RX9 yX9_save yX9_save ∈ rn_WS := rn_ws 60 (by decide +kernel) rfl
theorem mm_RX9_424 : rn_MV RX9 424 M_X9_save 0 := ⟨rn_gi (pre := [.methodLink RX9 424 yX9_save, .instanceMethod yX9_save, .selects RX9 yX9_save yX9_save, .initialized RX9]) mc_X9_save (List.forall_mem_cons.mpr ⟨rn_ws 1474 (by decide +kernel) rfl, List.forall_mem_cons.mpr ⟨mn_X9_save, List.forall_mem_cons.mpr ⟨mx_X9_save, List.forall_mem_cons.mpr ⟨mz_RX9, (fun _ h => absurd h List.not_mem_nil)⟩⟩⟩⟩), mo_X9_save⟩
theorem mn_X9_putBack : Cond.instanceMethod yX9_putBack ∈ rn_WS := rn_ws 1480 (by decide +kernel) rfl
theorem mx_X9_putBack : Cond.selects RX9 yX9_putBack yX9_putBack ∈ rn_WS := rn_ws 61 (by decide +kernel) rfl
theorem mm_RX9_427 : rn_MV RX9 427 M_X9_putBack 0 := ⟨rn_gi (pre := [.methodLink RX9 427 yX9_putBack, .instanceMethod yX9_putBack, .selects RX9 yX9_putBack yX9_putBack, .initialized RX9]) mc_X9_putBack (List.forall_mem_cons.mpr ⟨rn_ws 1478 (by decide +kernel) rfl, List.forall_mem_cons.mpr ⟨mn_X9_putBack, List.forall_mem_cons.mpr ⟨mx_X9_putBack, List.forall_mem_cons.mpr ⟨mz_RX9, (fun _ h => absurd h List.not_mem_nil)⟩⟩⟩⟩), mo_X9_putBack⟩
theorem mn_X9_all : Cond.instanceMethod yX9_all ∈ rn_WS := rn_ws 1488 (by decide +kernel) rfl
theorem mx_X9_all : Cond.selects RX9 yX9_all yX9_all ∈ rn_WS := rn_ws 62 (by decide +kernel) rfl
theorem mm_RX9_430 : rn_MV RX9 430 M_X9_all 0 := ⟨rn_gi (pre := [.methodLink RX9 430 yX9_all, .instanceMethod yX9_all, .selects RX9 yX9_all yX9_all, .initialized RX9]) mc_X9_all (List.forall_mem_cons.mpr ⟨rn_ws 1486 (by decide +kernel) rfl, List.forall_mem_cons.mpr ⟨mn_X9_all, List.forall_mem_cons.mpr ⟨mx_X9_all, List.forall_mem_cons.mpr ⟨mz_RX9, (fun _ h => absurd h List.not_mem_nil)⟩⟩⟩⟩), mo_X9_all⟩
theorem mn_X9_on : Cond.instanceMethod yX9_on ∈ rn_WS := rn_ws 1467 (by decide +kernel) rfl
theorem mx_X9_on : Cond.selects RX9 yX9_on yX9_on ∈ rn_WS := rn_ws 1468 (by decide +kernel) rfl
theorem mm_RX9_433 : rn_MV RX9 433 M_X9_on 2 := ⟨rn_gi (pre := [.methodLink RX9 433 yX9_on, .instanceMethod yX9_on, .selects RX9 yX9_on yX9_on, .initialized RX9]) mc_X9_on (List.forall_mem_cons.mpr ⟨rn_ws 1494 (by decide +kernel) rfl, List.forall_mem_cons.mpr ⟨mn_X9_on, List.forall_mem_cons.mpr ⟨mx_X9_on, List.forall_mem_cons.mpr ⟨mz_RX9, (fun _ h => absurd h List.not_mem_nil)⟩⟩⟩⟩), mo_X9_on⟩
theorem mn_X9_leftThen : Cond.instanceMethod yX9_leftThen ∈ rn_WS := rn_ws 1505 (by decide +kernel) rfl
theorem mx_X9_leftThen : Cond.selects RX9 yX9_leftThen yX9_leftThen ∈ rn_WS := rn_ws 64 (by decide +kernel) rfl
theorem mm_RX9_436 : rn_MV RX9 436 M_X9_leftThen 0 := ⟨rn_gi (pre := [.methodLink RX9 436 yX9_leftThen, .instanceMethod yX9_leftThen, .selects RX9 yX9_leftThen yX9_leftThen, .initialized RX9]) mc_X9_leftThen (List.forall_mem_cons.mpr ⟨rn_ws 1503 (by decide +kernel) rfl, List.forall_mem_cons.mpr ⟨mn_X9_leftThen, List.forall_mem_cons.mpr ⟨mx_X9_leftThen, List.forall_mem_cons.mpr ⟨mz_RX9, (fun _ h => absurd h List.not_mem_nil)⟩⟩⟩⟩), mo_X9_leftThen⟩
theorem mn_X9_left : Cond.instanceMethod yX9_left ∈ rn_WS := rn_ws 1513 (by decide +kernel) rfl
theorem mx_X9_left : Cond.selects RX9 yX9_left yX9_left ∈ rn_WS := rn_ws 66 (by decide +kernel) rfl
theorem mm_RX9_439 : rn_MV RX9 439 M_X9_left 0 := ⟨rn_gi (pre := [.methodLink RX9 439 yX9_left, .instanceMethod yX9_left, .selects RX9 yX9_left yX9_left, .initialized RX9]) mc_X9_left (List.forall_mem_cons.mpr ⟨rn_ws 1511 (by decide +kernel) rfl, List.forall_mem_cons.mpr ⟨mn_X9_left, List.forall_mem_cons.mpr ⟨mx_X9_left, List.forall_mem_cons.mpr ⟨mz_RX9, (fun _ h => absurd h List.not_mem_nil)⟩⟩⟩⟩), mo_X9_left⟩
theorem mn_X9_firstOf : Cond.instanceMethod yX9_firstOf ∈ rn_WS := rn_ws 1501 (by decide +kernel) rfl
theorem mx_X9_firstOf : Cond.selects RX9 yX9_firstOf yX9_firstOf ∈ rn_WS := rn_ws 63 (by decide +kernel) rfl
theorem mm_RX9_442 : rn_MV RX9 442 M_X9_firstOf 0 := ⟨rn_gi (pre := [.methodLink RX9 442 yX9_firstOf, .instanceMethod yX9_firstOf, .selects RX9 yX9_firstOf yX9_firstOf, .initialized RX9]) mc_X9_firstOf (List.forall_mem_cons.mpr ⟨rn_ws 1499 (by decide +kernel) rfl, List.forall_mem_cons.mpr ⟨mn_X9_firstOf, List.forall_mem_cons.mpr ⟨mx_X9_firstOf, List.forall_mem_cons.mpr ⟨mz_RX9, (fun _ h => absurd h List.not_mem_nil)⟩⟩⟩⟩), mo_X9_firstOf⟩
theorem mn_X9_swapOf : Cond.instanceMethod yX9_swapOf ∈ rn_WS := rn_ws 1509 (by decide +kernel) rfl
theorem mx_X9_swapOf : Cond.selects RX9 yX9_swapOf yX9_swapOf ∈ rn_WS := rn_ws 65 (by decide +kernel) rfl
theorem mm_RX9_445 : rn_MV RX9 445 M_X9_swapOf 0 := ⟨rn_gi (pre := [.methodLink RX9 445 yX9_swapOf, .instanceMethod yX9_swapOf, .selects RX9 yX9_swapOf yX9_swapOf, .initialized RX9]) mc_X9_swapOf (List.forall_mem_cons.mpr ⟨rn_ws 1507 (by decide +kernel) rfl, List.forall_mem_cons.mpr ⟨mn_X9_swapOf, List.forall_mem_cons.mpr ⟨mx_X9_swapOf, List.forall_mem_cons.mpr ⟨mz_RX9, (fun _ h => absurd h List.not_mem_nil)⟩⟩⟩⟩), mo_X9_swapOf⟩
theorem mn_X9_quickOf : Cond.instanceMethod yX9_quickOf ∈ rn_WS := rn_ws 1517 (by decide +kernel) rfl
theorem mx_X9_quickOf : Cond.selects RX9 yX9_quickOf yX9_quickOf ∈ rn_WS := rn_ws 67 (by decide +kernel) rfl
theorem mm_RX9_448 : rn_MV RX9 448 M_X9_quickOf 0 := ⟨rn_gi (pre := [.methodLink RX9 448 yX9_quickOf, .instanceMethod yX9_quickOf, .selects RX9 yX9_quickOf yX9_quickOf, .initialized RX9]) mc_X9_quickOf (List.forall_mem_cons.mpr ⟨rn_ws 1515 (by decide +kernel) rfl, List.forall_mem_cons.mpr ⟨mn_X9_quickOf, List.forall_mem_cons.mpr ⟨mx_X9_quickOf, List.forall_mem_cons.mpr ⟨mz_RX9, (fun _ h => absurd h List.not_mem_nil)⟩⟩⟩⟩), mo_X9_quickOf⟩
theorem mn_X9_waitOf : Cond.instanceMethod yX9_waitOf ∈ rn_WS := rn_ws 1521 (by decide +kernel) rfl
theorem mx_X9_waitOf : Cond.selects RX9 yX9_waitOf yX9_waitOf ∈ rn_WS := rn_ws 68 (by decide +kernel) rfl
theorem mm_RX9_451 : rn_MV RX9 451 M_X9_waitOf 0 := ⟨rn_gi (pre := [.methodLink RX9 451 yX9_waitOf, .instanceMethod yX9_waitOf, .selects RX9 yX9_waitOf yX9_waitOf, .initialized RX9]) mc_X9_waitOf (List.forall_mem_cons.mpr ⟨rn_ws 1519 (by decide +kernel) rfl, List.forall_mem_cons.mpr ⟨mn_X9_waitOf, List.forall_mem_cons.mpr ⟨mx_X9_waitOf, List.forall_mem_cons.mpr ⟨mz_RX9, (fun _ h => absurd h List.not_mem_nil)⟩⟩⟩⟩), mo_X9_waitOf⟩
theorem mn_X9_openOf : Cond.instanceMethod yX9_openOf ∈ rn_WS := rn_ws 1525 (by decide +kernel) rfl
theorem mx_X9_openOf : Cond.selects RX9 yX9_openOf yX9_openOf ∈ rn_WS := rn_ws 69 (by decide +kernel) rfl
theorem mm_RX9_454 : rn_MV RX9 454 M_X9_openOf 0 := ⟨rn_gi (pre := [.methodLink RX9 454 yX9_openOf, .instanceMethod yX9_openOf, .selects RX9 yX9_openOf yX9_openOf, .initialized RX9]) mc_X9_openOf (List.forall_mem_cons.mpr ⟨rn_ws 1523 (by decide +kernel) rfl, List.forall_mem_cons.mpr ⟨mn_X9_openOf, List.forall_mem_cons.mpr ⟨mx_X9_openOf, List.forall_mem_cons.mpr ⟨mz_RX9, (fun _ h => absurd h List.not_mem_nil)⟩⟩⟩⟩), mo_X9_openOf⟩
theorem mn_X9_isSeen : Cond.instanceMethod yX9_isSeen ∈ rn_WS := rn_ws 1541 (by decide +kernel) rfl
theorem mx_X9_isSeen : Cond.selects RX9 yX9_isSeen yX9_isSeen ∈ rn_WS := rn_ws 70 (by decide +kernel) rfl
theorem mm_RX9_457 : rn_MV RX9 457 M_X9_isSeen 2 := ⟨rn_gi (pre := [.methodLink RX9 457 yX9_isSeen, .instanceMethod yX9_isSeen, .selects RX9 yX9_isSeen yX9_isSeen, .initialized RX9]) mc_X9_isSeen (List.forall_mem_cons.mpr ⟨rn_ws 1539 (by decide +kernel) rfl, List.forall_mem_cons.mpr ⟨mn_X9_isSeen, List.forall_mem_cons.mpr ⟨mx_X9_isSeen, List.forall_mem_cons.mpr ⟨mz_RX9, (fun _ h => absurd h List.not_mem_nil)⟩⟩⟩⟩), mo_X9_isSeen⟩
theorem mn_X9_divisor : Cond.instanceMethod yX9_divisor ∈ rn_WS := rn_ws 1558 (by decide +kernel) rfl
theorem mx_X9_divisor : Cond.selects RX9 yX9_divisor yX9_divisor ∈ rn_WS := rn_ws 72 (by decide +kernel) rfl
theorem mm_RX9_460 : rn_MV RX9 460 M_X9_divisor 2 := ⟨rn_gi (pre := [.methodLink RX9 460 yX9_divisor, .instanceMethod yX9_divisor, .selects RX9 yX9_divisor yX9_divisor, .initialized RX9]) mc_X9_divisor (List.forall_mem_cons.mpr ⟨rn_ws 1556 (by decide +kernel) rfl, List.forall_mem_cons.mpr ⟨mn_X9_divisor, List.forall_mem_cons.mpr ⟨mx_X9_divisor, List.forall_mem_cons.mpr ⟨mz_RX9, (fun _ h => absurd h List.not_mem_nil)⟩⟩⟩⟩), mo_X9_divisor⟩
theorem kl_RX9_463 : Cond.constantLong RX9 463 (-9223372036854775808) ∈ rn_WS := rn_ws 1551 (by decide +kernel) rfl
theorem mn_X9_lowest : Cond.instanceMethod yX9_lowest ∈ rn_WS := rn_ws 1554 (by decide +kernel) rfl
theorem mx_X9_lowest : Cond.selects RX9 yX9_lowest yX9_lowest ∈ rn_WS := rn_ws 71 (by decide +kernel) rfl
theorem mm_RX9_465 : rn_MV RX9 465 M_X9_lowest 3 := ⟨rn_gi (pre := [.methodLink RX9 465 yX9_lowest, .instanceMethod yX9_lowest, .selects RX9 yX9_lowest yX9_lowest, .initialized RX9]) mc_X9_lowest (List.forall_mem_cons.mpr ⟨rn_ws 1552 (by decide +kernel) rfl, List.forall_mem_cons.mpr ⟨mn_X9_lowest, List.forall_mem_cons.mpr ⟨mx_X9_lowest, List.forall_mem_cons.mpr ⟨mz_RX9, (fun _ h => absurd h List.not_mem_nil)⟩⟩⟩⟩), mo_X9_lowest⟩
theorem mn_X9_isTape : Cond.instanceMethod yX9_isTape ∈ rn_WS := rn_ws 1586 (by decide +kernel) rfl
theorem mx_X9_isTape : Cond.selects RX9 yX9_isTape yX9_isTape ∈ rn_WS := rn_ws 73 (by decide +kernel) rfl
theorem mm_RX9_469 : rn_MV RX9 469 M_X9_isTape 1 := ⟨rn_gi (pre := [.methodLink RX9 469 yX9_isTape, .instanceMethod yX9_isTape, .selects RX9 yX9_isTape yX9_isTape, .initialized RX9]) mc_X9_isTape (List.forall_mem_cons.mpr ⟨rn_ws 1584 (by decide +kernel) rfl, List.forall_mem_cons.mpr ⟨mn_X9_isTape, List.forall_mem_cons.mpr ⟨mx_X9_isTape, List.forall_mem_cons.mpr ⟨mz_RX9, (fun _ h => absurd h List.not_mem_nil)⟩⟩⟩⟩), mo_X9_isTape⟩
theorem mn_X9_body : Cond.instanceMethod yX9_body ∈ rn_WS := rn_ws 1606 (by decide +kernel) rfl
theorem mx_X9_body : Cond.selects RX9 yX9_body yX9_body ∈ rn_WS := rn_ws 75 (by decide +kernel) rfl
theorem mm_RX9_472 : rn_MV RX9 472 M_X9_body 1 := ⟨rn_gi (pre := [.methodLink RX9 472 yX9_body, .instanceMethod yX9_body, .selects RX9 yX9_body yX9_body, .initialized RX9]) mc_X9_body (List.forall_mem_cons.mpr ⟨rn_ws 1604 (by decide +kernel) rfl, List.forall_mem_cons.mpr ⟨mn_X9_body, List.forall_mem_cons.mpr ⟨mx_X9_body, List.forall_mem_cons.mpr ⟨mz_RX9, (fun _ h => absurd h List.not_mem_nil)⟩⟩⟩⟩), mo_X9_body⟩
theorem mn_X9_personWaits : Cond.instanceMethod yX9_personWaits ∈ rn_WS := rn_ws 1610 (by decide +kernel) rfl
theorem mx_X9_personWaits : Cond.selects RX9 yX9_personWaits yX9_personWaits ∈ rn_WS := rn_ws 76 (by decide +kernel) rfl
theorem mm_RX9_475 : rn_MV RX9 475 M_X9_personWaits 2 := ⟨rn_gi (pre := [.methodLink RX9 475 yX9_personWaits, .instanceMethod yX9_personWaits, .selects RX9 yX9_personWaits yX9_personWaits, .initialized RX9]) mc_X9_personWaits (List.forall_mem_cons.mpr ⟨rn_ws 1608 (by decide +kernel) rfl, List.forall_mem_cons.mpr ⟨mn_X9_personWaits, List.forall_mem_cons.mpr ⟨mx_X9_personWaits, List.forall_mem_cons.mpr ⟨mz_RX9, (fun _ h => absurd h List.not_mem_nil)⟩⟩⟩⟩), mo_X9_personWaits⟩
theorem mn_X9_waitsAct : Cond.instanceMethod yX9_waitsAct ∈ rn_WS := rn_ws 1602 (by decide +kernel) rfl
theorem mx_X9_waitsAct : Cond.selects RX9 yX9_waitsAct yX9_waitsAct ∈ rn_WS := rn_ws 74 (by decide +kernel) rfl
theorem mm_RX9_478 : rn_MV RX9 478 M_X9_waitsAct 2 := ⟨rn_gi (pre := [.methodLink RX9 478 yX9_waitsAct, .instanceMethod yX9_waitsAct, .selects RX9 yX9_waitsAct yX9_waitsAct, .initialized RX9]) mc_X9_waitsAct (List.forall_mem_cons.mpr ⟨rn_ws 1600 (by decide +kernel) rfl, List.forall_mem_cons.mpr ⟨mn_X9_waitsAct, List.forall_mem_cons.mpr ⟨mx_X9_waitsAct, List.forall_mem_cons.mpr ⟨mz_RX9, (fun _ h => absurd h List.not_mem_nil)⟩⟩⟩⟩), mo_X9_waitsAct⟩
theorem mn_X9_personWalks : Cond.instanceMethod yX9_personWalks ∈ rn_WS := rn_ws 1622 (by decide +kernel) rfl
theorem mx_X9_personWalks : Cond.selects RX9 yX9_personWalks yX9_personWalks ∈ rn_WS := rn_ws 79 (by decide +kernel) rfl
theorem mm_RX9_481 : rn_MV RX9 481 M_X9_personWalks 2 := ⟨rn_gi (pre := [.methodLink RX9 481 yX9_personWalks, .instanceMethod yX9_personWalks, .selects RX9 yX9_personWalks yX9_personWalks, .initialized RX9]) mc_X9_personWalks (List.forall_mem_cons.mpr ⟨rn_ws 1620 (by decide +kernel) rfl, List.forall_mem_cons.mpr ⟨mn_X9_personWalks, List.forall_mem_cons.mpr ⟨mx_X9_personWalks, List.forall_mem_cons.mpr ⟨mz_RX9, (fun _ h => absurd h List.not_mem_nil)⟩⟩⟩⟩), mo_X9_personWalks⟩
theorem mn_X9_oldWalks : Cond.instanceMethod yX9_oldWalks ∈ rn_WS := rn_ws 1618 (by decide +kernel) rfl
theorem mx_X9_oldWalks : Cond.selects RX9 yX9_oldWalks yX9_oldWalks ∈ rn_WS := rn_ws 78 (by decide +kernel) rfl
theorem mm_RX9_484 : rn_MV RX9 484 M_X9_oldWalks 2 := ⟨rn_gi (pre := [.methodLink RX9 484 yX9_oldWalks, .instanceMethod yX9_oldWalks, .selects RX9 yX9_oldWalks yX9_oldWalks, .initialized RX9]) mc_X9_oldWalks (List.forall_mem_cons.mpr ⟨rn_ws 1616 (by decide +kernel) rfl, List.forall_mem_cons.mpr ⟨mn_X9_oldWalks, List.forall_mem_cons.mpr ⟨mx_X9_oldWalks, List.forall_mem_cons.mpr ⟨mz_RX9, (fun _ h => absurd h List.not_mem_nil)⟩⟩⟩⟩), mo_X9_oldWalks⟩
theorem mn_X9_walksAct : Cond.instanceMethod yX9_walksAct ∈ rn_WS := rn_ws 1614 (by decide +kernel) rfl
theorem mx_X9_walksAct : Cond.selects RX9 yX9_walksAct yX9_walksAct ∈ rn_WS := rn_ws 77 (by decide +kernel) rfl
theorem mm_RX9_487 : rn_MV RX9 487 M_X9_walksAct 2 := ⟨rn_gi (pre := [.methodLink RX9 487 yX9_walksAct, .instanceMethod yX9_walksAct, .selects RX9 yX9_walksAct yX9_walksAct, .initialized RX9]) mc_X9_walksAct (List.forall_mem_cons.mpr ⟨rn_ws 1612 (by decide +kernel) rfl, List.forall_mem_cons.mpr ⟨mn_X9_walksAct, List.forall_mem_cons.mpr ⟨mx_X9_walksAct, List.forall_mem_cons.mpr ⟨mz_RX9, (fun _ h => absurd h List.not_mem_nil)⟩⟩⟩⟩), mo_X9_walksAct⟩
theorem mn_X9_personTells : Cond.instanceMethod yX9_personTells ∈ rn_WS := rn_ws 1630 (by decide +kernel) rfl
theorem mx_X9_personTells : Cond.selects RX9 yX9_personTells yX9_personTells ∈ rn_WS := rn_ws 81 (by decide +kernel) rfl
theorem mm_RX9_490 : rn_MV RX9 490 M_X9_personTells 2 := ⟨rn_gi (pre := [.methodLink RX9 490 yX9_personTells, .instanceMethod yX9_personTells, .selects RX9 yX9_personTells yX9_personTells, .initialized RX9]) mc_X9_personTells (List.forall_mem_cons.mpr ⟨rn_ws 1628 (by decide +kernel) rfl, List.forall_mem_cons.mpr ⟨mn_X9_personTells, List.forall_mem_cons.mpr ⟨mx_X9_personTells, List.forall_mem_cons.mpr ⟨mz_RX9, (fun _ h => absurd h List.not_mem_nil)⟩⟩⟩⟩), mo_X9_personTells⟩
theorem mn_X9_tellsAct : Cond.instanceMethod yX9_tellsAct ∈ rn_WS := rn_ws 1626 (by decide +kernel) rfl
theorem mx_X9_tellsAct : Cond.selects RX9 yX9_tellsAct yX9_tellsAct ∈ rn_WS := rn_ws 80 (by decide +kernel) rfl
theorem mm_RX9_493 : rn_MV RX9 493 M_X9_tellsAct 2 := ⟨rn_gi (pre := [.methodLink RX9 493 yX9_tellsAct, .instanceMethod yX9_tellsAct, .selects RX9 yX9_tellsAct yX9_tellsAct, .initialized RX9]) mc_X9_tellsAct (List.forall_mem_cons.mpr ⟨rn_ws 1624 (by decide +kernel) rfl, List.forall_mem_cons.mpr ⟨mn_X9_tellsAct, List.forall_mem_cons.mpr ⟨mx_X9_tellsAct, List.forall_mem_cons.mpr ⟨mz_RX9, (fun _ h => absurd h List.not_mem_nil)⟩⟩⟩⟩), mo_X9_tellsAct⟩
theorem mn_X9_narrow : Cond.instanceMethod yX9_narrow ∈ rn_WS := rn_ws 1654 (by decide +kernel) rfl
theorem mx_X9_narrow : Cond.selects RX9 yX9_narrow yX9_narrow ∈ rn_WS := rn_ws 82 (by decide +kernel) rfl
theorem mm_RX9_496 : rn_MV RX9 496 M_X9_narrow 2 := ⟨rn_gi (pre := [.methodLink RX9 496 yX9_narrow, .instanceMethod yX9_narrow, .selects RX9 yX9_narrow yX9_narrow, .initialized RX9]) mc_X9_narrow (List.forall_mem_cons.mpr ⟨rn_ws 1652 (by decide +kernel) rfl, List.forall_mem_cons.mpr ⟨mn_X9_narrow, List.forall_mem_cons.mpr ⟨mx_X9_narrow, List.forall_mem_cons.mpr ⟨mz_RX9, (fun _ h => absurd h List.not_mem_nil)⟩⟩⟩⟩), mo_X9_narrow⟩
theorem cl_RL_7 : Cond.classLink RL 7 RX8 ∈ rn_WS := rn_ws 102 (by decide +kernel) rfl
theorem nw_RX8 : Cond.instantiable RX8 11 ∈ rn_WS := rn_ws 103 (by decide +kernel) rfl
theorem mn_X8_init : Cond.instanceMethod yX8_init ∈ rn_WS := rn_ws 105 (by decide +kernel) rfl
theorem mm_RL_9 : rn_MI RL 9 M_X8_init 0 := ⟨⟨rn_gi (pre := [.methodLink RL 9 yX8_init, .instanceMethod yX8_init, .initialized RX8]) mc_X8_init (List.forall_mem_cons.mpr ⟨rn_ws 104 (by decide +kernel) rfl, List.forall_mem_cons.mpr ⟨mn_X8_init, List.forall_mem_cons.mpr ⟨mz_RX8, (fun _ h => absurd h List.not_mem_nil)⟩⟩⟩), rfl, rfl⟩, mo_X8_init⟩
theorem cl_RL_10 : Cond.classLink RL 10 RX9 ∈ rn_WS := rn_ws 975 (by decide +kernel) rfl
theorem nw_RX9 : Cond.instantiable RX9 93 ∈ rn_WS := rn_ws 976 (by decide +kernel) rfl
theorem mn_X9_init : Cond.instanceMethod yX9_init ∈ rn_WS := rn_ws 978 (by decide +kernel) rfl
theorem mm_RL_12 : rn_MI RL 12 M_X9_init 0 := ⟨⟨rn_gi (pre := [.methodLink RL 12 yX9_init, .instanceMethod yX9_init, .initialized RX9]) mc_X9_init (List.forall_mem_cons.mpr ⟨rn_ws 977 (by decide +kernel) rfl, List.forall_mem_cons.mpr ⟨mn_X9_init, List.forall_mem_cons.mpr ⟨mz_RX9, (fun _ h => absurd h List.not_mem_nil)⟩⟩⟩), rfl, rfl⟩, mo_X9_init⟩
theorem mn_X8_gate : Cond.instanceMethod yX8_gate ∈ rn_WS := rn_ws 405 (by decide +kernel) rfl
theorem mx_X8_gate : Cond.selects RX8 yX8_gate yX8_gate ∈ rn_WS := rn_ws 406 (by decide +kernel) rfl
theorem mm_RL_13 : rn_MV RL 13 M_X8_gate 1 := ⟨rn_gi (pre := [.methodLink RL 13 yX8_gate, .instanceMethod yX8_gate, .selects RX8 yX8_gate yX8_gate, .initialized RX8]) mc_X8_gate (List.forall_mem_cons.mpr ⟨rn_ws 404 (by decide +kernel) rfl, List.forall_mem_cons.mpr ⟨mn_X8_gate, List.forall_mem_cons.mpr ⟨mx_X8_gate, List.forall_mem_cons.mpr ⟨mz_RX8, (fun _ h => absurd h List.not_mem_nil)⟩⟩⟩⟩), mo_X8_gate⟩
theorem mn_X9_gate : Cond.instanceMethod yX9_gate ∈ rn_WS := rn_ws 1263 (by decide +kernel) rfl
theorem mx_X9_gate : Cond.selects RX9 yX9_gate yX9_gate ∈ rn_WS := rn_ws 1264 (by decide +kernel) rfl
theorem mm_RL_17 : rn_MV RL 17 M_X9_gate 1 := ⟨rn_gi (pre := [.methodLink RL 17 yX9_gate, .instanceMethod yX9_gate, .selects RX9 yX9_gate yX9_gate, .initialized RX9]) mc_X9_gate (List.forall_mem_cons.mpr ⟨rn_ws 1262 (by decide +kernel) rfl, List.forall_mem_cons.mpr ⟨mn_X9_gate, List.forall_mem_cons.mpr ⟨mx_X9_gate, List.forall_mem_cons.mpr ⟨mz_RX9, (fun _ h => absurd h List.not_mem_nil)⟩⟩⟩⟩), mo_X9_gate⟩
theorem mn_X8_person : Cond.instanceMethod yX8_person ∈ rn_WS := rn_ws 416 (by decide +kernel) rfl
theorem mx_X8_person : Cond.selects RX8 yX8_person yX8_person ∈ rn_WS := rn_ws 417 (by decide +kernel) rfl
theorem mm_RL_18 : rn_MV RL 18 M_X8_person 3 := ⟨rn_gi (pre := [.methodLink RL 18 yX8_person, .instanceMethod yX8_person, .selects RX8 yX8_person yX8_person, .initialized RX8]) mc_X8_person (List.forall_mem_cons.mpr ⟨rn_ws 415 (by decide +kernel) rfl, List.forall_mem_cons.mpr ⟨mn_X8_person, List.forall_mem_cons.mpr ⟨mx_X8_person, List.forall_mem_cons.mpr ⟨mz_RX8, (fun _ h => absurd h List.not_mem_nil)⟩⟩⟩⟩), mo_X8_person⟩
theorem mn_X9_person : Cond.instanceMethod yX9_person ∈ rn_WS := rn_ws 1279 (by decide +kernel) rfl
theorem mx_X9_person : Cond.selects RX9 yX9_person yX9_person ∈ rn_WS := rn_ws 1280 (by decide +kernel) rfl
theorem mm_RL_22 : rn_MV RL 22 M_X9_person 3 := ⟨rn_gi (pre := [.methodLink RL 22 yX9_person, .instanceMethod yX9_person, .selects RX9 yX9_person yX9_person, .initialized RX9]) mc_X9_person (List.forall_mem_cons.mpr ⟨rn_ws 1278 (by decide +kernel) rfl, List.forall_mem_cons.mpr ⟨mn_X9_person, List.forall_mem_cons.mpr ⟨mx_X9_person, List.forall_mem_cons.mpr ⟨mz_RX9, (fun _ h => absurd h List.not_mem_nil)⟩⟩⟩⟩), mo_X9_person⟩
theorem mn_X8_of : Cond.instanceMethod yX8_of ∈ rn_WS := rn_ws 431 (by decide +kernel) rfl
theorem mx_X8_of : Cond.selects RX8 yX8_of yX8_of ∈ rn_WS := rn_ws 432 (by decide +kernel) rfl
theorem mm_RL_23 : rn_MV RL 23 M_X8_of 2 := ⟨rn_gi (pre := [.methodLink RL 23 yX8_of, .instanceMethod yX8_of, .selects RX8 yX8_of yX8_of, .initialized RX8]) mc_X8_of (List.forall_mem_cons.mpr ⟨rn_ws 430 (by decide +kernel) rfl, List.forall_mem_cons.mpr ⟨mn_X8_of, List.forall_mem_cons.mpr ⟨mx_X8_of, List.forall_mem_cons.mpr ⟨mz_RX8, (fun _ h => absurd h List.not_mem_nil)⟩⟩⟩⟩), mo_X8_of⟩
theorem mn_X9_of : Cond.instanceMethod yX9_of ∈ rn_WS := rn_ws 1383 (by decide +kernel) rfl
theorem mx_X9_of : Cond.selects RX9 yX9_of yX9_of ∈ rn_WS := rn_ws 1384 (by decide +kernel) rfl
theorem mm_RL_27 : rn_MV RL 27 M_X9_of 2 := ⟨rn_gi (pre := [.methodLink RL 27 yX9_of, .instanceMethod yX9_of, .selects RX9 yX9_of yX9_of, .initialized RX9]) mc_X9_of (List.forall_mem_cons.mpr ⟨rn_ws 1382 (by decide +kernel) rfl, List.forall_mem_cons.mpr ⟨mn_X9_of, List.forall_mem_cons.mpr ⟨mx_X9_of, List.forall_mem_cons.mpr ⟨mz_RX9, (fun _ h => absurd h List.not_mem_nil)⟩⟩⟩⟩), mo_X9_of⟩
theorem mn_X8_put : Cond.instanceMethod yX8_put ∈ rn_WS := rn_ws 482 (by decide +kernel) rfl
theorem mx_X8_put : Cond.selects RX8 yX8_put yX8_put ∈ rn_WS := rn_ws 483 (by decide +kernel) rfl
theorem mm_RL_28 : rn_MV RL 28 M_X8_put 2 := ⟨rn_gi (pre := [.methodLink RL 28 yX8_put, .instanceMethod yX8_put, .selects RX8 yX8_put yX8_put, .initialized RX8]) mc_X8_put (List.forall_mem_cons.mpr ⟨rn_ws 481 (by decide +kernel) rfl, List.forall_mem_cons.mpr ⟨mn_X8_put, List.forall_mem_cons.mpr ⟨mx_X8_put, List.forall_mem_cons.mpr ⟨mz_RX8, (fun _ h => absurd h List.not_mem_nil)⟩⟩⟩⟩), mo_X8_put⟩
theorem mn_X9_put : Cond.instanceMethod yX9_put ∈ rn_WS := rn_ws 1283 (by decide +kernel) rfl
theorem mx_X9_put : Cond.selects RX9 yX9_put yX9_put ∈ rn_WS := rn_ws 1284 (by decide +kernel) rfl
theorem mm_RL_31 : rn_MV RL 31 M_X9_put 2 := ⟨rn_gi (pre := [.methodLink RL 31 yX9_put, .instanceMethod yX9_put, .selects RX9 yX9_put yX9_put, .initialized RX9]) mc_X9_put (List.forall_mem_cons.mpr ⟨rn_ws 1282 (by decide +kernel) rfl, List.forall_mem_cons.mpr ⟨mn_X9_put, List.forall_mem_cons.mpr ⟨mx_X9_put, List.forall_mem_cons.mpr ⟨mz_RX9, (fun _ h => absurd h List.not_mem_nil)⟩⟩⟩⟩), mo_X9_put⟩
theorem mn_X8_call : Cond.instanceMethod yX8_call ∈ rn_WS := rn_ws 490 (by decide +kernel) rfl
theorem mx_X8_call : Cond.selects RX8 yX8_call yX8_call ∈ rn_WS := rn_ws 491 (by decide +kernel) rfl
theorem mm_RL_32 : rn_MV RL 32 M_X8_call 2 := ⟨rn_gi (pre := [.methodLink RL 32 yX8_call, .instanceMethod yX8_call, .selects RX8 yX8_call yX8_call, .initialized RX8]) mc_X8_call (List.forall_mem_cons.mpr ⟨rn_ws 489 (by decide +kernel) rfl, List.forall_mem_cons.mpr ⟨mn_X8_call, List.forall_mem_cons.mpr ⟨mx_X8_call, List.forall_mem_cons.mpr ⟨mz_RX8, (fun _ h => absurd h List.not_mem_nil)⟩⟩⟩⟩), mo_X8_call⟩
theorem mn_X9_call : Cond.instanceMethod yX9_call ∈ rn_WS := rn_ws 1295 (by decide +kernel) rfl
theorem mx_X9_call : Cond.selects RX9 yX9_call yX9_call ∈ rn_WS := rn_ws 1296 (by decide +kernel) rfl
theorem mm_RL_36 : rn_MV RL 36 M_X9_call 2 := ⟨rn_gi (pre := [.methodLink RL 36 yX9_call, .instanceMethod yX9_call, .selects RX9 yX9_call yX9_call, .initialized RX9]) mc_X9_call (List.forall_mem_cons.mpr ⟨rn_ws 1294 (by decide +kernel) rfl, List.forall_mem_cons.mpr ⟨mn_X9_call, List.forall_mem_cons.mpr ⟨mx_X9_call, List.forall_mem_cons.mpr ⟨mz_RX9, (fun _ h => absurd h List.not_mem_nil)⟩⟩⟩⟩), mo_X9_call⟩
theorem mn_X8_shut : Cond.instanceMethod yX8_shut ∈ rn_WS := rn_ws 494 (by decide +kernel) rfl
theorem mx_X8_shut : Cond.selects RX8 yX8_shut yX8_shut ∈ rn_WS := rn_ws 495 (by decide +kernel) rfl
theorem mm_RL_37 : rn_MV RL 37 M_X8_shut 2 := ⟨rn_gi (pre := [.methodLink RL 37 yX8_shut, .instanceMethod yX8_shut, .selects RX8 yX8_shut yX8_shut, .initialized RX8]) mc_X8_shut (List.forall_mem_cons.mpr ⟨rn_ws 493 (by decide +kernel) rfl, List.forall_mem_cons.mpr ⟨mn_X8_shut, List.forall_mem_cons.mpr ⟨mx_X8_shut, List.forall_mem_cons.mpr ⟨mz_RX8, (fun _ h => absurd h List.not_mem_nil)⟩⟩⟩⟩), mo_X8_shut⟩
theorem mn_X9_shut : Cond.instanceMethod yX9_shut ∈ rn_WS := rn_ws 1303 (by decide +kernel) rfl
theorem mx_X9_shut : Cond.selects RX9 yX9_shut yX9_shut ∈ rn_WS := rn_ws 1304 (by decide +kernel) rfl
theorem mm_RL_40 : rn_MV RL 40 M_X9_shut 2 := ⟨rn_gi (pre := [.methodLink RL 40 yX9_shut, .instanceMethod yX9_shut, .selects RX9 yX9_shut yX9_shut, .initialized RX9]) mc_X9_shut (List.forall_mem_cons.mpr ⟨rn_ws 1302 (by decide +kernel) rfl, List.forall_mem_cons.mpr ⟨mn_X9_shut, List.forall_mem_cons.mpr ⟨mx_X9_shut, List.forall_mem_cons.mpr ⟨mz_RX9, (fun _ h => absurd h List.not_mem_nil)⟩⟩⟩⟩), mo_X9_shut⟩
theorem mn_X8_row : Cond.instanceMethod yX8_row ∈ rn_WS := rn_ws 510 (by decide +kernel) rfl
theorem mx_X8_row : Cond.selects RX8 yX8_row yX8_row ∈ rn_WS := rn_ws 511 (by decide +kernel) rfl
theorem mm_RL_41 : rn_MV RL 41 M_X8_row 3 := ⟨rn_gi (pre := [.methodLink RL 41 yX8_row, .instanceMethod yX8_row, .selects RX8 yX8_row yX8_row, .initialized RX8]) mc_X8_row (List.forall_mem_cons.mpr ⟨rn_ws 509 (by decide +kernel) rfl, List.forall_mem_cons.mpr ⟨mn_X8_row, List.forall_mem_cons.mpr ⟨mx_X8_row, List.forall_mem_cons.mpr ⟨mz_RX8, (fun _ h => absurd h List.not_mem_nil)⟩⟩⟩⟩), mo_X8_row⟩
theorem mn_X9_row : Cond.instanceMethod yX9_row ∈ rn_WS := rn_ws 1311 (by decide +kernel) rfl
theorem mx_X9_row : Cond.selects RX9 yX9_row yX9_row ∈ rn_WS := rn_ws 1312 (by decide +kernel) rfl
theorem mm_RL_44 : rn_MV RL 44 M_X9_row 3 := ⟨rn_gi (pre := [.methodLink RL 44 yX9_row, .instanceMethod yX9_row, .selects RX9 yX9_row yX9_row, .initialized RX9]) mc_X9_row (List.forall_mem_cons.mpr ⟨rn_ws 1310 (by decide +kernel) rfl, List.forall_mem_cons.mpr ⟨mn_X9_row, List.forall_mem_cons.mpr ⟨mx_X9_row, List.forall_mem_cons.mpr ⟨mz_RX9, (fun _ h => absurd h List.not_mem_nil)⟩⟩⟩⟩), mo_X9_row⟩
theorem mn_X8_round : Cond.instanceMethod yX8_round ∈ rn_WS := rn_ws 514 (by decide +kernel) rfl
theorem mx_X8_round : Cond.selects RX8 yX8_round yX8_round ∈ rn_WS := rn_ws 515 (by decide +kernel) rfl
theorem mm_RL_45 : rn_MV RL 45 M_X8_round 1 := ⟨rn_gi (pre := [.methodLink RL 45 yX8_round, .instanceMethod yX8_round, .selects RX8 yX8_round yX8_round, .initialized RX8]) mc_X8_round (List.forall_mem_cons.mpr ⟨rn_ws 513 (by decide +kernel) rfl, List.forall_mem_cons.mpr ⟨mn_X8_round, List.forall_mem_cons.mpr ⟨mx_X8_round, List.forall_mem_cons.mpr ⟨mz_RX8, (fun _ h => absurd h List.not_mem_nil)⟩⟩⟩⟩), mo_X8_round⟩
theorem mn_X9_round : Cond.instanceMethod yX9_round ∈ rn_WS := rn_ws 1315 (by decide +kernel) rfl
theorem mx_X9_round : Cond.selects RX9 yX9_round yX9_round ∈ rn_WS := rn_ws 1316 (by decide +kernel) rfl
theorem mm_RL_48 : rn_MV RL 48 M_X9_round 1 := ⟨rn_gi (pre := [.methodLink RL 48 yX9_round, .instanceMethod yX9_round, .selects RX9 yX9_round yX9_round, .initialized RX9]) mc_X9_round (List.forall_mem_cons.mpr ⟨rn_ws 1314 (by decide +kernel) rfl, List.forall_mem_cons.mpr ⟨mn_X9_round, List.forall_mem_cons.mpr ⟨mx_X9_round, List.forall_mem_cons.mpr ⟨mz_RX9, (fun _ h => absurd h List.not_mem_nil)⟩⟩⟩⟩), mo_X9_round⟩
theorem mn_X8_feed : Cond.instanceMethod yX8_feed ∈ rn_WS := rn_ws 522 (by decide +kernel) rfl
theorem mx_X8_feed : Cond.selects RX8 yX8_feed yX8_feed ∈ rn_WS := rn_ws 523 (by decide +kernel) rfl
theorem mm_RL_49 : rn_MV RL 49 M_X8_feed 1 := ⟨rn_gi (pre := [.methodLink RL 49 yX8_feed, .instanceMethod yX8_feed, .selects RX8 yX8_feed yX8_feed, .initialized RX8]) mc_X8_feed (List.forall_mem_cons.mpr ⟨rn_ws 521 (by decide +kernel) rfl, List.forall_mem_cons.mpr ⟨mn_X8_feed, List.forall_mem_cons.mpr ⟨mx_X8_feed, List.forall_mem_cons.mpr ⟨mz_RX8, (fun _ h => absurd h List.not_mem_nil)⟩⟩⟩⟩), mo_X8_feed⟩
theorem mn_X9_feed : Cond.instanceMethod yX9_feed ∈ rn_WS := rn_ws 1319 (by decide +kernel) rfl
theorem mx_X9_feed : Cond.selects RX9 yX9_feed yX9_feed ∈ rn_WS := rn_ws 1320 (by decide +kernel) rfl
theorem mm_RL_52 : rn_MV RL 52 M_X9_feed 1 := ⟨rn_gi (pre := [.methodLink RL 52 yX9_feed, .instanceMethod yX9_feed, .selects RX9 yX9_feed yX9_feed, .initialized RX9]) mc_X9_feed (List.forall_mem_cons.mpr ⟨rn_ws 1318 (by decide +kernel) rfl, List.forall_mem_cons.mpr ⟨mn_X9_feed, List.forall_mem_cons.mpr ⟨mx_X9_feed, List.forall_mem_cons.mpr ⟨mz_RX9, (fun _ h => absurd h List.not_mem_nil)⟩⟩⟩⟩), mo_X9_feed⟩
theorem mn_X8_dusk : Cond.instanceMethod yX8_dusk ∈ rn_WS := rn_ws 530 (by decide +kernel) rfl
theorem mx_X8_dusk : Cond.selects RX8 yX8_dusk yX8_dusk ∈ rn_WS := rn_ws 531 (by decide +kernel) rfl
theorem mm_RL_53 : rn_MV RL 53 M_X8_dusk 0 := ⟨rn_gi (pre := [.methodLink RL 53 yX8_dusk, .instanceMethod yX8_dusk, .selects RX8 yX8_dusk yX8_dusk, .initialized RX8]) mc_X8_dusk (List.forall_mem_cons.mpr ⟨rn_ws 529 (by decide +kernel) rfl, List.forall_mem_cons.mpr ⟨mn_X8_dusk, List.forall_mem_cons.mpr ⟨mx_X8_dusk, List.forall_mem_cons.mpr ⟨mz_RX8, (fun _ h => absurd h List.not_mem_nil)⟩⟩⟩⟩), mo_X8_dusk⟩
theorem mn_X9_dusk : Cond.instanceMethod yX9_dusk ∈ rn_WS := rn_ws 1323 (by decide +kernel) rfl
theorem mx_X9_dusk : Cond.selects RX9 yX9_dusk yX9_dusk ∈ rn_WS := rn_ws 1324 (by decide +kernel) rfl
theorem mm_RL_57 : rn_MV RL 57 M_X9_dusk 0 := ⟨rn_gi (pre := [.methodLink RL 57 yX9_dusk, .instanceMethod yX9_dusk, .selects RX9 yX9_dusk yX9_dusk, .initialized RX9]) mc_X9_dusk (List.forall_mem_cons.mpr ⟨rn_ws 1322 (by decide +kernel) rfl, List.forall_mem_cons.mpr ⟨mn_X9_dusk, List.forall_mem_cons.mpr ⟨mx_X9_dusk, List.forall_mem_cons.mpr ⟨mz_RX9, (fun _ h => absurd h List.not_mem_nil)⟩⟩⟩⟩), mo_X9_dusk⟩
theorem mn_X8_told : Cond.instanceMethod yX8_told ∈ rn_WS := rn_ws 703 (by decide +kernel) rfl
theorem mx_X8_told : Cond.selects RX8 yX8_told yX8_told ∈ rn_WS := rn_ws 704 (by decide +kernel) rfl
theorem mm_RL_58 : rn_MV RL 58 M_X8_told 1 := ⟨rn_gi (pre := [.methodLink RL 58 yX8_told, .instanceMethod yX8_told, .selects RX8 yX8_told yX8_told, .initialized RX8]) mc_X8_told (List.forall_mem_cons.mpr ⟨rn_ws 702 (by decide +kernel) rfl, List.forall_mem_cons.mpr ⟨mn_X8_told, List.forall_mem_cons.mpr ⟨mx_X8_told, List.forall_mem_cons.mpr ⟨mz_RX8, (fun _ h => absurd h List.not_mem_nil)⟩⟩⟩⟩), mo_X8_told⟩
theorem mn_X9_told : Cond.instanceMethod yX9_told ∈ rn_WS := rn_ws 1435 (by decide +kernel) rfl
theorem mx_X9_told : Cond.selects RX9 yX9_told yX9_told ∈ rn_WS := rn_ws 1436 (by decide +kernel) rfl
theorem mm_RL_61 : rn_MV RL 61 M_X9_told 1 := ⟨rn_gi (pre := [.methodLink RL 61 yX9_told, .instanceMethod yX9_told, .selects RX9 yX9_told yX9_told, .initialized RX9]) mc_X9_told (List.forall_mem_cons.mpr ⟨rn_ws 1434 (by decide +kernel) rfl, List.forall_mem_cons.mpr ⟨mn_X9_told, List.forall_mem_cons.mpr ⟨mx_X9_told, List.forall_mem_cons.mpr ⟨mz_RX9, (fun _ h => absurd h List.not_mem_nil)⟩⟩⟩⟩), mo_X9_told⟩
theorem mn_X8_pass : Cond.instanceMethod yX8_pass ∈ rn_WS := rn_ws 711 (by decide +kernel) rfl
theorem mx_X8_pass : Cond.selects RX8 yX8_pass yX8_pass ∈ rn_WS := rn_ws 712 (by decide +kernel) rfl
theorem mm_RL_62 : rn_MV RL 62 M_X8_pass 1 := ⟨rn_gi (pre := [.methodLink RL 62 yX8_pass, .instanceMethod yX8_pass, .selects RX8 yX8_pass yX8_pass, .initialized RX8]) mc_X8_pass (List.forall_mem_cons.mpr ⟨rn_ws 710 (by decide +kernel) rfl, List.forall_mem_cons.mpr ⟨mn_X8_pass, List.forall_mem_cons.mpr ⟨mx_X8_pass, List.forall_mem_cons.mpr ⟨mz_RX8, (fun _ h => absurd h List.not_mem_nil)⟩⟩⟩⟩), mo_X8_pass⟩
theorem mn_X9_pass : Cond.instanceMethod yX9_pass ∈ rn_WS := rn_ws 1443 (by decide +kernel) rfl
theorem mx_X9_pass : Cond.selects RX9 yX9_pass yX9_pass ∈ rn_WS := rn_ws 1444 (by decide +kernel) rfl
theorem mm_RL_65 : rn_MV RL 65 M_X9_pass 1 := ⟨rn_gi (pre := [.methodLink RL 65 yX9_pass, .instanceMethod yX9_pass, .selects RX9 yX9_pass yX9_pass, .initialized RX9]) mc_X9_pass (List.forall_mem_cons.mpr ⟨rn_ws 1442 (by decide +kernel) rfl, List.forall_mem_cons.mpr ⟨mn_X9_pass, List.forall_mem_cons.mpr ⟨mx_X9_pass, List.forall_mem_cons.mpr ⟨mz_RX9, (fun _ h => absurd h List.not_mem_nil)⟩⟩⟩⟩), mo_X9_pass⟩
theorem mn_X8_on : Cond.instanceMethod yX8_on ∈ rn_WS := rn_ws 740 (by decide +kernel) rfl
theorem mx_X8_on : Cond.selects RX8 yX8_on yX8_on ∈ rn_WS := rn_ws 741 (by decide +kernel) rfl
theorem mm_RL_66 : rn_MV RL 66 M_X8_on 2 := ⟨rn_gi (pre := [.methodLink RL 66 yX8_on, .instanceMethod yX8_on, .selects RX8 yX8_on yX8_on, .initialized RX8]) mc_X8_on (List.forall_mem_cons.mpr ⟨rn_ws 739 (by decide +kernel) rfl, List.forall_mem_cons.mpr ⟨mn_X8_on, List.forall_mem_cons.mpr ⟨mx_X8_on, List.forall_mem_cons.mpr ⟨mz_RX8, (fun _ h => absurd h List.not_mem_nil)⟩⟩⟩⟩), mo_X8_on⟩
theorem mm_RL_69 : rn_MV RL 69 M_X9_on 2 := ⟨rn_gi (pre := [.methodLink RL 69 yX9_on, .instanceMethod yX9_on, .selects RX9 yX9_on yX9_on, .initialized RX9]) mc_X9_on (List.forall_mem_cons.mpr ⟨rn_ws 1466 (by decide +kernel) rfl, List.forall_mem_cons.mpr ⟨mn_X9_on, List.forall_mem_cons.mpr ⟨mx_X9_on, List.forall_mem_cons.mpr ⟨mz_RX9, (fun _ h => absurd h List.not_mem_nil)⟩⟩⟩⟩), mo_X9_on⟩
theorem mn_X8_clear : Cond.instanceMethod yX8_clear ∈ rn_WS := rn_ws 756 (by decide +kernel) rfl
theorem mx_X8_clear : Cond.selects RX8 yX8_clear yX8_clear ∈ rn_WS := rn_ws 757 (by decide +kernel) rfl
theorem mm_RL_70 : rn_MV RL 70 M_X8_clear 0 := ⟨rn_gi (pre := [.methodLink RL 70 yX8_clear, .instanceMethod yX8_clear, .selects RX8 yX8_clear yX8_clear, .initialized RX8]) mc_X8_clear (List.forall_mem_cons.mpr ⟨rn_ws 755 (by decide +kernel) rfl, List.forall_mem_cons.mpr ⟨mn_X8_clear, List.forall_mem_cons.mpr ⟨mx_X8_clear, List.forall_mem_cons.mpr ⟨mz_RX8, (fun _ h => absurd h List.not_mem_nil)⟩⟩⟩⟩), mo_X8_clear⟩
theorem mn_X9_clear : Cond.instanceMethod yX9_clear ∈ rn_WS := rn_ws 1483 (by decide +kernel) rfl
theorem mx_X9_clear : Cond.selects RX9 yX9_clear yX9_clear ∈ rn_WS := rn_ws 1484 (by decide +kernel) rfl
theorem mm_RL_73 : rn_MV RL 73 M_X9_clear 0 := ⟨rn_gi (pre := [.methodLink RL 73 yX9_clear, .instanceMethod yX9_clear, .selects RX9 yX9_clear yX9_clear, .initialized RX9]) mc_X9_clear (List.forall_mem_cons.mpr ⟨rn_ws 1482 (by decide +kernel) rfl, List.forall_mem_cons.mpr ⟨mn_X9_clear, List.forall_mem_cons.mpr ⟨mx_X9_clear, List.forall_mem_cons.mpr ⟨mz_RX9, (fun _ h => absurd h List.not_mem_nil)⟩⟩⟩⟩), mo_X9_clear⟩
theorem mn_X8_stay : Cond.instanceMethod yX8_stay ∈ rn_WS := rn_ws 766 (by decide +kernel) rfl
theorem mx_X8_stay : Cond.selects RX8 yX8_stay yX8_stay ∈ rn_WS := rn_ws 767 (by decide +kernel) rfl
theorem mm_RL_74 : rn_MV RL 74 M_X8_stay 0 := ⟨rn_gi (pre := [.methodLink RL 74 yX8_stay, .instanceMethod yX8_stay, .selects RX8 yX8_stay yX8_stay, .initialized RX8]) mc_X8_stay (List.forall_mem_cons.mpr ⟨rn_ws 765 (by decide +kernel) rfl, List.forall_mem_cons.mpr ⟨mn_X8_stay, List.forall_mem_cons.mpr ⟨mx_X8_stay, List.forall_mem_cons.mpr ⟨mz_RX8, (fun _ h => absurd h List.not_mem_nil)⟩⟩⟩⟩), mo_X8_stay⟩
theorem mn_X9_stay : Cond.instanceMethod yX9_stay ∈ rn_WS := rn_ws 1491 (by decide +kernel) rfl
theorem mx_X9_stay : Cond.selects RX9 yX9_stay yX9_stay ∈ rn_WS := rn_ws 1492 (by decide +kernel) rfl
theorem mm_RL_77 : rn_MV RL 77 M_X9_stay 0 := ⟨rn_gi (pre := [.methodLink RL 77 yX9_stay, .instanceMethod yX9_stay, .selects RX9 yX9_stay yX9_stay, .initialized RX9]) mc_X9_stay (List.forall_mem_cons.mpr ⟨rn_ws 1490 (by decide +kernel) rfl, List.forall_mem_cons.mpr ⟨mn_X9_stay, List.forall_mem_cons.mpr ⟨mx_X9_stay, List.forall_mem_cons.mpr ⟨mz_RX9, (fun _ h => absurd h List.not_mem_nil)⟩⟩⟩⟩), mo_X9_stay⟩
theorem mn_X8_best : Cond.instanceMethod yX8_best ∈ rn_WS := rn_ws 770 (by decide +kernel) rfl
theorem mx_X8_best : Cond.selects RX8 yX8_best yX8_best ∈ rn_WS := rn_ws 771 (by decide +kernel) rfl
theorem mm_RL_78 : rn_MV RL 78 M_X8_best 1 := ⟨rn_gi (pre := [.methodLink RL 78 yX8_best, .instanceMethod yX8_best, .selects RX8 yX8_best yX8_best, .initialized RX8]) mc_X8_best (List.forall_mem_cons.mpr ⟨rn_ws 769 (by decide +kernel) rfl, List.forall_mem_cons.mpr ⟨mn_X8_best, List.forall_mem_cons.mpr ⟨mx_X8_best, List.forall_mem_cons.mpr ⟨mz_RX8, (fun _ h => absurd h List.not_mem_nil)⟩⟩⟩⟩), mo_X8_best⟩
theorem mn_X9_best : Cond.instanceMethod yX9_best ∈ rn_WS := rn_ws 1496 (by decide +kernel) rfl
theorem mx_X9_best : Cond.selects RX9 yX9_best yX9_best ∈ rn_WS := rn_ws 1497 (by decide +kernel) rfl
theorem mm_RL_81 : rn_MV RL 81 M_X9_best 1 := ⟨rn_gi (pre := [.methodLink RL 81 yX9_best, .instanceMethod yX9_best, .selects RX9 yX9_best yX9_best, .initialized RX9]) mc_X9_best (List.forall_mem_cons.mpr ⟨rn_ws 1495 (by decide +kernel) rfl, List.forall_mem_cons.mpr ⟨mn_X9_best, List.forall_mem_cons.mpr ⟨mx_X9_best, List.forall_mem_cons.mpr ⟨mz_RX9, (fun _ h => absurd h List.not_mem_nil)⟩⟩⟩⟩), mo_X9_best⟩
theorem mn_X8_hides : Cond.instanceMethod yX8_hides ∈ rn_WS := rn_ws 803 (by decide +kernel) rfl
theorem mx_X8_hides : Cond.selects RX8 yX8_hides yX8_hides ∈ rn_WS := rn_ws 804 (by decide +kernel) rfl
theorem mm_RL_82 : rn_MV RL 82 M_X8_hides 1 := ⟨rn_gi (pre := [.methodLink RL 82 yX8_hides, .instanceMethod yX8_hides, .selects RX8 yX8_hides yX8_hides, .initialized RX8]) mc_X8_hides (List.forall_mem_cons.mpr ⟨rn_ws 802 (by decide +kernel) rfl, List.forall_mem_cons.mpr ⟨mn_X8_hides, List.forall_mem_cons.mpr ⟨mx_X8_hides, List.forall_mem_cons.mpr ⟨mz_RX8, (fun _ h => absurd h List.not_mem_nil)⟩⟩⟩⟩), mo_X8_hides⟩
theorem mn_X9_hides : Cond.instanceMethod yX9_hides ∈ rn_WS := rn_ws 1528 (by decide +kernel) rfl
theorem mx_X9_hides : Cond.selects RX9 yX9_hides yX9_hides ∈ rn_WS := rn_ws 1529 (by decide +kernel) rfl
theorem mm_RL_85 : rn_MV RL 85 M_X9_hides 1 := ⟨rn_gi (pre := [.methodLink RL 85 yX9_hides, .instanceMethod yX9_hides, .selects RX9 yX9_hides yX9_hides, .initialized RX9]) mc_X9_hides (List.forall_mem_cons.mpr ⟨rn_ws 1527 (by decide +kernel) rfl, List.forall_mem_cons.mpr ⟨mn_X9_hides, List.forall_mem_cons.mpr ⟨mx_X9_hides, List.forall_mem_cons.mpr ⟨mz_RX9, (fun _ h => absurd h List.not_mem_nil)⟩⟩⟩⟩), mo_X9_hides⟩
theorem mn_X8_see : Cond.instanceMethod yX8_see ∈ rn_WS := rn_ws 811 (by decide +kernel) rfl
theorem mx_X8_see : Cond.selects RX8 yX8_see yX8_see ∈ rn_WS := rn_ws 812 (by decide +kernel) rfl
theorem mm_RL_86 : rn_MV RL 86 M_X8_see 3 := ⟨rn_gi (pre := [.methodLink RL 86 yX8_see, .instanceMethod yX8_see, .selects RX8 yX8_see yX8_see, .initialized RX8]) mc_X8_see (List.forall_mem_cons.mpr ⟨rn_ws 810 (by decide +kernel) rfl, List.forall_mem_cons.mpr ⟨mn_X8_see, List.forall_mem_cons.mpr ⟨mx_X8_see, List.forall_mem_cons.mpr ⟨mz_RX8, (fun _ h => absurd h List.not_mem_nil)⟩⟩⟩⟩), mo_X8_see⟩
theorem mn_X9_see : Cond.instanceMethod yX9_see ∈ rn_WS := rn_ws 1532 (by decide +kernel) rfl
theorem mx_X9_see : Cond.selects RX9 yX9_see yX9_see ∈ rn_WS := rn_ws 1533 (by decide +kernel) rfl
theorem mm_RL_90 : rn_MV RL 90 M_X9_see 3 := ⟨rn_gi (pre := [.methodLink RL 90 yX9_see, .instanceMethod yX9_see, .selects RX9 yX9_see yX9_see, .initialized RX9]) mc_X9_see (List.forall_mem_cons.mpr ⟨rn_ws 1531 (by decide +kernel) rfl, List.forall_mem_cons.mpr ⟨mn_X9_see, List.forall_mem_cons.mpr ⟨mx_X9_see, List.forall_mem_cons.mpr ⟨mz_RX9, (fun _ h => absurd h List.not_mem_nil)⟩⟩⟩⟩), mo_X9_see⟩
theorem mn_X8_where : Cond.instanceMethod yX8_where ∈ rn_WS := rn_ws 823 (by decide +kernel) rfl
theorem mx_X8_where : Cond.selects RX8 yX8_where yX8_where ∈ rn_WS := rn_ws 824 (by decide +kernel) rfl
theorem mm_RL_91 : rn_MV RL 91 M_X8_where 2 := ⟨rn_gi (pre := [.methodLink RL 91 yX8_where, .instanceMethod yX8_where, .selects RX8 yX8_where yX8_where, .initialized RX8]) mc_X8_where (List.forall_mem_cons.mpr ⟨rn_ws 822 (by decide +kernel) rfl, List.forall_mem_cons.mpr ⟨mn_X8_where, List.forall_mem_cons.mpr ⟨mx_X8_where, List.forall_mem_cons.mpr ⟨mz_RX8, (fun _ h => absurd h List.not_mem_nil)⟩⟩⟩⟩), mo_X8_where⟩
theorem mn_X9_where : Cond.instanceMethod yX9_where ∈ rn_WS := rn_ws 1536 (by decide +kernel) rfl
theorem mx_X9_where : Cond.selects RX9 yX9_where yX9_where ∈ rn_WS := rn_ws 1537 (by decide +kernel) rfl
theorem mm_RL_94 : rn_MV RL 94 M_X9_where 2 := ⟨rn_gi (pre := [.methodLink RL 94 yX9_where, .instanceMethod yX9_where, .selects RX9 yX9_where yX9_where, .initialized RX9]) mc_X9_where (List.forall_mem_cons.mpr ⟨rn_ws 1535 (by decide +kernel) rfl, List.forall_mem_cons.mpr ⟨mn_X9_where, List.forall_mem_cons.mpr ⟨mx_X9_where, List.forall_mem_cons.mpr ⟨mz_RX9, (fun _ h => absurd h List.not_mem_nil)⟩⟩⟩⟩), mo_X9_where⟩
theorem mn_X8_can : Cond.instanceMethod yX8_can ∈ rn_WS := rn_ws 843 (by decide +kernel) rfl
theorem mx_X8_can : Cond.selects RX8 yX8_can yX8_can ∈ rn_WS := rn_ws 844 (by decide +kernel) rfl
theorem mm_RL_95 : rn_MV RL 95 M_X8_can 2 := ⟨rn_gi (pre := [.methodLink RL 95 yX8_can, .instanceMethod yX8_can, .selects RX8 yX8_can yX8_can, .initialized RX8]) mc_X8_can (List.forall_mem_cons.mpr ⟨rn_ws 842 (by decide +kernel) rfl, List.forall_mem_cons.mpr ⟨mn_X8_can, List.forall_mem_cons.mpr ⟨mx_X8_can, List.forall_mem_cons.mpr ⟨mz_RX8, (fun _ h => absurd h List.not_mem_nil)⟩⟩⟩⟩), mo_X8_can⟩
theorem mn_X9_can : Cond.instanceMethod yX9_can ∈ rn_WS := rn_ws 1544 (by decide +kernel) rfl
theorem mx_X9_can : Cond.selects RX9 yX9_can yX9_can ∈ rn_WS := rn_ws 1545 (by decide +kernel) rfl
theorem mm_RL_98 : rn_MV RL 98 M_X9_can 2 := ⟨rn_gi (pre := [.methodLink RL 98 yX9_can, .instanceMethod yX9_can, .selects RX9 yX9_can yX9_can, .initialized RX9]) mc_X9_can (List.forall_mem_cons.mpr ⟨rn_ws 1543 (by decide +kernel) rfl, List.forall_mem_cons.mpr ⟨mn_X9_can, List.forall_mem_cons.mpr ⟨mx_X9_can, List.forall_mem_cons.mpr ⟨mz_RX9, (fun _ h => absurd h List.not_mem_nil)⟩⟩⟩⟩), mo_X9_can⟩
theorem mn_X8_odds : Cond.instanceMethod yX8_odds ∈ rn_WS := rn_ws 847 (by decide +kernel) rfl
theorem mx_X8_odds : Cond.selects RX8 yX8_odds yX8_odds ∈ rn_WS := rn_ws 848 (by decide +kernel) rfl
theorem mm_RL_99 : rn_MV RL 99 M_X8_odds 2 := ⟨rn_gi (pre := [.methodLink RL 99 yX8_odds, .instanceMethod yX8_odds, .selects RX8 yX8_odds yX8_odds, .initialized RX8]) mc_X8_odds (List.forall_mem_cons.mpr ⟨rn_ws 846 (by decide +kernel) rfl, List.forall_mem_cons.mpr ⟨mn_X8_odds, List.forall_mem_cons.mpr ⟨mx_X8_odds, List.forall_mem_cons.mpr ⟨mz_RX8, (fun _ h => absurd h List.not_mem_nil)⟩⟩⟩⟩), mo_X8_odds⟩
theorem mn_X9_odds : Cond.instanceMethod yX9_odds ∈ rn_WS := rn_ws 1548 (by decide +kernel) rfl
theorem mx_X9_odds : Cond.selects RX9 yX9_odds yX9_odds ∈ rn_WS := rn_ws 1549 (by decide +kernel) rfl
theorem mm_RL_103 : rn_MV RL 103 M_X9_odds 2 := ⟨rn_gi (pre := [.methodLink RL 103 yX9_odds, .instanceMethod yX9_odds, .selects RX9 yX9_odds yX9_odds, .initialized RX9]) mc_X9_odds (List.forall_mem_cons.mpr ⟨rn_ws 1547 (by decide +kernel) rfl, List.forall_mem_cons.mpr ⟨mn_X9_odds, List.forall_mem_cons.mpr ⟨mx_X9_odds, List.forall_mem_cons.mpr ⟨mz_RX9, (fun _ h => absurd h List.not_mem_nil)⟩⟩⟩⟩), mo_X9_odds⟩
theorem mn_X8_mean : Cond.instanceMethod yX8_mean ∈ rn_WS := rn_ws 858 (by decide +kernel) rfl
theorem mx_X8_mean : Cond.selects RX8 yX8_mean yX8_mean ∈ rn_WS := rn_ws 859 (by decide +kernel) rfl
theorem mm_RL_104 : rn_MV RL 104 M_X8_mean 2 := ⟨rn_gi (pre := [.methodLink RL 104 yX8_mean, .instanceMethod yX8_mean, .selects RX8 yX8_mean yX8_mean, .initialized RX8]) mc_X8_mean (List.forall_mem_cons.mpr ⟨rn_ws 857 (by decide +kernel) rfl, List.forall_mem_cons.mpr ⟨mn_X8_mean, List.forall_mem_cons.mpr ⟨mx_X8_mean, List.forall_mem_cons.mpr ⟨mz_RX8, (fun _ h => absurd h List.not_mem_nil)⟩⟩⟩⟩), mo_X8_mean⟩
theorem mn_X9_mean : Cond.instanceMethod yX9_mean ∈ rn_WS := rn_ws 1561 (by decide +kernel) rfl
theorem mx_X9_mean : Cond.selects RX9 yX9_mean yX9_mean ∈ rn_WS := rn_ws 1562 (by decide +kernel) rfl
theorem mm_RL_107 : rn_MV RL 107 M_X9_mean 2 := ⟨rn_gi (pre := [.methodLink RL 107 yX9_mean, .instanceMethod yX9_mean, .selects RX9 yX9_mean yX9_mean, .initialized RX9]) mc_X9_mean (List.forall_mem_cons.mpr ⟨rn_ws 1560 (by decide +kernel) rfl, List.forall_mem_cons.mpr ⟨mn_X9_mean, List.forall_mem_cons.mpr ⟨mx_X9_mean, List.forall_mem_cons.mpr ⟨mz_RX9, (fun _ h => absurd h List.not_mem_nil)⟩⟩⟩⟩), mo_X9_mean⟩
theorem mn_X8_evening : Cond.instanceMethod yX8_evening ∈ rn_WS := rn_ws 862 (by decide +kernel) rfl
theorem mx_X8_evening : Cond.selects RX8 yX8_evening yX8_evening ∈ rn_WS := rn_ws 863 (by decide +kernel) rfl
theorem mm_RL_108 : rn_MV RL 108 M_X8_evening 2 := ⟨rn_gi (pre := [.methodLink RL 108 yX8_evening, .instanceMethod yX8_evening, .selects RX8 yX8_evening yX8_evening, .initialized RX8]) mc_X8_evening (List.forall_mem_cons.mpr ⟨rn_ws 861 (by decide +kernel) rfl, List.forall_mem_cons.mpr ⟨mn_X8_evening, List.forall_mem_cons.mpr ⟨mx_X8_evening, List.forall_mem_cons.mpr ⟨mz_RX8, (fun _ h => absurd h List.not_mem_nil)⟩⟩⟩⟩), mo_X8_evening⟩
theorem mn_X9_evening : Cond.instanceMethod yX9_evening ∈ rn_WS := rn_ws 1565 (by decide +kernel) rfl
theorem mx_X9_evening : Cond.selects RX9 yX9_evening yX9_evening ∈ rn_WS := rn_ws 1566 (by decide +kernel) rfl
theorem mm_RL_111 : rn_MV RL 111 M_X9_evening 2 := ⟨rn_gi (pre := [.methodLink RL 111 yX9_evening, .instanceMethod yX9_evening, .selects RX9 yX9_evening yX9_evening, .initialized RX9]) mc_X9_evening (List.forall_mem_cons.mpr ⟨rn_ws 1564 (by decide +kernel) rfl, List.forall_mem_cons.mpr ⟨mn_X9_evening, List.forall_mem_cons.mpr ⟨mx_X9_evening, List.forall_mem_cons.mpr ⟨mz_RX9, (fun _ h => absurd h List.not_mem_nil)⟩⟩⟩⟩), mo_X9_evening⟩
theorem mn_X8_gone : Cond.instanceMethod yX8_gone ∈ rn_WS := rn_ws 866 (by decide +kernel) rfl
theorem mx_X8_gone : Cond.selects RX8 yX8_gone yX8_gone ∈ rn_WS := rn_ws 867 (by decide +kernel) rfl
theorem mm_RL_112 : rn_MV RL 112 M_X8_gone 1 := ⟨rn_gi (pre := [.methodLink RL 112 yX8_gone, .instanceMethod yX8_gone, .selects RX8 yX8_gone yX8_gone, .initialized RX8]) mc_X8_gone (List.forall_mem_cons.mpr ⟨rn_ws 865 (by decide +kernel) rfl, List.forall_mem_cons.mpr ⟨mn_X8_gone, List.forall_mem_cons.mpr ⟨mx_X8_gone, List.forall_mem_cons.mpr ⟨mz_RX8, (fun _ h => absurd h List.not_mem_nil)⟩⟩⟩⟩), mo_X8_gone⟩
theorem mn_X9_gone : Cond.instanceMethod yX9_gone ∈ rn_WS := rn_ws 1569 (by decide +kernel) rfl
theorem mx_X9_gone : Cond.selects RX9 yX9_gone yX9_gone ∈ rn_WS := rn_ws 1570 (by decide +kernel) rfl
theorem mm_RL_115 : rn_MV RL 115 M_X9_gone 1 := ⟨rn_gi (pre := [.methodLink RL 115 yX9_gone, .instanceMethod yX9_gone, .selects RX9 yX9_gone yX9_gone, .initialized RX9]) mc_X9_gone (List.forall_mem_cons.mpr ⟨rn_ws 1568 (by decide +kernel) rfl, List.forall_mem_cons.mpr ⟨mn_X9_gone, List.forall_mem_cons.mpr ⟨mx_X9_gone, List.forall_mem_cons.mpr ⟨mz_RX9, (fun _ h => absurd h List.not_mem_nil)⟩⟩⟩⟩), mo_X9_gone⟩
theorem mn_X8_book : Cond.instanceMethod yX8_book ∈ rn_WS := rn_ws 870 (by decide +kernel) rfl
theorem mx_X8_book : Cond.selects RX8 yX8_book yX8_book ∈ rn_WS := rn_ws 871 (by decide +kernel) rfl
theorem mm_RL_116 : rn_MV RL 116 M_X8_book 2 := ⟨rn_gi (pre := [.methodLink RL 116 yX8_book, .instanceMethod yX8_book, .selects RX8 yX8_book yX8_book, .initialized RX8]) mc_X8_book (List.forall_mem_cons.mpr ⟨rn_ws 869 (by decide +kernel) rfl, List.forall_mem_cons.mpr ⟨mn_X8_book, List.forall_mem_cons.mpr ⟨mx_X8_book, List.forall_mem_cons.mpr ⟨mz_RX8, (fun _ h => absurd h List.not_mem_nil)⟩⟩⟩⟩), mo_X8_book⟩
theorem mn_X9_book : Cond.instanceMethod yX9_book ∈ rn_WS := rn_ws 1573 (by decide +kernel) rfl
theorem mx_X9_book : Cond.selects RX9 yX9_book yX9_book ∈ rn_WS := rn_ws 1574 (by decide +kernel) rfl
theorem mm_RL_119 : rn_MV RL 119 M_X9_book 2 := ⟨rn_gi (pre := [.methodLink RL 119 yX9_book, .instanceMethod yX9_book, .selects RX9 yX9_book yX9_book, .initialized RX9]) mc_X9_book (List.forall_mem_cons.mpr ⟨rn_ws 1572 (by decide +kernel) rfl, List.forall_mem_cons.mpr ⟨mn_X9_book, List.forall_mem_cons.mpr ⟨mx_X9_book, List.forall_mem_cons.mpr ⟨mz_RX9, (fun _ h => absurd h List.not_mem_nil)⟩⟩⟩⟩), mo_X9_book⟩
theorem mn_X8_looked : Cond.instanceMethod yX8_looked ∈ rn_WS := rn_ws 874 (by decide +kernel) rfl
theorem mx_X8_looked : Cond.selects RX8 yX8_looked yX8_looked ∈ rn_WS := rn_ws 875 (by decide +kernel) rfl
theorem mm_RL_120 : rn_MV RL 120 M_X8_looked 0 := ⟨rn_gi (pre := [.methodLink RL 120 yX8_looked, .instanceMethod yX8_looked, .selects RX8 yX8_looked yX8_looked, .initialized RX8]) mc_X8_looked (List.forall_mem_cons.mpr ⟨rn_ws 873 (by decide +kernel) rfl, List.forall_mem_cons.mpr ⟨mn_X8_looked, List.forall_mem_cons.mpr ⟨mx_X8_looked, List.forall_mem_cons.mpr ⟨mz_RX8, (fun _ h => absurd h List.not_mem_nil)⟩⟩⟩⟩), mo_X8_looked⟩
theorem mn_X9_looked : Cond.instanceMethod yX9_looked ∈ rn_WS := rn_ws 1577 (by decide +kernel) rfl
theorem mx_X9_looked : Cond.selects RX9 yX9_looked yX9_looked ∈ rn_WS := rn_ws 1578 (by decide +kernel) rfl
theorem mm_RL_123 : rn_MV RL 123 M_X9_looked 0 := ⟨rn_gi (pre := [.methodLink RL 123 yX9_looked, .instanceMethod yX9_looked, .selects RX9 yX9_looked yX9_looked, .initialized RX9]) mc_X9_looked (List.forall_mem_cons.mpr ⟨rn_ws 1576 (by decide +kernel) rfl, List.forall_mem_cons.mpr ⟨mn_X9_looked, List.forall_mem_cons.mpr ⟨mx_X9_looked, List.forall_mem_cons.mpr ⟨mz_RX9, (fun _ h => absurd h List.not_mem_nil)⟩⟩⟩⟩), mo_X9_looked⟩
theorem mn_X8_judge : Cond.instanceMethod yX8_judge ∈ rn_WS := rn_ws 878 (by decide +kernel) rfl
theorem mx_X8_judge : Cond.selects RX8 yX8_judge yX8_judge ∈ rn_WS := rn_ws 879 (by decide +kernel) rfl
theorem mm_RL_124 : rn_MV RL 124 M_X8_judge 2 := ⟨rn_gi (pre := [.methodLink RL 124 yX8_judge, .instanceMethod yX8_judge, .selects RX8 yX8_judge yX8_judge, .initialized RX8]) mc_X8_judge (List.forall_mem_cons.mpr ⟨rn_ws 877 (by decide +kernel) rfl, List.forall_mem_cons.mpr ⟨mn_X8_judge, List.forall_mem_cons.mpr ⟨mx_X8_judge, List.forall_mem_cons.mpr ⟨mz_RX8, (fun _ h => absurd h List.not_mem_nil)⟩⟩⟩⟩), mo_X8_judge⟩
theorem mn_X9_judge : Cond.instanceMethod yX9_judge ∈ rn_WS := rn_ws 1581 (by decide +kernel) rfl
theorem mx_X9_judge : Cond.selects RX9 yX9_judge yX9_judge ∈ rn_WS := rn_ws 1582 (by decide +kernel) rfl
theorem mm_RL_127 : rn_MV RL 127 M_X9_judge 2 := ⟨rn_gi (pre := [.methodLink RL 127 yX9_judge, .instanceMethod yX9_judge, .selects RX9 yX9_judge yX9_judge, .initialized RX9]) mc_X9_judge (List.forall_mem_cons.mpr ⟨rn_ws 1580 (by decide +kernel) rfl, List.forall_mem_cons.mpr ⟨mn_X9_judge, List.forall_mem_cons.mpr ⟨mx_X9_judge, List.forall_mem_cons.mpr ⟨mz_RX9, (fun _ h => absurd h List.not_mem_nil)⟩⟩⟩⟩), mo_X9_judge⟩
theorem mn_X8_image : Cond.instanceMethod yX8_image ∈ rn_WS := rn_ws 885 (by decide +kernel) rfl
theorem mx_X8_image : Cond.selects RX8 yX8_image yX8_image ∈ rn_WS := rn_ws 886 (by decide +kernel) rfl
theorem mm_RL_128 : rn_MV RL 128 M_X8_image 0 := ⟨rn_gi (pre := [.methodLink RL 128 yX8_image, .instanceMethod yX8_image, .selects RX8 yX8_image yX8_image, .initialized RX8]) mc_X8_image (List.forall_mem_cons.mpr ⟨rn_ws 884 (by decide +kernel) rfl, List.forall_mem_cons.mpr ⟨mn_X8_image, List.forall_mem_cons.mpr ⟨mx_X8_image, List.forall_mem_cons.mpr ⟨mz_RX8, (fun _ h => absurd h List.not_mem_nil)⟩⟩⟩⟩), mo_X8_image⟩
theorem mn_X9_image : Cond.instanceMethod yX9_image ∈ rn_WS := rn_ws 1589 (by decide +kernel) rfl
theorem mx_X9_image : Cond.selects RX9 yX9_image yX9_image ∈ rn_WS := rn_ws 1590 (by decide +kernel) rfl
theorem mm_RL_131 : rn_MV RL 131 M_X9_image 0 := ⟨rn_gi (pre := [.methodLink RL 131 yX9_image, .instanceMethod yX9_image, .selects RX9 yX9_image yX9_image, .initialized RX9]) mc_X9_image (List.forall_mem_cons.mpr ⟨rn_ws 1588 (by decide +kernel) rfl, List.forall_mem_cons.mpr ⟨mn_X9_image, List.forall_mem_cons.mpr ⟨mx_X9_image, List.forall_mem_cons.mpr ⟨mz_RX9, (fun _ h => absurd h List.not_mem_nil)⟩⟩⟩⟩), mo_X9_image⟩
theorem mn_X8_undo : Cond.instanceMethod yX8_undo ∈ rn_WS := rn_ws 895 (by decide +kernel) rfl
theorem mx_X8_undo : Cond.selects RX8 yX8_undo yX8_undo ∈ rn_WS := rn_ws 896 (by decide +kernel) rfl
theorem mm_RL_132 : rn_MV RL 132 M_X8_undo 0 := ⟨rn_gi (pre := [.methodLink RL 132 yX8_undo, .instanceMethod yX8_undo, .selects RX8 yX8_undo yX8_undo, .initialized RX8]) mc_X8_undo (List.forall_mem_cons.mpr ⟨rn_ws 894 (by decide +kernel) rfl, List.forall_mem_cons.mpr ⟨mn_X8_undo, List.forall_mem_cons.mpr ⟨mx_X8_undo, List.forall_mem_cons.mpr ⟨mz_RX8, (fun _ h => absurd h List.not_mem_nil)⟩⟩⟩⟩), mo_X8_undo⟩
theorem mn_X9_undo : Cond.instanceMethod yX9_undo ∈ rn_WS := rn_ws 1593 (by decide +kernel) rfl
theorem mx_X9_undo : Cond.selects RX9 yX9_undo yX9_undo ∈ rn_WS := rn_ws 1594 (by decide +kernel) rfl
theorem mm_RL_135 : rn_MV RL 135 M_X9_undo 0 := ⟨rn_gi (pre := [.methodLink RL 135 yX9_undo, .instanceMethod yX9_undo, .selects RX9 yX9_undo yX9_undo, .initialized RX9]) mc_X9_undo (List.forall_mem_cons.mpr ⟨rn_ws 1592 (by decide +kernel) rfl, List.forall_mem_cons.mpr ⟨mn_X9_undo, List.forall_mem_cons.mpr ⟨mx_X9_undo, List.forall_mem_cons.mpr ⟨mz_RX9, (fun _ h => absurd h List.not_mem_nil)⟩⟩⟩⟩), mo_X9_undo⟩
theorem mn_X8_act : Cond.instanceMethod yX8_act ∈ rn_WS := rn_ws 899 (by decide +kernel) rfl
theorem mx_X8_act : Cond.selects RX8 yX8_act yX8_act ∈ rn_WS := rn_ws 900 (by decide +kernel) rfl
theorem mm_RL_136 : rn_MV RL 136 M_X8_act 3 := ⟨rn_gi (pre := [.methodLink RL 136 yX8_act, .instanceMethod yX8_act, .selects RX8 yX8_act yX8_act, .initialized RX8]) mc_X8_act (List.forall_mem_cons.mpr ⟨rn_ws 898 (by decide +kernel) rfl, List.forall_mem_cons.mpr ⟨mn_X8_act, List.forall_mem_cons.mpr ⟨mx_X8_act, List.forall_mem_cons.mpr ⟨mz_RX8, (fun _ h => absurd h List.not_mem_nil)⟩⟩⟩⟩), mo_X8_act⟩
theorem mn_X9_act : Cond.instanceMethod yX9_act ∈ rn_WS := rn_ws 1597 (by decide +kernel) rfl
theorem mx_X9_act : Cond.selects RX9 yX9_act yX9_act ∈ rn_WS := rn_ws 1598 (by decide +kernel) rfl
theorem mm_RL_139 : rn_MV RL 139 M_X9_act 3 := ⟨rn_gi (pre := [.methodLink RL 139 yX9_act, .instanceMethod yX9_act, .selects RX9 yX9_act yX9_act, .initialized RX9]) mc_X9_act (List.forall_mem_cons.mpr ⟨rn_ws 1596 (by decide +kernel) rfl, List.forall_mem_cons.mpr ⟨mn_X9_act, List.forall_mem_cons.mpr ⟨mx_X9_act, List.forall_mem_cons.mpr ⟨mz_RX9, (fun _ h => absurd h List.not_mem_nil)⟩⟩⟩⟩), mo_X9_act⟩
theorem mn_X8_trace : Cond.instanceMethod yX8_trace ∈ rn_WS := rn_ws 926 (by decide +kernel) rfl
theorem mx_X8_trace : Cond.selects RX8 yX8_trace yX8_trace ∈ rn_WS := rn_ws 927 (by decide +kernel) rfl
theorem mm_RL_140 : rn_MV RL 140 M_X8_trace 1 := ⟨rn_gi (pre := [.methodLink RL 140 yX8_trace, .instanceMethod yX8_trace, .selects RX8 yX8_trace yX8_trace, .initialized RX8]) mc_X8_trace (List.forall_mem_cons.mpr ⟨rn_ws 925 (by decide +kernel) rfl, List.forall_mem_cons.mpr ⟨mn_X8_trace, List.forall_mem_cons.mpr ⟨mx_X8_trace, List.forall_mem_cons.mpr ⟨mz_RX8, (fun _ h => absurd h List.not_mem_nil)⟩⟩⟩⟩), mo_X8_trace⟩
theorem mn_X9_trace : Cond.instanceMethod yX9_trace ∈ rn_WS := rn_ws 1633 (by decide +kernel) rfl
theorem mx_X9_trace : Cond.selects RX9 yX9_trace yX9_trace ∈ rn_WS := rn_ws 1634 (by decide +kernel) rfl
theorem mm_RL_143 : rn_MV RL 143 M_X9_trace 1 := ⟨rn_gi (pre := [.methodLink RL 143 yX9_trace, .instanceMethod yX9_trace, .selects RX9 yX9_trace yX9_trace, .initialized RX9]) mc_X9_trace (List.forall_mem_cons.mpr ⟨rn_ws 1632 (by decide +kernel) rfl, List.forall_mem_cons.mpr ⟨mn_X9_trace, List.forall_mem_cons.mpr ⟨mx_X9_trace, List.forall_mem_cons.mpr ⟨mz_RX9, (fun _ h => absurd h List.not_mem_nil)⟩⟩⟩⟩), mo_X9_trace⟩
theorem mn_X8_taken : Cond.instanceMethod yX8_taken ∈ rn_WS := rn_ws 931 (by decide +kernel) rfl
theorem mx_X8_taken : Cond.selects RX8 yX8_taken yX8_taken ∈ rn_WS := rn_ws 932 (by decide +kernel) rfl
theorem mm_RL_144 : rn_MV RL 144 M_X8_taken 2 := ⟨rn_gi (pre := [.methodLink RL 144 yX8_taken, .instanceMethod yX8_taken, .selects RX8 yX8_taken yX8_taken, .initialized RX8]) mc_X8_taken (List.forall_mem_cons.mpr ⟨rn_ws 930 (by decide +kernel) rfl, List.forall_mem_cons.mpr ⟨mn_X8_taken, List.forall_mem_cons.mpr ⟨mx_X8_taken, List.forall_mem_cons.mpr ⟨mz_RX8, (fun _ h => absurd h List.not_mem_nil)⟩⟩⟩⟩), mo_X8_taken⟩
theorem mn_X9_taken : Cond.instanceMethod yX9_taken ∈ rn_WS := rn_ws 1637 (by decide +kernel) rfl
theorem mx_X9_taken : Cond.selects RX9 yX9_taken yX9_taken ∈ rn_WS := rn_ws 1638 (by decide +kernel) rfl
theorem mm_RL_147 : rn_MV RL 147 M_X9_taken 2 := ⟨rn_gi (pre := [.methodLink RL 147 yX9_taken, .instanceMethod yX9_taken, .selects RX9 yX9_taken yX9_taken, .initialized RX9]) mc_X9_taken (List.forall_mem_cons.mpr ⟨rn_ws 1636 (by decide +kernel) rfl, List.forall_mem_cons.mpr ⟨mn_X9_taken, List.forall_mem_cons.mpr ⟨mx_X9_taken, List.forall_mem_cons.mpr ⟨mz_RX9, (fun _ h => absurd h List.not_mem_nil)⟩⟩⟩⟩), mo_X9_taken⟩
theorem mn_X8_count : Cond.instanceMethod yX8_count ∈ rn_WS := rn_ws 939 (by decide +kernel) rfl
theorem mx_X8_count : Cond.selects RX8 yX8_count yX8_count ∈ rn_WS := rn_ws 940 (by decide +kernel) rfl
theorem mm_RL_148 : rn_MV RL 148 M_X8_count 1 := ⟨rn_gi (pre := [.methodLink RL 148 yX8_count, .instanceMethod yX8_count, .selects RX8 yX8_count yX8_count, .initialized RX8]) mc_X8_count (List.forall_mem_cons.mpr ⟨rn_ws 938 (by decide +kernel) rfl, List.forall_mem_cons.mpr ⟨mn_X8_count, List.forall_mem_cons.mpr ⟨mx_X8_count, List.forall_mem_cons.mpr ⟨mz_RX8, (fun _ h => absurd h List.not_mem_nil)⟩⟩⟩⟩), mo_X8_count⟩
theorem mn_X9_count : Cond.instanceMethod yX9_count ∈ rn_WS := rn_ws 1641 (by decide +kernel) rfl
theorem mx_X9_count : Cond.selects RX9 yX9_count yX9_count ∈ rn_WS := rn_ws 1642 (by decide +kernel) rfl
theorem mm_RL_151 : rn_MV RL 151 M_X9_count 1 := ⟨rn_gi (pre := [.methodLink RL 151 yX9_count, .instanceMethod yX9_count, .selects RX9 yX9_count yX9_count, .initialized RX9]) mc_X9_count (List.forall_mem_cons.mpr ⟨rn_ws 1640 (by decide +kernel) rfl, List.forall_mem_cons.mpr ⟨mn_X9_count, List.forall_mem_cons.mpr ⟨mx_X9_count, List.forall_mem_cons.mpr ⟨mz_RX9, (fun _ h => absurd h List.not_mem_nil)⟩⟩⟩⟩), mo_X9_count⟩
theorem mn_X8_tape : Cond.instanceMethod yX8_tape ∈ rn_WS := rn_ws 943 (by decide +kernel) rfl
theorem mx_X8_tape : Cond.selects RX8 yX8_tape yX8_tape ∈ rn_WS := rn_ws 944 (by decide +kernel) rfl
theorem mm_RL_152 : rn_MV RL 152 M_X8_tape 3 := ⟨rn_gi (pre := [.methodLink RL 152 yX8_tape, .instanceMethod yX8_tape, .selects RX8 yX8_tape yX8_tape, .initialized RX8]) mc_X8_tape (List.forall_mem_cons.mpr ⟨rn_ws 942 (by decide +kernel) rfl, List.forall_mem_cons.mpr ⟨mn_X8_tape, List.forall_mem_cons.mpr ⟨mx_X8_tape, List.forall_mem_cons.mpr ⟨mz_RX8, (fun _ h => absurd h List.not_mem_nil)⟩⟩⟩⟩), mo_X8_tape⟩
theorem mn_X9_tape : Cond.instanceMethod yX9_tape ∈ rn_WS := rn_ws 1645 (by decide +kernel) rfl
theorem mx_X9_tape : Cond.selects RX9 yX9_tape yX9_tape ∈ rn_WS := rn_ws 1646 (by decide +kernel) rfl
theorem mm_RL_155 : rn_MV RL 155 M_X9_tape 3 := ⟨rn_gi (pre := [.methodLink RL 155 yX9_tape, .instanceMethod yX9_tape, .selects RX9 yX9_tape yX9_tape, .initialized RX9]) mc_X9_tape (List.forall_mem_cons.mpr ⟨rn_ws 1644 (by decide +kernel) rfl, List.forall_mem_cons.mpr ⟨mn_X9_tape, List.forall_mem_cons.mpr ⟨mx_X9_tape, List.forall_mem_cons.mpr ⟨mz_RX9, (fun _ h => absurd h List.not_mem_nil)⟩⟩⟩⟩), mo_X9_tape⟩
theorem kl_RL_156 : Cond.constantLong RL 156 (4294967295) ∈ rn_WS := rn_ws 1664 (by decide +kernel) rfl
theorem mn_X8_item : Cond.instanceMethod yX8_item ∈ rn_WS := rn_ws 951 (by decide +kernel) rfl
theorem mx_X8_item : Cond.selects RX8 yX8_item yX8_item ∈ rn_WS := rn_ws 952 (by decide +kernel) rfl
theorem mm_RL_158 : rn_MV RL 158 M_X8_item 3 := ⟨rn_gi (pre := [.methodLink RL 158 yX8_item, .instanceMethod yX8_item, .selects RX8 yX8_item yX8_item, .initialized RX8]) mc_X8_item (List.forall_mem_cons.mpr ⟨rn_ws 950 (by decide +kernel) rfl, List.forall_mem_cons.mpr ⟨mn_X8_item, List.forall_mem_cons.mpr ⟨mx_X8_item, List.forall_mem_cons.mpr ⟨mz_RX8, (fun _ h => absurd h List.not_mem_nil)⟩⟩⟩⟩), mo_X8_item⟩
theorem mn_X9_item : Cond.instanceMethod yX9_item ∈ rn_WS := rn_ws 1649 (by decide +kernel) rfl
theorem mx_X9_item : Cond.selects RX9 yX9_item yX9_item ∈ rn_WS := rn_ws 1650 (by decide +kernel) rfl
theorem mm_RL_162 : rn_MV RL 162 M_X9_item 3 := ⟨rn_gi (pre := [.methodLink RL 162 yX9_item, .instanceMethod yX9_item, .selects RX9 yX9_item yX9_item, .initialized RX9]) mc_X9_item (List.forall_mem_cons.mpr ⟨rn_ws 1648 (by decide +kernel) rfl, List.forall_mem_cons.mpr ⟨mn_X9_item, List.forall_mem_cons.mpr ⟨mx_X9_item, List.forall_mem_cons.mpr ⟨mz_RX9, (fun _ h => absurd h List.not_mem_nil)⟩⟩⟩⟩), mo_X9_item⟩
theorem mn_X8_read : Cond.instanceMethod yX8_read ∈ rn_WS := rn_ws 963 (by decide +kernel) rfl
theorem mx_X8_read : Cond.selects RX8 yX8_read yX8_read ∈ rn_WS := rn_ws 964 (by decide +kernel) rfl
theorem mm_RL_163 : rn_MV RL 163 M_X8_read 2 := ⟨rn_gi (pre := [.methodLink RL 163 yX8_read, .instanceMethod yX8_read, .selects RX8 yX8_read yX8_read, .initialized RX8]) mc_X8_read (List.forall_mem_cons.mpr ⟨rn_ws 962 (by decide +kernel) rfl, List.forall_mem_cons.mpr ⟨mn_X8_read, List.forall_mem_cons.mpr ⟨mx_X8_read, List.forall_mem_cons.mpr ⟨mz_RX8, (fun _ h => absurd h List.not_mem_nil)⟩⟩⟩⟩), mo_X8_read⟩
theorem mn_X9_read : Cond.instanceMethod yX9_read ∈ rn_WS := rn_ws 1657 (by decide +kernel) rfl
theorem mx_X9_read : Cond.selects RX9 yX9_read yX9_read ∈ rn_WS := rn_ws 1658 (by decide +kernel) rfl
theorem mm_RL_166 : rn_MV RL 166 M_X9_read 2 := ⟨rn_gi (pre := [.methodLink RL 166 yX9_read, .instanceMethod yX9_read, .selects RX9 yX9_read yX9_read, .initialized RX9]) mc_X9_read (List.forall_mem_cons.mpr ⟨rn_ws 1656 (by decide +kernel) rfl, List.forall_mem_cons.mpr ⟨mn_X9_read, List.forall_mem_cons.mpr ⟨mx_X9_read, List.forall_mem_cons.mpr ⟨mz_RX9, (fun _ h => absurd h List.not_mem_nil)⟩⟩⟩⟩), mo_X9_read⟩
theorem mn_X8_shift : Cond.instanceMethod yX8_shift ∈ rn_WS := rn_ws 967 (by decide +kernel) rfl
theorem mx_X8_shift : Cond.selects RX8 yX8_shift yX8_shift ∈ rn_WS := rn_ws 968 (by decide +kernel) rfl
theorem mm_RL_167 : rn_MV RL 167 M_X8_shift 5 := ⟨rn_gi (pre := [.methodLink RL 167 yX8_shift, .instanceMethod yX8_shift, .selects RX8 yX8_shift yX8_shift, .initialized RX8]) mc_X8_shift (List.forall_mem_cons.mpr ⟨rn_ws 966 (by decide +kernel) rfl, List.forall_mem_cons.mpr ⟨mn_X8_shift, List.forall_mem_cons.mpr ⟨mx_X8_shift, List.forall_mem_cons.mpr ⟨mz_RX8, (fun _ h => absurd h List.not_mem_nil)⟩⟩⟩⟩), mo_X8_shift⟩
theorem mn_X9_shift : Cond.instanceMethod yX9_shift ∈ rn_WS := rn_ws 1661 (by decide +kernel) rfl
theorem mx_X9_shift : Cond.selects RX9 yX9_shift yX9_shift ∈ rn_WS := rn_ws 1662 (by decide +kernel) rfl
theorem mm_RL_171 : rn_MV RL 171 M_X9_shift 5 := ⟨rn_gi (pre := [.methodLink RL 171 yX9_shift, .instanceMethod yX9_shift, .selects RX9 yX9_shift yX9_shift, .initialized RX9]) mc_X9_shift (List.forall_mem_cons.mpr ⟨rn_ws 1660 (by decide +kernel) rfl, List.forall_mem_cons.mpr ⟨mn_X9_shift, List.forall_mem_cons.mpr ⟨mx_X9_shift, List.forall_mem_cons.mpr ⟨mz_RX9, (fun _ h => absurd h List.not_mem_nil)⟩⟩⟩⟩), mo_X9_shift⟩
theorem fs_RJ0_9 : Cond.fieldLink RJ0 9 "java/lang/String" "value" "[B" ∈ rn_WS := rn_ws 1665 (by decide +kernel) rfl
theorem mn_J0_coder_7d493 : Cond.instanceMethod yJ0_coder_7d493 ∈ rn_WS := rn_ws 562 (by decide +kernel) rfl
theorem mx_J0_coder_7d493 : Cond.selects RJ0 yJ0_coder_7d493 yJ0_coder_7d493 ∈ rn_WS := rn_ws 563 (by decide +kernel) rfl
theorem mm_RJ0_335 : rn_MV RJ0 335 M_J0_coder_7d493 0 := ⟨rn_gi (pre := [.methodLink RJ0 335 yJ0_coder_7d493, .instanceMethod yJ0_coder_7d493, .selects RJ0 yJ0_coder_7d493 yJ0_coder_7d493, .initialized RJ0]) mc_J0_coder_7d493 (List.forall_mem_cons.mpr ⟨rn_ws 561 (by decide +kernel) rfl, List.forall_mem_cons.mpr ⟨mn_J0_coder_7d493, List.forall_mem_cons.mpr ⟨mx_J0_coder_7d493, List.forall_mem_cons.mpr ⟨mz_RJ0, (fun _ h => absurd h List.not_mem_nil)⟩⟩⟩⟩), mo_J0_coder_7d493⟩
theorem mn_J0_isLatin1_aae02 : Cond.instanceMethod yJ0_isLatin1_aae02 ∈ rn_WS := rn_ws 572 (by decide +kernel) rfl
theorem mx_J0_isLatin1_aae02 : Cond.selects RJ0 yJ0_isLatin1_aae02 yJ0_isLatin1_aae02 ∈ rn_WS := rn_ws 573 (by decide +kernel) rfl
theorem mm_RJ0_492 : rn_MV RJ0 492 M_J0_isLatin1_aae02 0 := ⟨rn_gi (pre := [.methodLink RJ0 492 yJ0_isLatin1_aae02, .instanceMethod yJ0_isLatin1_aae02, .selects RJ0 yJ0_isLatin1_aae02 yJ0_isLatin1_aae02, .initialized RJ0]) mc_J0_isLatin1_aae02 (List.forall_mem_cons.mpr ⟨rn_ws 571 (by decide +kernel) rfl, List.forall_mem_cons.mpr ⟨mn_J0_isLatin1_aae02, List.forall_mem_cons.mpr ⟨mx_J0_isLatin1_aae02, List.forall_mem_cons.mpr ⟨mz_RJ0, (fun _ h => absurd h List.not_mem_nil)⟩⟩⟩⟩), mo_J0_isLatin1_aae02⟩
theorem mt_J1_charAt_3b067 : Cond.static yJ1_charAt_3b067 ∈ rn_WS := rn_ws 576 (by decide +kernel) rfl
theorem mz_RJ1 : Cond.initialized RJ1 ∈ rn_WS := rn_ws 97 (by decide +kernel) rfl
theorem mm_RJ0_495 : rn_MS RJ0 495 M_J1_charAt_3b067 2 := ⟨rn_gi (pre := [.methodLink RJ0 495 yJ1_charAt_3b067, .static yJ1_charAt_3b067, .initialized RJ1]) mc_J1_charAt_3b067 (List.forall_mem_cons.mpr ⟨rn_ws 575 (by decide +kernel) rfl, List.forall_mem_cons.mpr ⟨mt_J1_charAt_3b067, List.forall_mem_cons.mpr ⟨mz_RJ1, (fun _ h => absurd h List.not_mem_nil)⟩⟩⟩), mo_J1_charAt_3b067⟩
theorem mn_J0_indexOf_7cf53 : Cond.instanceMethod yJ0_indexOf_7cf53 ∈ rn_WS := rn_ws 643 (by decide +kernel) rfl
theorem mx_J0_indexOf_7cf53 : Cond.selects RJ0 yJ0_indexOf_7cf53 yJ0_indexOf_7cf53 ∈ rn_WS := rn_ws 644 (by decide +kernel) rfl
theorem mm_RJ0_633 : rn_MV RJ0 633 M_J0_indexOf_7cf53 2 := ⟨rn_gi (pre := [.methodLink RJ0 633 yJ0_indexOf_7cf53, .instanceMethod yJ0_indexOf_7cf53, .selects RJ0 yJ0_indexOf_7cf53 yJ0_indexOf_7cf53, .initialized RJ0]) mc_J0_indexOf_7cf53 (List.forall_mem_cons.mpr ⟨rn_ws 642 (by decide +kernel) rfl, List.forall_mem_cons.mpr ⟨mn_J0_indexOf_7cf53, List.forall_mem_cons.mpr ⟨mx_J0_indexOf_7cf53, List.forall_mem_cons.mpr ⟨mz_RJ0, (fun _ h => absurd h List.not_mem_nil)⟩⟩⟩⟩), mo_J0_indexOf_7cf53⟩
theorem mm_RJ0_505 : rn_MV RJ0 505 M_J0_length_8abf5 0 := ⟨rn_gi (pre := [.methodLink RJ0 505 yJ0_length_8abf5, .instanceMethod yJ0_length_8abf5, .selects RJ0 yJ0_length_8abf5 yJ0_length_8abf5, .initialized RJ0]) mc_J0_length_8abf5 (List.forall_mem_cons.mpr ⟨rn_ws 646 (by decide +kernel) rfl, List.forall_mem_cons.mpr ⟨mn_J0_length_8abf5, List.forall_mem_cons.mpr ⟨mx_J0_length_8abf5, List.forall_mem_cons.mpr ⟨mz_RJ0, (fun _ h => absurd h List.not_mem_nil)⟩⟩⟩⟩), mo_J0_length_8abf5⟩
theorem mt_J1_indexOf_4cfef : Cond.static yJ1_indexOf_4cfef ∈ rn_WS := rn_ws 648 (by decide +kernel) rfl
theorem mm_RJ0_637 : rn_MS RJ0 637 M_J1_indexOf_4cfef 4 := ⟨rn_gi (pre := [.methodLink RJ0 637 yJ1_indexOf_4cfef, .static yJ1_indexOf_4cfef, .initialized RJ1]) mc_J1_indexOf_4cfef (List.forall_mem_cons.mpr ⟨rn_ws 647 (by decide +kernel) rfl, List.forall_mem_cons.mpr ⟨mt_J1_indexOf_4cfef, List.forall_mem_cons.mpr ⟨mz_RJ1, (fun _ h => absurd h List.not_mem_nil)⟩⟩⟩), mo_J1_indexOf_4cfef⟩
theorem gs_RJ0_38 : Cond.fieldLink RJ0 38 "java/lang/String" "COMPACT_STRINGS" "Z" ∈ rn_WS := rn_ws 565 (by decide +kernel) rfl
theorem fs_RJ0_15 : Cond.fieldLink RJ0 15 "java/lang/String" "coder" "B" ∈ rn_WS := rn_ws 1666 (by decide +kernel) rfl
theorem gs_RJ0_1053 : Cond.fieldLink RJ0 1053 "jdk/internal/util/Preconditions" "SIOOBE_FORMATTER" "Ljava/util/function/BiFunction;" ∈ rn_WS := rn_ws 581 (by decide +kernel) rfl
theorem mt_J3_checkIndex_8e157 : Cond.static yJ3_checkIndex_8e157 ∈ rn_WS := rn_ws 584 (by decide +kernel) rfl
theorem mz_RJ3 : Cond.initialized RJ3 ∈ rn_WS := rn_ws 98 (by decide +kernel) rfl
theorem mm_RJ0_1059 : rn_MS RJ0 1059 M_J3_checkIndex_8e157 3 := ⟨rn_gi (pre := [.methodLink RJ0 1059 yJ3_checkIndex_8e157, .static yJ3_checkIndex_8e157, .initialized RJ3]) mc_J3_checkIndex_8e157 (List.forall_mem_cons.mpr ⟨rn_ws 583 (by decide +kernel) rfl, List.forall_mem_cons.mpr ⟨mt_J3_checkIndex_8e157, List.forall_mem_cons.mpr ⟨mz_RJ3, (fun _ h => absurd h List.not_mem_nil)⟩⟩⟩), mo_J3_checkIndex_8e157⟩
theorem mt_J0_checkIndex_df160 : Cond.static yJ0_checkIndex_df160 ∈ rn_WS := rn_ws 579 (by decide +kernel) rfl
theorem mm_RJ1_9 : rn_MS RJ1 9 M_J0_checkIndex_df160 2 := ⟨rn_gi (pre := [.methodLink RJ1 9 yJ0_checkIndex_df160, .static yJ0_checkIndex_df160, .initialized RJ0]) mc_J0_checkIndex_df160 (List.forall_mem_cons.mpr ⟨rn_ws 578 (by decide +kernel) rfl, List.forall_mem_cons.mpr ⟨mt_J0_checkIndex_df160, List.forall_mem_cons.mpr ⟨mz_RJ0, (fun _ h => absurd h List.not_mem_nil)⟩⟩⟩), mo_J0_checkIndex_df160⟩
theorem mt_J1_canEncode_9a6ad : Cond.static yJ1_canEncode_9a6ad ∈ rn_WS := rn_ws 651 (by decide +kernel) rfl
theorem mm_RJ1_88 : rn_MS RJ1 88 M_J1_canEncode_9a6ad 1 := ⟨rn_gi (pre := [.methodLink RJ1 88 yJ1_canEncode_9a6ad, .static yJ1_canEncode_9a6ad, .initialized RJ1]) mc_J1_canEncode_9a6ad (List.forall_mem_cons.mpr ⟨rn_ws 650 (by decide +kernel) rfl, List.forall_mem_cons.mpr ⟨mt_J1_canEncode_9a6ad, List.forall_mem_cons.mpr ⟨mz_RJ1, (fun _ h => absurd h List.not_mem_nil)⟩⟩⟩), mo_J1_canEncode_9a6ad⟩
theorem mm_RJ1_92 : rn_MS RJ1 92 M_J9_max_7cf53 2 := ⟨rn_gi (pre := [.methodLink RJ1 92 yJ9_max_7cf53, .static yJ9_max_7cf53, .initialized RJ9]) mc_J9_max_7cf53 (List.forall_mem_cons.mpr ⟨rn_ws 653 (by decide +kernel) rfl, List.forall_mem_cons.mpr ⟨mt_J9_max_7cf53, List.forall_mem_cons.mpr ⟨mz_RJ9, (fun _ h => absurd h List.not_mem_nil)⟩⟩⟩), mo_J9_max_7cf53⟩
theorem mm_RJ1_38 : rn_MS RJ1 38 M_J9_min_7cf53 2 := ⟨rn_gi (pre := [.methodLink RJ1 38 yJ9_min_7cf53, .static yJ9_min_7cf53, .initialized RJ9]) mc_J9_min_7cf53 (List.forall_mem_cons.mpr ⟨rn_ws 654 (by decide +kernel) rfl, List.forall_mem_cons.mpr ⟨mt_J9_min_7cf53, List.forall_mem_cons.mpr ⟨mz_RJ9, (fun _ h => absurd h List.not_mem_nil)⟩⟩⟩), mo_J9_min_7cf53⟩
theorem mt_J1_indexOfChar_4cfef : Cond.static yJ1_indexOfChar_4cfef ∈ rn_WS := rn_ws 656 (by decide +kernel) rfl
theorem mm_RJ1_95 : rn_MS RJ1 95 M_J1_indexOfChar_4cfef 4 := ⟨rn_gi (pre := [.methodLink RJ1 95 yJ1_indexOfChar_4cfef, .static yJ1_indexOfChar_4cfef, .initialized RJ1]) mc_J1_indexOfChar_4cfef (List.forall_mem_cons.mpr ⟨rn_ws 655 (by decide +kernel) rfl, List.forall_mem_cons.mpr ⟨mt_J1_indexOfChar_4cfef, List.forall_mem_cons.mpr ⟨mz_RJ1, (fun _ h => absurd h List.not_mem_nil)⟩⟩⟩), mo_J1_indexOfChar_4cfef⟩
theorem kc_RJ6_265 : Cond.constant RJ6 265 (1431655765) ∈ rn_WS := rn_ws 448 (by decide +kernel) rfl
theorem kc_RJ6_266 : Cond.constant RJ6 266 (858993459) ∈ rn_WS := rn_ws 449 (by decide +kernel) rfl
theorem kc_RJ6_267 : Cond.constant RJ6 267 (252645135) ∈ rn_WS := rn_ws 450 (by decide +kernel) rfl
theorem kc_RJ6_264 : Cond.constant RJ6 264 (65536) ∈ rn_WS := rn_ws 841 (by decide +kernel) rfl

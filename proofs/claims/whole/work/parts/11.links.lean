theorem uxW_all {ws : List Cond} (h : ws.all (fun w => decide (w ∈ lw_tbl) && goodWord w) = true) : ∀ w ∈ ws, w ∈ uxW := by
  intro w hw
  have h1 := List.all_eq_true.mp h w hw
  simp only [Bool.and_eq_true, decide_eq_true_eq] at h1
  exact uxW_of h1.1 h1.2
abbrev mX0_init : pMD := (yX0_init, cX0_init, 1, none)
abbrev mX0_clear : pMD := (yX0_clear, cX0_clear, 1, none)
abbrev mX0_read : pMD := (yX0_read, cX0_read, 4, (some .boolean))
abbrev mX0_readLine : pMD := (yX0_readLine, cX0_readLine, 8, (some .boolean))
abbrev mX0_isSo : pMD := (yX0_isSo, cX0_isSo, 4, (some .boolean))
abbrev mX0_areSoOf : pMD := (yX0_areSoOf, cX0_areSoOf, 4, (some .boolean))
abbrev mX1_init : pMD := (yX1_init, cX1_init, 1, none)
abbrev mX1_clear : pMD := (yX1_clear, cX1_clear, 1, none)
abbrev mX1_add : pMD := (yX1_add, cX1_add, 4, (some .boolean))
abbrev mX1_takeBack : pMD := (yX1_takeBack, cX1_takeBack, 4, none)
abbrev mX1_keepImage : pMD := (yX1_keepImage, cX1_keepImage, 3, (some .boolean))
abbrev mX1_takeImage : pMD := (yX1_takeImage, cX1_takeImage, 1, (some (.object "PoolTowels$Image")))
abbrev mX2_init : pMD := (yX2_init, cX2_init, 3, none)
abbrev mX2_goByNumber : pMD := (yX2_goByNumber, cX2_goByNumber, 2, none)
abbrev mX2_goByLot : pMD := (yX2_goByLot, cX2_goByLot, 6, (some .int))
abbrev mX2_run : pMD := (yX2_run, cX2_run, 4, none)
abbrev mX2_clear : pMD := (yX2_clear, cX2_clear, 3, none)
abbrev mX2_clearGuest : pMD := (yX2_clearGuest, cX2_clearGuest, 4, none)
abbrev mX2_leave : pMD := (yX2_leave, cX2_leave, 3, none)
abbrev mX2_takeOff : pMD := (yX2_takeOff, cX2_takeOff, 4, none)
abbrev mX2_arrive : pMD := (yX2_arrive, cX2_arrive, 4, none)
abbrev mX2_seatWaiting : pMD := (yX2_seatWaiting, cX2_seatWaiting, 4, none)
abbrev mX2_unqueue : pMD := (yX2_unqueue, cX2_unqueue, 4, none)
abbrev mX2_endWaiting : pMD := (yX2_endWaiting, cX2_endWaiting, 4, none)
abbrev mX2_takeBest : pMD := (yX2_takeBest, cX2_takeBest, 7, none)
abbrev mX2_giveUp : pMD := (yX2_giveUp, cX2_giveUp, 8, none)
abbrev mX2_reckonNet : pMD := (yX2_reckonNet, cX2_reckonNet, 3, none)
abbrev mX2_sleepLostBy : pMD := (yX2_sleepLostBy, cX2_sleepLostBy, 3, (some .int))
abbrev mX2_sleepLost : pMD := (yX2_sleepLost, cX2_sleepLost, 3, (some .int))
abbrev mX2_total : pMD := (yX2_total, cX2_total, 4, (some .int))
abbrev mX2_idle : pMD := (yX2_idle, cX2_idle, 3, (some .int))
abbrev mX2_seated : pMD := (yX2_seated, cX2_seated, 3, (some .int))
abbrev mX2_firstCame : pMD := (yX2_firstCame, cX2_firstCame, 3, (some .int))
abbrev mX3_init : pMD := (yX3_init, cX3_init, 4, none)
abbrev mX3_forget : pMD := (yX3_forget, cX3_forget, 1, none)
abbrev mX3_reach : pMD := (yX3_reach, cX3_reach, 3, none)
abbrev mX3_packed : pMD := (yX3_packed, cX3_packed, 4, (some .long))
abbrev mX3_seekRound : pMD := (yX3_seekRound, cX3_seekRound, 3, none)
abbrev mX3_asksDay : pMD := (yX3_asksDay, cX3_asksDay, 2, (some .boolean))
abbrev mX3_halfOf : pMD := (yX3_halfOf, cX3_halfOf, 3, (some .int))
abbrev mX3_tell : pMD := (yX3_tell, cX3_tell, 4, none)
abbrev mX3_wasSeated : pMD := (yX3_wasSeated, cX3_wasSeated, 3, (some .boolean))
abbrev mX4_init : pMD := (yX4_init, cX4_init, 2, none)
abbrev mX4_forget : pMD := (yX4_forget, cX4_forget, 1, none)
abbrev mX4_learn : pMD := (yX4_learn, cX4_learn, 4, none)
abbrev mX4_bestFrom : pMD := (yX4_bestFrom, cX4_bestFrom, 8, (some .int))
abbrev mX4_deal : pMD := (yX4_deal, cX4_deal, 3, none)
abbrev mX4_firstGift : pMD := (yX4_firstGift, cX4_firstGift, 6, (some .int))
abbrev mX4_mostWith : pMD := (yX4_mostWith, cX4_mostWith, 7, (some .int))
abbrev mX4_takersAt : pMD := (yX4_takersAt, cX4_takersAt, 4, (some .int))
abbrev mX4_bestOf : pMD := (yX4_bestOf, cX4_bestOf, 4, (some .int))
abbrev mX5_init : pMD := (yX5_init, cX5_init, 2, none)
abbrev mX5_read : pMD := (yX5_read, cX5_read, 1, (some .boolean))
abbrev mX5_readSum : pMD := (yX5_readSum, cX5_readSum, 5, (some .boolean))
abbrev mX5_readProduct : pMD := (yX5_readProduct, cX5_readProduct, 5, (some .boolean))
abbrev mX5_readUnit : pMD := (yX5_readUnit, cX5_readUnit, 4, (some .boolean))
abbrev mX5_mayOpen : pMD := (yX5_mayOpen, cX5_mayOpen, 2, (some .boolean))
abbrev mX5_readPair : pMD := (yX5_readPair, cX5_readPair, 3, (some .boolean))
abbrev mX5_readChoice : pMD := (yX5_readChoice, cX5_readChoice, 3, (some .boolean))
abbrev mX5_put : pMD := (yX5_put, cX5_put, 2, none)
abbrev mX6_init : pMD := (yX6_init, cX6_init, 1, none)
abbrev mX6_clear : pMD := (yX6_clear, cX6_clear, 2, none)
abbrev mX6_keep : pMD := (yX6_keep, cX6_keep, 3, none)
abbrev mX6_setCommon : pMD := (yX6_setCommon, cX6_setCommon, 5, none)
abbrev mX6_setOwn : pMD := (yX6_setOwn, cX6_setOwn, 5, none)
abbrev mX6_setGuest : pMD := (yX6_setGuest, cX6_setGuest, 3, none)
abbrev mX6_nextMorning : pMD := (yX6_nextMorning, cX6_nextMorning, 9, none)
abbrev mX6_comes : pMD := (yX6_comes, cX6_comes, 4, (some .int))
abbrev mX6_take : pMD := (yX6_take, cX6_take, 4, none)
abbrev mX6_join : pMD := (yX6_join, cX6_join, 3, (some .int))
abbrev mX6_push : pMD := (yX6_push, cX6_push, 2, none)
abbrev mX6_pop : pMD := (yX6_pop, cX6_pop, 1, (some .int))
abbrev mX7_init : pMD := (yX7_init, cX7_init, 1, none)
abbrev mX7_keep : pMD := (yX7_keep, cX7_keep, 4, none)
abbrev mX7_giveBack : pMD := (yX7_giveBack, cX7_giveBack, 3, none)
abbrev mX8_init : pMD := (yX8_init, cX8_init, 1, none)
abbrev mX8_clear : pMD := (yX8_clear, cX8_clear, 1, none)
abbrev mX8_copy : pMD := (yX8_copy, cX8_copy, 2, none)
abbrev mX8_read : pMD := (yX8_read, cX8_read, 3, (some .boolean))
abbrev mX8_readClause : pMD := (yX8_readClause, cX8_readClause, 5, (some .boolean))
abbrev mX8_readNumbers : pMD := (yX8_readNumbers, cX8_readNumbers, 3, (some .boolean))
abbrev mX8_readChair : pMD := (yX8_readChair, cX8_readChair, 4, (some .boolean))
abbrev mX8_readGuest : pMD := (yX8_readGuest, cX8_readGuest, 6, (some .boolean))
abbrev mX8_tellWaking : pMD := (yX8_tellWaking, cX8_tellWaking, 2, none)
abbrev mX8_goesBy : pMD := (yX8_goesBy, cX8_goesBy, 2, (some .boolean))
abbrev mX8_value : pMD := (yX8_value, cX8_value, 5, (some .int))
abbrev mX8_stretch : pMD := (yX8_stretch, cX8_stretch, 5, (some .int))
abbrev mX9_init : pMD := (yX9_init, cX9_init, 3, none)
abbrev mX9_forget : pMD := (yX9_forget, cX9_forget, 1, none)
abbrev mX9_find : pMD := (yX9_find, cX9_find, 4, none)
abbrev mX9_weigh : pMD := (yX9_weigh, cX9_weigh, 7, none)
abbrev mX9_isStill : pMD := (yX9_isStill, cX9_isStill, 5, (some .boolean))
abbrev mX9_setHalves : pMD := (yX9_setHalves, cX9_setHalves, 5, none)
abbrev mX9_place : pMD := (yX9_place, cX9_place, 4, (some .int))
abbrev mX9_digits : pMD := (yX9_digits, cX9_digits, 3, (some .int))
abbrev mX10_init : pMD := (yX10_init, cX10_init, 2, none)
abbrev mX10_begin : pMD := (yX10_begin, cX10_begin, 2, none)
abbrev mX10_fail : pMD := (yX10_fail, cX10_fail, 3, (some .boolean))
abbrev mX10_peek : pMD := (yX10_peek, cX10_peek, 1, (some .int))
abbrev mX10_takeSign : pMD := (yX10_takeSign, cX10_takeSign, 2, (some .boolean))
abbrev mX10_takeWord : pMD := (yX10_takeWord, cX10_takeWord, 2, (some .boolean))
abbrev mX10_number : pMD := (yX10_number, cX10_number, 5, (some .int))
abbrev mX10_which : pMD := (yX10_which, cX10_which, 6, (some .int))
abbrev mX10_passWord : pMD := (yX10_passWord, cX10_passWord, 1, none)
abbrev mX10_wordEnd : pMD := (yX10_wordEnd, cX10_wordEnd, 2, (some .int))
abbrev mX10_isAlike : pMD := (yX10_isAlike, cX10_isAlike, 5, (some .boolean))
abbrev mX10_isDigit : pMD := (yX10_isDigit, cX10_isDigit, 1, (some .boolean))
abbrev mX11_init : pMD := (yX11_init, cX11_init, 1, none)
abbrev mX11_feed : pMD := (yX11_feed, cX11_feed, 6, (some .int))
abbrev mX11_pool : pMD := (yX11_pool, cX11_pool, 2, (some .int))
abbrev mX11_habit : pMD := (yX11_habit, cX11_habit, 3, (some .int))
abbrev mX11_book : pMD := (yX11_book, cX11_book, 2, (some .int))
abbrev mX11_fault : pMD := (yX11_fault, cX11_fault, 1, (some .int))
abbrev mX11_told : pMD := (yX11_told, cX11_told, 2, (some .int))
abbrev mX11_chair : pMD := (yX11_chair, cX11_chair, 3, (some .int))
abbrev mX11_guest : pMD := (yX11_guest, cX11_guest, 3, (some .int))
abbrev mX11_day : pMD := (yX11_day, cX11_day, 3, (some .int))
abbrev mX11_did : pMD := (yX11_did, cX11_did, 3, (some .int))
abbrev mX11_towel : pMD := (yX11_towel, cX11_towel, 3, (some .int))
abbrev mX11_lies : pMD := (yX11_lies, cX11_lies, 4, (some .int))
abbrev mX11_waits : pMD := (yX11_waits, cX11_waits, 2, (some .int))
abbrev mX11_sums : pMD := (yX11_sums, cX11_sums, 2, (some .int))
abbrev mX11_worth : pMD := (yX11_worth, cX11_worth, 4, (some .int))
abbrev mX11_would : pMD := (yX11_would, cX11_would, 8, (some .int))
abbrev mX11_round : pMD := (yX11_round, cX11_round, 2, (some .int))
abbrev mX11_out : pMD := (yX11_out, cX11_out, 3, (some .int))
abbrev mX11_had : pMD := (yX11_had, cX11_had, 5, (some .int))
abbrev mX11_still : pMD := (yX11_still, cX11_still, 3, (some .int))
abbrev mX11_net : pMD := (yX11_net, cX11_net, 5, (some .int))
abbrev mX11_given : pMD := (yX11_given, cX11_given, 1, (some .int))
abbrev mX11_gets : pMD := (yX11_gets, cX11_gets, 2, (some .int))
abbrev mX11_waste : pMD := (yX11_waste, cX11_waste, 1, (some .int))
abbrev mX11_more : pMD := (yX11_more, cX11_more, 3, (some .int))
abbrev mX11_want : pMD := (yX11_want, cX11_want, 2, (some .int))
abbrev mX11_just : pMD := (yX11_just, cX11_just, 4, (some .int))
abbrev mX11_off : pMD := (yX11_off, cX11_off, 6, (some .int))
abbrev mX11_turnsOf : pMD := (yX11_turnsOf, cX11_turnsOf, 7, (some .int))
abbrev mX11_lot : pMD := (yX11_lot, cX11_lot, 3, (some .int))
abbrev mX11_lucky : pMD := (yX11_lucky, cX11_lucky, 6, (some .int))
abbrev mX11_summer : pMD := (yX11_summer, cX11_summer, 8, (some .int))
abbrev mX11_fits : pMD := (yX11_fits, cX11_fits, 4, (some .int))
abbrev mX11_right : pMD := (yX11_right, cX11_right, 2, (some .int))
abbrev mX11_early : pMD := (yX11_early, cX11_early, 4, (some .int))
abbrev mX11_hotel : pMD := (yX11_hotel, cX11_hotel, 3, (some .int))
abbrev mX11_hire : pMD := (yX11_hire, cX11_hire, 2, (some .int))
abbrev mX11_wakes : pMD := (yX11_wakes, cX11_wakes, 3, (some .int))
abbrev mX11_undo : pMD := (yX11_undo, cX11_undo, 1, (some .int))
abbrev mX11_image : pMD := (yX11_image, cX11_image, 1, (some .int))
abbrev mX11_restore : pMD := (yX11_restore, cX11_restore, 2, (some .int))
abbrev mX11_status : pMD := (yX11_status, cX11_status, 2, (some .int))
abbrev mX11_count : pMD := (yX11_count, cX11_count, 2, (some .int))
abbrev mX11_putBytes : pMD := (yX11_putBytes, cX11_putBytes, 3, none)
abbrev mX11_startText : pMD := (yX11_startText, cX11_startText, 2, none)
abbrev mX11_forgetDays : pMD := (yX11_forgetDays, cX11_forgetDays, 1, none)
abbrev mX11_look : pMD := (yX11_look, cX11_look, 1, none)
abbrev mX11_clearTally : pMD := (yX11_clearTally, cX11_clearTally, 2, none)
abbrev mX11_tallySeated : pMD := (yX11_tallySeated, cX11_tallySeated, 3, none)
abbrev mX11_firstOfMost : pMD := (yX11_firstOfMost, cX11_firstOfMost, 3, (some .int))
abbrev mX11_needGuest : pMD := (yX11_needGuest, cX11_needGuest, 2, none)
abbrev mX11_needChair : pMD := (yX11_needChair, cX11_needChair, 2, none)
abbrev mX11_needWithin : pMD := (yX11_needWithin, cX11_needWithin, 4, none)
abbrev mX11_needArgument : pMD := (yX11_needArgument, cX11_needArgument, 2, none)
abbrev mX11_needFewGuests : pMD := (yX11_needFewGuests, cX11_needFewGuests, 1, none)
abbrev mX12_init : pMD := (yX12_init, cX12_init, 1, none)
abbrev mX12_tellsNothing : pMD := (yX12_tellsNothing, cX12_tellsNothing, 2, none)
abbrev mX12_thrown : pMD := (yX12_thrown, cX12_thrown, 1, (some .int))
abbrev mX12_bad : pMD := (yX12_bad, cX12_bad, 4, (some .boolean))
abbrev mX12_in : pMD := (yX12_in, cX12_in, 3, (some .boolean))
abbrev mX12_less : pMD := (yX12_less, cX12_less, 2, (some .int))
abbrev mX12_greater : pMD := (yX12_greater, cX12_greater, 2, (some .int))
abbrev mX12_feed : pMD := (yX12_feed, cX12_feed, 8, (some .int))
abbrev mX12_byteAt : pMD := (yX12_byteAt, cX12_byteAt, 2, (some .int))
abbrev mX12_blanks : pMD := (yX12_blanks, cX12_blanks, 1, none)
abbrev mX12_wrong : pMD := (yX12_wrong, cX12_wrong, 3, none)
abbrev mX12_isDigit : pMD := (yX12_isDigit, cX12_isDigit, 1, (some .boolean))
abbrev mX12_isSmall : pMD := (yX12_isSmall, cX12_isSmall, 1, (some .boolean))
abbrev mX12_number : pMD := (yX12_number, cX12_number, 5, (some .int))
abbrev mX12_wordHere : pMD := (yX12_wordHere, cX12_wordHere, 3, (some .int))
abbrev mX12_six : pMD := (yX12_six, cX12_six, 7, (some .int))
abbrev mX12_isWord : pMD := (yX12_isWord, cX12_isWord, 7, (some .boolean))
abbrev mX12_skipWord : pMD := (yX12_skipWord, cX12_skipWord, 1, none)
abbrev mX12_takes : pMD := (yX12_takes, cX12_takes, 8, (some .boolean))
abbrev mX12_sign : pMD := (yX12_sign, cX12_sign, 2, none)
abbrev mX12_takesSign : pMD := (yX12_takesSign, cX12_takesSign, 3, (some .boolean))
abbrev mX12_starts : pMD := (yX12_starts, cX12_starts, 2, none)
abbrev mX12_ends : pMD := (yX12_ends, cX12_ends, 1, (some .int))
abbrev mX12_clause : pMD := (yX12_clause, cX12_clause, 3, none)
abbrev mX12_pool : pMD := (yX12_pool, cX12_pool, 2, (some .int))
abbrev mX12_stands : pMD := (yX12_stands, cX12_stands, 3, none)
abbrev mX12_notes : pMD := (yX12_notes, cX12_notes, 3, none)
abbrev mX12_opens : pMD := (yX12_opens, cX12_opens, 1, (some .boolean))
abbrev mX12_sum : pMD := (yX12_sum, cX12_sum, 2, none)
abbrev mX12_product : pMD := (yX12_product, cX12_product, 2, none)
abbrev mX12_knownHere : pMD := (yX12_knownHere, cX12_knownHere, 1, (some .int))
abbrev mX12_one : pMD := (yX12_one, cX12_one, 3, none)
abbrev mX12_isGuest : pMD := (yX12_isGuest, cX12_isGuest, 2, (some .boolean))
abbrev mX12_isChair : pMD := (yX12_isChair, cX12_isChair, 2, (some .boolean))
abbrev mX12_habit : pMD := (yX12_habit, cX12_habit, 4, (some .int))
abbrev mX12_by : pMD := (yX12_by, cX12_by, 3, (some .int))
abbrev mX12_comesBy : pMD := (yX12_comesBy, cX12_comesBy, 6, (some .int))
abbrev mX12_knowsSelf : pMD := (yX12_knowsSelf, cX12_knowsSelf, 2, none)
abbrev mX12_would : pMD := (yX12_would, cX12_would, 8, (some .int))
abbrev mX12_book : pMD := (yX12_book, cX12_book, 7, (some .int))
abbrev mX12_fault : pMD := (yX12_fault, cX12_fault, 1, (some .int))
abbrev mX12_told : pMD := (yX12_told, cX12_told, 2, (some .int))
abbrev mX12_isHalf : pMD := (yX12_isHalf, cX12_isHalf, 1, (some .boolean))
abbrev mX12_guest : pMD := (yX12_guest, cX12_guest, 3, (some .int))
abbrev mX12_worthOf : pMD := (yX12_worthOf, cX12_worthOf, 6, (some .int))
abbrev mX12_worth : pMD := (yX12_worth, cX12_worth, 4, (some .int))
abbrev mX12_ranksByNumber : pMD := (yX12_ranksByNumber, cX12_ranksByNumber, 2, none)
abbrev mX12_frees : pMD := (yX12_frees, cX12_frees, 2, none)
abbrev mX12_sits : pMD := (yX12_sits, cX12_sits, 5, (some .boolean))
abbrev mX12_hotelGoes : pMD := (yX12_hotelGoes, cX12_hotelGoes, 4, none)
abbrev mX12_nextWaiting : pMD := (yX12_nextWaiting, cX12_nextWaiting, 5, (some .int))
abbrev mX12_guestOfRank : pMD := (yX12_guestOfRank, cX12_guestOfRank, 3, (some .int))
abbrev mX12_half : pMD := (yX12_half, cX12_half, 5, none)
abbrev mX12_runs : pMD := (yX12_runs, cX12_runs, 2, none)
abbrev mX12_lostOf : pMD := (yX12_lostOf, cX12_lostOf, 2, (some .int))
abbrev mX12_netOf : pMD := (yX12_netOf, cX12_netOf, 2, (some .int))
abbrev mX12_allGot : pMD := (yX12_allGot, cX12_allGot, 3, (some .int))
abbrev mX12_allIdle : pMD := (yX12_allIdle, cX12_allIdle, 3, (some .int))
abbrev mX12_allLost : pMD := (yX12_allLost, cX12_allLost, 3, (some .int))
abbrev mX12_begins : pMD := (yX12_begins, cX12_begins, 2, none)
abbrev mX12_asks : pMD := (yX12_asks, cX12_asks, 5, none)
abbrev mX12_goesTo : pMD := (yX12_goesTo, cX12_goesTo, 3, none)
abbrev mX12_dayNow : pMD := (yX12_dayNow, cX12_dayNow, 1, none)
abbrev mX12_day : pMD := (yX12_day, cX12_day, 3, (some .int))
abbrev mX12_chair : pMD := (yX12_chair, cX12_chair, 3, (some .int))
abbrev mX12_did : pMD := (yX12_did, cX12_did, 3, (some .int))
abbrev mX12_towel : pMD := (yX12_towel, cX12_towel, 3, (some .int))
abbrev mX12_lies : pMD := (yX12_lies, cX12_lies, 3, (some .int))
abbrev mX12_waits : pMD := (yX12_waits, cX12_waits, 2, (some .int))
abbrev mX12_sums : pMD := (yX12_sums, cX12_sums, 4, (some .int))
abbrev mX12_isAs : pMD := (yX12_isAs, cX12_isAs, 4, (some .boolean))
abbrev mX12_round : pMD := (yX12_round, cX12_round, 4, (some .int))
abbrev mX12_out : pMD := (yX12_out, cX12_out, 3, (some .int))
abbrev mX12_had : pMD := (yX12_had, cX12_had, 5, (some .int))
abbrev mX12_power : pMD := (yX12_power, cX12_power, 4, (some .int))
abbrev mX12_comeBy : pMD := (yX12_comeBy, cX12_comeBy, 5, none)
abbrev mX12_still : pMD := (yX12_still, cX12_still, 13, (some .int))
abbrev mX12_net : pMD := (yX12_net, cX12_net, 3, (some .int))
abbrev mX12_laysGiven : pMD := (yX12_laysGiven, cX12_laysGiven, 6, (some .int))
abbrev mX12_given : pMD := (yX12_given, cX12_given, 1, (some .int))
abbrev mX12_gets : pMD := (yX12_gets, cX12_gets, 5, (some .int))
abbrev mX12_waste : pMD := (yX12_waste, cX12_waste, 1, (some .int))
abbrev mX12_more : pMD := (yX12_more, cX12_more, 4, (some .int))
abbrev mX12_wantAt : pMD := (yX12_wantAt, cX12_wantAt, 6, (some .int))
abbrev mX12_want : pMD := (yX12_want, cX12_want, 2, (some .int))
abbrev mX12_just : pMD := (yX12_just, cX12_just, 4, (some .int))
abbrev mX12_off : pMD := (yX12_off, cX12_off, 5, (some .int))
abbrev mX12_turnsOf : pMD := (yX12_turnsOf, cX12_turnsOf, 5, (some .int))
abbrev mX12_draw : pMD := (yX12_draw, cX12_draw, 2, (some .int))
abbrev mX12_drawsOrder : pMD := (yX12_drawsOrder, cX12_drawsOrder, 4, none)
abbrev mX12_lotNow : pMD := (yX12_lotNow, cX12_lotNow, 2, none)
abbrev mX12_lot : pMD := (yX12_lot, cX12_lot, 5, (some .int))
abbrev mX12_lucky : pMD := (yX12_lucky, cX12_lucky, 6, (some .int))
abbrev mX12_summer : pMD := (yX12_summer, cX12_summer, 9, (some .int))
abbrev mX12_rightBy : pMD := (yX12_rightBy, cX12_rightBy, 6, (some .int))
abbrev mX12_fits : pMD := (yX12_fits, cX12_fits, 4, (some .int))
abbrev mX12_right : pMD := (yX12_right, cX12_right, 1, (some .int))
abbrev mX12_early : pMD := (yX12_early, cX12_early, 4, (some .int))
abbrev mX12_puts : pMD := (yX12_puts, cX12_puts, 4, (some .int))
abbrev mX12_putsChanged : pMD := (yX12_putsChanged, cX12_putsChanged, 4, none)
abbrev mX12_changes : pMD := (yX12_changes, cX12_changes, 1, (some .boolean))
abbrev mX12_hotel : pMD := (yX12_hotel, cX12_hotel, 3, (some .int))
abbrev mX12_hire : pMD := (yX12_hire, cX12_hire, 2, (some .int))
abbrev mX12_wakes : pMD := (yX12_wakes, cX12_wakes, 3, (some .int))
abbrev mX12_undo : pMD := (yX12_undo, cX12_undo, 1, (some .int))
abbrev mX12_putsAll : pMD := (yX12_putsAll, cX12_putsAll, 5, none)
abbrev mX12_image : pMD := (yX12_image, cX12_image, 1, (some .int))
abbrev mX12_restore : pMD := (yX12_restore, cX12_restore, 1, (some .int))
abbrev mX12_status : pMD := (yX12_status, cX12_status, 2, (some .int))
abbrev mX12_count : pMD := (yX12_count, cX12_count, 2, (some .int))
abbrev mJ6_bitCount_0f7a4 : pMD := (yJ6_bitCount_0f7a4, cJ6_bitCount_0f7a4, 1, (some .int))
abbrev mJ9_max_7cf53 : pMD := (yJ9_max_7cf53, cJ9_max_7cf53, 2, (some .int))
abbrev mJ9_min_7cf53 : pMD := (yJ9_min_7cf53, cJ9_min_7cf53, 2, (some .int))
abbrev mJ0_length_8abf5 : pMD := (yJ0_length_8abf5, cJ0_length_8abf5, 1, (some .int))
abbrev mJ0_charAt_5068e : pMD := (yJ0_charAt_5068e, cJ0_charAt_5068e, 2, (some .char))
abbrev mJ0_coder_7d493 : pMD := (yJ0_coder_7d493, cJ0_coder_7d493, 1, (some .byte))
abbrev mJ0_isLatin1_aae02 : pMD := (yJ0_isLatin1_aae02, cJ0_isLatin1_aae02, 1, (some .boolean))
abbrev mJ0_checkIndex_df160 : pMD := (yJ0_checkIndex_df160, cJ0_checkIndex_df160, 2, none)
abbrev mJ1_charAt_3b067 : pMD := (yJ1_charAt_3b067, cJ1_charAt_3b067, 2, (some .char))
abbrev mJ2_getChar_3b067 : pMD := (yJ2_getChar_3b067, cJ2_getChar_3b067, 2, (some .char))
abbrev mJ2_length_9d52b : pMD := (yJ2_length_9d52b, cJ2_length_9d52b, 1, (some .int))
abbrev mJ2_charAt_3b067 : pMD := (yJ2_charAt_3b067, cJ2_charAt_3b067, 2, (some .char))
abbrev mJ2_checkIndex_2214a : pMD := (yJ2_checkIndex_2214a, cJ2_checkIndex_2214a, 2, none)
abbrev mJ3_checkIndex_8e157 : pMD := (yJ3_checkIndex_8e157, cJ3_checkIndex_8e157, 3, (some .int))
abbrev mL_pool : pMD := (yL_pool, cL_pool, 4, (some .int))
abbrev mL_habit : pMD := (yL_habit, cL_habit, 5, (some .int))
abbrev mL_book : pMD := (yL_book, cL_book, 4, (some .int))
abbrev mL_told : pMD := (yL_told, cL_told, 4, (some .int))
abbrev mL_chair : pMD := (yL_chair, cL_chair, 5, (some .int))
abbrev mL_guest : pMD := (yL_guest, cL_guest, 5, (some .int))
abbrev mL_day : pMD := (yL_day, cL_day, 4, (some .int))
abbrev mL_did : pMD := (yL_did, cL_did, 5, (some .int))
abbrev mL_towel : pMD := (yL_towel, cL_towel, 5, (some .int))
abbrev mL_lies : pMD := (yL_lies, cL_lies, 5, (some .int))
abbrev mL_waits : pMD := (yL_waits, cL_waits, 4, (some .int))
abbrev mL_sums : pMD := (yL_sums, cL_sums, 4, (some .int))
abbrev mL_worth : pMD := (yL_worth, cL_worth, 6, (some .int))
abbrev mL_would : pMD := (yL_would, cL_would, 10, (some .int))
abbrev mL_round : pMD := (yL_round, cL_round, 4, (some .int))
abbrev mL_out : pMD := (yL_out, cL_out, 4, (some .int))
abbrev mL_had : pMD := (yL_had, cL_had, 5, (some .int))
abbrev mL_still : pMD := (yL_still, cL_still, 5, (some .int))
abbrev mL_net : pMD := (yL_net, cL_net, 5, (some .int))
abbrev mL_gets : pMD := (yL_gets, cL_gets, 4, (some .int))
abbrev mL_more : pMD := (yL_more, cL_more, 5, (some .int))
abbrev mL_want : pMD := (yL_want, cL_want, 4, (some .int))
abbrev mL_just : pMD := (yL_just, cL_just, 4, (some .int))
abbrev mL_off : pMD := (yL_off, cL_off, 4, (some .int))
abbrev mL_turnsOf : pMD := (yL_turnsOf, cL_turnsOf, 4, (some .int))
abbrev mL_lot : pMD := (yL_lot, cL_lot, 5, (some .int))
abbrev mL_lucky : pMD := (yL_lucky, cL_lucky, 6, (some .int))
abbrev mL_summer : pMD := (yL_summer, cL_summer, 6, (some .int))
abbrev mL_fits : pMD := (yL_fits, cL_fits, 4, (some .int))
abbrev mL_early : pMD := (yL_early, cL_early, 4, (some .int))
abbrev mL_hotel : pMD := (yL_hotel, cL_hotel, 5, (some .int))
abbrev mL_hire : pMD := (yL_hire, cL_hire, 4, (some .int))
abbrev mL_wakes : pMD := (yL_wakes, cL_wakes, 5, (some .int))
abbrev mL_law : pMD := (yL_law, cL_law, 7, (some .boolean))
theorem fkX0_11 : FLK RX0 11 0 0 := ⟨by decide, by decide, uxW_all (ws := [_]) (by decide +kernel) _ List.mem_cons_self⟩
theorem fkX0_15 : FLK RX0 15 0 1 := ⟨by decide, by decide, uxW_all (ws := [_]) (by decide +kernel) _ List.mem_cons_self⟩
theorem fkX0_18 : FLK RX0 18 0 2 := ⟨by decide, by decide, uxW_all (ws := [_]) (by decide +kernel) _ List.mem_cons_self⟩
theorem mkX0_22 : MLV RX0 22 mX10_peek 10 0 := ⟨by decide, rfl, uxW_all (by decide +kernel), ⟨by decide +kernel, by decide +kernel, by decide +kernel⟩, by decide⟩
theorem mkX0_28 : ACW RX0 28 := by refine ⟨?_, ?_, ?_, ?_⟩ <;> exact uxW_all (ws := [_]) (by decide +kernel) _ List.mem_cons_self
theorem mkX0_34 : MLV RX0 34 mX0_readLine 0 3 := ⟨by decide, rfl, uxW_all (by decide +kernel), ⟨by decide +kernel, by decide +kernel, by decide +kernel⟩, by decide⟩
theorem fkX0_38 : FLK RX0 38 10 2 := ⟨by decide, by decide, uxW_all (ws := [_]) (by decide +kernel) _ List.mem_cons_self⟩
theorem mkX0_41 : MLV RX0 41 mX10_number 10 2 := ⟨by decide, rfl, uxW_all (by decide +kernel), ⟨by decide +kernel, by decide +kernel, by decide +kernel⟩, by decide⟩
theorem mkX0_45 : MLV RX0 45 mX10_fail 10 2 := ⟨by decide, rfl, uxW_all (by decide +kernel), ⟨by decide +kernel, by decide +kernel, by decide +kernel⟩, by decide⟩
theorem mkX0_49 : MLV RX0 49 mX10_takeSign 10 1 := ⟨by decide, rfl, uxW_all (by decide +kernel), ⟨by decide +kernel, by decide +kernel, by decide +kernel⟩, by decide⟩
theorem mkX0_53 : MLV RX0 53 mX3_reach 3 1 := ⟨by decide, rfl, uxW_all (by decide +kernel), ⟨by decide +kernel, by decide +kernel, by decide +kernel⟩, by decide⟩
theorem mkX0_59 : MLV RX0 59 mX3_halfOf 3 2 := ⟨by decide, rfl, uxW_all (by decide +kernel), ⟨by decide +kernel, by decide +kernel, by decide +kernel⟩, by decide⟩
theorem mkX0_62 : MLV RX0 62 mX0_isSo 0 2 := ⟨by decide, rfl, uxW_all (by decide +kernel), ⟨by decide +kernel, by decide +kernel, by decide +kernel⟩, by decide⟩
theorem fkX1_11 : FLK RX1 11 1 0 := ⟨by decide, by decide, uxW_all (ws := [_]) (by decide +kernel) _ List.mem_cons_self⟩
theorem fkX1_17 : FLK RX1 17 1 1 := ⟨by decide, by decide, uxW_all (ws := [_]) (by decide +kernel) _ List.mem_cons_self⟩
theorem fkX1_21 : FLK RX1 21 1 2 := ⟨by decide, by decide, uxW_all (ws := [_]) (by decide +kernel) _ List.mem_cons_self⟩
theorem fkX1_25 : FLK RX1 25 1 3 := ⟨by decide, by decide, uxW_all (ws := [_]) (by decide +kernel) _ List.mem_cons_self⟩
theorem fkX1_28 : FLK RX1 28 8 6 := ⟨by decide, by decide, uxW_all (ws := [_]) (by decide +kernel) _ List.mem_cons_self⟩
theorem fkX1_33 : FLK RX1 33 8 7 := ⟨by decide, by decide, uxW_all (ws := [_]) (by decide +kernel) _ List.mem_cons_self⟩
theorem fkX1_36 : FLK RX1 36 8 8 := ⟨by decide, by decide, uxW_all (ws := [_]) (by decide +kernel) _ List.mem_cons_self⟩
theorem fkX1_39 : FLK RX1 39 8 2 := ⟨by decide, by decide, uxW_all (ws := [_]) (by decide +kernel) _ List.mem_cons_self⟩
theorem mkX1_43 : MLV RX1 43 mX7_keep 7 3 := ⟨by decide, rfl, uxW_all (by decide +kernel), ⟨by decide +kernel, by decide +kernel, by decide +kernel⟩, by decide⟩
theorem fkX2_9 : FLK RX2 9 2 1 := ⟨by decide, by decide, uxW_all (ws := [_]) (by decide +kernel) _ List.mem_cons_self⟩
theorem fkX2_15 : FLK RX2 15 2 2 := ⟨by decide, by decide, uxW_all (ws := [_]) (by decide +kernel) _ List.mem_cons_self⟩
theorem fkX2_18 : FLK RX2 18 2 5 := ⟨by decide, by decide, uxW_all (ws := [_]) (by decide +kernel) _ List.mem_cons_self⟩
theorem fkX2_21 : FLK RX2 21 2 6 := ⟨by decide, by decide, uxW_all (ws := [_]) (by decide +kernel) _ List.mem_cons_self⟩
theorem fkX2_24 : FLK RX2 24 2 7 := ⟨by decide, by decide, uxW_all (ws := [_]) (by decide +kernel) _ List.mem_cons_self⟩
theorem fkX2_27 : FLK RX2 27 2 8 := ⟨by decide, by decide, uxW_all (ws := [_]) (by decide +kernel) _ List.mem_cons_self⟩
theorem fkX2_30 : FLK RX2 30 2 9 := ⟨by decide, by decide, uxW_all (ws := [_]) (by decide +kernel) _ List.mem_cons_self⟩
theorem fkX2_33 : FLK RX2 33 2 0 := ⟨by decide, by decide, uxW_all (ws := [_]) (by decide +kernel) _ List.mem_cons_self⟩
theorem fkX2_37 : FLK RX2 37 2 10 := ⟨by decide, by decide, uxW_all (ws := [_]) (by decide +kernel) _ List.mem_cons_self⟩
theorem fkX2_41 : FLK RX2 41 2 3 := ⟨by decide, by decide, uxW_all (ws := [_]) (by decide +kernel) _ List.mem_cons_self⟩
theorem fkX2_44 : FLK RX2 44 2 4 := ⟨by decide, by decide, uxW_all (ws := [_]) (by decide +kernel) _ List.mem_cons_self⟩
theorem mkX2_47 : MLV RX2 47 mX2_goByNumber 2 0 := ⟨by decide, rfl, uxW_all (by decide +kernel), ⟨by decide +kernel, by decide +kernel, by decide +kernel⟩, by decide⟩
theorem fkX2_50 : FLK RX2 50 8 10 := ⟨by decide, by decide, uxW_all (ws := [_]) (by decide +kernel) _ List.mem_cons_self⟩
theorem mkX2_57 : MLV RX2 57 mX2_clear 2 1 := ⟨by decide, rfl, uxW_all (by decide +kernel), ⟨by decide +kernel, by decide +kernel, by decide +kernel⟩, by decide⟩
theorem fkX2_61 : FLK RX2 61 2 13 := ⟨by decide, by decide, uxW_all (ws := [_]) (by decide +kernel) _ List.mem_cons_self⟩
theorem mkX2_64 : MLV RX2 64 mX2_leave 2 1 := ⟨by decide, rfl, uxW_all (by decide +kernel), ⟨by decide +kernel, by decide +kernel, by decide +kernel⟩, by decide⟩
theorem mkX2_68 : MLV RX2 68 mX8_goesBy 8 1 := ⟨by decide, rfl, uxW_all (by decide +kernel), ⟨by decide +kernel, by decide +kernel, by decide +kernel⟩, by decide⟩
theorem mkX2_72 : MLV RX2 72 mX2_takeOff 2 2 := ⟨by decide, rfl, uxW_all (by decide +kernel), ⟨by decide +kernel, by decide +kernel, by decide +kernel⟩, by decide⟩
theorem mkX2_76 : MLV RX2 76 mX2_arrive 2 1 := ⟨by decide, rfl, uxW_all (by decide +kernel), ⟨by decide +kernel, by decide +kernel, by decide +kernel⟩, by decide⟩
theorem mkX2_79 : MLV RX2 79 mX2_seatWaiting 2 1 := ⟨by decide, rfl, uxW_all (by decide +kernel), ⟨by decide +kernel, by decide +kernel, by decide +kernel⟩, by decide⟩
theorem mkX2_82 : MLV RX2 82 mX2_reckonNet 2 0 := ⟨by decide, rfl, uxW_all (by decide +kernel), ⟨by decide +kernel, by decide +kernel, by decide +kernel⟩, by decide⟩
theorem fkX2_85 : FLK RX2 85 2 11 := ⟨by decide, by decide, uxW_all (ws := [_]) (by decide +kernel) _ List.mem_cons_self⟩
theorem fkX2_88 : FLK RX2 88 8 9 := ⟨by decide, by decide, uxW_all (ws := [_]) (by decide +kernel) _ List.mem_cons_self⟩
theorem fkX2_91 : FLK RX2 91 2 12 := ⟨by decide, by decide, uxW_all (ws := [_]) (by decide +kernel) _ List.mem_cons_self⟩
theorem fkX2_94 : FLK RX2 94 2 14 := ⟨by decide, by decide, uxW_all (ws := [_]) (by decide +kernel) _ List.mem_cons_self⟩
theorem fkX2_97 : FLK RX2 97 8 6 := ⟨by decide, by decide, uxW_all (ws := [_]) (by decide +kernel) _ List.mem_cons_self⟩
theorem mkX2_100 : MLV RX2 100 mX2_clearGuest 2 2 := ⟨by decide, rfl, uxW_all (by decide +kernel), ⟨by decide +kernel, by decide +kernel, by decide +kernel⟩, by decide⟩
theorem fkX2_103 : FLK RX2 103 8 4 := ⟨by decide, by decide, uxW_all (ws := [_]) (by decide +kernel) _ List.mem_cons_self⟩
theorem mkX2_106 : MLV RX2 106 mX2_giveUp 2 2 := ⟨by decide, rfl, uxW_all (by decide +kernel), ⟨by decide +kernel, by decide +kernel, by decide +kernel⟩, by decide⟩
theorem mkX2_109 : MLV RX2 109 mX2_unqueue 2 1 := ⟨by decide, rfl, uxW_all (by decide +kernel), ⟨by decide +kernel, by decide +kernel, by decide +kernel⟩, by decide⟩
theorem mkX2_112 : MLV RX2 112 mX2_endWaiting 2 2 := ⟨by decide, rfl, uxW_all (by decide +kernel), ⟨by decide +kernel, by decide +kernel, by decide +kernel⟩, by decide⟩
theorem fkX2_115 : FLK RX2 115 8 3 := ⟨by decide, by decide, uxW_all (ws := [_]) (by decide +kernel) _ List.mem_cons_self⟩
theorem mkX2_118 : MLV RX2 118 mX2_takeBest 2 2 := ⟨by decide, rfl, uxW_all (by decide +kernel), ⟨by decide +kernel, by decide +kernel, by decide +kernel⟩, by decide⟩
theorem mkX2_121 : MLV RX2 121 mX8_value 8 3 := ⟨by decide, rfl, uxW_all (by decide +kernel), ⟨by decide +kernel, by decide +kernel, by decide +kernel⟩, by decide⟩
theorem fkX2_125 : FLK RX2 125 8 0 := ⟨by decide, by decide, uxW_all (ws := [_]) (by decide +kernel) _ List.mem_cons_self⟩
theorem fkX2_128 : FLK RX2 128 8 1 := ⟨by decide, by decide, uxW_all (ws := [_]) (by decide +kernel) _ List.mem_cons_self⟩
theorem mkX2_131 : MLS RX2 131 mX8_stretch 4 := ⟨uxW_all (by decide +kernel), ⟨by decide +kernel, by decide +kernel, by decide +kernel⟩, by decide⟩
theorem fkX2_135 : FLK RX2 135 8 5 := ⟨by decide, by decide, uxW_all (ws := [_]) (by decide +kernel) _ List.mem_cons_self⟩
theorem mkX2_138 : MLV RX2 138 mX2_sleepLostBy 2 1 := ⟨by decide, rfl, uxW_all (by decide +kernel), ⟨by decide +kernel, by decide +kernel, by decide +kernel⟩, by decide⟩
theorem fkX2_142 : FLK RX2 142 8 8 := ⟨by decide, by decide, uxW_all (ws := [_]) (by decide +kernel) _ List.mem_cons_self⟩
theorem fkX2_145 : FLK RX2 145 8 2 := ⟨by decide, by decide, uxW_all (ws := [_]) (by decide +kernel) _ List.mem_cons_self⟩
theorem fkX3_9 : FLK RX3 9 3 3 := ⟨by decide, by decide, uxW_all (ws := [_]) (by decide +kernel) _ List.mem_cons_self⟩
theorem fkX3_15 : FLK RX3 15 3 4 := ⟨by decide, by decide, uxW_all (ws := [_]) (by decide +kernel) _ List.mem_cons_self⟩
theorem fkX3_18 : FLK RX3 18 3 5 := ⟨by decide, by decide, uxW_all (ws := [_]) (by decide +kernel) _ List.mem_cons_self⟩
theorem fkX3_22 : FLK RX3 22 3 6 := ⟨by decide, by decide, uxW_all (ws := [_]) (by decide +kernel) _ List.mem_cons_self⟩
theorem fkX3_25 : FLK RX3 25 3 0 := ⟨by decide, by decide, uxW_all (ws := [_]) (by decide +kernel) _ List.mem_cons_self⟩
theorem fkX3_29 : FLK RX3 29 3 1 := ⟨by decide, by decide, uxW_all (ws := [_]) (by decide +kernel) _ List.mem_cons_self⟩
theorem fkX3_38 : FLK RX3 38 3 2 := ⟨by decide, by decide, uxW_all (ws := [_]) (by decide +kernel) _ List.mem_cons_self⟩
theorem fkX3_42 : FLK RX3 42 3 7 := ⟨by decide, by decide, uxW_all (ws := [_]) (by decide +kernel) _ List.mem_cons_self⟩
theorem fkX3_46 : FLK RX3 46 3 8 := ⟨by decide, by decide, uxW_all (ws := [_]) (by decide +kernel) _ List.mem_cons_self⟩
theorem fkX3_49 : FLK RX3 49 3 9 := ⟨by decide, by decide, uxW_all (ws := [_]) (by decide +kernel) _ List.mem_cons_self⟩
theorem mkX3_52 : MLV RX3 52 mX8_tellWaking 8 1 := ⟨by decide, rfl, uxW_all (by decide +kernel), ⟨by decide +kernel, by decide +kernel, by decide +kernel⟩, by decide⟩
theorem mkX3_58 : MLV RX3 58 mX6_nextMorning 6 4 := ⟨by decide, rfl, uxW_all (by decide +kernel), ⟨by decide +kernel, by decide +kernel, by decide +kernel⟩, by decide⟩
theorem fkX3_64 : FLK RX3 64 8 7 := ⟨by decide, by decide, uxW_all (ws := [_]) (by decide +kernel) _ List.mem_cons_self⟩
theorem mkX3_67 : MLV RX3 67 mX2_run 2 2 := ⟨by decide, rfl, uxW_all (by decide +kernel), ⟨by decide +kernel, by decide +kernel, by decide +kernel⟩, by decide⟩
theorem mkX3_71 : MLV RX3 71 mX3_packed 3 0 := ⟨by decide, rfl, uxW_all (by decide +kernel), ⟨by decide +kernel, by decide +kernel, by decide +kernel⟩, by decide⟩
theorem mkX3_75 : MLV RX3 75 mX2_seated 2 0 := ⟨by decide, rfl, uxW_all (by decide +kernel), ⟨by decide +kernel, by decide +kernel, by decide +kernel⟩, by decide⟩
theorem mkX3_78 : MLV RX3 78 mX3_seekRound 3 1 := ⟨by decide, rfl, uxW_all (by decide +kernel), ⟨by decide +kernel, by decide +kernel, by decide +kernel⟩, by decide⟩
theorem fkX3_82 : FLK RX3 82 8 10 := ⟨by decide, by decide, uxW_all (ws := [_]) (by decide +kernel) _ List.mem_cons_self⟩
theorem mkX3_85 : MLV RX3 85 mX3_asksDay 3 0 := ⟨by decide, rfl, uxW_all (by decide +kernel), ⟨by decide +kernel, by decide +kernel, by decide +kernel⟩, by decide⟩
theorem fkX3_89 : FLK RX3 89 6 5 := ⟨by decide, by decide, uxW_all (ws := [_]) (by decide +kernel) _ List.mem_cons_self⟩
theorem mkX3_92 : MLV RX3 92 mX3_halfOf 3 2 := ⟨by decide, rfl, uxW_all (by decide +kernel), ⟨by decide +kernel, by decide +kernel, by decide +kernel⟩, by decide⟩
theorem fkX4_11 : FLK RX4 11 4 1 := ⟨by decide, by decide, uxW_all (ws := [_]) (by decide +kernel) _ List.mem_cons_self⟩
theorem fkX4_15 : FLK RX4 15 4 2 := ⟨by decide, by decide, uxW_all (ws := [_]) (by decide +kernel) _ List.mem_cons_self⟩
theorem fkX4_18 : FLK RX4 18 4 3 := ⟨by decide, by decide, uxW_all (ws := [_]) (by decide +kernel) _ List.mem_cons_self⟩
theorem fkX4_21 : FLK RX4 21 4 0 := ⟨by decide, by decide, uxW_all (ws := [_]) (by decide +kernel) _ List.mem_cons_self⟩
theorem fkX4_25 : FLK RX4 25 4 4 := ⟨by decide, by decide, uxW_all (ws := [_]) (by decide +kernel) _ List.mem_cons_self⟩
theorem fkX4_29 : FLK RX4 29 8 10 := ⟨by decide, by decide, uxW_all (ws := [_]) (by decide +kernel) _ List.mem_cons_self⟩
theorem fkX4_35 : FLK RX4 35 8 9 := ⟨by decide, by decide, uxW_all (ws := [_]) (by decide +kernel) _ List.mem_cons_self⟩
theorem mkX4_38 : MLV RX4 38 mX8_value 8 3 := ⟨by decide, rfl, uxW_all (by decide +kernel), ⟨by decide +kernel, by decide +kernel, by decide +kernel⟩, by decide⟩
theorem mkX4_42 : MLV RX4 42 mX4_bestFrom 4 4 := ⟨by decide, rfl, uxW_all (by decide +kernel), ⟨by decide +kernel, by decide +kernel, by decide +kernel⟩, by decide⟩
theorem fkX4_46 : FLK RX4 46 4 5 := ⟨by decide, by decide, uxW_all (ws := [_]) (by decide +kernel) _ List.mem_cons_self⟩
theorem mkX4_49 : MLV RX4 49 mX4_deal 4 0 := ⟨by decide, rfl, uxW_all (by decide +kernel), ⟨by decide +kernel, by decide +kernel, by decide +kernel⟩, by decide⟩
theorem mkX4_52 : MLV RX4 52 mX4_firstGift 4 2 := ⟨by decide, rfl, uxW_all (by decide +kernel), ⟨by decide +kernel, by decide +kernel, by decide +kernel⟩, by decide⟩
theorem fkX4_56 : FLK RX4 56 8 3 := ⟨by decide, by decide, uxW_all (ws := [_]) (by decide +kernel) _ List.mem_cons_self⟩
theorem fkX4_59 : FLK RX4 59 8 4 := ⟨by decide, by decide, uxW_all (ws := [_]) (by decide +kernel) _ List.mem_cons_self⟩
theorem mkX4_62 : MLS RX4 62 mX8_stretch 4 := ⟨uxW_all (by decide +kernel), ⟨by decide +kernel, by decide +kernel, by decide +kernel⟩, by decide⟩
theorem mkX4_65 : MLV RX4 65 mX4_bestOf 4 1 := ⟨by decide, rfl, uxW_all (by decide +kernel), ⟨by decide +kernel, by decide +kernel, by decide +kernel⟩, by decide⟩
theorem fkX5_9 : FLK RX5 9 5 0 := ⟨by decide, by decide, uxW_all (ws := [_]) (by decide +kernel) _ List.mem_cons_self⟩
theorem fkX5_15 : FLK RX5 15 5 3 := ⟨by decide, by decide, uxW_all (ws := [_]) (by decide +kernel) _ List.mem_cons_self⟩
theorem fkX5_19 : FLK RX5 19 5 1 := ⟨by decide, by decide, uxW_all (ws := [_]) (by decide +kernel) _ List.mem_cons_self⟩
theorem fkX5_23 : FLK RX5 23 5 2 := ⟨by decide, by decide, uxW_all (ws := [_]) (by decide +kernel) _ List.mem_cons_self⟩
theorem mkX5_27 : MLV RX5 27 mX5_readSum 5 1 := ⟨by decide, rfl, uxW_all (by decide +kernel), ⟨by decide +kernel, by decide +kernel, by decide +kernel⟩, by decide⟩
theorem mkX5_31 : MLV RX5 31 mX10_peek 10 0 := ⟨by decide, rfl, uxW_all (by decide +kernel), ⟨by decide +kernel, by decide +kernel, by decide +kernel⟩, by decide⟩
theorem fkX5_37 : FLK RX5 37 10 2 := ⟨by decide, by decide, uxW_all (ws := [_]) (by decide +kernel) _ List.mem_cons_self⟩
theorem mkX5_40 : MLV RX5 40 mX10_fail 10 2 := ⟨by decide, rfl, uxW_all (by decide +kernel), ⟨by decide +kernel, by decide +kernel, by decide +kernel⟩, by decide⟩
theorem mkX5_44 : MLV RX5 44 mX5_readProduct 5 1 := ⟨by decide, rfl, uxW_all (by decide +kernel), ⟨by decide +kernel, by decide +kernel, by decide +kernel⟩, by decide⟩
theorem mkX5_49 : MLV RX5 49 mX5_put 5 1 := ⟨by decide, rfl, uxW_all (by decide +kernel), ⟨by decide +kernel, by decide +kernel, by decide +kernel⟩, by decide⟩
theorem mkX5_53 : MLV RX5 53 mX5_readUnit 5 1 := ⟨by decide, rfl, uxW_all (by decide +kernel), ⟨by decide +kernel, by decide +kernel, by decide +kernel⟩, by decide⟩
theorem mkX5_56 : MLS RX5 56 mX10_isDigit 1 := ⟨uxW_all (by decide +kernel), ⟨by decide +kernel, by decide +kernel, by decide +kernel⟩, by decide⟩
theorem mkX5_59 : MLV RX5 59 mX10_number 10 2 := ⟨by decide, rfl, uxW_all (by decide +kernel), ⟨by decide +kernel, by decide +kernel, by decide +kernel⟩, by decide⟩
theorem mkX5_63 : MLV RX5 63 mX5_mayOpen 5 1 := ⟨by decide, rfl, uxW_all (by decide +kernel), ⟨by decide +kernel, by decide +kernel, by decide +kernel⟩, by decide⟩
theorem mkX5_66 : MLV RX5 66 mX10_takeSign 10 1 := ⟨by decide, rfl, uxW_all (by decide +kernel), ⟨by decide +kernel, by decide +kernel, by decide +kernel⟩, by decide⟩
theorem mkX5_72 : MLV RX5 72 mX10_which 10 1 := ⟨by decide, rfl, uxW_all (by decide +kernel), ⟨by decide +kernel, by decide +kernel, by decide +kernel⟩, by decide⟩
theorem mkX5_76 : MLV RX5 76 mX10_passWord 10 0 := ⟨by decide, rfl, uxW_all (by decide +kernel), ⟨by decide +kernel, by decide +kernel, by decide +kernel⟩, by decide⟩
theorem mkX5_79 : MLV RX5 79 mX5_readPair 5 2 := ⟨by decide, rfl, uxW_all (by decide +kernel), ⟨by decide +kernel, by decide +kernel, by decide +kernel⟩, by decide⟩
theorem mkX5_82 : MLV RX5 82 mX5_readChoice 5 1 := ⟨by decide, rfl, uxW_all (by decide +kernel), ⟨by decide +kernel, by decide +kernel, by decide +kernel⟩, by decide⟩
theorem mkX5_87 : MLV RX5 87 mX10_takeWord 10 1 := ⟨by decide, rfl, uxW_all (by decide +kernel), ⟨by decide +kernel, by decide +kernel, by decide +kernel⟩, by decide⟩
theorem fkX6_9 : FLK RX6 9 6 0 := ⟨by decide, by decide, uxW_all (ws := [_]) (by decide +kernel) _ List.mem_cons_self⟩
theorem fkX6_15 : FLK RX6 15 6 1 := ⟨by decide, by decide, uxW_all (ws := [_]) (by decide +kernel) _ List.mem_cons_self⟩
theorem fkX6_18 : FLK RX6 18 6 2 := ⟨by decide, by decide, uxW_all (ws := [_]) (by decide +kernel) _ List.mem_cons_self⟩
theorem fkX6_21 : FLK RX6 21 6 3 := ⟨by decide, by decide, uxW_all (ws := [_]) (by decide +kernel) _ List.mem_cons_self⟩
theorem fkX6_24 : FLK RX6 24 6 5 := ⟨by decide, by decide, uxW_all (ws := [_]) (by decide +kernel) _ List.mem_cons_self⟩
theorem fkX6_28 : FLK RX6 28 5 0 := ⟨by decide, by decide, uxW_all (ws := [_]) (by decide +kernel) _ List.mem_cons_self⟩
theorem fkX6_31 : FLK RX6 31 5 1 := ⟨by decide, by decide, uxW_all (ws := [_]) (by decide +kernel) _ List.mem_cons_self⟩
theorem mkX6_34 : ACW RX6 34 := by refine ⟨?_, ?_, ?_, ?_⟩ <;> exact uxW_all (ws := [_]) (by decide +kernel) _ List.mem_cons_self
theorem fkX6_40 : FLK RX6 40 5 2 := ⟨by decide, by decide, uxW_all (ws := [_]) (by decide +kernel) _ List.mem_cons_self⟩
theorem fkX6_44 : FLK RX6 44 8 9 := ⟨by decide, by decide, uxW_all (ws := [_]) (by decide +kernel) _ List.mem_cons_self⟩
theorem fkX6_49 : FLK RX6 49 8 10 := ⟨by decide, by decide, uxW_all (ws := [_]) (by decide +kernel) _ List.mem_cons_self⟩
theorem fkX6_52 : FLK RX6 52 8 3 := ⟨by decide, by decide, uxW_all (ws := [_]) (by decide +kernel) _ List.mem_cons_self⟩
theorem fkX6_55 : FLK RX6 55 8 2 := ⟨by decide, by decide, uxW_all (ws := [_]) (by decide +kernel) _ List.mem_cons_self⟩
theorem fkX6_58 : FLK RX6 58 2 0 := ⟨by decide, by decide, uxW_all (ws := [_]) (by decide +kernel) _ List.mem_cons_self⟩
theorem mkX6_64 : MLV RX6 64 mX2_firstCame 2 0 := ⟨by decide, rfl, uxW_all (by decide +kernel), ⟨by decide +kernel, by decide +kernel, by decide +kernel⟩, by decide⟩
theorem fkX6_68 : FLK RX6 68 2 14 := ⟨by decide, by decide, uxW_all (ws := [_]) (by decide +kernel) _ List.mem_cons_self⟩
theorem mkX6_71 : MLV RX6 71 mX6_setCommon 6 4 := ⟨by decide, rfl, uxW_all (by decide +kernel), ⟨by decide +kernel, by decide +kernel, by decide +kernel⟩, by decide⟩
theorem fkX6_75 : FLK RX6 75 2 1 := ⟨by decide, by decide, uxW_all (ws := [_]) (by decide +kernel) _ List.mem_cons_self⟩
theorem mkX6_78 : MLV RX6 78 mX6_setOwn 6 4 := ⟨by decide, rfl, uxW_all (by decide +kernel), ⟨by decide +kernel, by decide +kernel, by decide +kernel⟩, by decide⟩
theorem mkX6_82 : MLV RX6 82 mX6_setGuest 6 2 := ⟨by decide, rfl, uxW_all (by decide +kernel), ⟨by decide +kernel, by decide +kernel, by decide +kernel⟩, by decide⟩
theorem mkX6_86 : MLV RX6 86 mX6_comes 6 1 := ⟨by decide, rfl, uxW_all (by decide +kernel), ⟨by decide +kernel, by decide +kernel, by decide +kernel⟩, by decide⟩
theorem fkX6_90 : FLK RX6 90 6 4 := ⟨by decide, by decide, uxW_all (ws := [_]) (by decide +kernel) _ List.mem_cons_self⟩
theorem mkX6_93 : MLV RX6 93 mX6_take 6 1 := ⟨by decide, rfl, uxW_all (by decide +kernel), ⟨by decide +kernel, by decide +kernel, by decide +kernel⟩, by decide⟩
theorem mkX6_97 : MLV RX6 97 mX6_pop 6 0 := ⟨by decide, rfl, uxW_all (by decide +kernel), ⟨by decide +kernel, by decide +kernel, by decide +kernel⟩, by decide⟩
theorem mkX6_100 : MLV RX6 100 mX6_push 6 1 := ⟨by decide, rfl, uxW_all (by decide +kernel), ⟨by decide +kernel, by decide +kernel, by decide +kernel⟩, by decide⟩
theorem mkX6_103 : MLS RX6 103 mX6_join 3 := ⟨uxW_all (by decide +kernel), ⟨by decide +kernel, by decide +kernel, by decide +kernel⟩, by decide⟩
theorem fkX7_9 : FLK RX7 9 7 0 := ⟨by decide, by decide, uxW_all (ws := [_]) (by decide +kernel) _ List.mem_cons_self⟩
theorem fkX7_17 : FLK RX7 17 7 1 := ⟨by decide, by decide, uxW_all (ws := [_]) (by decide +kernel) _ List.mem_cons_self⟩
theorem fkX7_20 : FLK RX7 20 8 2 := ⟨by decide, by decide, uxW_all (ws := [_]) (by decide +kernel) _ List.mem_cons_self⟩
theorem mkX7_23 : ACW RX7 23 := by refine ⟨?_, ?_, ?_, ?_⟩ <;> exact uxW_all (ws := [_]) (by decide +kernel) _ List.mem_cons_self
theorem fkX7_29 : FLK RX7 29 1 0 := ⟨by decide, by decide, uxW_all (ws := [_]) (by decide +kernel) _ List.mem_cons_self⟩
theorem fkX7_30 : FLK RX7 30 1 2 := ⟨by decide, by decide, uxW_all (ws := [_]) (by decide +kernel) _ List.mem_cons_self⟩
theorem fkX7_34 : FLK RX7 34 7 2 := ⟨by decide, by decide, uxW_all (ws := [_]) (by decide +kernel) _ List.mem_cons_self⟩
theorem fkX7_35 : FLK RX7 35 8 6 := ⟨by decide, by decide, uxW_all (ws := [_]) (by decide +kernel) _ List.mem_cons_self⟩
theorem fkX7_38 : FLK RX7 38 7 3 := ⟨by decide, by decide, uxW_all (ws := [_]) (by decide +kernel) _ List.mem_cons_self⟩
theorem fkX7_39 : FLK RX7 39 8 7 := ⟨by decide, by decide, uxW_all (ws := [_]) (by decide +kernel) _ List.mem_cons_self⟩
theorem fkX7_42 : FLK RX7 42 7 4 := ⟨by decide, by decide, uxW_all (ws := [_]) (by decide +kernel) _ List.mem_cons_self⟩
theorem fkX7_43 : FLK RX7 43 8 8 := ⟨by decide, by decide, uxW_all (ws := [_]) (by decide +kernel) _ List.mem_cons_self⟩
theorem fkX7_46 : FLK RX7 46 7 5 := ⟨by decide, by decide, uxW_all (ws := [_]) (by decide +kernel) _ List.mem_cons_self⟩
theorem fkX7_47 : FLK RX7 47 7 6 := ⟨by decide, by decide, uxW_all (ws := [_]) (by decide +kernel) _ List.mem_cons_self⟩
theorem fkX8_9 : FLK RX8 9 8 0 := ⟨by decide, by decide, uxW_all (ws := [_]) (by decide +kernel) _ List.mem_cons_self⟩
theorem fkX8_15 : FLK RX8 15 8 1 := ⟨by decide, by decide, uxW_all (ws := [_]) (by decide +kernel) _ List.mem_cons_self⟩
theorem fkX8_18 : FLK RX8 18 8 2 := ⟨by decide, by decide, uxW_all (ws := [_]) (by decide +kernel) _ List.mem_cons_self⟩
theorem fkX8_21 : FLK RX8 21 8 3 := ⟨by decide, by decide, uxW_all (ws := [_]) (by decide +kernel) _ List.mem_cons_self⟩
theorem fkX8_24 : FLK RX8 24 8 4 := ⟨by decide, by decide, uxW_all (ws := [_]) (by decide +kernel) _ List.mem_cons_self⟩
theorem fkX8_27 : FLK RX8 27 8 5 := ⟨by decide, by decide, uxW_all (ws := [_]) (by decide +kernel) _ List.mem_cons_self⟩
theorem fkX8_30 : FLK RX8 30 8 9 := ⟨by decide, by decide, uxW_all (ws := [_]) (by decide +kernel) _ List.mem_cons_self⟩
theorem fkX8_34 : FLK RX8 34 8 10 := ⟨by decide, by decide, uxW_all (ws := [_]) (by decide +kernel) _ List.mem_cons_self⟩
theorem fkX8_37 : FLK RX8 37 8 6 := ⟨by decide, by decide, uxW_all (ws := [_]) (by decide +kernel) _ List.mem_cons_self⟩
theorem fkX8_40 : FLK RX8 40 8 7 := ⟨by decide, by decide, uxW_all (ws := [_]) (by decide +kernel) _ List.mem_cons_self⟩
theorem fkX8_43 : FLK RX8 43 8 8 := ⟨by decide, by decide, uxW_all (ws := [_]) (by decide +kernel) _ List.mem_cons_self⟩
theorem mkX8_46 : ACW RX8 46 := by refine ⟨?_, ?_, ?_, ?_⟩ <;> exact uxW_all (ws := [_]) (by decide +kernel) _ List.mem_cons_self
theorem mkX8_52 : MLV RX8 52 mX8_clear 8 0 := ⟨by decide, rfl, uxW_all (by decide +kernel), ⟨by decide +kernel, by decide +kernel, by decide +kernel⟩, by decide⟩
theorem mkX8_55 : MLV RX8 55 mX10_peek 10 0 := ⟨by decide, rfl, uxW_all (by decide +kernel), ⟨by decide +kernel, by decide +kernel, by decide +kernel⟩, by decide⟩
theorem mkX8_61 : MLV RX8 61 mX8_readClause 8 2 := ⟨by decide, rfl, uxW_all (by decide +kernel), ⟨by decide +kernel, by decide +kernel, by decide +kernel⟩, by decide⟩
theorem mkX8_67 : MLV RX8 67 mX10_which 10 1 := ⟨by decide, rfl, uxW_all (by decide +kernel), ⟨by decide +kernel, by decide +kernel, by decide +kernel⟩, by decide⟩
theorem fkX8_71 : FLK RX8 71 10 2 := ⟨by decide, by decide, uxW_all (ws := [_]) (by decide +kernel) _ List.mem_cons_self⟩
theorem mkX8_74 : MLV RX8 74 mX10_fail 10 2 := ⟨by decide, rfl, uxW_all (by decide +kernel), ⟨by decide +kernel, by decide +kernel, by decide +kernel⟩, by decide⟩
theorem mkX8_78 : MLV RX8 78 mX10_passWord 10 0 := ⟨by decide, rfl, uxW_all (by decide +kernel), ⟨by decide +kernel, by decide +kernel, by decide +kernel⟩, by decide⟩
theorem mkX8_81 : MLV RX8 81 mX8_readNumbers 8 2 := ⟨by decide, rfl, uxW_all (by decide +kernel), ⟨by decide +kernel, by decide +kernel, by decide +kernel⟩, by decide⟩
theorem mkX8_84 : MLV RX8 84 mX10_takeSign 10 1 := ⟨by decide, rfl, uxW_all (by decide +kernel), ⟨by decide +kernel, by decide +kernel, by decide +kernel⟩, by decide⟩
theorem mkX8_88 : MLV RX8 88 mX8_readChair 8 1 := ⟨by decide, rfl, uxW_all (by decide +kernel), ⟨by decide +kernel, by decide +kernel, by decide +kernel⟩, by decide⟩
theorem mkX8_92 : MLV RX8 92 mX8_readGuest 8 1 := ⟨by decide, rfl, uxW_all (by decide +kernel), ⟨by decide +kernel, by decide +kernel, by decide +kernel⟩, by decide⟩
theorem mkX8_95 : MLV RX8 95 mX10_number 10 2 := ⟨by decide, rfl, uxW_all (by decide +kernel), ⟨by decide +kernel, by decide +kernel, by decide +kernel⟩, by decide⟩
theorem mkX8_99 : MLS RX8 99 mX8_stretch 4 := ⟨uxW_all (by decide +kernel), ⟨by decide +kernel, by decide +kernel, by decide +kernel⟩, by decide⟩
theorem fkX9_11 : FLK RX9 11 9 2 := ⟨by decide, by decide, uxW_all (ws := [_]) (by decide +kernel) _ List.mem_cons_self⟩
theorem fkX9_15 : FLK RX9 15 9 3 := ⟨by decide, by decide, uxW_all (ws := [_]) (by decide +kernel) _ List.mem_cons_self⟩
theorem fkX9_18 : FLK RX9 18 9 4 := ⟨by decide, by decide, uxW_all (ws := [_]) (by decide +kernel) _ List.mem_cons_self⟩
theorem fkX9_21 : FLK RX9 21 9 0 := ⟨by decide, by decide, uxW_all (ws := [_]) (by decide +kernel) _ List.mem_cons_self⟩
theorem fkX9_25 : FLK RX9 25 9 1 := ⟨by decide, by decide, uxW_all (ws := [_]) (by decide +kernel) _ List.mem_cons_self⟩
theorem fkX9_29 : FLK RX9 29 9 5 := ⟨by decide, by decide, uxW_all (ws := [_]) (by decide +kernel) _ List.mem_cons_self⟩
theorem fkX9_33 : FLK RX9 33 8 10 := ⟨by decide, by decide, uxW_all (ws := [_]) (by decide +kernel) _ List.mem_cons_self⟩
theorem mkX9_38 : MLV RX9 38 mX2_goByNumber 2 0 := ⟨by decide, rfl, uxW_all (by decide +kernel), ⟨by decide +kernel, by decide +kernel, by decide +kernel⟩, by decide⟩
theorem mkX9_43 : MLV RX9 43 mX9_weigh 9 2 := ⟨by decide, rfl, uxW_all (by decide +kernel), ⟨by decide +kernel, by decide +kernel, by decide +kernel⟩, by decide⟩
theorem fkX9_47 : FLK RX9 47 9 6 := ⟨by decide, by decide, uxW_all (ws := [_]) (by decide +kernel) _ List.mem_cons_self⟩
theorem fkX9_50 : FLK RX9 50 9 7 := ⟨by decide, by decide, uxW_all (ws := [_]) (by decide +kernel) _ List.mem_cons_self⟩
theorem mkX9_53 : MLV RX9 53 mX9_isStill 9 2 := ⟨by decide, rfl, uxW_all (by decide +kernel), ⟨by decide +kernel, by decide +kernel, by decide +kernel⟩, by decide⟩
theorem mkX9_57 : MLV RX9 57 mX9_digits 9 0 := ⟨by decide, rfl, uxW_all (by decide +kernel), ⟨by decide +kernel, by decide +kernel, by decide +kernel⟩, by decide⟩
theorem mkX9_61 : MLV RX9 61 mX9_setHalves 9 2 := ⟨by decide, rfl, uxW_all (by decide +kernel), ⟨by decide +kernel, by decide +kernel, by decide +kernel⟩, by decide⟩
theorem fkX9_64 : FLK RX9 64 8 7 := ⟨by decide, by decide, uxW_all (ws := [_]) (by decide +kernel) _ List.mem_cons_self⟩
theorem mkX9_67 : MLV RX9 67 mX2_run 2 2 := ⟨by decide, rfl, uxW_all (by decide +kernel), ⟨by decide +kernel, by decide +kernel, by decide +kernel⟩, by decide⟩
theorem mkX9_71 : MLS RX9 71 mX9_place 4 := ⟨uxW_all (by decide +kernel), ⟨by decide +kernel, by decide +kernel, by decide +kernel⟩, by decide⟩
theorem fkX9_75 : FLK RX9 75 2 1 := ⟨by decide, by decide, uxW_all (ws := [_]) (by decide +kernel) _ List.mem_cons_self⟩
theorem fkX10_9 : FLK RX10 9 10 4 := ⟨by decide, by decide, uxW_all (ws := [_]) (by decide +kernel) _ List.mem_cons_self⟩
theorem fkX10_15 : FLK RX10 15 10 0 := ⟨by decide, by decide, uxW_all (ws := [_]) (by decide +kernel) _ List.mem_cons_self⟩
theorem fkX10_19 : FLK RX10 19 10 1 := ⟨by decide, by decide, uxW_all (ws := [_]) (by decide +kernel) _ List.mem_cons_self⟩
theorem fkX10_22 : FLK RX10 22 10 2 := ⟨by decide, by decide, uxW_all (ws := [_]) (by decide +kernel) _ List.mem_cons_self⟩
theorem fkX10_25 : FLK RX10 25 10 3 := ⟨by decide, by decide, uxW_all (ws := [_]) (by decide +kernel) _ List.mem_cons_self⟩
theorem mkX10_28 : MLV RX10 28 mX10_peek 10 0 := ⟨by decide, rfl, uxW_all (by decide +kernel), ⟨by decide +kernel, by decide +kernel, by decide +kernel⟩, by decide⟩
theorem mkX10_32 : MLV RX10 32 mX10_fail 10 2 := ⟨by decide, rfl, uxW_all (by decide +kernel), ⟨by decide +kernel, by decide +kernel, by decide +kernel⟩, by decide⟩
theorem mkX10_36 : MLV RX10 36 mX10_which 10 1 := ⟨by decide, rfl, uxW_all (by decide +kernel), ⟨by decide +kernel, by decide +kernel, by decide +kernel⟩, by decide⟩
theorem mkX10_40 : MLV RX10 40 mX10_passWord 10 0 := ⟨by decide, rfl, uxW_all (by decide +kernel), ⟨by decide +kernel, by decide +kernel, by decide +kernel⟩, by decide⟩
theorem mkX10_43 : MLS RX10 43 mX10_isDigit 1 := ⟨uxW_all (by decide +kernel), ⟨by decide +kernel, by decide +kernel, by decide +kernel⟩, by decide⟩
theorem mkX10_47 : MMW RX10 47 := by refine ⟨?_, ?_, ?_, ?_⟩ <;> exact uxW_all (ws := [_]) (by decide +kernel) _ List.mem_cons_self
theorem mkX10_53 : MLV RX10 53 mX10_wordEnd 10 0 := ⟨by decide, rfl, uxW_all (by decide +kernel), ⟨by decide +kernel, by decide +kernel, by decide +kernel⟩, by decide⟩
theorem mkX10_64 : MLV RX10 64 mX10_isAlike 10 3 := ⟨by decide, rfl, uxW_all (by decide +kernel), ⟨by decide +kernel, by decide +kernel, by decide +kernel⟩, by decide⟩
theorem fkX11_9 : FLK RX11 9 11 0 := ⟨by decide, by decide, uxW_all (ws := [_]) (by decide +kernel) _ List.mem_cons_self⟩
theorem fkX11_18 : FLK RX11 18 11 1 := ⟨by decide, by decide, uxW_all (ws := [_]) (by decide +kernel) _ List.mem_cons_self⟩
theorem fkX11_25 : FLK RX11 25 11 2 := ⟨by decide, by decide, uxW_all (ws := [_]) (by decide +kernel) _ List.mem_cons_self⟩
theorem fkX11_29 : FLK RX11 29 11 3 := ⟨by decide, by decide, uxW_all (ws := [_]) (by decide +kernel) _ List.mem_cons_self⟩
theorem fkX11_35 : FLK RX11 35 11 4 := ⟨by decide, by decide, uxW_all (ws := [_]) (by decide +kernel) _ List.mem_cons_self⟩
theorem fkX11_44 : FLK RX11 44 11 5 := ⟨by decide, by decide, uxW_all (ws := [_]) (by decide +kernel) _ List.mem_cons_self⟩
theorem fkX11_51 : FLK RX11 51 11 6 := ⟨by decide, by decide, uxW_all (ws := [_]) (by decide +kernel) _ List.mem_cons_self⟩
theorem fkX11_60 : FLK RX11 60 11 7 := ⟨by decide, by decide, uxW_all (ws := [_]) (by decide +kernel) _ List.mem_cons_self⟩
theorem fkX11_64 : FLK RX11 64 11 8 := ⟨by decide, by decide, uxW_all (ws := [_]) (by decide +kernel) _ List.mem_cons_self⟩
theorem fkX11_72 : FLK RX11 72 11 9 := ⟨by decide, by decide, uxW_all (ws := [_]) (by decide +kernel) _ List.mem_cons_self⟩
theorem fkX11_76 : FLK RX11 76 11 10 := ⟨by decide, by decide, uxW_all (ws := [_]) (by decide +kernel) _ List.mem_cons_self⟩
theorem fkX11_84 : FLK RX11 84 11 11 := ⟨by decide, by decide, uxW_all (ws := [_]) (by decide +kernel) _ List.mem_cons_self⟩
theorem fkX11_91 : FLK RX11 91 11 12 := ⟨by decide, by decide, uxW_all (ws := [_]) (by decide +kernel) _ List.mem_cons_self⟩
theorem fkX11_95 : FLK RX11 95 11 13 := ⟨by decide, by decide, uxW_all (ws := [_]) (by decide +kernel) _ List.mem_cons_self⟩
theorem fkX11_98 : FLK RX11 98 11 14 := ⟨by decide, by decide, uxW_all (ws := [_]) (by decide +kernel) _ List.mem_cons_self⟩
theorem fkX11_101 : FLK RX11 101 11 15 := ⟨by decide, by decide, uxW_all (ws := [_]) (by decide +kernel) _ List.mem_cons_self⟩
theorem mkX11_104 : MLV RX11 104 mX8_clear 8 0 := ⟨by decide, rfl, uxW_all (by decide +kernel), ⟨by decide +kernel, by decide +kernel, by decide +kernel⟩, by decide⟩
theorem mkX11_107 : MLV RX11 107 mX6_clear 6 0 := ⟨by decide, rfl, uxW_all (by decide +kernel), ⟨by decide +kernel, by decide +kernel, by decide +kernel⟩, by decide⟩
theorem fkX11_108 : FLK RX11 108 11 17 := ⟨by decide, by decide, uxW_all (ws := [_]) (by decide +kernel) _ List.mem_cons_self⟩
theorem mkX11_112 : MLV RX11 112 mX11_putBytes 11 1 := ⟨by decide, rfl, uxW_all (by decide +kernel), ⟨by decide +kernel, by decide +kernel, by decide +kernel⟩, by decide⟩
theorem mkX11_116 : MLV RX11 116 mX11_needWithin 11 3 := ⟨by decide, rfl, uxW_all (by decide +kernel), ⟨by decide +kernel, by decide +kernel, by decide +kernel⟩, by decide⟩
theorem mkX11_120 : MLV RX11 120 mX11_startText 11 1 := ⟨by decide, rfl, uxW_all (by decide +kernel), ⟨by decide +kernel, by decide +kernel, by decide +kernel⟩, by decide⟩
theorem mkX11_123 : MLV RX11 123 mX8_read 8 1 := ⟨by decide, rfl, uxW_all (by decide +kernel), ⟨by decide +kernel, by decide +kernel, by decide +kernel⟩, by decide⟩
theorem fkX11_127 : FLK RX11 127 10 3 := ⟨by decide, by decide, uxW_all (ws := [_]) (by decide +kernel) _ List.mem_cons_self⟩
theorem mkX11_130 : MLV RX11 130 mX8_copy 8 1 := ⟨by decide, rfl, uxW_all (by decide +kernel), ⟨by decide +kernel, by decide +kernel, by decide +kernel⟩, by decide⟩
theorem mkX11_133 : MLV RX11 133 mX0_clear 0 0 := ⟨by decide, rfl, uxW_all (by decide +kernel), ⟨by decide +kernel, by decide +kernel, by decide +kernel⟩, by decide⟩
theorem mkX11_134 : MLV RX11 134 mX4_forget 4 0 := ⟨by decide, rfl, uxW_all (by decide +kernel), ⟨by decide +kernel, by decide +kernel, by decide +kernel⟩, by decide⟩
theorem mkX11_137 : MLV RX11 137 mX1_clear 1 0 := ⟨by decide, rfl, uxW_all (by decide +kernel), ⟨by decide +kernel, by decide +kernel, by decide +kernel⟩, by decide⟩
theorem fkX11_138 : FLK RX11 138 11 18 := ⟨by decide, by decide, uxW_all (ws := [_]) (by decide +kernel) _ List.mem_cons_self⟩
theorem mkX11_141 : MLV RX11 141 mX11_forgetDays 11 0 := ⟨by decide, rfl, uxW_all (by decide +kernel), ⟨by decide +kernel, by decide +kernel, by decide +kernel⟩, by decide⟩
theorem fkX11_144 : FLK RX11 144 8 10 := ⟨by decide, by decide, uxW_all (ws := [_]) (by decide +kernel) _ List.mem_cons_self⟩
theorem mkX11_147 : MLV RX11 147 mX11_needGuest 11 1 := ⟨by decide, rfl, uxW_all (by decide +kernel), ⟨by decide +kernel, by decide +kernel, by decide +kernel⟩, by decide⟩
theorem mkX11_150 : MMW RX11 150 := by refine ⟨?_, ?_, ?_, ?_⟩ <;> exact uxW_all (ws := [_]) (by decide +kernel) _ List.mem_cons_self
theorem mkX11_156 : MLV RX11 156 mX5_read 5 0 := ⟨by decide, rfl, uxW_all (by decide +kernel), ⟨by decide +kernel, by decide +kernel, by decide +kernel⟩, by decide⟩
theorem mkX11_159 : MLV RX11 159 mX6_keep 6 2 := ⟨by decide, rfl, uxW_all (by decide +kernel), ⟨by decide +kernel, by decide +kernel, by decide +kernel⟩, by decide⟩
theorem mkX11_163 : MLV RX11 163 mX0_read 0 2 := ⟨by decide, rfl, uxW_all (by decide +kernel), ⟨by decide +kernel, by decide +kernel, by decide +kernel⟩, by decide⟩
theorem fkX11_166 : FLK RX11 166 0 2 := ⟨by decide, by decide, uxW_all (ws := [_]) (by decide +kernel) _ List.mem_cons_self⟩
theorem fkX11_169 : FLK RX11 169 10 4 := ⟨by decide, by decide, uxW_all (ws := [_]) (by decide +kernel) _ List.mem_cons_self⟩
theorem fkX11_172 : FLK RX11 172 8 9 := ⟨by decide, by decide, uxW_all (ws := [_]) (by decide +kernel) _ List.mem_cons_self⟩
theorem fkX11_175 : FLK RX11 175 8 6 := ⟨by decide, by decide, uxW_all (ws := [_]) (by decide +kernel) _ List.mem_cons_self⟩
theorem fkX11_178 : FLK RX11 178 8 7 := ⟨by decide, by decide, uxW_all (ws := [_]) (by decide +kernel) _ List.mem_cons_self⟩
theorem fkX11_181 : FLK RX11 181 8 8 := ⟨by decide, by decide, uxW_all (ws := [_]) (by decide +kernel) _ List.mem_cons_self⟩
theorem mkX11_184 : MLV RX11 184 mX11_needChair 11 1 := ⟨by decide, rfl, uxW_all (by decide +kernel), ⟨by decide +kernel, by decide +kernel, by decide +kernel⟩, by decide⟩
theorem fkX11_187 : FLK RX11 187 8 0 := ⟨by decide, by decide, uxW_all (ws := [_]) (by decide +kernel) _ List.mem_cons_self⟩
theorem fkX11_190 : FLK RX11 190 8 1 := ⟨by decide, by decide, uxW_all (ws := [_]) (by decide +kernel) _ List.mem_cons_self⟩
theorem mkX11_193 : MLV RX11 193 mX11_look 11 0 := ⟨by decide, rfl, uxW_all (by decide +kernel), ⟨by decide +kernel, by decide +kernel, by decide +kernel⟩, by decide⟩
theorem fkX11_196 : FLK RX11 196 2 2 := ⟨by decide, by decide, uxW_all (ws := [_]) (by decide +kernel) _ List.mem_cons_self⟩
theorem fkX11_199 : FLK RX11 199 8 2 := ⟨by decide, by decide, uxW_all (ws := [_]) (by decide +kernel) _ List.mem_cons_self⟩
theorem fkX11_202 : FLK RX11 202 8 3 := ⟨by decide, by decide, uxW_all (ws := [_]) (by decide +kernel) _ List.mem_cons_self⟩
theorem fkX11_205 : FLK RX11 205 8 4 := ⟨by decide, by decide, uxW_all (ws := [_]) (by decide +kernel) _ List.mem_cons_self⟩
theorem fkX11_208 : FLK RX11 208 8 5 := ⟨by decide, by decide, uxW_all (ws := [_]) (by decide +kernel) _ List.mem_cons_self⟩
theorem fkX11_211 : FLK RX11 211 11 19 := ⟨by decide, by decide, uxW_all (ws := [_]) (by decide +kernel) _ List.mem_cons_self⟩
theorem fkX11_215 : FLK RX11 215 2 1 := ⟨by decide, by decide, uxW_all (ws := [_]) (by decide +kernel) _ List.mem_cons_self⟩
theorem fkX11_218 : FLK RX11 218 2 3 := ⟨by decide, by decide, uxW_all (ws := [_]) (by decide +kernel) _ List.mem_cons_self⟩
theorem fkX11_221 : FLK RX11 221 2 4 := ⟨by decide, by decide, uxW_all (ws := [_]) (by decide +kernel) _ List.mem_cons_self⟩
theorem mkX11_224 : MLV RX11 224 mX2_total 2 1 := ⟨by decide, rfl, uxW_all (by decide +kernel), ⟨by decide +kernel, by decide +kernel, by decide +kernel⟩, by decide⟩
theorem mkX11_228 : MLV RX11 228 mX2_idle 2 0 := ⟨by decide, rfl, uxW_all (by decide +kernel), ⟨by decide +kernel, by decide +kernel, by decide +kernel⟩, by decide⟩
theorem mkX11_232 : MLV RX11 232 mX2_sleepLost 2 0 := ⟨by decide, rfl, uxW_all (by decide +kernel), ⟨by decide +kernel, by decide +kernel, by decide +kernel⟩, by decide⟩
theorem mkX11_235 : MLV RX11 235 mX2_seated 2 0 := ⟨by decide, rfl, uxW_all (by decide +kernel), ⟨by decide +kernel, by decide +kernel, by decide +kernel⟩, by decide⟩
theorem mkX11_243 : MLV RX11 243 mX8_value 8 3 := ⟨by decide, rfl, uxW_all (by decide +kernel), ⟨by decide +kernel, by decide +kernel, by decide +kernel⟩, by decide⟩
theorem mkX11_247 : MLV RX11 247 mX6_setCommon 6 4 := ⟨by decide, rfl, uxW_all (by decide +kernel), ⟨by decide +kernel, by decide +kernel, by decide +kernel⟩, by decide⟩
theorem mkX11_251 : MLV RX11 251 mX6_setOwn 6 4 := ⟨by decide, rfl, uxW_all (by decide +kernel), ⟨by decide +kernel, by decide +kernel, by decide +kernel⟩, by decide⟩
theorem mkX11_255 : MLV RX11 255 mX6_setGuest 6 2 := ⟨by decide, rfl, uxW_all (by decide +kernel), ⟨by decide +kernel, by decide +kernel, by decide +kernel⟩, by decide⟩
theorem mkX11_259 : MLV RX11 259 mX6_comes 6 1 := ⟨by decide, rfl, uxW_all (by decide +kernel), ⟨by decide +kernel, by decide +kernel, by decide +kernel⟩, by decide⟩
theorem mkX11_262 : MLV RX11 262 mX3_reach 3 1 := ⟨by decide, rfl, uxW_all (by decide +kernel), ⟨by decide +kernel, by decide +kernel, by decide +kernel⟩, by decide⟩
theorem fkX11_265 : FLK RX11 265 3 9 := ⟨by decide, by decide, uxW_all (ws := [_]) (by decide +kernel) _ List.mem_cons_self⟩
theorem fkX11_268 : FLK RX11 268 3 8 := ⟨by decide, by decide, uxW_all (ws := [_]) (by decide +kernel) _ List.mem_cons_self⟩
theorem mkX11_271 : MLV RX11 271 mX3_wasSeated 3 2 := ⟨by decide, rfl, uxW_all (by decide +kernel), ⟨by decide +kernel, by decide +kernel, by decide +kernel⟩, by decide⟩
theorem mkX11_275 : MLV RX11 275 mX11_needFewGuests 11 0 := ⟨by decide, rfl, uxW_all (by decide +kernel), ⟨by decide +kernel, by decide +kernel, by decide +kernel⟩, by decide⟩
theorem fkX11_278 : FLK RX11 278 11 16 := ⟨by decide, by decide, uxW_all (ws := [_]) (by decide +kernel) _ List.mem_cons_self⟩
theorem mkX11_287 : MLV RX11 287 mX9_find 9 1 := ⟨by decide, rfl, uxW_all (by decide +kernel), ⟨by decide +kernel, by decide +kernel, by decide +kernel⟩, by decide⟩
theorem fkX11_290 : FLK RX11 290 9 6 := ⟨by decide, by decide, uxW_all (ws := [_]) (by decide +kernel) _ List.mem_cons_self⟩
theorem fkX11_293 : FLK RX11 293 9 7 := ⟨by decide, by decide, uxW_all (ws := [_]) (by decide +kernel) _ List.mem_cons_self⟩
theorem mkX11_296 : MLV RX11 296 mX11_needArgument 11 1 := ⟨by decide, rfl, uxW_all (by decide +kernel), ⟨by decide +kernel, by decide +kernel, by decide +kernel⟩, by decide⟩
theorem mkX11_300 : MLV RX11 300 mX2_goByNumber 2 0 := ⟨by decide, rfl, uxW_all (by decide +kernel), ⟨by decide +kernel, by decide +kernel, by decide +kernel⟩, by decide⟩
theorem mkX11_303 : MLV RX11 303 mX2_run 2 2 := ⟨by decide, rfl, uxW_all (by decide +kernel), ⟨by decide +kernel, by decide +kernel, by decide +kernel⟩, by decide⟩
theorem mkX11_307 : MLV RX11 307 mX4_learn 4 0 := ⟨by decide, rfl, uxW_all (by decide +kernel), ⟨by decide +kernel, by decide +kernel, by decide +kernel⟩, by decide⟩
theorem fkX11_310 : FLK RX11 310 4 5 := ⟨by decide, by decide, uxW_all (ws := [_]) (by decide +kernel) _ List.mem_cons_self⟩
theorem fkX11_313 : FLK RX11 313 4 3 := ⟨by decide, by decide, uxW_all (ws := [_]) (by decide +kernel) _ List.mem_cons_self⟩
theorem mkX11_316 : MLV RX11 316 mX4_mostWith 4 2 := ⟨by decide, rfl, uxW_all (by decide +kernel), ⟨by decide +kernel, by decide +kernel, by decide +kernel⟩, by decide⟩
theorem mkX11_319 : MLV RX11 319 mX4_takersAt 4 1 := ⟨by decide, rfl, uxW_all (by decide +kernel), ⟨by decide +kernel, by decide +kernel, by decide +kernel⟩, by decide⟩
theorem mkX11_322 : MLV RX11 322 mX3_tell 3 2 := ⟨by decide, rfl, uxW_all (by decide +kernel), ⟨by decide +kernel, by decide +kernel, by decide +kernel⟩, by decide⟩
theorem mkX11_326 : MLV RX11 326 mX11_clearTally 11 0 := ⟨by decide, rfl, uxW_all (by decide +kernel), ⟨by decide +kernel, by decide +kernel, by decide +kernel⟩, by decide⟩
theorem mkX11_329 : MXW RX11 329 := by refine ⟨?_, ?_, ?_, ?_⟩ <;> exact uxW_all (ws := [_]) (by decide +kernel) _ List.mem_cons_self
theorem mkX11_332 : MLV RX11 332 mX2_goByLot 2 1 := ⟨by decide, rfl, uxW_all (by decide +kernel), ⟨by decide +kernel, by decide +kernel, by decide +kernel⟩, by decide⟩
theorem mkX11_335 : MLV RX11 335 mX8_tellWaking 8 1 := ⟨by decide, rfl, uxW_all (by decide +kernel), ⟨by decide +kernel, by decide +kernel, by decide +kernel⟩, by decide⟩
theorem fkX11_338 : FLK RX11 338 3 3 := ⟨by decide, by decide, uxW_all (ws := [_]) (by decide +kernel) _ List.mem_cons_self⟩
theorem mkX11_341 : MLV RX11 341 mX6_nextMorning 6 4 := ⟨by decide, rfl, uxW_all (by decide +kernel), ⟨by decide +kernel, by decide +kernel, by decide +kernel⟩, by decide⟩
theorem mkX11_345 : MLV RX11 345 mX11_tallySeated 11 1 := ⟨by decide, rfl, uxW_all (by decide +kernel), ⟨by decide +kernel, by decide +kernel, by decide +kernel⟩, by decide⟩
theorem mkX11_348 : MLV RX11 348 mX11_firstOfMost 11 0 := ⟨by decide, rfl, uxW_all (by decide +kernel), ⟨by decide +kernel, by decide +kernel, by decide +kernel⟩, by decide⟩
theorem mkX11_351 : MLV RX11 351 mX3_forget 3 0 := ⟨by decide, rfl, uxW_all (by decide +kernel), ⟨by decide +kernel, by decide +kernel, by decide +kernel⟩, by decide⟩
theorem mkX11_352 : MLV RX11 352 mX0_areSoOf 0 2 := ⟨by decide, rfl, uxW_all (by decide +kernel), ⟨by decide +kernel, by decide +kernel, by decide +kernel⟩, by decide⟩
theorem mkX11_356 : MLV RX11 356 mX0_isSo 0 2 := ⟨by decide, rfl, uxW_all (by decide +kernel), ⟨by decide +kernel, by decide +kernel, by decide +kernel⟩, by decide⟩
theorem mkX11_359 : MLV RX11 359 mX1_add 1 3 := ⟨by decide, rfl, uxW_all (by decide +kernel), ⟨by decide +kernel, by decide +kernel, by decide +kernel⟩, by decide⟩
theorem fkX11_363 : FLK RX11 363 1 2 := ⟨by decide, by decide, uxW_all (ws := [_]) (by decide +kernel) _ List.mem_cons_self⟩
theorem mkX11_364 : MLV RX11 364 mX1_takeBack 1 1 := ⟨by decide, rfl, uxW_all (by decide +kernel), ⟨by decide +kernel, by decide +kernel, by decide +kernel⟩, by decide⟩
theorem mkX11_367 : MLV RX11 367 mX1_keepImage 1 2 := ⟨by decide, rfl, uxW_all (by decide +kernel), ⟨by decide +kernel, by decide +kernel, by decide +kernel⟩, by decide⟩
theorem fkX11_371 : FLK RX11 371 1 3 := ⟨by decide, by decide, uxW_all (ws := [_]) (by decide +kernel) _ List.mem_cons_self⟩
theorem mkX11_374 : MLV RX11 374 mX1_takeImage 1 0 := ⟨by decide, rfl, uxW_all (by decide +kernel), ⟨by decide +kernel, by decide +kernel, by decide +kernel⟩, by decide⟩
theorem mkX11_378 : MLV RX11 378 mX7_giveBack 7 2 := ⟨by decide, rfl, uxW_all (by decide +kernel), ⟨by decide +kernel, by decide +kernel, by decide +kernel⟩, by decide⟩
theorem fkX11_384 : FLK RX11 384 7 6 := ⟨by decide, by decide, uxW_all (ws := [_]) (by decide +kernel) _ List.mem_cons_self⟩
theorem mkX11_385 : MLV RX11 385 mX10_begin 10 1 := ⟨by decide, rfl, uxW_all (by decide +kernel), ⟨by decide +kernel, by decide +kernel, by decide +kernel⟩, by decide⟩
theorem mkX11_388 : MLV RX11 388 mX9_forget 9 0 := ⟨by decide, rfl, uxW_all (by decide +kernel), ⟨by decide +kernel, by decide +kernel, by decide +kernel⟩, by decide⟩
theorem fkX12_9 : FLK RX12 9 12 3 := ⟨by decide, by decide, uxW_all (ws := [_]) (by decide +kernel) _ List.mem_cons_self⟩
theorem fkX12_13 : FLK RX12 13 12 9 := ⟨by decide, by decide, uxW_all (ws := [_]) (by decide +kernel) _ List.mem_cons_self⟩
theorem fkX12_17 : FLK RX12 17 12 10 := ⟨by decide, by decide, uxW_all (ws := [_]) (by decide +kernel) _ List.mem_cons_self⟩
theorem fkX12_20 : FLK RX12 20 12 11 := ⟨by decide, by decide, uxW_all (ws := [_]) (by decide +kernel) _ List.mem_cons_self⟩
theorem fkX12_23 : FLK RX12 23 12 12 := ⟨by decide, by decide, uxW_all (ws := [_]) (by decide +kernel) _ List.mem_cons_self⟩
theorem fkX12_28 : FLK RX12 28 12 13 := ⟨by decide, by decide, uxW_all (ws := [_]) (by decide +kernel) _ List.mem_cons_self⟩
theorem fkX12_31 : FLK RX12 31 12 14 := ⟨by decide, by decide, uxW_all (ws := [_]) (by decide +kernel) _ List.mem_cons_self⟩
theorem fkX12_34 : FLK RX12 34 12 15 := ⟨by decide, by decide, uxW_all (ws := [_]) (by decide +kernel) _ List.mem_cons_self⟩
theorem fkX12_37 : FLK RX12 37 12 16 := ⟨by decide, by decide, uxW_all (ws := [_]) (by decide +kernel) _ List.mem_cons_self⟩
theorem fkX12_40 : FLK RX12 40 12 17 := ⟨by decide, by decide, uxW_all (ws := [_]) (by decide +kernel) _ List.mem_cons_self⟩
theorem fkX12_43 : FLK RX12 43 12 18 := ⟨by decide, by decide, uxW_all (ws := [_]) (by decide +kernel) _ List.mem_cons_self⟩
theorem fkX12_46 : FLK RX12 46 12 19 := ⟨by decide, by decide, uxW_all (ws := [_]) (by decide +kernel) _ List.mem_cons_self⟩
theorem fkX12_49 : FLK RX12 49 12 20 := ⟨by decide, by decide, uxW_all (ws := [_]) (by decide +kernel) _ List.mem_cons_self⟩
theorem fkX12_52 : FLK RX12 52 12 21 := ⟨by decide, by decide, uxW_all (ws := [_]) (by decide +kernel) _ List.mem_cons_self⟩
theorem fkX12_55 : FLK RX12 55 12 22 := ⟨by decide, by decide, uxW_all (ws := [_]) (by decide +kernel) _ List.mem_cons_self⟩
theorem fkX12_58 : FLK RX12 58 12 23 := ⟨by decide, by decide, uxW_all (ws := [_]) (by decide +kernel) _ List.mem_cons_self⟩
theorem fkX12_61 : FLK RX12 61 12 24 := ⟨by decide, by decide, uxW_all (ws := [_]) (by decide +kernel) _ List.mem_cons_self⟩
theorem fkX12_64 : FLK RX12 64 12 25 := ⟨by decide, by decide, uxW_all (ws := [_]) (by decide +kernel) _ List.mem_cons_self⟩
theorem fkX12_67 : FLK RX12 67 12 26 := ⟨by decide, by decide, uxW_all (ws := [_]) (by decide +kernel) _ List.mem_cons_self⟩
theorem fkX12_71 : FLK RX12 71 12 34 := ⟨by decide, by decide, uxW_all (ws := [_]) (by decide +kernel) _ List.mem_cons_self⟩
theorem fkX12_74 : FLK RX12 74 12 35 := ⟨by decide, by decide, uxW_all (ws := [_]) (by decide +kernel) _ List.mem_cons_self⟩
theorem fkX12_77 : FLK RX12 77 12 36 := ⟨by decide, by decide, uxW_all (ws := [_]) (by decide +kernel) _ List.mem_cons_self⟩
theorem fkX12_80 : FLK RX12 80 12 37 := ⟨by decide, by decide, uxW_all (ws := [_]) (by decide +kernel) _ List.mem_cons_self⟩
theorem fkX12_83 : FLK RX12 83 12 38 := ⟨by decide, by decide, uxW_all (ws := [_]) (by decide +kernel) _ List.mem_cons_self⟩
theorem fkX12_86 : FLK RX12 86 12 39 := ⟨by decide, by decide, uxW_all (ws := [_]) (by decide +kernel) _ List.mem_cons_self⟩
theorem fkX12_89 : FLK RX12 89 12 40 := ⟨by decide, by decide, uxW_all (ws := [_]) (by decide +kernel) _ List.mem_cons_self⟩
theorem fkX12_92 : FLK RX12 92 12 41 := ⟨by decide, by decide, uxW_all (ws := [_]) (by decide +kernel) _ List.mem_cons_self⟩
theorem fkX12_95 : FLK RX12 95 12 42 := ⟨by decide, by decide, uxW_all (ws := [_]) (by decide +kernel) _ List.mem_cons_self⟩
theorem fkX12_98 : FLK RX12 98 12 43 := ⟨by decide, by decide, uxW_all (ws := [_]) (by decide +kernel) _ List.mem_cons_self⟩
theorem fkX12_101 : FLK RX12 101 12 44 := ⟨by decide, by decide, uxW_all (ws := [_]) (by decide +kernel) _ List.mem_cons_self⟩
theorem fkX12_104 : FLK RX12 104 12 45 := ⟨by decide, by decide, uxW_all (ws := [_]) (by decide +kernel) _ List.mem_cons_self⟩
theorem fkX12_107 : FLK RX12 107 12 46 := ⟨by decide, by decide, uxW_all (ws := [_]) (by decide +kernel) _ List.mem_cons_self⟩
theorem fkX12_110 : FLK RX12 110 12 47 := ⟨by decide, by decide, uxW_all (ws := [_]) (by decide +kernel) _ List.mem_cons_self⟩
theorem fkX12_113 : FLK RX12 113 12 48 := ⟨by decide, by decide, uxW_all (ws := [_]) (by decide +kernel) _ List.mem_cons_self⟩
theorem fkX12_116 : FLK RX12 116 12 49 := ⟨by decide, by decide, uxW_all (ws := [_]) (by decide +kernel) _ List.mem_cons_self⟩
theorem fkX12_119 : FLK RX12 119 12 50 := ⟨by decide, by decide, uxW_all (ws := [_]) (by decide +kernel) _ List.mem_cons_self⟩
theorem fkX12_122 : FLK RX12 122 12 51 := ⟨by decide, by decide, uxW_all (ws := [_]) (by decide +kernel) _ List.mem_cons_self⟩
theorem fkX12_125 : FLK RX12 125 12 52 := ⟨by decide, by decide, uxW_all (ws := [_]) (by decide +kernel) _ List.mem_cons_self⟩
theorem fkX12_128 : FLK RX12 128 12 54 := ⟨by decide, by decide, uxW_all (ws := [_]) (by decide +kernel) _ List.mem_cons_self⟩
theorem fkX12_131 : FLK RX12 131 12 55 := ⟨by decide, by decide, uxW_all (ws := [_]) (by decide +kernel) _ List.mem_cons_self⟩
theorem fkX12_134 : FLK RX12 134 12 56 := ⟨by decide, by decide, uxW_all (ws := [_]) (by decide +kernel) _ List.mem_cons_self⟩
theorem fkX12_137 : FLK RX12 137 12 57 := ⟨by decide, by decide, uxW_all (ws := [_]) (by decide +kernel) _ List.mem_cons_self⟩
theorem fkX12_140 : FLK RX12 140 12 58 := ⟨by decide, by decide, uxW_all (ws := [_]) (by decide +kernel) _ List.mem_cons_self⟩
theorem fkX12_143 : FLK RX12 143 12 59 := ⟨by decide, by decide, uxW_all (ws := [_]) (by decide +kernel) _ List.mem_cons_self⟩
theorem fkX12_146 : FLK RX12 146 12 61 := ⟨by decide, by decide, uxW_all (ws := [_]) (by decide +kernel) _ List.mem_cons_self⟩
theorem fkX12_149 : FLK RX12 149 12 62 := ⟨by decide, by decide, uxW_all (ws := [_]) (by decide +kernel) _ List.mem_cons_self⟩
theorem mkX12_152 : MLV RX12 152 mX12_tellsNothing 12 0 := ⟨by decide, rfl, uxW_all (by decide +kernel), ⟨by decide +kernel, by decide +kernel, by decide +kernel⟩, by decide⟩
theorem mkX12_155 : MLV RX12 155 mX12_stands 12 0 := ⟨by decide, rfl, uxW_all (by decide +kernel), ⟨by decide +kernel, by decide +kernel, by decide +kernel⟩, by decide⟩
theorem fkX12_158 : FLK RX12 158 12 0 := ⟨by decide, by decide, uxW_all (ws := [_]) (by decide +kernel) _ List.mem_cons_self⟩
theorem fkX12_161 : FLK RX12 161 12 1 := ⟨by decide, by decide, uxW_all (ws := [_]) (by decide +kernel) _ List.mem_cons_self⟩
theorem fkX12_164 : FLK RX12 164 12 2 := ⟨by decide, by decide, uxW_all (ws := [_]) (by decide +kernel) _ List.mem_cons_self⟩
theorem fkX12_167 : FLK RX12 167 12 4 := ⟨by decide, by decide, uxW_all (ws := [_]) (by decide +kernel) _ List.mem_cons_self⟩
theorem mkX12_170 : MLV RX12 170 mX12_byteAt 12 1 := ⟨by decide, rfl, uxW_all (by decide +kernel), ⟨by decide +kernel, by decide +kernel, by decide +kernel⟩, by decide⟩
theorem fkX12_174 : FLK RX12 174 12 5 := ⟨by decide, by decide, uxW_all (ws := [_]) (by decide +kernel) _ List.mem_cons_self⟩
theorem fkX12_177 : FLK RX12 177 12 6 := ⟨by decide, by decide, uxW_all (ws := [_]) (by decide +kernel) _ List.mem_cons_self⟩
theorem mkX12_180 : MLV RX12 180 mX12_blanks 12 0 := ⟨by decide, rfl, uxW_all (by decide +kernel), ⟨by decide +kernel, by decide +kernel, by decide +kernel⟩, by decide⟩
theorem mkX12_183 : MLS RX12 183 mX12_isDigit 1 := ⟨uxW_all (by decide +kernel), ⟨by decide +kernel, by decide +kernel, by decide +kernel⟩, by decide⟩
theorem mkX12_187 : MLV RX12 187 mX12_wrong 12 2 := ⟨by decide, rfl, uxW_all (by decide +kernel), ⟨by decide +kernel, by decide +kernel, by decide +kernel⟩, by decide⟩
theorem mkX12_192 : MLS RX12 192 mX12_in 3 := ⟨uxW_all (by decide +kernel), ⟨by decide +kernel, by decide +kernel, by decide +kernel⟩, by decide⟩
theorem mkX12_196 : MLS RX12 196 mX12_isSmall 1 := ⟨uxW_all (by decide +kernel), ⟨by decide +kernel, by decide +kernel, by decide +kernel⟩, by decide⟩
theorem mkX12_199 : MLV RX12 199 mX12_wordHere 12 0 := ⟨by decide, rfl, uxW_all (by decide +kernel), ⟨by decide +kernel, by decide +kernel, by decide +kernel⟩, by decide⟩
theorem mkX12_203 : MLS RX12 203 mX12_six 6 := ⟨uxW_all (by decide +kernel), ⟨by decide +kernel, by decide +kernel, by decide +kernel⟩, by decide⟩
theorem mkX12_207 : MLV RX12 207 mX12_isWord 12 6 := ⟨by decide, rfl, uxW_all (by decide +kernel), ⟨by decide +kernel, by decide +kernel, by decide +kernel⟩, by decide⟩
theorem mkX12_211 : MLV RX12 211 mX12_skipWord 12 0 := ⟨by decide, rfl, uxW_all (by decide +kernel), ⟨by decide +kernel, by decide +kernel, by decide +kernel⟩, by decide⟩
theorem fkX12_214 : FLK RX12 214 12 7 := ⟨by decide, by decide, uxW_all (ws := [_]) (by decide +kernel) _ List.mem_cons_self⟩
theorem fkX12_217 : FLK RX12 217 12 8 := ⟨by decide, by decide, uxW_all (ws := [_]) (by decide +kernel) _ List.mem_cons_self⟩
theorem mkX12_220 : MLV RX12 220 mX12_number 12 2 := ⟨by decide, rfl, uxW_all (by decide +kernel), ⟨by decide +kernel, by decide +kernel, by decide +kernel⟩, by decide⟩
theorem mkX12_224 : MLV RX12 224 mX12_sign 12 1 := ⟨by decide, rfl, uxW_all (by decide +kernel), ⟨by decide +kernel, by decide +kernel, by decide +kernel⟩, by decide⟩
theorem mkX12_228 : MLV RX12 228 mX12_bad 12 3 := ⟨by decide, rfl, uxW_all (by decide +kernel), ⟨by decide +kernel, by decide +kernel, by decide +kernel⟩, by decide⟩
theorem mkX12_232 : MLV RX12 232 mX12_starts 12 1 := ⟨by decide, rfl, uxW_all (by decide +kernel), ⟨by decide +kernel, by decide +kernel, by decide +kernel⟩, by decide⟩
theorem mkX12_235 : MLV RX12 235 mX12_clause 12 0 := ⟨by decide, rfl, uxW_all (by decide +kernel), ⟨by decide +kernel, by decide +kernel, by decide +kernel⟩, by decide⟩
theorem mkX12_238 : MLV RX12 238 mX12_ends 12 0 := ⟨by decide, rfl, uxW_all (by decide +kernel), ⟨by decide +kernel, by decide +kernel, by decide +kernel⟩, by decide⟩
theorem fkX12_241 : FLK RX12 241 12 28 := ⟨by decide, by decide, uxW_all (ws := [_]) (by decide +kernel) _ List.mem_cons_self⟩
theorem fkX12_244 : FLK RX12 244 12 29 := ⟨by decide, by decide, uxW_all (ws := [_]) (by decide +kernel) _ List.mem_cons_self⟩
theorem fkX12_247 : FLK RX12 247 12 30 := ⟨by decide, by decide, uxW_all (ws := [_]) (by decide +kernel) _ List.mem_cons_self⟩
theorem fkX12_250 : FLK RX12 250 12 31 := ⟨by decide, by decide, uxW_all (ws := [_]) (by decide +kernel) _ List.mem_cons_self⟩
theorem fkX12_253 : FLK RX12 253 12 27 := ⟨by decide, by decide, uxW_all (ws := [_]) (by decide +kernel) _ List.mem_cons_self⟩
theorem mkX12_256 : MLV RX12 256 mX12_product 12 0 := ⟨by decide, rfl, uxW_all (by decide +kernel), ⟨by decide +kernel, by decide +kernel, by decide +kernel⟩, by decide⟩
theorem mkX12_259 : MLV RX12 259 mX12_takesSign 12 1 := ⟨by decide, rfl, uxW_all (by decide +kernel), ⟨by decide +kernel, by decide +kernel, by decide +kernel⟩, by decide⟩
theorem mkX12_262 : MLV RX12 262 mX12_notes 12 2 := ⟨by decide, rfl, uxW_all (by decide +kernel), ⟨by decide +kernel, by decide +kernel, by decide +kernel⟩, by decide⟩
theorem mkX12_265 : MLV RX12 265 mX12_one 12 0 := ⟨by decide, rfl, uxW_all (by decide +kernel), ⟨by decide +kernel, by decide +kernel, by decide +kernel⟩, by decide⟩
theorem mkX12_268 : MLV RX12 268 mX12_takes 12 6 := ⟨by decide, rfl, uxW_all (by decide +kernel), ⟨by decide +kernel, by decide +kernel, by decide +kernel⟩, by decide⟩
theorem mkX12_271 : MLV RX12 271 mX12_opens 12 0 := ⟨by decide, rfl, uxW_all (by decide +kernel), ⟨by decide +kernel, by decide +kernel, by decide +kernel⟩, by decide⟩
theorem mkX12_275 : MLV RX12 275 mX12_sum 12 0 := ⟨by decide, rfl, uxW_all (by decide +kernel), ⟨by decide +kernel, by decide +kernel, by decide +kernel⟩, by decide⟩
theorem mkX12_278 : MLV RX12 278 mX12_knownHere 12 0 := ⟨by decide, rfl, uxW_all (by decide +kernel), ⟨by decide +kernel, by decide +kernel, by decide +kernel⟩, by decide⟩
theorem fkX12_281 : FLK RX12 281 12 33 := ⟨by decide, by decide, uxW_all (ws := [_]) (by decide +kernel) _ List.mem_cons_self⟩
theorem mkX12_285 : MLV RX12 285 mX12_isGuest 12 1 := ⟨by decide, rfl, uxW_all (by decide +kernel), ⟨by decide +kernel, by decide +kernel, by decide +kernel⟩, by decide⟩
theorem mkX12_288 : MLS RX12 288 mX12_less 2 := ⟨uxW_all (by decide +kernel), ⟨by decide +kernel, by decide +kernel, by decide +kernel⟩, by decide⟩
theorem mkX12_291 : MLS RX12 291 mX12_greater 2 := ⟨uxW_all (by decide +kernel), ⟨by decide +kernel, by decide +kernel, by decide +kernel⟩, by decide⟩
theorem mkX12_294 : MLS RX12 294 mX12_by 3 := ⟨uxW_all (by decide +kernel), ⟨by decide +kernel, by decide +kernel, by decide +kernel⟩, by decide⟩
theorem mkX12_298 : MLS RX12 298 mX12_isHalf 1 := ⟨uxW_all (by decide +kernel), ⟨by decide +kernel, by decide +kernel, by decide +kernel⟩, by decide⟩
theorem mkX12_301 : MLV RX12 301 mX12_knowsSelf 12 1 := ⟨by decide, rfl, uxW_all (by decide +kernel), ⟨by decide +kernel, by decide +kernel, by decide +kernel⟩, by decide⟩
theorem mkX12_304 : MLV RX12 304 mX12_comesBy 12 1 := ⟨by decide, rfl, uxW_all (by decide +kernel), ⟨by decide +kernel, by decide +kernel, by decide +kernel⟩, by decide⟩
theorem mkX12_307 : MLV RX12 307 mX12_isChair 12 1 := ⟨by decide, rfl, uxW_all (by decide +kernel), ⟨by decide +kernel, by decide +kernel, by decide +kernel⟩, by decide⟩
theorem mkX12_310 : MLV RX12 310 mX12_worthOf 12 3 := ⟨by decide, rfl, uxW_all (by decide +kernel), ⟨by decide +kernel, by decide +kernel, by decide +kernel⟩, by decide⟩
theorem fkX12_313 : FLK RX12 313 12 53 := ⟨by decide, by decide, uxW_all (ws := [_]) (by decide +kernel) _ List.mem_cons_self⟩
theorem mkX12_316 : MLV RX12 316 mX12_frees 12 1 := ⟨by decide, rfl, uxW_all (by decide +kernel), ⟨by decide +kernel, by decide +kernel, by decide +kernel⟩, by decide⟩
theorem mkX12_319 : MLV RX12 319 mX12_hotelGoes 12 1 := ⟨by decide, rfl, uxW_all (by decide +kernel), ⟨by decide +kernel, by decide +kernel, by decide +kernel⟩, by decide⟩
theorem mkX12_322 : MLV RX12 322 mX12_guestOfRank 12 1 := ⟨by decide, rfl, uxW_all (by decide +kernel), ⟨by decide +kernel, by decide +kernel, by decide +kernel⟩, by decide⟩
theorem mkX12_325 : MLV RX12 325 mX12_sits 12 2 := ⟨by decide, rfl, uxW_all (by decide +kernel), ⟨by decide +kernel, by decide +kernel, by decide +kernel⟩, by decide⟩
theorem mkX12_329 : MLV RX12 329 mX12_nextWaiting 12 2 := ⟨by decide, rfl, uxW_all (by decide +kernel), ⟨by decide +kernel, by decide +kernel, by decide +kernel⟩, by decide⟩
theorem mkX12_332 : MLV RX12 332 mX12_half 12 1 := ⟨by decide, rfl, uxW_all (by decide +kernel), ⟨by decide +kernel, by decide +kernel, by decide +kernel⟩, by decide⟩
theorem mkX12_335 : MLV RX12 335 mX12_lostOf 12 1 := ⟨by decide, rfl, uxW_all (by decide +kernel), ⟨by decide +kernel, by decide +kernel, by decide +kernel⟩, by decide⟩
theorem mkX12_338 : MLV RX12 338 mX12_ranksByNumber 12 0 := ⟨by decide, rfl, uxW_all (by decide +kernel), ⟨by decide +kernel, by decide +kernel, by decide +kernel⟩, by decide⟩
theorem mkX12_341 : MLV RX12 341 mX12_runs 12 0 := ⟨by decide, rfl, uxW_all (by decide +kernel), ⟨by decide +kernel, by decide +kernel, by decide +kernel⟩, by decide⟩
theorem mkX12_344 : MLV RX12 344 mX12_asks 12 1 := ⟨by decide, rfl, uxW_all (by decide +kernel), ⟨by decide +kernel, by decide +kernel, by decide +kernel⟩, by decide⟩
theorem mkX12_347 : MLV RX12 347 mX12_begins 12 0 := ⟨by decide, rfl, uxW_all (by decide +kernel), ⟨by decide +kernel, by decide +kernel, by decide +kernel⟩, by decide⟩
theorem mkX12_350 : MLV RX12 350 mX12_goesTo 12 1 := ⟨by decide, rfl, uxW_all (by decide +kernel), ⟨by decide +kernel, by decide +kernel, by decide +kernel⟩, by decide⟩
theorem mkX12_353 : MLV RX12 353 mX12_dayNow 12 0 := ⟨by decide, rfl, uxW_all (by decide +kernel), ⟨by decide +kernel, by decide +kernel, by decide +kernel⟩, by decide⟩
theorem mkX12_356 : MLV RX12 356 mX12_netOf 12 1 := ⟨by decide, rfl, uxW_all (by decide +kernel), ⟨by decide +kernel, by decide +kernel, by decide +kernel⟩, by decide⟩
theorem mkX12_359 : MLV RX12 359 mX12_allGot 12 0 := ⟨by decide, rfl, uxW_all (by decide +kernel), ⟨by decide +kernel, by decide +kernel, by decide +kernel⟩, by decide⟩
theorem mkX12_362 : MLV RX12 362 mX12_allIdle 12 0 := ⟨by decide, rfl, uxW_all (by decide +kernel), ⟨by decide +kernel, by decide +kernel, by decide +kernel⟩, by decide⟩
theorem mkX12_365 : MLV RX12 365 mX12_allLost 12 0 := ⟨by decide, rfl, uxW_all (by decide +kernel), ⟨by decide +kernel, by decide +kernel, by decide +kernel⟩, by decide⟩
theorem mkX12_368 : MLV RX12 368 mX12_isAs 12 2 := ⟨by decide, rfl, uxW_all (by decide +kernel), ⟨by decide +kernel, by decide +kernel, by decide +kernel⟩, by decide⟩
theorem mkX12_372 : MLS RX12 372 mX12_power 2 := ⟨uxW_all (by decide +kernel), ⟨by decide +kernel, by decide +kernel, by decide +kernel⟩, by decide⟩
theorem mkX12_375 : MLV RX12 375 mX12_comeBy 12 2 := ⟨by decide, rfl, uxW_all (by decide +kernel), ⟨by decide +kernel, by decide +kernel, by decide +kernel⟩, by decide⟩
theorem mkX12_378 : MLV RX12 378 mX12_laysGiven 12 1 := ⟨by decide, rfl, uxW_all (by decide +kernel), ⟨by decide +kernel, by decide +kernel, by decide +kernel⟩, by decide⟩
theorem mkX12_381 : MLV RX12 381 mX12_wantAt 12 1 := ⟨by decide, rfl, uxW_all (by decide +kernel), ⟨by decide +kernel, by decide +kernel, by decide +kernel⟩, by decide⟩
theorem fkX12_384 : FLK RX12 384 12 60 := ⟨by decide, by decide, uxW_all (ws := [_]) (by decide +kernel) _ List.mem_cons_self⟩
theorem mkX12_388 : MLV RX12 388 mX12_draw 12 1 := ⟨by decide, rfl, uxW_all (by decide +kernel), ⟨by decide +kernel, by decide +kernel, by decide +kernel⟩, by decide⟩
theorem mkX12_391 : MLV RX12 391 mX12_drawsOrder 12 0 := ⟨by decide, rfl, uxW_all (by decide +kernel), ⟨by decide +kernel, by decide +kernel, by decide +kernel⟩, by decide⟩
theorem mkX12_394 : MLV RX12 394 mX12_lotNow 12 1 := ⟨by decide, rfl, uxW_all (by decide +kernel), ⟨by decide +kernel, by decide +kernel, by decide +kernel⟩, by decide⟩
theorem mkX12_397 : MLV RX12 397 mX12_rightBy 12 1 := ⟨by decide, rfl, uxW_all (by decide +kernel), ⟨by decide +kernel, by decide +kernel, by decide +kernel⟩, by decide⟩
theorem fkX12_400 : FLK RX12 400 12 32 := ⟨by decide, by decide, uxW_all (ws := [_]) (by decide +kernel) _ List.mem_cons_self⟩
theorem mkX12_403 : MLV RX12 403 mX12_puts 12 3 := ⟨by decide, rfl, uxW_all (by decide +kernel), ⟨by decide +kernel, by decide +kernel, by decide +kernel⟩, by decide⟩
theorem mkX12_407 : MLV RX12 407 mX12_putsChanged 12 2 := ⟨by decide, rfl, uxW_all (by decide +kernel), ⟨by decide +kernel, by decide +kernel, by decide +kernel⟩, by decide⟩
theorem mkX12_411 : MLV RX12 411 mX12_changes 12 0 := ⟨by decide, rfl, uxW_all (by decide +kernel), ⟨by decide +kernel, by decide +kernel, by decide +kernel⟩, by decide⟩
theorem mkX12_413 : MLV RX12 413 mX12_putsAll 12 2 := ⟨by decide, rfl, uxW_all (by decide +kernel), ⟨by decide +kernel, by decide +kernel, by decide +kernel⟩, by decide⟩
theorem mkL_7 : MLV RL 7 mX11_pool 11 1 := ⟨by decide, rfl, uxW_all (by decide +kernel), ⟨by decide +kernel, by decide +kernel, by decide +kernel⟩, by decide⟩
theorem mkL_15 : MLV RL 15 mX11_habit 11 2 := ⟨by decide, rfl, uxW_all (by decide +kernel), ⟨by decide +kernel, by decide +kernel, by decide +kernel⟩, by decide⟩
theorem mkL_21 : MLV RL 21 mX11_book 11 1 := ⟨by decide, rfl, uxW_all (by decide +kernel), ⟨by decide +kernel, by decide +kernel, by decide +kernel⟩, by decide⟩
theorem mkL_24 : MLV RL 24 mX11_told 11 1 := ⟨by decide, rfl, uxW_all (by decide +kernel), ⟨by decide +kernel, by decide +kernel, by decide +kernel⟩, by decide⟩
theorem mkL_27 : MLV RL 27 mX11_chair 11 2 := ⟨by decide, rfl, uxW_all (by decide +kernel), ⟨by decide +kernel, by decide +kernel, by decide +kernel⟩, by decide⟩
theorem mkL_30 : MLV RL 30 mX11_guest 11 2 := ⟨by decide, rfl, uxW_all (by decide +kernel), ⟨by decide +kernel, by decide +kernel, by decide +kernel⟩, by decide⟩
theorem mkL_33 : MLV RL 33 mX11_day 11 1 := ⟨by decide, rfl, uxW_all (by decide +kernel), ⟨by decide +kernel, by decide +kernel, by decide +kernel⟩, by decide⟩
theorem mkL_36 : MLV RL 36 mX11_did 11 2 := ⟨by decide, rfl, uxW_all (by decide +kernel), ⟨by decide +kernel, by decide +kernel, by decide +kernel⟩, by decide⟩
theorem mkL_39 : MLV RL 39 mX11_towel 11 2 := ⟨by decide, rfl, uxW_all (by decide +kernel), ⟨by decide +kernel, by decide +kernel, by decide +kernel⟩, by decide⟩
theorem mkL_42 : MLV RL 42 mX11_lies 11 2 := ⟨by decide, rfl, uxW_all (by decide +kernel), ⟨by decide +kernel, by decide +kernel, by decide +kernel⟩, by decide⟩
theorem mkL_45 : MLV RL 45 mX11_waits 11 1 := ⟨by decide, rfl, uxW_all (by decide +kernel), ⟨by decide +kernel, by decide +kernel, by decide +kernel⟩, by decide⟩
theorem mkL_48 : MLV RL 48 mX11_sums 11 1 := ⟨by decide, rfl, uxW_all (by decide +kernel), ⟨by decide +kernel, by decide +kernel, by decide +kernel⟩, by decide⟩
theorem mkL_51 : MLV RL 51 mX11_worth 11 3 := ⟨by decide, rfl, uxW_all (by decide +kernel), ⟨by decide +kernel, by decide +kernel, by decide +kernel⟩, by decide⟩
theorem mkL_55 : MLV RL 55 mX11_would 11 7 := ⟨by decide, rfl, uxW_all (by decide +kernel), ⟨by decide +kernel, by decide +kernel, by decide +kernel⟩, by decide⟩
theorem mkL_59 : MLV RL 59 mX11_round 11 1 := ⟨by decide, rfl, uxW_all (by decide +kernel), ⟨by decide +kernel, by decide +kernel, by decide +kernel⟩, by decide⟩
theorem mkL_62 : MLV RL 62 mX11_out 11 1 := ⟨by decide, rfl, uxW_all (by decide +kernel), ⟨by decide +kernel, by decide +kernel, by decide +kernel⟩, by decide⟩
theorem mkL_65 : MLV RL 65 mX11_had 11 2 := ⟨by decide, rfl, uxW_all (by decide +kernel), ⟨by decide +kernel, by decide +kernel, by decide +kernel⟩, by decide⟩
theorem mkL_68 : MLV RL 68 mX11_still 11 2 := ⟨by decide, rfl, uxW_all (by decide +kernel), ⟨by decide +kernel, by decide +kernel, by decide +kernel⟩, by decide⟩
theorem mkL_73 : MLV RL 73 mX11_net 11 2 := ⟨by decide, rfl, uxW_all (by decide +kernel), ⟨by decide +kernel, by decide +kernel, by decide +kernel⟩, by decide⟩
theorem mkL_76 : MLV RL 76 mX11_gets 11 1 := ⟨by decide, rfl, uxW_all (by decide +kernel), ⟨by decide +kernel, by decide +kernel, by decide +kernel⟩, by decide⟩
theorem mkL_79 : MLV RL 79 mX11_more 11 2 := ⟨by decide, rfl, uxW_all (by decide +kernel), ⟨by decide +kernel, by decide +kernel, by decide +kernel⟩, by decide⟩
theorem mkL_82 : MLV RL 82 mX11_want 11 1 := ⟨by decide, rfl, uxW_all (by decide +kernel), ⟨by decide +kernel, by decide +kernel, by decide +kernel⟩, by decide⟩
theorem mkL_85 : MLV RL 85 mX11_just 11 1 := ⟨by decide, rfl, uxW_all (by decide +kernel), ⟨by decide +kernel, by decide +kernel, by decide +kernel⟩, by decide⟩
theorem mkL_88 : MLV RL 88 mX11_off 11 1 := ⟨by decide, rfl, uxW_all (by decide +kernel), ⟨by decide +kernel, by decide +kernel, by decide +kernel⟩, by decide⟩
theorem mkL_91 : MLV RL 91 mX11_turnsOf 11 1 := ⟨by decide, rfl, uxW_all (by decide +kernel), ⟨by decide +kernel, by decide +kernel, by decide +kernel⟩, by decide⟩
theorem mkL_94 : MLV RL 94 mX11_lot 11 2 := ⟨by decide, rfl, uxW_all (by decide +kernel), ⟨by decide +kernel, by decide +kernel, by decide +kernel⟩, by decide⟩
theorem mkL_97 : MLV RL 97 mX11_lucky 11 3 := ⟨by decide, rfl, uxW_all (by decide +kernel), ⟨by decide +kernel, by decide +kernel, by decide +kernel⟩, by decide⟩
theorem mkL_100 : MLV RL 100 mX11_summer 11 3 := ⟨by decide, rfl, uxW_all (by decide +kernel), ⟨by decide +kernel, by decide +kernel, by decide +kernel⟩, by decide⟩
theorem mkL_103 : MLV RL 103 mX11_fits 11 1 := ⟨by decide, rfl, uxW_all (by decide +kernel), ⟨by decide +kernel, by decide +kernel, by decide +kernel⟩, by decide⟩
theorem mkL_106 : MLV RL 106 mX11_early 11 1 := ⟨by decide, rfl, uxW_all (by decide +kernel), ⟨by decide +kernel, by decide +kernel, by decide +kernel⟩, by decide⟩
theorem mkL_109 : MLV RL 109 mX11_hotel 11 2 := ⟨by decide, rfl, uxW_all (by decide +kernel), ⟨by decide +kernel, by decide +kernel, by decide +kernel⟩, by decide⟩
theorem mkL_112 : MLV RL 112 mX11_hire 11 1 := ⟨by decide, rfl, uxW_all (by decide +kernel), ⟨by decide +kernel, by decide +kernel, by decide +kernel⟩, by decide⟩
theorem mkL_115 : MLV RL 115 mX11_wakes 11 2 := ⟨by decide, rfl, uxW_all (by decide +kernel), ⟨by decide +kernel, by decide +kernel, by decide +kernel⟩, by decide⟩
theorem mkL_122 : MLV RL 122 mX11_feed 11 5 := ⟨by decide, rfl, uxW_all (by decide +kernel), ⟨by decide +kernel, by decide +kernel, by decide +kernel⟩, by decide⟩
theorem mkL_126 : MLV RL 126 mX12_feed 12 5 := ⟨by decide, rfl, uxW_all (by decide +kernel), ⟨by decide +kernel, by decide +kernel, by decide +kernel⟩, by decide⟩
theorem mkL_132 : MLV RL 132 mX12_pool 12 1 := ⟨by decide, rfl, uxW_all (by decide +kernel), ⟨by decide +kernel, by decide +kernel, by decide +kernel⟩, by decide⟩
theorem mkL_133 : MLV RL 133 mX12_thrown 12 0 := ⟨by decide, rfl, uxW_all (by decide +kernel), ⟨by decide +kernel, by decide +kernel, by decide +kernel⟩, by decide⟩
theorem mkL_140 : MLV RL 140 mX12_habit 12 2 := ⟨by decide, rfl, uxW_all (by decide +kernel), ⟨by decide +kernel, by decide +kernel, by decide +kernel⟩, by decide⟩
theorem mkL_143 : MLV RL 143 mX12_book 12 1 := ⟨by decide, rfl, uxW_all (by decide +kernel), ⟨by decide +kernel, by decide +kernel, by decide +kernel⟩, by decide⟩
theorem mkL_144 : MLV RL 144 mX11_fault 11 0 := ⟨by decide, rfl, uxW_all (by decide +kernel), ⟨by decide +kernel, by decide +kernel, by decide +kernel⟩, by decide⟩
theorem mkL_147 : MLV RL 147 mX12_fault 12 0 := ⟨by decide, rfl, uxW_all (by decide +kernel), ⟨by decide +kernel, by decide +kernel, by decide +kernel⟩, by decide⟩
theorem mkL_150 : MLV RL 150 mX12_told 12 1 := ⟨by decide, rfl, uxW_all (by decide +kernel), ⟨by decide +kernel, by decide +kernel, by decide +kernel⟩, by decide⟩
theorem mkL_153 : MLV RL 153 mX12_chair 12 2 := ⟨by decide, rfl, uxW_all (by decide +kernel), ⟨by decide +kernel, by decide +kernel, by decide +kernel⟩, by decide⟩
theorem mkL_156 : MLV RL 156 mX12_guest 12 2 := ⟨by decide, rfl, uxW_all (by decide +kernel), ⟨by decide +kernel, by decide +kernel, by decide +kernel⟩, by decide⟩
theorem mkL_159 : MLV RL 159 mX12_day 12 1 := ⟨by decide, rfl, uxW_all (by decide +kernel), ⟨by decide +kernel, by decide +kernel, by decide +kernel⟩, by decide⟩
theorem mkL_162 : MLV RL 162 mX12_did 12 2 := ⟨by decide, rfl, uxW_all (by decide +kernel), ⟨by decide +kernel, by decide +kernel, by decide +kernel⟩, by decide⟩
theorem mkL_165 : MLV RL 165 mX12_towel 12 2 := ⟨by decide, rfl, uxW_all (by decide +kernel), ⟨by decide +kernel, by decide +kernel, by decide +kernel⟩, by decide⟩
theorem mkL_168 : MLV RL 168 mX12_lies 12 2 := ⟨by decide, rfl, uxW_all (by decide +kernel), ⟨by decide +kernel, by decide +kernel, by decide +kernel⟩, by decide⟩
theorem mkL_171 : MLV RL 171 mX12_waits 12 1 := ⟨by decide, rfl, uxW_all (by decide +kernel), ⟨by decide +kernel, by decide +kernel, by decide +kernel⟩, by decide⟩
theorem mkL_174 : MLV RL 174 mX12_sums 12 1 := ⟨by decide, rfl, uxW_all (by decide +kernel), ⟨by decide +kernel, by decide +kernel, by decide +kernel⟩, by decide⟩
theorem mkL_178 : MLV RL 178 mX12_worth 12 3 := ⟨by decide, rfl, uxW_all (by decide +kernel), ⟨by decide +kernel, by decide +kernel, by decide +kernel⟩, by decide⟩
theorem mkL_182 : MLV RL 182 mX12_would 12 7 := ⟨by decide, rfl, uxW_all (by decide +kernel), ⟨by decide +kernel, by decide +kernel, by decide +kernel⟩, by decide⟩
theorem mkL_185 : MLV RL 185 mX12_round 12 1 := ⟨by decide, rfl, uxW_all (by decide +kernel), ⟨by decide +kernel, by decide +kernel, by decide +kernel⟩, by decide⟩
theorem mkL_188 : MLV RL 188 mX12_out 12 1 := ⟨by decide, rfl, uxW_all (by decide +kernel), ⟨by decide +kernel, by decide +kernel, by decide +kernel⟩, by decide⟩
theorem mkL_191 : MLV RL 191 mX12_had 12 2 := ⟨by decide, rfl, uxW_all (by decide +kernel), ⟨by decide +kernel, by decide +kernel, by decide +kernel⟩, by decide⟩
theorem mkL_194 : MLV RL 194 mX12_still 12 2 := ⟨by decide, rfl, uxW_all (by decide +kernel), ⟨by decide +kernel, by decide +kernel, by decide +kernel⟩, by decide⟩
theorem mkL_197 : MLV RL 197 mX12_net 12 2 := ⟨by decide, rfl, uxW_all (by decide +kernel), ⟨by decide +kernel, by decide +kernel, by decide +kernel⟩, by decide⟩
theorem mkL_198 : MLV RL 198 mX11_given 11 0 := ⟨by decide, rfl, uxW_all (by decide +kernel), ⟨by decide +kernel, by decide +kernel, by decide +kernel⟩, by decide⟩
theorem mkL_201 : MLV RL 201 mX12_given 12 0 := ⟨by decide, rfl, uxW_all (by decide +kernel), ⟨by decide +kernel, by decide +kernel, by decide +kernel⟩, by decide⟩
theorem mkL_204 : MLV RL 204 mX12_gets 12 1 := ⟨by decide, rfl, uxW_all (by decide +kernel), ⟨by decide +kernel, by decide +kernel, by decide +kernel⟩, by decide⟩
theorem mkL_205 : MLV RL 205 mX11_waste 11 0 := ⟨by decide, rfl, uxW_all (by decide +kernel), ⟨by decide +kernel, by decide +kernel, by decide +kernel⟩, by decide⟩
theorem mkL_208 : MLV RL 208 mX12_waste 12 0 := ⟨by decide, rfl, uxW_all (by decide +kernel), ⟨by decide +kernel, by decide +kernel, by decide +kernel⟩, by decide⟩
theorem mkL_211 : MLV RL 211 mX12_more 12 2 := ⟨by decide, rfl, uxW_all (by decide +kernel), ⟨by decide +kernel, by decide +kernel, by decide +kernel⟩, by decide⟩
theorem mkL_214 : MLV RL 214 mX12_want 12 1 := ⟨by decide, rfl, uxW_all (by decide +kernel), ⟨by decide +kernel, by decide +kernel, by decide +kernel⟩, by decide⟩
theorem mkL_217 : MLV RL 217 mX12_just 12 1 := ⟨by decide, rfl, uxW_all (by decide +kernel), ⟨by decide +kernel, by decide +kernel, by decide +kernel⟩, by decide⟩
theorem mkL_220 : MLV RL 220 mX12_off 12 1 := ⟨by decide, rfl, uxW_all (by decide +kernel), ⟨by decide +kernel, by decide +kernel, by decide +kernel⟩, by decide⟩
theorem mkL_223 : MLV RL 223 mX12_turnsOf 12 1 := ⟨by decide, rfl, uxW_all (by decide +kernel), ⟨by decide +kernel, by decide +kernel, by decide +kernel⟩, by decide⟩
theorem mkL_226 : MLV RL 226 mX12_lot 12 2 := ⟨by decide, rfl, uxW_all (by decide +kernel), ⟨by decide +kernel, by decide +kernel, by decide +kernel⟩, by decide⟩
theorem mkL_229 : MLV RL 229 mX12_lucky 12 3 := ⟨by decide, rfl, uxW_all (by decide +kernel), ⟨by decide +kernel, by decide +kernel, by decide +kernel⟩, by decide⟩
theorem mkL_232 : MLV RL 232 mX12_summer 12 3 := ⟨by decide, rfl, uxW_all (by decide +kernel), ⟨by decide +kernel, by decide +kernel, by decide +kernel⟩, by decide⟩
theorem mkL_235 : MLV RL 235 mX12_fits 12 1 := ⟨by decide, rfl, uxW_all (by decide +kernel), ⟨by decide +kernel, by decide +kernel, by decide +kernel⟩, by decide⟩
theorem mkL_236 : MLV RL 236 mX11_right 11 0 := ⟨by decide, rfl, uxW_all (by decide +kernel), ⟨by decide +kernel, by decide +kernel, by decide +kernel⟩, by decide⟩
theorem mkL_239 : MLV RL 239 mX12_right 12 0 := ⟨by decide, rfl, uxW_all (by decide +kernel), ⟨by decide +kernel, by decide +kernel, by decide +kernel⟩, by decide⟩
theorem mkL_242 : MLV RL 242 mX12_early 12 1 := ⟨by decide, rfl, uxW_all (by decide +kernel), ⟨by decide +kernel, by decide +kernel, by decide +kernel⟩, by decide⟩
theorem mkL_245 : MLV RL 245 mX12_hotel 12 2 := ⟨by decide, rfl, uxW_all (by decide +kernel), ⟨by decide +kernel, by decide +kernel, by decide +kernel⟩, by decide⟩
theorem mkL_248 : MLV RL 248 mX12_hire 12 1 := ⟨by decide, rfl, uxW_all (by decide +kernel), ⟨by decide +kernel, by decide +kernel, by decide +kernel⟩, by decide⟩
theorem mkL_251 : MLV RL 251 mX12_wakes 12 2 := ⟨by decide, rfl, uxW_all (by decide +kernel), ⟨by decide +kernel, by decide +kernel, by decide +kernel⟩, by decide⟩
theorem mkL_252 : MLV RL 252 mX11_undo 11 0 := ⟨by decide, rfl, uxW_all (by decide +kernel), ⟨by decide +kernel, by decide +kernel, by decide +kernel⟩, by decide⟩
theorem mkL_255 : MLV RL 255 mX12_undo 12 0 := ⟨by decide, rfl, uxW_all (by decide +kernel), ⟨by decide +kernel, by decide +kernel, by decide +kernel⟩, by decide⟩
theorem mkL_256 : MLV RL 256 mX11_image 11 0 := ⟨by decide, rfl, uxW_all (by decide +kernel), ⟨by decide +kernel, by decide +kernel, by decide +kernel⟩, by decide⟩
theorem mkL_259 : MLV RL 259 mX12_image 12 0 := ⟨by decide, rfl, uxW_all (by decide +kernel), ⟨by decide +kernel, by decide +kernel, by decide +kernel⟩, by decide⟩
theorem mkL_260 : MLV RL 260 mX11_restore 11 0 := ⟨by decide, rfl, uxW_all (by decide +kernel), ⟨by decide +kernel, by decide +kernel, by decide +kernel⟩, by decide⟩
theorem mkL_263 : MLV RL 263 mX12_restore 12 0 := ⟨by decide, rfl, uxW_all (by decide +kernel), ⟨by decide +kernel, by decide +kernel, by decide +kernel⟩, by decide⟩
theorem mkL_264 : MLV RL 264 mX11_status 11 1 := ⟨by decide, rfl, uxW_all (by decide +kernel), ⟨by decide +kernel, by decide +kernel, by decide +kernel⟩, by decide⟩
theorem mkL_267 : MLV RL 267 mX12_status 12 1 := ⟨by decide, rfl, uxW_all (by decide +kernel), ⟨by decide +kernel, by decide +kernel, by decide +kernel⟩, by decide⟩
theorem mkL_268 : MLV RL 268 mX11_count 11 1 := ⟨by decide, rfl, uxW_all (by decide +kernel), ⟨by decide +kernel, by decide +kernel, by decide +kernel⟩, by decide⟩
theorem mkL_271 : MLV RL 271 mX12_count 12 1 := ⟨by decide, rfl, uxW_all (by decide +kernel), ⟨by decide +kernel, by decide +kernel, by decide +kernel⟩, by decide⟩

theorem uxW_all {ws : List Cond} (h : ws.all (fun w => decide (w ∈ lw_tbl) && goodWord w) = true) : ∀ w ∈ ws, w ∈ uxW := by
  intro w hw
  have h1 := List.all_eq_true.mp h w hw
  simp only [Bool.and_eq_true, decide_eq_true_eq] at h1
  exact uxW_of h1.1 h1.2
theorem u_t1 {w : Cond} (i : Nat) (h0 : tables_1_1[i]? = some w) (hg : goodWord w = true) : w ∈ uxW := uxW_of (List.mem_append_right _ (by have h := List.mem_of_getElem? h0; exact List.mem_append_left _ h)) hg
theorem u_t2 {w : Cond} (i : Nat) (h0 : tables_1_2[i]? = some w) (hg : goodWord w = true) : w ∈ uxW := uxW_of (List.mem_append_right _ (by have h := List.mem_of_getElem? h0; exact List.mem_append_right _ (List.mem_append_left _ h))) hg
theorem u_t3 {w : Cond} (i : Nat) (h0 : tables_1_3[i]? = some w) (hg : goodWord w = true) : w ∈ uxW := uxW_of (List.mem_append_right _ (by have h := List.mem_of_getElem? h0; exact List.mem_append_right _ (List.mem_append_right _ (List.mem_append_left _ h)))) hg
theorem u_t4 {w : Cond} (i : Nat) (h0 : tables_1_4[i]? = some w) (hg : goodWord w = true) : w ∈ uxW := uxW_of (List.mem_append_right _ (by have h := List.mem_of_getElem? h0; exact List.mem_append_right _ (List.mem_append_right _ (List.mem_append_right _ (List.mem_append_left _ h))))) hg
theorem u_t5 {w : Cond} (i : Nat) (h0 : tables_1_5[i]? = some w) (hg : goodWord w = true) : w ∈ uxW := uxW_of (List.mem_append_right _ (by have h := List.mem_of_getElem? h0; exact List.mem_append_right _ (List.mem_append_right _ (List.mem_append_right _ (List.mem_append_right _ (List.mem_append_left _ h)))))) hg
theorem u_t6 {w : Cond} (i : Nat) (h0 : tables_1_6[i]? = some w) (hg : goodWord w = true) : w ∈ uxW := uxW_of (List.mem_append_right _ (by have h := List.mem_of_getElem? h0; exact List.mem_append_right _ (List.mem_append_right _ (List.mem_append_right _ (List.mem_append_right _ (List.mem_append_right _ (List.mem_append_left _ h))))))) hg
theorem u_t7 {w : Cond} (i : Nat) (h0 : tables_1_7[i]? = some w) (hg : goodWord w = true) : w ∈ uxW := uxW_of (List.mem_append_right _ (by have h := List.mem_of_getElem? h0; exact List.mem_append_right _ (List.mem_append_right _ (List.mem_append_right _ (List.mem_append_right _ (List.mem_append_right _ (List.mem_append_right _ (List.mem_append_left _ h)))))))) hg
theorem u_t8 {w : Cond} (i : Nat) (h0 : tables_1_8[i]? = some w) (hg : goodWord w = true) : w ∈ uxW := uxW_of (List.mem_append_right _ (by have h := List.mem_of_getElem? h0; exact List.mem_append_right _ (List.mem_append_right _ (List.mem_append_right _ (List.mem_append_right _ (List.mem_append_right _ (List.mem_append_right _ (List.mem_append_right _ (List.mem_append_left _ h))))))))) hg
theorem u_t9 {w : Cond} (i : Nat) (h0 : tables_1_9[i]? = some w) (hg : goodWord w = true) : w ∈ uxW := uxW_of (List.mem_append_right _ (by have h := List.mem_of_getElem? h0; exact List.mem_append_right _ (List.mem_append_right _ (List.mem_append_right _ (List.mem_append_right _ (List.mem_append_right _ (List.mem_append_right _ (List.mem_append_right _ (List.mem_append_right _ (h)))))))))) hg
theorem u_s1 {y : MethodName} (i n : Nat) (h0 : lw_privs_1[i]? = some (y, n)) (hg : goodWord (Cond.selects y.cls y y) = true) : Cond.selects y.cls y y ∈ uxW := uxW_of (List.mem_append_left _ (List.mem_map.mpr ⟨(y, n), by have h := List.mem_of_getElem? h0; exact List.mem_append_left _ h, rfl⟩)) hg
theorem u_s2 {y : MethodName} (i n : Nat) (h0 : lw_privs_2[i]? = some (y, n)) (hg : goodWord (Cond.selects y.cls y y) = true) : Cond.selects y.cls y y ∈ uxW := uxW_of (List.mem_append_left _ (List.mem_map.mpr ⟨(y, n), by have h := List.mem_of_getElem? h0; exact List.mem_append_right _ (List.mem_append_left _ h), rfl⟩)) hg
theorem u_s3 {y : MethodName} (i n : Nat) (h0 : lw_privs_3[i]? = some (y, n)) (hg : goodWord (Cond.selects y.cls y y) = true) : Cond.selects y.cls y y ∈ uxW := uxW_of (List.mem_append_left _ (List.mem_map.mpr ⟨(y, n), by have h := List.mem_of_getElem? h0; exact List.mem_append_right _ (List.mem_append_right _ (List.mem_append_left _ h)), rfl⟩)) hg
theorem u_s4 {y : MethodName} (i n : Nat) (h0 : lw_privs_4[i]? = some (y, n)) (hg : goodWord (Cond.selects y.cls y y) = true) : Cond.selects y.cls y y ∈ uxW := uxW_of (List.mem_append_left _ (List.mem_map.mpr ⟨(y, n), by have h := List.mem_of_getElem? h0; exact List.mem_append_right _ (List.mem_append_right _ (List.mem_append_right _ (List.mem_append_left _ h))), rfl⟩)) hg
theorem u_s5 {y : MethodName} (i n : Nat) (h0 : lw_privs_5[i]? = some (y, n)) (hg : goodWord (Cond.selects y.cls y y) = true) : Cond.selects y.cls y y ∈ uxW := uxW_of (List.mem_append_left _ (List.mem_map.mpr ⟨(y, n), by have h := List.mem_of_getElem? h0; exact List.mem_append_right _ (List.mem_append_right _ (List.mem_append_right _ (List.mem_append_right _ (List.mem_append_left _ h)))), rfl⟩)) hg
theorem u_s6 {y : MethodName} (i n : Nat) (h0 : lw_privs_6[i]? = some (y, n)) (hg : goodWord (Cond.selects y.cls y y) = true) : Cond.selects y.cls y y ∈ uxW := uxW_of (List.mem_append_left _ (List.mem_map.mpr ⟨(y, n), by have h := List.mem_of_getElem? h0; exact List.mem_append_right _ (List.mem_append_right _ (List.mem_append_right _ (List.mem_append_right _ (List.mem_append_right _ (List.mem_append_left _ h))))), rfl⟩)) hg
theorem u_s7 {y : MethodName} (i n : Nat) (h0 : lw_privs_7[i]? = some (y, n)) (hg : goodWord (Cond.selects y.cls y y) = true) : Cond.selects y.cls y y ∈ uxW := uxW_of (List.mem_append_left _ (List.mem_map.mpr ⟨(y, n), by have h := List.mem_of_getElem? h0; exact List.mem_append_right _ (List.mem_append_right _ (List.mem_append_right _ (List.mem_append_right _ (List.mem_append_right _ (List.mem_append_right _ (h)))))), rfl⟩)) hg
def CVok (M' : pMD) (c na : Nat) : Prop := c < 13 ∧ M'.1.cls = RC c ∧ Cond.instanceMethod M'.1 ∈ uxW ∧ Cond.selects (RC c) M'.1 M'.1 ∈ uxW ∧ Cond.initialized (RC c) ∈ uxW ∧ Cond.code M'.1 M'.2.1 M'.2.2.1 M'.2.2.2 ∈ uxW ∧ (M'.1.cls ≠ "java/lang/invoke/MethodHandle" ∧ M'.1.cls ≠ "java/lang/invoke/VarHandle" ∧ (parseMethodDescriptor M'.1.desc).map (fun d => d.parameters.length) = some na) ∧ M'.2.2.1 ≤ 29
theorem mlv_mk {own : String} {idx c na : Nat} {M' : pMD} (h : Cond.methodLink own idx M'.1 ∈ uxW) (hC : CVok M' c na) : MLV own idx M' c na := by
  obtain ⟨h1, h2, h3, h4, h5, h6, h7, h8⟩ := hC
  refine ⟨h1, h2, fun w hw => ?_, h7, h8⟩
  simp only [wsV, List.cons_append, List.nil_append, List.mem_cons, List.not_mem_nil, or_false] at hw
  rcases hw with rfl | rfl | rfl | rfl | rfl <;> assumption
def CSok (M' : pMD) (na : Nat) : Prop := Cond.static M'.1 ∈ uxW ∧ Cond.initialized M'.1.cls ∈ uxW ∧ Cond.code M'.1 M'.2.1 M'.2.2.1 M'.2.2.2 ∈ uxW ∧ (M'.1.cls ≠ "java/lang/invoke/MethodHandle" ∧ M'.1.cls ≠ "java/lang/invoke/VarHandle" ∧ (parseMethodDescriptor M'.1.desc).map (fun d => d.parameters.length) = some na) ∧ M'.2.2.1 ≤ 29
theorem mls_mk {own : String} {idx na : Nat} {M' : pMD} (h : Cond.methodLink own idx M'.1 ∈ uxW) (hC : CSok M' na) : MLS own idx M' na := by
  obtain ⟨h1, h2, h3, h4, h5⟩ := hC
  refine ⟨fun w hw => ?_, h4, h5⟩
  simp only [va_wsS, List.cons_append, List.nil_append, List.mem_cons, List.not_mem_nil, or_false] at hw
  rcases hw with rfl | rfl | rfl | rfl <;> assumption
abbrev mX0_init : pMD := (yX0_init, cX0_init, 1, none)
abbrev mX0_clear : pMD := (yX0_clear, cX0_clear, 1, none)
abbrev mX0_read : pMD := (yX0_read, cX0_read, 4, (some .boolean))
abbrev mX0_readLine : pMD := (yX0_readLine, cX0_readLine, 8, (some .boolean))
abbrev mX0_firstNotSo : pMD := (yX0_firstNotSo, cX0_firstNotSo, 6, (some .int))
abbrev mX1_init : pMD := (yX1_init, cX1_init, 1, none)
abbrev mX1_clear : pMD := (yX1_clear, cX1_clear, 1, none)
abbrev mX1_add : pMD := (yX1_add, cX1_add, 4, (some .boolean))
abbrev mX1_takeBack : pMD := (yX1_takeBack, cX1_takeBack, 4, none)
abbrev mX1_keepImage : pMD := (yX1_keepImage, cX1_keepImage, 3, (some .boolean))
abbrev mX1_takeImage : pMD := (yX1_takeImage, cX1_takeImage, 1, (some (.object "PoolTowels$Image")))
abbrev mX2_init : pMD := (yX2_init, cX2_init, 3, none)
abbrev mX2_goByNumber : pMD := (yX2_goByNumber, cX2_goByNumber, 2, none)
abbrev mX2_goByLot : pMD := (yX2_goByLot, cX2_goByLot, 6, (some .int))
abbrev mX2_run : pMD := (yX2_run, cX2_run, 4, none)
abbrev mX2_clear : pMD := (yX2_clear, cX2_clear, 4, none)
abbrev mX2_clearGuest : pMD := (yX2_clearGuest, cX2_clearGuest, 4, none)
abbrev mX2_leave : pMD := (yX2_leave, cX2_leave, 3, none)
abbrev mX2_takeOff : pMD := (yX2_takeOff, cX2_takeOff, 4, none)
abbrev mX2_arrive : pMD := (yX2_arrive, cX2_arrive, 4, none)
abbrev mX2_seatWaiting : pMD := (yX2_seatWaiting, cX2_seatWaiting, 4, none)
abbrev mX2_unqueue : pMD := (yX2_unqueue, cX2_unqueue, 4, none)
abbrev mX2_endWaiting : pMD := (yX2_endWaiting, cX2_endWaiting, 4, none)
abbrev mX2_takeBest : pMD := (yX2_takeBest, cX2_takeBest, 8, none)
abbrev mX2_giveUp : pMD := (yX2_giveUp, cX2_giveUp, 8, none)
abbrev mX2_reckonNet : pMD := (yX2_reckonNet, cX2_reckonNet, 3, none)
abbrev mX2_sleepLostBy : pMD := (yX2_sleepLostBy, cX2_sleepLostBy, 3, (some .int))
abbrev mX2_sleepLost : pMD := (yX2_sleepLost, cX2_sleepLost, 3, (some .int))
abbrev mX2_total : pMD := (yX2_total, cX2_total, 4, (some .int))
abbrev mX2_idle : pMD := (yX2_idle, cX2_idle, 3, (some .int))
abbrev mX2_seated : pMD := (yX2_seated, cX2_seated, 3, (some .int))
abbrev mX2_firstCame : pMD := (yX2_firstCame, cX2_firstCame, 3, (some .int))
abbrev mX3_init : pMD := (yX3_init, cX3_init, 4, none)
abbrev mX3_forget : pMD := (yX3_forget, cX3_forget, 1, none)
abbrev mX3_reach : pMD := (yX3_reach, cX3_reach, 3, none)
abbrev mX3_packed : pMD := (yX3_packed, cX3_packed, 4, (some .long))
abbrev mX3_seekRound : pMD := (yX3_seekRound, cX3_seekRound, 3, none)
abbrev mX3_asksDay : pMD := (yX3_asksDay, cX3_asksDay, 2, (some .boolean))
abbrev mX3_halfOf : pMD := (yX3_halfOf, cX3_halfOf, 3, (some .int))
abbrev mX3_tell : pMD := (yX3_tell, cX3_tell, 4, none)
abbrev mX3_wasSeated : pMD := (yX3_wasSeated, cX3_wasSeated, 3, (some .boolean))
abbrev mX4_init : pMD := (yX4_init, cX4_init, 2, none)
abbrev mX4_forget : pMD := (yX4_forget, cX4_forget, 1, none)
abbrev mX4_learn : pMD := (yX4_learn, cX4_learn, 4, none)
abbrev mX4_bestFrom : pMD := (yX4_bestFrom, cX4_bestFrom, 8, (some .int))
abbrev mX4_deal : pMD := (yX4_deal, cX4_deal, 3, none)
abbrev mX4_firstGift : pMD := (yX4_firstGift, cX4_firstGift, 6, (some .int))
abbrev mX4_mostWith : pMD := (yX4_mostWith, cX4_mostWith, 7, (some .int))
abbrev mX4_takersAt : pMD := (yX4_takersAt, cX4_takersAt, 4, (some .int))
abbrev mX4_bestOf : pMD := (yX4_bestOf, cX4_bestOf, 4, (some .int))
abbrev mX5_init : pMD := (yX5_init, cX5_init, 2, none)
abbrev mX5_read : pMD := (yX5_read, cX5_read, 1, (some .boolean))
abbrev mX5_readSum : pMD := (yX5_readSum, cX5_readSum, 5, (some .boolean))
abbrev mX5_readProduct : pMD := (yX5_readProduct, cX5_readProduct, 5, (some .boolean))
abbrev mX5_readUnit : pMD := (yX5_readUnit, cX5_readUnit, 4, (some .boolean))
abbrev mX5_mayOpen : pMD := (yX5_mayOpen, cX5_mayOpen, 2, (some .boolean))
abbrev mX5_readPair : pMD := (yX5_readPair, cX5_readPair, 3, (some .boolean))
abbrev mX5_readChoice : pMD := (yX5_readChoice, cX5_readChoice, 3, (some .boolean))
abbrev mX5_put : pMD := (yX5_put, cX5_put, 2, none)
abbrev mX6_init : pMD := (yX6_init, cX6_init, 1, none)
abbrev mX6_clear : pMD := (yX6_clear, cX6_clear, 2, none)
abbrev mX6_keep : pMD := (yX6_keep, cX6_keep, 3, none)
abbrev mX6_setCommon : pMD := (yX6_setCommon, cX6_setCommon, 5, none)
abbrev mX6_setOwn : pMD := (yX6_setOwn, cX6_setOwn, 5, none)
abbrev mX6_setGuest : pMD := (yX6_setGuest, cX6_setGuest, 3, none)
abbrev mX6_nextMorning : pMD := (yX6_nextMorning, cX6_nextMorning, 9, none)
abbrev mX6_comes : pMD := (yX6_comes, cX6_comes, 4, (some .int))
abbrev mX6_take : pMD := (yX6_take, cX6_take, 4, none)
abbrev mX6_join : pMD := (yX6_join, cX6_join, 3, (some .int))
abbrev mX6_push : pMD := (yX6_push, cX6_push, 2, none)
abbrev mX6_pop : pMD := (yX6_pop, cX6_pop, 1, (some .int))
abbrev mX7_init : pMD := (yX7_init, cX7_init, 1, none)
abbrev mX7_keep : pMD := (yX7_keep, cX7_keep, 4, none)
abbrev mX7_giveBack : pMD := (yX7_giveBack, cX7_giveBack, 3, none)
abbrev mX8_init : pMD := (yX8_init, cX8_init, 1, none)
abbrev mX8_clear : pMD := (yX8_clear, cX8_clear, 1, none)
abbrev mX8_copy : pMD := (yX8_copy, cX8_copy, 2, none)
abbrev mX8_read : pMD := (yX8_read, cX8_read, 3, (some .boolean))
abbrev mX8_readClause : pMD := (yX8_readClause, cX8_readClause, 5, (some .boolean))
abbrev mX8_readNumbers : pMD := (yX8_readNumbers, cX8_readNumbers, 3, (some .boolean))
abbrev mX8_readChair : pMD := (yX8_readChair, cX8_readChair, 4, (some .boolean))
abbrev mX8_readGuest : pMD := (yX8_readGuest, cX8_readGuest, 6, (some .boolean))
abbrev mX8_tellWaking : pMD := (yX8_tellWaking, cX8_tellWaking, 2, none)
abbrev mX8_goesBy : pMD := (yX8_goesBy, cX8_goesBy, 2, (some .boolean))
abbrev mX8_value : pMD := (yX8_value, cX8_value, 5, (some .int))
abbrev mX8_stretch : pMD := (yX8_stretch, cX8_stretch, 5, (some .int))
abbrev mX9_init : pMD := (yX9_init, cX9_init, 3, none)
abbrev mX9_forget : pMD := (yX9_forget, cX9_forget, 1, none)
abbrev mX9_find : pMD := (yX9_find, cX9_find, 4, none)
abbrev mX9_weigh : pMD := (yX9_weigh, cX9_weigh, 7, none)
abbrev mX9_isStill : pMD := (yX9_isStill, cX9_isStill, 5, (some .boolean))
abbrev mX9_setHalves : pMD := (yX9_setHalves, cX9_setHalves, 5, none)
abbrev mX9_place : pMD := (yX9_place, cX9_place, 4, (some .int))
abbrev mX9_digits : pMD := (yX9_digits, cX9_digits, 3, (some .int))
abbrev mX10_init : pMD := (yX10_init, cX10_init, 2, none)
abbrev mX10_begin : pMD := (yX10_begin, cX10_begin, 2, none)
abbrev mX10_fail : pMD := (yX10_fail, cX10_fail, 3, (some .boolean))
abbrev mX10_peek : pMD := (yX10_peek, cX10_peek, 1, (some .int))
abbrev mX10_takeSign : pMD := (yX10_takeSign, cX10_takeSign, 2, (some .boolean))
abbrev mX10_takeWord : pMD := (yX10_takeWord, cX10_takeWord, 2, (some .boolean))
abbrev mX10_number : pMD := (yX10_number, cX10_number, 5, (some .int))
abbrev mX10_which : pMD := (yX10_which, cX10_which, 6, (some .int))
abbrev mX10_passWord : pMD := (yX10_passWord, cX10_passWord, 1, none)
abbrev mX10_wordEnd : pMD := (yX10_wordEnd, cX10_wordEnd, 2, (some .int))
abbrev mX10_isAlike : pMD := (yX10_isAlike, cX10_isAlike, 5, (some .boolean))
abbrev mX10_isDigit : pMD := (yX10_isDigit, cX10_isDigit, 1, (some .boolean))
abbrev mX11_init : pMD := (yX11_init, cX11_init, 1, none)
abbrev mX11_feed : pMD := (yX11_feed, cX11_feed, 6, (some .int))
abbrev mX11_pool : pMD := (yX11_pool, cX11_pool, 2, (some .int))
abbrev mX11_habit : pMD := (yX11_habit, cX11_habit, 3, (some .int))
abbrev mX11_book : pMD := (yX11_book, cX11_book, 2, (some .int))
abbrev mX11_fault : pMD := (yX11_fault, cX11_fault, 1, (some .int))
abbrev mX11_told : pMD := (yX11_told, cX11_told, 2, (some .int))
abbrev mX11_chair : pMD := (yX11_chair, cX11_chair, 3, (some .int))
abbrev mX11_guest : pMD := (yX11_guest, cX11_guest, 3, (some .int))
abbrev mX11_day : pMD := (yX11_day, cX11_day, 3, (some .int))
abbrev mX11_did : pMD := (yX11_did, cX11_did, 3, (some .int))
abbrev mX11_towel : pMD := (yX11_towel, cX11_towel, 3, (some .int))
abbrev mX11_lies : pMD := (yX11_lies, cX11_lies, 4, (some .int))
abbrev mX11_waits : pMD := (yX11_waits, cX11_waits, 2, (some .int))
abbrev mX11_sums : pMD := (yX11_sums, cX11_sums, 2, (some .int))
abbrev mX11_worth : pMD := (yX11_worth, cX11_worth, 4, (some .int))
abbrev mX11_would : pMD := (yX11_would, cX11_would, 8, (some .int))
abbrev mX11_round : pMD := (yX11_round, cX11_round, 2, (some .int))
abbrev mX11_out : pMD := (yX11_out, cX11_out, 3, (some .int))
abbrev mX11_had : pMD := (yX11_had, cX11_had, 5, (some .int))
abbrev mX11_still : pMD := (yX11_still, cX11_still, 3, (some .int))
abbrev mX11_net : pMD := (yX11_net, cX11_net, 5, (some .int))
abbrev mX11_given : pMD := (yX11_given, cX11_given, 1, (some .int))
abbrev mX11_gets : pMD := (yX11_gets, cX11_gets, 2, (some .int))
abbrev mX11_waste : pMD := (yX11_waste, cX11_waste, 1, (some .int))
abbrev mX11_more : pMD := (yX11_more, cX11_more, 3, (some .int))
abbrev mX11_want : pMD := (yX11_want, cX11_want, 2, (some .int))
abbrev mX11_just : pMD := (yX11_just, cX11_just, 4, (some .int))
abbrev mX11_off : pMD := (yX11_off, cX11_off, 6, (some .int))
abbrev mX11_turnsOf : pMD := (yX11_turnsOf, cX11_turnsOf, 7, (some .int))
abbrev mX11_lot : pMD := (yX11_lot, cX11_lot, 3, (some .int))
abbrev mX11_lucky : pMD := (yX11_lucky, cX11_lucky, 6, (some .int))
abbrev mX11_summer : pMD := (yX11_summer, cX11_summer, 8, (some .int))
abbrev mX11_fits : pMD := (yX11_fits, cX11_fits, 4, (some .int))
abbrev mX11_right : pMD := (yX11_right, cX11_right, 1, (some .int))
abbrev mX11_early : pMD := (yX11_early, cX11_early, 4, (some .int))
abbrev mX11_hotel : pMD := (yX11_hotel, cX11_hotel, 3, (some .int))
abbrev mX11_hire : pMD := (yX11_hire, cX11_hire, 2, (some .int))
abbrev mX11_wakes : pMD := (yX11_wakes, cX11_wakes, 3, (some .int))
abbrev mX11_undo : pMD := (yX11_undo, cX11_undo, 1, (some .int))
abbrev mX11_image : pMD := (yX11_image, cX11_image, 1, (some .int))
abbrev mX11_restore : pMD := (yX11_restore, cX11_restore, 2, (some .int))
abbrev mX11_status : pMD := (yX11_status, cX11_status, 2, (some .int))
abbrev mX11_count : pMD := (yX11_count, cX11_count, 2, (some .int))
abbrev mX11_putBytes : pMD := (yX11_putBytes, cX11_putBytes, 3, none)
abbrev mX11_startText : pMD := (yX11_startText, cX11_startText, 2, none)
abbrev mX11_forgetDays : pMD := (yX11_forgetDays, cX11_forgetDays, 1, none)
abbrev mX11_look : pMD := (yX11_look, cX11_look, 1, none)
abbrev mX11_clearTally : pMD := (yX11_clearTally, cX11_clearTally, 2, none)
abbrev mX11_tallySeated : pMD := (yX11_tallySeated, cX11_tallySeated, 3, none)
abbrev mX11_firstOfMost : pMD := (yX11_firstOfMost, cX11_firstOfMost, 3, (some .int))
abbrev mX11_needGuest : pMD := (yX11_needGuest, cX11_needGuest, 2, none)
abbrev mX11_needChair : pMD := (yX11_needChair, cX11_needChair, 2, none)
abbrev mX11_needWithin : pMD := (yX11_needWithin, cX11_needWithin, 4, none)
abbrev mX11_needArgument : pMD := (yX11_needArgument, cX11_needArgument, 2, none)
abbrev mX11_needFewGuests : pMD := (yX11_needFewGuests, cX11_needFewGuests, 1, none)
abbrev mX12_init : pMD := (yX12_init, cX12_init, 1, none)
abbrev mX12_tellsNothing : pMD := (yX12_tellsNothing, cX12_tellsNothing, 2, none)
abbrev mX12_thrown : pMD := (yX12_thrown, cX12_thrown, 1, (some .int))
abbrev mX12_bad : pMD := (yX12_bad, cX12_bad, 4, (some .boolean))
abbrev mX12_in : pMD := (yX12_in, cX12_in, 3, (some .boolean))
abbrev mX12_less : pMD := (yX12_less, cX12_less, 2, (some .int))
abbrev mX12_greater : pMD := (yX12_greater, cX12_greater, 2, (some .int))
abbrev mX12_feed : pMD := (yX12_feed, cX12_feed, 8, (some .int))
abbrev mX12_byteAt : pMD := (yX12_byteAt, cX12_byteAt, 2, (some .int))
abbrev mX12_blanks : pMD := (yX12_blanks, cX12_blanks, 1, none)
abbrev mX12_wrong : pMD := (yX12_wrong, cX12_wrong, 3, none)
abbrev mX12_isDigit : pMD := (yX12_isDigit, cX12_isDigit, 1, (some .boolean))
abbrev mX12_isSmall : pMD := (yX12_isSmall, cX12_isSmall, 1, (some .boolean))
abbrev mX12_number : pMD := (yX12_number, cX12_number, 5, (some .int))
abbrev mX12_wordHere : pMD := (yX12_wordHere, cX12_wordHere, 3, (some .int))
abbrev mX12_six : pMD := (yX12_six, cX12_six, 7, (some .int))
abbrev mX12_isWord : pMD := (yX12_isWord, cX12_isWord, 7, (some .boolean))
abbrev mX12_skipWord : pMD := (yX12_skipWord, cX12_skipWord, 1, none)
abbrev mX12_takes : pMD := (yX12_takes, cX12_takes, 8, (some .boolean))
abbrev mX12_sign : pMD := (yX12_sign, cX12_sign, 2, none)
abbrev mX12_takesSign : pMD := (yX12_takesSign, cX12_takesSign, 3, (some .boolean))
abbrev mX12_starts : pMD := (yX12_starts, cX12_starts, 2, none)
abbrev mX12_ends : pMD := (yX12_ends, cX12_ends, 1, (some .int))
abbrev mX12_clause : pMD := (yX12_clause, cX12_clause, 3, none)
abbrev mX12_pool : pMD := (yX12_pool, cX12_pool, 2, (some .int))
abbrev mX12_stands : pMD := (yX12_stands, cX12_stands, 3, none)
abbrev mX12_notes : pMD := (yX12_notes, cX12_notes, 3, none)
abbrev mX12_opens : pMD := (yX12_opens, cX12_opens, 1, (some .boolean))
abbrev mX12_sum : pMD := (yX12_sum, cX12_sum, 2, none)
abbrev mX12_product : pMD := (yX12_product, cX12_product, 2, none)
abbrev mX12_knownHere : pMD := (yX12_knownHere, cX12_knownHere, 1, (some .int))
abbrev mX12_one : pMD := (yX12_one, cX12_one, 3, none)
abbrev mX12_isGuest : pMD := (yX12_isGuest, cX12_isGuest, 2, (some .boolean))
abbrev mX12_isChair : pMD := (yX12_isChair, cX12_isChair, 2, (some .boolean))
abbrev mX12_habit : pMD := (yX12_habit, cX12_habit, 4, (some .int))
abbrev mX12_by : pMD := (yX12_by, cX12_by, 3, (some .int))
abbrev mX12_comesBy : pMD := (yX12_comesBy, cX12_comesBy, 6, (some .int))
abbrev mX12_knowsSelf : pMD := (yX12_knowsSelf, cX12_knowsSelf, 2, none)
abbrev mX12_would : pMD := (yX12_would, cX12_would, 8, (some .int))
abbrev mX12_book : pMD := (yX12_book, cX12_book, 7, (some .int))
abbrev mX12_fault : pMD := (yX12_fault, cX12_fault, 1, (some .int))
abbrev mX12_told : pMD := (yX12_told, cX12_told, 2, (some .int))
abbrev mX12_isHalf : pMD := (yX12_isHalf, cX12_isHalf, 1, (some .boolean))
abbrev mX12_guest : pMD := (yX12_guest, cX12_guest, 3, (some .int))
abbrev mX12_worthOf : pMD := (yX12_worthOf, cX12_worthOf, 6, (some .int))
abbrev mX12_worth : pMD := (yX12_worth, cX12_worth, 4, (some .int))
abbrev mX12_ranksByNumber : pMD := (yX12_ranksByNumber, cX12_ranksByNumber, 2, none)
abbrev mX12_frees : pMD := (yX12_frees, cX12_frees, 2, none)
abbrev mX12_sits : pMD := (yX12_sits, cX12_sits, 5, (some .boolean))
abbrev mX12_hotelGoes : pMD := (yX12_hotelGoes, cX12_hotelGoes, 4, none)
abbrev mX12_nextWaiting : pMD := (yX12_nextWaiting, cX12_nextWaiting, 5, (some .int))
abbrev mX12_guestOfRank : pMD := (yX12_guestOfRank, cX12_guestOfRank, 3, (some .int))
abbrev mX12_half : pMD := (yX12_half, cX12_half, 5, none)
abbrev mX12_runs : pMD := (yX12_runs, cX12_runs, 2, none)
abbrev mX12_lostOf : pMD := (yX12_lostOf, cX12_lostOf, 2, (some .int))
abbrev mX12_netOf : pMD := (yX12_netOf, cX12_netOf, 2, (some .int))
abbrev mX12_allGot : pMD := (yX12_allGot, cX12_allGot, 3, (some .int))
abbrev mX12_allIdle : pMD := (yX12_allIdle, cX12_allIdle, 3, (some .int))
abbrev mX12_allLost : pMD := (yX12_allLost, cX12_allLost, 3, (some .int))
abbrev mX12_begins : pMD := (yX12_begins, cX12_begins, 2, none)
abbrev mX12_asks : pMD := (yX12_asks, cX12_asks, 5, none)
abbrev mX12_goesTo : pMD := (yX12_goesTo, cX12_goesTo, 3, none)
abbrev mX12_dayNow : pMD := (yX12_dayNow, cX12_dayNow, 1, none)
abbrev mX12_day : pMD := (yX12_day, cX12_day, 3, (some .int))
abbrev mX12_chair : pMD := (yX12_chair, cX12_chair, 3, (some .int))
abbrev mX12_did : pMD := (yX12_did, cX12_did, 3, (some .int))
abbrev mX12_towel : pMD := (yX12_towel, cX12_towel, 3, (some .int))
abbrev mX12_lies : pMD := (yX12_lies, cX12_lies, 3, (some .int))
abbrev mX12_waits : pMD := (yX12_waits, cX12_waits, 2, (some .int))
abbrev mX12_sums : pMD := (yX12_sums, cX12_sums, 4, (some .int))
abbrev mX12_isAs : pMD := (yX12_isAs, cX12_isAs, 4, (some .boolean))
abbrev mX12_round : pMD := (yX12_round, cX12_round, 4, (some .int))
abbrev mX12_out : pMD := (yX12_out, cX12_out, 3, (some .int))
abbrev mX12_had : pMD := (yX12_had, cX12_had, 5, (some .int))
abbrev mX12_power : pMD := (yX12_power, cX12_power, 4, (some .int))
abbrev mX12_comeBy : pMD := (yX12_comeBy, cX12_comeBy, 5, none)
abbrev mX12_still : pMD := (yX12_still, cX12_still, 13, (some .int))
abbrev mX12_net : pMD := (yX12_net, cX12_net, 3, (some .int))
abbrev mX12_laysGiven : pMD := (yX12_laysGiven, cX12_laysGiven, 6, (some .int))
abbrev mX12_given : pMD := (yX12_given, cX12_given, 1, (some .int))
abbrev mX12_gets : pMD := (yX12_gets, cX12_gets, 5, (some .int))
abbrev mX12_waste : pMD := (yX12_waste, cX12_waste, 1, (some .int))
abbrev mX12_more : pMD := (yX12_more, cX12_more, 4, (some .int))
abbrev mX12_wantAt : pMD := (yX12_wantAt, cX12_wantAt, 6, (some .int))
abbrev mX12_want : pMD := (yX12_want, cX12_want, 2, (some .int))
abbrev mX12_just : pMD := (yX12_just, cX12_just, 4, (some .int))
abbrev mX12_off : pMD := (yX12_off, cX12_off, 5, (some .int))
abbrev mX12_turnsOf : pMD := (yX12_turnsOf, cX12_turnsOf, 5, (some .int))
abbrev mX12_draw : pMD := (yX12_draw, cX12_draw, 2, (some .int))
abbrev mX12_drawsOrder : pMD := (yX12_drawsOrder, cX12_drawsOrder, 4, none)
abbrev mX12_lotNow : pMD := (yX12_lotNow, cX12_lotNow, 2, none)
abbrev mX12_lot : pMD := (yX12_lot, cX12_lot, 5, (some .int))
abbrev mX12_lucky : pMD := (yX12_lucky, cX12_lucky, 6, (some .int))
abbrev mX12_summer : pMD := (yX12_summer, cX12_summer, 9, (some .int))
abbrev mX12_rightBy : pMD := (yX12_rightBy, cX12_rightBy, 6, (some .int))
abbrev mX12_fits : pMD := (yX12_fits, cX12_fits, 4, (some .int))
abbrev mX12_right : pMD := (yX12_right, cX12_right, 1, (some .int))
abbrev mX12_early : pMD := (yX12_early, cX12_early, 4, (some .int))
abbrev mX12_puts : pMD := (yX12_puts, cX12_puts, 4, (some .int))
abbrev mX12_putsChanged : pMD := (yX12_putsChanged, cX12_putsChanged, 4, none)
abbrev mX12_changes : pMD := (yX12_changes, cX12_changes, 1, (some .boolean))
abbrev mX12_hotel : pMD := (yX12_hotel, cX12_hotel, 3, (some .int))
abbrev mX12_hire : pMD := (yX12_hire, cX12_hire, 2, (some .int))
abbrev mX12_wakes : pMD := (yX12_wakes, cX12_wakes, 3, (some .int))
abbrev mX12_undo : pMD := (yX12_undo, cX12_undo, 1, (some .int))
abbrev mX12_putsAll : pMD := (yX12_putsAll, cX12_putsAll, 5, none)
abbrev mX12_image : pMD := (yX12_image, cX12_image, 1, (some .int))
abbrev mX12_restore : pMD := (yX12_restore, cX12_restore, 1, (some .int))
abbrev mX12_status : pMD := (yX12_status, cX12_status, 2, (some .int))
abbrev mX12_count : pMD := (yX12_count, cX12_count, 2, (some .int))
abbrev mJ6_bitCount_0f7a4 : pMD := (yJ6_bitCount_0f7a4, cJ6_bitCount_0f7a4, 1, (some .int))
abbrev mJ9_max_7cf53 : pMD := (yJ9_max_7cf53, cJ9_max_7cf53, 2, (some .int))
abbrev mJ9_min_7cf53 : pMD := (yJ9_min_7cf53, cJ9_min_7cf53, 2, (some .int))
abbrev mJ0_length_8abf5 : pMD := (yJ0_length_8abf5, cJ0_length_8abf5, 1, (some .int))
abbrev mJ0_charAt_5068e : pMD := (yJ0_charAt_5068e, cJ0_charAt_5068e, 2, (some .char))
abbrev mJ0_coder_7d493 : pMD := (yJ0_coder_7d493, cJ0_coder_7d493, 1, (some .byte))
abbrev mJ0_isLatin1_aae02 : pMD := (yJ0_isLatin1_aae02, cJ0_isLatin1_aae02, 1, (some .boolean))
abbrev mJ0_checkIndex_df160 : pMD := (yJ0_checkIndex_df160, cJ0_checkIndex_df160, 2, none)
abbrev mJ1_charAt_3b067 : pMD := (yJ1_charAt_3b067, cJ1_charAt_3b067, 2, (some .char))
abbrev mJ2_getChar_3b067 : pMD := (yJ2_getChar_3b067, cJ2_getChar_3b067, 2, (some .char))
abbrev mJ2_length_9d52b : pMD := (yJ2_length_9d52b, cJ2_length_9d52b, 1, (some .int))
abbrev mJ2_charAt_3b067 : pMD := (yJ2_charAt_3b067, cJ2_charAt_3b067, 2, (some .char))
abbrev mJ2_checkIndex_2214a : pMD := (yJ2_checkIndex_2214a, cJ2_checkIndex_2214a, 2, none)
abbrev mJ3_checkIndex_8e157 : pMD := (yJ3_checkIndex_8e157, cJ3_checkIndex_8e157, 3, (some .int))
abbrev mL_pool : pMD := (yL_pool, cL_pool, 4, (some .int))
abbrev mL_habit : pMD := (yL_habit, cL_habit, 5, (some .int))
abbrev mL_book : pMD := (yL_book, cL_book, 4, (some .int))
abbrev mL_told : pMD := (yL_told, cL_told, 4, (some .int))
abbrev mL_chair : pMD := (yL_chair, cL_chair, 5, (some .int))
abbrev mL_guest : pMD := (yL_guest, cL_guest, 5, (some .int))
abbrev mL_day : pMD := (yL_day, cL_day, 4, (some .int))
abbrev mL_did : pMD := (yL_did, cL_did, 5, (some .int))
abbrev mL_towel : pMD := (yL_towel, cL_towel, 5, (some .int))
abbrev mL_lies : pMD := (yL_lies, cL_lies, 5, (some .int))
abbrev mL_waits : pMD := (yL_waits, cL_waits, 4, (some .int))
abbrev mL_sums : pMD := (yL_sums, cL_sums, 4, (some .int))
abbrev mL_worth : pMD := (yL_worth, cL_worth, 6, (some .int))
abbrev mL_would : pMD := (yL_would, cL_would, 10, (some .int))
abbrev mL_round : pMD := (yL_round, cL_round, 4, (some .int))
abbrev mL_out : pMD := (yL_out, cL_out, 4, (some .int))
abbrev mL_had : pMD := (yL_had, cL_had, 5, (some .int))
abbrev mL_still : pMD := (yL_still, cL_still, 5, (some .int))
abbrev mL_net : pMD := (yL_net, cL_net, 5, (some .int))
abbrev mL_gets : pMD := (yL_gets, cL_gets, 4, (some .int))
abbrev mL_more : pMD := (yL_more, cL_more, 5, (some .int))
abbrev mL_want : pMD := (yL_want, cL_want, 4, (some .int))
abbrev mL_just : pMD := (yL_just, cL_just, 4, (some .int))
abbrev mL_off : pMD := (yL_off, cL_off, 4, (some .int))
abbrev mL_turnsOf : pMD := (yL_turnsOf, cL_turnsOf, 4, (some .int))
abbrev mL_lot : pMD := (yL_lot, cL_lot, 5, (some .int))
abbrev mL_lucky : pMD := (yL_lucky, cL_lucky, 6, (some .int))
abbrev mL_summer : pMD := (yL_summer, cL_summer, 6, (some .int))
abbrev mL_fits : pMD := (yL_fits, cL_fits, 4, (some .int))
abbrev mL_early : pMD := (yL_early, cL_early, 4, (some .int))
abbrev mL_hotel : pMD := (yL_hotel, cL_hotel, 5, (some .int))
abbrev mL_hire : pMD := (yL_hire, cL_hire, 4, (some .int))
abbrev mL_wakes : pMD := (yL_wakes, cL_wakes, 5, (some .int))
abbrev mL_law : pMD := (yL_law, cL_law, 7, (some .boolean))
theorem inz0 : Cond.initialized RX0 ∈ uxW := (u_t1 6 (by decide +kernel) (by decide +kernel))
theorem inz1 : Cond.initialized RX1 ∈ uxW := (u_t1 10 (by decide +kernel) (by decide +kernel))
theorem inz2 : Cond.initialized RX2 ∈ uxW := (u_t1 8 (by decide +kernel) (by decide +kernel))
theorem inz3 : Cond.initialized RX3 ∈ uxW := (u_t1 7 (by decide +kernel) (by decide +kernel))
theorem inz4 : Cond.initialized RX4 ∈ uxW := (u_t1 9 (by decide +kernel) (by decide +kernel))
theorem inz5 : Cond.initialized RX5 ∈ uxW := (u_t1 5 (by decide +kernel) (by decide +kernel))
theorem inz6 : Cond.initialized RX6 ∈ uxW := (u_t1 4 (by decide +kernel) (by decide +kernel))
theorem inz7 : Cond.initialized RX7 ∈ uxW := (u_t1 26 (by decide +kernel) (by decide +kernel))
theorem inz8 : Cond.initialized RX8 ∈ uxW := (u_t1 3 (by decide +kernel) (by decide +kernel))
theorem inz9 : Cond.initialized RX9 ∈ uxW := (u_t1 25 (by decide +kernel) (by decide +kernel))
theorem inz10 : Cond.initialized RX10 ∈ uxW := (u_t1 2 (by decide +kernel) (by decide +kernel))
theorem inz11 : Cond.initialized RX11 ∈ uxW := (u_t1 1 (by decide +kernel) (by decide +kernel))
theorem inz12 : Cond.initialized RX12 ∈ uxW := (u_t1 11 (by decide +kernel) (by decide +kernel))
theorem coX10_peek : CVok mX10_peek 10 0 := ⟨by decide, rfl, (u_t4 89 (by decide +kernel) (by decide +kernel)), (u_t4 90 (by decide +kernel) (by decide +kernel)), inz10, (u_t4 91 (by decide +kernel) (by decide +kernel)), ⟨by decide +kernel, by decide +kernel, by decide +kernel⟩, by decide⟩
theorem coX0_readLine : CVok mX0_readLine 0 3 := ⟨by decide, rfl, (u_t5 66 (by decide +kernel) (by decide +kernel)), (u_s3 (y := yX0_readLine) 10 3 rfl (by decide +kernel)), inz0, (u_t5 67 (by decide +kernel) (by decide +kernel)), ⟨by decide +kernel, by decide +kernel, by decide +kernel⟩, by decide⟩
theorem coX10_number : CVok mX10_number 10 2 := ⟨by decide, rfl, (u_t4 174 (by decide +kernel) (by decide +kernel)), (u_t4 175 (by decide +kernel) (by decide +kernel)), inz10, (u_t4 176 (by decide +kernel) (by decide +kernel)), ⟨by decide +kernel, by decide +kernel, by decide +kernel⟩, by decide⟩
theorem coX10_fail : CVok mX10_fail 10 2 := ⟨by decide, rfl, (u_t4 158 (by decide +kernel) (by decide +kernel)), (u_t4 159 (by decide +kernel) (by decide +kernel)), inz10, (u_t4 160 (by decide +kernel) (by decide +kernel)), ⟨by decide +kernel, by decide +kernel, by decide +kernel⟩, by decide⟩
theorem coX10_takeSign : CVok mX10_takeSign 10 1 := ⟨by decide, rfl, (u_t4 190 (by decide +kernel) (by decide +kernel)), (u_t4 191 (by decide +kernel) (by decide +kernel)), inz10, (u_t4 192 (by decide +kernel) (by decide +kernel)), ⟨by decide +kernel, by decide +kernel, by decide +kernel⟩, by decide⟩
theorem coX3_reach : CVok mX3_reach 3 1 := ⟨by decide, rfl, (u_t3 5 (by decide +kernel) (by decide +kernel)), (u_t3 6 (by decide +kernel) (by decide +kernel)), inz3, (u_t3 7 (by decide +kernel) (by decide +kernel)), ⟨by decide +kernel, by decide +kernel, by decide +kernel⟩, by decide⟩
theorem coX3_halfOf : CVok mX3_halfOf 3 2 := ⟨by decide, rfl, (u_t3 132 (by decide +kernel) (by decide +kernel)), (u_t3 133 (by decide +kernel) (by decide +kernel)), inz3, (u_t3 134 (by decide +kernel) (by decide +kernel)), ⟨by decide +kernel, by decide +kernel, by decide +kernel⟩, by decide⟩
theorem coX7_keep : CVok mX7_keep 7 3 := ⟨by decide, rfl, (u_t3 207 (by decide +kernel) (by decide +kernel)), (u_t3 208 (by decide +kernel) (by decide +kernel)), inz7, (u_t3 209 (by decide +kernel) (by decide +kernel)), ⟨by decide +kernel, by decide +kernel, by decide +kernel⟩, by decide⟩
theorem coX2_goByNumber : CVok mX2_goByNumber 2 0 := ⟨by decide, rfl, (u_t1 222 (by decide +kernel) (by decide +kernel)), (u_t1 223 (by decide +kernel) (by decide +kernel)), inz2, (u_t1 224 (by decide +kernel) (by decide +kernel)), ⟨by decide +kernel, by decide +kernel, by decide +kernel⟩, by decide⟩
theorem coX2_clear : CVok mX2_clear 2 1 := ⟨by decide, rfl, (u_t3 60 (by decide +kernel) (by decide +kernel)), (u_s1 (y := yX2_clear) 8 15 rfl (by decide +kernel)), inz2, (u_t3 61 (by decide +kernel) (by decide +kernel)), ⟨by decide +kernel, by decide +kernel, by decide +kernel⟩, by decide⟩
theorem coX2_leave : CVok mX2_leave 2 1 := ⟨by decide, rfl, (u_t3 68 (by decide +kernel) (by decide +kernel)), (u_s1 (y := yX2_leave) 10 15 rfl (by decide +kernel)), inz2, (u_t3 69 (by decide +kernel) (by decide +kernel)), ⟨by decide +kernel, by decide +kernel, by decide +kernel⟩, by decide⟩
theorem coX8_goesBy : CVok mX8_goesBy 8 1 := ⟨by decide, rfl, (u_t3 84 (by decide +kernel) (by decide +kernel)), (u_t3 85 (by decide +kernel) (by decide +kernel)), inz8, (u_t3 86 (by decide +kernel) (by decide +kernel)), ⟨by decide +kernel, by decide +kernel, by decide +kernel⟩, by decide⟩
theorem coX2_takeOff : CVok mX2_takeOff 2 2 := ⟨by decide, rfl, (u_t3 89 (by decide +kernel) (by decide +kernel)), (u_s1 (y := yX2_takeOff) 14 15 rfl (by decide +kernel)), inz2, (u_t3 90 (by decide +kernel) (by decide +kernel)), ⟨by decide +kernel, by decide +kernel, by decide +kernel⟩, by decide⟩
theorem coX2_arrive : CVok mX2_arrive 2 1 := ⟨by decide, rfl, (u_t3 93 (by decide +kernel) (by decide +kernel)), (u_s1 (y := yX2_arrive) 15 15 rfl (by decide +kernel)), inz2, (u_t3 94 (by decide +kernel) (by decide +kernel)), ⟨by decide +kernel, by decide +kernel, by decide +kernel⟩, by decide⟩
theorem coX2_seatWaiting : CVok mX2_seatWaiting 2 1 := ⟨by decide, rfl, (u_t3 101 (by decide +kernel) (by decide +kernel)), (u_s2 (y := yX2_seatWaiting) 1 15 rfl (by decide +kernel)), inz2, (u_t3 102 (by decide +kernel) (by decide +kernel)), ⟨by decide +kernel, by decide +kernel, by decide +kernel⟩, by decide⟩
theorem coX2_reckonNet : CVok mX2_reckonNet 2 0 := ⟨by decide, rfl, (u_t3 105 (by decide +kernel) (by decide +kernel)), (u_s2 (y := yX2_reckonNet) 2 15 rfl (by decide +kernel)), inz2, (u_t3 106 (by decide +kernel) (by decide +kernel)), ⟨by decide +kernel, by decide +kernel, by decide +kernel⟩, by decide⟩
theorem coX2_clearGuest : CVok mX2_clearGuest 2 2 := ⟨by decide, rfl, (u_t3 64 (by decide +kernel) (by decide +kernel)), (u_s1 (y := yX2_clearGuest) 9 15 rfl (by decide +kernel)), inz2, (u_t3 65 (by decide +kernel) (by decide +kernel)), ⟨by decide +kernel, by decide +kernel, by decide +kernel⟩, by decide⟩
theorem coX2_giveUp : CVok mX2_giveUp 2 2 := ⟨by decide, rfl, (u_t3 72 (by decide +kernel) (by decide +kernel)), (u_s1 (y := yX2_giveUp) 11 15 rfl (by decide +kernel)), inz2, (u_t3 73 (by decide +kernel) (by decide +kernel)), ⟨by decide +kernel, by decide +kernel, by decide +kernel⟩, by decide⟩
theorem coX2_unqueue : CVok mX2_unqueue 2 1 := ⟨by decide, rfl, (u_t3 77 (by decide +kernel) (by decide +kernel)), (u_s1 (y := yX2_unqueue) 12 15 rfl (by decide +kernel)), inz2, (u_t3 78 (by decide +kernel) (by decide +kernel)), ⟨by decide +kernel, by decide +kernel, by decide +kernel⟩, by decide⟩
theorem coX2_endWaiting : CVok mX2_endWaiting 2 2 := ⟨by decide, rfl, (u_t3 81 (by decide +kernel) (by decide +kernel)), (u_s1 (y := yX2_endWaiting) 13 15 rfl (by decide +kernel)), inz2, (u_t3 82 (by decide +kernel) (by decide +kernel)), ⟨by decide +kernel, by decide +kernel, by decide +kernel⟩, by decide⟩
theorem coX2_takeBest : CVok mX2_takeBest 2 2 := ⟨by decide, rfl, (u_t3 97 (by decide +kernel) (by decide +kernel)), (u_s2 (y := yX2_takeBest) 0 15 rfl (by decide +kernel)), inz2, (u_t3 98 (by decide +kernel) (by decide +kernel)), ⟨by decide +kernel, by decide +kernel, by decide +kernel⟩, by decide⟩
theorem coX8_stretch : CSok mX8_stretch 4 := ⟨(u_t2 222 (by decide +kernel) (by decide +kernel)), inz8, (u_t2 223 (by decide +kernel) (by decide +kernel)), ⟨by decide +kernel, by decide +kernel, by decide +kernel⟩, by decide⟩
theorem coX2_sleepLostBy : CVok mX2_sleepLostBy 2 1 := ⟨by decide, rfl, (u_t3 109 (by decide +kernel) (by decide +kernel)), (u_s2 (y := yX2_sleepLostBy) 3 15 rfl (by decide +kernel)), inz2, (u_t3 110 (by decide +kernel) (by decide +kernel)), ⟨by decide +kernel, by decide +kernel, by decide +kernel⟩, by decide⟩
theorem coX8_tellWaking : CVok mX8_tellWaking 8 1 := ⟨by decide, rfl, (u_t3 9 (by decide +kernel) (by decide +kernel)), (u_t3 10 (by decide +kernel) (by decide +kernel)), inz8, (u_t3 11 (by decide +kernel) (by decide +kernel)), ⟨by decide +kernel, by decide +kernel, by decide +kernel⟩, by decide⟩
theorem coX6_nextMorning : CVok mX6_nextMorning 6 4 := ⟨by decide, rfl, (u_t3 16 (by decide +kernel) (by decide +kernel)), (u_t3 17 (by decide +kernel) (by decide +kernel)), inz6, (u_t3 18 (by decide +kernel) (by decide +kernel)), ⟨by decide +kernel, by decide +kernel, by decide +kernel⟩, by decide⟩
theorem coX2_run : CVok mX2_run 2 2 := ⟨by decide, rfl, (u_t3 55 (by decide +kernel) (by decide +kernel)), (u_t3 56 (by decide +kernel) (by decide +kernel)), inz2, (u_t3 57 (by decide +kernel) (by decide +kernel)), ⟨by decide +kernel, by decide +kernel, by decide +kernel⟩, by decide⟩
theorem coX3_packed : CVok mX3_packed 3 0 := ⟨by decide, rfl, (u_t3 113 (by decide +kernel) (by decide +kernel)), (u_s2 (y := yX3_packed) 4 10 rfl (by decide +kernel)), inz3, (u_t3 114 (by decide +kernel) (by decide +kernel)), ⟨by decide +kernel, by decide +kernel, by decide +kernel⟩, by decide⟩
theorem coX2_seated : CVok mX2_seated 2 0 := ⟨by decide, rfl, (u_t3 116 (by decide +kernel) (by decide +kernel)), (u_t3 117 (by decide +kernel) (by decide +kernel)), inz2, (u_t3 118 (by decide +kernel) (by decide +kernel)), ⟨by decide +kernel, by decide +kernel, by decide +kernel⟩, by decide⟩
theorem coX3_seekRound : CVok mX3_seekRound 3 1 := ⟨by decide, rfl, (u_t3 121 (by decide +kernel) (by decide +kernel)), (u_s2 (y := yX3_seekRound) 5 10 rfl (by decide +kernel)), inz3, (u_t3 122 (by decide +kernel) (by decide +kernel)), ⟨by decide +kernel, by decide +kernel, by decide +kernel⟩, by decide⟩
theorem coX3_asksDay : CVok mX3_asksDay 3 0 := ⟨by decide, rfl, (u_t3 125 (by decide +kernel) (by decide +kernel)), (u_s2 (y := yX3_asksDay) 6 10 rfl (by decide +kernel)), inz3, (u_t3 126 (by decide +kernel) (by decide +kernel)), ⟨by decide +kernel, by decide +kernel, by decide +kernel⟩, by decide⟩
theorem coX8_value : CVok mX8_value 8 3 := ⟨by decide, rfl, (u_t2 218 (by decide +kernel) (by decide +kernel)), (u_t2 219 (by decide +kernel) (by decide +kernel)), inz8, (u_t2 220 (by decide +kernel) (by decide +kernel)), ⟨by decide +kernel, by decide +kernel, by decide +kernel⟩, by decide⟩
theorem coX4_bestFrom : CVok mX4_bestFrom 4 4 := ⟨by decide, rfl, (u_t2 226 (by decide +kernel) (by decide +kernel)), (u_s1 (y := yX4_bestFrom) 1 6 rfl (by decide +kernel)), inz4, (u_t2 227 (by decide +kernel) (by decide +kernel)), ⟨by decide +kernel, by decide +kernel, by decide +kernel⟩, by decide⟩
theorem coX4_deal : CVok mX4_deal 4 0 := ⟨by decide, rfl, (u_t2 230 (by decide +kernel) (by decide +kernel)), (u_s1 (y := yX4_deal) 2 6 rfl (by decide +kernel)), inz4, (u_t2 231 (by decide +kernel) (by decide +kernel)), ⟨by decide +kernel, by decide +kernel, by decide +kernel⟩, by decide⟩
theorem coX4_firstGift : CVok mX4_firstGift 4 2 := ⟨by decide, rfl, (u_t2 234 (by decide +kernel) (by decide +kernel)), (u_s1 (y := yX4_firstGift) 3 6 rfl (by decide +kernel)), inz4, (u_t2 235 (by decide +kernel) (by decide +kernel)), ⟨by decide +kernel, by decide +kernel, by decide +kernel⟩, by decide⟩
theorem coX4_bestOf : CVok mX4_bestOf 4 1 := ⟨by decide, rfl, (u_t6 84 (by decide +kernel) (by decide +kernel)), (u_s4 (y := yX4_bestOf) 1 6 rfl (by decide +kernel)), inz4, (u_t6 85 (by decide +kernel) (by decide +kernel)), ⟨by decide +kernel, by decide +kernel, by decide +kernel⟩, by decide⟩
theorem coX5_readSum : CVok mX5_readSum 5 1 := ⟨by decide, rfl, (u_t5 4 (by decide +kernel) (by decide +kernel)), (u_s3 (y := yX5_readSum) 3 4 rfl (by decide +kernel)), inz5, (u_t5 5 (by decide +kernel) (by decide +kernel)), ⟨by decide +kernel, by decide +kernel, by decide +kernel⟩, by decide⟩
theorem coX5_readProduct : CVok mX5_readProduct 5 1 := ⟨by decide, rfl, (u_t5 8 (by decide +kernel) (by decide +kernel)), (u_s3 (y := yX5_readProduct) 4 4 rfl (by decide +kernel)), inz5, (u_t5 9 (by decide +kernel) (by decide +kernel)), ⟨by decide +kernel, by decide +kernel, by decide +kernel⟩, by decide⟩
theorem coX5_put : CVok mX5_put 5 1 := ⟨by decide, rfl, (u_t5 19 (by decide +kernel) (by decide +kernel)), (u_s3 (y := yX5_put) 6 4 rfl (by decide +kernel)), inz5, (u_t5 20 (by decide +kernel) (by decide +kernel)), ⟨by decide +kernel, by decide +kernel, by decide +kernel⟩, by decide⟩
theorem coX5_readUnit : CVok mX5_readUnit 5 1 := ⟨by decide, rfl, (u_t5 12 (by decide +kernel) (by decide +kernel)), (u_s3 (y := yX5_readUnit) 5 4 rfl (by decide +kernel)), inz5, (u_t5 13 (by decide +kernel) (by decide +kernel)), ⟨by decide +kernel, by decide +kernel, by decide +kernel⟩, by decide⟩
theorem coX10_isDigit : CSok mX10_isDigit 1 := ⟨(u_t4 179 (by decide +kernel) (by decide +kernel)), inz10, (u_t4 180 (by decide +kernel) (by decide +kernel)), ⟨by decide +kernel, by decide +kernel, by decide +kernel⟩, by decide⟩
theorem coX5_mayOpen : CVok mX5_mayOpen 5 1 := ⟨by decide, rfl, (u_t5 23 (by decide +kernel) (by decide +kernel)), (u_s3 (y := yX5_mayOpen) 7 4 rfl (by decide +kernel)), inz5, (u_t5 24 (by decide +kernel) (by decide +kernel)), ⟨by decide +kernel, by decide +kernel, by decide +kernel⟩, by decide⟩
theorem coX10_which : CVok mX10_which 10 1 := ⟨by decide, rfl, (u_t4 98 (by decide +kernel) (by decide +kernel)), (u_t4 99 (by decide +kernel) (by decide +kernel)), inz10, (u_t4 100 (by decide +kernel) (by decide +kernel)), ⟨by decide +kernel, by decide +kernel, by decide +kernel⟩, by decide⟩
theorem coX10_passWord : CVok mX10_passWord 10 0 := ⟨by decide, rfl, (u_t4 162 (by decide +kernel) (by decide +kernel)), (u_t4 163 (by decide +kernel) (by decide +kernel)), inz10, (u_t4 164 (by decide +kernel) (by decide +kernel)), ⟨by decide +kernel, by decide +kernel, by decide +kernel⟩, by decide⟩
theorem coX5_readPair : CVok mX5_readPair 5 2 := ⟨by decide, rfl, (u_t5 32 (by decide +kernel) (by decide +kernel)), (u_s3 (y := yX5_readPair) 8 4 rfl (by decide +kernel)), inz5, (u_t5 33 (by decide +kernel) (by decide +kernel)), ⟨by decide +kernel, by decide +kernel, by decide +kernel⟩, by decide⟩
theorem coX5_readChoice : CVok mX5_readChoice 5 1 := ⟨by decide, rfl, (u_t5 36 (by decide +kernel) (by decide +kernel)), (u_s3 (y := yX5_readChoice) 9 4 rfl (by decide +kernel)), inz5, (u_t5 37 (by decide +kernel) (by decide +kernel)), ⟨by decide +kernel, by decide +kernel, by decide +kernel⟩, by decide⟩
theorem coX10_takeWord : CVok mX10_takeWord 10 1 := ⟨by decide, rfl, (u_t5 40 (by decide +kernel) (by decide +kernel)), (u_t5 41 (by decide +kernel) (by decide +kernel)), inz10, (u_t5 42 (by decide +kernel) (by decide +kernel)), ⟨by decide +kernel, by decide +kernel, by decide +kernel⟩, by decide⟩
theorem coX2_firstCame : CVok mX2_firstCame 2 0 := ⟨by decide, rfl, (u_t3 20 (by decide +kernel) (by decide +kernel)), (u_t3 21 (by decide +kernel) (by decide +kernel)), inz2, (u_t3 22 (by decide +kernel) (by decide +kernel)), ⟨by decide +kernel, by decide +kernel, by decide +kernel⟩, by decide⟩
theorem coX6_setCommon : CVok mX6_setCommon 6 4 := ⟨by decide, rfl, (u_t3 24 (by decide +kernel) (by decide +kernel)), (u_t3 25 (by decide +kernel) (by decide +kernel)), inz6, (u_t3 26 (by decide +kernel) (by decide +kernel)), ⟨by decide +kernel, by decide +kernel, by decide +kernel⟩, by decide⟩
theorem coX6_setOwn : CVok mX6_setOwn 6 4 := ⟨by decide, rfl, (u_t3 28 (by decide +kernel) (by decide +kernel)), (u_t3 29 (by decide +kernel) (by decide +kernel)), inz6, (u_t3 30 (by decide +kernel) (by decide +kernel)), ⟨by decide +kernel, by decide +kernel, by decide +kernel⟩, by decide⟩
theorem coX6_setGuest : CVok mX6_setGuest 6 2 := ⟨by decide, rfl, (u_t3 32 (by decide +kernel) (by decide +kernel)), (u_t3 33 (by decide +kernel) (by decide +kernel)), inz6, (u_t3 34 (by decide +kernel) (by decide +kernel)), ⟨by decide +kernel, by decide +kernel, by decide +kernel⟩, by decide⟩
theorem coX6_comes : CVok mX6_comes 6 1 := ⟨by decide, rfl, (u_t3 36 (by decide +kernel) (by decide +kernel)), (u_t3 37 (by decide +kernel) (by decide +kernel)), inz6, (u_t3 38 (by decide +kernel) (by decide +kernel)), ⟨by decide +kernel, by decide +kernel, by decide +kernel⟩, by decide⟩
theorem coX6_take : CVok mX6_take 6 1 := ⟨by decide, rfl, (u_t3 41 (by decide +kernel) (by decide +kernel)), (u_s1 (y := yX6_take) 5 6 rfl (by decide +kernel)), inz6, (u_t3 42 (by decide +kernel) (by decide +kernel)), ⟨by decide +kernel, by decide +kernel, by decide +kernel⟩, by decide⟩
theorem coX6_pop : CVok mX6_pop 6 0 := ⟨by decide, rfl, (u_t3 49 (by decide +kernel) (by decide +kernel)), (u_s1 (y := yX6_pop) 7 6 rfl (by decide +kernel)), inz6, (u_t3 50 (by decide +kernel) (by decide +kernel)), ⟨by decide +kernel, by decide +kernel, by decide +kernel⟩, by decide⟩
theorem coX6_push : CVok mX6_push 6 1 := ⟨by decide, rfl, (u_t3 45 (by decide +kernel) (by decide +kernel)), (u_s1 (y := yX6_push) 6 6 rfl (by decide +kernel)), inz6, (u_t3 46 (by decide +kernel) (by decide +kernel)), ⟨by decide +kernel, by decide +kernel, by decide +kernel⟩, by decide⟩
theorem coX6_join : CSok mX6_join 3 := ⟨(u_t3 52 (by decide +kernel) (by decide +kernel)), inz6, (u_t3 53 (by decide +kernel) (by decide +kernel)), ⟨by decide +kernel, by decide +kernel, by decide +kernel⟩, by decide⟩
theorem coX8_clear : CVok mX8_clear 8 0 := ⟨by decide, rfl, (u_t2 129 (by decide +kernel) (by decide +kernel)), (u_t2 130 (by decide +kernel) (by decide +kernel)), inz8, (u_t2 131 (by decide +kernel) (by decide +kernel)), ⟨by decide +kernel, by decide +kernel, by decide +kernel⟩, by decide⟩
theorem coX8_readClause : CVok mX8_readClause 8 2 := ⟨by decide, rfl, (u_t4 94 (by decide +kernel) (by decide +kernel)), (u_s2 (y := yX8_readClause) 12 11 rfl (by decide +kernel)), inz8, (u_t4 95 (by decide +kernel) (by decide +kernel)), ⟨by decide +kernel, by decide +kernel, by decide +kernel⟩, by decide⟩
theorem coX8_readNumbers : CVok mX8_readNumbers 8 2 := ⟨by decide, rfl, (u_t4 167 (by decide +kernel) (by decide +kernel)), (u_s2 (y := yX8_readNumbers) 15 11 rfl (by decide +kernel)), inz8, (u_t4 168 (by decide +kernel) (by decide +kernel)), ⟨by decide +kernel, by decide +kernel, by decide +kernel⟩, by decide⟩
theorem coX8_readChair : CVok mX8_readChair 8 1 := ⟨by decide, rfl, (u_t4 171 (by decide +kernel) (by decide +kernel)), (u_s3 (y := yX8_readChair) 0 11 rfl (by decide +kernel)), inz8, (u_t4 172 (by decide +kernel) (by decide +kernel)), ⟨by decide +kernel, by decide +kernel, by decide +kernel⟩, by decide⟩
theorem coX8_readGuest : CVok mX8_readGuest 8 1 := ⟨by decide, rfl, (u_t4 187 (by decide +kernel) (by decide +kernel)), (u_s3 (y := yX8_readGuest) 1 11 rfl (by decide +kernel)), inz8, (u_t4 188 (by decide +kernel) (by decide +kernel)), ⟨by decide +kernel, by decide +kernel, by decide +kernel⟩, by decide⟩
theorem coX9_weigh : CVok mX9_weigh 9 2 := ⟨by decide, rfl, (u_t6 26 (by decide +kernel) (by decide +kernel)), (u_s3 (y := yX9_weigh) 13 8 rfl (by decide +kernel)), inz9, (u_t6 27 (by decide +kernel) (by decide +kernel)), ⟨by decide +kernel, by decide +kernel, by decide +kernel⟩, by decide⟩
theorem coX9_isStill : CVok mX9_isStill 9 2 := ⟨by decide, rfl, (u_t6 38 (by decide +kernel) (by decide +kernel)), (u_s3 (y := yX9_isStill) 15 8 rfl (by decide +kernel)), inz9, (u_t6 39 (by decide +kernel) (by decide +kernel)), ⟨by decide +kernel, by decide +kernel, by decide +kernel⟩, by decide⟩
theorem coX9_digits : CVok mX9_digits 9 0 := ⟨by decide, rfl, (u_t6 42 (by decide +kernel) (by decide +kernel)), (u_s4 (y := yX9_digits) 0 8 rfl (by decide +kernel)), inz9, (u_t6 43 (by decide +kernel) (by decide +kernel)), ⟨by decide +kernel, by decide +kernel, by decide +kernel⟩, by decide⟩
theorem coX9_setHalves : CVok mX9_setHalves 9 2 := ⟨by decide, rfl, (u_t6 30 (by decide +kernel) (by decide +kernel)), (u_s3 (y := yX9_setHalves) 14 8 rfl (by decide +kernel)), inz9, (u_t6 31 (by decide +kernel) (by decide +kernel)), ⟨by decide +kernel, by decide +kernel, by decide +kernel⟩, by decide⟩
theorem coX9_place : CSok mX9_place 4 := ⟨(u_t6 34 (by decide +kernel) (by decide +kernel)), inz9, (u_t6 35 (by decide +kernel) (by decide +kernel)), ⟨by decide +kernel, by decide +kernel, by decide +kernel⟩, by decide⟩
theorem coX10_wordEnd : CVok mX10_wordEnd 10 0 := ⟨by decide, rfl, (u_t4 103 (by decide +kernel) (by decide +kernel)), (u_s2 (y := yX10_wordEnd) 13 5 rfl (by decide +kernel)), inz10, (u_t4 104 (by decide +kernel) (by decide +kernel)), ⟨by decide +kernel, by decide +kernel, by decide +kernel⟩, by decide⟩
theorem coX10_isAlike : CVok mX10_isAlike 10 3 := ⟨by decide, rfl, (u_t4 155 (by decide +kernel) (by decide +kernel)), (u_s2 (y := yX10_isAlike) 14 5 rfl (by decide +kernel)), inz10, (u_t4 156 (by decide +kernel) (by decide +kernel)), ⟨by decide +kernel, by decide +kernel, by decide +kernel⟩, by decide⟩
theorem coX6_clear : CVok mX6_clear 6 0 := ⟨by decide, rfl, (u_t2 133 (by decide +kernel) (by decide +kernel)), (u_t2 134 (by decide +kernel) (by decide +kernel)), inz6, (u_t2 135 (by decide +kernel) (by decide +kernel)), ⟨by decide +kernel, by decide +kernel, by decide +kernel⟩, by decide⟩
theorem coX11_putBytes : CVok mX11_putBytes 11 1 := ⟨by decide, rfl, (u_t2 203 (by decide +kernel) (by decide +kernel)), (u_s1 (y := yX11_putBytes) 0 20 rfl (by decide +kernel)), inz11, (u_t2 204 (by decide +kernel) (by decide +kernel)), ⟨by decide +kernel, by decide +kernel, by decide +kernel⟩, by decide⟩
theorem coX11_needWithin : CVok mX11_needWithin 11 3 := ⟨by decide, rfl, (u_t4 1 (by decide +kernel) (by decide +kernel)), (u_s2 (y := yX11_needWithin) 8 20 rfl (by decide +kernel)), inz11, (u_t4 2 (by decide +kernel) (by decide +kernel)), ⟨by decide +kernel, by decide +kernel, by decide +kernel⟩, by decide⟩
theorem coX11_startText : CVok mX11_startText 11 1 := ⟨by decide, rfl, (u_t4 77 (by decide +kernel) (by decide +kernel)), (u_s2 (y := yX11_startText) 11 20 rfl (by decide +kernel)), inz11, (u_t4 78 (by decide +kernel) (by decide +kernel)), ⟨by decide +kernel, by decide +kernel, by decide +kernel⟩, by decide⟩
theorem coX8_read : CVok mX8_read 8 1 := ⟨by decide, rfl, (u_t4 84 (by decide +kernel) (by decide +kernel)), (u_t4 85 (by decide +kernel) (by decide +kernel)), inz8, (u_t4 86 (by decide +kernel) (by decide +kernel)), ⟨by decide +kernel, by decide +kernel, by decide +kernel⟩, by decide⟩
theorem coX8_copy : CVok mX8_copy 8 1 := ⟨by decide, rfl, (u_t4 194 (by decide +kernel) (by decide +kernel)), (u_t4 195 (by decide +kernel) (by decide +kernel)), inz8, (u_t4 196 (by decide +kernel) (by decide +kernel)), ⟨by decide +kernel, by decide +kernel, by decide +kernel⟩, by decide⟩
theorem coX0_clear : CVok mX0_clear 0 0 := ⟨by decide, rfl, (u_t4 198 (by decide +kernel) (by decide +kernel)), (u_t4 199 (by decide +kernel) (by decide +kernel)), inz0, (u_t4 200 (by decide +kernel) (by decide +kernel)), ⟨by decide +kernel, by decide +kernel, by decide +kernel⟩, by decide⟩
theorem coX4_forget : CVok mX4_forget 4 0 := ⟨by decide, rfl, (u_t4 202 (by decide +kernel) (by decide +kernel)), (u_t4 203 (by decide +kernel) (by decide +kernel)), inz4, (u_t4 204 (by decide +kernel) (by decide +kernel)), ⟨by decide +kernel, by decide +kernel, by decide +kernel⟩, by decide⟩
theorem coX1_clear : CVok mX1_clear 1 0 := ⟨by decide, rfl, (u_t4 206 (by decide +kernel) (by decide +kernel)), (u_t4 207 (by decide +kernel) (by decide +kernel)), inz1, (u_t4 208 (by decide +kernel) (by decide +kernel)), ⟨by decide +kernel, by decide +kernel, by decide +kernel⟩, by decide⟩
theorem coX11_forgetDays : CVok mX11_forgetDays 11 0 := ⟨by decide, rfl, (u_t3 160 (by decide +kernel) (by decide +kernel)), (u_s2 (y := yX11_forgetDays) 7 20 rfl (by decide +kernel)), inz11, (u_t3 161 (by decide +kernel) (by decide +kernel)), ⟨by decide +kernel, by decide +kernel, by decide +kernel⟩, by decide⟩
theorem coX11_needGuest : CVok mX11_needGuest 11 1 := ⟨by decide, rfl, (u_t4 219 (by decide +kernel) (by decide +kernel)), (u_s3 (y := yX11_needGuest) 2 20 rfl (by decide +kernel)), inz11, (u_t4 220 (by decide +kernel) (by decide +kernel)), ⟨by decide +kernel, by decide +kernel, by decide +kernel⟩, by decide⟩
theorem coX5_read : CVok mX5_read 5 0 := ⟨by decide, rfl, (u_t4 239 (by decide +kernel) (by decide +kernel)), (u_t5 0 (by decide +kernel) (by decide +kernel)), inz5, (u_t5 1 (by decide +kernel) (by decide +kernel)), ⟨by decide +kernel, by decide +kernel, by decide +kernel⟩, by decide⟩
theorem coX6_keep : CVok mX6_keep 6 2 := ⟨by decide, rfl, (u_t5 47 (by decide +kernel) (by decide +kernel)), (u_t5 48 (by decide +kernel) (by decide +kernel)), inz6, (u_t5 49 (by decide +kernel) (by decide +kernel)), ⟨by decide +kernel, by decide +kernel, by decide +kernel⟩, by decide⟩
theorem coX0_read : CVok mX0_read 0 2 := ⟨by decide, rfl, (u_t5 59 (by decide +kernel) (by decide +kernel)), (u_t5 60 (by decide +kernel) (by decide +kernel)), inz0, (u_t5 61 (by decide +kernel) (by decide +kernel)), ⟨by decide +kernel, by decide +kernel, by decide +kernel⟩, by decide⟩
theorem coX11_needChair : CVok mX11_needChair 11 1 := ⟨by decide, rfl, (u_t5 87 (by decide +kernel) (by decide +kernel)), (u_s3 (y := yX11_needChair) 11 20 rfl (by decide +kernel)), inz11, (u_t5 88 (by decide +kernel) (by decide +kernel)), ⟨by decide +kernel, by decide +kernel, by decide +kernel⟩, by decide⟩
theorem coX11_look : CVok mX11_look 11 0 := ⟨by decide, rfl, (u_t3 2 (by decide +kernel) (by decide +kernel)), (u_s1 (y := yX11_look) 4 20 rfl (by decide +kernel)), inz11, (u_t3 3 (by decide +kernel) (by decide +kernel)), ⟨by decide +kernel, by decide +kernel, by decide +kernel⟩, by decide⟩
theorem coX2_total : CVok mX2_total 2 1 := ⟨by decide, rfl, (u_t3 137 (by decide +kernel) (by decide +kernel)), (u_t3 138 (by decide +kernel) (by decide +kernel)), inz2, (u_t3 139 (by decide +kernel) (by decide +kernel)), ⟨by decide +kernel, by decide +kernel, by decide +kernel⟩, by decide⟩
theorem coX2_idle : CVok mX2_idle 2 0 := ⟨by decide, rfl, (u_t5 140 (by decide +kernel) (by decide +kernel)), (u_t5 141 (by decide +kernel) (by decide +kernel)), inz2, (u_t5 142 (by decide +kernel) (by decide +kernel)), ⟨by decide +kernel, by decide +kernel, by decide +kernel⟩, by decide⟩
theorem coX2_sleepLost : CVok mX2_sleepLost 2 0 := ⟨by decide, rfl, (u_t5 144 (by decide +kernel) (by decide +kernel)), (u_t5 145 (by decide +kernel) (by decide +kernel)), inz2, (u_t5 146 (by decide +kernel) (by decide +kernel)), ⟨by decide +kernel, by decide +kernel, by decide +kernel⟩, by decide⟩
theorem coX3_wasSeated : CVok mX3_wasSeated 3 2 := ⟨by decide, rfl, (u_t5 188 (by decide +kernel) (by decide +kernel)), (u_t5 189 (by decide +kernel) (by decide +kernel)), inz3, (u_t5 190 (by decide +kernel) (by decide +kernel)), ⟨by decide +kernel, by decide +kernel, by decide +kernel⟩, by decide⟩
theorem coX11_needFewGuests : CVok mX11_needFewGuests 11 0 := ⟨by decide, rfl, (u_t5 208 (by decide +kernel) (by decide +kernel)), (u_s3 (y := yX11_needFewGuests) 12 20 rfl (by decide +kernel)), inz11, (u_t5 209 (by decide +kernel) (by decide +kernel)), ⟨by decide +kernel, by decide +kernel, by decide +kernel⟩, by decide⟩
theorem coX9_find : CVok mX9_find 9 1 := ⟨by decide, rfl, (u_t6 20 (by decide +kernel) (by decide +kernel)), (u_t6 21 (by decide +kernel) (by decide +kernel)), inz9, (u_t6 22 (by decide +kernel) (by decide +kernel)), ⟨by decide +kernel, by decide +kernel, by decide +kernel⟩, by decide⟩
theorem coX11_needArgument : CVok mX11_needArgument 11 1 := ⟨by decide, rfl, (u_t4 5 (by decide +kernel) (by decide +kernel)), (u_s2 (y := yX11_needArgument) 9 20 rfl (by decide +kernel)), inz11, (u_t4 6 (by decide +kernel) (by decide +kernel)), ⟨by decide +kernel, by decide +kernel, by decide +kernel⟩, by decide⟩
theorem coX4_learn : CVok mX4_learn 4 0 := ⟨by decide, rfl, (u_t2 214 (by decide +kernel) (by decide +kernel)), (u_t2 215 (by decide +kernel) (by decide +kernel)), inz4, (u_t2 216 (by decide +kernel) (by decide +kernel)), ⟨by decide +kernel, by decide +kernel, by decide +kernel⟩, by decide⟩
theorem coX4_mostWith : CVok mX4_mostWith 4 2 := ⟨by decide, rfl, (u_t6 67 (by decide +kernel) (by decide +kernel)), (u_t6 68 (by decide +kernel) (by decide +kernel)), inz4, (u_t6 69 (by decide +kernel) (by decide +kernel)), ⟨by decide +kernel, by decide +kernel, by decide +kernel⟩, by decide⟩
theorem coX4_takersAt : CVok mX4_takersAt 4 1 := ⟨by decide, rfl, (u_t6 79 (by decide +kernel) (by decide +kernel)), (u_t6 80 (by decide +kernel) (by decide +kernel)), inz4, (u_t6 81 (by decide +kernel) (by decide +kernel)), ⟨by decide +kernel, by decide +kernel, by decide +kernel⟩, by decide⟩
theorem coX3_tell : CVok mX3_tell 3 2 := ⟨by decide, rfl, (u_t3 128 (by decide +kernel) (by decide +kernel)), (u_t3 129 (by decide +kernel) (by decide +kernel)), inz3, (u_t3 130 (by decide +kernel) (by decide +kernel)), ⟨by decide +kernel, by decide +kernel, by decide +kernel⟩, by decide⟩
theorem coX11_clearTally : CVok mX11_clearTally 11 0 := ⟨by decide, rfl, (u_t6 109 (by decide +kernel) (by decide +kernel)), (u_s4 (y := yX11_clearTally) 2 20 rfl (by decide +kernel)), inz11, (u_t6 110 (by decide +kernel) (by decide +kernel)), ⟨by decide +kernel, by decide +kernel, by decide +kernel⟩, by decide⟩
theorem coX2_goByLot : CVok mX2_goByLot 2 1 := ⟨by decide, rfl, (u_t6 122 (by decide +kernel) (by decide +kernel)), (u_t6 123 (by decide +kernel) (by decide +kernel)), inz2, (u_t6 124 (by decide +kernel) (by decide +kernel)), ⟨by decide +kernel, by decide +kernel, by decide +kernel⟩, by decide⟩
theorem coX11_tallySeated : CVok mX11_tallySeated 11 1 := ⟨by decide, rfl, (u_t6 144 (by decide +kernel) (by decide +kernel)), (u_s4 (y := yX11_tallySeated) 3 20 rfl (by decide +kernel)), inz11, (u_t6 145 (by decide +kernel) (by decide +kernel)), ⟨by decide +kernel, by decide +kernel, by decide +kernel⟩, by decide⟩
theorem coX11_firstOfMost : CVok mX11_firstOfMost 11 0 := ⟨by decide, rfl, (u_t6 148 (by decide +kernel) (by decide +kernel)), (u_s4 (y := yX11_firstOfMost) 4 20 rfl (by decide +kernel)), inz11, (u_t6 149 (by decide +kernel) (by decide +kernel)), ⟨by decide +kernel, by decide +kernel, by decide +kernel⟩, by decide⟩
theorem coX3_forget : CVok mX3_forget 3 0 := ⟨by decide, rfl, (u_t3 163 (by decide +kernel) (by decide +kernel)), (u_t3 164 (by decide +kernel) (by decide +kernel)), inz3, (u_t3 165 (by decide +kernel) (by decide +kernel)), ⟨by decide +kernel, by decide +kernel, by decide +kernel⟩, by decide⟩
theorem coX0_firstNotSo : CVok mX0_firstNotSo 0 2 := ⟨by decide, rfl, (u_t3 145 (by decide +kernel) (by decide +kernel)), (u_t3 146 (by decide +kernel) (by decide +kernel)), inz0, (u_t3 147 (by decide +kernel) (by decide +kernel)), ⟨by decide +kernel, by decide +kernel, by decide +kernel⟩, by decide⟩
theorem coX1_add : CVok mX1_add 1 3 := ⟨by decide, rfl, (u_t6 172 (by decide +kernel) (by decide +kernel)), (u_t6 173 (by decide +kernel) (by decide +kernel)), inz1, (u_t6 174 (by decide +kernel) (by decide +kernel)), ⟨by decide +kernel, by decide +kernel, by decide +kernel⟩, by decide⟩
theorem coX1_takeBack : CVok mX1_takeBack 1 1 := ⟨by decide, rfl, (u_t3 155 (by decide +kernel) (by decide +kernel)), (u_t3 156 (by decide +kernel) (by decide +kernel)), inz1, (u_t3 157 (by decide +kernel) (by decide +kernel)), ⟨by decide +kernel, by decide +kernel, by decide +kernel⟩, by decide⟩
theorem coX1_keepImage : CVok mX1_keepImage 1 2 := ⟨by decide, rfl, (u_t3 175 (by decide +kernel) (by decide +kernel)), (u_t3 176 (by decide +kernel) (by decide +kernel)), inz1, (u_t3 177 (by decide +kernel) (by decide +kernel)), ⟨by decide +kernel, by decide +kernel, by decide +kernel⟩, by decide⟩
theorem coX1_takeImage : CVok mX1_takeImage 1 0 := ⟨by decide, rfl, (u_t3 216 (by decide +kernel) (by decide +kernel)), (u_t3 217 (by decide +kernel) (by decide +kernel)), inz1, (u_t3 218 (by decide +kernel) (by decide +kernel)), ⟨by decide +kernel, by decide +kernel, by decide +kernel⟩, by decide⟩
theorem coX7_giveBack : CVok mX7_giveBack 7 2 := ⟨by decide, rfl, (u_t3 220 (by decide +kernel) (by decide +kernel)), (u_t3 221 (by decide +kernel) (by decide +kernel)), inz7, (u_t3 222 (by decide +kernel) (by decide +kernel)), ⟨by decide +kernel, by decide +kernel, by decide +kernel⟩, by decide⟩
theorem coX10_begin : CVok mX10_begin 10 1 := ⟨by decide, rfl, (u_t4 80 (by decide +kernel) (by decide +kernel)), (u_t4 81 (by decide +kernel) (by decide +kernel)), inz10, (u_t4 82 (by decide +kernel) (by decide +kernel)), ⟨by decide +kernel, by decide +kernel, by decide +kernel⟩, by decide⟩
theorem coX9_forget : CVok mX9_forget 9 0 := ⟨by decide, rfl, (u_t3 167 (by decide +kernel) (by decide +kernel)), (u_t3 168 (by decide +kernel) (by decide +kernel)), inz9, (u_t3 169 (by decide +kernel) (by decide +kernel)), ⟨by decide +kernel, by decide +kernel, by decide +kernel⟩, by decide⟩
theorem coX12_tellsNothing : CVok mX12_tellsNothing 12 0 := ⟨by decide, rfl, (u_t6 199 (by decide +kernel) (by decide +kernel)), (u_s4 (y := yX12_tellsNothing) 5 63 rfl (by decide +kernel)), inz12, (u_t6 200 (by decide +kernel) (by decide +kernel)), ⟨by decide +kernel, by decide +kernel, by decide +kernel⟩, by decide⟩
theorem coX12_stands : CVok mX12_stands 12 0 := ⟨by decide, rfl, (u_t6 203 (by decide +kernel) (by decide +kernel)), (u_s4 (y := yX12_stands) 6 63 rfl (by decide +kernel)), inz12, (u_t6 204 (by decide +kernel) (by decide +kernel)), ⟨by decide +kernel, by decide +kernel, by decide +kernel⟩, by decide⟩
theorem coX12_byteAt : CVok mX12_byteAt 12 1 := ⟨by decide, rfl, (u_t7 185 (by decide +kernel) (by decide +kernel)), (u_s4 (y := yX12_byteAt) 10 63 rfl (by decide +kernel)), inz12, (u_t7 186 (by decide +kernel) (by decide +kernel)), ⟨by decide +kernel, by decide +kernel, by decide +kernel⟩, by decide⟩
theorem coX12_blanks : CVok mX12_blanks 12 0 := ⟨by decide, rfl, (u_t7 181 (by decide +kernel) (by decide +kernel)), (u_s4 (y := yX12_blanks) 9 63 rfl (by decide +kernel)), inz12, (u_t7 182 (by decide +kernel) (by decide +kernel)), ⟨by decide +kernel, by decide +kernel, by decide +kernel⟩, by decide⟩
theorem coX12_isDigit : CSok mX12_isDigit 1 := ⟨(u_t7 218 (by decide +kernel) (by decide +kernel)), inz12, (u_t7 219 (by decide +kernel) (by decide +kernel)), ⟨by decide +kernel, by decide +kernel, by decide +kernel⟩, by decide⟩
theorem coX12_wrong : CVok mX12_wrong 12 2 := ⟨by decide, rfl, (u_t7 207 (by decide +kernel) (by decide +kernel)), (u_s4 (y := yX12_wrong) 14 63 rfl (by decide +kernel)), inz12, (u_t7 208 (by decide +kernel) (by decide +kernel)), ⟨by decide +kernel, by decide +kernel, by decide +kernel⟩, by decide⟩
theorem coX12_in : CSok mX12_in 3 := ⟨(u_t7 169 (by decide +kernel) (by decide +kernel)), inz12, (u_t7 170 (by decide +kernel) (by decide +kernel)), ⟨by decide +kernel, by decide +kernel, by decide +kernel⟩, by decide⟩
theorem coX12_isSmall : CSok mX12_isSmall 1 := ⟨(u_t7 200 (by decide +kernel) (by decide +kernel)), inz12, (u_t7 201 (by decide +kernel) (by decide +kernel)), ⟨by decide +kernel, by decide +kernel, by decide +kernel⟩, by decide⟩
theorem coX12_wordHere : CVok mX12_wordHere 12 0 := ⟨by decide, rfl, (u_t7 197 (by decide +kernel) (by decide +kernel)), (u_s4 (y := yX12_wordHere) 13 63 rfl (by decide +kernel)), inz12, (u_t7 198 (by decide +kernel) (by decide +kernel)), ⟨by decide +kernel, by decide +kernel, by decide +kernel⟩, by decide⟩
theorem coX12_six : CSok mX12_six 6 := ⟨(u_t7 203 (by decide +kernel) (by decide +kernel)), inz12, (u_t7 204 (by decide +kernel) (by decide +kernel)), ⟨by decide +kernel, by decide +kernel, by decide +kernel⟩, by decide⟩
theorem coX12_isWord : CVok mX12_isWord 12 6 := ⟨by decide, rfl, (u_t7 193 (by decide +kernel) (by decide +kernel)), (u_s4 (y := yX12_isWord) 12 63 rfl (by decide +kernel)), inz12, (u_t7 194 (by decide +kernel) (by decide +kernel)), ⟨by decide +kernel, by decide +kernel, by decide +kernel⟩, by decide⟩
theorem coX12_skipWord : CVok mX12_skipWord 12 0 := ⟨by decide, rfl, (u_t7 211 (by decide +kernel) (by decide +kernel)), (u_s4 (y := yX12_skipWord) 15 63 rfl (by decide +kernel)), inz12, (u_t7 212 (by decide +kernel) (by decide +kernel)), ⟨by decide +kernel, by decide +kernel, by decide +kernel⟩, by decide⟩
theorem coX12_number : CVok mX12_number 12 2 := ⟨by decide, rfl, (u_t7 215 (by decide +kernel) (by decide +kernel)), (u_s5 (y := yX12_number) 0 63 rfl (by decide +kernel)), inz12, (u_t7 216 (by decide +kernel) (by decide +kernel)), ⟨by decide +kernel, by decide +kernel, by decide +kernel⟩, by decide⟩
theorem coX12_sign : CVok mX12_sign 12 1 := ⟨by decide, rfl, (u_t7 223 (by decide +kernel) (by decide +kernel)), (u_s5 (y := yX12_sign) 1 63 rfl (by decide +kernel)), inz12, (u_t7 224 (by decide +kernel) (by decide +kernel)), ⟨by decide +kernel, by decide +kernel, by decide +kernel⟩, by decide⟩
theorem coX12_bad : CVok mX12_bad 12 3 := ⟨by decide, rfl, (u_t7 173 (by decide +kernel) (by decide +kernel)), (u_s4 (y := yX12_bad) 7 63 rfl (by decide +kernel)), inz12, (u_t7 174 (by decide +kernel) (by decide +kernel)), ⟨by decide +kernel, by decide +kernel, by decide +kernel⟩, by decide⟩
theorem coX12_starts : CVok mX12_starts 12 1 := ⟨by decide, rfl, (u_t7 177 (by decide +kernel) (by decide +kernel)), (u_s4 (y := yX12_starts) 8 63 rfl (by decide +kernel)), inz12, (u_t7 178 (by decide +kernel) (by decide +kernel)), ⟨by decide +kernel, by decide +kernel, by decide +kernel⟩, by decide⟩
theorem coX12_clause : CVok mX12_clause 12 0 := ⟨by decide, rfl, (u_t7 189 (by decide +kernel) (by decide +kernel)), (u_s4 (y := yX12_clause) 11 63 rfl (by decide +kernel)), inz12, (u_t7 190 (by decide +kernel) (by decide +kernel)), ⟨by decide +kernel, by decide +kernel, by decide +kernel⟩, by decide⟩
theorem coX12_ends : CVok mX12_ends 12 0 := ⟨by decide, rfl, (u_t7 227 (by decide +kernel) (by decide +kernel)), (u_s5 (y := yX12_ends) 2 63 rfl (by decide +kernel)), inz12, (u_t7 228 (by decide +kernel) (by decide +kernel)), ⟨by decide +kernel, by decide +kernel, by decide +kernel⟩, by decide⟩
theorem coX12_product : CVok mX12_product 12 0 := ⟨by decide, rfl, (u_t8 3 (by decide +kernel) (by decide +kernel)), (u_s5 (y := yX12_product) 5 63 rfl (by decide +kernel)), inz12, (u_t8 4 (by decide +kernel) (by decide +kernel)), ⟨by decide +kernel, by decide +kernel, by decide +kernel⟩, by decide⟩
theorem coX12_takesSign : CVok mX12_takesSign 12 1 := ⟨by decide, rfl, (u_t8 19 (by decide +kernel) (by decide +kernel)), (u_s5 (y := yX12_takesSign) 9 63 rfl (by decide +kernel)), inz12, (u_t8 20 (by decide +kernel) (by decide +kernel)), ⟨by decide +kernel, by decide +kernel, by decide +kernel⟩, by decide⟩
theorem coX12_notes : CVok mX12_notes 12 2 := ⟨by decide, rfl, (u_t8 15 (by decide +kernel) (by decide +kernel)), (u_s5 (y := yX12_notes) 8 63 rfl (by decide +kernel)), inz12, (u_t8 16 (by decide +kernel) (by decide +kernel)), ⟨by decide +kernel, by decide +kernel, by decide +kernel⟩, by decide⟩
theorem coX12_one : CVok mX12_one 12 0 := ⟨by decide, rfl, (u_t8 7 (by decide +kernel) (by decide +kernel)), (u_s5 (y := yX12_one) 6 63 rfl (by decide +kernel)), inz12, (u_t8 8 (by decide +kernel) (by decide +kernel)), ⟨by decide +kernel, by decide +kernel, by decide +kernel⟩, by decide⟩
theorem coX12_takes : CVok mX12_takes 12 6 := ⟨by decide, rfl, (u_t8 23 (by decide +kernel) (by decide +kernel)), (u_s5 (y := yX12_takes) 10 63 rfl (by decide +kernel)), inz12, (u_t8 24 (by decide +kernel) (by decide +kernel)), ⟨by decide +kernel, by decide +kernel, by decide +kernel⟩, by decide⟩
theorem coX12_opens : CVok mX12_opens 12 0 := ⟨by decide, rfl, (u_t8 11 (by decide +kernel) (by decide +kernel)), (u_s5 (y := yX12_opens) 7 63 rfl (by decide +kernel)), inz12, (u_t8 12 (by decide +kernel) (by decide +kernel)), ⟨by decide +kernel, by decide +kernel, by decide +kernel⟩, by decide⟩
theorem coX12_sum : CVok mX12_sum 12 0 := ⟨by decide, rfl, (u_t7 239 (by decide +kernel) (by decide +kernel)), (u_s5 (y := yX12_sum) 4 63 rfl (by decide +kernel)), inz12, (u_t8 0 (by decide +kernel) (by decide +kernel)), ⟨by decide +kernel, by decide +kernel, by decide +kernel⟩, by decide⟩
theorem coX12_knownHere : CVok mX12_knownHere 12 0 := ⟨by decide, rfl, (u_t8 27 (by decide +kernel) (by decide +kernel)), (u_s5 (y := yX12_knownHere) 11 63 rfl (by decide +kernel)), inz12, (u_t8 28 (by decide +kernel) (by decide +kernel)), ⟨by decide +kernel, by decide +kernel, by decide +kernel⟩, by decide⟩
theorem coX12_isGuest : CVok mX12_isGuest 12 1 := ⟨by decide, rfl, (u_t7 235 (by decide +kernel) (by decide +kernel)), (u_s5 (y := yX12_isGuest) 3 63 rfl (by decide +kernel)), inz12, (u_t7 236 (by decide +kernel) (by decide +kernel)), ⟨by decide +kernel, by decide +kernel, by decide +kernel⟩, by decide⟩
theorem coX12_less : CSok mX12_less 2 := ⟨(u_t8 48 (by decide +kernel) (by decide +kernel)), inz12, (u_t8 49 (by decide +kernel) (by decide +kernel)), ⟨by decide +kernel, by decide +kernel, by decide +kernel⟩, by decide⟩
theorem coX12_greater : CSok mX12_greater 2 := ⟨(u_t8 51 (by decide +kernel) (by decide +kernel)), inz12, (u_t8 52 (by decide +kernel) (by decide +kernel)), ⟨by decide +kernel, by decide +kernel, by decide +kernel⟩, by decide⟩
theorem coX12_by : CSok mX12_by 3 := ⟨(u_t8 45 (by decide +kernel) (by decide +kernel)), inz12, (u_t8 46 (by decide +kernel) (by decide +kernel)), ⟨by decide +kernel, by decide +kernel, by decide +kernel⟩, by decide⟩
theorem coX12_isHalf : CSok mX12_isHalf 1 := ⟨(u_t8 34 (by decide +kernel) (by decide +kernel)), inz12, (u_t8 35 (by decide +kernel) (by decide +kernel)), ⟨by decide +kernel, by decide +kernel, by decide +kernel⟩, by decide⟩
theorem coX12_knowsSelf : CVok mX12_knowsSelf 12 1 := ⟨by decide, rfl, (u_t8 38 (by decide +kernel) (by decide +kernel)), (u_s5 (y := yX12_knowsSelf) 12 63 rfl (by decide +kernel)), inz12, (u_t8 39 (by decide +kernel) (by decide +kernel)), ⟨by decide +kernel, by decide +kernel, by decide +kernel⟩, by decide⟩
theorem coX12_comesBy : CVok mX12_comesBy 12 1 := ⟨by decide, rfl, (u_t8 42 (by decide +kernel) (by decide +kernel)), (u_s5 (y := yX12_comesBy) 13 63 rfl (by decide +kernel)), inz12, (u_t8 43 (by decide +kernel) (by decide +kernel)), ⟨by decide +kernel, by decide +kernel, by decide +kernel⟩, by decide⟩
theorem coX12_isChair : CVok mX12_isChair 12 1 := ⟨by decide, rfl, (u_t8 75 (by decide +kernel) (by decide +kernel)), (u_s5 (y := yX12_isChair) 14 63 rfl (by decide +kernel)), inz12, (u_t8 76 (by decide +kernel) (by decide +kernel)), ⟨by decide +kernel, by decide +kernel, by decide +kernel⟩, by decide⟩
theorem coX12_worthOf : CVok mX12_worthOf 12 3 := ⟨by decide, rfl, (u_t8 79 (by decide +kernel) (by decide +kernel)), (u_s5 (y := yX12_worthOf) 15 63 rfl (by decide +kernel)), inz12, (u_t8 80 (by decide +kernel) (by decide +kernel)), ⟨by decide +kernel, by decide +kernel, by decide +kernel⟩, by decide⟩
theorem coX12_frees : CVok mX12_frees 12 1 := ⟨by decide, rfl, (u_t8 115 (by decide +kernel) (by decide +kernel)), (u_s6 (y := yX12_frees) 6 63 rfl (by decide +kernel)), inz12, (u_t8 116 (by decide +kernel) (by decide +kernel)), ⟨by decide +kernel, by decide +kernel, by decide +kernel⟩, by decide⟩
theorem coX12_hotelGoes : CVok mX12_hotelGoes 12 1 := ⟨by decide, rfl, (u_t8 119 (by decide +kernel) (by decide +kernel)), (u_s6 (y := yX12_hotelGoes) 7 63 rfl (by decide +kernel)), inz12, (u_t8 120 (by decide +kernel) (by decide +kernel)), ⟨by decide +kernel, by decide +kernel, by decide +kernel⟩, by decide⟩
theorem coX12_guestOfRank : CVok mX12_guestOfRank 12 1 := ⟨by decide, rfl, (u_t8 123 (by decide +kernel) (by decide +kernel)), (u_s6 (y := yX12_guestOfRank) 8 63 rfl (by decide +kernel)), inz12, (u_t8 124 (by decide +kernel) (by decide +kernel)), ⟨by decide +kernel, by decide +kernel, by decide +kernel⟩, by decide⟩
theorem coX12_sits : CVok mX12_sits 12 2 := ⟨by decide, rfl, (u_t8 127 (by decide +kernel) (by decide +kernel)), (u_s6 (y := yX12_sits) 9 63 rfl (by decide +kernel)), inz12, (u_t8 128 (by decide +kernel) (by decide +kernel)), ⟨by decide +kernel, by decide +kernel, by decide +kernel⟩, by decide⟩
theorem coX12_nextWaiting : CVok mX12_nextWaiting 12 2 := ⟨by decide, rfl, (u_t8 131 (by decide +kernel) (by decide +kernel)), (u_s6 (y := yX12_nextWaiting) 10 63 rfl (by decide +kernel)), inz12, (u_t8 132 (by decide +kernel) (by decide +kernel)), ⟨by decide +kernel, by decide +kernel, by decide +kernel⟩, by decide⟩
theorem coX12_half : CVok mX12_half 12 1 := ⟨by decide, rfl, (u_t8 111 (by decide +kernel) (by decide +kernel)), (u_s6 (y := yX12_half) 5 63 rfl (by decide +kernel)), inz12, (u_t8 112 (by decide +kernel) (by decide +kernel)), ⟨by decide +kernel, by decide +kernel, by decide +kernel⟩, by decide⟩
theorem coX12_lostOf : CVok mX12_lostOf 12 1 := ⟨by decide, rfl, (u_t8 147 (by decide +kernel) (by decide +kernel)), (u_s6 (y := yX12_lostOf) 13 63 rfl (by decide +kernel)), inz12, (u_t8 148 (by decide +kernel) (by decide +kernel)), ⟨by decide +kernel, by decide +kernel, by decide +kernel⟩, by decide⟩
theorem coX12_ranksByNumber : CVok mX12_ranksByNumber 12 0 := ⟨by decide, rfl, (u_t8 99 (by decide +kernel) (by decide +kernel)), (u_s6 (y := yX12_ranksByNumber) 2 63 rfl (by decide +kernel)), inz12, (u_t8 100 (by decide +kernel) (by decide +kernel)), ⟨by decide +kernel, by decide +kernel, by decide +kernel⟩, by decide⟩
theorem coX12_runs : CVok mX12_runs 12 0 := ⟨by decide, rfl, (u_t8 107 (by decide +kernel) (by decide +kernel)), (u_s6 (y := yX12_runs) 4 63 rfl (by decide +kernel)), inz12, (u_t8 108 (by decide +kernel) (by decide +kernel)), ⟨by decide +kernel, by decide +kernel, by decide +kernel⟩, by decide⟩
theorem coX12_asks : CVok mX12_asks 12 1 := ⟨by decide, rfl, (u_t8 135 (by decide +kernel) (by decide +kernel)), (u_s6 (y := yX12_asks) 11 63 rfl (by decide +kernel)), inz12, (u_t8 136 (by decide +kernel) (by decide +kernel)), ⟨by decide +kernel, by decide +kernel, by decide +kernel⟩, by decide⟩
theorem coX12_begins : CVok mX12_begins 12 0 := ⟨by decide, rfl, (u_t8 95 (by decide +kernel) (by decide +kernel)), (u_s6 (y := yX12_begins) 1 63 rfl (by decide +kernel)), inz12, (u_t8 96 (by decide +kernel) (by decide +kernel)), ⟨by decide +kernel, by decide +kernel, by decide +kernel⟩, by decide⟩
theorem coX12_goesTo : CVok mX12_goesTo 12 1 := ⟨by decide, rfl, (u_t8 103 (by decide +kernel) (by decide +kernel)), (u_s6 (y := yX12_goesTo) 3 63 rfl (by decide +kernel)), inz12, (u_t8 104 (by decide +kernel) (by decide +kernel)), ⟨by decide +kernel, by decide +kernel, by decide +kernel⟩, by decide⟩
theorem coX12_dayNow : CVok mX12_dayNow 12 0 := ⟨by decide, rfl, (u_t8 91 (by decide +kernel) (by decide +kernel)), (u_s6 (y := yX12_dayNow) 0 63 rfl (by decide +kernel)), inz12, (u_t8 92 (by decide +kernel) (by decide +kernel)), ⟨by decide +kernel, by decide +kernel, by decide +kernel⟩, by decide⟩
theorem coX12_netOf : CVok mX12_netOf 12 1 := ⟨by decide, rfl, (u_t8 143 (by decide +kernel) (by decide +kernel)), (u_s6 (y := yX12_netOf) 12 63 rfl (by decide +kernel)), inz12, (u_t8 144 (by decide +kernel) (by decide +kernel)), ⟨by decide +kernel, by decide +kernel, by decide +kernel⟩, by decide⟩
theorem coX12_allGot : CVok mX12_allGot 12 0 := ⟨by decide, rfl, (u_t8 167 (by decide +kernel) (by decide +kernel)), (u_s6 (y := yX12_allGot) 14 63 rfl (by decide +kernel)), inz12, (u_t8 168 (by decide +kernel) (by decide +kernel)), ⟨by decide +kernel, by decide +kernel, by decide +kernel⟩, by decide⟩
theorem coX12_allIdle : CVok mX12_allIdle 12 0 := ⟨by decide, rfl, (u_t8 171 (by decide +kernel) (by decide +kernel)), (u_s6 (y := yX12_allIdle) 15 63 rfl (by decide +kernel)), inz12, (u_t8 172 (by decide +kernel) (by decide +kernel)), ⟨by decide +kernel, by decide +kernel, by decide +kernel⟩, by decide⟩
theorem coX12_allLost : CVok mX12_allLost 12 0 := ⟨by decide, rfl, (u_t8 175 (by decide +kernel) (by decide +kernel)), (u_s7 (y := yX12_allLost) 0 63 rfl (by decide +kernel)), inz12, (u_t8 176 (by decide +kernel) (by decide +kernel)), ⟨by decide +kernel, by decide +kernel, by decide +kernel⟩, by decide⟩
theorem coX12_isAs : CVok mX12_isAs 12 2 := ⟨by decide, rfl, (u_t8 183 (by decide +kernel) (by decide +kernel)), (u_s7 (y := yX12_isAs) 1 63 rfl (by decide +kernel)), inz12, (u_t8 184 (by decide +kernel) (by decide +kernel)), ⟨by decide +kernel, by decide +kernel, by decide +kernel⟩, by decide⟩
theorem coX12_power : CSok mX12_power 2 := ⟨(u_t8 198 (by decide +kernel) (by decide +kernel)), inz12, (u_t8 199 (by decide +kernel) (by decide +kernel)), ⟨by decide +kernel, by decide +kernel, by decide +kernel⟩, by decide⟩
theorem coX12_comeBy : CVok mX12_comeBy 12 2 := ⟨by decide, rfl, (u_t8 202 (by decide +kernel) (by decide +kernel)), (u_s7 (y := yX12_comeBy) 2 63 rfl (by decide +kernel)), inz12, (u_t8 203 (by decide +kernel) (by decide +kernel)), ⟨by decide +kernel, by decide +kernel, by decide +kernel⟩, by decide⟩
theorem coX12_laysGiven : CVok mX12_laysGiven 12 1 := ⟨by decide, rfl, (u_t8 214 (by decide +kernel) (by decide +kernel)), (u_s7 (y := yX12_laysGiven) 3 63 rfl (by decide +kernel)), inz12, (u_t8 215 (by decide +kernel) (by decide +kernel)), ⟨by decide +kernel, by decide +kernel, by decide +kernel⟩, by decide⟩
theorem coX12_wantAt : CVok mX12_wantAt 12 1 := ⟨by decide, rfl, (u_t8 234 (by decide +kernel) (by decide +kernel)), (u_s7 (y := yX12_wantAt) 4 63 rfl (by decide +kernel)), inz12, (u_t8 235 (by decide +kernel) (by decide +kernel)), ⟨by decide +kernel, by decide +kernel, by decide +kernel⟩, by decide⟩
theorem coX12_draw : CVok mX12_draw 12 1 := ⟨by decide, rfl, (u_t9 22 (by decide +kernel) (by decide +kernel)), (u_s7 (y := yX12_draw) 7 63 rfl (by decide +kernel)), inz12, (u_t9 23 (by decide +kernel) (by decide +kernel)), ⟨by decide +kernel, by decide +kernel, by decide +kernel⟩, by decide⟩
theorem coX12_drawsOrder : CVok mX12_drawsOrder 12 0 := ⟨by decide, rfl, (u_t9 18 (by decide +kernel) (by decide +kernel)), (u_s7 (y := yX12_drawsOrder) 6 63 rfl (by decide +kernel)), inz12, (u_t9 19 (by decide +kernel) (by decide +kernel)), ⟨by decide +kernel, by decide +kernel, by decide +kernel⟩, by decide⟩
theorem coX12_lotNow : CVok mX12_lotNow 12 1 := ⟨by decide, rfl, (u_t9 14 (by decide +kernel) (by decide +kernel)), (u_s7 (y := yX12_lotNow) 5 63 rfl (by decide +kernel)), inz12, (u_t9 15 (by decide +kernel) (by decide +kernel)), ⟨by decide +kernel, by decide +kernel, by decide +kernel⟩, by decide⟩
theorem coX12_rightBy : CVok mX12_rightBy 12 1 := ⟨by decide, rfl, (u_t9 39 (by decide +kernel) (by decide +kernel)), (u_s7 (y := yX12_rightBy) 8 63 rfl (by decide +kernel)), inz12, (u_t9 40 (by decide +kernel) (by decide +kernel)), ⟨by decide +kernel, by decide +kernel, by decide +kernel⟩, by decide⟩
theorem coX12_puts : CVok mX12_puts 12 3 := ⟨by decide, rfl, (u_t9 63 (by decide +kernel) (by decide +kernel)), (u_s7 (y := yX12_puts) 11 63 rfl (by decide +kernel)), inz12, (u_t9 64 (by decide +kernel) (by decide +kernel)), ⟨by decide +kernel, by decide +kernel, by decide +kernel⟩, by decide⟩
theorem coX12_putsChanged : CVok mX12_putsChanged 12 2 := ⟨by decide, rfl, (u_t9 59 (by decide +kernel) (by decide +kernel)), (u_s7 (y := yX12_putsChanged) 10 63 rfl (by decide +kernel)), inz12, (u_t9 60 (by decide +kernel) (by decide +kernel)), ⟨by decide +kernel, by decide +kernel, by decide +kernel⟩, by decide⟩
theorem coX12_changes : CVok mX12_changes 12 0 := ⟨by decide, rfl, (u_t9 55 (by decide +kernel) (by decide +kernel)), (u_s7 (y := yX12_changes) 9 63 rfl (by decide +kernel)), inz12, (u_t9 56 (by decide +kernel) (by decide +kernel)), ⟨by decide +kernel, by decide +kernel, by decide +kernel⟩, by decide⟩
theorem coX12_putsAll : CVok mX12_putsAll 12 2 := ⟨by decide, rfl, (u_t9 83 (by decide +kernel) (by decide +kernel)), (u_s7 (y := yX12_putsAll) 12 63 rfl (by decide +kernel)), inz12, (u_t9 84 (by decide +kernel) (by decide +kernel)), ⟨by decide +kernel, by decide +kernel, by decide +kernel⟩, by decide⟩
theorem coX11_pool : CVok mX11_pool 11 1 := ⟨by decide, rfl, (u_t3 236 (by decide +kernel) (by decide +kernel)), (u_t3 237 (by decide +kernel) (by decide +kernel)), inz11, (u_t3 238 (by decide +kernel) (by decide +kernel)), ⟨by decide +kernel, by decide +kernel, by decide +kernel⟩, by decide⟩
theorem coX11_habit : CVok mX11_habit 11 2 := ⟨by decide, rfl, (u_t4 214 (by decide +kernel) (by decide +kernel)), (u_t4 215 (by decide +kernel) (by decide +kernel)), inz11, (u_t4 216 (by decide +kernel) (by decide +kernel)), ⟨by decide +kernel, by decide +kernel, by decide +kernel⟩, by decide⟩
theorem coX11_book : CVok mX11_book 11 1 := ⟨by decide, rfl, (u_t5 55 (by decide +kernel) (by decide +kernel)), (u_t5 56 (by decide +kernel) (by decide +kernel)), inz11, (u_t5 57 (by decide +kernel) (by decide +kernel)), ⟨by decide +kernel, by decide +kernel, by decide +kernel⟩, by decide⟩
theorem coX11_told : CVok mX11_told 11 1 := ⟨by decide, rfl, (u_t5 75 (by decide +kernel) (by decide +kernel)), (u_t5 76 (by decide +kernel) (by decide +kernel)), inz11, (u_t5 77 (by decide +kernel) (by decide +kernel)), ⟨by decide +kernel, by decide +kernel, by decide +kernel⟩, by decide⟩
theorem coX11_chair : CVok mX11_chair 11 2 := ⟨by decide, rfl, (u_t5 82 (by decide +kernel) (by decide +kernel)), (u_t5 83 (by decide +kernel) (by decide +kernel)), inz11, (u_t5 84 (by decide +kernel) (by decide +kernel)), ⟨by decide +kernel, by decide +kernel, by decide +kernel⟩, by decide⟩
theorem coX11_guest : CVok mX11_guest 11 2 := ⟨by decide, rfl, (u_t5 94 (by decide +kernel) (by decide +kernel)), (u_t5 95 (by decide +kernel) (by decide +kernel)), inz11, (u_t5 96 (by decide +kernel) (by decide +kernel)), ⟨by decide +kernel, by decide +kernel, by decide +kernel⟩, by decide⟩
theorem coX11_day : CVok mX11_day 11 1 := ⟨by decide, rfl, (u_t5 101 (by decide +kernel) (by decide +kernel)), (u_t5 102 (by decide +kernel) (by decide +kernel)), inz11, (u_t5 103 (by decide +kernel) (by decide +kernel)), ⟨by decide +kernel, by decide +kernel, by decide +kernel⟩, by decide⟩
theorem coX11_did : CVok mX11_did 11 2 := ⟨by decide, rfl, (u_t5 108 (by decide +kernel) (by decide +kernel)), (u_t5 109 (by decide +kernel) (by decide +kernel)), inz11, (u_t5 110 (by decide +kernel) (by decide +kernel)), ⟨by decide +kernel, by decide +kernel, by decide +kernel⟩, by decide⟩
theorem coX11_towel : CVok mX11_towel 11 2 := ⟨by decide, rfl, (u_t5 115 (by decide +kernel) (by decide +kernel)), (u_t5 116 (by decide +kernel) (by decide +kernel)), inz11, (u_t5 117 (by decide +kernel) (by decide +kernel)), ⟨by decide +kernel, by decide +kernel, by decide +kernel⟩, by decide⟩
theorem coX11_lies : CVok mX11_lies 11 2 := ⟨by decide, rfl, (u_t5 122 (by decide +kernel) (by decide +kernel)), (u_t5 123 (by decide +kernel) (by decide +kernel)), inz11, (u_t5 124 (by decide +kernel) (by decide +kernel)), ⟨by decide +kernel, by decide +kernel, by decide +kernel⟩, by decide⟩
theorem coX11_waits : CVok mX11_waits 11 1 := ⟨by decide, rfl, (u_t5 129 (by decide +kernel) (by decide +kernel)), (u_t5 130 (by decide +kernel) (by decide +kernel)), inz11, (u_t5 131 (by decide +kernel) (by decide +kernel)), ⟨by decide +kernel, by decide +kernel, by decide +kernel⟩, by decide⟩
theorem coX11_sums : CVok mX11_sums 11 1 := ⟨by decide, rfl, (u_t5 136 (by decide +kernel) (by decide +kernel)), (u_t5 137 (by decide +kernel) (by decide +kernel)), inz11, (u_t5 138 (by decide +kernel) (by decide +kernel)), ⟨by decide +kernel, by decide +kernel, by decide +kernel⟩, by decide⟩
theorem coX11_worth : CVok mX11_worth 11 3 := ⟨by decide, rfl, (u_t5 158 (by decide +kernel) (by decide +kernel)), (u_t5 159 (by decide +kernel) (by decide +kernel)), inz11, (u_t5 160 (by decide +kernel) (by decide +kernel)), ⟨by decide +kernel, by decide +kernel, by decide +kernel⟩, by decide⟩
theorem coX11_would : CVok mX11_would 11 7 := ⟨by decide, rfl, (u_t5 166 (by decide +kernel) (by decide +kernel)), (u_t5 167 (by decide +kernel) (by decide +kernel)), inz11, (u_t5 168 (by decide +kernel) (by decide +kernel)), ⟨by decide +kernel, by decide +kernel, by decide +kernel⟩, by decide⟩
theorem coX11_round : CVok mX11_round 11 1 := ⟨by decide, rfl, (u_t5 177 (by decide +kernel) (by decide +kernel)), (u_t5 178 (by decide +kernel) (by decide +kernel)), inz11, (u_t5 179 (by decide +kernel) (by decide +kernel)), ⟨by decide +kernel, by decide +kernel, by decide +kernel⟩, by decide⟩
theorem coX11_out : CVok mX11_out 11 1 := ⟨by decide, rfl, (u_t5 184 (by decide +kernel) (by decide +kernel)), (u_t5 185 (by decide +kernel) (by decide +kernel)), inz11, (u_t5 186 (by decide +kernel) (by decide +kernel)), ⟨by decide +kernel, by decide +kernel, by decide +kernel⟩, by decide⟩
theorem coX11_had : CVok mX11_had 11 2 := ⟨by decide, rfl, (u_t5 195 (by decide +kernel) (by decide +kernel)), (u_t5 196 (by decide +kernel) (by decide +kernel)), inz11, (u_t5 197 (by decide +kernel) (by decide +kernel)), ⟨by decide +kernel, by decide +kernel, by decide +kernel⟩, by decide⟩
theorem coX11_still : CVok mX11_still 11 2 := ⟨by decide, rfl, (u_t5 203 (by decide +kernel) (by decide +kernel)), (u_t5 204 (by decide +kernel) (by decide +kernel)), inz11, (u_t5 205 (by decide +kernel) (by decide +kernel)), ⟨by decide +kernel, by decide +kernel, by decide +kernel⟩, by decide⟩
theorem coX11_net : CVok mX11_net 11 2 := ⟨by decide, rfl, (u_t6 48 (by decide +kernel) (by decide +kernel)), (u_t6 49 (by decide +kernel) (by decide +kernel)), inz11, (u_t6 50 (by decide +kernel) (by decide +kernel)), ⟨by decide +kernel, by decide +kernel, by decide +kernel⟩, by decide⟩
theorem coX11_gets : CVok mX11_gets 11 1 := ⟨by decide, rfl, (u_t6 56 (by decide +kernel) (by decide +kernel)), (u_t6 57 (by decide +kernel) (by decide +kernel)), inz11, (u_t6 58 (by decide +kernel) (by decide +kernel)), ⟨by decide +kernel, by decide +kernel, by decide +kernel⟩, by decide⟩
theorem coX11_more : CVok mX11_more 11 2 := ⟨by decide, rfl, (u_t6 63 (by decide +kernel) (by decide +kernel)), (u_t6 64 (by decide +kernel) (by decide +kernel)), inz11, (u_t6 65 (by decide +kernel) (by decide +kernel)), ⟨by decide +kernel, by decide +kernel, by decide +kernel⟩, by decide⟩
theorem coX11_want : CVok mX11_want 11 1 := ⟨by decide, rfl, (u_t6 75 (by decide +kernel) (by decide +kernel)), (u_t6 76 (by decide +kernel) (by decide +kernel)), inz11, (u_t6 77 (by decide +kernel) (by decide +kernel)), ⟨by decide +kernel, by decide +kernel, by decide +kernel⟩, by decide⟩
theorem coX11_just : CVok mX11_just 11 1 := ⟨by decide, rfl, (u_t6 90 (by decide +kernel) (by decide +kernel)), (u_t6 91 (by decide +kernel) (by decide +kernel)), inz11, (u_t6 92 (by decide +kernel) (by decide +kernel)), ⟨by decide +kernel, by decide +kernel, by decide +kernel⟩, by decide⟩
theorem coX11_off : CVok mX11_off 11 1 := ⟨by decide, rfl, (u_t6 97 (by decide +kernel) (by decide +kernel)), (u_t6 98 (by decide +kernel) (by decide +kernel)), inz11, (u_t6 99 (by decide +kernel) (by decide +kernel)), ⟨by decide +kernel, by decide +kernel, by decide +kernel⟩, by decide⟩
theorem coX11_turnsOf : CVok mX11_turnsOf 11 1 := ⟨by decide, rfl, (u_t6 104 (by decide +kernel) (by decide +kernel)), (u_t6 105 (by decide +kernel) (by decide +kernel)), inz11, (u_t6 106 (by decide +kernel) (by decide +kernel)), ⟨by decide +kernel, by decide +kernel, by decide +kernel⟩, by decide⟩
theorem coX11_lot : CVok mX11_lot 11 2 := ⟨by decide, rfl, (u_t6 118 (by decide +kernel) (by decide +kernel)), (u_t6 119 (by decide +kernel) (by decide +kernel)), inz11, (u_t6 120 (by decide +kernel) (by decide +kernel)), ⟨by decide +kernel, by decide +kernel, by decide +kernel⟩, by decide⟩
theorem coX11_lucky : CVok mX11_lucky 11 3 := ⟨by decide, rfl, (u_t6 130 (by decide +kernel) (by decide +kernel)), (u_t6 131 (by decide +kernel) (by decide +kernel)), inz11, (u_t6 132 (by decide +kernel) (by decide +kernel)), ⟨by decide +kernel, by decide +kernel, by decide +kernel⟩, by decide⟩
theorem coX11_summer : CVok mX11_summer 11 3 := ⟨by decide, rfl, (u_t6 137 (by decide +kernel) (by decide +kernel)), (u_t6 138 (by decide +kernel) (by decide +kernel)), inz11, (u_t6 139 (by decide +kernel) (by decide +kernel)), ⟨by decide +kernel, by decide +kernel, by decide +kernel⟩, by decide⟩
theorem coX11_fits : CVok mX11_fits 11 1 := ⟨by decide, rfl, (u_t6 154 (by decide +kernel) (by decide +kernel)), (u_t6 155 (by decide +kernel) (by decide +kernel)), inz11, (u_t6 156 (by decide +kernel) (by decide +kernel)), ⟨by decide +kernel, by decide +kernel, by decide +kernel⟩, by decide⟩
theorem coX11_early : CVok mX11_early 11 1 := ⟨by decide, rfl, (u_t6 161 (by decide +kernel) (by decide +kernel)), (u_t6 162 (by decide +kernel) (by decide +kernel)), inz11, (u_t6 163 (by decide +kernel) (by decide +kernel)), ⟨by decide +kernel, by decide +kernel, by decide +kernel⟩, by decide⟩
theorem coX11_hotel : CVok mX11_hotel 11 2 := ⟨by decide, rfl, (u_t6 168 (by decide +kernel) (by decide +kernel)), (u_t6 169 (by decide +kernel) (by decide +kernel)), inz11, (u_t6 170 (by decide +kernel) (by decide +kernel)), ⟨by decide +kernel, by decide +kernel, by decide +kernel⟩, by decide⟩
theorem coX11_hire : CVok mX11_hire 11 1 := ⟨by decide, rfl, (u_t6 179 (by decide +kernel) (by decide +kernel)), (u_t6 180 (by decide +kernel) (by decide +kernel)), inz11, (u_t6 181 (by decide +kernel) (by decide +kernel)), ⟨by decide +kernel, by decide +kernel, by decide +kernel⟩, by decide⟩
theorem coX11_wakes : CVok mX11_wakes 11 2 := ⟨by decide, rfl, (u_t6 186 (by decide +kernel) (by decide +kernel)), (u_t6 187 (by decide +kernel) (by decide +kernel)), inz11, (u_t6 188 (by decide +kernel) (by decide +kernel)), ⟨by decide +kernel, by decide +kernel, by decide +kernel⟩, by decide⟩
theorem coX11_feed : CVok mX11_feed 11 5 := ⟨by decide, rfl, (u_t2 198 (by decide +kernel) (by decide +kernel)), (u_t2 199 (by decide +kernel) (by decide +kernel)), inz11, (u_t2 200 (by decide +kernel) (by decide +kernel)), ⟨by decide +kernel, by decide +kernel, by decide +kernel⟩, by decide⟩
theorem coX12_feed : CVok mX12_feed 12 5 := ⟨by decide, rfl, (u_t7 161 (by decide +kernel) (by decide +kernel)), (u_t7 162 (by decide +kernel) (by decide +kernel)), inz12, (u_t7 163 (by decide +kernel) (by decide +kernel)), ⟨by decide +kernel, by decide +kernel, by decide +kernel⟩, by decide⟩
theorem coX12_pool : CVok mX12_pool 12 1 := ⟨by decide, rfl, (u_t7 165 (by decide +kernel) (by decide +kernel)), (u_t7 166 (by decide +kernel) (by decide +kernel)), inz12, (u_t7 167 (by decide +kernel) (by decide +kernel)), ⟨by decide +kernel, by decide +kernel, by decide +kernel⟩, by decide⟩
theorem coX12_thrown : CVok mX12_thrown 12 0 := ⟨by decide, rfl, (u_t7 157 (by decide +kernel) (by decide +kernel)), (u_t7 158 (by decide +kernel) (by decide +kernel)), inz12, (u_t7 159 (by decide +kernel) (by decide +kernel)), ⟨by decide +kernel, by decide +kernel, by decide +kernel⟩, by decide⟩
theorem coX12_habit : CVok mX12_habit 12 2 := ⟨by decide, rfl, (u_t7 230 (by decide +kernel) (by decide +kernel)), (u_t7 231 (by decide +kernel) (by decide +kernel)), inz12, (u_t7 232 (by decide +kernel) (by decide +kernel)), ⟨by decide +kernel, by decide +kernel, by decide +kernel⟩, by decide⟩
theorem coX12_book : CVok mX12_book 12 1 := ⟨by decide, rfl, (u_t8 54 (by decide +kernel) (by decide +kernel)), (u_t8 55 (by decide +kernel) (by decide +kernel)), inz12, (u_t8 56 (by decide +kernel) (by decide +kernel)), ⟨by decide +kernel, by decide +kernel, by decide +kernel⟩, by decide⟩
theorem coX11_fault : CVok mX11_fault 11 0 := ⟨by decide, rfl, (u_t2 206 (by decide +kernel) (by decide +kernel)), (u_t2 207 (by decide +kernel) (by decide +kernel)), inz11, (u_t2 208 (by decide +kernel) (by decide +kernel)), ⟨by decide +kernel, by decide +kernel, by decide +kernel⟩, by decide⟩
theorem coX12_fault : CVok mX12_fault 12 0 := ⟨by decide, rfl, (u_t8 58 (by decide +kernel) (by decide +kernel)), (u_t8 59 (by decide +kernel) (by decide +kernel)), inz12, (u_t8 60 (by decide +kernel) (by decide +kernel)), ⟨by decide +kernel, by decide +kernel, by decide +kernel⟩, by decide⟩
theorem coX12_told : CVok mX12_told 12 1 := ⟨by decide, rfl, (u_t8 62 (by decide +kernel) (by decide +kernel)), (u_t8 63 (by decide +kernel) (by decide +kernel)), inz12, (u_t8 64 (by decide +kernel) (by decide +kernel)), ⟨by decide +kernel, by decide +kernel, by decide +kernel⟩, by decide⟩
theorem coX12_chair : CVok mX12_chair 12 2 := ⟨by decide, rfl, (u_t8 86 (by decide +kernel) (by decide +kernel)), (u_t8 87 (by decide +kernel) (by decide +kernel)), inz12, (u_t8 88 (by decide +kernel) (by decide +kernel)), ⟨by decide +kernel, by decide +kernel, by decide +kernel⟩, by decide⟩
theorem coX12_guest : CVok mX12_guest 12 2 := ⟨by decide, rfl, (u_t8 66 (by decide +kernel) (by decide +kernel)), (u_t8 67 (by decide +kernel) (by decide +kernel)), inz12, (u_t8 68 (by decide +kernel) (by decide +kernel)), ⟨by decide +kernel, by decide +kernel, by decide +kernel⟩, by decide⟩
theorem coX12_day : CVok mX12_day 12 1 := ⟨by decide, rfl, (u_t8 82 (by decide +kernel) (by decide +kernel)), (u_t8 83 (by decide +kernel) (by decide +kernel)), inz12, (u_t8 84 (by decide +kernel) (by decide +kernel)), ⟨by decide +kernel, by decide +kernel, by decide +kernel⟩, by decide⟩
theorem coX12_did : CVok mX12_did 12 2 := ⟨by decide, rfl, (u_t8 138 (by decide +kernel) (by decide +kernel)), (u_t8 139 (by decide +kernel) (by decide +kernel)), inz12, (u_t8 140 (by decide +kernel) (by decide +kernel)), ⟨by decide +kernel, by decide +kernel, by decide +kernel⟩, by decide⟩
theorem coX12_towel : CVok mX12_towel 12 2 := ⟨by decide, rfl, (u_t8 150 (by decide +kernel) (by decide +kernel)), (u_t8 151 (by decide +kernel) (by decide +kernel)), inz12, (u_t8 152 (by decide +kernel) (by decide +kernel)), ⟨by decide +kernel, by decide +kernel, by decide +kernel⟩, by decide⟩
theorem coX12_lies : CVok mX12_lies 12 2 := ⟨by decide, rfl, (u_t8 154 (by decide +kernel) (by decide +kernel)), (u_t8 155 (by decide +kernel) (by decide +kernel)), inz12, (u_t8 156 (by decide +kernel) (by decide +kernel)), ⟨by decide +kernel, by decide +kernel, by decide +kernel⟩, by decide⟩
theorem coX12_waits : CVok mX12_waits 12 1 := ⟨by decide, rfl, (u_t8 158 (by decide +kernel) (by decide +kernel)), (u_t8 159 (by decide +kernel) (by decide +kernel)), inz12, (u_t8 160 (by decide +kernel) (by decide +kernel)), ⟨by decide +kernel, by decide +kernel, by decide +kernel⟩, by decide⟩
theorem coX12_sums : CVok mX12_sums 12 1 := ⟨by decide, rfl, (u_t8 162 (by decide +kernel) (by decide +kernel)), (u_t8 163 (by decide +kernel) (by decide +kernel)), inz12, (u_t8 164 (by decide +kernel) (by decide +kernel)), ⟨by decide +kernel, by decide +kernel, by decide +kernel⟩, by decide⟩
theorem coX12_worth : CVok mX12_worth 12 3 := ⟨by decide, rfl, (u_t8 70 (by decide +kernel) (by decide +kernel)), (u_t8 71 (by decide +kernel) (by decide +kernel)), inz12, (u_t8 72 (by decide +kernel) (by decide +kernel)), ⟨by decide +kernel, by decide +kernel, by decide +kernel⟩, by decide⟩
theorem coX12_would : CVok mX12_would 12 7 := ⟨by decide, rfl, (u_t8 30 (by decide +kernel) (by decide +kernel)), (u_t8 31 (by decide +kernel) (by decide +kernel)), inz12, (u_t8 32 (by decide +kernel) (by decide +kernel)), ⟨by decide +kernel, by decide +kernel, by decide +kernel⟩, by decide⟩
theorem coX12_round : CVok mX12_round 12 1 := ⟨by decide, rfl, (u_t8 178 (by decide +kernel) (by decide +kernel)), (u_t8 179 (by decide +kernel) (by decide +kernel)), inz12, (u_t8 180 (by decide +kernel) (by decide +kernel)), ⟨by decide +kernel, by decide +kernel, by decide +kernel⟩, by decide⟩
theorem coX12_out : CVok mX12_out 12 1 := ⟨by decide, rfl, (u_t8 186 (by decide +kernel) (by decide +kernel)), (u_t8 187 (by decide +kernel) (by decide +kernel)), inz12, (u_t8 188 (by decide +kernel) (by decide +kernel)), ⟨by decide +kernel, by decide +kernel, by decide +kernel⟩, by decide⟩
theorem coX12_had : CVok mX12_had 12 2 := ⟨by decide, rfl, (u_t8 190 (by decide +kernel) (by decide +kernel)), (u_t8 191 (by decide +kernel) (by decide +kernel)), inz12, (u_t8 192 (by decide +kernel) (by decide +kernel)), ⟨by decide +kernel, by decide +kernel, by decide +kernel⟩, by decide⟩
theorem coX12_still : CVok mX12_still 12 2 := ⟨by decide, rfl, (u_t8 194 (by decide +kernel) (by decide +kernel)), (u_t8 195 (by decide +kernel) (by decide +kernel)), inz12, (u_t8 196 (by decide +kernel) (by decide +kernel)), ⟨by decide +kernel, by decide +kernel, by decide +kernel⟩, by decide⟩
theorem coX12_net : CVok mX12_net 12 2 := ⟨by decide, rfl, (u_t8 205 (by decide +kernel) (by decide +kernel)), (u_t8 206 (by decide +kernel) (by decide +kernel)), inz12, (u_t8 207 (by decide +kernel) (by decide +kernel)), ⟨by decide +kernel, by decide +kernel, by decide +kernel⟩, by decide⟩
theorem coX11_given : CVok mX11_given 11 0 := ⟨by decide, rfl, (u_t2 210 (by decide +kernel) (by decide +kernel)), (u_t2 211 (by decide +kernel) (by decide +kernel)), inz11, (u_t2 212 (by decide +kernel) (by decide +kernel)), ⟨by decide +kernel, by decide +kernel, by decide +kernel⟩, by decide⟩
theorem coX12_given : CVok mX12_given 12 0 := ⟨by decide, rfl, (u_t8 209 (by decide +kernel) (by decide +kernel)), (u_t8 210 (by decide +kernel) (by decide +kernel)), inz12, (u_t8 211 (by decide +kernel) (by decide +kernel)), ⟨by decide +kernel, by decide +kernel, by decide +kernel⟩, by decide⟩
theorem coX12_gets : CVok mX12_gets 12 1 := ⟨by decide, rfl, (u_t8 217 (by decide +kernel) (by decide +kernel)), (u_t8 218 (by decide +kernel) (by decide +kernel)), inz12, (u_t8 219 (by decide +kernel) (by decide +kernel)), ⟨by decide +kernel, by decide +kernel, by decide +kernel⟩, by decide⟩
theorem coX11_waste : CVok mX11_waste 11 0 := ⟨by decide, rfl, (u_t2 237 (by decide +kernel) (by decide +kernel)), (u_t2 238 (by decide +kernel) (by decide +kernel)), inz11, (u_t2 239 (by decide +kernel) (by decide +kernel)), ⟨by decide +kernel, by decide +kernel, by decide +kernel⟩, by decide⟩
theorem coX12_waste : CVok mX12_waste 12 0 := ⟨by decide, rfl, (u_t8 221 (by decide +kernel) (by decide +kernel)), (u_t8 222 (by decide +kernel) (by decide +kernel)), inz12, (u_t8 223 (by decide +kernel) (by decide +kernel)), ⟨by decide +kernel, by decide +kernel, by decide +kernel⟩, by decide⟩
theorem coX12_more : CVok mX12_more 12 2 := ⟨by decide, rfl, (u_t8 225 (by decide +kernel) (by decide +kernel)), (u_t8 226 (by decide +kernel) (by decide +kernel)), inz12, (u_t8 227 (by decide +kernel) (by decide +kernel)), ⟨by decide +kernel, by decide +kernel, by decide +kernel⟩, by decide⟩
theorem coX12_want : CVok mX12_want 12 1 := ⟨by decide, rfl, (u_t8 229 (by decide +kernel) (by decide +kernel)), (u_t8 230 (by decide +kernel) (by decide +kernel)), inz12, (u_t8 231 (by decide +kernel) (by decide +kernel)), ⟨by decide +kernel, by decide +kernel, by decide +kernel⟩, by decide⟩
theorem coX12_just : CVok mX12_just 12 1 := ⟨by decide, rfl, (u_t8 237 (by decide +kernel) (by decide +kernel)), (u_t8 238 (by decide +kernel) (by decide +kernel)), inz12, (u_t8 239 (by decide +kernel) (by decide +kernel)), ⟨by decide +kernel, by decide +kernel, by decide +kernel⟩, by decide⟩
theorem coX12_off : CVok mX12_off 12 1 := ⟨by decide, rfl, (u_t9 1 (by decide +kernel) (by decide +kernel)), (u_t9 2 (by decide +kernel) (by decide +kernel)), inz12, (u_t9 3 (by decide +kernel) (by decide +kernel)), ⟨by decide +kernel, by decide +kernel, by decide +kernel⟩, by decide⟩
theorem coX12_turnsOf : CVok mX12_turnsOf 12 1 := ⟨by decide, rfl, (u_t9 5 (by decide +kernel) (by decide +kernel)), (u_t9 6 (by decide +kernel) (by decide +kernel)), inz12, (u_t9 7 (by decide +kernel) (by decide +kernel)), ⟨by decide +kernel, by decide +kernel, by decide +kernel⟩, by decide⟩
theorem coX12_lot : CVok mX12_lot 12 2 := ⟨by decide, rfl, (u_t9 9 (by decide +kernel) (by decide +kernel)), (u_t9 10 (by decide +kernel) (by decide +kernel)), inz12, (u_t9 11 (by decide +kernel) (by decide +kernel)), ⟨by decide +kernel, by decide +kernel, by decide +kernel⟩, by decide⟩
theorem coX12_lucky : CVok mX12_lucky 12 3 := ⟨by decide, rfl, (u_t9 26 (by decide +kernel) (by decide +kernel)), (u_t9 27 (by decide +kernel) (by decide +kernel)), inz12, (u_t9 28 (by decide +kernel) (by decide +kernel)), ⟨by decide +kernel, by decide +kernel, by decide +kernel⟩, by decide⟩
theorem coX12_summer : CVok mX12_summer 12 3 := ⟨by decide, rfl, (u_t9 30 (by decide +kernel) (by decide +kernel)), (u_t9 31 (by decide +kernel) (by decide +kernel)), inz12, (u_t9 32 (by decide +kernel) (by decide +kernel)), ⟨by decide +kernel, by decide +kernel, by decide +kernel⟩, by decide⟩
theorem coX12_fits : CVok mX12_fits 12 1 := ⟨by decide, rfl, (u_t9 34 (by decide +kernel) (by decide +kernel)), (u_t9 35 (by decide +kernel) (by decide +kernel)), inz12, (u_t9 36 (by decide +kernel) (by decide +kernel)), ⟨by decide +kernel, by decide +kernel, by decide +kernel⟩, by decide⟩
theorem coX11_right : CVok mX11_right 11 0 := ⟨by decide, rfl, (u_t3 141 (by decide +kernel) (by decide +kernel)), (u_t3 142 (by decide +kernel) (by decide +kernel)), inz11, (u_t3 143 (by decide +kernel) (by decide +kernel)), ⟨by decide +kernel, by decide +kernel, by decide +kernel⟩, by decide⟩
theorem coX12_right : CVok mX12_right 12 0 := ⟨by decide, rfl, (u_t9 42 (by decide +kernel) (by decide +kernel)), (u_t9 43 (by decide +kernel) (by decide +kernel)), inz12, (u_t9 44 (by decide +kernel) (by decide +kernel)), ⟨by decide +kernel, by decide +kernel, by decide +kernel⟩, by decide⟩
theorem coX12_early : CVok mX12_early 12 1 := ⟨by decide, rfl, (u_t9 46 (by decide +kernel) (by decide +kernel)), (u_t9 47 (by decide +kernel) (by decide +kernel)), inz12, (u_t9 48 (by decide +kernel) (by decide +kernel)), ⟨by decide +kernel, by decide +kernel, by decide +kernel⟩, by decide⟩
theorem coX12_hotel : CVok mX12_hotel 12 2 := ⟨by decide, rfl, (u_t9 50 (by decide +kernel) (by decide +kernel)), (u_t9 51 (by decide +kernel) (by decide +kernel)), inz12, (u_t9 52 (by decide +kernel) (by decide +kernel)), ⟨by decide +kernel, by decide +kernel, by decide +kernel⟩, by decide⟩
theorem coX12_hire : CVok mX12_hire 12 1 := ⟨by decide, rfl, (u_t9 66 (by decide +kernel) (by decide +kernel)), (u_t9 67 (by decide +kernel) (by decide +kernel)), inz12, (u_t9 68 (by decide +kernel) (by decide +kernel)), ⟨by decide +kernel, by decide +kernel, by decide +kernel⟩, by decide⟩
theorem coX12_wakes : CVok mX12_wakes 12 2 := ⟨by decide, rfl, (u_t9 70 (by decide +kernel) (by decide +kernel)), (u_t9 71 (by decide +kernel) (by decide +kernel)), inz12, (u_t9 72 (by decide +kernel) (by decide +kernel)), ⟨by decide +kernel, by decide +kernel, by decide +kernel⟩, by decide⟩
theorem coX11_undo : CVok mX11_undo 11 0 := ⟨by decide, rfl, (u_t3 151 (by decide +kernel) (by decide +kernel)), (u_t3 152 (by decide +kernel) (by decide +kernel)), inz11, (u_t3 153 (by decide +kernel) (by decide +kernel)), ⟨by decide +kernel, by decide +kernel, by decide +kernel⟩, by decide⟩
theorem coX12_undo : CVok mX12_undo 12 0 := ⟨by decide, rfl, (u_t9 74 (by decide +kernel) (by decide +kernel)), (u_t9 75 (by decide +kernel) (by decide +kernel)), inz12, (u_t9 76 (by decide +kernel) (by decide +kernel)), ⟨by decide +kernel, by decide +kernel, by decide +kernel⟩, by decide⟩
theorem coX11_image : CVok mX11_image 11 0 := ⟨by decide, rfl, (u_t3 171 (by decide +kernel) (by decide +kernel)), (u_t3 172 (by decide +kernel) (by decide +kernel)), inz11, (u_t3 173 (by decide +kernel) (by decide +kernel)), ⟨by decide +kernel, by decide +kernel, by decide +kernel⟩, by decide⟩
theorem coX12_image : CVok mX12_image 12 0 := ⟨by decide, rfl, (u_t9 78 (by decide +kernel) (by decide +kernel)), (u_t9 79 (by decide +kernel) (by decide +kernel)), inz12, (u_t9 80 (by decide +kernel) (by decide +kernel)), ⟨by decide +kernel, by decide +kernel, by decide +kernel⟩, by decide⟩
theorem coX11_restore : CVok mX11_restore 11 0 := ⟨by decide, rfl, (u_t3 212 (by decide +kernel) (by decide +kernel)), (u_t3 213 (by decide +kernel) (by decide +kernel)), inz11, (u_t3 214 (by decide +kernel) (by decide +kernel)), ⟨by decide +kernel, by decide +kernel, by decide +kernel⟩, by decide⟩
theorem coX12_restore : CVok mX12_restore 12 0 := ⟨by decide, rfl, (u_t9 86 (by decide +kernel) (by decide +kernel)), (u_t9 87 (by decide +kernel) (by decide +kernel)), inz12, (u_t9 88 (by decide +kernel) (by decide +kernel)), ⟨by decide +kernel, by decide +kernel, by decide +kernel⟩, by decide⟩
theorem coX11_status : CVok mX11_status 11 1 := ⟨by decide, rfl, (u_t3 224 (by decide +kernel) (by decide +kernel)), (u_t3 225 (by decide +kernel) (by decide +kernel)), inz11, (u_t3 226 (by decide +kernel) (by decide +kernel)), ⟨by decide +kernel, by decide +kernel, by decide +kernel⟩, by decide⟩
theorem coX12_status : CVok mX12_status 12 1 := ⟨by decide, rfl, (u_t9 90 (by decide +kernel) (by decide +kernel)), (u_t9 91 (by decide +kernel) (by decide +kernel)), inz12, (u_t9 92 (by decide +kernel) (by decide +kernel)), ⟨by decide +kernel, by decide +kernel, by decide +kernel⟩, by decide⟩
theorem coX11_count : CVok mX11_count 11 1 := ⟨by decide, rfl, (u_t3 228 (by decide +kernel) (by decide +kernel)), (u_t3 229 (by decide +kernel) (by decide +kernel)), inz11, (u_t3 230 (by decide +kernel) (by decide +kernel)), ⟨by decide +kernel, by decide +kernel, by decide +kernel⟩, by decide⟩
theorem coX12_count : CVok mX12_count 12 1 := ⟨by decide, rfl, (u_t9 94 (by decide +kernel) (by decide +kernel)), (u_t9 95 (by decide +kernel) (by decide +kernel)), inz12, (u_t9 96 (by decide +kernel) (by decide +kernel)), ⟨by decide +kernel, by decide +kernel, by decide +kernel⟩, by decide⟩
theorem fkX0_11 : FLK RX0 11 0 0 := ⟨by decide, by decide, (u_t1 198 (by decide +kernel) (by decide +kernel))⟩
theorem fkX0_15 : FLK RX0 15 0 1 := ⟨by decide, by decide, (u_t1 199 (by decide +kernel) (by decide +kernel))⟩
theorem fkX0_18 : FLK RX0 18 0 2 := ⟨by decide, by decide, (u_t1 200 (by decide +kernel) (by decide +kernel))⟩
theorem mkX0_22 : MLV RX0 22 mX10_peek 10 0 := mlv_mk (u_t5 62 (by decide +kernel) (by decide +kernel)) coX10_peek
theorem mkX0_28 : ACW RX0 28 := by refine ⟨(u_t5 63 (by decide +kernel) (by decide +kernel)), ?_, ?_, ?_⟩ <;> exact uxW_all (ws := [_]) (by decide +kernel) _ List.mem_cons_self
theorem mkX0_34 : MLV RX0 34 mX0_readLine 0 3 := mlv_mk (u_t5 64 (by decide +kernel) (by decide +kernel)) coX0_readLine
theorem fkX0_38 : FLK RX0 38 10 2 := ⟨by decide, by decide, (u_t1 45 (by decide +kernel) (by decide +kernel))⟩
theorem mkX0_41 : MLV RX0 41 mX10_number 10 2 := mlv_mk (u_t5 68 (by decide +kernel) (by decide +kernel)) coX10_number
theorem mkX0_45 : MLV RX0 45 mX10_fail 10 2 := mlv_mk (u_t5 69 (by decide +kernel) (by decide +kernel)) coX10_fail
theorem mkX0_49 : MLV RX0 49 mX10_takeSign 10 1 := mlv_mk (u_t5 70 (by decide +kernel) (by decide +kernel)) coX10_takeSign
theorem mkX0_53 : MLV RX0 53 mX3_reach 3 1 := mlv_mk (u_t3 148 (by decide +kernel) (by decide +kernel)) coX3_reach
theorem mkX0_59 : MLV RX0 59 mX3_halfOf 3 2 := mlv_mk (u_t3 149 (by decide +kernel) (by decide +kernel)) coX3_halfOf
theorem fkX1_11 : FLK RX1 11 1 0 := ⟨by decide, by decide, (u_t2 111 (by decide +kernel) (by decide +kernel))⟩
theorem fkX1_17 : FLK RX1 17 1 1 := ⟨by decide, by decide, (u_t2 113 (by decide +kernel) (by decide +kernel))⟩
theorem fkX1_21 : FLK RX1 21 1 2 := ⟨by decide, by decide, (u_t2 114 (by decide +kernel) (by decide +kernel))⟩
theorem fkX1_25 : FLK RX1 25 1 3 := ⟨by decide, by decide, (u_t2 117 (by decide +kernel) (by decide +kernel))⟩
theorem fkX1_28 : FLK RX1 28 8 6 := ⟨by decide, by decide, (u_t1 95 (by decide +kernel) (by decide +kernel))⟩
theorem fkX1_33 : FLK RX1 33 8 7 := ⟨by decide, by decide, (u_t1 102 (by decide +kernel) (by decide +kernel))⟩
theorem fkX1_36 : FLK RX1 36 8 8 := ⟨by decide, by decide, (u_t1 106 (by decide +kernel) (by decide +kernel))⟩
theorem fkX1_39 : FLK RX1 39 8 2 := ⟨by decide, by decide, (u_t1 77 (by decide +kernel) (by decide +kernel))⟩
theorem mkX1_43 : MLV RX1 43 mX7_keep 7 3 := mlv_mk (u_t3 206 (by decide +kernel) (by decide +kernel)) coX7_keep
theorem fkX2_9 : FLK RX2 9 2 1 := ⟨by decide, by decide, (u_t1 227 (by decide +kernel) (by decide +kernel))⟩
theorem fkX2_15 : FLK RX2 15 2 2 := ⟨by decide, by decide, (u_t1 231 (by decide +kernel) (by decide +kernel))⟩
theorem fkX2_18 : FLK RX2 18 2 5 := ⟨by decide, by decide, (u_t1 237 (by decide +kernel) (by decide +kernel))⟩
theorem fkX2_21 : FLK RX2 21 2 6 := ⟨by decide, by decide, (u_t1 238 (by decide +kernel) (by decide +kernel))⟩
theorem fkX2_24 : FLK RX2 24 2 7 := ⟨by decide, by decide, (u_t1 239 (by decide +kernel) (by decide +kernel))⟩
theorem fkX2_27 : FLK RX2 27 2 8 := ⟨by decide, by decide, (u_t2 0 (by decide +kernel) (by decide +kernel))⟩
theorem fkX2_30 : FLK RX2 30 2 9 := ⟨by decide, by decide, (u_t2 1 (by decide +kernel) (by decide +kernel))⟩
theorem fkX2_33 : FLK RX2 33 2 0 := ⟨by decide, by decide, (u_t1 225 (by decide +kernel) (by decide +kernel))⟩
theorem fkX2_37 : FLK RX2 37 2 10 := ⟨by decide, by decide, (u_t2 2 (by decide +kernel) (by decide +kernel))⟩
theorem fkX2_41 : FLK RX2 41 2 3 := ⟨by decide, by decide, (u_t1 233 (by decide +kernel) (by decide +kernel))⟩
theorem fkX2_44 : FLK RX2 44 2 4 := ⟨by decide, by decide, (u_t1 235 (by decide +kernel) (by decide +kernel))⟩
theorem mkX2_47 : MLV RX2 47 mX2_goByNumber 2 0 := mlv_mk (u_t1 221 (by decide +kernel) (by decide +kernel)) coX2_goByNumber
theorem fkX2_50 : FLK RX2 50 8 10 := ⟨by decide, by decide, (u_t1 115 (by decide +kernel) (by decide +kernel))⟩
theorem mkX2_57 : MLV RX2 57 mX2_clear 2 1 := mlv_mk (u_t3 58 (by decide +kernel) (by decide +kernel)) coX2_clear
theorem fkX2_61 : FLK RX2 61 2 13 := ⟨by decide, by decide, (u_t2 5 (by decide +kernel) (by decide +kernel))⟩
theorem mkX2_64 : MLV RX2 64 mX2_leave 2 1 := mlv_mk (u_t3 66 (by decide +kernel) (by decide +kernel)) coX2_leave
theorem mkX2_68 : MLV RX2 68 mX8_goesBy 8 1 := mlv_mk (u_t3 83 (by decide +kernel) (by decide +kernel)) coX8_goesBy
theorem mkX2_72 : MLV RX2 72 mX2_takeOff 2 2 := mlv_mk (u_t3 87 (by decide +kernel) (by decide +kernel)) coX2_takeOff
theorem mkX2_76 : MLV RX2 76 mX2_arrive 2 1 := mlv_mk (u_t3 91 (by decide +kernel) (by decide +kernel)) coX2_arrive
theorem mkX2_79 : MLV RX2 79 mX2_seatWaiting 2 1 := mlv_mk (u_t3 99 (by decide +kernel) (by decide +kernel)) coX2_seatWaiting
theorem mkX2_82 : MLV RX2 82 mX2_reckonNet 2 0 := mlv_mk (u_t3 103 (by decide +kernel) (by decide +kernel)) coX2_reckonNet
theorem fkX2_85 : FLK RX2 85 2 11 := ⟨by decide, by decide, (u_t2 3 (by decide +kernel) (by decide +kernel))⟩
theorem fkX2_88 : FLK RX2 88 8 9 := ⟨by decide, by decide, (u_t1 112 (by decide +kernel) (by decide +kernel))⟩
theorem fkX2_91 : FLK RX2 91 2 12 := ⟨by decide, by decide, (u_t2 4 (by decide +kernel) (by decide +kernel))⟩
theorem fkX2_94 : FLK RX2 94 2 14 := ⟨by decide, by decide, (u_t2 6 (by decide +kernel) (by decide +kernel))⟩
theorem fkX2_97 : FLK RX2 97 8 6 := ⟨by decide, by decide, (u_t1 96 (by decide +kernel) (by decide +kernel))⟩
theorem mkX2_100 : MLV RX2 100 mX2_clearGuest 2 2 := mlv_mk (u_t3 62 (by decide +kernel) (by decide +kernel)) coX2_clearGuest
theorem fkX2_103 : FLK RX2 103 8 4 := ⟨by decide, by decide, (u_t1 87 (by decide +kernel) (by decide +kernel))⟩
theorem mkX2_106 : MLV RX2 106 mX2_giveUp 2 2 := mlv_mk (u_t3 70 (by decide +kernel) (by decide +kernel)) coX2_giveUp
theorem mkX2_109 : MLV RX2 109 mX2_unqueue 2 1 := mlv_mk (u_t3 75 (by decide +kernel) (by decide +kernel)) coX2_unqueue
theorem mkX2_112 : MLV RX2 112 mX2_endWaiting 2 2 := mlv_mk (u_t3 79 (by decide +kernel) (by decide +kernel)) coX2_endWaiting
theorem fkX2_115 : FLK RX2 115 8 3 := ⟨by decide, by decide, (u_t1 84 (by decide +kernel) (by decide +kernel))⟩
theorem mkX2_118 : MLV RX2 118 mX2_takeBest 2 2 := mlv_mk (u_t3 95 (by decide +kernel) (by decide +kernel)) coX2_takeBest
theorem fkX2_121 : FLK RX2 121 8 0 := ⟨by decide, by decide, (u_t1 71 (by decide +kernel) (by decide +kernel))⟩
theorem fkX2_124 : FLK RX2 124 8 1 := ⟨by decide, by decide, (u_t1 74 (by decide +kernel) (by decide +kernel))⟩
theorem mkX2_127 : MLS RX2 127 mX8_stretch 4 := mls_mk (u_t3 74 (by decide +kernel) (by decide +kernel)) coX8_stretch
theorem fkX2_131 : FLK RX2 131 8 5 := ⟨by decide, by decide, (u_t1 92 (by decide +kernel) (by decide +kernel))⟩
theorem mkX2_134 : MLV RX2 134 mX2_sleepLostBy 2 1 := mlv_mk (u_t3 107 (by decide +kernel) (by decide +kernel)) coX2_sleepLostBy
theorem fkX2_138 : FLK RX2 138 8 8 := ⟨by decide, by decide, (u_t1 108 (by decide +kernel) (by decide +kernel))⟩
theorem fkX2_141 : FLK RX2 141 8 2 := ⟨by decide, by decide, (u_t1 80 (by decide +kernel) (by decide +kernel))⟩
theorem fkX3_9 : FLK RX3 9 3 3 := ⟨by decide, by decide, (u_t2 43 (by decide +kernel) (by decide +kernel))⟩
theorem fkX3_15 : FLK RX3 15 3 4 := ⟨by decide, by decide, (u_t2 45 (by decide +kernel) (by decide +kernel))⟩
theorem fkX3_18 : FLK RX3 18 3 5 := ⟨by decide, by decide, (u_t2 46 (by decide +kernel) (by decide +kernel))⟩
theorem fkX3_22 : FLK RX3 22 3 6 := ⟨by decide, by decide, (u_t2 47 (by decide +kernel) (by decide +kernel))⟩
theorem fkX3_25 : FLK RX3 25 3 0 := ⟨by decide, by decide, (u_t2 40 (by decide +kernel) (by decide +kernel))⟩
theorem fkX3_29 : FLK RX3 29 3 1 := ⟨by decide, by decide, (u_t2 41 (by decide +kernel) (by decide +kernel))⟩
theorem fkX3_38 : FLK RX3 38 3 2 := ⟨by decide, by decide, (u_t2 42 (by decide +kernel) (by decide +kernel))⟩
theorem fkX3_42 : FLK RX3 42 3 7 := ⟨by decide, by decide, (u_t2 48 (by decide +kernel) (by decide +kernel))⟩
theorem fkX3_46 : FLK RX3 46 3 8 := ⟨by decide, by decide, (u_t2 49 (by decide +kernel) (by decide +kernel))⟩
theorem fkX3_49 : FLK RX3 49 3 9 := ⟨by decide, by decide, (u_t2 51 (by decide +kernel) (by decide +kernel))⟩
theorem mkX3_52 : MLV RX3 52 mX8_tellWaking 8 1 := mlv_mk (u_t3 8 (by decide +kernel) (by decide +kernel)) coX8_tellWaking
theorem mkX3_58 : MLV RX3 58 mX6_nextMorning 6 4 := mlv_mk (u_t3 15 (by decide +kernel) (by decide +kernel)) coX6_nextMorning
theorem fkX3_64 : FLK RX3 64 8 7 := ⟨by decide, by decide, (u_t1 100 (by decide +kernel) (by decide +kernel))⟩
theorem mkX3_67 : MLV RX3 67 mX2_run 2 2 := mlv_mk (u_t3 54 (by decide +kernel) (by decide +kernel)) coX2_run
theorem mkX3_71 : MLV RX3 71 mX3_packed 3 0 := mlv_mk (u_t3 111 (by decide +kernel) (by decide +kernel)) coX3_packed
theorem mkX3_75 : MLV RX3 75 mX2_seated 2 0 := mlv_mk (u_t3 115 (by decide +kernel) (by decide +kernel)) coX2_seated
theorem mkX3_78 : MLV RX3 78 mX3_seekRound 3 1 := mlv_mk (u_t3 119 (by decide +kernel) (by decide +kernel)) coX3_seekRound
theorem fkX3_82 : FLK RX3 82 8 10 := ⟨by decide, by decide, (u_t1 119 (by decide +kernel) (by decide +kernel))⟩
theorem mkX3_85 : MLV RX3 85 mX3_asksDay 3 0 := mlv_mk (u_t3 123 (by decide +kernel) (by decide +kernel)) coX3_asksDay
theorem fkX3_89 : FLK RX3 89 6 5 := ⟨by decide, by decide, (u_t1 156 (by decide +kernel) (by decide +kernel))⟩
theorem mkX3_92 : MLV RX3 92 mX3_halfOf 3 2 := mlv_mk (u_t3 131 (by decide +kernel) (by decide +kernel)) coX3_halfOf
theorem fkX4_11 : FLK RX4 11 4 1 := ⟨by decide, by decide, (u_t2 83 (by decide +kernel) (by decide +kernel))⟩
theorem fkX4_15 : FLK RX4 15 4 2 := ⟨by decide, by decide, (u_t2 84 (by decide +kernel) (by decide +kernel))⟩
theorem fkX4_18 : FLK RX4 18 4 3 := ⟨by decide, by decide, (u_t2 85 (by decide +kernel) (by decide +kernel))⟩
theorem fkX4_21 : FLK RX4 21 4 0 := ⟨by decide, by decide, (u_t2 82 (by decide +kernel) (by decide +kernel))⟩
theorem fkX4_25 : FLK RX4 25 4 4 := ⟨by decide, by decide, (u_t2 87 (by decide +kernel) (by decide +kernel))⟩
theorem fkX4_29 : FLK RX4 29 8 10 := ⟨by decide, by decide, (u_t1 116 (by decide +kernel) (by decide +kernel))⟩
theorem fkX4_35 : FLK RX4 35 8 9 := ⟨by decide, by decide, (u_t1 110 (by decide +kernel) (by decide +kernel))⟩
theorem mkX4_38 : MLV RX4 38 mX8_value 8 3 := mlv_mk (u_t2 217 (by decide +kernel) (by decide +kernel)) coX8_value
theorem mkX4_42 : MLV RX4 42 mX4_bestFrom 4 4 := mlv_mk (u_t2 224 (by decide +kernel) (by decide +kernel)) coX4_bestFrom
theorem fkX4_46 : FLK RX4 46 4 5 := ⟨by decide, by decide, (u_t2 88 (by decide +kernel) (by decide +kernel))⟩
theorem mkX4_49 : MLV RX4 49 mX4_deal 4 0 := mlv_mk (u_t2 228 (by decide +kernel) (by decide +kernel)) coX4_deal
theorem mkX4_52 : MLV RX4 52 mX4_firstGift 4 2 := mlv_mk (u_t2 232 (by decide +kernel) (by decide +kernel)) coX4_firstGift
theorem fkX4_56 : FLK RX4 56 8 3 := ⟨by decide, by decide, (u_t1 83 (by decide +kernel) (by decide +kernel))⟩
theorem fkX4_59 : FLK RX4 59 8 4 := ⟨by decide, by decide, (u_t1 88 (by decide +kernel) (by decide +kernel))⟩
theorem mkX4_62 : MLS RX4 62 mX8_stretch 4 := mls_mk (u_t6 70 (by decide +kernel) (by decide +kernel)) coX8_stretch
theorem mkX4_65 : MLV RX4 65 mX4_bestOf 4 1 := mlv_mk (u_t6 82 (by decide +kernel) (by decide +kernel)) coX4_bestOf
theorem fkX5_9 : FLK RX5 9 5 0 := ⟨by decide, by decide, (u_t1 176 (by decide +kernel) (by decide +kernel))⟩
theorem fkX5_15 : FLK RX5 15 5 3 := ⟨by decide, by decide, (u_t1 182 (by decide +kernel) (by decide +kernel))⟩
theorem fkX5_19 : FLK RX5 19 5 1 := ⟨by decide, by decide, (u_t1 178 (by decide +kernel) (by decide +kernel))⟩
theorem fkX5_23 : FLK RX5 23 5 2 := ⟨by decide, by decide, (u_t1 180 (by decide +kernel) (by decide +kernel))⟩
theorem mkX5_27 : MLV RX5 27 mX5_readSum 5 1 := mlv_mk (u_t5 2 (by decide +kernel) (by decide +kernel)) coX5_readSum
theorem mkX5_31 : MLV RX5 31 mX10_peek 10 0 := mlv_mk (u_t5 14 (by decide +kernel) (by decide +kernel)) coX10_peek
theorem fkX5_37 : FLK RX5 37 10 2 := ⟨by decide, by decide, (u_t1 44 (by decide +kernel) (by decide +kernel))⟩
theorem mkX5_40 : MLV RX5 40 mX10_fail 10 2 := mlv_mk (u_t5 25 (by decide +kernel) (by decide +kernel)) coX10_fail
theorem mkX5_44 : MLV RX5 44 mX5_readProduct 5 1 := mlv_mk (u_t5 6 (by decide +kernel) (by decide +kernel)) coX5_readProduct
theorem mkX5_49 : MLV RX5 49 mX5_put 5 1 := mlv_mk (u_t5 17 (by decide +kernel) (by decide +kernel)) coX5_put
theorem mkX5_53 : MLV RX5 53 mX5_readUnit 5 1 := mlv_mk (u_t5 10 (by decide +kernel) (by decide +kernel)) coX5_readUnit
theorem mkX5_56 : MLS RX5 56 mX10_isDigit 1 := mls_mk (u_t5 15 (by decide +kernel) (by decide +kernel)) coX10_isDigit
theorem mkX5_59 : MLV RX5 59 mX10_number 10 2 := mlv_mk (u_t5 16 (by decide +kernel) (by decide +kernel)) coX10_number
theorem mkX5_63 : MLV RX5 63 mX5_mayOpen 5 1 := mlv_mk (u_t5 21 (by decide +kernel) (by decide +kernel)) coX5_mayOpen
theorem mkX5_66 : MLV RX5 66 mX10_takeSign 10 1 := mlv_mk (u_t5 26 (by decide +kernel) (by decide +kernel)) coX10_takeSign
theorem mkX5_72 : MLV RX5 72 mX10_which 10 1 := mlv_mk (u_t5 28 (by decide +kernel) (by decide +kernel)) coX10_which
theorem mkX5_76 : MLV RX5 76 mX10_passWord 10 0 := mlv_mk (u_t5 29 (by decide +kernel) (by decide +kernel)) coX10_passWord
theorem mkX5_79 : MLV RX5 79 mX5_readPair 5 2 := mlv_mk (u_t5 30 (by decide +kernel) (by decide +kernel)) coX5_readPair
theorem mkX5_82 : MLV RX5 82 mX5_readChoice 5 1 := mlv_mk (u_t5 34 (by decide +kernel) (by decide +kernel)) coX5_readChoice
theorem mkX5_87 : MLV RX5 87 mX10_takeWord 10 1 := mlv_mk (u_t5 39 (by decide +kernel) (by decide +kernel)) coX10_takeWord
theorem fkX6_9 : FLK RX6 9 6 0 := ⟨by decide, by decide, (u_t1 150 (by decide +kernel) (by decide +kernel))⟩
theorem fkX6_15 : FLK RX6 15 6 1 := ⟨by decide, by decide, (u_t1 151 (by decide +kernel) (by decide +kernel))⟩
theorem fkX6_18 : FLK RX6 18 6 2 := ⟨by decide, by decide, (u_t1 152 (by decide +kernel) (by decide +kernel))⟩
theorem fkX6_21 : FLK RX6 21 6 3 := ⟨by decide, by decide, (u_t1 153 (by decide +kernel) (by decide +kernel))⟩
theorem fkX6_24 : FLK RX6 24 6 5 := ⟨by decide, by decide, (u_t1 155 (by decide +kernel) (by decide +kernel))⟩
theorem fkX6_28 : FLK RX6 28 5 0 := ⟨by decide, by decide, (u_t1 177 (by decide +kernel) (by decide +kernel))⟩
theorem fkX6_31 : FLK RX6 31 5 1 := ⟨by decide, by decide, (u_t1 179 (by decide +kernel) (by decide +kernel))⟩
theorem mkX6_34 : ACW RX6 34 := by refine ⟨(u_t5 50 (by decide +kernel) (by decide +kernel)), ?_, ?_, ?_⟩ <;> exact uxW_all (ws := [_]) (by decide +kernel) _ List.mem_cons_self
theorem fkX6_40 : FLK RX6 40 5 2 := ⟨by decide, by decide, (u_t1 181 (by decide +kernel) (by decide +kernel))⟩
theorem fkX6_44 : FLK RX6 44 8 9 := ⟨by decide, by decide, (u_t1 111 (by decide +kernel) (by decide +kernel))⟩
theorem fkX6_49 : FLK RX6 49 8 10 := ⟨by decide, by decide, (u_t1 120 (by decide +kernel) (by decide +kernel))⟩
theorem fkX6_52 : FLK RX6 52 8 3 := ⟨by decide, by decide, (u_t1 82 (by decide +kernel) (by decide +kernel))⟩
theorem fkX6_55 : FLK RX6 55 8 2 := ⟨by decide, by decide, (u_t1 78 (by decide +kernel) (by decide +kernel))⟩
theorem fkX6_58 : FLK RX6 58 2 0 := ⟨by decide, by decide, (u_t1 226 (by decide +kernel) (by decide +kernel))⟩
theorem mkX6_64 : MLV RX6 64 mX2_firstCame 2 0 := mlv_mk (u_t3 19 (by decide +kernel) (by decide +kernel)) coX2_firstCame
theorem fkX6_68 : FLK RX6 68 2 14 := ⟨by decide, by decide, (u_t2 7 (by decide +kernel) (by decide +kernel))⟩
theorem mkX6_71 : MLV RX6 71 mX6_setCommon 6 4 := mlv_mk (u_t3 23 (by decide +kernel) (by decide +kernel)) coX6_setCommon
theorem fkX6_75 : FLK RX6 75 2 1 := ⟨by decide, by decide, (u_t1 229 (by decide +kernel) (by decide +kernel))⟩
theorem mkX6_78 : MLV RX6 78 mX6_setOwn 6 4 := mlv_mk (u_t3 27 (by decide +kernel) (by decide +kernel)) coX6_setOwn
theorem mkX6_82 : MLV RX6 82 mX6_setGuest 6 2 := mlv_mk (u_t3 31 (by decide +kernel) (by decide +kernel)) coX6_setGuest
theorem mkX6_86 : MLV RX6 86 mX6_comes 6 1 := mlv_mk (u_t3 35 (by decide +kernel) (by decide +kernel)) coX6_comes
theorem fkX6_90 : FLK RX6 90 6 4 := ⟨by decide, by decide, (u_t1 154 (by decide +kernel) (by decide +kernel))⟩
theorem mkX6_93 : MLV RX6 93 mX6_take 6 1 := mlv_mk (u_t3 39 (by decide +kernel) (by decide +kernel)) coX6_take
theorem mkX6_97 : MLV RX6 97 mX6_pop 6 0 := mlv_mk (u_t3 47 (by decide +kernel) (by decide +kernel)) coX6_pop
theorem mkX6_100 : MLV RX6 100 mX6_push 6 1 := mlv_mk (u_t3 43 (by decide +kernel) (by decide +kernel)) coX6_push
theorem mkX6_103 : MLS RX6 103 mX6_join 3 := mls_mk (u_t3 51 (by decide +kernel) (by decide +kernel)) coX6_join
theorem fkX7_9 : FLK RX7 9 7 0 := ⟨by decide, by decide, (u_t3 183 (by decide +kernel) (by decide +kernel))⟩
theorem fkX7_17 : FLK RX7 17 7 1 := ⟨by decide, by decide, (u_t3 184 (by decide +kernel) (by decide +kernel))⟩
theorem fkX7_20 : FLK RX7 20 8 2 := ⟨by decide, by decide, (u_t1 76 (by decide +kernel) (by decide +kernel))⟩
theorem mkX7_23 : ACW RX7 23 := by refine ⟨(u_t3 210 (by decide +kernel) (by decide +kernel)), ?_, ?_, ?_⟩ <;> exact uxW_all (ws := [_]) (by decide +kernel) _ List.mem_cons_self
theorem fkX7_29 : FLK RX7 29 1 0 := ⟨by decide, by decide, (u_t2 112 (by decide +kernel) (by decide +kernel))⟩
theorem fkX7_30 : FLK RX7 30 1 2 := ⟨by decide, by decide, (u_t2 115 (by decide +kernel) (by decide +kernel))⟩
theorem fkX7_34 : FLK RX7 34 7 2 := ⟨by decide, by decide, (u_t3 185 (by decide +kernel) (by decide +kernel))⟩
theorem fkX7_35 : FLK RX7 35 8 6 := ⟨by decide, by decide, (u_t1 94 (by decide +kernel) (by decide +kernel))⟩
theorem fkX7_38 : FLK RX7 38 7 3 := ⟨by decide, by decide, (u_t3 186 (by decide +kernel) (by decide +kernel))⟩
theorem fkX7_39 : FLK RX7 39 8 7 := ⟨by decide, by decide, (u_t1 99 (by decide +kernel) (by decide +kernel))⟩
theorem fkX7_42 : FLK RX7 42 7 4 := ⟨by decide, by decide, (u_t3 187 (by decide +kernel) (by decide +kernel))⟩
theorem fkX7_43 : FLK RX7 43 8 8 := ⟨by decide, by decide, (u_t1 105 (by decide +kernel) (by decide +kernel))⟩
theorem fkX7_46 : FLK RX7 46 7 5 := ⟨by decide, by decide, (u_t3 188 (by decide +kernel) (by decide +kernel))⟩
theorem fkX7_47 : FLK RX7 47 7 6 := ⟨by decide, by decide, (u_t3 189 (by decide +kernel) (by decide +kernel))⟩
theorem fkX8_9 : FLK RX8 9 8 0 := ⟨by decide, by decide, (u_t1 69 (by decide +kernel) (by decide +kernel))⟩
theorem fkX8_15 : FLK RX8 15 8 1 := ⟨by decide, by decide, (u_t1 72 (by decide +kernel) (by decide +kernel))⟩
theorem fkX8_18 : FLK RX8 18 8 2 := ⟨by decide, by decide, (u_t1 75 (by decide +kernel) (by decide +kernel))⟩
theorem fkX8_21 : FLK RX8 21 8 3 := ⟨by decide, by decide, (u_t1 81 (by decide +kernel) (by decide +kernel))⟩
theorem fkX8_24 : FLK RX8 24 8 4 := ⟨by decide, by decide, (u_t1 86 (by decide +kernel) (by decide +kernel))⟩
theorem fkX8_27 : FLK RX8 27 8 5 := ⟨by decide, by decide, (u_t1 90 (by decide +kernel) (by decide +kernel))⟩
theorem fkX8_30 : FLK RX8 30 8 9 := ⟨by decide, by decide, (u_t1 109 (by decide +kernel) (by decide +kernel))⟩
theorem fkX8_34 : FLK RX8 34 8 10 := ⟨by decide, by decide, (u_t1 114 (by decide +kernel) (by decide +kernel))⟩
theorem fkX8_37 : FLK RX8 37 8 6 := ⟨by decide, by decide, (u_t1 93 (by decide +kernel) (by decide +kernel))⟩
theorem fkX8_40 : FLK RX8 40 8 7 := ⟨by decide, by decide, (u_t1 98 (by decide +kernel) (by decide +kernel))⟩
theorem fkX8_43 : FLK RX8 43 8 8 := ⟨by decide, by decide, (u_t1 104 (by decide +kernel) (by decide +kernel))⟩
theorem mkX8_46 : ACW RX8 46 := by refine ⟨(u_t3 12 (by decide +kernel) (by decide +kernel)), ?_, ?_, ?_⟩ <;> exact uxW_all (ws := [_]) (by decide +kernel) _ List.mem_cons_self
theorem mkX8_52 : MLV RX8 52 mX8_clear 8 0 := mlv_mk (u_t4 87 (by decide +kernel) (by decide +kernel)) coX8_clear
theorem mkX8_55 : MLV RX8 55 mX10_peek 10 0 := mlv_mk (u_t4 88 (by decide +kernel) (by decide +kernel)) coX10_peek
theorem mkX8_61 : MLV RX8 61 mX8_readClause 8 2 := mlv_mk (u_t4 92 (by decide +kernel) (by decide +kernel)) coX8_readClause
theorem mkX8_67 : MLV RX8 67 mX10_which 10 1 := mlv_mk (u_t4 97 (by decide +kernel) (by decide +kernel)) coX10_which
theorem fkX8_71 : FLK RX8 71 10 2 := ⟨by decide, by decide, (u_t1 46 (by decide +kernel) (by decide +kernel))⟩
theorem mkX8_74 : MLV RX8 74 mX10_fail 10 2 := mlv_mk (u_t4 157 (by decide +kernel) (by decide +kernel)) coX10_fail
theorem mkX8_78 : MLV RX8 78 mX10_passWord 10 0 := mlv_mk (u_t4 161 (by decide +kernel) (by decide +kernel)) coX10_passWord
theorem mkX8_81 : MLV RX8 81 mX8_readNumbers 8 2 := mlv_mk (u_t4 165 (by decide +kernel) (by decide +kernel)) coX8_readNumbers
theorem mkX8_84 : MLV RX8 84 mX10_takeSign 10 1 := mlv_mk (u_t4 189 (by decide +kernel) (by decide +kernel)) coX10_takeSign
theorem mkX8_88 : MLV RX8 88 mX8_readChair 8 1 := mlv_mk (u_t4 169 (by decide +kernel) (by decide +kernel)) coX8_readChair
theorem mkX8_92 : MLV RX8 92 mX8_readGuest 8 1 := mlv_mk (u_t4 185 (by decide +kernel) (by decide +kernel)) coX8_readGuest
theorem mkX8_95 : MLV RX8 95 mX10_number 10 2 := mlv_mk (u_t4 173 (by decide +kernel) (by decide +kernel)) coX10_number
theorem mkX8_99 : MLS RX8 99 mX8_stretch 4 := mls_mk (u_t2 221 (by decide +kernel) (by decide +kernel)) coX8_stretch
theorem fkX9_11 : FLK RX9 11 9 2 := ⟨by decide, by decide, (u_t5 234 (by decide +kernel) (by decide +kernel))⟩
theorem fkX9_15 : FLK RX9 15 9 3 := ⟨by decide, by decide, (u_t5 235 (by decide +kernel) (by decide +kernel))⟩
theorem fkX9_18 : FLK RX9 18 9 4 := ⟨by decide, by decide, (u_t5 236 (by decide +kernel) (by decide +kernel))⟩
theorem fkX9_21 : FLK RX9 21 9 0 := ⟨by decide, by decide, (u_t5 232 (by decide +kernel) (by decide +kernel))⟩
theorem fkX9_25 : FLK RX9 25 9 1 := ⟨by decide, by decide, (u_t5 233 (by decide +kernel) (by decide +kernel))⟩
theorem fkX9_29 : FLK RX9 29 9 5 := ⟨by decide, by decide, (u_t5 237 (by decide +kernel) (by decide +kernel))⟩
theorem fkX9_33 : FLK RX9 33 8 10 := ⟨by decide, by decide, (u_t1 117 (by decide +kernel) (by decide +kernel))⟩
theorem mkX9_38 : MLV RX9 38 mX2_goByNumber 2 0 := mlv_mk (u_t6 23 (by decide +kernel) (by decide +kernel)) coX2_goByNumber
theorem mkX9_43 : MLV RX9 43 mX9_weigh 9 2 := mlv_mk (u_t6 24 (by decide +kernel) (by decide +kernel)) coX9_weigh
theorem fkX9_47 : FLK RX9 47 9 6 := ⟨by decide, by decide, (u_t5 238 (by decide +kernel) (by decide +kernel))⟩
theorem fkX9_50 : FLK RX9 50 9 7 := ⟨by decide, by decide, (u_t6 0 (by decide +kernel) (by decide +kernel))⟩
theorem mkX9_53 : MLV RX9 53 mX9_isStill 9 2 := mlv_mk (u_t6 36 (by decide +kernel) (by decide +kernel)) coX9_isStill
theorem mkX9_57 : MLV RX9 57 mX9_digits 9 0 := mlv_mk (u_t6 40 (by decide +kernel) (by decide +kernel)) coX9_digits
theorem mkX9_61 : MLV RX9 61 mX9_setHalves 9 2 := mlv_mk (u_t6 28 (by decide +kernel) (by decide +kernel)) coX9_setHalves
theorem fkX9_64 : FLK RX9 64 8 7 := ⟨by decide, by decide, (u_t1 101 (by decide +kernel) (by decide +kernel))⟩
theorem mkX9_67 : MLV RX9 67 mX2_run 2 2 := mlv_mk (u_t6 32 (by decide +kernel) (by decide +kernel)) coX2_run
theorem mkX9_71 : MLS RX9 71 mX9_place 4 := mls_mk (u_t6 33 (by decide +kernel) (by decide +kernel)) coX9_place
theorem fkX9_75 : FLK RX9 75 2 1 := ⟨by decide, by decide, (u_t1 228 (by decide +kernel) (by decide +kernel))⟩
theorem fkX10_9 : FLK RX10 9 10 4 := ⟨by decide, by decide, (u_t1 49 (by decide +kernel) (by decide +kernel))⟩
theorem fkX10_15 : FLK RX10 15 10 0 := ⟨by decide, by decide, (u_t1 41 (by decide +kernel) (by decide +kernel))⟩
theorem fkX10_19 : FLK RX10 19 10 1 := ⟨by decide, by decide, (u_t1 42 (by decide +kernel) (by decide +kernel))⟩
theorem fkX10_22 : FLK RX10 22 10 2 := ⟨by decide, by decide, (u_t1 43 (by decide +kernel) (by decide +kernel))⟩
theorem fkX10_25 : FLK RX10 25 10 3 := ⟨by decide, by decide, (u_t1 47 (by decide +kernel) (by decide +kernel))⟩
theorem mkX10_28 : MLV RX10 28 mX10_peek 10 0 := mlv_mk (u_t4 177 (by decide +kernel) (by decide +kernel)) coX10_peek
theorem mkX10_32 : MLV RX10 32 mX10_fail 10 2 := mlv_mk (u_t4 181 (by decide +kernel) (by decide +kernel)) coX10_fail
theorem mkX10_36 : MLV RX10 36 mX10_which 10 1 := mlv_mk (u_t5 43 (by decide +kernel) (by decide +kernel)) coX10_which
theorem mkX10_40 : MLV RX10 40 mX10_passWord 10 0 := mlv_mk (u_t5 44 (by decide +kernel) (by decide +kernel)) coX10_passWord
theorem mkX10_43 : MLS RX10 43 mX10_isDigit 1 := mls_mk (u_t4 178 (by decide +kernel) (by decide +kernel)) coX10_isDigit
theorem mkX10_47 : MMW RX10 47 := by refine ⟨(u_t4 182 (by decide +kernel) (by decide +kernel)), ?_, ?_, ?_⟩ <;> exact uxW_all (ws := [_]) (by decide +kernel) _ List.mem_cons_self
theorem mkX10_53 : MLV RX10 53 mX10_wordEnd 10 0 := mlv_mk (u_t4 101 (by decide +kernel) (by decide +kernel)) coX10_wordEnd
theorem mkX10_64 : MLV RX10 64 mX10_isAlike 10 3 := mlv_mk (u_t4 153 (by decide +kernel) (by decide +kernel)) coX10_isAlike
theorem fkX11_9 : FLK RX11 9 11 0 := ⟨by decide, by decide, (u_t2 136 (by decide +kernel) (by decide +kernel))⟩
theorem fkX11_18 : FLK RX11 18 11 1 := ⟨by decide, by decide, (u_t2 137 (by decide +kernel) (by decide +kernel))⟩
theorem fkX11_25 : FLK RX11 25 11 2 := ⟨by decide, by decide, (u_t2 138 (by decide +kernel) (by decide +kernel))⟩
theorem fkX11_29 : FLK RX11 29 11 3 := ⟨by decide, by decide, (u_t2 139 (by decide +kernel) (by decide +kernel))⟩
theorem fkX11_35 : FLK RX11 35 11 4 := ⟨by decide, by decide, (u_t2 140 (by decide +kernel) (by decide +kernel))⟩
theorem fkX11_44 : FLK RX11 44 11 5 := ⟨by decide, by decide, (u_t2 141 (by decide +kernel) (by decide +kernel))⟩
theorem fkX11_51 : FLK RX11 51 11 6 := ⟨by decide, by decide, (u_t2 142 (by decide +kernel) (by decide +kernel))⟩
theorem fkX11_60 : FLK RX11 60 11 7 := ⟨by decide, by decide, (u_t2 143 (by decide +kernel) (by decide +kernel))⟩
theorem fkX11_64 : FLK RX11 64 11 8 := ⟨by decide, by decide, (u_t2 144 (by decide +kernel) (by decide +kernel))⟩
theorem fkX11_72 : FLK RX11 72 11 9 := ⟨by decide, by decide, (u_t2 145 (by decide +kernel) (by decide +kernel))⟩
theorem fkX11_76 : FLK RX11 76 11 10 := ⟨by decide, by decide, (u_t2 146 (by decide +kernel) (by decide +kernel))⟩
theorem fkX11_84 : FLK RX11 84 11 11 := ⟨by decide, by decide, (u_t2 147 (by decide +kernel) (by decide +kernel))⟩
theorem fkX11_91 : FLK RX11 91 11 12 := ⟨by decide, by decide, (u_t2 148 (by decide +kernel) (by decide +kernel))⟩
theorem fkX11_95 : FLK RX11 95 11 13 := ⟨by decide, by decide, (u_t2 149 (by decide +kernel) (by decide +kernel))⟩
theorem fkX11_98 : FLK RX11 98 11 14 := ⟨by decide, by decide, (u_t2 150 (by decide +kernel) (by decide +kernel))⟩
theorem fkX11_101 : FLK RX11 101 11 15 := ⟨by decide, by decide, (u_t2 151 (by decide +kernel) (by decide +kernel))⟩
theorem mkX11_104 : MLV RX11 104 mX8_clear 8 0 := mlv_mk (u_t2 128 (by decide +kernel) (by decide +kernel)) coX8_clear
theorem mkX11_107 : MLV RX11 107 mX6_clear 6 0 := mlv_mk (u_t2 132 (by decide +kernel) (by decide +kernel)) coX6_clear
theorem fkX11_108 : FLK RX11 108 11 17 := ⟨by decide, by decide, (u_t2 153 (by decide +kernel) (by decide +kernel))⟩
theorem mkX11_112 : MLV RX11 112 mX11_putBytes 11 1 := mlv_mk (u_t2 201 (by decide +kernel) (by decide +kernel)) coX11_putBytes
theorem mkX11_116 : MLV RX11 116 mX11_needWithin 11 3 := mlv_mk (u_t3 239 (by decide +kernel) (by decide +kernel)) coX11_needWithin
theorem mkX11_120 : MLV RX11 120 mX11_startText 11 1 := mlv_mk (u_t4 75 (by decide +kernel) (by decide +kernel)) coX11_startText
theorem mkX11_123 : MLV RX11 123 mX8_read 8 1 := mlv_mk (u_t4 83 (by decide +kernel) (by decide +kernel)) coX8_read
theorem fkX11_127 : FLK RX11 127 10 3 := ⟨by decide, by decide, (u_t1 48 (by decide +kernel) (by decide +kernel))⟩
theorem mkX11_130 : MLV RX11 130 mX8_copy 8 1 := mlv_mk (u_t4 193 (by decide +kernel) (by decide +kernel)) coX8_copy
theorem mkX11_133 : MLV RX11 133 mX0_clear 0 0 := mlv_mk (u_t4 197 (by decide +kernel) (by decide +kernel)) coX0_clear
theorem mkX11_134 : MLV RX11 134 mX4_forget 4 0 := mlv_mk (u_t4 201 (by decide +kernel) (by decide +kernel)) coX4_forget
theorem mkX11_137 : MLV RX11 137 mX1_clear 1 0 := mlv_mk (u_t4 205 (by decide +kernel) (by decide +kernel)) coX1_clear
theorem fkX11_138 : FLK RX11 138 11 18 := ⟨by decide, by decide, (u_t2 154 (by decide +kernel) (by decide +kernel))⟩
theorem mkX11_141 : MLV RX11 141 mX11_forgetDays 11 0 := mlv_mk (u_t3 158 (by decide +kernel) (by decide +kernel)) coX11_forgetDays
theorem fkX11_144 : FLK RX11 144 8 10 := ⟨by decide, by decide, (u_t1 118 (by decide +kernel) (by decide +kernel))⟩
theorem mkX11_147 : MLV RX11 147 mX11_needGuest 11 1 := mlv_mk (u_t4 217 (by decide +kernel) (by decide +kernel)) coX11_needGuest
theorem mkX11_150 : MMW RX11 150 := by refine ⟨(u_t4 237 (by decide +kernel) (by decide +kernel)), ?_, ?_, ?_⟩ <;> exact uxW_all (ws := [_]) (by decide +kernel) _ List.mem_cons_self
theorem mkX11_156 : MLV RX11 156 mX5_read 5 0 := mlv_mk (u_t4 238 (by decide +kernel) (by decide +kernel)) coX5_read
theorem mkX11_159 : MLV RX11 159 mX6_keep 6 2 := mlv_mk (u_t5 46 (by decide +kernel) (by decide +kernel)) coX6_keep
theorem mkX11_163 : MLV RX11 163 mX0_read 0 2 := mlv_mk (u_t5 58 (by decide +kernel) (by decide +kernel)) coX0_read
theorem fkX11_166 : FLK RX11 166 0 2 := ⟨by decide, by decide, (u_t1 201 (by decide +kernel) (by decide +kernel))⟩
theorem fkX11_169 : FLK RX11 169 10 4 := ⟨by decide, by decide, (u_t1 50 (by decide +kernel) (by decide +kernel))⟩
theorem fkX11_172 : FLK RX11 172 8 9 := ⟨by decide, by decide, (u_t1 113 (by decide +kernel) (by decide +kernel))⟩
theorem fkX11_175 : FLK RX11 175 8 6 := ⟨by decide, by decide, (u_t1 97 (by decide +kernel) (by decide +kernel))⟩
theorem fkX11_178 : FLK RX11 178 8 7 := ⟨by decide, by decide, (u_t1 103 (by decide +kernel) (by decide +kernel))⟩
theorem fkX11_181 : FLK RX11 181 8 8 := ⟨by decide, by decide, (u_t1 107 (by decide +kernel) (by decide +kernel))⟩
theorem mkX11_184 : MLV RX11 184 mX11_needChair 11 1 := mlv_mk (u_t5 85 (by decide +kernel) (by decide +kernel)) coX11_needChair
theorem fkX11_187 : FLK RX11 187 8 0 := ⟨by decide, by decide, (u_t1 70 (by decide +kernel) (by decide +kernel))⟩
theorem fkX11_190 : FLK RX11 190 8 1 := ⟨by decide, by decide, (u_t1 73 (by decide +kernel) (by decide +kernel))⟩
theorem mkX11_193 : MLV RX11 193 mX11_look 11 0 := mlv_mk (u_t3 0 (by decide +kernel) (by decide +kernel)) coX11_look
theorem fkX11_196 : FLK RX11 196 2 2 := ⟨by decide, by decide, (u_t1 232 (by decide +kernel) (by decide +kernel))⟩
theorem fkX11_199 : FLK RX11 199 8 2 := ⟨by decide, by decide, (u_t1 79 (by decide +kernel) (by decide +kernel))⟩
theorem fkX11_202 : FLK RX11 202 8 3 := ⟨by decide, by decide, (u_t1 85 (by decide +kernel) (by decide +kernel))⟩
theorem fkX11_205 : FLK RX11 205 8 4 := ⟨by decide, by decide, (u_t1 89 (by decide +kernel) (by decide +kernel))⟩
theorem fkX11_208 : FLK RX11 208 8 5 := ⟨by decide, by decide, (u_t1 91 (by decide +kernel) (by decide +kernel))⟩
theorem fkX11_211 : FLK RX11 211 11 19 := ⟨by decide, by decide, (u_t2 155 (by decide +kernel) (by decide +kernel))⟩
theorem fkX11_215 : FLK RX11 215 2 1 := ⟨by decide, by decide, (u_t1 230 (by decide +kernel) (by decide +kernel))⟩
theorem fkX11_218 : FLK RX11 218 2 3 := ⟨by decide, by decide, (u_t1 234 (by decide +kernel) (by decide +kernel))⟩
theorem fkX11_221 : FLK RX11 221 2 4 := ⟨by decide, by decide, (u_t1 236 (by decide +kernel) (by decide +kernel))⟩
theorem mkX11_224 : MLV RX11 224 mX2_total 2 1 := mlv_mk (u_t3 136 (by decide +kernel) (by decide +kernel)) coX2_total
theorem mkX11_228 : MLV RX11 228 mX2_idle 2 0 := mlv_mk (u_t5 139 (by decide +kernel) (by decide +kernel)) coX2_idle
theorem mkX11_232 : MLV RX11 232 mX2_sleepLost 2 0 := mlv_mk (u_t5 143 (by decide +kernel) (by decide +kernel)) coX2_sleepLost
theorem mkX11_235 : MLV RX11 235 mX2_seated 2 0 := mlv_mk (u_t5 147 (by decide +kernel) (by decide +kernel)) coX2_seated
theorem mkX11_243 : MLV RX11 243 mX8_value 8 3 := mlv_mk (u_t5 161 (by decide +kernel) (by decide +kernel)) coX8_value
theorem mkX11_247 : MLV RX11 247 mX6_setCommon 6 4 := mlv_mk (u_t5 169 (by decide +kernel) (by decide +kernel)) coX6_setCommon
theorem mkX11_251 : MLV RX11 251 mX6_setOwn 6 4 := mlv_mk (u_t5 170 (by decide +kernel) (by decide +kernel)) coX6_setOwn
theorem mkX11_255 : MLV RX11 255 mX6_setGuest 6 2 := mlv_mk (u_t5 171 (by decide +kernel) (by decide +kernel)) coX6_setGuest
theorem mkX11_259 : MLV RX11 259 mX6_comes 6 1 := mlv_mk (u_t5 172 (by decide +kernel) (by decide +kernel)) coX6_comes
theorem mkX11_262 : MLV RX11 262 mX3_reach 3 1 := mlv_mk (u_t3 4 (by decide +kernel) (by decide +kernel)) coX3_reach
theorem fkX11_265 : FLK RX11 265 3 9 := ⟨by decide, by decide, (u_t2 52 (by decide +kernel) (by decide +kernel))⟩
theorem fkX11_268 : FLK RX11 268 3 8 := ⟨by decide, by decide, (u_t2 50 (by decide +kernel) (by decide +kernel))⟩
theorem mkX11_271 : MLV RX11 271 mX3_wasSeated 3 2 := mlv_mk (u_t5 187 (by decide +kernel) (by decide +kernel)) coX3_wasSeated
theorem mkX11_275 : MLV RX11 275 mX11_needFewGuests 11 0 := mlv_mk (u_t5 206 (by decide +kernel) (by decide +kernel)) coX11_needFewGuests
theorem fkX11_278 : FLK RX11 278 11 16 := ⟨by decide, by decide, (u_t2 152 (by decide +kernel) (by decide +kernel))⟩
theorem mkX11_287 : MLV RX11 287 mX9_find 9 1 := mlv_mk (u_t6 19 (by decide +kernel) (by decide +kernel)) coX9_find
theorem fkX11_290 : FLK RX11 290 9 6 := ⟨by decide, by decide, (u_t5 239 (by decide +kernel) (by decide +kernel))⟩
theorem fkX11_293 : FLK RX11 293 9 7 := ⟨by decide, by decide, (u_t6 1 (by decide +kernel) (by decide +kernel))⟩
theorem mkX11_296 : MLV RX11 296 mX11_needArgument 11 1 := mlv_mk (u_t4 3 (by decide +kernel) (by decide +kernel)) coX11_needArgument
theorem mkX11_300 : MLV RX11 300 mX2_goByNumber 2 0 := mlv_mk (u_t6 51 (by decide +kernel) (by decide +kernel)) coX2_goByNumber
theorem mkX11_303 : MLV RX11 303 mX2_run 2 2 := mlv_mk (u_t3 135 (by decide +kernel) (by decide +kernel)) coX2_run
theorem mkX11_307 : MLV RX11 307 mX4_learn 4 0 := mlv_mk (u_t2 213 (by decide +kernel) (by decide +kernel)) coX4_learn
theorem fkX11_310 : FLK RX11 310 4 5 := ⟨by decide, by decide, (u_t2 89 (by decide +kernel) (by decide +kernel))⟩
theorem fkX11_313 : FLK RX11 313 4 3 := ⟨by decide, by decide, (u_t2 86 (by decide +kernel) (by decide +kernel))⟩
theorem mkX11_316 : MLV RX11 316 mX4_mostWith 4 2 := mlv_mk (u_t6 66 (by decide +kernel) (by decide +kernel)) coX4_mostWith
theorem mkX11_319 : MLV RX11 319 mX4_takersAt 4 1 := mlv_mk (u_t6 78 (by decide +kernel) (by decide +kernel)) coX4_takersAt
theorem mkX11_322 : MLV RX11 322 mX3_tell 3 2 := mlv_mk (u_t3 127 (by decide +kernel) (by decide +kernel)) coX3_tell
theorem mkX11_326 : MLV RX11 326 mX11_clearTally 11 0 := mlv_mk (u_t6 107 (by decide +kernel) (by decide +kernel)) coX11_clearTally
theorem mkX11_329 : MXW RX11 329 := by refine ⟨(u_t6 111 (by decide +kernel) (by decide +kernel)), ?_, ?_, ?_⟩ <;> exact uxW_all (ws := [_]) (by decide +kernel) _ List.mem_cons_self
theorem mkX11_332 : MLV RX11 332 mX2_goByLot 2 1 := mlv_mk (u_t6 121 (by decide +kernel) (by decide +kernel)) coX2_goByLot
theorem mkX11_335 : MLV RX11 335 mX8_tellWaking 8 1 := mlv_mk (u_t6 140 (by decide +kernel) (by decide +kernel)) coX8_tellWaking
theorem fkX11_338 : FLK RX11 338 3 3 := ⟨by decide, by decide, (u_t2 44 (by decide +kernel) (by decide +kernel))⟩
theorem mkX11_341 : MLV RX11 341 mX6_nextMorning 6 4 := mlv_mk (u_t6 141 (by decide +kernel) (by decide +kernel)) coX6_nextMorning
theorem mkX11_345 : MLV RX11 345 mX11_tallySeated 11 1 := mlv_mk (u_t6 142 (by decide +kernel) (by decide +kernel)) coX11_tallySeated
theorem mkX11_348 : MLV RX11 348 mX11_firstOfMost 11 0 := mlv_mk (u_t6 146 (by decide +kernel) (by decide +kernel)) coX11_firstOfMost
theorem mkX11_351 : MLV RX11 351 mX3_forget 3 0 := mlv_mk (u_t3 162 (by decide +kernel) (by decide +kernel)) coX3_forget
theorem mkX11_352 : MLV RX11 352 mX0_firstNotSo 0 2 := mlv_mk (u_t3 144 (by decide +kernel) (by decide +kernel)) coX0_firstNotSo
theorem mkX11_356 : MLV RX11 356 mX1_add 1 3 := mlv_mk (u_t6 171 (by decide +kernel) (by decide +kernel)) coX1_add
theorem fkX11_360 : FLK RX11 360 1 2 := ⟨by decide, by decide, (u_t2 116 (by decide +kernel) (by decide +kernel))⟩
theorem mkX11_361 : MLV RX11 361 mX1_takeBack 1 1 := mlv_mk (u_t3 154 (by decide +kernel) (by decide +kernel)) coX1_takeBack
theorem mkX11_364 : MLV RX11 364 mX1_keepImage 1 2 := mlv_mk (u_t3 174 (by decide +kernel) (by decide +kernel)) coX1_keepImage
theorem fkX11_368 : FLK RX11 368 1 3 := ⟨by decide, by decide, (u_t2 118 (by decide +kernel) (by decide +kernel))⟩
theorem mkX11_371 : MLV RX11 371 mX1_takeImage 1 0 := mlv_mk (u_t3 215 (by decide +kernel) (by decide +kernel)) coX1_takeImage
theorem mkX11_375 : MLV RX11 375 mX7_giveBack 7 2 := mlv_mk (u_t3 219 (by decide +kernel) (by decide +kernel)) coX7_giveBack
theorem fkX11_381 : FLK RX11 381 7 6 := ⟨by decide, by decide, (u_t3 190 (by decide +kernel) (by decide +kernel))⟩
theorem mkX11_382 : MLV RX11 382 mX10_begin 10 1 := mlv_mk (u_t4 79 (by decide +kernel) (by decide +kernel)) coX10_begin
theorem mkX11_385 : MLV RX11 385 mX9_forget 9 0 := mlv_mk (u_t3 166 (by decide +kernel) (by decide +kernel)) coX9_forget
theorem fkX12_9 : FLK RX12 9 12 3 := ⟨by decide, by decide, (u_t6 208 (by decide +kernel) (by decide +kernel))⟩
theorem fkX12_13 : FLK RX12 13 12 9 := ⟨by decide, by decide, (u_t6 214 (by decide +kernel) (by decide +kernel))⟩
theorem fkX12_17 : FLK RX12 17 12 10 := ⟨by decide, by decide, (u_t6 215 (by decide +kernel) (by decide +kernel))⟩
theorem fkX12_20 : FLK RX12 20 12 11 := ⟨by decide, by decide, (u_t6 216 (by decide +kernel) (by decide +kernel))⟩
theorem fkX12_23 : FLK RX12 23 12 12 := ⟨by decide, by decide, (u_t6 217 (by decide +kernel) (by decide +kernel))⟩
theorem fkX12_28 : FLK RX12 28 12 13 := ⟨by decide, by decide, (u_t6 218 (by decide +kernel) (by decide +kernel))⟩
theorem fkX12_31 : FLK RX12 31 12 14 := ⟨by decide, by decide, (u_t6 219 (by decide +kernel) (by decide +kernel))⟩
theorem fkX12_34 : FLK RX12 34 12 15 := ⟨by decide, by decide, (u_t6 220 (by decide +kernel) (by decide +kernel))⟩
theorem fkX12_37 : FLK RX12 37 12 16 := ⟨by decide, by decide, (u_t6 221 (by decide +kernel) (by decide +kernel))⟩
theorem fkX12_40 : FLK RX12 40 12 17 := ⟨by decide, by decide, (u_t6 222 (by decide +kernel) (by decide +kernel))⟩
theorem fkX12_43 : FLK RX12 43 12 18 := ⟨by decide, by decide, (u_t6 223 (by decide +kernel) (by decide +kernel))⟩
theorem fkX12_46 : FLK RX12 46 12 19 := ⟨by decide, by decide, (u_t6 224 (by decide +kernel) (by decide +kernel))⟩
theorem fkX12_49 : FLK RX12 49 12 20 := ⟨by decide, by decide, (u_t6 225 (by decide +kernel) (by decide +kernel))⟩
theorem fkX12_52 : FLK RX12 52 12 21 := ⟨by decide, by decide, (u_t6 226 (by decide +kernel) (by decide +kernel))⟩
theorem fkX12_55 : FLK RX12 55 12 22 := ⟨by decide, by decide, (u_t6 227 (by decide +kernel) (by decide +kernel))⟩
theorem fkX12_58 : FLK RX12 58 12 23 := ⟨by decide, by decide, (u_t6 228 (by decide +kernel) (by decide +kernel))⟩
theorem fkX12_61 : FLK RX12 61 12 24 := ⟨by decide, by decide, (u_t6 229 (by decide +kernel) (by decide +kernel))⟩
theorem fkX12_64 : FLK RX12 64 12 25 := ⟨by decide, by decide, (u_t6 230 (by decide +kernel) (by decide +kernel))⟩
theorem fkX12_67 : FLK RX12 67 12 26 := ⟨by decide, by decide, (u_t6 231 (by decide +kernel) (by decide +kernel))⟩
theorem fkX12_71 : FLK RX12 71 12 34 := ⟨by decide, by decide, (u_t6 239 (by decide +kernel) (by decide +kernel))⟩
theorem fkX12_74 : FLK RX12 74 12 35 := ⟨by decide, by decide, (u_t7 0 (by decide +kernel) (by decide +kernel))⟩
theorem fkX12_77 : FLK RX12 77 12 36 := ⟨by decide, by decide, (u_t7 1 (by decide +kernel) (by decide +kernel))⟩
theorem fkX12_80 : FLK RX12 80 12 37 := ⟨by decide, by decide, (u_t7 2 (by decide +kernel) (by decide +kernel))⟩
theorem fkX12_83 : FLK RX12 83 12 38 := ⟨by decide, by decide, (u_t7 3 (by decide +kernel) (by decide +kernel))⟩
theorem fkX12_86 : FLK RX12 86 12 39 := ⟨by decide, by decide, (u_t7 4 (by decide +kernel) (by decide +kernel))⟩
theorem fkX12_89 : FLK RX12 89 12 40 := ⟨by decide, by decide, (u_t7 5 (by decide +kernel) (by decide +kernel))⟩
theorem fkX12_92 : FLK RX12 92 12 41 := ⟨by decide, by decide, (u_t7 6 (by decide +kernel) (by decide +kernel))⟩
theorem fkX12_95 : FLK RX12 95 12 42 := ⟨by decide, by decide, (u_t7 7 (by decide +kernel) (by decide +kernel))⟩
theorem fkX12_98 : FLK RX12 98 12 43 := ⟨by decide, by decide, (u_t7 8 (by decide +kernel) (by decide +kernel))⟩
theorem fkX12_101 : FLK RX12 101 12 44 := ⟨by decide, by decide, (u_t7 9 (by decide +kernel) (by decide +kernel))⟩
theorem fkX12_104 : FLK RX12 104 12 45 := ⟨by decide, by decide, (u_t7 10 (by decide +kernel) (by decide +kernel))⟩
theorem fkX12_107 : FLK RX12 107 12 46 := ⟨by decide, by decide, (u_t7 11 (by decide +kernel) (by decide +kernel))⟩
theorem fkX12_110 : FLK RX12 110 12 47 := ⟨by decide, by decide, (u_t7 12 (by decide +kernel) (by decide +kernel))⟩
theorem fkX12_113 : FLK RX12 113 12 48 := ⟨by decide, by decide, (u_t7 13 (by decide +kernel) (by decide +kernel))⟩
theorem fkX12_116 : FLK RX12 116 12 49 := ⟨by decide, by decide, (u_t7 14 (by decide +kernel) (by decide +kernel))⟩
theorem fkX12_119 : FLK RX12 119 12 50 := ⟨by decide, by decide, (u_t7 15 (by decide +kernel) (by decide +kernel))⟩
theorem fkX12_122 : FLK RX12 122 12 51 := ⟨by decide, by decide, (u_t7 16 (by decide +kernel) (by decide +kernel))⟩
theorem fkX12_125 : FLK RX12 125 12 52 := ⟨by decide, by decide, (u_t7 17 (by decide +kernel) (by decide +kernel))⟩
theorem fkX12_128 : FLK RX12 128 12 54 := ⟨by decide, by decide, (u_t7 19 (by decide +kernel) (by decide +kernel))⟩
theorem fkX12_131 : FLK RX12 131 12 55 := ⟨by decide, by decide, (u_t7 20 (by decide +kernel) (by decide +kernel))⟩
theorem fkX12_134 : FLK RX12 134 12 56 := ⟨by decide, by decide, (u_t7 21 (by decide +kernel) (by decide +kernel))⟩
theorem fkX12_137 : FLK RX12 137 12 57 := ⟨by decide, by decide, (u_t7 22 (by decide +kernel) (by decide +kernel))⟩
theorem fkX12_140 : FLK RX12 140 12 58 := ⟨by decide, by decide, (u_t7 23 (by decide +kernel) (by decide +kernel))⟩
theorem fkX12_143 : FLK RX12 143 12 59 := ⟨by decide, by decide, (u_t7 24 (by decide +kernel) (by decide +kernel))⟩
theorem fkX12_146 : FLK RX12 146 12 61 := ⟨by decide, by decide, (u_t7 26 (by decide +kernel) (by decide +kernel))⟩
theorem fkX12_149 : FLK RX12 149 12 62 := ⟨by decide, by decide, (u_t7 27 (by decide +kernel) (by decide +kernel))⟩
theorem mkX12_152 : MLV RX12 152 mX12_tellsNothing 12 0 := mlv_mk (u_t6 197 (by decide +kernel) (by decide +kernel)) coX12_tellsNothing
theorem mkX12_155 : MLV RX12 155 mX12_stands 12 0 := mlv_mk (u_t6 201 (by decide +kernel) (by decide +kernel)) coX12_stands
theorem fkX12_158 : FLK RX12 158 12 0 := ⟨by decide, by decide, (u_t6 205 (by decide +kernel) (by decide +kernel))⟩
theorem fkX12_161 : FLK RX12 161 12 1 := ⟨by decide, by decide, (u_t6 206 (by decide +kernel) (by decide +kernel))⟩
theorem fkX12_164 : FLK RX12 164 12 2 := ⟨by decide, by decide, (u_t6 207 (by decide +kernel) (by decide +kernel))⟩
theorem fkX12_167 : FLK RX12 167 12 4 := ⟨by decide, by decide, (u_t6 209 (by decide +kernel) (by decide +kernel))⟩
theorem mkX12_170 : MLV RX12 170 mX12_byteAt 12 1 := mlv_mk (u_t7 183 (by decide +kernel) (by decide +kernel)) coX12_byteAt
theorem fkX12_174 : FLK RX12 174 12 5 := ⟨by decide, by decide, (u_t6 210 (by decide +kernel) (by decide +kernel))⟩
theorem fkX12_177 : FLK RX12 177 12 6 := ⟨by decide, by decide, (u_t6 211 (by decide +kernel) (by decide +kernel))⟩
theorem mkX12_180 : MLV RX12 180 mX12_blanks 12 0 := mlv_mk (u_t7 179 (by decide +kernel) (by decide +kernel)) coX12_blanks
theorem mkX12_183 : MLS RX12 183 mX12_isDigit 1 := mls_mk (u_t7 217 (by decide +kernel) (by decide +kernel)) coX12_isDigit
theorem mkX12_187 : MLV RX12 187 mX12_wrong 12 2 := mlv_mk (u_t7 205 (by decide +kernel) (by decide +kernel)) coX12_wrong
theorem mkX12_192 : MLS RX12 192 mX12_in 3 := mls_mk (u_t7 168 (by decide +kernel) (by decide +kernel)) coX12_in
theorem mkX12_196 : MLS RX12 196 mX12_isSmall 1 := mls_mk (u_t7 199 (by decide +kernel) (by decide +kernel)) coX12_isSmall
theorem mkX12_199 : MLV RX12 199 mX12_wordHere 12 0 := mlv_mk (u_t7 195 (by decide +kernel) (by decide +kernel)) coX12_wordHere
theorem mkX12_203 : MLS RX12 203 mX12_six 6 := mls_mk (u_t7 202 (by decide +kernel) (by decide +kernel)) coX12_six
theorem mkX12_207 : MLV RX12 207 mX12_isWord 12 6 := mlv_mk (u_t7 191 (by decide +kernel) (by decide +kernel)) coX12_isWord
theorem mkX12_211 : MLV RX12 211 mX12_skipWord 12 0 := mlv_mk (u_t7 209 (by decide +kernel) (by decide +kernel)) coX12_skipWord
theorem fkX12_214 : FLK RX12 214 12 7 := ⟨by decide, by decide, (u_t6 212 (by decide +kernel) (by decide +kernel))⟩
theorem fkX12_217 : FLK RX12 217 12 8 := ⟨by decide, by decide, (u_t6 213 (by decide +kernel) (by decide +kernel))⟩
theorem mkX12_220 : MLV RX12 220 mX12_number 12 2 := mlv_mk (u_t7 213 (by decide +kernel) (by decide +kernel)) coX12_number
theorem mkX12_224 : MLV RX12 224 mX12_sign 12 1 := mlv_mk (u_t7 221 (by decide +kernel) (by decide +kernel)) coX12_sign
theorem mkX12_228 : MLV RX12 228 mX12_bad 12 3 := mlv_mk (u_t7 171 (by decide +kernel) (by decide +kernel)) coX12_bad
theorem mkX12_232 : MLV RX12 232 mX12_starts 12 1 := mlv_mk (u_t7 175 (by decide +kernel) (by decide +kernel)) coX12_starts
theorem mkX12_235 : MLV RX12 235 mX12_clause 12 0 := mlv_mk (u_t7 187 (by decide +kernel) (by decide +kernel)) coX12_clause
theorem mkX12_238 : MLV RX12 238 mX12_ends 12 0 := mlv_mk (u_t7 225 (by decide +kernel) (by decide +kernel)) coX12_ends
theorem fkX12_241 : FLK RX12 241 12 28 := ⟨by decide, by decide, (u_t6 233 (by decide +kernel) (by decide +kernel))⟩
theorem fkX12_244 : FLK RX12 244 12 29 := ⟨by decide, by decide, (u_t6 234 (by decide +kernel) (by decide +kernel))⟩
theorem fkX12_247 : FLK RX12 247 12 30 := ⟨by decide, by decide, (u_t6 235 (by decide +kernel) (by decide +kernel))⟩
theorem fkX12_250 : FLK RX12 250 12 31 := ⟨by decide, by decide, (u_t6 236 (by decide +kernel) (by decide +kernel))⟩
theorem fkX12_253 : FLK RX12 253 12 27 := ⟨by decide, by decide, (u_t6 232 (by decide +kernel) (by decide +kernel))⟩
theorem mkX12_256 : MLV RX12 256 mX12_product 12 0 := mlv_mk (u_t8 1 (by decide +kernel) (by decide +kernel)) coX12_product
theorem mkX12_259 : MLV RX12 259 mX12_takesSign 12 1 := mlv_mk (u_t8 17 (by decide +kernel) (by decide +kernel)) coX12_takesSign
theorem mkX12_262 : MLV RX12 262 mX12_notes 12 2 := mlv_mk (u_t8 13 (by decide +kernel) (by decide +kernel)) coX12_notes
theorem mkX12_265 : MLV RX12 265 mX12_one 12 0 := mlv_mk (u_t8 5 (by decide +kernel) (by decide +kernel)) coX12_one
theorem mkX12_268 : MLV RX12 268 mX12_takes 12 6 := mlv_mk (u_t8 21 (by decide +kernel) (by decide +kernel)) coX12_takes
theorem mkX12_271 : MLV RX12 271 mX12_opens 12 0 := mlv_mk (u_t8 9 (by decide +kernel) (by decide +kernel)) coX12_opens
theorem mkX12_275 : MLV RX12 275 mX12_sum 12 0 := mlv_mk (u_t7 237 (by decide +kernel) (by decide +kernel)) coX12_sum
theorem mkX12_278 : MLV RX12 278 mX12_knownHere 12 0 := mlv_mk (u_t8 25 (by decide +kernel) (by decide +kernel)) coX12_knownHere
theorem fkX12_281 : FLK RX12 281 12 33 := ⟨by decide, by decide, (u_t6 238 (by decide +kernel) (by decide +kernel))⟩
theorem mkX12_285 : MLV RX12 285 mX12_isGuest 12 1 := mlv_mk (u_t7 233 (by decide +kernel) (by decide +kernel)) coX12_isGuest
theorem mkX12_288 : MLS RX12 288 mX12_less 2 := mls_mk (u_t8 47 (by decide +kernel) (by decide +kernel)) coX12_less
theorem mkX12_291 : MLS RX12 291 mX12_greater 2 := mls_mk (u_t8 50 (by decide +kernel) (by decide +kernel)) coX12_greater
theorem mkX12_294 : MLS RX12 294 mX12_by 3 := mls_mk (u_t8 44 (by decide +kernel) (by decide +kernel)) coX12_by
theorem mkX12_298 : MLS RX12 298 mX12_isHalf 1 := mls_mk (u_t8 33 (by decide +kernel) (by decide +kernel)) coX12_isHalf
theorem mkX12_301 : MLV RX12 301 mX12_knowsSelf 12 1 := mlv_mk (u_t8 36 (by decide +kernel) (by decide +kernel)) coX12_knowsSelf
theorem mkX12_304 : MLV RX12 304 mX12_comesBy 12 1 := mlv_mk (u_t8 40 (by decide +kernel) (by decide +kernel)) coX12_comesBy
theorem mkX12_307 : MLV RX12 307 mX12_isChair 12 1 := mlv_mk (u_t8 73 (by decide +kernel) (by decide +kernel)) coX12_isChair
theorem mkX12_310 : MLV RX12 310 mX12_worthOf 12 3 := mlv_mk (u_t8 77 (by decide +kernel) (by decide +kernel)) coX12_worthOf
theorem fkX12_313 : FLK RX12 313 12 53 := ⟨by decide, by decide, (u_t7 18 (by decide +kernel) (by decide +kernel))⟩
theorem mkX12_316 : MLV RX12 316 mX12_frees 12 1 := mlv_mk (u_t8 113 (by decide +kernel) (by decide +kernel)) coX12_frees
theorem mkX12_319 : MLV RX12 319 mX12_hotelGoes 12 1 := mlv_mk (u_t8 117 (by decide +kernel) (by decide +kernel)) coX12_hotelGoes
theorem mkX12_322 : MLV RX12 322 mX12_guestOfRank 12 1 := mlv_mk (u_t8 121 (by decide +kernel) (by decide +kernel)) coX12_guestOfRank
theorem mkX12_325 : MLV RX12 325 mX12_sits 12 2 := mlv_mk (u_t8 125 (by decide +kernel) (by decide +kernel)) coX12_sits
theorem mkX12_329 : MLV RX12 329 mX12_nextWaiting 12 2 := mlv_mk (u_t8 129 (by decide +kernel) (by decide +kernel)) coX12_nextWaiting
theorem mkX12_332 : MLV RX12 332 mX12_half 12 1 := mlv_mk (u_t8 109 (by decide +kernel) (by decide +kernel)) coX12_half
theorem mkX12_335 : MLV RX12 335 mX12_lostOf 12 1 := mlv_mk (u_t8 145 (by decide +kernel) (by decide +kernel)) coX12_lostOf
theorem mkX12_338 : MLV RX12 338 mX12_ranksByNumber 12 0 := mlv_mk (u_t8 97 (by decide +kernel) (by decide +kernel)) coX12_ranksByNumber
theorem mkX12_341 : MLV RX12 341 mX12_runs 12 0 := mlv_mk (u_t8 105 (by decide +kernel) (by decide +kernel)) coX12_runs
theorem mkX12_344 : MLV RX12 344 mX12_asks 12 1 := mlv_mk (u_t8 133 (by decide +kernel) (by decide +kernel)) coX12_asks
theorem mkX12_347 : MLV RX12 347 mX12_begins 12 0 := mlv_mk (u_t8 93 (by decide +kernel) (by decide +kernel)) coX12_begins
theorem mkX12_350 : MLV RX12 350 mX12_goesTo 12 1 := mlv_mk (u_t8 101 (by decide +kernel) (by decide +kernel)) coX12_goesTo
theorem mkX12_353 : MLV RX12 353 mX12_dayNow 12 0 := mlv_mk (u_t8 89 (by decide +kernel) (by decide +kernel)) coX12_dayNow
theorem mkX12_356 : MLV RX12 356 mX12_netOf 12 1 := mlv_mk (u_t8 141 (by decide +kernel) (by decide +kernel)) coX12_netOf
theorem mkX12_359 : MLV RX12 359 mX12_allGot 12 0 := mlv_mk (u_t8 165 (by decide +kernel) (by decide +kernel)) coX12_allGot
theorem mkX12_362 : MLV RX12 362 mX12_allIdle 12 0 := mlv_mk (u_t8 169 (by decide +kernel) (by decide +kernel)) coX12_allIdle
theorem mkX12_365 : MLV RX12 365 mX12_allLost 12 0 := mlv_mk (u_t8 173 (by decide +kernel) (by decide +kernel)) coX12_allLost
theorem mkX12_368 : MLV RX12 368 mX12_isAs 12 2 := mlv_mk (u_t8 181 (by decide +kernel) (by decide +kernel)) coX12_isAs
theorem mkX12_372 : MLS RX12 372 mX12_power 2 := mls_mk (u_t8 197 (by decide +kernel) (by decide +kernel)) coX12_power
theorem mkX12_375 : MLV RX12 375 mX12_comeBy 12 2 := mlv_mk (u_t8 200 (by decide +kernel) (by decide +kernel)) coX12_comeBy
theorem mkX12_378 : MLV RX12 378 mX12_laysGiven 12 1 := mlv_mk (u_t8 212 (by decide +kernel) (by decide +kernel)) coX12_laysGiven
theorem mkX12_381 : MLV RX12 381 mX12_wantAt 12 1 := mlv_mk (u_t8 232 (by decide +kernel) (by decide +kernel)) coX12_wantAt
theorem fkX12_384 : FLK RX12 384 12 60 := ⟨by decide, by decide, (u_t7 25 (by decide +kernel) (by decide +kernel))⟩
theorem mkX12_388 : MLV RX12 388 mX12_draw 12 1 := mlv_mk (u_t9 20 (by decide +kernel) (by decide +kernel)) coX12_draw
theorem mkX12_391 : MLV RX12 391 mX12_drawsOrder 12 0 := mlv_mk (u_t9 16 (by decide +kernel) (by decide +kernel)) coX12_drawsOrder
theorem mkX12_394 : MLV RX12 394 mX12_lotNow 12 1 := mlv_mk (u_t9 12 (by decide +kernel) (by decide +kernel)) coX12_lotNow
theorem mkX12_397 : MLV RX12 397 mX12_rightBy 12 1 := mlv_mk (u_t9 37 (by decide +kernel) (by decide +kernel)) coX12_rightBy
theorem fkX12_400 : FLK RX12 400 12 32 := ⟨by decide, by decide, (u_t6 237 (by decide +kernel) (by decide +kernel))⟩
theorem mkX12_403 : MLV RX12 403 mX12_puts 12 3 := mlv_mk (u_t9 61 (by decide +kernel) (by decide +kernel)) coX12_puts
theorem mkX12_407 : MLV RX12 407 mX12_putsChanged 12 2 := mlv_mk (u_t9 57 (by decide +kernel) (by decide +kernel)) coX12_putsChanged
theorem mkX12_411 : MLV RX12 411 mX12_changes 12 0 := mlv_mk (u_t9 53 (by decide +kernel) (by decide +kernel)) coX12_changes
theorem mkX12_413 : MLV RX12 413 mX12_putsAll 12 2 := mlv_mk (u_t9 81 (by decide +kernel) (by decide +kernel)) coX12_putsAll
theorem mkL_7 : MLV RL 7 mX11_pool 11 1 := mlv_mk (u_t3 235 (by decide +kernel) (by decide +kernel)) coX11_pool
theorem mkL_15 : MLV RL 15 mX11_habit 11 2 := mlv_mk (u_t4 213 (by decide +kernel) (by decide +kernel)) coX11_habit
theorem mkL_21 : MLV RL 21 mX11_book 11 1 := mlv_mk (u_t5 54 (by decide +kernel) (by decide +kernel)) coX11_book
theorem mkL_24 : MLV RL 24 mX11_told 11 1 := mlv_mk (u_t5 74 (by decide +kernel) (by decide +kernel)) coX11_told
theorem mkL_27 : MLV RL 27 mX11_chair 11 2 := mlv_mk (u_t5 81 (by decide +kernel) (by decide +kernel)) coX11_chair
theorem mkL_30 : MLV RL 30 mX11_guest 11 2 := mlv_mk (u_t5 93 (by decide +kernel) (by decide +kernel)) coX11_guest
theorem mkL_33 : MLV RL 33 mX11_day 11 1 := mlv_mk (u_t5 100 (by decide +kernel) (by decide +kernel)) coX11_day
theorem mkL_36 : MLV RL 36 mX11_did 11 2 := mlv_mk (u_t5 107 (by decide +kernel) (by decide +kernel)) coX11_did
theorem mkL_39 : MLV RL 39 mX11_towel 11 2 := mlv_mk (u_t5 114 (by decide +kernel) (by decide +kernel)) coX11_towel
theorem mkL_42 : MLV RL 42 mX11_lies 11 2 := mlv_mk (u_t5 121 (by decide +kernel) (by decide +kernel)) coX11_lies
theorem mkL_45 : MLV RL 45 mX11_waits 11 1 := mlv_mk (u_t5 128 (by decide +kernel) (by decide +kernel)) coX11_waits
theorem mkL_48 : MLV RL 48 mX11_sums 11 1 := mlv_mk (u_t5 135 (by decide +kernel) (by decide +kernel)) coX11_sums
theorem mkL_51 : MLV RL 51 mX11_worth 11 3 := mlv_mk (u_t5 157 (by decide +kernel) (by decide +kernel)) coX11_worth
theorem mkL_55 : MLV RL 55 mX11_would 11 7 := mlv_mk (u_t5 165 (by decide +kernel) (by decide +kernel)) coX11_would
theorem mkL_59 : MLV RL 59 mX11_round 11 1 := mlv_mk (u_t5 176 (by decide +kernel) (by decide +kernel)) coX11_round
theorem mkL_62 : MLV RL 62 mX11_out 11 1 := mlv_mk (u_t5 183 (by decide +kernel) (by decide +kernel)) coX11_out
theorem mkL_65 : MLV RL 65 mX11_had 11 2 := mlv_mk (u_t5 194 (by decide +kernel) (by decide +kernel)) coX11_had
theorem mkL_68 : MLV RL 68 mX11_still 11 2 := mlv_mk (u_t5 202 (by decide +kernel) (by decide +kernel)) coX11_still
theorem mkL_73 : MLV RL 73 mX11_net 11 2 := mlv_mk (u_t6 47 (by decide +kernel) (by decide +kernel)) coX11_net
theorem mkL_76 : MLV RL 76 mX11_gets 11 1 := mlv_mk (u_t6 55 (by decide +kernel) (by decide +kernel)) coX11_gets
theorem mkL_79 : MLV RL 79 mX11_more 11 2 := mlv_mk (u_t6 62 (by decide +kernel) (by decide +kernel)) coX11_more
theorem mkL_82 : MLV RL 82 mX11_want 11 1 := mlv_mk (u_t6 74 (by decide +kernel) (by decide +kernel)) coX11_want
theorem mkL_85 : MLV RL 85 mX11_just 11 1 := mlv_mk (u_t6 89 (by decide +kernel) (by decide +kernel)) coX11_just
theorem mkL_88 : MLV RL 88 mX11_off 11 1 := mlv_mk (u_t6 96 (by decide +kernel) (by decide +kernel)) coX11_off
theorem mkL_91 : MLV RL 91 mX11_turnsOf 11 1 := mlv_mk (u_t6 103 (by decide +kernel) (by decide +kernel)) coX11_turnsOf
theorem mkL_94 : MLV RL 94 mX11_lot 11 2 := mlv_mk (u_t6 117 (by decide +kernel) (by decide +kernel)) coX11_lot
theorem mkL_97 : MLV RL 97 mX11_lucky 11 3 := mlv_mk (u_t6 129 (by decide +kernel) (by decide +kernel)) coX11_lucky
theorem mkL_100 : MLV RL 100 mX11_summer 11 3 := mlv_mk (u_t6 136 (by decide +kernel) (by decide +kernel)) coX11_summer
theorem mkL_103 : MLV RL 103 mX11_fits 11 1 := mlv_mk (u_t6 153 (by decide +kernel) (by decide +kernel)) coX11_fits
theorem mkL_106 : MLV RL 106 mX11_early 11 1 := mlv_mk (u_t6 160 (by decide +kernel) (by decide +kernel)) coX11_early
theorem mkL_109 : MLV RL 109 mX11_hotel 11 2 := mlv_mk (u_t6 167 (by decide +kernel) (by decide +kernel)) coX11_hotel
theorem mkL_112 : MLV RL 112 mX11_hire 11 1 := mlv_mk (u_t6 178 (by decide +kernel) (by decide +kernel)) coX11_hire
theorem mkL_115 : MLV RL 115 mX11_wakes 11 2 := mlv_mk (u_t6 185 (by decide +kernel) (by decide +kernel)) coX11_wakes
theorem mkL_122 : MLV RL 122 mX11_feed 11 5 := mlv_mk (u_t2 197 (by decide +kernel) (by decide +kernel)) coX11_feed
theorem mkL_126 : MLV RL 126 mX12_feed 12 5 := mlv_mk (u_t7 160 (by decide +kernel) (by decide +kernel)) coX12_feed
theorem mkL_132 : MLV RL 132 mX12_pool 12 1 := mlv_mk (u_t7 164 (by decide +kernel) (by decide +kernel)) coX12_pool
theorem mkL_133 : MLV RL 133 mX12_thrown 12 0 := mlv_mk (u_t7 156 (by decide +kernel) (by decide +kernel)) coX12_thrown
theorem mkL_140 : MLV RL 140 mX12_habit 12 2 := mlv_mk (u_t7 229 (by decide +kernel) (by decide +kernel)) coX12_habit
theorem mkL_143 : MLV RL 143 mX12_book 12 1 := mlv_mk (u_t8 53 (by decide +kernel) (by decide +kernel)) coX12_book
theorem mkL_144 : MLV RL 144 mX11_fault 11 0 := mlv_mk (u_t2 205 (by decide +kernel) (by decide +kernel)) coX11_fault
theorem mkL_147 : MLV RL 147 mX12_fault 12 0 := mlv_mk (u_t8 57 (by decide +kernel) (by decide +kernel)) coX12_fault
theorem mkL_150 : MLV RL 150 mX12_told 12 1 := mlv_mk (u_t8 61 (by decide +kernel) (by decide +kernel)) coX12_told
theorem mkL_153 : MLV RL 153 mX12_chair 12 2 := mlv_mk (u_t8 85 (by decide +kernel) (by decide +kernel)) coX12_chair
theorem mkL_156 : MLV RL 156 mX12_guest 12 2 := mlv_mk (u_t8 65 (by decide +kernel) (by decide +kernel)) coX12_guest
theorem mkL_159 : MLV RL 159 mX12_day 12 1 := mlv_mk (u_t8 81 (by decide +kernel) (by decide +kernel)) coX12_day
theorem mkL_162 : MLV RL 162 mX12_did 12 2 := mlv_mk (u_t8 137 (by decide +kernel) (by decide +kernel)) coX12_did
theorem mkL_165 : MLV RL 165 mX12_towel 12 2 := mlv_mk (u_t8 149 (by decide +kernel) (by decide +kernel)) coX12_towel
theorem mkL_168 : MLV RL 168 mX12_lies 12 2 := mlv_mk (u_t8 153 (by decide +kernel) (by decide +kernel)) coX12_lies
theorem mkL_171 : MLV RL 171 mX12_waits 12 1 := mlv_mk (u_t8 157 (by decide +kernel) (by decide +kernel)) coX12_waits
theorem mkL_174 : MLV RL 174 mX12_sums 12 1 := mlv_mk (u_t8 161 (by decide +kernel) (by decide +kernel)) coX12_sums
theorem mkL_178 : MLV RL 178 mX12_worth 12 3 := mlv_mk (u_t8 69 (by decide +kernel) (by decide +kernel)) coX12_worth
theorem mkL_182 : MLV RL 182 mX12_would 12 7 := mlv_mk (u_t8 29 (by decide +kernel) (by decide +kernel)) coX12_would
theorem mkL_185 : MLV RL 185 mX12_round 12 1 := mlv_mk (u_t8 177 (by decide +kernel) (by decide +kernel)) coX12_round
theorem mkL_188 : MLV RL 188 mX12_out 12 1 := mlv_mk (u_t8 185 (by decide +kernel) (by decide +kernel)) coX12_out
theorem mkL_191 : MLV RL 191 mX12_had 12 2 := mlv_mk (u_t8 189 (by decide +kernel) (by decide +kernel)) coX12_had
theorem mkL_194 : MLV RL 194 mX12_still 12 2 := mlv_mk (u_t8 193 (by decide +kernel) (by decide +kernel)) coX12_still
theorem mkL_197 : MLV RL 197 mX12_net 12 2 := mlv_mk (u_t8 204 (by decide +kernel) (by decide +kernel)) coX12_net
theorem mkL_198 : MLV RL 198 mX11_given 11 0 := mlv_mk (u_t2 209 (by decide +kernel) (by decide +kernel)) coX11_given
theorem mkL_201 : MLV RL 201 mX12_given 12 0 := mlv_mk (u_t8 208 (by decide +kernel) (by decide +kernel)) coX12_given
theorem mkL_204 : MLV RL 204 mX12_gets 12 1 := mlv_mk (u_t8 216 (by decide +kernel) (by decide +kernel)) coX12_gets
theorem mkL_205 : MLV RL 205 mX11_waste 11 0 := mlv_mk (u_t2 236 (by decide +kernel) (by decide +kernel)) coX11_waste
theorem mkL_208 : MLV RL 208 mX12_waste 12 0 := mlv_mk (u_t8 220 (by decide +kernel) (by decide +kernel)) coX12_waste
theorem mkL_211 : MLV RL 211 mX12_more 12 2 := mlv_mk (u_t8 224 (by decide +kernel) (by decide +kernel)) coX12_more
theorem mkL_214 : MLV RL 214 mX12_want 12 1 := mlv_mk (u_t8 228 (by decide +kernel) (by decide +kernel)) coX12_want
theorem mkL_217 : MLV RL 217 mX12_just 12 1 := mlv_mk (u_t8 236 (by decide +kernel) (by decide +kernel)) coX12_just
theorem mkL_220 : MLV RL 220 mX12_off 12 1 := mlv_mk (u_t9 0 (by decide +kernel) (by decide +kernel)) coX12_off
theorem mkL_223 : MLV RL 223 mX12_turnsOf 12 1 := mlv_mk (u_t9 4 (by decide +kernel) (by decide +kernel)) coX12_turnsOf
theorem mkL_226 : MLV RL 226 mX12_lot 12 2 := mlv_mk (u_t9 8 (by decide +kernel) (by decide +kernel)) coX12_lot
theorem mkL_229 : MLV RL 229 mX12_lucky 12 3 := mlv_mk (u_t9 25 (by decide +kernel) (by decide +kernel)) coX12_lucky
theorem mkL_232 : MLV RL 232 mX12_summer 12 3 := mlv_mk (u_t9 29 (by decide +kernel) (by decide +kernel)) coX12_summer
theorem mkL_235 : MLV RL 235 mX12_fits 12 1 := mlv_mk (u_t9 33 (by decide +kernel) (by decide +kernel)) coX12_fits
theorem mkL_236 : MLV RL 236 mX11_right 11 0 := mlv_mk (u_t3 140 (by decide +kernel) (by decide +kernel)) coX11_right
theorem mkL_239 : MLV RL 239 mX12_right 12 0 := mlv_mk (u_t9 41 (by decide +kernel) (by decide +kernel)) coX12_right
theorem mkL_242 : MLV RL 242 mX12_early 12 1 := mlv_mk (u_t9 45 (by decide +kernel) (by decide +kernel)) coX12_early
theorem mkL_245 : MLV RL 245 mX12_hotel 12 2 := mlv_mk (u_t9 49 (by decide +kernel) (by decide +kernel)) coX12_hotel
theorem mkL_248 : MLV RL 248 mX12_hire 12 1 := mlv_mk (u_t9 65 (by decide +kernel) (by decide +kernel)) coX12_hire
theorem mkL_251 : MLV RL 251 mX12_wakes 12 2 := mlv_mk (u_t9 69 (by decide +kernel) (by decide +kernel)) coX12_wakes
theorem mkL_252 : MLV RL 252 mX11_undo 11 0 := mlv_mk (u_t3 150 (by decide +kernel) (by decide +kernel)) coX11_undo
theorem mkL_255 : MLV RL 255 mX12_undo 12 0 := mlv_mk (u_t9 73 (by decide +kernel) (by decide +kernel)) coX12_undo
theorem mkL_256 : MLV RL 256 mX11_image 11 0 := mlv_mk (u_t3 170 (by decide +kernel) (by decide +kernel)) coX11_image
theorem mkL_259 : MLV RL 259 mX12_image 12 0 := mlv_mk (u_t9 77 (by decide +kernel) (by decide +kernel)) coX12_image
theorem mkL_260 : MLV RL 260 mX11_restore 11 0 := mlv_mk (u_t3 211 (by decide +kernel) (by decide +kernel)) coX11_restore
theorem mkL_263 : MLV RL 263 mX12_restore 12 0 := mlv_mk (u_t9 85 (by decide +kernel) (by decide +kernel)) coX12_restore
theorem mkL_264 : MLV RL 264 mX11_status 11 1 := mlv_mk (u_t3 223 (by decide +kernel) (by decide +kernel)) coX11_status
theorem mkL_267 : MLV RL 267 mX12_status 12 1 := mlv_mk (u_t9 89 (by decide +kernel) (by decide +kernel)) coX12_status
theorem mkL_268 : MLV RL 268 mX11_count 11 1 := mlv_mk (u_t3 227 (by decide +kernel) (by decide +kernel)) coX11_count
theorem mkL_271 : MLV RL 271 mX12_count 12 1 := mlv_mk (u_t9 93 (by decide +kernel) (by decide +kernel)) coX12_count

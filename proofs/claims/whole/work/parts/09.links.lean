/-! ===== the tables' words: by program (tools/mklinks.py) ===== -/
theorem in_X0 : ∀ w ∈ u_ws RX0 TX0 5, w ∈ TB := by decide +kernel
theorem in_X1 : ∀ w ∈ u_ws RX1 TX1 3, w ∈ TB := by decide +kernel
theorem in_X2 : ∀ w ∈ u_ws RX2 TX2 7, w ∈ TB := by decide +kernel
theorem in_X3 : ∀ w ∈ u_ws RX3 TX3 2, w ∈ TB := by decide +kernel
theorem in_X4 : ∀ w ∈ u_ws RX4 TX4 3, w ∈ TB := by decide +kernel
theorem in_X5 : ∀ w ∈ u_ws RX5 TX5 3, w ∈ TB := by decide +kernel
theorem in_X6 : ∀ w ∈ u_ws RX6 TX6 4, w ∈ TB := by decide +kernel
theorem in_X7 : ∀ w ∈ u_ws RX7 TX7 14, w ∈ TB := by decide +kernel
abbrev mX6_init : MD := (yX6_init, cX6_init, 1, none)
theorem co_X6_init : CO mX6_init 0 := ⟨TB_in (List.mem_of_getElem? (i := 50) (by decide +kernel)) (by decide +kernel), TB_in (List.mem_of_getElem? (i := 35) (by decide +kernel)) (by decide +kernel), by decide +kernel, by decide +kernel⟩
abbrev mX3_init : MD := (yX3_init, cX3_init, 1, none)
theorem co_X3_init : CO mX3_init 0 := ⟨TB_in (List.mem_of_getElem? (i := 58) (by decide +kernel)) (by decide +kernel), TB_in (List.mem_of_getElem? (i := 36) (by decide +kernel)) (by decide +kernel), by decide +kernel, by decide +kernel⟩
abbrev mX1_init : MD := (yX1_init, cX1_init, 1, none)
theorem co_X1_init : CO mX1_init 0 := ⟨TB_in (List.mem_of_getElem? (i := 75) (by decide +kernel)) (by decide +kernel), TB_in (List.mem_of_getElem? (i := 37) (by decide +kernel)) (by decide +kernel), by decide +kernel, by decide +kernel⟩
abbrev mX0_init : MD := (yX0_init, cX0_init, 1, none)
theorem co_X0_init : CO mX0_init 0 := ⟨TB_in (List.mem_of_getElem? (i := 81) (by decide +kernel)) (by decide +kernel), TB_in (List.mem_of_getElem? (i := 38) (by decide +kernel)) (by decide +kernel), by decide +kernel, by decide +kernel⟩
abbrev mX4_init : MD := (yX4_init, cX4_init, 1, none)
theorem co_X4_init : CO mX4_init 0 := ⟨TB_in (List.mem_of_getElem? (i := 104) (by decide +kernel)) (by decide +kernel), TB_in (List.mem_of_getElem? (i := 39) (by decide +kernel)) (by decide +kernel), by decide +kernel, by decide +kernel⟩
abbrev mX5_init : MD := (yX5_init, cX5_init, 1, none)
theorem co_X5_init : CO mX5_init 0 := ⟨TB_in (List.mem_of_getElem? (i := 122) (by decide +kernel)) (by decide +kernel), TB_in (List.mem_of_getElem? (i := 40) (by decide +kernel)) (by decide +kernel), by decide +kernel, by decide +kernel⟩
abbrev mX2_init : MD := (yX2_init, cX2_init, 1, none)
theorem co_X2_init : CO mX2_init 0 := ⟨TB_in (List.mem_of_getElem? (i := 155) (by decide +kernel)) (by decide +kernel), TB_in (List.mem_of_getElem? (i := 41) (by decide +kernel)) (by decide +kernel), by decide +kernel, by decide +kernel⟩
abbrev mX6_say : MD := (yX6_say, cX6_say, 2, (some .int))
theorem co_X6_say : CO mX6_say 1 := ⟨TB_in (List.mem_of_getElem? (i := 196) (by decide +kernel)) (by decide +kernel), TB_in (List.mem_of_getElem? (i := 35) (by decide +kernel)) (by decide +kernel), by decide +kernel, by decide +kernel⟩
abbrev mX3_add : MD := (yX3_add, cX3_add, 2, (some .boolean))
theorem co_X3_add : CO mX3_add 1 := ⟨TB_in (List.mem_of_getElem? (i := 200) (by decide +kernel)) (by decide +kernel), TB_in (List.mem_of_getElem? (i := 36) (by decide +kernel)) (by decide +kernel), by decide +kernel, by decide +kernel⟩
abbrev mX6_isOneOf : MD := (yX6_isOneOf, cX6_isOneOf, 2, (some .boolean))
theorem co_X6_isOneOf : CO mX6_isOneOf 2 := ⟨TB_in (List.mem_of_getElem? (i := 203) (by decide +kernel)) (by decide +kernel), TB_in (List.mem_of_getElem? (i := 35) (by decide +kernel)) (by decide +kernel), by decide +kernel, by decide +kernel⟩
abbrev mX6_wipe : MD := (yX6_wipe, cX6_wipe, 2, (some .int))
theorem co_X6_wipe : CO mX6_wipe 0 := ⟨TB_in (List.mem_of_getElem? (i := 207) (by decide +kernel)) (by decide +kernel), TB_in (List.mem_of_getElem? (i := 35) (by decide +kernel)) (by decide +kernel), by decide +kernel, by decide +kernel⟩
abbrev mX6_fault : MD := (yX6_fault, cX6_fault, 2, (some .int))
theorem co_X6_fault : CO mX6_fault 1 := ⟨TB_in (List.mem_of_getElem? (i := 211) (by decide +kernel)) (by decide +kernel), TB_in (List.mem_of_getElem? (i := 35) (by decide +kernel)) (by decide +kernel), by decide +kernel, by decide +kernel⟩
abbrev mX3_orderFault : MD := (yX3_orderFault, cX3_orderFault, 4, (some .int))
theorem co_X3_orderFault : CO mX3_orderFault 0 := ⟨TB_in (List.mem_of_getElem? (i := 216) (by decide +kernel)) (by decide +kernel), TB_in (List.mem_of_getElem? (i := 36) (by decide +kernel)) (by decide +kernel), by decide +kernel, by decide +kernel⟩
abbrev mX3_signAt : MD := (yX3_signAt, cX3_signAt, 2, (some .int))
theorem co_X3_signAt : CO mX3_signAt 1 := ⟨TB_in (List.mem_of_getElem? (i := 220) (by decide +kernel)) (by decide +kernel), TB_in (List.mem_of_getElem? (i := 36) (by decide +kernel)) (by decide +kernel), by decide +kernel, by decide +kernel⟩
abbrev mX3_planFault : MD := (yX3_planFault, cX3_planFault, 7, (some .int))
theorem co_X3_planFault : CO mX3_planFault 0 := ⟨TB_in (List.mem_of_getElem? (i := 224) (by decide +kernel)) (by decide +kernel), TB_in (List.mem_of_getElem? (i := 36) (by decide +kernel)) (by decide +kernel), by decide +kernel, by decide +kernel⟩
abbrev mX6_born : MD := (yX6_born, cX6_born, 3, (some .int))
theorem co_X6_born : CO mX6_born 2 := ⟨TB_in (List.mem_of_getElem? (i := 228) (by decide +kernel)) (by decide +kernel), TB_in (List.mem_of_getElem? (i := 35) (by decide +kernel)) (by decide +kernel), by decide +kernel, by decide +kernel⟩
abbrev mX6_isBirth : MD := (yX6_isBirth, cX6_isBirth, 1, (some .boolean))
theorem co_X6_isBirth : CO mX6_isBirth 1 := ⟨TB_in (List.mem_of_getElem? (i := 231) (by decide +kernel)) (by decide +kernel), TB_in (List.mem_of_getElem? (i := 35) (by decide +kernel)) (by decide +kernel), by decide +kernel, by decide +kernel⟩
abbrev mX0_settle : MD := (yX0_settle, cX0_settle, 5, none)
theorem co_X0_settle : CO mX0_settle 3 := ⟨TB_in (List.mem_of_getElem? (i := 235) (by decide +kernel)) (by decide +kernel), TB_in (List.mem_of_getElem? (i := 38) (by decide +kernel)) (by decide +kernel), by decide +kernel, by decide +kernel⟩
abbrev mX6_exile : MD := (yX6_exile, cX6_exile, 2, (some .int))
theorem co_X6_exile : CO mX6_exile 1 := ⟨TB_in (List.mem_of_getElem? (i := 242) (by decide +kernel)) (by decide +kernel), TB_in (List.mem_of_getElem? (i := 35) (by decide +kernel)) (by decide +kernel), by decide +kernel, by decide +kernel⟩
abbrev mX6_isThere : MD := (yX6_isThere, cX6_isThere, 2, (some .boolean))
theorem co_X6_isThere : CO mX6_isThere 1 := ⟨TB_in (List.mem_of_getElem? (i := 246) (by decide +kernel)) (by decide +kernel), TB_in (List.mem_of_getElem? (i := 35) (by decide +kernel)) (by decide +kernel), by decide +kernel, by decide +kernel⟩
abbrev mX0_isThere : MD := (yX0_isThere, cX0_isThere, 2, (some .boolean))
theorem co_X0_isThere : CO mX0_isThere 1 := ⟨TB_in (List.mem_of_getElem? (i := 250) (by decide +kernel)) (by decide +kernel), TB_in (List.mem_of_getElem? (i := 38) (by decide +kernel)) (by decide +kernel), by decide +kernel, by decide +kernel⟩
abbrev mJ6_bitCount_0f7a4 : MD := (yJ6_bitCount_0f7a4, cJ6_bitCount_0f7a4, 1, (some .int))
theorem co_J6_bitCount_0f7a4 : CO mJ6_bitCount_0f7a4 1 := ⟨TB_in (List.mem_of_getElem? (i := 253) (by decide +kernel)) (by decide +kernel), TB_in (List.mem_of_getElem? (i := 43) (by decide +kernel)) (by decide +kernel), by decide +kernel, by decide +kernel⟩
abbrev mX6_plan : MD := (yX6_plan, cX6_plan, 1, (some .int))
theorem co_X6_plan : CO mX6_plan 0 := ⟨TB_in (List.mem_of_getElem? (i := 260) (by decide +kernel)) (by decide +kernel), TB_in (List.mem_of_getElem? (i := 35) (by decide +kernel)) (by decide +kernel), by decide +kernel, by decide +kernel⟩
abbrev mX4_read : MD := (yX4_read, cX4_read, 5, none)
theorem co_X4_read : CO mX4_read 1 := ⟨TB_in (List.mem_of_getElem? (i := 264) (by decide +kernel)) (by decide +kernel), TB_in (List.mem_of_getElem? (i := 39) (by decide +kernel)) (by decide +kernel), by decide +kernel, by decide +kernel⟩
abbrev mX6_today : MD := (yX6_today, cX6_today, 3, (some .int))
theorem co_X6_today : CO mX6_today 2 := ⟨TB_in (List.mem_of_getElem? (i := 270) (by decide +kernel)) (by decide +kernel), TB_in (List.mem_of_getElem? (i := 35) (by decide +kernel)) (by decide +kernel), by decide +kernel, by decide +kernel⟩
abbrev mX6_isDate : MD := (yX6_isDate, cX6_isDate, 1, (some .boolean))
theorem co_X6_isDate : CO mX6_isDate 1 := ⟨TB_in (List.mem_of_getElem? (i := 273) (by decide +kernel)) (by decide +kernel), TB_in (List.mem_of_getElem? (i := 35) (by decide +kernel)) (by decide +kernel), by decide +kernel, by decide +kernel⟩
abbrev mX0_dayOn : MD := (yX0_dayOn, cX0_dayOn, 4, (some .int))
theorem co_X0_dayOn : CO mX0_dayOn 2 := ⟨TB_in (List.mem_of_getElem? (i := 277) (by decide +kernel)) (by decide +kernel), TB_in (List.mem_of_getElem? (i := 38) (by decide +kernel)) (by decide +kernel), by decide +kernel, by decide +kernel⟩
abbrev mJ9_floorMod_7cf53 : MD := (yJ9_floorMod_7cf53, cJ9_floorMod_7cf53, 3, (some .int))
theorem co_J9_floorMod_7cf53 : CO mJ9_floorMod_7cf53 2 := ⟨TB_in (List.mem_of_getElem? (i := 280) (by decide +kernel)) (by decide +kernel), TB_in (List.mem_of_getElem? (i := 44) (by decide +kernel)) (by decide +kernel), by decide +kernel, by decide +kernel⟩
abbrev mX6_same : MD := (yX6_same, cX6_same, 3, (some .int))
theorem co_X6_same : CO mX6_same 2 := ⟨TB_in (List.mem_of_getElem? (i := 284) (by decide +kernel)) (by decide +kernel), TB_in (List.mem_of_getElem? (i := 35) (by decide +kernel)) (by decide +kernel), by decide +kernel, by decide +kernel⟩
abbrev mX0_having : MD := (yX0_having, cX0_having, 5, (some .int))
theorem co_X0_having : CO mX0_having 2 := ⟨TB_in (List.mem_of_getElem? (i := 288) (by decide +kernel)) (by decide +kernel), TB_in (List.mem_of_getElem? (i := 38) (by decide +kernel)) (by decide +kernel), by decide +kernel, by decide +kernel⟩
abbrev mX6_next : MD := (yX6_next, cX6_next, 5, (some .int))
theorem co_X6_next : CO mX6_next 3 := ⟨TB_in (List.mem_of_getElem? (i := 293) (by decide +kernel)) (by decide +kernel), TB_in (List.mem_of_getElem? (i := 35) (by decide +kernel)) (by decide +kernel), by decide +kernel, by decide +kernel⟩
abbrev mX6_meet : MD := (yX6_meet, cX6_meet, 6, (some .int))
theorem co_X6_meet : CO mX6_meet 3 := ⟨TB_in (List.mem_of_getElem? (i := 297) (by decide +kernel)) (by decide +kernel), TB_in (List.mem_of_getElem? (i := 35) (by decide +kernel)) (by decide +kernel), by decide +kernel, by decide +kernel⟩
abbrev mX6_isSetOfThere : MD := (yX6_isSetOfThere, cX6_isSetOfThere, 2, (some .boolean))
theorem co_X6_isSetOfThere : CO mX6_isSetOfThere 1 := ⟨TB_in (List.mem_of_getElem? (i := 301) (by decide +kernel)) (by decide +kernel), TB_in (List.mem_of_getElem? (i := 35) (by decide +kernel)) (by decide +kernel), by decide +kernel, by decide +kernel⟩
abbrev mX0_commonDay : MD := (yX0_commonDay, cX0_commonDay, 6, (some .int))
theorem co_X0_commonDay : CO mX0_commonDay 2 := ⟨TB_in (List.mem_of_getElem? (i := 305) (by decide +kernel)) (by decide +kernel), TB_in (List.mem_of_getElem? (i := 38) (by decide +kernel)) (by decide +kernel), by decide +kernel, by decide +kernel⟩
abbrev mX6_shared : MD := (yX6_shared, cX6_shared, 3, (some .int))
theorem co_X6_shared : CO mX6_shared 2 := ⟨TB_in (List.mem_of_getElem? (i := 309) (by decide +kernel)) (by decide +kernel), TB_in (List.mem_of_getElem? (i := 35) (by decide +kernel)) (by decide +kernel), by decide +kernel, by decide +kernel⟩
abbrev mX6_areTwoThere : MD := (yX6_areTwoThere, cX6_areTwoThere, 3, (some .boolean))
theorem co_X6_areTwoThere : CO mX6_areTwoThere 2 := ⟨TB_in (List.mem_of_getElem? (i := 313) (by decide +kernel)) (by decide +kernel), TB_in (List.mem_of_getElem? (i := 35) (by decide +kernel)) (by decide +kernel), by decide +kernel, by decide +kernel⟩
abbrev mX0_sharedDates : MD := (yX0_sharedDates, cX0_sharedDates, 6, (some .int))
theorem co_X0_sharedDates : CO mX0_sharedDates 3 := ⟨TB_in (List.mem_of_getElem? (i := 317) (by decide +kernel)) (by decide +kernel), TB_in (List.mem_of_getElem? (i := 38) (by decide +kernel)) (by decide +kernel), by decide +kernel, by decide +kernel⟩
abbrev mX0_share : MD := (yX0_share, cX0_share, 4, (some .boolean))
theorem co_X0_share : CO mX0_share 3 := ⟨TB_in (List.mem_of_getElem? (i := 321) (by decide +kernel)) (by decide +kernel), TB_in (List.mem_of_getElem? (i := 38) (by decide +kernel)) (by decide +kernel), by decide +kernel, by decide +kernel⟩
abbrev mX6_never : MD := (yX6_never, cX6_never, 2, (some .int))
theorem co_X6_never : CO mX6_never 1 := ⟨TB_in (List.mem_of_getElem? (i := 325) (by decide +kernel)) (by decide +kernel), TB_in (List.mem_of_getElem? (i := 35) (by decide +kernel)) (by decide +kernel), by decide +kernel, by decide +kernel⟩
abbrev mX6_pairs : MD := (yX6_pairs, cX6_pairs, 6, (some .int))
theorem co_X6_pairs : CO mX6_pairs 2 := ⟨TB_in (List.mem_of_getElem? (i := 329) (by decide +kernel)) (by decide +kernel), TB_in (List.mem_of_getElem? (i := 35) (by decide +kernel)) (by decide +kernel), by decide +kernel, by decide +kernel⟩
abbrev mX6_isPair : MD := (yX6_isPair, cX6_isPair, 4, (some .boolean))
theorem co_X6_isPair : CO mX6_isPair 3 := ⟨TB_in (List.mem_of_getElem? (i := 333) (by decide +kernel)) (by decide +kernel), TB_in (List.mem_of_getElem? (i := 35) (by decide +kernel)) (by decide +kernel), by decide +kernel, by decide +kernel⟩
abbrev mX0_areTwins : MD := (yX0_areTwins, cX0_areTwins, 3, (some .boolean))
theorem co_X0_areTwins : CO mX0_areTwins 2 := ⟨TB_in (List.mem_of_getElem? (i := 337) (by decide +kernel)) (by decide +kernel), TB_in (List.mem_of_getElem? (i := 38) (by decide +kernel)) (by decide +kernel), by decide +kernel, by decide +kernel⟩
abbrev mX0_isDelayed : MD := (yX0_isDelayed, cX0_isDelayed, 5, (some .boolean))
theorem co_X0_isDelayed : CO mX0_isDelayed 3 := ⟨TB_in (List.mem_of_getElem? (i := 341) (by decide +kernel)) (by decide +kernel), TB_in (List.mem_of_getElem? (i := 38) (by decide +kernel)) (by decide +kernel), by decide +kernel, by decide +kernel⟩
abbrev mX0_everShare : MD := (yX0_everShare, cX0_everShare, 4, (some .boolean))
theorem co_X0_everShare : CO mX0_everShare 2 := ⟨TB_in (List.mem_of_getElem? (i := 345) (by decide +kernel)) (by decide +kernel), TB_in (List.mem_of_getElem? (i := 38) (by decide +kernel)) (by decide +kernel), by decide +kernel, by decide +kernel⟩
abbrev mX6_market : MD := (yX6_market, cX6_market, 4, (some .int))
theorem co_X6_market : CO mX6_market 3 := ⟨TB_in (List.mem_of_getElem? (i := 349) (by decide +kernel)) (by decide +kernel), TB_in (List.mem_of_getElem? (i := 35) (by decide +kernel)) (by decide +kernel), by decide +kernel, by decide +kernel⟩
abbrev mX6_countMarkets : MD := (yX6_countMarkets, cX6_countMarkets, 5, (some .int))
theorem co_X6_countMarkets : CO mX6_countMarkets 2 := ⟨TB_in (List.mem_of_getElem? (i := 353) (by decide +kernel)) (by decide +kernel), TB_in (List.mem_of_getElem? (i := 35) (by decide +kernel)) (by decide +kernel), by decide +kernel, by decide +kernel⟩
abbrev mX6_isMarket : MD := (yX6_isMarket, cX6_isMarket, 4, (some .boolean))
theorem co_X6_isMarket : CO mX6_isMarket 3 := ⟨TB_in (List.mem_of_getElem? (i := 357) (by decide +kernel)) (by decide +kernel), TB_in (List.mem_of_getElem? (i := 35) (by decide +kernel)) (by decide +kernel), by decide +kernel, by decide +kernel⟩
abbrev mX6_firstMarket : MD := (yX6_firstMarket, cX6_firstMarket, 4, (some .int))
theorem co_X6_firstMarket : CO mX6_firstMarket 2 := ⟨TB_in (List.mem_of_getElem? (i := 361) (by decide +kernel)) (by decide +kernel), TB_in (List.mem_of_getElem? (i := 35) (by decide +kernel)) (by decide +kernel), by decide +kernel, by decide +kernel⟩
abbrev mX6_longestWithoutMarket : MD := (yX6_longestWithoutMarket, cX6_longestWithoutMarket, 7, (some .int))
theorem co_X6_longestWithoutMarket : CO mX6_longestWithoutMarket 2 := ⟨TB_in (List.mem_of_getElem? (i := 365) (by decide +kernel)) (by decide +kernel), TB_in (List.mem_of_getElem? (i := 35) (by decide +kernel)) (by decide +kernel), by decide +kernel, by decide +kernel⟩
abbrev mJ9_max_7cf53 : MD := (yJ9_max_7cf53, cJ9_max_7cf53, 2, (some .int))
theorem co_J9_max_7cf53 : CO mJ9_max_7cf53 2 := ⟨TB_in (List.mem_of_getElem? (i := 368) (by decide +kernel)) (by decide +kernel), TB_in (List.mem_of_getElem? (i := 44) (by decide +kernel)) (by decide +kernel), by decide +kernel, by decide +kernel⟩
abbrev mX6_can : MD := (yX6_can, cX6_can, 3, (some .int))
theorem co_X6_can : CO mX6_can 2 := ⟨TB_in (List.mem_of_getElem? (i := 372) (by decide +kernel)) (by decide +kernel), TB_in (List.mem_of_getElem? (i := 35) (by decide +kernel)) (by decide +kernel), by decide +kernel, by decide +kernel⟩
abbrev mX1_isDoable : MD := (yX1_isDoable, cX1_isDoable, 3, (some .boolean))
theorem co_X1_isDoable : CO mX1_isDoable 2 := ⟨TB_in (List.mem_of_getElem? (i := 376) (by decide +kernel)) (by decide +kernel), TB_in (List.mem_of_getElem? (i := 37) (by decide +kernel)) (by decide +kernel), by decide +kernel, by decide +kernel⟩
abbrev mX4_peopleOf : MD := (yX4_peopleOf, cX4_peopleOf, 2, (some .int))
theorem co_X4_peopleOf : CO mX4_peopleOf 1 := ⟨TB_in (List.mem_of_getElem? (i := 380) (by decide +kernel)) (by decide +kernel), TB_in (List.mem_of_getElem? (i := 39) (by decide +kernel)) (by decide +kernel), by decide +kernel, by decide +kernel⟩
abbrev mX4_dayOf : MD := (yX4_dayOf, cX4_dayOf, 2, (some .int))
theorem co_X4_dayOf : CO mX4_dayOf 1 := ⟨TB_in (List.mem_of_getElem? (i := 384) (by decide +kernel)) (by decide +kernel), TB_in (List.mem_of_getElem? (i := 39) (by decide +kernel)) (by decide +kernel), by decide +kernel, by decide +kernel⟩
abbrev mX0_allHave : MD := (yX0_allHave, cX0_allHave, 5, (some .boolean))
theorem co_X0_allHave : CO mX0_allHave 3 := ⟨TB_in (List.mem_of_getElem? (i := 388) (by decide +kernel)) (by decide +kernel), TB_in (List.mem_of_getElem? (i := 38) (by decide +kernel)) (by decide +kernel), by decide +kernel, by decide +kernel⟩
abbrev mX6_month : MD := (yX6_month, cX6_month, 3, (some .int))
theorem co_X6_month : CO mX6_month 2 := ⟨TB_in (List.mem_of_getElem? (i := 392) (by decide +kernel)) (by decide +kernel), TB_in (List.mem_of_getElem? (i := 35) (by decide +kernel)) (by decide +kernel), by decide +kernel, by decide +kernel⟩
abbrev mX2_settle : MD := (yX2_settle, cX2_settle, 4, none)
theorem co_X2_settle : CO mX2_settle 2 := ⟨TB_in (List.mem_of_getElem? (i := 396) (by decide +kernel)) (by decide +kernel), TB_in (List.mem_of_getElem? (i := 41) (by decide +kernel)) (by decide +kernel), by decide +kernel, by decide +kernel⟩
abbrev mJ9_min_7cf53 : MD := (yJ9_min_7cf53, cJ9_min_7cf53, 2, (some .int))
theorem co_J9_min_7cf53 : CO mJ9_min_7cf53 2 := ⟨TB_in (List.mem_of_getElem? (i := 399) (by decide +kernel)) (by decide +kernel), TB_in (List.mem_of_getElem? (i := 44) (by decide +kernel)) (by decide +kernel), by decide +kernel, by decide +kernel⟩
abbrev mX2_collect : MD := (yX2_collect, cX2_collect, 6, none)
theorem co_X2_collect : CO mX2_collect 3 := ⟨TB_in (List.mem_of_getElem? (i := 404) (by decide +kernel)) (by decide +kernel), TB_in (List.mem_of_getElem? (i := 41) (by decide +kernel)) (by decide +kernel), by decide +kernel, by decide +kernel⟩
abbrev mX2_search : MD := (yX2_search, cX2_search, 5, none)
theorem co_X2_search : CO mX2_search 3 := ⟨TB_in (List.mem_of_getElem? (i := 408) (by decide +kernel)) (by decide +kernel), TB_in (List.mem_of_getElem? (i := 41) (by decide +kernel)) (by decide +kernel), by decide +kernel, by decide +kernel⟩
abbrev mX2_keep : MD := (yX2_keep, cX2_keep, 2, none)
theorem co_X2_keep : CO mX2_keep 1 := ⟨TB_in (List.mem_of_getElem? (i := 413) (by decide +kernel)) (by decide +kernel), TB_in (List.mem_of_getElem? (i := 41) (by decide +kernel)) (by decide +kernel), by decide +kernel, by decide +kernel⟩
abbrev mX2_isFree : MD := (yX2_isFree, cX2_isFree, 4, (some .boolean))
theorem co_X2_isFree : CO mX2_isFree 2 := ⟨TB_in (List.mem_of_getElem? (i := 420) (by decide +kernel)) (by decide +kernel), TB_in (List.mem_of_getElem? (i := 41) (by decide +kernel)) (by decide +kernel), by decide +kernel, by decide +kernel⟩
abbrev mX2_dateOf : MD := (yX2_dateOf, cX2_dateOf, 2, (some .int))
theorem co_X2_dateOf : CO mX2_dateOf 1 := ⟨TB_in (List.mem_of_getElem? (i := 424) (by decide +kernel)) (by decide +kernel), TB_in (List.mem_of_getElem? (i := 41) (by decide +kernel)) (by decide +kernel), by decide +kernel, by decide +kernel⟩
abbrev mX6_barred : MD := (yX6_barred, cX6_barred, 3, (some .int))
theorem co_X6_barred : CO mX6_barred 0 := ⟨TB_in (List.mem_of_getElem? (i := 428) (by decide +kernel)) (by decide +kernel), TB_in (List.mem_of_getElem? (i := 35) (by decide +kernel)) (by decide +kernel), by decide +kernel, by decide +kernel⟩
abbrev mX1_isBarred : MD := (yX1_isBarred, cX1_isBarred, 2, (some .boolean))
theorem co_X1_isBarred : CO mX1_isBarred 1 := ⟨TB_in (List.mem_of_getElem? (i := 432) (by decide +kernel)) (by decide +kernel), TB_in (List.mem_of_getElem? (i := 37) (by decide +kernel)) (by decide +kernel), by decide +kernel, by decide +kernel⟩
abbrev mX0_everAllHave : MD := (yX0_everAllHave, cX0_everAllHave, 4, (some .boolean))
theorem co_X0_everAllHave : CO mX0_everAllHave 2 := ⟨TB_in (List.mem_of_getElem? (i := 436) (by decide +kernel)) (by decide +kernel), TB_in (List.mem_of_getElem? (i := 38) (by decide +kernel)) (by decide +kernel), by decide +kernel, by decide +kernel⟩
abbrev mX6_why : MD := (yX6_why, cX6_why, 3, (some .int))
theorem co_X6_why : CO mX6_why 1 := ⟨TB_in (List.mem_of_getElem? (i := 441) (by decide +kernel)) (by decide +kernel), TB_in (List.mem_of_getElem? (i := 35) (by decide +kernel)) (by decide +kernel), by decide +kernel, by decide +kernel⟩
abbrev mX0_whyNever : MD := (yX0_whyNever, cX0_whyNever, 6, (some .int))
theorem co_X0_whyNever : CO mX0_whyNever 2 := ⟨TB_in (List.mem_of_getElem? (i := 447) (by decide +kernel)) (by decide +kernel), TB_in (List.mem_of_getElem? (i := 38) (by decide +kernel)) (by decide +kernel), by decide +kernel, by decide +kernel⟩
abbrev mX6_common : MD := (yX6_common, cX6_common, 10, (some .int))
theorem co_X6_common : CO mX6_common 3 := ⟨TB_in (List.mem_of_getElem? (i := 452) (by decide +kernel)) (by decide +kernel), TB_in (List.mem_of_getElem? (i := 35) (by decide +kernel)) (by decide +kernel), by decide +kernel, by decide +kernel⟩
abbrev mX6_wedding : MD := (yX6_wedding, cX6_wedding, 8, (some .int))
theorem co_X6_wedding : CO mX6_wedding 3 := ⟨TB_in (List.mem_of_getElem? (i := 456) (by decide +kernel)) (by decide +kernel), TB_in (List.mem_of_getElem? (i := 35) (by decide +kernel)) (by decide +kernel), by decide +kernel, by decide +kernel⟩
abbrev mX6_weddingCost : MD := (yX6_weddingCost, cX6_weddingCost, 6, (some .int))
theorem co_X6_weddingCost : CO mX6_weddingCost 3 := ⟨TB_in (List.mem_of_getElem? (i := 460) (by decide +kernel)) (by decide +kernel), TB_in (List.mem_of_getElem? (i := 35) (by decide +kernel)) (by decide +kernel), by decide +kernel, by decide +kernel⟩
abbrev mX0_cost : MD := (yX0_cost, cX0_cost, 3, (some .int))
theorem co_X0_cost : CO mX0_cost 2 := ⟨TB_in (List.mem_of_getElem? (i := 464) (by decide +kernel)) (by decide +kernel), TB_in (List.mem_of_getElem? (i := 38) (by decide +kernel)) (by decide +kernel), by decide +kernel, by decide +kernel⟩
abbrev mX6_best : MD := (yX6_best, cX6_best, 8, (some .int))
theorem co_X6_best : CO mX6_best 2 := ⟨TB_in (List.mem_of_getElem? (i := 469) (by decide +kernel)) (by decide +kernel), TB_in (List.mem_of_getElem? (i := 35) (by decide +kernel)) (by decide +kernel), by decide +kernel, by decide +kernel⟩
abbrev mX0_fewestShared : MD := (yX0_fewestShared, cX0_fewestShared, 8, (some .int))
theorem co_X0_fewestShared : CO mX0_fewestShared 3 := ⟨TB_in (List.mem_of_getElem? (i := 473) (by decide +kernel)) (by decide +kernel), TB_in (List.mem_of_getElem? (i := 38) (by decide +kernel)) (by decide +kernel), by decide +kernel, by decide +kernel⟩
abbrev mX6_bornDay : MD := (yX6_bornDay, cX6_bornDay, 5, (some .int))
theorem co_X6_bornDay : CO mX6_bornDay 4 := ⟨TB_in (List.mem_of_getElem? (i := 477) (by decide +kernel)) (by decide +kernel), TB_in (List.mem_of_getElem? (i := 35) (by decide +kernel)) (by decide +kernel), by decide +kernel, by decide +kernel⟩
abbrev mX6_feast : MD := (yX6_feast, cX6_feast, 2, (some .int))
theorem co_X6_feast : CO mX6_feast 1 := ⟨TB_in (List.mem_of_getElem? (i := 483) (by decide +kernel)) (by decide +kernel), TB_in (List.mem_of_getElem? (i := 35) (by decide +kernel)) (by decide +kernel), by decide +kernel, by decide +kernel⟩
abbrev mX0_feastOn : MD := (yX0_feastOn, cX0_feastOn, 5, (some .int))
theorem co_X0_feastOn : CO mX0_feastOn 1 := ⟨TB_in (List.mem_of_getElem? (i := 487) (by decide +kernel)) (by decide +kernel), TB_in (List.mem_of_getElem? (i := 38) (by decide +kernel)) (by decide +kernel), by decide +kernel, by decide +kernel⟩
abbrev mX6_feasts : MD := (yX6_feasts, cX6_feasts, 4, (some .int))
theorem co_X6_feasts : CO mX6_feasts 1 := ⟨TB_in (List.mem_of_getElem? (i := 491) (by decide +kernel)) (by decide +kernel), TB_in (List.mem_of_getElem? (i := 35) (by decide +kernel)) (by decide +kernel), by decide +kernel, by decide +kernel⟩
abbrev mX6_poor : MD := (yX6_poor, cX6_poor, 3, (some .int))
theorem co_X6_poor : CO mX6_poor 0 := ⟨TB_in (List.mem_of_getElem? (i := 495) (by decide +kernel)) (by decide +kernel), TB_in (List.mem_of_getElem? (i := 35) (by decide +kernel)) (by decide +kernel), by decide +kernel, by decide +kernel⟩
abbrev mX6_twins : MD := (yX6_twins, cX6_twins, 2, (some .int))
theorem co_X6_twins : CO mX6_twins 1 := ⟨TB_in (List.mem_of_getElem? (i := 499) (by decide +kernel)) (by decide +kernel), TB_in (List.mem_of_getElem? (i := 35) (by decide +kernel)) (by decide +kernel), by decide +kernel, by decide +kernel⟩
abbrev mX6_oneOrder : MD := (yX6_oneOrder, cX6_oneOrder, 3, (some .int))
theorem co_X6_oneOrder : CO mX6_oneOrder 2 := ⟨TB_in (List.mem_of_getElem? (i := 503) (by decide +kernel)) (by decide +kernel), TB_in (List.mem_of_getElem? (i := 35) (by decide +kernel)) (by decide +kernel), by decide +kernel, by decide +kernel⟩
abbrev mX0_datesApart : MD := (yX0_datesApart, cX0_datesApart, 3, (some .int))
theorem co_X0_datesApart : CO mX0_datesApart 0 := ⟨TB_in (List.mem_of_getElem? (i := 507) (by decide +kernel)) (by decide +kernel), TB_in (List.mem_of_getElem? (i := 38) (by decide +kernel)) (by decide +kernel), by decide +kernel, by decide +kernel⟩
abbrev mX0_costOfAll : MD := (yX0_costOfAll, cX0_costOfAll, 4, (some .int))
theorem co_X0_costOfAll : CO mX0_costOfAll 1 := ⟨TB_in (List.mem_of_getElem? (i := 512) (by decide +kernel)) (by decide +kernel), TB_in (List.mem_of_getElem? (i := 38) (by decide +kernel)) (by decide +kernel), by decide +kernel, by decide +kernel⟩
abbrev mX6_seen : MD := (yX6_seen, cX6_seen, 3, (some .int))
theorem co_X6_seen : CO mX6_seen 2 := ⟨TB_in (List.mem_of_getElem? (i := 517) (by decide +kernel)) (by decide +kernel), TB_in (List.mem_of_getElem? (i := 35) (by decide +kernel)) (by decide +kernel), by decide +kernel, by decide +kernel⟩
abbrev mX5_add : MD := (yX5_add, cX5_add, 3, (some .boolean))
theorem co_X5_add : CO mX5_add 2 := ⟨TB_in (List.mem_of_getElem? (i := 521) (by decide +kernel)) (by decide +kernel), TB_in (List.mem_of_getElem? (i := 40) (by decide +kernel)) (by decide +kernel), by decide +kernel, by decide +kernel⟩
abbrev mX6_forget : MD := (yX6_forget, cX6_forget, 2, (some .int))
theorem co_X6_forget : CO mX6_forget 0 := ⟨TB_in (List.mem_of_getElem? (i := 526) (by decide +kernel)) (by decide +kernel), TB_in (List.mem_of_getElem? (i := 35) (by decide +kernel)) (by decide +kernel), by decide +kernel, by decide +kernel⟩
abbrev mX6_whose : MD := (yX6_whose, cX6_whose, 5, (some .int))
theorem co_X6_whose : CO mX6_whose 1 := ⟨TB_in (List.mem_of_getElem? (i := 530) (by decide +kernel)) (by decide +kernel), TB_in (List.mem_of_getElem? (i := 35) (by decide +kernel)) (by decide +kernel), by decide +kernel, by decide +kernel⟩
abbrev mX1_fitsSights : MD := (yX1_fitsSights, cX1_fitsSights, 4, (some .boolean))
theorem co_X1_fitsSights : CO mX1_fitsSights 2 := ⟨TB_in (List.mem_of_getElem? (i := 534) (by decide +kernel)) (by decide +kernel), TB_in (List.mem_of_getElem? (i := 37) (by decide +kernel)) (by decide +kernel), by decide +kernel, by decide +kernel⟩
abbrev mX5_dateOf : MD := (yX5_dateOf, cX5_dateOf, 2, (some .int))
theorem co_X5_dateOf : CO mX5_dateOf 1 := ⟨TB_in (List.mem_of_getElem? (i := 539) (by decide +kernel)) (by decide +kernel), TB_in (List.mem_of_getElem? (i := 40) (by decide +kernel)) (by decide +kernel), by decide +kernel, by decide +kernel⟩
abbrev mX5_wasShut : MD := (yX5_wasShut, cX5_wasShut, 2, (some .boolean))
theorem co_X5_wasShut : CO mX5_wasShut 1 := ⟨TB_in (List.mem_of_getElem? (i := 544) (by decide +kernel)) (by decide +kernel), TB_in (List.mem_of_getElem? (i := 40) (by decide +kernel)) (by decide +kernel), by decide +kernel, by decide +kernel⟩
abbrev mX6_sure : MD := (yX6_sure, cX6_sure, 6, (some .int))
theorem co_X6_sure : CO mX6_sure 1 := ⟨TB_in (List.mem_of_getElem? (i := 548) (by decide +kernel)) (by decide +kernel), TB_in (List.mem_of_getElem? (i := 35) (by decide +kernel)) (by decide +kernel), by decide +kernel, by decide +kernel⟩
abbrev mX6_chance : MD := (yX6_chance, cX6_chance, 4, (some .long))
theorem co_X6_chance : CO mX6_chance 3 := ⟨TB_in (List.mem_of_getElem? (i := 552) (by decide +kernel)) (by decide +kernel), TB_in (List.mem_of_getElem? (i := 35) (by decide +kernel)) (by decide +kernel), by decide +kernel, by decide +kernel⟩
abbrev mX6_chanceOfDay : MD := (yX6_chanceOfDay, cX6_chanceOfDay, 8, (some .long))
theorem co_X6_chanceOfDay : CO mX6_chanceOfDay 3 := ⟨TB_in (List.mem_of_getElem? (i := 557) (by decide +kernel)) (by decide +kernel), TB_in (List.mem_of_getElem? (i := 35) (by decide +kernel)) (by decide +kernel), by decide +kernel, by decide +kernel⟩
abbrev mX6_greatestFactor : MD := (yX6_greatestFactor, cX6_greatestFactor, 3, (some .int))
theorem co_X6_greatestFactor : CO mX6_greatestFactor 2 := ⟨TB_in (List.mem_of_getElem? (i := 561) (by decide +kernel)) (by decide +kernel), TB_in (List.mem_of_getElem? (i := 35) (by decide +kernel)) (by decide +kernel), by decide +kernel, by decide +kernel⟩
abbrev mX6_shares : MD := (yX6_shares, cX6_shares, 4, (some .long))
theorem co_X6_shares : CO mX6_shares 3 := ⟨TB_in (List.mem_of_getElem? (i := 565) (by decide +kernel)) (by decide +kernel), TB_in (List.mem_of_getElem? (i := 35) (by decide +kernel)) (by decide +kernel), by decide +kernel, by decide +kernel⟩
abbrev mX6_year : MD := (yX6_year, cX6_year, 12, (some .int))
theorem co_X6_year : CO mX6_year 3 := ⟨TB_in (List.mem_of_getElem? (i := 569) (by decide +kernel)) (by decide +kernel), TB_in (List.mem_of_getElem? (i := 35) (by decide +kernel)) (by decide +kernel), by decide +kernel, by decide +kernel⟩
abbrev mX6_image : MD := (yX6_image, cX6_image, 3, (some .int))
theorem co_X6_image : CO mX6_image 1 := ⟨TB_in (List.mem_of_getElem? (i := 575) (by decide +kernel)) (by decide +kernel), TB_in (List.mem_of_getElem? (i := 35) (by decide +kernel)) (by decide +kernel), by decide +kernel, by decide +kernel⟩
abbrev mX1_become : MD := (yX1_become, cX1_become, 2, none)
theorem co_X1_become : CO mX1_become 1 := ⟨TB_in (List.mem_of_getElem? (i := 579) (by decide +kernel)) (by decide +kernel), TB_in (List.mem_of_getElem? (i := 37) (by decide +kernel)) (by decide +kernel), by decide +kernel, by decide +kernel⟩
abbrev mX0_become : MD := (yX0_become, cX0_become, 2, none)
theorem co_X0_become : CO mX0_become 1 := ⟨TB_in (List.mem_of_getElem? (i := 583) (by decide +kernel)) (by decide +kernel), TB_in (List.mem_of_getElem? (i := 38) (by decide +kernel)) (by decide +kernel), by decide +kernel, by decide +kernel⟩
abbrev mX4_become : MD := (yX4_become, cX4_become, 2, none)
theorem co_X4_become : CO mX4_become 1 := ⟨TB_in (List.mem_of_getElem? (i := 588) (by decide +kernel)) (by decide +kernel), TB_in (List.mem_of_getElem? (i := 39) (by decide +kernel)) (by decide +kernel), by decide +kernel, by decide +kernel⟩
abbrev mX5_become : MD := (yX5_become, cX5_become, 2, none)
theorem co_X5_become : CO mX5_become 1 := ⟨TB_in (List.mem_of_getElem? (i := 593) (by decide +kernel)) (by decide +kernel), TB_in (List.mem_of_getElem? (i := 40) (by decide +kernel)) (by decide +kernel), by decide +kernel, by decide +kernel⟩
abbrev mX6_restore : MD := (yX6_restore, cX6_restore, 3, (some .int))
theorem co_X6_restore : CO mX6_restore 1 := ⟨TB_in (List.mem_of_getElem? (i := 598) (by decide +kernel)) (by decide +kernel), TB_in (List.mem_of_getElem? (i := 35) (by decide +kernel)) (by decide +kernel), by decide +kernel, by decide +kernel⟩
abbrev mX6_told : MD := (yX6_told, cX6_told, 2, (some .int))
theorem co_X6_told : CO mX6_told 1 := ⟨TB_in (List.mem_of_getElem? (i := 602) (by decide +kernel)) (by decide +kernel), TB_in (List.mem_of_getElem? (i := 35) (by decide +kernel)) (by decide +kernel), by decide +kernel, by decide +kernel⟩
abbrev mX6_toldOfPerson : MD := (yX6_toldOfPerson, cX6_toldOfPerson, 5, (some .int))
theorem co_X6_toldOfPerson : CO mX6_toldOfPerson 1 := ⟨TB_in (List.mem_of_getElem? (i := 606) (by decide +kernel)) (by decide +kernel), TB_in (List.mem_of_getElem? (i := 35) (by decide +kernel)) (by decide +kernel), by decide +kernel, by decide +kernel⟩
abbrev mX0_birthOf : MD := (yX0_birthOf, cX0_birthOf, 2, (some .int))
theorem co_X0_birthOf : CO mX0_birthOf 1 := ⟨TB_in (List.mem_of_getElem? (i := 610) (by decide +kernel)) (by decide +kernel), TB_in (List.mem_of_getElem? (i := 38) (by decide +kernel)) (by decide +kernel), by decide +kernel, by decide +kernel⟩
abbrev mX0_sizeOf : MD := (yX0_sizeOf, cX0_sizeOf, 2, (some .int))
theorem co_X0_sizeOf : CO mX0_sizeOf 1 := ⟨TB_in (List.mem_of_getElem? (i := 614) (by decide +kernel)) (by decide +kernel), TB_in (List.mem_of_getElem? (i := 38) (by decide +kernel)) (by decide +kernel), by decide +kernel, by decide +kernel⟩
abbrev mX0_dayAt : MD := (yX0_dayAt, cX0_dayAt, 3, (some .int))
theorem co_X0_dayAt : CO mX0_dayAt 2 := ⟨TB_in (List.mem_of_getElem? (i := 618) (by decide +kernel)) (by decide +kernel), TB_in (List.mem_of_getElem? (i := 38) (by decide +kernel)) (by decide +kernel), by decide +kernel, by decide +kernel⟩
abbrev mX6_toldOfWork : MD := (yX6_toldOfWork, cX6_toldOfWork, 4, (some .int))
theorem co_X6_toldOfWork : CO mX6_toldOfWork 1 := ⟨TB_in (List.mem_of_getElem? (i := 622) (by decide +kernel)) (by decide +kernel), TB_in (List.mem_of_getElem? (i := 35) (by decide +kernel)) (by decide +kernel), by decide +kernel, by decide +kernel⟩
abbrev mX7_init : MD := (yX7_init, cX7_init, 1, none)
theorem co_X7_init : CO mX7_init 0 := ⟨TB_in (List.mem_of_getElem? (i := 627) (by decide +kernel)) (by decide +kernel), TB_in (List.mem_of_getElem? (i := 42) (by decide +kernel)) (by decide +kernel), by decide +kernel, by decide +kernel⟩
abbrev mX7_say : MD := (yX7_say, cX7_say, 2, (some .int))
theorem co_X7_say : CO mX7_say 1 := ⟨TB_in (List.mem_of_getElem? (i := 676) (by decide +kernel)) (by decide +kernel), TB_in (List.mem_of_getElem? (i := 42) (by decide +kernel)) (by decide +kernel), by decide +kernel, by decide +kernel⟩
abbrev mX7_in : MD := (yX7_in, cX7_in, 3, (some .boolean))
theorem co_X7_in : CO mX7_in 3 := ⟨TB_in (List.mem_of_getElem? (i := 679) (by decide +kernel)) (by decide +kernel), TB_in (List.mem_of_getElem? (i := 42) (by decide +kernel)) (by decide +kernel), by decide +kernel, by decide +kernel⟩
abbrev mX7_wipe : MD := (yX7_wipe, cX7_wipe, 2, (some .int))
theorem co_X7_wipe : CO mX7_wipe 0 := ⟨TB_in (List.mem_of_getElem? (i := 683) (by decide +kernel)) (by decide +kernel), TB_in (List.mem_of_getElem? (i := 42) (by decide +kernel)) (by decide +kernel), by decide +kernel, by decide +kernel⟩
abbrev mX7_fault : MD := (yX7_fault, cX7_fault, 2, (some .int))
theorem co_X7_fault : CO mX7_fault 1 := ⟨TB_in (List.mem_of_getElem? (i := 687) (by decide +kernel)) (by decide +kernel), TB_in (List.mem_of_getElem? (i := 42) (by decide +kernel)) (by decide +kernel), by decide +kernel, by decide +kernel⟩
abbrev mX7_orderFault : MD := (yX7_orderFault, cX7_orderFault, 4, (some .int))
theorem co_X7_orderFault : CO mX7_orderFault 0 := ⟨TB_in (List.mem_of_getElem? (i := 691) (by decide +kernel)) (by decide +kernel), TB_in (List.mem_of_getElem? (i := 42) (by decide +kernel)) (by decide +kernel), by decide +kernel, by decide +kernel⟩
abbrev mX7_isDay : MD := (yX7_isDay, cX7_isDay, 1, (some .boolean))
theorem co_X7_isDay : CO mX7_isDay 1 := ⟨TB_in (List.mem_of_getElem? (i := 694) (by decide +kernel)) (by decide +kernel), TB_in (List.mem_of_getElem? (i := 42) (by decide +kernel)) (by decide +kernel), by decide +kernel, by decide +kernel⟩
abbrev mX7_has : MD := (yX7_has, cX7_has, 2, (some .boolean))
theorem co_X7_has : CO mX7_has 2 := ⟨TB_in (List.mem_of_getElem? (i := 697) (by decide +kernel)) (by decide +kernel), TB_in (List.mem_of_getElem? (i := 42) (by decide +kernel)) (by decide +kernel), by decide +kernel, by decide +kernel⟩
abbrev mX7_planFault : MD := (yX7_planFault, cX7_planFault, 6, (some .int))
theorem co_X7_planFault : CO mX7_planFault 0 := ⟨TB_in (List.mem_of_getElem? (i := 701) (by decide +kernel)) (by decide +kernel), TB_in (List.mem_of_getElem? (i := 42) (by decide +kernel)) (by decide +kernel), by decide +kernel, by decide +kernel⟩
abbrev mX7_born : MD := (yX7_born, cX7_born, 4, (some .int))
theorem co_X7_born : CO mX7_born 2 := ⟨TB_in (List.mem_of_getElem? (i := 705) (by decide +kernel)) (by decide +kernel), TB_in (List.mem_of_getElem? (i := 42) (by decide +kernel)) (by decide +kernel), by decide +kernel, by decide +kernel⟩
abbrev mX7_exile : MD := (yX7_exile, cX7_exile, 2, (some .int))
theorem co_X7_exile : CO mX7_exile 1 := ⟨TB_in (List.mem_of_getElem? (i := 709) (by decide +kernel)) (by decide +kernel), TB_in (List.mem_of_getElem? (i := 42) (by decide +kernel)) (by decide +kernel), by decide +kernel, by decide +kernel⟩
abbrev mX7_isThere : MD := (yX7_isThere, cX7_isThere, 2, (some .boolean))
theorem co_X7_isThere : CO mX7_isThere 1 := ⟨TB_in (List.mem_of_getElem? (i := 713) (by decide +kernel)) (by decide +kernel), TB_in (List.mem_of_getElem? (i := 42) (by decide +kernel)) (by decide +kernel), by decide +kernel, by decide +kernel⟩
abbrev mX7_bits : MD := (yX7_bits, cX7_bits, 3, (some .int))
theorem co_X7_bits : CO mX7_bits 1 := ⟨TB_in (List.mem_of_getElem? (i := 716) (by decide +kernel)) (by decide +kernel), TB_in (List.mem_of_getElem? (i := 42) (by decide +kernel)) (by decide +kernel), by decide +kernel, by decide +kernel⟩
abbrev mX7_plan : MD := (yX7_plan, cX7_plan, 3, (some .int))
theorem co_X7_plan : CO mX7_plan 0 := ⟨TB_in (List.mem_of_getElem? (i := 720) (by decide +kernel)) (by decide +kernel), TB_in (List.mem_of_getElem? (i := 42) (by decide +kernel)) (by decide +kernel), by decide +kernel, by decide +kernel⟩
abbrev mX7_today : MD := (yX7_today, cX7_today, 3, (some .int))
theorem co_X7_today : CO mX7_today 2 := ⟨TB_in (List.mem_of_getElem? (i := 724) (by decide +kernel)) (by decide +kernel), TB_in (List.mem_of_getElem? (i := 42) (by decide +kernel)) (by decide +kernel), by decide +kernel, by decide +kernel⟩
abbrev mX7_isDate : MD := (yX7_isDate, cX7_isDate, 1, (some .boolean))
theorem co_X7_isDate : CO mX7_isDate 1 := ⟨TB_in (List.mem_of_getElem? (i := 727) (by decide +kernel)) (by decide +kernel), TB_in (List.mem_of_getElem? (i := 42) (by decide +kernel)) (by decide +kernel), by decide +kernel, by decide +kernel⟩
abbrev mX7_dayOf : MD := (yX7_dayOf, cX7_dayOf, 4, (some .int))
theorem co_X7_dayOf : CO mX7_dayOf 2 := ⟨TB_in (List.mem_of_getElem? (i := 731) (by decide +kernel)) (by decide +kernel), TB_in (List.mem_of_getElem? (i := 42) (by decide +kernel)) (by decide +kernel), by decide +kernel, by decide +kernel⟩
abbrev mX7_same : MD := (yX7_same, cX7_same, 3, (some .int))
theorem co_X7_same : CO mX7_same 2 := ⟨TB_in (List.mem_of_getElem? (i := 735) (by decide +kernel)) (by decide +kernel), TB_in (List.mem_of_getElem? (i := 42) (by decide +kernel)) (by decide +kernel), by decide +kernel, by decide +kernel⟩
abbrev mX7_having : MD := (yX7_having, cX7_having, 6, (some .int))
theorem co_X7_having : CO mX7_having 3 := ⟨TB_in (List.mem_of_getElem? (i := 739) (by decide +kernel)) (by decide +kernel), TB_in (List.mem_of_getElem? (i := 42) (by decide +kernel)) (by decide +kernel), by decide +kernel, by decide +kernel⟩
abbrev mX7_next : MD := (yX7_next, cX7_next, 5, (some .int))
theorem co_X7_next : CO mX7_next 3 := ⟨TB_in (List.mem_of_getElem? (i := 743) (by decide +kernel)) (by decide +kernel), TB_in (List.mem_of_getElem? (i := 42) (by decide +kernel)) (by decide +kernel), by decide +kernel, by decide +kernel⟩
abbrev mX7_meet : MD := (yX7_meet, cX7_meet, 6, (some .int))
theorem co_X7_meet : CO mX7_meet 3 := ⟨TB_in (List.mem_of_getElem? (i := 747) (by decide +kernel)) (by decide +kernel), TB_in (List.mem_of_getElem? (i := 42) (by decide +kernel)) (by decide +kernel), by decide +kernel, by decide +kernel⟩
abbrev mX7_areThere : MD := (yX7_areThere, cX7_areThere, 2, (some .boolean))
theorem co_X7_areThere : CO mX7_areThere 1 := ⟨TB_in (List.mem_of_getElem? (i := 751) (by decide +kernel)) (by decide +kernel), TB_in (List.mem_of_getElem? (i := 42) (by decide +kernel)) (by decide +kernel), by decide +kernel, by decide +kernel⟩
abbrev mX7_oneDay : MD := (yX7_oneDay, cX7_oneDay, 5, (some .int))
theorem co_X7_oneDay : CO mX7_oneDay 2 := ⟨TB_in (List.mem_of_getElem? (i := 755) (by decide +kernel)) (by decide +kernel), TB_in (List.mem_of_getElem? (i := 42) (by decide +kernel)) (by decide +kernel), by decide +kernel, by decide +kernel⟩
abbrev mX7_shared : MD := (yX7_shared, cX7_shared, 3, (some .int))
theorem co_X7_shared : CO mX7_shared 2 := ⟨TB_in (List.mem_of_getElem? (i := 759) (by decide +kernel)) (by decide +kernel), TB_in (List.mem_of_getElem? (i := 42) (by decide +kernel)) (by decide +kernel), by decide +kernel, by decide +kernel⟩
abbrev mX7_sharedBy : MD := (yX7_sharedBy, cX7_sharedBy, 6, (some .int))
theorem co_X7_sharedBy : CO mX7_sharedBy 3 := ⟨TB_in (List.mem_of_getElem? (i := 763) (by decide +kernel)) (by decide +kernel), TB_in (List.mem_of_getElem? (i := 42) (by decide +kernel)) (by decide +kernel), by decide +kernel, by decide +kernel⟩
abbrev mX7_never : MD := (yX7_never, cX7_never, 5, (some .int))
theorem co_X7_never : CO mX7_never 1 := ⟨TB_in (List.mem_of_getElem? (i := 767) (by decide +kernel)) (by decide +kernel), TB_in (List.mem_of_getElem? (i := 42) (by decide +kernel)) (by decide +kernel), by decide +kernel, by decide +kernel⟩
abbrev mX7_market : MD := (yX7_market, cX7_market, 10, (some .int))
theorem co_X7_market : CO mX7_market 3 := ⟨TB_in (List.mem_of_getElem? (i := 771) (by decide +kernel)) (by decide +kernel), TB_in (List.mem_of_getElem? (i := 42) (by decide +kernel)) (by decide +kernel), by decide +kernel, by decide +kernel⟩
abbrev mX7_can : MD := (yX7_can, cX7_can, 3, (some .int))
theorem co_X7_can : CO mX7_can 2 := ⟨TB_in (List.mem_of_getElem? (i := 775) (by decide +kernel)) (by decide +kernel), TB_in (List.mem_of_getElem? (i := 42) (by decide +kernel)) (by decide +kernel), by decide +kernel, by decide +kernel⟩
abbrev mX7_isWork : MD := (yX7_isWork, cX7_isWork, 2, (some .boolean))
theorem co_X7_isWork : CO mX7_isWork 1 := ⟨TB_in (List.mem_of_getElem? (i := 779) (by decide +kernel)) (by decide +kernel), TB_in (List.mem_of_getElem? (i := 42) (by decide +kernel)) (by decide +kernel), by decide +kernel, by decide +kernel⟩
abbrev mX7_canBe : MD := (yX7_canBe, cX7_canBe, 3, (some .boolean))
theorem co_X7_canBe : CO mX7_canBe 2 := ⟨TB_in (List.mem_of_getElem? (i := 783) (by decide +kernel)) (by decide +kernel), TB_in (List.mem_of_getElem? (i := 42) (by decide +kernel)) (by decide +kernel), by decide +kernel, by decide +kernel⟩
abbrev mX7_month : MD := (yX7_month, cX7_month, 4, (some .int))
theorem co_X7_month : CO mX7_month 2 := ⟨TB_in (List.mem_of_getElem? (i := 787) (by decide +kernel)) (by decide +kernel), TB_in (List.mem_of_getElem? (i := 42) (by decide +kernel)) (by decide +kernel), by decide +kernel, by decide +kernel⟩
abbrev mX7_canMonth : MD := (yX7_canMonth, cX7_canMonth, 5, (some .boolean))
theorem co_X7_canMonth : CO mX7_canMonth 2 := ⟨TB_in (List.mem_of_getElem? (i := 791) (by decide +kernel)) (by decide +kernel), TB_in (List.mem_of_getElem? (i := 42) (by decide +kernel)) (by decide +kernel), by decide +kernel, by decide +kernel⟩
abbrev mX7_fitsAhead : MD := (yX7_fitsAhead, cX7_fitsAhead, 5, (some .boolean))
theorem co_X7_fitsAhead : CO mX7_fitsAhead 2 := ⟨TB_in (List.mem_of_getElem? (i := 795) (by decide +kernel)) (by decide +kernel), TB_in (List.mem_of_getElem? (i := 42) (by decide +kernel)) (by decide +kernel), by decide +kernel, by decide +kernel⟩
abbrev mX7_barred : MD := (yX7_barred, cX7_barred, 3, (some .int))
theorem co_X7_barred : CO mX7_barred 0 := ⟨TB_in (List.mem_of_getElem? (i := 799) (by decide +kernel)) (by decide +kernel), TB_in (List.mem_of_getElem? (i := 42) (by decide +kernel)) (by decide +kernel), by decide +kernel, by decide +kernel⟩
abbrev mX7_isBarred : MD := (yX7_isBarred, cX7_isBarred, 4, (some .boolean))
theorem co_X7_isBarred : CO mX7_isBarred 1 := ⟨TB_in (List.mem_of_getElem? (i := 803) (by decide +kernel)) (by decide +kernel), TB_in (List.mem_of_getElem? (i := 42) (by decide +kernel)) (by decide +kernel), by decide +kernel, by decide +kernel⟩
abbrev mX7_why : MD := (yX7_why, cX7_why, 4, (some .int))
theorem co_X7_why : CO mX7_why 1 := ⟨TB_in (List.mem_of_getElem? (i := 807) (by decide +kernel)) (by decide +kernel), TB_in (List.mem_of_getElem? (i := 42) (by decide +kernel)) (by decide +kernel), by decide +kernel, by decide +kernel⟩
abbrev mX7_haveAtOnce : MD := (yX7_haveAtOnce, cX7_haveAtOnce, 5, (some .boolean))
theorem co_X7_haveAtOnce : CO mX7_haveAtOnce 2 := ⟨TB_in (List.mem_of_getElem? (i := 811) (by decide +kernel)) (by decide +kernel), TB_in (List.mem_of_getElem? (i := 42) (by decide +kernel)) (by decide +kernel), by decide +kernel, by decide +kernel⟩
abbrev mX7_common : MD := (yX7_common, cX7_common, 10, (some .int))
theorem co_X7_common : CO mX7_common 3 := ⟨TB_in (List.mem_of_getElem? (i := 815) (by decide +kernel)) (by decide +kernel), TB_in (List.mem_of_getElem? (i := 42) (by decide +kernel)) (by decide +kernel), by decide +kernel, by decide +kernel⟩
abbrev mX7_wedding : MD := (yX7_wedding, cX7_wedding, 10, (some .int))
theorem co_X7_wedding : CO mX7_wedding 3 := ⟨TB_in (List.mem_of_getElem? (i := 820) (by decide +kernel)) (by decide +kernel), TB_in (List.mem_of_getElem? (i := 42) (by decide +kernel)) (by decide +kernel), by decide +kernel, by decide +kernel⟩
abbrev mX7_costOf : MD := (yX7_costOf, cX7_costOf, 3, (some .int))
theorem co_X7_costOf : CO mX7_costOf 2 := ⟨TB_in (List.mem_of_getElem? (i := 824) (by decide +kernel)) (by decide +kernel), TB_in (List.mem_of_getElem? (i := 42) (by decide +kernel)) (by decide +kernel), by decide +kernel, by decide +kernel⟩
abbrev mX7_best : MD := (yX7_best, cX7_best, 10, (some .int))
theorem co_X7_best : CO mX7_best 2 := ⟨TB_in (List.mem_of_getElem? (i := 828) (by decide +kernel)) (by decide +kernel), TB_in (List.mem_of_getElem? (i := 42) (by decide +kernel)) (by decide +kernel), by decide +kernel, by decide +kernel⟩
abbrev mX7_turned : MD := (yX7_turned, cX7_turned, 4, (some .int))
theorem co_X7_turned : CO mX7_turned 2 := ⟨TB_in (List.mem_of_getElem? (i := 831) (by decide +kernel)) (by decide +kernel), TB_in (List.mem_of_getElem? (i := 42) (by decide +kernel)) (by decide +kernel), by decide +kernel, by decide +kernel⟩
abbrev mX7_feast : MD := (yX7_feast, cX7_feast, 2, (some .int))
theorem co_X7_feast : CO mX7_feast 1 := ⟨TB_in (List.mem_of_getElem? (i := 835) (by decide +kernel)) (by decide +kernel), TB_in (List.mem_of_getElem? (i := 42) (by decide +kernel)) (by decide +kernel), by decide +kernel, by decide +kernel⟩
abbrev mX7_feastOn : MD := (yX7_feastOn, cX7_feastOn, 6, (some .int))
theorem co_X7_feastOn : CO mX7_feastOn 1 := ⟨TB_in (List.mem_of_getElem? (i := 839) (by decide +kernel)) (by decide +kernel), TB_in (List.mem_of_getElem? (i := 42) (by decide +kernel)) (by decide +kernel), by decide +kernel, by decide +kernel⟩
abbrev mX7_feasts : MD := (yX7_feasts, cX7_feasts, 4, (some .int))
theorem co_X7_feasts : CO mX7_feasts 1 := ⟨TB_in (List.mem_of_getElem? (i := 843) (by decide +kernel)) (by decide +kernel), TB_in (List.mem_of_getElem? (i := 42) (by decide +kernel)) (by decide +kernel), by decide +kernel, by decide +kernel⟩
abbrev mX7_poor : MD := (yX7_poor, cX7_poor, 4, (some .int))
theorem co_X7_poor : CO mX7_poor 0 := ⟨TB_in (List.mem_of_getElem? (i := 847) (by decide +kernel)) (by decide +kernel), TB_in (List.mem_of_getElem? (i := 42) (by decide +kernel)) (by decide +kernel), by decide +kernel, by decide +kernel⟩
abbrev mX7_twins : MD := (yX7_twins, cX7_twins, 5, (some .int))
theorem co_X7_twins : CO mX7_twins 1 := ⟨TB_in (List.mem_of_getElem? (i := 851) (by decide +kernel)) (by decide +kernel), TB_in (List.mem_of_getElem? (i := 42) (by decide +kernel)) (by decide +kernel), by decide +kernel, by decide +kernel⟩
abbrev mX7_goesWith : MD := (yX7_goesWith, cX7_goesWith, 6, (some .boolean))
theorem co_X7_goesWith : CO mX7_goesWith 3 := ⟨TB_in (List.mem_of_getElem? (i := 855) (by decide +kernel)) (by decide +kernel), TB_in (List.mem_of_getElem? (i := 42) (by decide +kernel)) (by decide +kernel), by decide +kernel, by decide +kernel⟩
abbrev mX7_oneOrder : MD := (yX7_oneOrder, cX7_oneOrder, 6, (some .int))
theorem co_X7_oneOrder : CO mX7_oneOrder 2 := ⟨TB_in (List.mem_of_getElem? (i := 859) (by decide +kernel)) (by decide +kernel), TB_in (List.mem_of_getElem? (i := 42) (by decide +kernel)) (by decide +kernel), by decide +kernel, by decide +kernel⟩
abbrev mX7_seen : MD := (yX7_seen, cX7_seen, 3, (some .int))
theorem co_X7_seen : CO mX7_seen 2 := ⟨TB_in (List.mem_of_getElem? (i := 863) (by decide +kernel)) (by decide +kernel), TB_in (List.mem_of_getElem? (i := 42) (by decide +kernel)) (by decide +kernel), by decide +kernel, by decide +kernel⟩
abbrev mX7_forget : MD := (yX7_forget, cX7_forget, 2, (some .int))
theorem co_X7_forget : CO mX7_forget 0 := ⟨TB_in (List.mem_of_getElem? (i := 867) (by decide +kernel)) (by decide +kernel), TB_in (List.mem_of_getElem? (i := 42) (by decide +kernel)) (by decide +kernel), by decide +kernel, by decide +kernel⟩
abbrev mX7_whose : MD := (yX7_whose, cX7_whose, 5, (some .int))
theorem co_X7_whose : CO mX7_whose 1 := ⟨TB_in (List.mem_of_getElem? (i := 871) (by decide +kernel)) (by decide +kernel), TB_in (List.mem_of_getElem? (i := 42) (by decide +kernel)) (by decide +kernel), by decide +kernel, by decide +kernel⟩
abbrev mX7_isWell : MD := (yX7_isWell, cX7_isWell, 5, (some .boolean))
theorem co_X7_isWell : CO mX7_isWell 2 := ⟨TB_in (List.mem_of_getElem? (i := 875) (by decide +kernel)) (by decide +kernel), TB_in (List.mem_of_getElem? (i := 42) (by decide +kernel)) (by decide +kernel), by decide +kernel, by decide +kernel⟩
abbrev mX7_sure : MD := (yX7_sure, cX7_sure, 6, (some .int))
theorem co_X7_sure : CO mX7_sure 1 := ⟨TB_in (List.mem_of_getElem? (i := 879) (by decide +kernel)) (by decide +kernel), TB_in (List.mem_of_getElem? (i := 42) (by decide +kernel)) (by decide +kernel), by decide +kernel, by decide +kernel⟩
abbrev mX7_chance : MD := (yX7_chance, cX7_chance, 4, (some .long))
theorem co_X7_chance : CO mX7_chance 3 := ⟨TB_in (List.mem_of_getElem? (i := 883) (by decide +kernel)) (by decide +kernel), TB_in (List.mem_of_getElem? (i := 42) (by decide +kernel)) (by decide +kernel), by decide +kernel, by decide +kernel⟩
abbrev mX7_newly : MD := (yX7_newly, cX7_newly, 7, (some .long))
theorem co_X7_newly : CO mX7_newly 3 := ⟨TB_in (List.mem_of_getElem? (i := 887) (by decide +kernel)) (by decide +kernel), TB_in (List.mem_of_getElem? (i := 42) (by decide +kernel)) (by decide +kernel), by decide +kernel, by decide +kernel⟩
abbrev mX7_shares : MD := (yX7_shares, cX7_shares, 4, (some .long))
theorem co_X7_shares : CO mX7_shares 3 := ⟨TB_in (List.mem_of_getElem? (i := 892) (by decide +kernel)) (by decide +kernel), TB_in (List.mem_of_getElem? (i := 42) (by decide +kernel)) (by decide +kernel), by decide +kernel, by decide +kernel⟩
abbrev mX7_year : MD := (yX7_year, cX7_year, 12, (some .int))
theorem co_X7_year : CO mX7_year 3 := ⟨TB_in (List.mem_of_getElem? (i := 896) (by decide +kernel)) (by decide +kernel), TB_in (List.mem_of_getElem? (i := 42) (by decide +kernel)) (by decide +kernel), by decide +kernel, by decide +kernel⟩
abbrev mX7_image : MD := (yX7_image, cX7_image, 4, (some .int))
theorem co_X7_image : CO mX7_image 1 := ⟨TB_in (List.mem_of_getElem? (i := 901) (by decide +kernel)) (by decide +kernel), TB_in (List.mem_of_getElem? (i := 42) (by decide +kernel)) (by decide +kernel), by decide +kernel, by decide +kernel⟩
abbrev mX7_restore : MD := (yX7_restore, cX7_restore, 4, (some .int))
theorem co_X7_restore : CO mX7_restore 1 := ⟨TB_in (List.mem_of_getElem? (i := 905) (by decide +kernel)) (by decide +kernel), TB_in (List.mem_of_getElem? (i := 42) (by decide +kernel)) (by decide +kernel), by decide +kernel, by decide +kernel⟩
abbrev mX7_told : MD := (yX7_told, cX7_told, 4, (some .int))
theorem co_X7_told : CO mX7_told 1 := ⟨TB_in (List.mem_of_getElem? (i := 909) (by decide +kernel)) (by decide +kernel), TB_in (List.mem_of_getElem? (i := 42) (by decide +kernel)) (by decide +kernel), by decide +kernel, by decide +kernel⟩
theorem se_X6_isThere : Cond.selects RX6 yX6_isThere yX6_isThere ∈ TB := TB_in (List.mem_of_getElem? (i := 0) (by decide +kernel)) (by decide +kernel)
theorem se_X6_isSetOfThere : Cond.selects RX6 yX6_isSetOfThere yX6_isSetOfThere ∈ TB := TB_in (List.mem_of_getElem? (i := 1) (by decide +kernel)) (by decide +kernel)
theorem se_X6_areTwoThere : Cond.selects RX6 yX6_areTwoThere yX6_areTwoThere ∈ TB := TB_in (List.mem_of_getElem? (i := 2) (by decide +kernel)) (by decide +kernel)
theorem se_X6_pairs : Cond.selects RX6 yX6_pairs yX6_pairs ∈ TB := TB_in (List.mem_of_getElem? (i := 3) (by decide +kernel)) (by decide +kernel)
theorem se_X6_isPair : Cond.selects RX6 yX6_isPair yX6_isPair ∈ TB := TB_in (List.mem_of_getElem? (i := 4) (by decide +kernel)) (by decide +kernel)
theorem se_X0_isDelayed : Cond.selects RX0 yX0_isDelayed yX0_isDelayed ∈ TB := TB_in (List.mem_of_getElem? (i := 5) (by decide +kernel)) (by decide +kernel)
theorem se_X6_countMarkets : Cond.selects RX6 yX6_countMarkets yX6_countMarkets ∈ TB := TB_in (List.mem_of_getElem? (i := 6) (by decide +kernel)) (by decide +kernel)
theorem se_X6_isMarket : Cond.selects RX6 yX6_isMarket yX6_isMarket ∈ TB := TB_in (List.mem_of_getElem? (i := 7) (by decide +kernel)) (by decide +kernel)
theorem se_X6_firstMarket : Cond.selects RX6 yX6_firstMarket yX6_firstMarket ∈ TB := TB_in (List.mem_of_getElem? (i := 8) (by decide +kernel)) (by decide +kernel)
theorem se_X6_longestWithoutMarket : Cond.selects RX6 yX6_longestWithoutMarket yX6_longestWithoutMarket ∈ TB := TB_in (List.mem_of_getElem? (i := 9) (by decide +kernel)) (by decide +kernel)
theorem se_X2_collect : Cond.selects RX2 yX2_collect yX2_collect ∈ TB := TB_in (List.mem_of_getElem? (i := 10) (by decide +kernel)) (by decide +kernel)
theorem se_X2_keep : Cond.selects RX2 yX2_keep yX2_keep ∈ TB := TB_in (List.mem_of_getElem? (i := 11) (by decide +kernel)) (by decide +kernel)
theorem se_X2_isFree : Cond.selects RX2 yX2_isFree yX2_isFree ∈ TB := TB_in (List.mem_of_getElem? (i := 12) (by decide +kernel)) (by decide +kernel)
theorem se_X6_weddingCost : Cond.selects RX6 yX6_weddingCost yX6_weddingCost ∈ TB := TB_in (List.mem_of_getElem? (i := 13) (by decide +kernel)) (by decide +kernel)
theorem se_X6_toldOfPerson : Cond.selects RX6 yX6_toldOfPerson yX6_toldOfPerson ∈ TB := TB_in (List.mem_of_getElem? (i := 14) (by decide +kernel)) (by decide +kernel)
theorem se_X6_toldOfWork : Cond.selects RX6 yX6_toldOfWork yX6_toldOfWork ∈ TB := TB_in (List.mem_of_getElem? (i := 15) (by decide +kernel)) (by decide +kernel)
theorem se_X7_orderFault : Cond.selects RX7 yX7_orderFault yX7_orderFault ∈ TB := TB_in (List.mem_of_getElem? (i := 16) (by decide +kernel)) (by decide +kernel)
theorem se_X7_planFault : Cond.selects RX7 yX7_planFault yX7_planFault ∈ TB := TB_in (List.mem_of_getElem? (i := 17) (by decide +kernel)) (by decide +kernel)
theorem se_X7_isThere : Cond.selects RX7 yX7_isThere yX7_isThere ∈ TB := TB_in (List.mem_of_getElem? (i := 18) (by decide +kernel)) (by decide +kernel)
theorem se_X7_dayOf : Cond.selects RX7 yX7_dayOf yX7_dayOf ∈ TB := TB_in (List.mem_of_getElem? (i := 19) (by decide +kernel)) (by decide +kernel)
theorem se_X7_having : Cond.selects RX7 yX7_having yX7_having ∈ TB := TB_in (List.mem_of_getElem? (i := 20) (by decide +kernel)) (by decide +kernel)
theorem se_X7_areThere : Cond.selects RX7 yX7_areThere yX7_areThere ∈ TB := TB_in (List.mem_of_getElem? (i := 21) (by decide +kernel)) (by decide +kernel)
theorem se_X7_oneDay : Cond.selects RX7 yX7_oneDay yX7_oneDay ∈ TB := TB_in (List.mem_of_getElem? (i := 22) (by decide +kernel)) (by decide +kernel)
theorem se_X7_sharedBy : Cond.selects RX7 yX7_sharedBy yX7_sharedBy ∈ TB := TB_in (List.mem_of_getElem? (i := 23) (by decide +kernel)) (by decide +kernel)
theorem se_X7_isWork : Cond.selects RX7 yX7_isWork yX7_isWork ∈ TB := TB_in (List.mem_of_getElem? (i := 24) (by decide +kernel)) (by decide +kernel)
theorem se_X7_canBe : Cond.selects RX7 yX7_canBe yX7_canBe ∈ TB := TB_in (List.mem_of_getElem? (i := 25) (by decide +kernel)) (by decide +kernel)
theorem se_X7_canMonth : Cond.selects RX7 yX7_canMonth yX7_canMonth ∈ TB := TB_in (List.mem_of_getElem? (i := 26) (by decide +kernel)) (by decide +kernel)
theorem se_X7_fitsAhead : Cond.selects RX7 yX7_fitsAhead yX7_fitsAhead ∈ TB := TB_in (List.mem_of_getElem? (i := 27) (by decide +kernel)) (by decide +kernel)
theorem se_X7_isBarred : Cond.selects RX7 yX7_isBarred yX7_isBarred ∈ TB := TB_in (List.mem_of_getElem? (i := 28) (by decide +kernel)) (by decide +kernel)
theorem se_X7_haveAtOnce : Cond.selects RX7 yX7_haveAtOnce yX7_haveAtOnce ∈ TB := TB_in (List.mem_of_getElem? (i := 29) (by decide +kernel)) (by decide +kernel)
theorem se_X7_costOf : Cond.selects RX7 yX7_costOf yX7_costOf ∈ TB := TB_in (List.mem_of_getElem? (i := 30) (by decide +kernel)) (by decide +kernel)
theorem se_X7_feastOn : Cond.selects RX7 yX7_feastOn yX7_feastOn ∈ TB := TB_in (List.mem_of_getElem? (i := 31) (by decide +kernel)) (by decide +kernel)
theorem se_X7_goesWith : Cond.selects RX7 yX7_goesWith yX7_goesWith ∈ TB := TB_in (List.mem_of_getElem? (i := 32) (by decide +kernel)) (by decide +kernel)
theorem se_X7_isWell : Cond.selects RX7 yX7_isWell yX7_isWell ∈ TB := TB_in (List.mem_of_getElem? (i := 33) (by decide +kernel)) (by decide +kernel)
theorem in_SYS : Cond.initialized "java/lang/System" ∈ TB := TB_in (List.mem_of_getElem? (i := 45) (by decide +kernel)) (by decide +kernel)
theorem cl_L_7 : Cond.classLink RL 7 RX6 ∈ TB := TB_in (List.mem_of_getElem? (i := 46) (by decide +kernel)) (by decide +kernel)
theorem fn_L_7 : FN RL 7 6 4 tyX6 := ⟨RX6, TX6, rfl, in_X6, tyX6_ok, TB_in (List.mem_of_getElem? (i := 46) (by decide +kernel)) (by decide +kernel), TB_in (List.mem_of_getElem? (i := 47) (by decide +kernel)) (by decide +kernel), TB_in (List.mem_of_getElem? (i := 35) (by decide +kernel)) (by decide +kernel)⟩
theorem ml_L_9 : Cond.methodLink RL 9 yX6_init ∈ TB := TB_in (List.mem_of_getElem? (i := 48) (by decide +kernel)) (by decide +kernel)
theorem im_X6_init : Cond.instanceMethod yX6_init ∈ TB := TB_in (List.mem_of_getElem? (i := 49) (by decide +kernel)) (by decide +kernel)
theorem ml_X6_1 : Cond.methodLink RX6 1 objectInit ∈ TB := TB_in (List.mem_of_getElem? (i := 51) (by decide +kernel)) (by decide +kernel)
theorem im_OBJ : Cond.instanceMethod objectInit ∈ TB := TB_in (List.mem_of_getElem? (i := 52) (by decide +kernel)) (by decide +kernel)
theorem cd_OBJ : Cond.code objectInit ⟨#[0xb1]⟩ 1 none ∈ TB := TB_in (List.mem_of_getElem? (i := 53) (by decide +kernel)) (by decide +kernel)
theorem cl_X6_7 : Cond.classLink RX6 7 RX3 ∈ TB := TB_in (List.mem_of_getElem? (i := 54) (by decide +kernel)) (by decide +kernel)
theorem fn_X6_7 : FN RX6 7 3 2 tyX3 := ⟨RX3, TX3, rfl, in_X3, tyX3_ok, TB_in (List.mem_of_getElem? (i := 54) (by decide +kernel)) (by decide +kernel), TB_in (List.mem_of_getElem? (i := 55) (by decide +kernel)) (by decide +kernel), TB_in (List.mem_of_getElem? (i := 36) (by decide +kernel)) (by decide +kernel)⟩
theorem im_X3_init : Cond.instanceMethod yX3_init ∈ TB := TB_in (List.mem_of_getElem? (i := 57) (by decide +kernel)) (by decide +kernel)
theorem ml_X3_3 : Cond.methodLink RX3 3 objectInit ∈ TB := TB_in (List.mem_of_getElem? (i := 59) (by decide +kernel)) (by decide +kernel)
theorem fl_X3_9 : FL RX3 9 3 0 := ⟨RX3, TX3, 2, rfl, by decide, in_X3, TB_in (List.mem_of_getElem? (i := 60) (by decide +kernel)) (by decide +kernel)⟩
theorem fq_X3_9 : FPF RX3 9 3 0 (.array .int) := ⟨RX3, TX3, 2, tyX3, rfl, by decide, in_X3, TB_in (List.mem_of_getElem? (i := 60) (by decide +kernel)) (by decide +kernel), tyX3_ok, nmX3, rfl, rfl, by decide +kernel⟩
theorem fl_X3_15 : FL RX3 15 3 1 := ⟨RX3, TX3, 2, rfl, by decide, in_X3, TB_in (List.mem_of_getElem? (i := 61) (by decide +kernel)) (by decide +kernel)⟩
theorem fp_X3_15 : FP RX3 15 3 1 .int := ⟨RX3, TX3, 2, tyX3, rfl, by decide, in_X3, TB_in (List.mem_of_getElem? (i := 61) (by decide +kernel)) (by decide +kernel), tyX3_ok, nmX3, rfl, by decide +kernel⟩
theorem fl_X6_38 : FL RX6 38 3 1 := ⟨RX3, TX3, 2, rfl, by decide, in_X3, TB_in (List.mem_of_getElem? (i := 62) (by decide +kernel)) (by decide +kernel)⟩
theorem fp_X6_38 : FP RX6 38 3 1 .int := ⟨RX3, TX3, 2, tyX3, rfl, by decide, in_X3, TB_in (List.mem_of_getElem? (i := 62) (by decide +kernel)) (by decide +kernel), tyX3_ok, nmX3, rfl, by decide +kernel⟩
theorem fl_X0_38 : FL RX0 38 3 1 := ⟨RX3, TX3, 2, rfl, by decide, in_X3, TB_in (List.mem_of_getElem? (i := 63) (by decide +kernel)) (by decide +kernel)⟩
theorem fp_X0_38 : FP RX0 38 3 1 .int := ⟨RX3, TX3, 2, tyX3, rfl, by decide, in_X3, TB_in (List.mem_of_getElem? (i := 63) (by decide +kernel)) (by decide +kernel), tyX3_ok, nmX3, rfl, by decide +kernel⟩
theorem fl_X4_28 : FL RX4 28 3 1 := ⟨RX3, TX3, 2, rfl, by decide, in_X3, TB_in (List.mem_of_getElem? (i := 64) (by decide +kernel)) (by decide +kernel)⟩
theorem fp_X4_28 : FP RX4 28 3 1 .int := ⟨RX3, TX3, 2, tyX3, rfl, by decide, in_X3, TB_in (List.mem_of_getElem? (i := 64) (by decide +kernel)) (by decide +kernel), tyX3_ok, nmX3, rfl, by decide +kernel⟩
theorem ac_int : Cond.arrayClass .int ∈ TB := TB_in (List.mem_of_getElem? (i := 70) (by decide +kernel)) (by decide +kernel)
theorem cl_X6_16 : Cond.classLink RX6 16 RX1 ∈ TB := TB_in (List.mem_of_getElem? (i := 71) (by decide +kernel)) (by decide +kernel)
theorem fn_X6_16 : FN RX6 16 1 3 tyX1 := ⟨RX1, TX1, rfl, in_X1, tyX1_ok, TB_in (List.mem_of_getElem? (i := 71) (by decide +kernel)) (by decide +kernel), TB_in (List.mem_of_getElem? (i := 72) (by decide +kernel)) (by decide +kernel), TB_in (List.mem_of_getElem? (i := 37) (by decide +kernel)) (by decide +kernel)⟩
theorem im_X1_init : Cond.instanceMethod yX1_init ∈ TB := TB_in (List.mem_of_getElem? (i := 74) (by decide +kernel)) (by decide +kernel)
theorem ml_X1_1 : Cond.methodLink RX1 1 objectInit ∈ TB := TB_in (List.mem_of_getElem? (i := 76) (by decide +kernel)) (by decide +kernel)
theorem cl_X1_7 : Cond.classLink RX1 7 RX0 ∈ TB := TB_in (List.mem_of_getElem? (i := 77) (by decide +kernel)) (by decide +kernel)
theorem fn_X1_7 : FN RX1 7 0 5 tyX0 := ⟨RX0, TX0, rfl, in_X0, tyX0_ok, TB_in (List.mem_of_getElem? (i := 77) (by decide +kernel)) (by decide +kernel), TB_in (List.mem_of_getElem? (i := 78) (by decide +kernel)) (by decide +kernel), TB_in (List.mem_of_getElem? (i := 38) (by decide +kernel)) (by decide +kernel)⟩
theorem im_X0_init : Cond.instanceMethod yX0_init ∈ TB := TB_in (List.mem_of_getElem? (i := 80) (by decide +kernel)) (by decide +kernel)
theorem ml_X0_3 : Cond.methodLink RX0 3 objectInit ∈ TB := TB_in (List.mem_of_getElem? (i := 82) (by decide +kernel)) (by decide +kernel)
theorem fl_X0_24 : FL RX0 24 0 0 := ⟨RX0, TX0, 5, rfl, by decide, in_X0, TB_in (List.mem_of_getElem? (i := 83) (by decide +kernel)) (by decide +kernel)⟩
theorem fp_X0_24 : FP RX0 24 0 0 .int := ⟨RX0, TX0, 5, tyX0, rfl, by decide, in_X0, TB_in (List.mem_of_getElem? (i := 83) (by decide +kernel)) (by decide +kernel), tyX0_ok, nmX0, rfl, by decide +kernel⟩
theorem fl_X6_72 : FL RX6 72 0 0 := ⟨RX0, TX0, 5, rfl, by decide, in_X0, TB_in (List.mem_of_getElem? (i := 84) (by decide +kernel)) (by decide +kernel)⟩
theorem fp_X6_72 : FP RX6 72 0 0 .int := ⟨RX0, TX0, 5, tyX0, rfl, by decide, in_X0, TB_in (List.mem_of_getElem? (i := 84) (by decide +kernel)) (by decide +kernel), tyX0_ok, nmX0, rfl, by decide +kernel⟩
theorem fl_X0_9 : FL RX0 9 0 1 := ⟨RX0, TX0, 5, rfl, by decide, in_X0, TB_in (List.mem_of_getElem? (i := 85) (by decide +kernel)) (by decide +kernel)⟩
theorem fq_X0_9 : FPF RX0 9 0 1 (.array .int) := ⟨RX0, TX0, 5, tyX0, rfl, by decide, in_X0, TB_in (List.mem_of_getElem? (i := 85) (by decide +kernel)) (by decide +kernel), tyX0_ok, nmX0, rfl, rfl, by decide +kernel⟩
theorem fl_X0_15 : FL RX0 15 0 2 := ⟨RX0, TX0, 5, rfl, by decide, in_X0, TB_in (List.mem_of_getElem? (i := 86) (by decide +kernel)) (by decide +kernel)⟩
theorem fq_X0_15 : FPF RX0 15 0 2 (.array .int) := ⟨RX0, TX0, 5, tyX0, rfl, by decide, in_X0, TB_in (List.mem_of_getElem? (i := 86) (by decide +kernel)) (by decide +kernel), tyX0_ok, nmX0, rfl, rfl, by decide +kernel⟩
theorem fl_X0_18 : FL RX0 18 0 3 := ⟨RX0, TX0, 5, rfl, by decide, in_X0, TB_in (List.mem_of_getElem? (i := 87) (by decide +kernel)) (by decide +kernel)⟩
theorem fq_X0_18 : FPF RX0 18 0 3 (.array .int) := ⟨RX0, TX0, 5, tyX0, rfl, by decide, in_X0, TB_in (List.mem_of_getElem? (i := 87) (by decide +kernel)) (by decide +kernel), tyX0_ok, nmX0, rfl, rfl, by decide +kernel⟩
theorem fl_X0_21 : FL RX0 21 0 4 := ⟨RX0, TX0, 5, rfl, by decide, in_X0, TB_in (List.mem_of_getElem? (i := 88) (by decide +kernel)) (by decide +kernel)⟩
theorem fq_X0_21 : FPF RX0 21 0 4 (.array .int) := ⟨RX0, TX0, 5, tyX0, rfl, by decide, in_X0, TB_in (List.mem_of_getElem? (i := 88) (by decide +kernel)) (by decide +kernel), tyX0_ok, nmX0, rfl, rfl, by decide +kernel⟩
theorem cl_X1_16 : Cond.classLink RX1 16 RX4 ∈ TB := TB_in (List.mem_of_getElem? (i := 100) (by decide +kernel)) (by decide +kernel)
theorem fn_X1_16 : FN RX1 16 4 3 tyX4 := ⟨RX4, TX4, rfl, in_X4, tyX4_ok, TB_in (List.mem_of_getElem? (i := 100) (by decide +kernel)) (by decide +kernel), TB_in (List.mem_of_getElem? (i := 101) (by decide +kernel)) (by decide +kernel), TB_in (List.mem_of_getElem? (i := 39) (by decide +kernel)) (by decide +kernel)⟩
theorem im_X4_init : Cond.instanceMethod yX4_init ∈ TB := TB_in (List.mem_of_getElem? (i := 103) (by decide +kernel)) (by decide +kernel)
theorem ml_X4_3 : Cond.methodLink RX4 3 objectInit ∈ TB := TB_in (List.mem_of_getElem? (i := 105) (by decide +kernel)) (by decide +kernel)
theorem fl_X4_18 : FL RX4 18 4 0 := ⟨RX4, TX4, 3, rfl, by decide, in_X4, TB_in (List.mem_of_getElem? (i := 106) (by decide +kernel)) (by decide +kernel)⟩
theorem fp_X4_18 : FP RX4 18 4 0 .int := ⟨RX4, TX4, 3, tyX4, rfl, by decide, in_X4, TB_in (List.mem_of_getElem? (i := 106) (by decide +kernel)) (by decide +kernel), tyX4_ok, nmX4, rfl, by decide +kernel⟩
theorem fl_X2_33 : FL RX2 33 4 0 := ⟨RX4, TX4, 3, rfl, by decide, in_X4, TB_in (List.mem_of_getElem? (i := 107) (by decide +kernel)) (by decide +kernel)⟩
theorem fp_X2_33 : FP RX2 33 4 0 .int := ⟨RX4, TX4, 3, tyX4, rfl, by decide, in_X4, TB_in (List.mem_of_getElem? (i := 107) (by decide +kernel)) (by decide +kernel), tyX4_ok, nmX4, rfl, by decide +kernel⟩
theorem fl_X6_91 : FL RX6 91 4 0 := ⟨RX4, TX4, 3, rfl, by decide, in_X4, TB_in (List.mem_of_getElem? (i := 108) (by decide +kernel)) (by decide +kernel)⟩
theorem fp_X6_91 : FP RX6 91 4 0 .int := ⟨RX4, TX4, 3, tyX4, rfl, by decide, in_X4, TB_in (List.mem_of_getElem? (i := 108) (by decide +kernel)) (by decide +kernel), tyX4_ok, nmX4, rfl, by decide +kernel⟩
theorem fl_X4_9 : FL RX4 9 4 1 := ⟨RX4, TX4, 3, rfl, by decide, in_X4, TB_in (List.mem_of_getElem? (i := 109) (by decide +kernel)) (by decide +kernel)⟩
theorem fq_X4_9 : FPF RX4 9 4 1 (.array .int) := ⟨RX4, TX4, 3, tyX4, rfl, by decide, in_X4, TB_in (List.mem_of_getElem? (i := 109) (by decide +kernel)) (by decide +kernel), tyX4_ok, nmX4, rfl, rfl, by decide +kernel⟩
theorem fl_X4_15 : FL RX4 15 4 2 := ⟨RX4, TX4, 3, rfl, by decide, in_X4, TB_in (List.mem_of_getElem? (i := 110) (by decide +kernel)) (by decide +kernel)⟩
theorem fq_X4_15 : FPF RX4 15 4 2 (.array .int) := ⟨RX4, TX4, 3, tyX4, rfl, by decide, in_X4, TB_in (List.mem_of_getElem? (i := 110) (by decide +kernel)) (by decide +kernel), tyX4_ok, nmX4, rfl, rfl, by decide +kernel⟩
theorem cl_X1_23 : Cond.classLink RX1 23 RX5 ∈ TB := TB_in (List.mem_of_getElem? (i := 118) (by decide +kernel)) (by decide +kernel)
theorem fn_X1_23 : FN RX1 23 5 3 tyX5 := ⟨RX5, TX5, rfl, in_X5, tyX5_ok, TB_in (List.mem_of_getElem? (i := 118) (by decide +kernel)) (by decide +kernel), TB_in (List.mem_of_getElem? (i := 119) (by decide +kernel)) (by decide +kernel), TB_in (List.mem_of_getElem? (i := 40) (by decide +kernel)) (by decide +kernel)⟩
theorem im_X5_init : Cond.instanceMethod yX5_init ∈ TB := TB_in (List.mem_of_getElem? (i := 121) (by decide +kernel)) (by decide +kernel)
theorem ml_X5_3 : Cond.methodLink RX5 3 objectInit ∈ TB := TB_in (List.mem_of_getElem? (i := 123) (by decide +kernel)) (by decide +kernel)
theorem fl_X5_18 : FL RX5 18 5 0 := ⟨RX5, TX5, 3, rfl, by decide, in_X5, TB_in (List.mem_of_getElem? (i := 124) (by decide +kernel)) (by decide +kernel)⟩
theorem fp_X5_18 : FP RX5 18 5 0 .int := ⟨RX5, TX5, 3, tyX5, rfl, by decide, in_X5, TB_in (List.mem_of_getElem? (i := 124) (by decide +kernel)) (by decide +kernel), tyX5_ok, nmX5, rfl, by decide +kernel⟩
theorem fl_X1_59 : FL RX1 59 5 0 := ⟨RX5, TX5, 3, rfl, by decide, in_X5, TB_in (List.mem_of_getElem? (i := 125) (by decide +kernel)) (by decide +kernel)⟩
theorem fp_X1_59 : FP RX1 59 5 0 .int := ⟨RX5, TX5, 3, tyX5, rfl, by decide, in_X5, TB_in (List.mem_of_getElem? (i := 125) (by decide +kernel)) (by decide +kernel), tyX5_ok, nmX5, rfl, by decide +kernel⟩
theorem fl_X6_187 : FL RX6 187 5 0 := ⟨RX5, TX5, 3, rfl, by decide, in_X5, TB_in (List.mem_of_getElem? (i := 126) (by decide +kernel)) (by decide +kernel)⟩
theorem fp_X6_187 : FP RX6 187 5 0 .int := ⟨RX5, TX5, 3, tyX5, rfl, by decide, in_X5, TB_in (List.mem_of_getElem? (i := 126) (by decide +kernel)) (by decide +kernel), tyX5_ok, nmX5, rfl, by decide +kernel⟩
theorem fl_X5_9 : FL RX5 9 5 1 := ⟨RX5, TX5, 3, rfl, by decide, in_X5, TB_in (List.mem_of_getElem? (i := 127) (by decide +kernel)) (by decide +kernel)⟩
theorem fq_X5_9 : FPF RX5 9 5 1 (.array .int) := ⟨RX5, TX5, 3, tyX5, rfl, by decide, in_X5, TB_in (List.mem_of_getElem? (i := 127) (by decide +kernel)) (by decide +kernel), tyX5_ok, nmX5, rfl, rfl, by decide +kernel⟩
theorem fl_X5_15 : FL RX5 15 5 2 := ⟨RX5, TX5, 3, rfl, by decide, in_X5, TB_in (List.mem_of_getElem? (i := 128) (by decide +kernel)) (by decide +kernel)⟩
theorem fq_X5_15 : FPF RX5 15 5 2 (.array .int) := ⟨RX5, TX5, 3, tyX5, rfl, by decide, in_X5, TB_in (List.mem_of_getElem? (i := 128) (by decide +kernel)) (by decide +kernel), tyX5_ok, nmX5, rfl, rfl, by decide +kernel⟩
theorem fl_X1_10 : FL RX1 10 1 0 := ⟨RX1, TX1, 3, rfl, by decide, in_X1, TB_in (List.mem_of_getElem? (i := 136) (by decide +kernel)) (by decide +kernel)⟩
theorem fq_X1_10 : FPF RX1 10 1 0 (.object "WeekOrders$Folk") := ⟨RX1, TX1, 3, tyX1, rfl, by decide, in_X1, TB_in (List.mem_of_getElem? (i := 136) (by decide +kernel)) (by decide +kernel), tyX1_ok, nmX1, rfl, rfl, by decide +kernel⟩
theorem fl_X6_56 : FL RX6 56 1 0 := ⟨RX1, TX1, 3, rfl, by decide, in_X1, TB_in (List.mem_of_getElem? (i := 137) (by decide +kernel)) (by decide +kernel)⟩
theorem fl_X1_19 : FL RX1 19 1 1 := ⟨RX1, TX1, 3, rfl, by decide, in_X1, TB_in (List.mem_of_getElem? (i := 138) (by decide +kernel)) (by decide +kernel)⟩
theorem fq_X1_19 : FPF RX1 19 1 1 (.object "WeekOrders$Plan") := ⟨RX1, TX1, 3, tyX1, rfl, by decide, in_X1, TB_in (List.mem_of_getElem? (i := 138) (by decide +kernel)) (by decide +kernel), tyX1_ok, nmX1, rfl, rfl, by decide +kernel⟩
theorem fl_X2_27 : FL RX2 27 1 1 := ⟨RX1, TX1, 3, rfl, by decide, in_X1, TB_in (List.mem_of_getElem? (i := 139) (by decide +kernel)) (by decide +kernel)⟩
theorem fl_X6_81 : FL RX6 81 1 1 := ⟨RX1, TX1, 3, rfl, by decide, in_X1, TB_in (List.mem_of_getElem? (i := 140) (by decide +kernel)) (by decide +kernel)⟩
theorem fl_X1_26 : FL RX1 26 1 2 := ⟨RX1, TX1, 3, rfl, by decide, in_X1, TB_in (List.mem_of_getElem? (i := 141) (by decide +kernel)) (by decide +kernel)⟩
theorem fq_X1_26 : FPF RX1 26 1 2 (.object "WeekOrders$Sights") := ⟨RX1, TX1, 3, tyX1, rfl, by decide, in_X1, TB_in (List.mem_of_getElem? (i := 141) (by decide +kernel)) (by decide +kernel), tyX1_ok, nmX1, rfl, rfl, by decide +kernel⟩
theorem fl_X6_179 : FL RX6 179 1 2 := ⟨RX1, TX1, 3, rfl, by decide, in_X1, TB_in (List.mem_of_getElem? (i := 142) (by decide +kernel)) (by decide +kernel)⟩
theorem cl_X6_27 : Cond.classLink RX6 27 RX2 ∈ TB := TB_in (List.mem_of_getElem? (i := 151) (by decide +kernel)) (by decide +kernel)
theorem fn_X6_27 : FN RX6 27 2 7 tyX2 := ⟨RX2, TX2, rfl, in_X2, tyX2_ok, TB_in (List.mem_of_getElem? (i := 151) (by decide +kernel)) (by decide +kernel), TB_in (List.mem_of_getElem? (i := 152) (by decide +kernel)) (by decide +kernel), TB_in (List.mem_of_getElem? (i := 41) (by decide +kernel)) (by decide +kernel)⟩
theorem im_X2_init : Cond.instanceMethod yX2_init ∈ TB := TB_in (List.mem_of_getElem? (i := 154) (by decide +kernel)) (by decide +kernel)
theorem ml_X2_3 : Cond.methodLink RX2 3 objectInit ∈ TB := TB_in (List.mem_of_getElem? (i := 156) (by decide +kernel)) (by decide +kernel)
theorem fl_X2_45 : FL RX2 45 2 0 := ⟨RX2, TX2, 7, rfl, by decide, in_X2, TB_in (List.mem_of_getElem? (i := 157) (by decide +kernel)) (by decide +kernel)⟩
theorem fp_X2_45 : FP RX2 45 2 0 .int := ⟨RX2, TX2, 7, tyX2, rfl, by decide, in_X2, TB_in (List.mem_of_getElem? (i := 157) (by decide +kernel)) (by decide +kernel), tyX2_ok, nmX2, rfl, by decide +kernel⟩
theorem fl_X2_48 : FL RX2 48 2 1 := ⟨RX2, TX2, 7, rfl, by decide, in_X2, TB_in (List.mem_of_getElem? (i := 158) (by decide +kernel)) (by decide +kernel)⟩
theorem fp_X2_48 : FP RX2 48 2 1 .int := ⟨RX2, TX2, 7, tyX2, rfl, by decide, in_X2, TB_in (List.mem_of_getElem? (i := 158) (by decide +kernel)) (by decide +kernel), tyX2_ok, nmX2, rfl, by decide +kernel⟩
theorem fl_X6_143 : FL RX6 143 2 1 := ⟨RX2, TX2, 7, rfl, by decide, in_X2, TB_in (List.mem_of_getElem? (i := 159) (by decide +kernel)) (by decide +kernel)⟩
theorem fp_X6_143 : FP RX6 143 2 1 .int := ⟨RX2, TX2, 7, tyX2, rfl, by decide, in_X2, TB_in (List.mem_of_getElem? (i := 159) (by decide +kernel)) (by decide +kernel), tyX2_ok, nmX2, rfl, by decide +kernel⟩
theorem fl_X2_9 : FL RX2 9 2 2 := ⟨RX2, TX2, 7, rfl, by decide, in_X2, TB_in (List.mem_of_getElem? (i := 160) (by decide +kernel)) (by decide +kernel)⟩
theorem fq_X2_9 : FPF RX2 9 2 2 (.array .int) := ⟨RX2, TX2, 7, tyX2, rfl, by decide, in_X2, TB_in (List.mem_of_getElem? (i := 160) (by decide +kernel)) (by decide +kernel), tyX2_ok, nmX2, rfl, rfl, by decide +kernel⟩
theorem fl_X2_15 : FL RX2 15 2 3 := ⟨RX2, TX2, 7, rfl, by decide, in_X2, TB_in (List.mem_of_getElem? (i := 161) (by decide +kernel)) (by decide +kernel)⟩
theorem fq_X2_15 : FPF RX2 15 2 3 (.array .int) := ⟨RX2, TX2, 7, tyX2, rfl, by decide, in_X2, TB_in (List.mem_of_getElem? (i := 161) (by decide +kernel)) (by decide +kernel), tyX2_ok, nmX2, rfl, rfl, by decide +kernel⟩
theorem fl_X2_18 : FL RX2 18 2 4 := ⟨RX2, TX2, 7, rfl, by decide, in_X2, TB_in (List.mem_of_getElem? (i := 162) (by decide +kernel)) (by decide +kernel)⟩
theorem fq_X2_18 : FPF RX2 18 2 4 (.array .int) := ⟨RX2, TX2, 7, tyX2, rfl, by decide, in_X2, TB_in (List.mem_of_getElem? (i := 162) (by decide +kernel)) (by decide +kernel), tyX2_ok, nmX2, rfl, rfl, by decide +kernel⟩
theorem fl_X2_21 : FL RX2 21 2 5 := ⟨RX2, TX2, 7, rfl, by decide, in_X2, TB_in (List.mem_of_getElem? (i := 163) (by decide +kernel)) (by decide +kernel)⟩
theorem fq_X2_21 : FPF RX2 21 2 5 (.array .int) := ⟨RX2, TX2, 7, tyX2, rfl, by decide, in_X2, TB_in (List.mem_of_getElem? (i := 163) (by decide +kernel)) (by decide +kernel), tyX2_ok, nmX2, rfl, rfl, by decide +kernel⟩
theorem fl_X2_24 : FL RX2 24 2 6 := ⟨RX2, TX2, 7, rfl, by decide, in_X2, TB_in (List.mem_of_getElem? (i := 164) (by decide +kernel)) (by decide +kernel)⟩
theorem fq_X2_24 : FPF RX2 24 2 6 (.array .int) := ⟨RX2, TX2, 7, tyX2, rfl, by decide, in_X2, TB_in (List.mem_of_getElem? (i := 164) (by decide +kernel)) (by decide +kernel), tyX2_ok, nmX2, rfl, rfl, by decide +kernel⟩
theorem fl_X6_10 : FL RX6 10 6 0 := ⟨RX6, TX6, 4, rfl, by decide, in_X6, TB_in (List.mem_of_getElem? (i := 180) (by decide +kernel)) (by decide +kernel)⟩
theorem fq_X6_10 : FPF RX6 10 6 0 (.object "WeekOrders$Pad") := ⟨RX6, TX6, 4, tyX6, rfl, by decide, in_X6, TB_in (List.mem_of_getElem? (i := 180) (by decide +kernel)) (by decide +kernel), tyX6_ok, nmX6, rfl, rfl, by decide +kernel⟩
theorem fl_X6_19 : FL RX6 19 6 1 := ⟨RX6, TX6, 4, rfl, by decide, in_X6, TB_in (List.mem_of_getElem? (i := 181) (by decide +kernel)) (by decide +kernel)⟩
theorem fq_X6_19 : FPF RX6 19 6 1 (.object "WeekOrders$Land") := ⟨RX6, TX6, 4, tyX6, rfl, by decide, in_X6, TB_in (List.mem_of_getElem? (i := 181) (by decide +kernel)) (by decide +kernel), tyX6_ok, nmX6, rfl, rfl, by decide +kernel⟩
theorem fl_X6_23 : FL RX6 23 6 2 := ⟨RX6, TX6, 4, rfl, by decide, in_X6, TB_in (List.mem_of_getElem? (i := 182) (by decide +kernel)) (by decide +kernel)⟩
theorem fq_X6_23 : FPF RX6 23 6 2 (.array (.object "WeekOrders$Land")) := ⟨RX6, TX6, 4, tyX6, rfl, by decide, in_X6, TB_in (List.mem_of_getElem? (i := 182) (by decide +kernel)) (by decide +kernel), tyX6_ok, nmX6, rfl, rfl, by decide +kernel⟩
theorem fl_X6_30 : FL RX6 30 6 3 := ⟨RX6, TX6, 4, rfl, by decide, in_X6, TB_in (List.mem_of_getElem? (i := 183) (by decide +kernel)) (by decide +kernel)⟩
theorem fq_X6_30 : FPF RX6 30 6 3 (.object "WeekOrders$Month") := ⟨RX6, TX6, 4, tyX6, rfl, by decide, in_X6, TB_in (List.mem_of_getElem? (i := 183) (by decide +kernel)) (by decide +kernel), tyX6_ok, nmX6, rfl, rfl, by decide +kernel⟩
theorem ml_L_13 : Cond.methodLink RL 13 yX6_say ∈ TB := TB_in (List.mem_of_getElem? (i := 193) (by decide +kernel)) (by decide +kernel)
theorem im_X6_say : Cond.instanceMethod yX6_say ∈ TB := TB_in (List.mem_of_getElem? (i := 194) (by decide +kernel)) (by decide +kernel)
theorem se_X6_say : Cond.selects RX6 yX6_say yX6_say ∈ TB := TB_in (List.mem_of_getElem? (i := 195) (by decide +kernel)) (by decide +kernel)
theorem ml_X6_34 : Cond.methodLink RX6 34 yX3_add ∈ TB := TB_in (List.mem_of_getElem? (i := 197) (by decide +kernel)) (by decide +kernel)
theorem im_X3_add : Cond.instanceMethod yX3_add ∈ TB := TB_in (List.mem_of_getElem? (i := 198) (by decide +kernel)) (by decide +kernel)
theorem se_X3_add : Cond.selects RX3 yX3_add yX3_add ∈ TB := TB_in (List.mem_of_getElem? (i := 199) (by decide +kernel)) (by decide +kernel)
theorem sm_X6_isOneOf : Cond.static yX6_isOneOf ∈ TB := TB_in (List.mem_of_getElem? (i := 202) (by decide +kernel)) (by decide +kernel)
theorem ml_L_18 : Cond.methodLink RL 18 yX6_wipe ∈ TB := TB_in (List.mem_of_getElem? (i := 204) (by decide +kernel)) (by decide +kernel)
theorem im_X6_wipe : Cond.instanceMethod yX6_wipe ∈ TB := TB_in (List.mem_of_getElem? (i := 205) (by decide +kernel)) (by decide +kernel)
theorem se_X6_wipe : Cond.selects RX6 yX6_wipe yX6_wipe ∈ TB := TB_in (List.mem_of_getElem? (i := 206) (by decide +kernel)) (by decide +kernel)
theorem ml_L_23 : Cond.methodLink RL 23 yX6_fault ∈ TB := TB_in (List.mem_of_getElem? (i := 208) (by decide +kernel)) (by decide +kernel)
theorem im_X6_fault : Cond.instanceMethod yX6_fault ∈ TB := TB_in (List.mem_of_getElem? (i := 209) (by decide +kernel)) (by decide +kernel)
theorem se_X6_fault : Cond.selects RX6 yX6_fault yX6_fault ∈ TB := TB_in (List.mem_of_getElem? (i := 210) (by decide +kernel)) (by decide +kernel)
theorem ml_X6_42 : Cond.methodLink RX6 42 yX6_isOneOf ∈ TB := TB_in (List.mem_of_getElem? (i := 212) (by decide +kernel)) (by decide +kernel)
theorem ml_X6_46 : Cond.methodLink RX6 46 yX3_orderFault ∈ TB := TB_in (List.mem_of_getElem? (i := 213) (by decide +kernel)) (by decide +kernel)
theorem im_X3_orderFault : Cond.instanceMethod yX3_orderFault ∈ TB := TB_in (List.mem_of_getElem? (i := 214) (by decide +kernel)) (by decide +kernel)
theorem se_X3_orderFault : Cond.selects RX3 yX3_orderFault yX3_orderFault ∈ TB := TB_in (List.mem_of_getElem? (i := 215) (by decide +kernel)) (by decide +kernel)
theorem ml_X3_23 : Cond.methodLink RX3 23 yX3_signAt ∈ TB := TB_in (List.mem_of_getElem? (i := 217) (by decide +kernel)) (by decide +kernel)
theorem im_X3_signAt : Cond.instanceMethod yX3_signAt ∈ TB := TB_in (List.mem_of_getElem? (i := 218) (by decide +kernel)) (by decide +kernel)
theorem se_X3_signAt : Cond.selects RX3 yX3_signAt yX3_signAt ∈ TB := TB_in (List.mem_of_getElem? (i := 219) (by decide +kernel)) (by decide +kernel)
theorem ml_X6_50 : Cond.methodLink RX6 50 yX3_planFault ∈ TB := TB_in (List.mem_of_getElem? (i := 221) (by decide +kernel)) (by decide +kernel)
theorem im_X3_planFault : Cond.instanceMethod yX3_planFault ∈ TB := TB_in (List.mem_of_getElem? (i := 222) (by decide +kernel)) (by decide +kernel)
theorem se_X3_planFault : Cond.selects RX3 yX3_planFault yX3_planFault ∈ TB := TB_in (List.mem_of_getElem? (i := 223) (by decide +kernel)) (by decide +kernel)
theorem ml_L_27 : Cond.methodLink RL 27 yX6_born ∈ TB := TB_in (List.mem_of_getElem? (i := 225) (by decide +kernel)) (by decide +kernel)
theorem im_X6_born : Cond.instanceMethod yX6_born ∈ TB := TB_in (List.mem_of_getElem? (i := 226) (by decide +kernel)) (by decide +kernel)
theorem se_X6_born : Cond.selects RX6 yX6_born yX6_born ∈ TB := TB_in (List.mem_of_getElem? (i := 227) (by decide +kernel)) (by decide +kernel)
theorem ml_X6_53 : Cond.methodLink RX6 53 yX6_isBirth ∈ TB := TB_in (List.mem_of_getElem? (i := 229) (by decide +kernel)) (by decide +kernel)
theorem sm_X6_isBirth : Cond.static yX6_isBirth ∈ TB := TB_in (List.mem_of_getElem? (i := 230) (by decide +kernel)) (by decide +kernel)
theorem ml_X6_60 : Cond.methodLink RX6 60 yX0_settle ∈ TB := TB_in (List.mem_of_getElem? (i := 232) (by decide +kernel)) (by decide +kernel)
theorem im_X0_settle : Cond.instanceMethod yX0_settle ∈ TB := TB_in (List.mem_of_getElem? (i := 233) (by decide +kernel)) (by decide +kernel)
theorem se_X0_settle : Cond.selects RX0 yX0_settle yX0_settle ∈ TB := TB_in (List.mem_of_getElem? (i := 234) (by decide +kernel)) (by decide +kernel)
theorem ml_X0_43 : Cond.methodLink RX0 43 yX3_signAt ∈ TB := TB_in (List.mem_of_getElem? (i := 237) (by decide +kernel)) (by decide +kernel)
theorem ml_X6_66 : Cond.methodLink RX6 66 yX6_wipe ∈ TB := TB_in (List.mem_of_getElem? (i := 238) (by decide +kernel)) (by decide +kernel)
theorem ml_L_32 : Cond.methodLink RL 32 yX6_exile ∈ TB := TB_in (List.mem_of_getElem? (i := 239) (by decide +kernel)) (by decide +kernel)
theorem im_X6_exile : Cond.instanceMethod yX6_exile ∈ TB := TB_in (List.mem_of_getElem? (i := 240) (by decide +kernel)) (by decide +kernel)
theorem se_X6_exile : Cond.selects RX6 yX6_exile yX6_exile ∈ TB := TB_in (List.mem_of_getElem? (i := 241) (by decide +kernel)) (by decide +kernel)
theorem ml_X6_69 : Cond.methodLink RX6 69 yX6_isThere ∈ TB := TB_in (List.mem_of_getElem? (i := 243) (by decide +kernel)) (by decide +kernel)
theorem im_X6_isThere : Cond.instanceMethod yX6_isThere ∈ TB := TB_in (List.mem_of_getElem? (i := 245) (by decide +kernel)) (by decide +kernel)
theorem ml_X6_232 : Cond.methodLink RX6 232 yX0_isThere ∈ TB := TB_in (List.mem_of_getElem? (i := 247) (by decide +kernel)) (by decide +kernel)
theorem im_X0_isThere : Cond.instanceMethod yX0_isThere ∈ TB := TB_in (List.mem_of_getElem? (i := 248) (by decide +kernel)) (by decide +kernel)
theorem se_X0_isThere : Cond.selects RX0 yX0_isThere yX0_isThere ∈ TB := TB_in (List.mem_of_getElem? (i := 249) (by decide +kernel)) (by decide +kernel)
theorem ml_X6_75 : Cond.methodLink RX6 75 yJ6_bitCount_0f7a4 ∈ TB := TB_in (List.mem_of_getElem? (i := 251) (by decide +kernel)) (by decide +kernel)
theorem sm_J6_bitCount_0f7a4 : Cond.static yJ6_bitCount_0f7a4 ∈ TB := TB_in (List.mem_of_getElem? (i := 252) (by decide +kernel)) (by decide +kernel)
theorem ct_J6_265 : Cond.constant RJ6 265 (zI 1431655765) ∈ TB := TB_in (List.mem_of_getElem? (i := 254) (by decide +kernel)) (by decide +kernel)
theorem ct_J6_266 : Cond.constant RJ6 266 (zI 858993459) ∈ TB := TB_in (List.mem_of_getElem? (i := 255) (by decide +kernel)) (by decide +kernel)
theorem ct_J6_267 : Cond.constant RJ6 267 (zI 252645135) ∈ TB := TB_in (List.mem_of_getElem? (i := 256) (by decide +kernel)) (by decide +kernel)
theorem ml_L_36 : Cond.methodLink RL 36 yX6_plan ∈ TB := TB_in (List.mem_of_getElem? (i := 257) (by decide +kernel)) (by decide +kernel)
theorem im_X6_plan : Cond.instanceMethod yX6_plan ∈ TB := TB_in (List.mem_of_getElem? (i := 258) (by decide +kernel)) (by decide +kernel)
theorem se_X6_plan : Cond.selects RX6 yX6_plan yX6_plan ∈ TB := TB_in (List.mem_of_getElem? (i := 259) (by decide +kernel)) (by decide +kernel)
theorem ml_X6_85 : Cond.methodLink RX6 85 yX4_read ∈ TB := TB_in (List.mem_of_getElem? (i := 261) (by decide +kernel)) (by decide +kernel)
theorem im_X4_read : Cond.instanceMethod yX4_read ∈ TB := TB_in (List.mem_of_getElem? (i := 262) (by decide +kernel)) (by decide +kernel)
theorem se_X4_read : Cond.selects RX4 yX4_read yX4_read ∈ TB := TB_in (List.mem_of_getElem? (i := 263) (by decide +kernel)) (by decide +kernel)
theorem ml_X4_31 : Cond.methodLink RX4 31 yX3_signAt ∈ TB := TB_in (List.mem_of_getElem? (i := 265) (by decide +kernel)) (by decide +kernel)
theorem ml_L_40 : Cond.methodLink RL 40 yX6_today ∈ TB := TB_in (List.mem_of_getElem? (i := 267) (by decide +kernel)) (by decide +kernel)
theorem im_X6_today : Cond.instanceMethod yX6_today ∈ TB := TB_in (List.mem_of_getElem? (i := 268) (by decide +kernel)) (by decide +kernel)
theorem se_X6_today : Cond.selects RX6 yX6_today yX6_today ∈ TB := TB_in (List.mem_of_getElem? (i := 269) (by decide +kernel)) (by decide +kernel)
theorem ml_X6_92 : Cond.methodLink RX6 92 yX6_isDate ∈ TB := TB_in (List.mem_of_getElem? (i := 271) (by decide +kernel)) (by decide +kernel)
theorem sm_X6_isDate : Cond.static yX6_isDate ∈ TB := TB_in (List.mem_of_getElem? (i := 272) (by decide +kernel)) (by decide +kernel)
theorem ml_X6_95 : Cond.methodLink RX6 95 yX0_dayOn ∈ TB := TB_in (List.mem_of_getElem? (i := 274) (by decide +kernel)) (by decide +kernel)
theorem im_X0_dayOn : Cond.instanceMethod yX0_dayOn ∈ TB := TB_in (List.mem_of_getElem? (i := 275) (by decide +kernel)) (by decide +kernel)
theorem se_X0_dayOn : Cond.selects RX0 yX0_dayOn yX0_dayOn ∈ TB := TB_in (List.mem_of_getElem? (i := 276) (by decide +kernel)) (by decide +kernel)
theorem ml_X0_47 : Cond.methodLink RX0 47 yJ9_floorMod_7cf53 ∈ TB := TB_in (List.mem_of_getElem? (i := 278) (by decide +kernel)) (by decide +kernel)
theorem sm_J9_floorMod_7cf53 : Cond.static yJ9_floorMod_7cf53 ∈ TB := TB_in (List.mem_of_getElem? (i := 279) (by decide +kernel)) (by decide +kernel)
theorem ml_L_44 : Cond.methodLink RL 44 yX6_same ∈ TB := TB_in (List.mem_of_getElem? (i := 281) (by decide +kernel)) (by decide +kernel)
theorem im_X6_same : Cond.instanceMethod yX6_same ∈ TB := TB_in (List.mem_of_getElem? (i := 282) (by decide +kernel)) (by decide +kernel)
theorem se_X6_same : Cond.selects RX6 yX6_same yX6_same ∈ TB := TB_in (List.mem_of_getElem? (i := 283) (by decide +kernel)) (by decide +kernel)
theorem ml_X6_99 : Cond.methodLink RX6 99 yX0_having ∈ TB := TB_in (List.mem_of_getElem? (i := 285) (by decide +kernel)) (by decide +kernel)
theorem im_X0_having : Cond.instanceMethod yX0_having ∈ TB := TB_in (List.mem_of_getElem? (i := 286) (by decide +kernel)) (by decide +kernel)
theorem se_X0_having : Cond.selects RX0 yX0_having yX0_having ∈ TB := TB_in (List.mem_of_getElem? (i := 287) (by decide +kernel)) (by decide +kernel)
theorem ml_X0_53 : Cond.methodLink RX0 53 yX0_dayOn ∈ TB := TB_in (List.mem_of_getElem? (i := 289) (by decide +kernel)) (by decide +kernel)
theorem ml_L_48 : Cond.methodLink RL 48 yX6_next ∈ TB := TB_in (List.mem_of_getElem? (i := 290) (by decide +kernel)) (by decide +kernel)
theorem im_X6_next : Cond.instanceMethod yX6_next ∈ TB := TB_in (List.mem_of_getElem? (i := 291) (by decide +kernel)) (by decide +kernel)
theorem se_X6_next : Cond.selects RX6 yX6_next yX6_next ∈ TB := TB_in (List.mem_of_getElem? (i := 292) (by decide +kernel)) (by decide +kernel)
theorem ml_L_53 : Cond.methodLink RL 53 yX6_meet ∈ TB := TB_in (List.mem_of_getElem? (i := 294) (by decide +kernel)) (by decide +kernel)
theorem im_X6_meet : Cond.instanceMethod yX6_meet ∈ TB := TB_in (List.mem_of_getElem? (i := 295) (by decide +kernel)) (by decide +kernel)
theorem se_X6_meet : Cond.selects RX6 yX6_meet yX6_meet ∈ TB := TB_in (List.mem_of_getElem? (i := 296) (by decide +kernel)) (by decide +kernel)
theorem ml_X6_102 : Cond.methodLink RX6 102 yX6_isSetOfThere ∈ TB := TB_in (List.mem_of_getElem? (i := 298) (by decide +kernel)) (by decide +kernel)
theorem im_X6_isSetOfThere : Cond.instanceMethod yX6_isSetOfThere ∈ TB := TB_in (List.mem_of_getElem? (i := 300) (by decide +kernel)) (by decide +kernel)
theorem ml_X6_105 : Cond.methodLink RX6 105 yX0_commonDay ∈ TB := TB_in (List.mem_of_getElem? (i := 302) (by decide +kernel)) (by decide +kernel)
theorem im_X0_commonDay : Cond.instanceMethod yX0_commonDay ∈ TB := TB_in (List.mem_of_getElem? (i := 303) (by decide +kernel)) (by decide +kernel)
theorem se_X0_commonDay : Cond.selects RX0 yX0_commonDay yX0_commonDay ∈ TB := TB_in (List.mem_of_getElem? (i := 304) (by decide +kernel)) (by decide +kernel)
theorem ml_L_57 : Cond.methodLink RL 57 yX6_shared ∈ TB := TB_in (List.mem_of_getElem? (i := 306) (by decide +kernel)) (by decide +kernel)
theorem im_X6_shared : Cond.instanceMethod yX6_shared ∈ TB := TB_in (List.mem_of_getElem? (i := 307) (by decide +kernel)) (by decide +kernel)
theorem se_X6_shared : Cond.selects RX6 yX6_shared yX6_shared ∈ TB := TB_in (List.mem_of_getElem? (i := 308) (by decide +kernel)) (by decide +kernel)
theorem ml_X6_108 : Cond.methodLink RX6 108 yX6_areTwoThere ∈ TB := TB_in (List.mem_of_getElem? (i := 310) (by decide +kernel)) (by decide +kernel)
theorem im_X6_areTwoThere : Cond.instanceMethod yX6_areTwoThere ∈ TB := TB_in (List.mem_of_getElem? (i := 312) (by decide +kernel)) (by decide +kernel)
theorem ml_X6_111 : Cond.methodLink RX6 111 yX0_sharedDates ∈ TB := TB_in (List.mem_of_getElem? (i := 314) (by decide +kernel)) (by decide +kernel)
theorem im_X0_sharedDates : Cond.instanceMethod yX0_sharedDates ∈ TB := TB_in (List.mem_of_getElem? (i := 315) (by decide +kernel)) (by decide +kernel)
theorem se_X0_sharedDates : Cond.selects RX0 yX0_sharedDates yX0_sharedDates ∈ TB := TB_in (List.mem_of_getElem? (i := 316) (by decide +kernel)) (by decide +kernel)
theorem ml_X0_56 : Cond.methodLink RX0 56 yX0_share ∈ TB := TB_in (List.mem_of_getElem? (i := 318) (by decide +kernel)) (by decide +kernel)
theorem im_X0_share : Cond.instanceMethod yX0_share ∈ TB := TB_in (List.mem_of_getElem? (i := 319) (by decide +kernel)) (by decide +kernel)
theorem se_X0_share : Cond.selects RX0 yX0_share yX0_share ∈ TB := TB_in (List.mem_of_getElem? (i := 320) (by decide +kernel)) (by decide +kernel)
theorem ml_L_61 : Cond.methodLink RL 61 yX6_never ∈ TB := TB_in (List.mem_of_getElem? (i := 322) (by decide +kernel)) (by decide +kernel)
theorem im_X6_never : Cond.instanceMethod yX6_never ∈ TB := TB_in (List.mem_of_getElem? (i := 323) (by decide +kernel)) (by decide +kernel)
theorem se_X6_never : Cond.selects RX6 yX6_never yX6_never ∈ TB := TB_in (List.mem_of_getElem? (i := 324) (by decide +kernel)) (by decide +kernel)
theorem ml_X6_115 : Cond.methodLink RX6 115 yX6_pairs ∈ TB := TB_in (List.mem_of_getElem? (i := 326) (by decide +kernel)) (by decide +kernel)
theorem im_X6_pairs : Cond.instanceMethod yX6_pairs ∈ TB := TB_in (List.mem_of_getElem? (i := 328) (by decide +kernel)) (by decide +kernel)
theorem ml_X6_222 : Cond.methodLink RX6 222 yX6_isPair ∈ TB := TB_in (List.mem_of_getElem? (i := 330) (by decide +kernel)) (by decide +kernel)
theorem im_X6_isPair : Cond.instanceMethod yX6_isPair ∈ TB := TB_in (List.mem_of_getElem? (i := 332) (by decide +kernel)) (by decide +kernel)
theorem ml_X6_226 : Cond.methodLink RX6 226 yX0_areTwins ∈ TB := TB_in (List.mem_of_getElem? (i := 334) (by decide +kernel)) (by decide +kernel)
theorem im_X0_areTwins : Cond.instanceMethod yX0_areTwins ∈ TB := TB_in (List.mem_of_getElem? (i := 335) (by decide +kernel)) (by decide +kernel)
theorem se_X0_areTwins : Cond.selects RX0 yX0_areTwins yX0_areTwins ∈ TB := TB_in (List.mem_of_getElem? (i := 336) (by decide +kernel)) (by decide +kernel)
theorem ml_X0_87 : Cond.methodLink RX0 87 yX0_isDelayed ∈ TB := TB_in (List.mem_of_getElem? (i := 338) (by decide +kernel)) (by decide +kernel)
theorem im_X0_isDelayed : Cond.instanceMethod yX0_isDelayed ∈ TB := TB_in (List.mem_of_getElem? (i := 340) (by decide +kernel)) (by decide +kernel)
theorem ml_X6_229 : Cond.methodLink RX6 229 yX0_everShare ∈ TB := TB_in (List.mem_of_getElem? (i := 342) (by decide +kernel)) (by decide +kernel)
theorem im_X0_everShare : Cond.instanceMethod yX0_everShare ∈ TB := TB_in (List.mem_of_getElem? (i := 343) (by decide +kernel)) (by decide +kernel)
theorem se_X0_everShare : Cond.selects RX0 yX0_everShare yX0_everShare ∈ TB := TB_in (List.mem_of_getElem? (i := 344) (by decide +kernel)) (by decide +kernel)
theorem ml_L_65 : Cond.methodLink RL 65 yX6_market ∈ TB := TB_in (List.mem_of_getElem? (i := 346) (by decide +kernel)) (by decide +kernel)
theorem im_X6_market : Cond.instanceMethod yX6_market ∈ TB := TB_in (List.mem_of_getElem? (i := 347) (by decide +kernel)) (by decide +kernel)
theorem se_X6_market : Cond.selects RX6 yX6_market yX6_market ∈ TB := TB_in (List.mem_of_getElem? (i := 348) (by decide +kernel)) (by decide +kernel)
theorem ml_X6_119 : Cond.methodLink RX6 119 yX6_countMarkets ∈ TB := TB_in (List.mem_of_getElem? (i := 350) (by decide +kernel)) (by decide +kernel)
theorem im_X6_countMarkets : Cond.instanceMethod yX6_countMarkets ∈ TB := TB_in (List.mem_of_getElem? (i := 352) (by decide +kernel)) (by decide +kernel)
theorem ml_X6_128 : Cond.methodLink RX6 128 yX6_isMarket ∈ TB := TB_in (List.mem_of_getElem? (i := 354) (by decide +kernel)) (by decide +kernel)
theorem im_X6_isMarket : Cond.instanceMethod yX6_isMarket ∈ TB := TB_in (List.mem_of_getElem? (i := 356) (by decide +kernel)) (by decide +kernel)
theorem ml_X6_122 : Cond.methodLink RX6 122 yX6_firstMarket ∈ TB := TB_in (List.mem_of_getElem? (i := 358) (by decide +kernel)) (by decide +kernel)
theorem im_X6_firstMarket : Cond.instanceMethod yX6_firstMarket ∈ TB := TB_in (List.mem_of_getElem? (i := 360) (by decide +kernel)) (by decide +kernel)
theorem ml_X6_125 : Cond.methodLink RX6 125 yX6_longestWithoutMarket ∈ TB := TB_in (List.mem_of_getElem? (i := 362) (by decide +kernel)) (by decide +kernel)
theorem im_X6_longestWithoutMarket : Cond.instanceMethod yX6_longestWithoutMarket ∈ TB := TB_in (List.mem_of_getElem? (i := 364) (by decide +kernel)) (by decide +kernel)
theorem ml_X6_132 : Cond.methodLink RX6 132 yJ9_max_7cf53 ∈ TB := TB_in (List.mem_of_getElem? (i := 366) (by decide +kernel)) (by decide +kernel)
theorem sm_J9_max_7cf53 : Cond.static yJ9_max_7cf53 ∈ TB := TB_in (List.mem_of_getElem? (i := 367) (by decide +kernel)) (by decide +kernel)
theorem ml_L_69 : Cond.methodLink RL 69 yX6_can ∈ TB := TB_in (List.mem_of_getElem? (i := 369) (by decide +kernel)) (by decide +kernel)
theorem im_X6_can : Cond.instanceMethod yX6_can ∈ TB := TB_in (List.mem_of_getElem? (i := 370) (by decide +kernel)) (by decide +kernel)
theorem se_X6_can : Cond.selects RX6 yX6_can yX6_can ∈ TB := TB_in (List.mem_of_getElem? (i := 371) (by decide +kernel)) (by decide +kernel)
theorem ml_X6_137 : Cond.methodLink RX6 137 yX1_isDoable ∈ TB := TB_in (List.mem_of_getElem? (i := 373) (by decide +kernel)) (by decide +kernel)
theorem im_X1_isDoable : Cond.instanceMethod yX1_isDoable ∈ TB := TB_in (List.mem_of_getElem? (i := 374) (by decide +kernel)) (by decide +kernel)
theorem se_X1_isDoable : Cond.selects RX1 yX1_isDoable yX1_isDoable ∈ TB := TB_in (List.mem_of_getElem? (i := 375) (by decide +kernel)) (by decide +kernel)
theorem ml_X1_40 : Cond.methodLink RX1 40 yX4_peopleOf ∈ TB := TB_in (List.mem_of_getElem? (i := 377) (by decide +kernel)) (by decide +kernel)
theorem im_X4_peopleOf : Cond.instanceMethod yX4_peopleOf ∈ TB := TB_in (List.mem_of_getElem? (i := 378) (by decide +kernel)) (by decide +kernel)
theorem se_X4_peopleOf : Cond.selects RX4 yX4_peopleOf yX4_peopleOf ∈ TB := TB_in (List.mem_of_getElem? (i := 379) (by decide +kernel)) (by decide +kernel)
theorem ml_X1_44 : Cond.methodLink RX1 44 yX4_dayOf ∈ TB := TB_in (List.mem_of_getElem? (i := 381) (by decide +kernel)) (by decide +kernel)
theorem im_X4_dayOf : Cond.instanceMethod yX4_dayOf ∈ TB := TB_in (List.mem_of_getElem? (i := 382) (by decide +kernel)) (by decide +kernel)
theorem se_X4_dayOf : Cond.selects RX4 yX4_dayOf yX4_dayOf ∈ TB := TB_in (List.mem_of_getElem? (i := 383) (by decide +kernel)) (by decide +kernel)
theorem ml_X1_47 : Cond.methodLink RX1 47 yX0_allHave ∈ TB := TB_in (List.mem_of_getElem? (i := 385) (by decide +kernel)) (by decide +kernel)
theorem im_X0_allHave : Cond.instanceMethod yX0_allHave ∈ TB := TB_in (List.mem_of_getElem? (i := 386) (by decide +kernel)) (by decide +kernel)
theorem se_X0_allHave : Cond.selects RX0 yX0_allHave yX0_allHave ∈ TB := TB_in (List.mem_of_getElem? (i := 387) (by decide +kernel)) (by decide +kernel)
theorem ml_L_73 : Cond.methodLink RL 73 yX6_month ∈ TB := TB_in (List.mem_of_getElem? (i := 389) (by decide +kernel)) (by decide +kernel)
theorem im_X6_month : Cond.instanceMethod yX6_month ∈ TB := TB_in (List.mem_of_getElem? (i := 390) (by decide +kernel)) (by decide +kernel)
theorem se_X6_month : Cond.selects RX6 yX6_month yX6_month ∈ TB := TB_in (List.mem_of_getElem? (i := 391) (by decide +kernel)) (by decide +kernel)
theorem ml_X6_140 : Cond.methodLink RX6 140 yX2_settle ∈ TB := TB_in (List.mem_of_getElem? (i := 393) (by decide +kernel)) (by decide +kernel)
theorem im_X2_settle : Cond.instanceMethod yX2_settle ∈ TB := TB_in (List.mem_of_getElem? (i := 394) (by decide +kernel)) (by decide +kernel)
theorem se_X2_settle : Cond.selects RX2 yX2_settle yX2_settle ∈ TB := TB_in (List.mem_of_getElem? (i := 395) (by decide +kernel)) (by decide +kernel)
theorem ml_X2_39 : Cond.methodLink RX2 39 yJ9_min_7cf53 ∈ TB := TB_in (List.mem_of_getElem? (i := 397) (by decide +kernel)) (by decide +kernel)
theorem sm_J9_min_7cf53 : Cond.static yJ9_min_7cf53 ∈ TB := TB_in (List.mem_of_getElem? (i := 398) (by decide +kernel)) (by decide +kernel)
theorem ml_X2_51 : Cond.methodLink RX2 51 yX4_peopleOf ∈ TB := TB_in (List.mem_of_getElem? (i := 400) (by decide +kernel)) (by decide +kernel)
theorem ml_X2_55 : Cond.methodLink RX2 55 yX2_collect ∈ TB := TB_in (List.mem_of_getElem? (i := 401) (by decide +kernel)) (by decide +kernel)
theorem im_X2_collect : Cond.instanceMethod yX2_collect ∈ TB := TB_in (List.mem_of_getElem? (i := 403) (by decide +kernel)) (by decide +kernel)
theorem ml_X2_67 : Cond.methodLink RX2 67 yX1_isDoable ∈ TB := TB_in (List.mem_of_getElem? (i := 405) (by decide +kernel)) (by decide +kernel)
theorem ml_X2_59 : Cond.methodLink RX2 59 yX2_search ∈ TB := TB_in (List.mem_of_getElem? (i := 406) (by decide +kernel)) (by decide +kernel)
theorem sm_X2_search : Cond.static yX2_search ∈ TB := TB_in (List.mem_of_getElem? (i := 407) (by decide +kernel)) (by decide +kernel)
theorem ml_X2_70 : Cond.methodLink RX2 70 yX2_keep ∈ TB := TB_in (List.mem_of_getElem? (i := 410) (by decide +kernel)) (by decide +kernel)
theorem im_X2_keep : Cond.instanceMethod yX2_keep ∈ TB := TB_in (List.mem_of_getElem? (i := 412) (by decide +kernel)) (by decide +kernel)
theorem ml_X2_77 : Cond.methodLink RX2 77 arraycopyName ∈ TB := TB_in (List.mem_of_getElem? (i := 414) (by decide +kernel)) (by decide +kernel)
theorem sm_COPY : Cond.static arraycopyName ∈ TB := TB_in (List.mem_of_getElem? (i := 415) (by decide +kernel)) (by decide +kernel)
theorem nm_COPY : Cond.native arraycopyName ∈ TB := TB_in (List.mem_of_getElem? (i := 416) (by decide +kernel)) (by decide +kernel)
theorem ml_X2_74 : Cond.methodLink RX2 74 yX2_isFree ∈ TB := TB_in (List.mem_of_getElem? (i := 417) (by decide +kernel)) (by decide +kernel)
theorem im_X2_isFree : Cond.instanceMethod yX2_isFree ∈ TB := TB_in (List.mem_of_getElem? (i := 419) (by decide +kernel)) (by decide +kernel)
theorem ml_X6_146 : Cond.methodLink RX6 146 yX2_dateOf ∈ TB := TB_in (List.mem_of_getElem? (i := 421) (by decide +kernel)) (by decide +kernel)
theorem im_X2_dateOf : Cond.instanceMethod yX2_dateOf ∈ TB := TB_in (List.mem_of_getElem? (i := 422) (by decide +kernel)) (by decide +kernel)
theorem se_X2_dateOf : Cond.selects RX2 yX2_dateOf yX2_dateOf ∈ TB := TB_in (List.mem_of_getElem? (i := 423) (by decide +kernel)) (by decide +kernel)
theorem ml_L_77 : Cond.methodLink RL 77 yX6_barred ∈ TB := TB_in (List.mem_of_getElem? (i := 425) (by decide +kernel)) (by decide +kernel)
theorem im_X6_barred : Cond.instanceMethod yX6_barred ∈ TB := TB_in (List.mem_of_getElem? (i := 426) (by decide +kernel)) (by decide +kernel)
theorem se_X6_barred : Cond.selects RX6 yX6_barred yX6_barred ∈ TB := TB_in (List.mem_of_getElem? (i := 427) (by decide +kernel)) (by decide +kernel)
theorem ml_X6_149 : Cond.methodLink RX6 149 yX1_isBarred ∈ TB := TB_in (List.mem_of_getElem? (i := 429) (by decide +kernel)) (by decide +kernel)
theorem im_X1_isBarred : Cond.instanceMethod yX1_isBarred ∈ TB := TB_in (List.mem_of_getElem? (i := 430) (by decide +kernel)) (by decide +kernel)
theorem se_X1_isBarred : Cond.selects RX1 yX1_isBarred yX1_isBarred ∈ TB := TB_in (List.mem_of_getElem? (i := 431) (by decide +kernel)) (by decide +kernel)
theorem ml_X1_51 : Cond.methodLink RX1 51 yX0_everAllHave ∈ TB := TB_in (List.mem_of_getElem? (i := 433) (by decide +kernel)) (by decide +kernel)
theorem im_X0_everAllHave : Cond.instanceMethod yX0_everAllHave ∈ TB := TB_in (List.mem_of_getElem? (i := 434) (by decide +kernel)) (by decide +kernel)
theorem se_X0_everAllHave : Cond.selects RX0 yX0_everAllHave yX0_everAllHave ∈ TB := TB_in (List.mem_of_getElem? (i := 435) (by decide +kernel)) (by decide +kernel)
theorem ml_X0_60 : Cond.methodLink RX0 60 yX0_allHave ∈ TB := TB_in (List.mem_of_getElem? (i := 437) (by decide +kernel)) (by decide +kernel)
theorem ml_L_81 : Cond.methodLink RL 81 yX6_why ∈ TB := TB_in (List.mem_of_getElem? (i := 438) (by decide +kernel)) (by decide +kernel)
theorem im_X6_why : Cond.instanceMethod yX6_why ∈ TB := TB_in (List.mem_of_getElem? (i := 439) (by decide +kernel)) (by decide +kernel)
theorem se_X6_why : Cond.selects RX6 yX6_why yX6_why ∈ TB := TB_in (List.mem_of_getElem? (i := 440) (by decide +kernel)) (by decide +kernel)
theorem ml_X6_152 : Cond.methodLink RX6 152 yX4_peopleOf ∈ TB := TB_in (List.mem_of_getElem? (i := 442) (by decide +kernel)) (by decide +kernel)
theorem ml_X6_155 : Cond.methodLink RX6 155 yX4_dayOf ∈ TB := TB_in (List.mem_of_getElem? (i := 443) (by decide +kernel)) (by decide +kernel)
theorem ml_X6_158 : Cond.methodLink RX6 158 yX0_whyNever ∈ TB := TB_in (List.mem_of_getElem? (i := 444) (by decide +kernel)) (by decide +kernel)
theorem im_X0_whyNever : Cond.instanceMethod yX0_whyNever ∈ TB := TB_in (List.mem_of_getElem? (i := 445) (by decide +kernel)) (by decide +kernel)
theorem se_X0_whyNever : Cond.selects RX0 yX0_whyNever yX0_whyNever ∈ TB := TB_in (List.mem_of_getElem? (i := 446) (by decide +kernel)) (by decide +kernel)
theorem ml_X0_63 : Cond.methodLink RX0 63 yX0_everAllHave ∈ TB := TB_in (List.mem_of_getElem? (i := 448) (by decide +kernel)) (by decide +kernel)
theorem ml_L_85 : Cond.methodLink RL 85 yX6_common ∈ TB := TB_in (List.mem_of_getElem? (i := 449) (by decide +kernel)) (by decide +kernel)
theorem im_X6_common : Cond.instanceMethod yX6_common ∈ TB := TB_in (List.mem_of_getElem? (i := 450) (by decide +kernel)) (by decide +kernel)
theorem se_X6_common : Cond.selects RX6 yX6_common yX6_common ∈ TB := TB_in (List.mem_of_getElem? (i := 451) (by decide +kernel)) (by decide +kernel)
theorem ml_L_89 : Cond.methodLink RL 89 yX6_wedding ∈ TB := TB_in (List.mem_of_getElem? (i := 453) (by decide +kernel)) (by decide +kernel)
theorem im_X6_wedding : Cond.instanceMethod yX6_wedding ∈ TB := TB_in (List.mem_of_getElem? (i := 454) (by decide +kernel)) (by decide +kernel)
theorem se_X6_wedding : Cond.selects RX6 yX6_wedding yX6_wedding ∈ TB := TB_in (List.mem_of_getElem? (i := 455) (by decide +kernel)) (by decide +kernel)
theorem ml_X6_161 : Cond.methodLink RX6 161 yX6_weddingCost ∈ TB := TB_in (List.mem_of_getElem? (i := 457) (by decide +kernel)) (by decide +kernel)
theorem im_X6_weddingCost : Cond.instanceMethod yX6_weddingCost ∈ TB := TB_in (List.mem_of_getElem? (i := 459) (by decide +kernel)) (by decide +kernel)
theorem ml_X6_164 : Cond.methodLink RX6 164 yX0_cost ∈ TB := TB_in (List.mem_of_getElem? (i := 461) (by decide +kernel)) (by decide +kernel)
theorem im_X0_cost : Cond.instanceMethod yX0_cost ∈ TB := TB_in (List.mem_of_getElem? (i := 462) (by decide +kernel)) (by decide +kernel)
theorem se_X0_cost : Cond.selects RX0 yX0_cost yX0_cost ∈ TB := TB_in (List.mem_of_getElem? (i := 463) (by decide +kernel)) (by decide +kernel)
theorem ml_X0_66 : Cond.methodLink RX0 66 yX0_sharedDates ∈ TB := TB_in (List.mem_of_getElem? (i := 465) (by decide +kernel)) (by decide +kernel)
theorem ml_L_93 : Cond.methodLink RL 93 yX6_best ∈ TB := TB_in (List.mem_of_getElem? (i := 466) (by decide +kernel)) (by decide +kernel)
theorem im_X6_best : Cond.instanceMethod yX6_best ∈ TB := TB_in (List.mem_of_getElem? (i := 467) (by decide +kernel)) (by decide +kernel)
theorem se_X6_best : Cond.selects RX6 yX6_best yX6_best ∈ TB := TB_in (List.mem_of_getElem? (i := 468) (by decide +kernel)) (by decide +kernel)
theorem ml_X6_167 : Cond.methodLink RX6 167 yX0_fewestShared ∈ TB := TB_in (List.mem_of_getElem? (i := 470) (by decide +kernel)) (by decide +kernel)
theorem im_X0_fewestShared : Cond.instanceMethod yX0_fewestShared ∈ TB := TB_in (List.mem_of_getElem? (i := 471) (by decide +kernel)) (by decide +kernel)
theorem se_X0_fewestShared : Cond.selects RX0 yX0_fewestShared yX0_fewestShared ∈ TB := TB_in (List.mem_of_getElem? (i := 472) (by decide +kernel)) (by decide +kernel)
theorem ml_X0_70 : Cond.methodLink RX0 70 yX0_isThere ∈ TB := TB_in (List.mem_of_getElem? (i := 474) (by decide +kernel)) (by decide +kernel)
theorem sm_X6_bornDay : Cond.static yX6_bornDay ∈ TB := TB_in (List.mem_of_getElem? (i := 476) (by decide +kernel)) (by decide +kernel)
theorem ml_X6_233 : Cond.methodLink RX6 233 yJ9_floorMod_7cf53 ∈ TB := TB_in (List.mem_of_getElem? (i := 478) (by decide +kernel)) (by decide +kernel)
theorem ml_X0_84 : Cond.methodLink RX0 84 yJ9_min_7cf53 ∈ TB := TB_in (List.mem_of_getElem? (i := 479) (by decide +kernel)) (by decide +kernel)
theorem ml_L_97 : Cond.methodLink RL 97 yX6_feast ∈ TB := TB_in (List.mem_of_getElem? (i := 480) (by decide +kernel)) (by decide +kernel)
theorem im_X6_feast : Cond.instanceMethod yX6_feast ∈ TB := TB_in (List.mem_of_getElem? (i := 481) (by decide +kernel)) (by decide +kernel)
theorem se_X6_feast : Cond.selects RX6 yX6_feast yX6_feast ∈ TB := TB_in (List.mem_of_getElem? (i := 482) (by decide +kernel)) (by decide +kernel)
theorem ml_X6_170 : Cond.methodLink RX6 170 yX0_feastOn ∈ TB := TB_in (List.mem_of_getElem? (i := 484) (by decide +kernel)) (by decide +kernel)
theorem im_X0_feastOn : Cond.instanceMethod yX0_feastOn ∈ TB := TB_in (List.mem_of_getElem? (i := 485) (by decide +kernel)) (by decide +kernel)
theorem se_X0_feastOn : Cond.selects RX0 yX0_feastOn yX0_feastOn ∈ TB := TB_in (List.mem_of_getElem? (i := 486) (by decide +kernel)) (by decide +kernel)
theorem ml_L_101 : Cond.methodLink RL 101 yX6_feasts ∈ TB := TB_in (List.mem_of_getElem? (i := 488) (by decide +kernel)) (by decide +kernel)
theorem im_X6_feasts : Cond.instanceMethod yX6_feasts ∈ TB := TB_in (List.mem_of_getElem? (i := 489) (by decide +kernel)) (by decide +kernel)
theorem se_X6_feasts : Cond.selects RX6 yX6_feasts yX6_feasts ∈ TB := TB_in (List.mem_of_getElem? (i := 490) (by decide +kernel)) (by decide +kernel)
theorem ml_L_105 : Cond.methodLink RL 105 yX6_poor ∈ TB := TB_in (List.mem_of_getElem? (i := 492) (by decide +kernel)) (by decide +kernel)
theorem im_X6_poor : Cond.instanceMethod yX6_poor ∈ TB := TB_in (List.mem_of_getElem? (i := 493) (by decide +kernel)) (by decide +kernel)
theorem se_X6_poor : Cond.selects RX6 yX6_poor yX6_poor ∈ TB := TB_in (List.mem_of_getElem? (i := 494) (by decide +kernel)) (by decide +kernel)
theorem ml_L_109 : Cond.methodLink RL 109 yX6_twins ∈ TB := TB_in (List.mem_of_getElem? (i := 496) (by decide +kernel)) (by decide +kernel)
theorem im_X6_twins : Cond.instanceMethod yX6_twins ∈ TB := TB_in (List.mem_of_getElem? (i := 497) (by decide +kernel)) (by decide +kernel)
theorem se_X6_twins : Cond.selects RX6 yX6_twins yX6_twins ∈ TB := TB_in (List.mem_of_getElem? (i := 498) (by decide +kernel)) (by decide +kernel)
theorem ml_L_113 : Cond.methodLink RL 113 yX6_oneOrder ∈ TB := TB_in (List.mem_of_getElem? (i := 500) (by decide +kernel)) (by decide +kernel)
theorem im_X6_oneOrder : Cond.instanceMethod yX6_oneOrder ∈ TB := TB_in (List.mem_of_getElem? (i := 501) (by decide +kernel)) (by decide +kernel)
theorem se_X6_oneOrder : Cond.selects RX6 yX6_oneOrder yX6_oneOrder ∈ TB := TB_in (List.mem_of_getElem? (i := 502) (by decide +kernel)) (by decide +kernel)
theorem ml_X6_173 : Cond.methodLink RX6 173 yX0_datesApart ∈ TB := TB_in (List.mem_of_getElem? (i := 504) (by decide +kernel)) (by decide +kernel)
theorem im_X0_datesApart : Cond.instanceMethod yX0_datesApart ∈ TB := TB_in (List.mem_of_getElem? (i := 505) (by decide +kernel)) (by decide +kernel)
theorem se_X0_datesApart : Cond.selects RX0 yX0_datesApart yX0_datesApart ∈ TB := TB_in (List.mem_of_getElem? (i := 506) (by decide +kernel)) (by decide +kernel)
theorem ml_X0_77 : Cond.methodLink RX0 77 yX0_commonDay ∈ TB := TB_in (List.mem_of_getElem? (i := 508) (by decide +kernel)) (by decide +kernel)
theorem ml_X6_176 : Cond.methodLink RX6 176 yX0_costOfAll ∈ TB := TB_in (List.mem_of_getElem? (i := 509) (by decide +kernel)) (by decide +kernel)
theorem im_X0_costOfAll : Cond.instanceMethod yX0_costOfAll ∈ TB := TB_in (List.mem_of_getElem? (i := 510) (by decide +kernel)) (by decide +kernel)
theorem se_X0_costOfAll : Cond.selects RX0 yX0_costOfAll yX0_costOfAll ∈ TB := TB_in (List.mem_of_getElem? (i := 511) (by decide +kernel)) (by decide +kernel)
theorem ml_X0_74 : Cond.methodLink RX0 74 yX0_cost ∈ TB := TB_in (List.mem_of_getElem? (i := 513) (by decide +kernel)) (by decide +kernel)
theorem ml_L_117 : Cond.methodLink RL 117 yX6_seen ∈ TB := TB_in (List.mem_of_getElem? (i := 514) (by decide +kernel)) (by decide +kernel)
theorem im_X6_seen : Cond.instanceMethod yX6_seen ∈ TB := TB_in (List.mem_of_getElem? (i := 515) (by decide +kernel)) (by decide +kernel)
theorem se_X6_seen : Cond.selects RX6 yX6_seen yX6_seen ∈ TB := TB_in (List.mem_of_getElem? (i := 516) (by decide +kernel)) (by decide +kernel)
theorem ml_X6_183 : Cond.methodLink RX6 183 yX5_add ∈ TB := TB_in (List.mem_of_getElem? (i := 518) (by decide +kernel)) (by decide +kernel)
theorem im_X5_add : Cond.instanceMethod yX5_add ∈ TB := TB_in (List.mem_of_getElem? (i := 519) (by decide +kernel)) (by decide +kernel)
theorem se_X5_add : Cond.selects RX5 yX5_add yX5_add ∈ TB := TB_in (List.mem_of_getElem? (i := 520) (by decide +kernel)) (by decide +kernel)
theorem ml_L_121 : Cond.methodLink RL 121 yX6_forget ∈ TB := TB_in (List.mem_of_getElem? (i := 523) (by decide +kernel)) (by decide +kernel)
theorem im_X6_forget : Cond.instanceMethod yX6_forget ∈ TB := TB_in (List.mem_of_getElem? (i := 524) (by decide +kernel)) (by decide +kernel)
theorem se_X6_forget : Cond.selects RX6 yX6_forget yX6_forget ∈ TB := TB_in (List.mem_of_getElem? (i := 525) (by decide +kernel)) (by decide +kernel)
theorem ml_L_125 : Cond.methodLink RL 125 yX6_whose ∈ TB := TB_in (List.mem_of_getElem? (i := 527) (by decide +kernel)) (by decide +kernel)
theorem im_X6_whose : Cond.instanceMethod yX6_whose ∈ TB := TB_in (List.mem_of_getElem? (i := 528) (by decide +kernel)) (by decide +kernel)
theorem se_X6_whose : Cond.selects RX6 yX6_whose yX6_whose ∈ TB := TB_in (List.mem_of_getElem? (i := 529) (by decide +kernel)) (by decide +kernel)
theorem ml_X6_188 : Cond.methodLink RX6 188 yX1_fitsSights ∈ TB := TB_in (List.mem_of_getElem? (i := 531) (by decide +kernel)) (by decide +kernel)
theorem im_X1_fitsSights : Cond.instanceMethod yX1_fitsSights ∈ TB := TB_in (List.mem_of_getElem? (i := 532) (by decide +kernel)) (by decide +kernel)
theorem se_X1_fitsSights : Cond.selects RX1 yX1_fitsSights yX1_fitsSights ∈ TB := TB_in (List.mem_of_getElem? (i := 533) (by decide +kernel)) (by decide +kernel)
theorem ml_X1_55 : Cond.methodLink RX1 55 yX0_isThere ∈ TB := TB_in (List.mem_of_getElem? (i := 535) (by decide +kernel)) (by decide +kernel)
theorem ml_X1_63 : Cond.methodLink RX1 63 yX5_dateOf ∈ TB := TB_in (List.mem_of_getElem? (i := 536) (by decide +kernel)) (by decide +kernel)
theorem im_X5_dateOf : Cond.instanceMethod yX5_dateOf ∈ TB := TB_in (List.mem_of_getElem? (i := 537) (by decide +kernel)) (by decide +kernel)
theorem se_X5_dateOf : Cond.selects RX5 yX5_dateOf yX5_dateOf ∈ TB := TB_in (List.mem_of_getElem? (i := 538) (by decide +kernel)) (by decide +kernel)
theorem ml_X1_66 : Cond.methodLink RX1 66 yX0_dayOn ∈ TB := TB_in (List.mem_of_getElem? (i := 540) (by decide +kernel)) (by decide +kernel)
theorem ml_X1_70 : Cond.methodLink RX1 70 yX5_wasShut ∈ TB := TB_in (List.mem_of_getElem? (i := 541) (by decide +kernel)) (by decide +kernel)
theorem im_X5_wasShut : Cond.instanceMethod yX5_wasShut ∈ TB := TB_in (List.mem_of_getElem? (i := 542) (by decide +kernel)) (by decide +kernel)
theorem se_X5_wasShut : Cond.selects RX5 yX5_wasShut yX5_wasShut ∈ TB := TB_in (List.mem_of_getElem? (i := 543) (by decide +kernel)) (by decide +kernel)
theorem ml_L_129 : Cond.methodLink RL 129 yX6_sure ∈ TB := TB_in (List.mem_of_getElem? (i := 545) (by decide +kernel)) (by decide +kernel)
theorem im_X6_sure : Cond.instanceMethod yX6_sure ∈ TB := TB_in (List.mem_of_getElem? (i := 546) (by decide +kernel)) (by decide +kernel)
theorem se_X6_sure : Cond.selects RX6 yX6_sure yX6_sure ∈ TB := TB_in (List.mem_of_getElem? (i := 547) (by decide +kernel)) (by decide +kernel)
theorem ml_L_133 : Cond.methodLink RL 133 yX6_chance ∈ TB := TB_in (List.mem_of_getElem? (i := 549) (by decide +kernel)) (by decide +kernel)
theorem im_X6_chance : Cond.instanceMethod yX6_chance ∈ TB := TB_in (List.mem_of_getElem? (i := 550) (by decide +kernel)) (by decide +kernel)
theorem se_X6_chance : Cond.selects RX6 yX6_chance yX6_chance ∈ TB := TB_in (List.mem_of_getElem? (i := 551) (by decide +kernel)) (by decide +kernel)
theorem ct_X6_191 : Cond.constantLong RX6 191 (-1000000000000000001) ∈ TB := TB_in (List.mem_of_getElem? (i := 553) (by decide +kernel)) (by decide +kernel)
theorem ct_X6_193 : Cond.constantLong RX6 193 (-1000000000000000002) ∈ TB := TB_in (List.mem_of_getElem? (i := 554) (by decide +kernel)) (by decide +kernel)
theorem ml_X6_195 : Cond.methodLink RX6 195 yX6_chanceOfDay ∈ TB := TB_in (List.mem_of_getElem? (i := 555) (by decide +kernel)) (by decide +kernel)
theorem sm_X6_chanceOfDay : Cond.static yX6_chanceOfDay ∈ TB := TB_in (List.mem_of_getElem? (i := 556) (by decide +kernel)) (by decide +kernel)
theorem ml_X6_236 : Cond.methodLink RX6 236 yX6_bornDay ∈ TB := TB_in (List.mem_of_getElem? (i := 558) (by decide +kernel)) (by decide +kernel)
theorem ml_X6_240 : Cond.methodLink RX6 240 yX6_greatestFactor ∈ TB := TB_in (List.mem_of_getElem? (i := 559) (by decide +kernel)) (by decide +kernel)
theorem sm_X6_greatestFactor : Cond.static yX6_greatestFactor ∈ TB := TB_in (List.mem_of_getElem? (i := 560) (by decide +kernel)) (by decide +kernel)
theorem ml_L_138 : Cond.methodLink RL 138 yX6_shares ∈ TB := TB_in (List.mem_of_getElem? (i := 562) (by decide +kernel)) (by decide +kernel)
theorem im_X6_shares : Cond.instanceMethod yX6_shares ∈ TB := TB_in (List.mem_of_getElem? (i := 563) (by decide +kernel)) (by decide +kernel)
theorem se_X6_shares : Cond.selects RX6 yX6_shares yX6_shares ∈ TB := TB_in (List.mem_of_getElem? (i := 564) (by decide +kernel)) (by decide +kernel)
theorem ml_L_142 : Cond.methodLink RL 142 yX6_year ∈ TB := TB_in (List.mem_of_getElem? (i := 566) (by decide +kernel)) (by decide +kernel)
theorem im_X6_year : Cond.instanceMethod yX6_year ∈ TB := TB_in (List.mem_of_getElem? (i := 567) (by decide +kernel)) (by decide +kernel)
theorem se_X6_year : Cond.selects RX6 yX6_year yX6_year ∈ TB := TB_in (List.mem_of_getElem? (i := 568) (by decide +kernel)) (by decide +kernel)
theorem ct_X6_199 : Cond.constant RX6 199 (zI 65537) ∈ TB := TB_in (List.mem_of_getElem? (i := 570) (by decide +kernel)) (by decide +kernel)
theorem ml_X6_200 : Cond.methodLink RX6 200 yX0_share ∈ TB := TB_in (List.mem_of_getElem? (i := 571) (by decide +kernel)) (by decide +kernel)
theorem ml_L_146 : Cond.methodLink RL 146 yX6_image ∈ TB := TB_in (List.mem_of_getElem? (i := 572) (by decide +kernel)) (by decide +kernel)
theorem im_X6_image : Cond.instanceMethod yX6_image ∈ TB := TB_in (List.mem_of_getElem? (i := 573) (by decide +kernel)) (by decide +kernel)
theorem se_X6_image : Cond.selects RX6 yX6_image yX6_image ∈ TB := TB_in (List.mem_of_getElem? (i := 574) (by decide +kernel)) (by decide +kernel)
theorem ml_X6_203 : Cond.methodLink RX6 203 yX1_become ∈ TB := TB_in (List.mem_of_getElem? (i := 576) (by decide +kernel)) (by decide +kernel)
theorem im_X1_become : Cond.instanceMethod yX1_become ∈ TB := TB_in (List.mem_of_getElem? (i := 577) (by decide +kernel)) (by decide +kernel)
theorem se_X1_become : Cond.selects RX1 yX1_become yX1_become ∈ TB := TB_in (List.mem_of_getElem? (i := 578) (by decide +kernel)) (by decide +kernel)
theorem ml_X1_30 : Cond.methodLink RX1 30 yX0_become ∈ TB := TB_in (List.mem_of_getElem? (i := 580) (by decide +kernel)) (by decide +kernel)
theorem im_X0_become : Cond.instanceMethod yX0_become ∈ TB := TB_in (List.mem_of_getElem? (i := 581) (by decide +kernel)) (by decide +kernel)
theorem se_X0_become : Cond.selects RX0 yX0_become yX0_become ∈ TB := TB_in (List.mem_of_getElem? (i := 582) (by decide +kernel)) (by decide +kernel)
theorem ml_X0_28 : Cond.methodLink RX0 28 arraycopyName ∈ TB := TB_in (List.mem_of_getElem? (i := 584) (by decide +kernel)) (by decide +kernel)
theorem ml_X1_34 : Cond.methodLink RX1 34 yX4_become ∈ TB := TB_in (List.mem_of_getElem? (i := 585) (by decide +kernel)) (by decide +kernel)
theorem im_X4_become : Cond.instanceMethod yX4_become ∈ TB := TB_in (List.mem_of_getElem? (i := 586) (by decide +kernel)) (by decide +kernel)
theorem se_X4_become : Cond.selects RX4 yX4_become yX4_become ∈ TB := TB_in (List.mem_of_getElem? (i := 587) (by decide +kernel)) (by decide +kernel)
theorem ml_X4_22 : Cond.methodLink RX4 22 arraycopyName ∈ TB := TB_in (List.mem_of_getElem? (i := 589) (by decide +kernel)) (by decide +kernel)
theorem ml_X1_37 : Cond.methodLink RX1 37 yX5_become ∈ TB := TB_in (List.mem_of_getElem? (i := 590) (by decide +kernel)) (by decide +kernel)
theorem im_X5_become : Cond.instanceMethod yX5_become ∈ TB := TB_in (List.mem_of_getElem? (i := 591) (by decide +kernel)) (by decide +kernel)
theorem se_X5_become : Cond.selects RX5 yX5_become yX5_become ∈ TB := TB_in (List.mem_of_getElem? (i := 592) (by decide +kernel)) (by decide +kernel)
theorem ml_X5_22 : Cond.methodLink RX5 22 arraycopyName ∈ TB := TB_in (List.mem_of_getElem? (i := 594) (by decide +kernel)) (by decide +kernel)
theorem ml_L_150 : Cond.methodLink RL 150 yX6_restore ∈ TB := TB_in (List.mem_of_getElem? (i := 595) (by decide +kernel)) (by decide +kernel)
theorem im_X6_restore : Cond.instanceMethod yX6_restore ∈ TB := TB_in (List.mem_of_getElem? (i := 596) (by decide +kernel)) (by decide +kernel)
theorem se_X6_restore : Cond.selects RX6 yX6_restore yX6_restore ∈ TB := TB_in (List.mem_of_getElem? (i := 597) (by decide +kernel)) (by decide +kernel)
theorem ml_L_154 : Cond.methodLink RL 154 yX6_told ∈ TB := TB_in (List.mem_of_getElem? (i := 599) (by decide +kernel)) (by decide +kernel)
theorem im_X6_told : Cond.instanceMethod yX6_told ∈ TB := TB_in (List.mem_of_getElem? (i := 600) (by decide +kernel)) (by decide +kernel)
theorem se_X6_told : Cond.selects RX6 yX6_told yX6_told ∈ TB := TB_in (List.mem_of_getElem? (i := 601) (by decide +kernel)) (by decide +kernel)
theorem ml_X6_207 : Cond.methodLink RX6 207 yX6_toldOfPerson ∈ TB := TB_in (List.mem_of_getElem? (i := 603) (by decide +kernel)) (by decide +kernel)
theorem im_X6_toldOfPerson : Cond.instanceMethod yX6_toldOfPerson ∈ TB := TB_in (List.mem_of_getElem? (i := 605) (by decide +kernel)) (by decide +kernel)
theorem ml_X6_213 : Cond.methodLink RX6 213 yX0_birthOf ∈ TB := TB_in (List.mem_of_getElem? (i := 607) (by decide +kernel)) (by decide +kernel)
theorem im_X0_birthOf : Cond.instanceMethod yX0_birthOf ∈ TB := TB_in (List.mem_of_getElem? (i := 608) (by decide +kernel)) (by decide +kernel)
theorem se_X0_birthOf : Cond.selects RX0 yX0_birthOf yX0_birthOf ∈ TB := TB_in (List.mem_of_getElem? (i := 609) (by decide +kernel)) (by decide +kernel)
theorem ml_X6_216 : Cond.methodLink RX6 216 yX0_sizeOf ∈ TB := TB_in (List.mem_of_getElem? (i := 611) (by decide +kernel)) (by decide +kernel)
theorem im_X0_sizeOf : Cond.instanceMethod yX0_sizeOf ∈ TB := TB_in (List.mem_of_getElem? (i := 612) (by decide +kernel)) (by decide +kernel)
theorem se_X0_sizeOf : Cond.selects RX0 yX0_sizeOf yX0_sizeOf ∈ TB := TB_in (List.mem_of_getElem? (i := 613) (by decide +kernel)) (by decide +kernel)
theorem ml_X6_219 : Cond.methodLink RX6 219 yX0_dayAt ∈ TB := TB_in (List.mem_of_getElem? (i := 615) (by decide +kernel)) (by decide +kernel)
theorem im_X0_dayAt : Cond.instanceMethod yX0_dayAt ∈ TB := TB_in (List.mem_of_getElem? (i := 616) (by decide +kernel)) (by decide +kernel)
theorem se_X0_dayAt : Cond.selects RX0 yX0_dayAt yX0_dayAt ∈ TB := TB_in (List.mem_of_getElem? (i := 617) (by decide +kernel)) (by decide +kernel)
theorem ml_X6_210 : Cond.methodLink RX6 210 yX6_toldOfWork ∈ TB := TB_in (List.mem_of_getElem? (i := 619) (by decide +kernel)) (by decide +kernel)
theorem im_X6_toldOfWork : Cond.instanceMethod yX6_toldOfWork ∈ TB := TB_in (List.mem_of_getElem? (i := 621) (by decide +kernel)) (by decide +kernel)
theorem cl_L_10 : Cond.classLink RL 10 RX7 ∈ TB := TB_in (List.mem_of_getElem? (i := 623) (by decide +kernel)) (by decide +kernel)
theorem fn_L_10 : FN RL 10 7 14 tyX7 := ⟨RX7, TX7, rfl, in_X7, tyX7_ok, TB_in (List.mem_of_getElem? (i := 623) (by decide +kernel)) (by decide +kernel), TB_in (List.mem_of_getElem? (i := 624) (by decide +kernel)) (by decide +kernel), TB_in (List.mem_of_getElem? (i := 42) (by decide +kernel)) (by decide +kernel)⟩
theorem ml_L_12 : Cond.methodLink RL 12 yX7_init ∈ TB := TB_in (List.mem_of_getElem? (i := 625) (by decide +kernel)) (by decide +kernel)
theorem im_X7_init : Cond.instanceMethod yX7_init ∈ TB := TB_in (List.mem_of_getElem? (i := 626) (by decide +kernel)) (by decide +kernel)
theorem ml_X7_1 : Cond.methodLink RX7 1 objectInit ∈ TB := TB_in (List.mem_of_getElem? (i := 628) (by decide +kernel)) (by decide +kernel)
theorem fl_X7_41 : FL RX7 41 7 0 := ⟨RX7, TX7, 14, rfl, by decide, in_X7, TB_in (List.mem_of_getElem? (i := 629) (by decide +kernel)) (by decide +kernel)⟩
theorem fp_X7_41 : FP RX7 41 7 0 .int := ⟨RX7, TX7, 14, tyX7, rfl, by decide, in_X7, TB_in (List.mem_of_getElem? (i := 629) (by decide +kernel)) (by decide +kernel), tyX7_ok, nmX7, rfl, by decide +kernel⟩
theorem fl_X7_7 : FL RX7 7 7 1 := ⟨RX7, TX7, 14, rfl, by decide, in_X7, TB_in (List.mem_of_getElem? (i := 630) (by decide +kernel)) (by decide +kernel)⟩
theorem fq_X7_7 : FPF RX7 7 7 1 (.array .int) := ⟨RX7, TX7, 14, tyX7, rfl, by decide, in_X7, TB_in (List.mem_of_getElem? (i := 630) (by decide +kernel)) (by decide +kernel), tyX7_ok, nmX7, rfl, rfl, by decide +kernel⟩
theorem fl_X7_13 : FL RX7 13 7 2 := ⟨RX7, TX7, 14, rfl, by decide, in_X7, TB_in (List.mem_of_getElem? (i := 631) (by decide +kernel)) (by decide +kernel)⟩
theorem fq_X7_13 : FPF RX7 13 7 2 (.array .int) := ⟨RX7, TX7, 14, tyX7, rfl, by decide, in_X7, TB_in (List.mem_of_getElem? (i := 631) (by decide +kernel)) (by decide +kernel), tyX7_ok, nmX7, rfl, rfl, by decide +kernel⟩
theorem fl_X7_16 : FL RX7 16 7 3 := ⟨RX7, TX7, 14, rfl, by decide, in_X7, TB_in (List.mem_of_getElem? (i := 632) (by decide +kernel)) (by decide +kernel)⟩
theorem fq_X7_16 : FPF RX7 16 7 3 (.array .int) := ⟨RX7, TX7, 14, tyX7, rfl, by decide, in_X7, TB_in (List.mem_of_getElem? (i := 632) (by decide +kernel)) (by decide +kernel), tyX7_ok, nmX7, rfl, rfl, by decide +kernel⟩
theorem fl_X7_74 : FL RX7 74 7 4 := ⟨RX7, TX7, 14, rfl, by decide, in_X7, TB_in (List.mem_of_getElem? (i := 633) (by decide +kernel)) (by decide +kernel)⟩
theorem fp_X7_74 : FP RX7 74 7 4 .int := ⟨RX7, TX7, 14, tyX7, rfl, by decide, in_X7, TB_in (List.mem_of_getElem? (i := 633) (by decide +kernel)) (by decide +kernel), tyX7_ok, nmX7, rfl, by decide +kernel⟩
theorem fl_X7_19 : FL RX7 19 7 5 := ⟨RX7, TX7, 14, rfl, by decide, in_X7, TB_in (List.mem_of_getElem? (i := 634) (by decide +kernel)) (by decide +kernel)⟩
theorem fq_X7_19 : FPF RX7 19 7 5 (.array .int) := ⟨RX7, TX7, 14, tyX7, rfl, by decide, in_X7, TB_in (List.mem_of_getElem? (i := 634) (by decide +kernel)) (by decide +kernel), tyX7_ok, nmX7, rfl, rfl, by decide +kernel⟩
theorem fl_X7_22 : FL RX7 22 7 6 := ⟨RX7, TX7, 14, rfl, by decide, in_X7, TB_in (List.mem_of_getElem? (i := 635) (by decide +kernel)) (by decide +kernel)⟩
theorem fq_X7_22 : FPF RX7 22 7 6 (.array .int) := ⟨RX7, TX7, 14, tyX7, rfl, by decide, in_X7, TB_in (List.mem_of_getElem? (i := 635) (by decide +kernel)) (by decide +kernel), tyX7_ok, nmX7, rfl, rfl, by decide +kernel⟩
theorem fl_X7_128 : FL RX7 128 7 7 := ⟨RX7, TX7, 14, rfl, by decide, in_X7, TB_in (List.mem_of_getElem? (i := 636) (by decide +kernel)) (by decide +kernel)⟩
theorem fp_X7_128 : FP RX7 128 7 7 .int := ⟨RX7, TX7, 14, tyX7, rfl, by decide, in_X7, TB_in (List.mem_of_getElem? (i := 636) (by decide +kernel)) (by decide +kernel), tyX7_ok, nmX7, rfl, by decide +kernel⟩
theorem fl_X7_25 : FL RX7 25 7 8 := ⟨RX7, TX7, 14, rfl, by decide, in_X7, TB_in (List.mem_of_getElem? (i := 637) (by decide +kernel)) (by decide +kernel)⟩
theorem fq_X7_25 : FPF RX7 25 7 8 (.array .int) := ⟨RX7, TX7, 14, tyX7, rfl, by decide, in_X7, TB_in (List.mem_of_getElem? (i := 637) (by decide +kernel)) (by decide +kernel), tyX7_ok, nmX7, rfl, rfl, by decide +kernel⟩
theorem fl_X7_53 : FL RX7 53 7 9 := ⟨RX7, TX7, 14, rfl, by decide, in_X7, TB_in (List.mem_of_getElem? (i := 638) (by decide +kernel)) (by decide +kernel)⟩
theorem fp_X7_53 : FP RX7 53 7 9 .int := ⟨RX7, TX7, 14, tyX7, rfl, by decide, in_X7, TB_in (List.mem_of_getElem? (i := 638) (by decide +kernel)) (by decide +kernel), tyX7_ok, nmX7, rfl, by decide +kernel⟩
theorem fl_X7_28 : FL RX7 28 7 10 := ⟨RX7, TX7, 14, rfl, by decide, in_X7, TB_in (List.mem_of_getElem? (i := 639) (by decide +kernel)) (by decide +kernel)⟩
theorem fq_X7_28 : FPF RX7 28 7 10 (.array .int) := ⟨RX7, TX7, 14, tyX7, rfl, by decide, in_X7, TB_in (List.mem_of_getElem? (i := 639) (by decide +kernel)) (by decide +kernel), tyX7_ok, nmX7, rfl, rfl, by decide +kernel⟩
theorem fl_X7_31 : FL RX7 31 7 11 := ⟨RX7, TX7, 14, rfl, by decide, in_X7, TB_in (List.mem_of_getElem? (i := 640) (by decide +kernel)) (by decide +kernel)⟩
theorem fq_X7_31 : FPF RX7 31 7 11 (.array .int) := ⟨RX7, TX7, 14, tyX7, rfl, by decide, in_X7, TB_in (List.mem_of_getElem? (i := 640) (by decide +kernel)) (by decide +kernel), tyX7_ok, nmX7, rfl, rfl, by decide +kernel⟩
theorem fl_X7_34 : FL RX7 34 7 12 := ⟨RX7, TX7, 14, rfl, by decide, in_X7, TB_in (List.mem_of_getElem? (i := 641) (by decide +kernel)) (by decide +kernel)⟩
theorem fq_X7_34 : FPF RX7 34 7 12 (.array .int) := ⟨RX7, TX7, 14, tyX7, rfl, by decide, in_X7, TB_in (List.mem_of_getElem? (i := 641) (by decide +kernel)) (by decide +kernel), tyX7_ok, nmX7, rfl, rfl, by decide +kernel⟩
theorem fl_X7_37 : FL RX7 37 7 13 := ⟨RX7, TX7, 14, rfl, by decide, in_X7, TB_in (List.mem_of_getElem? (i := 642) (by decide +kernel)) (by decide +kernel)⟩
theorem fq_X7_37 : FPF RX7 37 7 13 (.array .boolean) := ⟨RX7, TX7, 14, tyX7, rfl, by decide, in_X7, TB_in (List.mem_of_getElem? (i := 642) (by decide +kernel)) (by decide +kernel), tyX7_ok, nmX7, rfl, rfl, by decide +kernel⟩
theorem ac_boolean : Cond.arrayClass .boolean ∈ TB := TB_in (List.mem_of_getElem? (i := 672) (by decide +kernel)) (by decide +kernel)
theorem ml_L_17 : Cond.methodLink RL 17 yX7_say ∈ TB := TB_in (List.mem_of_getElem? (i := 673) (by decide +kernel)) (by decide +kernel)
theorem im_X7_say : Cond.instanceMethod yX7_say ∈ TB := TB_in (List.mem_of_getElem? (i := 674) (by decide +kernel)) (by decide +kernel)
theorem se_X7_say : Cond.selects RX7 yX7_say yX7_say ∈ TB := TB_in (List.mem_of_getElem? (i := 675) (by decide +kernel)) (by decide +kernel)
theorem ml_X7_45 : Cond.methodLink RX7 45 yX7_in ∈ TB := TB_in (List.mem_of_getElem? (i := 677) (by decide +kernel)) (by decide +kernel)
theorem sm_X7_in : Cond.static yX7_in ∈ TB := TB_in (List.mem_of_getElem? (i := 678) (by decide +kernel)) (by decide +kernel)
theorem ml_L_22 : Cond.methodLink RL 22 yX7_wipe ∈ TB := TB_in (List.mem_of_getElem? (i := 680) (by decide +kernel)) (by decide +kernel)
theorem im_X7_wipe : Cond.instanceMethod yX7_wipe ∈ TB := TB_in (List.mem_of_getElem? (i := 681) (by decide +kernel)) (by decide +kernel)
theorem se_X7_wipe : Cond.selects RX7 yX7_wipe yX7_wipe ∈ TB := TB_in (List.mem_of_getElem? (i := 682) (by decide +kernel)) (by decide +kernel)
theorem ml_L_26 : Cond.methodLink RL 26 yX7_fault ∈ TB := TB_in (List.mem_of_getElem? (i := 684) (by decide +kernel)) (by decide +kernel)
theorem im_X7_fault : Cond.instanceMethod yX7_fault ∈ TB := TB_in (List.mem_of_getElem? (i := 685) (by decide +kernel)) (by decide +kernel)
theorem se_X7_fault : Cond.selects RX7 yX7_fault yX7_fault ∈ TB := TB_in (List.mem_of_getElem? (i := 686) (by decide +kernel)) (by decide +kernel)
theorem ml_X7_60 : Cond.methodLink RX7 60 yX7_orderFault ∈ TB := TB_in (List.mem_of_getElem? (i := 688) (by decide +kernel)) (by decide +kernel)
theorem im_X7_orderFault : Cond.instanceMethod yX7_orderFault ∈ TB := TB_in (List.mem_of_getElem? (i := 690) (by decide +kernel)) (by decide +kernel)
theorem ml_X7_56 : Cond.methodLink RX7 56 yX7_isDay ∈ TB := TB_in (List.mem_of_getElem? (i := 692) (by decide +kernel)) (by decide +kernel)
theorem sm_X7_isDay : Cond.static yX7_isDay ∈ TB := TB_in (List.mem_of_getElem? (i := 693) (by decide +kernel)) (by decide +kernel)
theorem ml_X7_49 : Cond.methodLink RX7 49 yX7_has ∈ TB := TB_in (List.mem_of_getElem? (i := 695) (by decide +kernel)) (by decide +kernel)
theorem sm_X7_has : Cond.static yX7_has ∈ TB := TB_in (List.mem_of_getElem? (i := 696) (by decide +kernel)) (by decide +kernel)
theorem ml_X7_64 : Cond.methodLink RX7 64 yX7_planFault ∈ TB := TB_in (List.mem_of_getElem? (i := 698) (by decide +kernel)) (by decide +kernel)
theorem im_X7_planFault : Cond.instanceMethod yX7_planFault ∈ TB := TB_in (List.mem_of_getElem? (i := 700) (by decide +kernel)) (by decide +kernel)
theorem ml_L_31 : Cond.methodLink RL 31 yX7_born ∈ TB := TB_in (List.mem_of_getElem? (i := 702) (by decide +kernel)) (by decide +kernel)
theorem im_X7_born : Cond.instanceMethod yX7_born ∈ TB := TB_in (List.mem_of_getElem? (i := 703) (by decide +kernel)) (by decide +kernel)
theorem se_X7_born : Cond.selects RX7 yX7_born yX7_born ∈ TB := TB_in (List.mem_of_getElem? (i := 704) (by decide +kernel)) (by decide +kernel)
theorem ml_L_35 : Cond.methodLink RL 35 yX7_exile ∈ TB := TB_in (List.mem_of_getElem? (i := 706) (by decide +kernel)) (by decide +kernel)
theorem im_X7_exile : Cond.instanceMethod yX7_exile ∈ TB := TB_in (List.mem_of_getElem? (i := 707) (by decide +kernel)) (by decide +kernel)
theorem se_X7_exile : Cond.selects RX7 yX7_exile yX7_exile ∈ TB := TB_in (List.mem_of_getElem? (i := 708) (by decide +kernel)) (by decide +kernel)
theorem ml_X7_67 : Cond.methodLink RX7 67 yX7_isThere ∈ TB := TB_in (List.mem_of_getElem? (i := 710) (by decide +kernel)) (by decide +kernel)
theorem im_X7_isThere : Cond.instanceMethod yX7_isThere ∈ TB := TB_in (List.mem_of_getElem? (i := 712) (by decide +kernel)) (by decide +kernel)
theorem ml_X7_70 : Cond.methodLink RX7 70 yX7_bits ∈ TB := TB_in (List.mem_of_getElem? (i := 714) (by decide +kernel)) (by decide +kernel)
theorem sm_X7_bits : Cond.static yX7_bits ∈ TB := TB_in (List.mem_of_getElem? (i := 715) (by decide +kernel)) (by decide +kernel)
theorem ml_L_39 : Cond.methodLink RL 39 yX7_plan ∈ TB := TB_in (List.mem_of_getElem? (i := 717) (by decide +kernel)) (by decide +kernel)
theorem im_X7_plan : Cond.instanceMethod yX7_plan ∈ TB := TB_in (List.mem_of_getElem? (i := 718) (by decide +kernel)) (by decide +kernel)
theorem se_X7_plan : Cond.selects RX7 yX7_plan yX7_plan ∈ TB := TB_in (List.mem_of_getElem? (i := 719) (by decide +kernel)) (by decide +kernel)
theorem ml_L_43 : Cond.methodLink RL 43 yX7_today ∈ TB := TB_in (List.mem_of_getElem? (i := 721) (by decide +kernel)) (by decide +kernel)
theorem im_X7_today : Cond.instanceMethod yX7_today ∈ TB := TB_in (List.mem_of_getElem? (i := 722) (by decide +kernel)) (by decide +kernel)
theorem se_X7_today : Cond.selects RX7 yX7_today yX7_today ∈ TB := TB_in (List.mem_of_getElem? (i := 723) (by decide +kernel)) (by decide +kernel)
theorem ml_X7_77 : Cond.methodLink RX7 77 yX7_isDate ∈ TB := TB_in (List.mem_of_getElem? (i := 725) (by decide +kernel)) (by decide +kernel)
theorem sm_X7_isDate : Cond.static yX7_isDate ∈ TB := TB_in (List.mem_of_getElem? (i := 726) (by decide +kernel)) (by decide +kernel)
theorem ml_X7_80 : Cond.methodLink RX7 80 yX7_dayOf ∈ TB := TB_in (List.mem_of_getElem? (i := 728) (by decide +kernel)) (by decide +kernel)
theorem im_X7_dayOf : Cond.instanceMethod yX7_dayOf ∈ TB := TB_in (List.mem_of_getElem? (i := 730) (by decide +kernel)) (by decide +kernel)
theorem ml_L_47 : Cond.methodLink RL 47 yX7_same ∈ TB := TB_in (List.mem_of_getElem? (i := 732) (by decide +kernel)) (by decide +kernel)
theorem im_X7_same : Cond.instanceMethod yX7_same ∈ TB := TB_in (List.mem_of_getElem? (i := 733) (by decide +kernel)) (by decide +kernel)
theorem se_X7_same : Cond.selects RX7 yX7_same yX7_same ∈ TB := TB_in (List.mem_of_getElem? (i := 734) (by decide +kernel)) (by decide +kernel)
theorem ml_X7_84 : Cond.methodLink RX7 84 yX7_having ∈ TB := TB_in (List.mem_of_getElem? (i := 736) (by decide +kernel)) (by decide +kernel)
theorem im_X7_having : Cond.instanceMethod yX7_having ∈ TB := TB_in (List.mem_of_getElem? (i := 738) (by decide +kernel)) (by decide +kernel)
theorem ml_L_52 : Cond.methodLink RL 52 yX7_next ∈ TB := TB_in (List.mem_of_getElem? (i := 740) (by decide +kernel)) (by decide +kernel)
theorem im_X7_next : Cond.instanceMethod yX7_next ∈ TB := TB_in (List.mem_of_getElem? (i := 741) (by decide +kernel)) (by decide +kernel)
theorem se_X7_next : Cond.selects RX7 yX7_next yX7_next ∈ TB := TB_in (List.mem_of_getElem? (i := 742) (by decide +kernel)) (by decide +kernel)
theorem ml_L_56 : Cond.methodLink RL 56 yX7_meet ∈ TB := TB_in (List.mem_of_getElem? (i := 744) (by decide +kernel)) (by decide +kernel)
theorem im_X7_meet : Cond.instanceMethod yX7_meet ∈ TB := TB_in (List.mem_of_getElem? (i := 745) (by decide +kernel)) (by decide +kernel)
theorem se_X7_meet : Cond.selects RX7 yX7_meet yX7_meet ∈ TB := TB_in (List.mem_of_getElem? (i := 746) (by decide +kernel)) (by decide +kernel)
theorem ml_X7_88 : Cond.methodLink RX7 88 yX7_areThere ∈ TB := TB_in (List.mem_of_getElem? (i := 748) (by decide +kernel)) (by decide +kernel)
theorem im_X7_areThere : Cond.instanceMethod yX7_areThere ∈ TB := TB_in (List.mem_of_getElem? (i := 750) (by decide +kernel)) (by decide +kernel)
theorem ml_X7_91 : Cond.methodLink RX7 91 yX7_oneDay ∈ TB := TB_in (List.mem_of_getElem? (i := 752) (by decide +kernel)) (by decide +kernel)
theorem im_X7_oneDay : Cond.instanceMethod yX7_oneDay ∈ TB := TB_in (List.mem_of_getElem? (i := 754) (by decide +kernel)) (by decide +kernel)
theorem ml_L_60 : Cond.methodLink RL 60 yX7_shared ∈ TB := TB_in (List.mem_of_getElem? (i := 756) (by decide +kernel)) (by decide +kernel)
theorem im_X7_shared : Cond.instanceMethod yX7_shared ∈ TB := TB_in (List.mem_of_getElem? (i := 757) (by decide +kernel)) (by decide +kernel)
theorem se_X7_shared : Cond.selects RX7 yX7_shared yX7_shared ∈ TB := TB_in (List.mem_of_getElem? (i := 758) (by decide +kernel)) (by decide +kernel)
theorem ml_X7_94 : Cond.methodLink RX7 94 yX7_sharedBy ∈ TB := TB_in (List.mem_of_getElem? (i := 760) (by decide +kernel)) (by decide +kernel)
theorem im_X7_sharedBy : Cond.instanceMethod yX7_sharedBy ∈ TB := TB_in (List.mem_of_getElem? (i := 762) (by decide +kernel)) (by decide +kernel)
theorem ml_L_64 : Cond.methodLink RL 64 yX7_never ∈ TB := TB_in (List.mem_of_getElem? (i := 764) (by decide +kernel)) (by decide +kernel)
theorem im_X7_never : Cond.instanceMethod yX7_never ∈ TB := TB_in (List.mem_of_getElem? (i := 765) (by decide +kernel)) (by decide +kernel)
theorem se_X7_never : Cond.selects RX7 yX7_never yX7_never ∈ TB := TB_in (List.mem_of_getElem? (i := 766) (by decide +kernel)) (by decide +kernel)
theorem ml_L_68 : Cond.methodLink RL 68 yX7_market ∈ TB := TB_in (List.mem_of_getElem? (i := 768) (by decide +kernel)) (by decide +kernel)
theorem im_X7_market : Cond.instanceMethod yX7_market ∈ TB := TB_in (List.mem_of_getElem? (i := 769) (by decide +kernel)) (by decide +kernel)
theorem se_X7_market : Cond.selects RX7 yX7_market yX7_market ∈ TB := TB_in (List.mem_of_getElem? (i := 770) (by decide +kernel)) (by decide +kernel)
theorem ml_L_72 : Cond.methodLink RL 72 yX7_can ∈ TB := TB_in (List.mem_of_getElem? (i := 772) (by decide +kernel)) (by decide +kernel)
theorem im_X7_can : Cond.instanceMethod yX7_can ∈ TB := TB_in (List.mem_of_getElem? (i := 773) (by decide +kernel)) (by decide +kernel)
theorem se_X7_can : Cond.selects RX7 yX7_can yX7_can ∈ TB := TB_in (List.mem_of_getElem? (i := 774) (by decide +kernel)) (by decide +kernel)
theorem ml_X7_97 : Cond.methodLink RX7 97 yX7_isWork ∈ TB := TB_in (List.mem_of_getElem? (i := 776) (by decide +kernel)) (by decide +kernel)
theorem im_X7_isWork : Cond.instanceMethod yX7_isWork ∈ TB := TB_in (List.mem_of_getElem? (i := 778) (by decide +kernel)) (by decide +kernel)
theorem ml_X7_100 : Cond.methodLink RX7 100 yX7_canBe ∈ TB := TB_in (List.mem_of_getElem? (i := 780) (by decide +kernel)) (by decide +kernel)
theorem im_X7_canBe : Cond.instanceMethod yX7_canBe ∈ TB := TB_in (List.mem_of_getElem? (i := 782) (by decide +kernel)) (by decide +kernel)
theorem ml_L_76 : Cond.methodLink RL 76 yX7_month ∈ TB := TB_in (List.mem_of_getElem? (i := 784) (by decide +kernel)) (by decide +kernel)
theorem im_X7_month : Cond.instanceMethod yX7_month ∈ TB := TB_in (List.mem_of_getElem? (i := 785) (by decide +kernel)) (by decide +kernel)
theorem se_X7_month : Cond.selects RX7 yX7_month yX7_month ∈ TB := TB_in (List.mem_of_getElem? (i := 786) (by decide +kernel)) (by decide +kernel)
theorem ml_X7_106 : Cond.methodLink RX7 106 yX7_canMonth ∈ TB := TB_in (List.mem_of_getElem? (i := 788) (by decide +kernel)) (by decide +kernel)
theorem im_X7_canMonth : Cond.instanceMethod yX7_canMonth ∈ TB := TB_in (List.mem_of_getElem? (i := 790) (by decide +kernel)) (by decide +kernel)
theorem ml_X7_103 : Cond.methodLink RX7 103 yX7_fitsAhead ∈ TB := TB_in (List.mem_of_getElem? (i := 792) (by decide +kernel)) (by decide +kernel)
theorem im_X7_fitsAhead : Cond.instanceMethod yX7_fitsAhead ∈ TB := TB_in (List.mem_of_getElem? (i := 794) (by decide +kernel)) (by decide +kernel)
theorem ml_L_80 : Cond.methodLink RL 80 yX7_barred ∈ TB := TB_in (List.mem_of_getElem? (i := 796) (by decide +kernel)) (by decide +kernel)
theorem im_X7_barred : Cond.instanceMethod yX7_barred ∈ TB := TB_in (List.mem_of_getElem? (i := 797) (by decide +kernel)) (by decide +kernel)
theorem se_X7_barred : Cond.selects RX7 yX7_barred yX7_barred ∈ TB := TB_in (List.mem_of_getElem? (i := 798) (by decide +kernel)) (by decide +kernel)
theorem ml_X7_109 : Cond.methodLink RX7 109 yX7_isBarred ∈ TB := TB_in (List.mem_of_getElem? (i := 800) (by decide +kernel)) (by decide +kernel)
theorem im_X7_isBarred : Cond.instanceMethod yX7_isBarred ∈ TB := TB_in (List.mem_of_getElem? (i := 802) (by decide +kernel)) (by decide +kernel)
theorem ml_L_84 : Cond.methodLink RL 84 yX7_why ∈ TB := TB_in (List.mem_of_getElem? (i := 804) (by decide +kernel)) (by decide +kernel)
theorem im_X7_why : Cond.instanceMethod yX7_why ∈ TB := TB_in (List.mem_of_getElem? (i := 805) (by decide +kernel)) (by decide +kernel)
theorem se_X7_why : Cond.selects RX7 yX7_why yX7_why ∈ TB := TB_in (List.mem_of_getElem? (i := 806) (by decide +kernel)) (by decide +kernel)
theorem ml_X7_112 : Cond.methodLink RX7 112 yX7_haveAtOnce ∈ TB := TB_in (List.mem_of_getElem? (i := 808) (by decide +kernel)) (by decide +kernel)
theorem im_X7_haveAtOnce : Cond.instanceMethod yX7_haveAtOnce ∈ TB := TB_in (List.mem_of_getElem? (i := 810) (by decide +kernel)) (by decide +kernel)
theorem ml_L_88 : Cond.methodLink RL 88 yX7_common ∈ TB := TB_in (List.mem_of_getElem? (i := 812) (by decide +kernel)) (by decide +kernel)
theorem im_X7_common : Cond.instanceMethod yX7_common ∈ TB := TB_in (List.mem_of_getElem? (i := 813) (by decide +kernel)) (by decide +kernel)
theorem se_X7_common : Cond.selects RX7 yX7_common yX7_common ∈ TB := TB_in (List.mem_of_getElem? (i := 814) (by decide +kernel)) (by decide +kernel)
theorem ct_X7_115 : Cond.constant RX7 115 (zI 1000000) ∈ TB := TB_in (List.mem_of_getElem? (i := 816) (by decide +kernel)) (by decide +kernel)
theorem ml_L_92 : Cond.methodLink RL 92 yX7_wedding ∈ TB := TB_in (List.mem_of_getElem? (i := 817) (by decide +kernel)) (by decide +kernel)
theorem im_X7_wedding : Cond.instanceMethod yX7_wedding ∈ TB := TB_in (List.mem_of_getElem? (i := 818) (by decide +kernel)) (by decide +kernel)
theorem se_X7_wedding : Cond.selects RX7 yX7_wedding yX7_wedding ∈ TB := TB_in (List.mem_of_getElem? (i := 819) (by decide +kernel)) (by decide +kernel)
theorem ml_X7_116 : Cond.methodLink RX7 116 yX7_costOf ∈ TB := TB_in (List.mem_of_getElem? (i := 821) (by decide +kernel)) (by decide +kernel)
theorem im_X7_costOf : Cond.instanceMethod yX7_costOf ∈ TB := TB_in (List.mem_of_getElem? (i := 823) (by decide +kernel)) (by decide +kernel)
theorem ml_L_96 : Cond.methodLink RL 96 yX7_best ∈ TB := TB_in (List.mem_of_getElem? (i := 825) (by decide +kernel)) (by decide +kernel)
theorem im_X7_best : Cond.instanceMethod yX7_best ∈ TB := TB_in (List.mem_of_getElem? (i := 826) (by decide +kernel)) (by decide +kernel)
theorem se_X7_best : Cond.selects RX7 yX7_best yX7_best ∈ TB := TB_in (List.mem_of_getElem? (i := 827) (by decide +kernel)) (by decide +kernel)
theorem ml_X7_119 : Cond.methodLink RX7 119 yX7_turned ∈ TB := TB_in (List.mem_of_getElem? (i := 829) (by decide +kernel)) (by decide +kernel)
theorem sm_X7_turned : Cond.static yX7_turned ∈ TB := TB_in (List.mem_of_getElem? (i := 830) (by decide +kernel)) (by decide +kernel)
theorem ml_L_100 : Cond.methodLink RL 100 yX7_feast ∈ TB := TB_in (List.mem_of_getElem? (i := 832) (by decide +kernel)) (by decide +kernel)
theorem im_X7_feast : Cond.instanceMethod yX7_feast ∈ TB := TB_in (List.mem_of_getElem? (i := 833) (by decide +kernel)) (by decide +kernel)
theorem se_X7_feast : Cond.selects RX7 yX7_feast yX7_feast ∈ TB := TB_in (List.mem_of_getElem? (i := 834) (by decide +kernel)) (by decide +kernel)
theorem ml_X7_122 : Cond.methodLink RX7 122 yX7_feastOn ∈ TB := TB_in (List.mem_of_getElem? (i := 836) (by decide +kernel)) (by decide +kernel)
theorem im_X7_feastOn : Cond.instanceMethod yX7_feastOn ∈ TB := TB_in (List.mem_of_getElem? (i := 838) (by decide +kernel)) (by decide +kernel)
theorem ml_L_104 : Cond.methodLink RL 104 yX7_feasts ∈ TB := TB_in (List.mem_of_getElem? (i := 840) (by decide +kernel)) (by decide +kernel)
theorem im_X7_feasts : Cond.instanceMethod yX7_feasts ∈ TB := TB_in (List.mem_of_getElem? (i := 841) (by decide +kernel)) (by decide +kernel)
theorem se_X7_feasts : Cond.selects RX7 yX7_feasts yX7_feasts ∈ TB := TB_in (List.mem_of_getElem? (i := 842) (by decide +kernel)) (by decide +kernel)
theorem ml_L_108 : Cond.methodLink RL 108 yX7_poor ∈ TB := TB_in (List.mem_of_getElem? (i := 844) (by decide +kernel)) (by decide +kernel)
theorem im_X7_poor : Cond.instanceMethod yX7_poor ∈ TB := TB_in (List.mem_of_getElem? (i := 845) (by decide +kernel)) (by decide +kernel)
theorem se_X7_poor : Cond.selects RX7 yX7_poor yX7_poor ∈ TB := TB_in (List.mem_of_getElem? (i := 846) (by decide +kernel)) (by decide +kernel)
theorem ml_L_112 : Cond.methodLink RL 112 yX7_twins ∈ TB := TB_in (List.mem_of_getElem? (i := 848) (by decide +kernel)) (by decide +kernel)
theorem im_X7_twins : Cond.instanceMethod yX7_twins ∈ TB := TB_in (List.mem_of_getElem? (i := 849) (by decide +kernel)) (by decide +kernel)
theorem se_X7_twins : Cond.selects RX7 yX7_twins yX7_twins ∈ TB := TB_in (List.mem_of_getElem? (i := 850) (by decide +kernel)) (by decide +kernel)
theorem ml_X7_125 : Cond.methodLink RX7 125 yX7_goesWith ∈ TB := TB_in (List.mem_of_getElem? (i := 852) (by decide +kernel)) (by decide +kernel)
theorem im_X7_goesWith : Cond.instanceMethod yX7_goesWith ∈ TB := TB_in (List.mem_of_getElem? (i := 854) (by decide +kernel)) (by decide +kernel)
theorem ml_L_116 : Cond.methodLink RL 116 yX7_oneOrder ∈ TB := TB_in (List.mem_of_getElem? (i := 856) (by decide +kernel)) (by decide +kernel)
theorem im_X7_oneOrder : Cond.instanceMethod yX7_oneOrder ∈ TB := TB_in (List.mem_of_getElem? (i := 857) (by decide +kernel)) (by decide +kernel)
theorem se_X7_oneOrder : Cond.selects RX7 yX7_oneOrder yX7_oneOrder ∈ TB := TB_in (List.mem_of_getElem? (i := 858) (by decide +kernel)) (by decide +kernel)
theorem ml_L_120 : Cond.methodLink RL 120 yX7_seen ∈ TB := TB_in (List.mem_of_getElem? (i := 860) (by decide +kernel)) (by decide +kernel)
theorem im_X7_seen : Cond.instanceMethod yX7_seen ∈ TB := TB_in (List.mem_of_getElem? (i := 861) (by decide +kernel)) (by decide +kernel)
theorem se_X7_seen : Cond.selects RX7 yX7_seen yX7_seen ∈ TB := TB_in (List.mem_of_getElem? (i := 862) (by decide +kernel)) (by decide +kernel)
theorem ml_L_124 : Cond.methodLink RL 124 yX7_forget ∈ TB := TB_in (List.mem_of_getElem? (i := 864) (by decide +kernel)) (by decide +kernel)
theorem im_X7_forget : Cond.instanceMethod yX7_forget ∈ TB := TB_in (List.mem_of_getElem? (i := 865) (by decide +kernel)) (by decide +kernel)
theorem se_X7_forget : Cond.selects RX7 yX7_forget yX7_forget ∈ TB := TB_in (List.mem_of_getElem? (i := 866) (by decide +kernel)) (by decide +kernel)
theorem ml_L_128 : Cond.methodLink RL 128 yX7_whose ∈ TB := TB_in (List.mem_of_getElem? (i := 868) (by decide +kernel)) (by decide +kernel)
theorem im_X7_whose : Cond.instanceMethod yX7_whose ∈ TB := TB_in (List.mem_of_getElem? (i := 869) (by decide +kernel)) (by decide +kernel)
theorem se_X7_whose : Cond.selects RX7 yX7_whose yX7_whose ∈ TB := TB_in (List.mem_of_getElem? (i := 870) (by decide +kernel)) (by decide +kernel)
theorem ml_X7_131 : Cond.methodLink RX7 131 yX7_isWell ∈ TB := TB_in (List.mem_of_getElem? (i := 872) (by decide +kernel)) (by decide +kernel)
theorem im_X7_isWell : Cond.instanceMethod yX7_isWell ∈ TB := TB_in (List.mem_of_getElem? (i := 874) (by decide +kernel)) (by decide +kernel)
theorem ml_L_132 : Cond.methodLink RL 132 yX7_sure ∈ TB := TB_in (List.mem_of_getElem? (i := 876) (by decide +kernel)) (by decide +kernel)
theorem im_X7_sure : Cond.instanceMethod yX7_sure ∈ TB := TB_in (List.mem_of_getElem? (i := 877) (by decide +kernel)) (by decide +kernel)
theorem se_X7_sure : Cond.selects RX7 yX7_sure yX7_sure ∈ TB := TB_in (List.mem_of_getElem? (i := 878) (by decide +kernel)) (by decide +kernel)
theorem ml_L_137 : Cond.methodLink RL 137 yX7_chance ∈ TB := TB_in (List.mem_of_getElem? (i := 880) (by decide +kernel)) (by decide +kernel)
theorem im_X7_chance : Cond.instanceMethod yX7_chance ∈ TB := TB_in (List.mem_of_getElem? (i := 881) (by decide +kernel)) (by decide +kernel)
theorem se_X7_chance : Cond.selects RX7 yX7_chance yX7_chance ∈ TB := TB_in (List.mem_of_getElem? (i := 882) (by decide +kernel)) (by decide +kernel)
theorem ct_X7_134 : Cond.constantLong RX7 134 (-1000000000000000001) ∈ TB := TB_in (List.mem_of_getElem? (i := 884) (by decide +kernel)) (by decide +kernel)
theorem ml_X7_136 : Cond.methodLink RX7 136 yX7_newly ∈ TB := TB_in (List.mem_of_getElem? (i := 885) (by decide +kernel)) (by decide +kernel)
theorem sm_X7_newly : Cond.static yX7_newly ∈ TB := TB_in (List.mem_of_getElem? (i := 886) (by decide +kernel)) (by decide +kernel)
theorem ct_X7_140 : Cond.constantLong RX7 140 (-1000000000000000002) ∈ TB := TB_in (List.mem_of_getElem? (i := 888) (by decide +kernel)) (by decide +kernel)
theorem ml_L_141 : Cond.methodLink RL 141 yX7_shares ∈ TB := TB_in (List.mem_of_getElem? (i := 889) (by decide +kernel)) (by decide +kernel)
theorem im_X7_shares : Cond.instanceMethod yX7_shares ∈ TB := TB_in (List.mem_of_getElem? (i := 890) (by decide +kernel)) (by decide +kernel)
theorem se_X7_shares : Cond.selects RX7 yX7_shares yX7_shares ∈ TB := TB_in (List.mem_of_getElem? (i := 891) (by decide +kernel)) (by decide +kernel)
theorem ml_L_145 : Cond.methodLink RL 145 yX7_year ∈ TB := TB_in (List.mem_of_getElem? (i := 893) (by decide +kernel)) (by decide +kernel)
theorem im_X7_year : Cond.instanceMethod yX7_year ∈ TB := TB_in (List.mem_of_getElem? (i := 894) (by decide +kernel)) (by decide +kernel)
theorem se_X7_year : Cond.selects RX7 yX7_year yX7_year ∈ TB := TB_in (List.mem_of_getElem? (i := 895) (by decide +kernel)) (by decide +kernel)
theorem ct_X7_142 : Cond.constant RX7 142 (zI 65537) ∈ TB := TB_in (List.mem_of_getElem? (i := 897) (by decide +kernel)) (by decide +kernel)
theorem ml_L_149 : Cond.methodLink RL 149 yX7_image ∈ TB := TB_in (List.mem_of_getElem? (i := 898) (by decide +kernel)) (by decide +kernel)
theorem im_X7_image : Cond.instanceMethod yX7_image ∈ TB := TB_in (List.mem_of_getElem? (i := 899) (by decide +kernel)) (by decide +kernel)
theorem se_X7_image : Cond.selects RX7 yX7_image yX7_image ∈ TB := TB_in (List.mem_of_getElem? (i := 900) (by decide +kernel)) (by decide +kernel)
theorem ml_L_153 : Cond.methodLink RL 153 yX7_restore ∈ TB := TB_in (List.mem_of_getElem? (i := 902) (by decide +kernel)) (by decide +kernel)
theorem im_X7_restore : Cond.instanceMethod yX7_restore ∈ TB := TB_in (List.mem_of_getElem? (i := 903) (by decide +kernel)) (by decide +kernel)
theorem se_X7_restore : Cond.selects RX7 yX7_restore yX7_restore ∈ TB := TB_in (List.mem_of_getElem? (i := 904) (by decide +kernel)) (by decide +kernel)
theorem ml_L_157 : Cond.methodLink RL 157 yX7_told ∈ TB := TB_in (List.mem_of_getElem? (i := 906) (by decide +kernel)) (by decide +kernel)
theorem im_X7_told : Cond.instanceMethod yX7_told ∈ TB := TB_in (List.mem_of_getElem? (i := 907) (by decide +kernel)) (by decide +kernel)
theorem se_X7_told : Cond.selects RX7 yX7_told yX7_told ∈ TB := TB_in (List.mem_of_getElem? (i := 908) (by decide +kernel)) (by decide +kernel)

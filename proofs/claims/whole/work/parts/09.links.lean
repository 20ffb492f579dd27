def mJ6_bitCount_0f7a4 : MT := (yJ6_bitCount_0f7a4, cJ6_bitCount_0f7a4, 1, some .int, 1)
def mJ9_max_7cf53 : MT := (yJ9_max_7cf53, cJ9_max_7cf53, 2, some .int, 1)
def mJ9_max_f86c9 : MT := (yJ9_max_f86c9, cJ9_max_f86c9, 4, some .long, 1)
def mJ9_min_7cf53 : MT := (yJ9_min_7cf53, cJ9_min_7cf53, 2, some .int, 1)
def mX0_accept : MT := (yX0_accept, cX0_accept, 2, none, 1)
def mX0_choose (d : Nat) : MT := (yX0_choose, cX0_choose, 7, none, d)
def mX0_comesFirst : MT := (yX0_comesFirst, cX0_comesFirst, 2, some .boolean, 1)
def mX0_init : MT := (yX0_init, cX0_init, 4, none, 1)
def mX0_noOlder : MT := (yX0_noOlder, cX0_noOlder, 4, some .int, 2)
def mX0_seek : MT := (yX0_seek, cX0_seek, 4, none, 13)
def mX0_seekOldest : MT := (yX0_seekOldest, cX0_seekOldest, 5, none, 4)
def mX0_tryOldest : MT := (yX0_tryOldest, cX0_tryOldest, 7, none, 3)
def mX1_addPart : MT := (yX1_addPart, cX1_addPart, 5, some .int, 1)
def mX1_addShip : MT := (yX1_addShip, cX1_addShip, 3, some .int, 1)
def mX1_copyFrom : MT := (yX1_copyFrom, cX1_copyFrom, 2, none, 1)
def mX1_firstLying : MT := (yX1_firstLying, cX1_firstLying, 3, some .int, 2)
def mX1_init : MT := (yX1_init, cX1_init, 1, none, 1)
def mX1_liesFor : MT := (yX1_liesFor, cX1_liesFor, 3, some .boolean, 1)
def mX1_lying : MT := (yX1_lying, cX1_lying, 3, some .int, 1)
def mX1_lyingOf : MT := (yX1_lyingOf, cX1_lyingOf, 4, some .int, 2)
def mX1_partAt : MT := (yX1_partAt, cX1_partAt, 3, some .int, 1)
def mX1_putIn : MT := (yX1_putIn, cX1_putIn, 3, none, 1)
def mX1_startAnew : MT := (yX1_startAnew, cX1_startAnew, 1, none, 1)
def mX2_ageAndRenew : MT := (yX2_ageAndRenew, cX2_ageAndRenew, 3, some .int, 2)
def mX2_byHalf : MT := (yX2_byHalf, cX2_byHalf, 4, some .int, 1)
def mX2_byMore : MT := (yX2_byMore, cX2_byMore, 4, some .int, 2)
def mX2_byMost : MT := (yX2_byMost, cX2_byMost, 3, some .int, 2)
def mX2_init : MT := (yX2_init, cX2_init, 3, none, 1)
def mX2_load : MT := (yX2_load, cX2_load, 3, none, 3)
def mX2_oldest : MT := (yX2_oldest, cX2_oldest, 3, some .int, 1)
def mX2_put : MT := (yX2_put, cX2_put, 4, none, 1)
def mX2_putPart : MT := (yX2_putPart, cX2_putPart, 3, none, 2)
def mX2_shipOf : MT := (yX2_shipOf, cX2_shipOf, 1, some .int, 1)
def mX2_weigh : MT := (yX2_weigh, cX2_weigh, 2, none, 1)
def mX2_whose : MT := (yX2_whose, cX2_whose, 2, some .int, 3)
def mX3_asBorrowed : MT := (yX3_asBorrowed, cX3_asBorrowed, 2, some .int, 2)
def mX3_asForged : MT := (yX3_asForged, cX3_asForged, 2, some .int, 2)
def mX3_asKeel : MT := (yX3_asKeel, cX3_asKeel, 2, some .int, 2)
def mX3_asMast : MT := (yX3_asMast, cX3_asMast, 2, some .int, 3)
def mX3_asPart : MT := (yX3_asPart, cX3_asPart, 2, some .int, 1)
def mX3_asShared : MT := (yX3_asShared, cX3_asShared, 2, some .int, 3)
def mX3_init : MT := (yX3_init, cX3_init, 3, none, 1)
def mX3_rateAs : MT := (yX3_rateAs, cX3_rateAs, 3, some .int, 4)
def mX4_forgetAll : MT := (yX4_forgetAll, cX4_forgetAll, 1, none, 1)
def mX4_init : MT := (yX4_init, cX4_init, 2, none, 2)
def mX4_remember : MT := (yX4_remember, cX4_remember, 2, none, 2)
def mX4_restore : MT := (yX4_restore, cX4_restore, 2, none, 2)
def mX5_allWeights : MT := (yX5_allWeights, cX5_allWeights, 3, some .int, 1)
def mX5_copyFrom : MT := (yX5_copyFrom, cX5_copyFrom, 2, none, 1)
def mX5_init : MT := (yX5_init, cX5_init, 1, none, 2)
def mX5_startAnew : MT := (yX5_startAnew, cX5_startAnew, 2, none, 1)
def mX6_init : MT := (yX6_init, cX6_init, 2, none, 3)
def mX6_isDigit : MT := (yX6_isDigit, cX6_isDigit, 1, some .boolean, 1)
def mX6_readAll : MT := (yX6_readAll, cX6_readAll, 3, some .int, 6)
def mX6_readEnd : MT := (yX6_readEnd, cX6_readEnd, 1, none, 4)
def mX6_readLife : MT := (yX6_readLife, cX6_readLife, 2, none, 5)
def mX6_readNumber : MT := (yX6_readNumber, cX6_readNumber, 3, some .int, 4)
def mX6_readPlaces : MT := (yX6_readPlaces, cX6_readPlaces, 1, none, 5)
def mX6_readShip : MT := (yX6_readShip, cX6_readShip, 1, none, 5)
def mX6_readSpare : MT := (yX6_readSpare, cX6_readSpare, 1, none, 5)
def mX6_readWeight : MT := (yX6_readWeight, cX6_readWeight, 2, none, 5)
def mX6_refuse : MT := (yX6_refuse, cX6_refuse, 1, none, 1)
def mX6_startAnew : MT := (yX6_startAnew, cX6_startAnew, 2, none, 2)
def mX6_step : MT := (yX6_step, cX6_step, 1, none, 3)
def mX6_stepNumber : MT := (yX6_stepNumber, cX6_stepNumber, 3, none, 2)
def mX6_tellFleet : MT := (yX6_tellFleet, cX6_tellFleet, 5, none, 2)
def mX6_tellPlan : MT := (yX6_tellPlan, cX6_tellPlan, 2, none, 2)
def mX7_back : MT := (yX7_back, cX7_back, 2, some .int, 2)
def mX7_becomes : MT := (yX7_becomes, cX7_becomes, 5, some .int, 14)
def mX7_build : MT := (yX7_build, cX7_build, 3, some .int, 3)
def mX7_clear : MT := (yX7_clear, cX7_clear, 2, some .int, 1)
def mX7_commonDivisor : MT := (yX7_commonDivisor, cX7_commonDivisor, 11, some .long, 1)
def mX7_count : MT := (yX7_count, cX7_count, 2, some .int, 1)
def mX7_decides : MT := (yX7_decides, cX7_decides, 6, some .int, 5)
def mX7_differIn : MT := (yX7_differIn, cX7_differIn, 6, some .boolean, 2)
def mX7_fairLaws : MT := (yX7_fairLaws, cX7_fairLaws, 3, some .int, 6)
def mX7_firstTwins : MT := (yX7_firstTwins, cX7_firstTwins, 5, some .int, 5)
def mX7_forget : MT := (yX7_forget, cX7_forget, 2, some .int, 1)
def mX7_fresh : MT := (yX7_fresh, cX7_fresh, 2, some .int, 3)
def mX7_inLeastTerms : MT := (yX7_inLeastTerms, cX7_inLeastTerms, 7, some .long, 2)
def mX7_inPlace : MT := (yX7_inPlace, cX7_inPlace, 3, some .int, 2)
def mX7_init : MT := (yX7_init, cX7_init, 2, none, 4)
def mX7_is : MT := (yX7_is, cX7_is, 3, some .int, 5)
def mX7_isAsSeen : MT := (yX7_isAsSeen, cX7_isAsSeen, 3, some .boolean, 2)
def mX7_isFractionSide : MT := (yX7_isFractionSide, cX7_isFractionSide, 1, some .boolean, 1)
def mX7_isLaw : MT := (yX7_isLaw, cX7_isLaw, 1, some .boolean, 1)
def mX7_isMake : MT := (yX7_isMake, cX7_isMake, 1, some .boolean, 1)
def mX7_isPart : MT := (yX7_isPart, cX7_isPart, 2, some .boolean, 1)
def mX7_isPlace : MT := (yX7_isPlace, cX7_isPlace, 2, some .boolean, 1)
def mX7_isShip : MT := (yX7_isShip, cX7_isShip, 2, some .boolean, 1)
def mX7_keep : MT := (yX7_keep, cX7_keep, 2, some .int, 2)
def mX7_leastSeen : MT := (yX7_leastSeen, cX7_leastSeen, 5, some .int, 4)
def mX7_mayBe : MT := (yX7_mayBe, cX7_mayBe, 3, some .int, 3)
def mX7_now : MT := (yX7_now, cX7_now, 2, some .int, 7)
def mX7_part : MT := (yX7_part, cX7_part, 3, some .int, 2)
def mX7_place : MT := (yX7_place, cX7_place, 3, some .int, 3)
def mX7_port : MT := (yX7_port, cX7_port, 3, some .int, 7)
def mX7_rate : MT := (yX7_rate, cX7_rate, 3, some .int, 5)
def mX7_repairs : MT := (yX7_repairs, cX7_repairs, 9, some .int, 4)
def mX7_replace : MT := (yX7_replace, cX7_replace, 4, some .int, 3)
def mX7_rottenPlaces : MT := (yX7_rottenPlaces, cX7_rottenPlaces, 4, some .int, 2)
def mX7_rottenShips : MT := (yX7_rottenShips, cX7_rottenShips, 3, some .int, 3)
def mX7_saw : MT := (yX7_saw, cX7_saw, 3, some .int, 2)
def mX7_share : MT := (yX7_share, cX7_share, 4, some .int, 4)
def mX7_ship : MT := (yX7_ship, cX7_ship, 3, some .int, 3)
def mX7_staying : MT := (yX7_staying, cX7_staying, 8, some .int, 4)
def mX7_stays : MT := (yX7_stays, cX7_stays, 5, some .int, 5)
def mX7_tellsFromAll : MT := (yX7_tellsFromAll, cX7_tellsFromAll, 4, some .boolean, 3)
def mX7_thief : MT := (yX7_thief, cX7_thief, 11, some .long, 5)
def mX7_trace : MT := (yX7_trace, cX7_trace, 1, some .long, 1)
def mX7_twins : MT := (yX7_twins, cX7_twins, 2, some .int, 6)
def mX7_type : MT := (yX7_type, cX7_type, 2, some .int, 1)
def mX7_undo : MT := (yX7_undo, cX7_undo, 1, some .int, 3)
def mX7_whoseNow : MT := (yX7_whoseNow, cX7_whoseNow, 3, some .int, 4)
def mX7_year : MT := (yX7_year, cX7_year, 3, some .int, 3)
def mX8_advances : MT := (yX8_advances, cX8_advances, 2, none, 2)
def mX8_ages : MT := (yX8_ages, cX8_ages, 3, some .int, 1)
def mX8_allWeights : MT := (yX8_allWeights, cX8_allWeights, 3, some .int, 1)
def mX8_asIs : MT := (yX8_asIs, cX8_asIs, 4, none, 1)
def mX8_back : MT := (yX8_back, cX8_back, 3, some .int, 2)
def mX8_becomes : MT := (yX8_becomes, cX8_becomes, 9, some .int, 4)
def mX8_build : MT := (yX8_build, cX8_build, 5, some .int, 3)
def mX8_clear : MT := (yX8_clear, cX8_clear, 2, some .int, 1)
def mX8_comes : MT := (yX8_comes, cX8_comes, 6, some .int, 1)
def mX8_count : MT := (yX8_count, cX8_count, 2, some .int, 1)
def mX8_countOf : MT := (yX8_countOf, cX8_countOf, 4, some .int, 1)
def mX8_decides : MT := (yX8_decides, cX8_decides, 6, some .int, 5)
def mX8_fair : MT := (yX8_fair, cX8_fair, 3, some .int, 6)
def mX8_firstOf : MT := (yX8_firstOf, cX8_firstOf, 3, some .int, 2)
def mX8_forget : MT := (yX8_forget, cX8_forget, 2, some .int, 1)
def mX8_fresh : MT := (yX8_fresh, cX8_fresh, 2, some .int, 3)
def mX8_gcd : MT := (yX8_gcd, cX8_gcd, 10, some .long, 1)
def mX8_in : MT := (yX8_in, cX8_in, 3, some .boolean, 1)
def mX8_inPlace : MT := (yX8_inPlace, cX8_inPlace, 3, some .int, 3)
def mX8_inYard : MT := (yX8_inYard, cX8_inYard, 3, some .int, 3)
def mX8_init : MT := (yX8_init, cX8_init, 2, none, 1)
def mX8_is : MT := (yX8_is, cX8_is, 3, some .int, 5)
def mX8_isBy : MT := (yX8_isBy, cX8_isBy, 4, some .int, 3)
def mX8_isLaw : MT := (yX8_isLaw, cX8_isLaw, 1, some .boolean, 2)
def mX8_isMake : MT := (yX8_isMake, cX8_isMake, 1, some .boolean, 2)
def mX8_isMore : MT := (yX8_isMore, cX8_isMore, 4, some .boolean, 2)
def mX8_isOf : MT := (yX8_isOf, cX8_isOf, 3, some .int, 4)
def mX8_isPart : MT := (yX8_isPart, cX8_isPart, 2, some .boolean, 2)
def mX8_isPlace : MT := (yX8_isPlace, cX8_isPlace, 2, some .boolean, 2)
def mX8_isShip : MT := (yX8_isShip, cX8_isShip, 2, some .boolean, 2)
def mX8_isWell : MT := (yX8_isWell, cX8_isWell, 1, some .boolean, 1)
def mX8_isWord : MT := (yX8_isWord, cX8_isWord, 1, some .boolean, 1)
def mX8_keep : MT := (yX8_keep, cX8_keep, 3, some .int, 2)
def mX8_leastSeen : MT := (yX8_leastSeen, cX8_leastSeen, 4, some .int, 3)
def mX8_letterAt : MT := (yX8_letterAt, cX8_letterAt, 2, some .int, 1)
def mX8_liesOf : MT := (yX8_liesOf, cX8_liesOf, 3, some .boolean, 1)
def mX8_lying : MT := (yX8_lying, cX8_lying, 4, some .int, 2)
def mX8_makeIn : MT := (yX8_makeIn, cX8_makeIn, 3, some .int, 1)
def mX8_mayBe : MT := (yX8_mayBe, cX8_mayBe, 5, some .int, 2)
def mX8_mayBegin : MT := (yX8_mayBegin, cX8_mayBegin, 2, some .boolean, 1)
def mX8_nextOf : MT := (yX8_nextOf, cX8_nextOf, 4, some .int, 2)
def mX8_notes : MT := (yX8_notes, cX8_notes, 2, none, 1)
def mX8_now : MT := (yX8_now, cX8_now, 2, some .int, 7)
def mX8_number : MT := (yX8_number, cX8_number, 3, some .int, 4)
def mX8_oldest : MT := (yX8_oldest, cX8_oldest, 3, some .int, 1)
def mX8_ones : MT := (yX8_ones, cX8_ones, 3, some .int, 1)
def mX8_part : MT := (yX8_part, cX8_part, 3, some .int, 3)
def mX8_place : MT := (yX8_place, cX8_place, 3, some .int, 3)
def mX8_port : MT := (yX8_port, cX8_port, 3, some .int, 6)
def mX8_putsRow : MT := (yX8_putsRow, cX8_putsRow, 4, some .int, 2)
def mX8_rate : MT := (yX8_rate, cX8_rate, 6, some .int, 4)
def mX8_readsItem : MT := (yX8_readsItem, cX8_readsItem, 4, none, 5)
def mX8_repairs : MT := (yX8_repairs, cX8_repairs, 9, some .int, 3)
def mX8_replace : MT := (yX8_replace, cX8_replace, 5, some .int, 3)
def mX8_rotten : MT := (yX8_rotten, cX8_rotten, 4, some .int, 1)
def mX8_rottenShips : MT := (yX8_rottenShips, cX8_rottenShips, 3, some .int, 2)
def mX8_saw : MT := (yX8_saw, cX8_saw, 3, some .int, 3)
def mX8_settles : MT := (yX8_settles, cX8_settles, 3, none, 2)
def mX8_share : MT := (yX8_share, cX8_share, 7, some .int, 3)
def mX8_ship : MT := (yX8_ship, cX8_ship, 3, some .int, 3)
def mX8_stays : MT := (yX8_stays, cX8_stays, 5, some .int, 5)
def mX8_steps : MT := (yX8_steps, cX8_steps, 3, some .boolean, 3)
def mX8_takes : MT := (yX8_takes, cX8_takes, 3, some .int, 3)
def mX8_tells : MT := (yX8_tells, cX8_tells, 7, some .boolean, 2)
def mX8_thief : MT := (yX8_thief, cX8_thief, 16, some .long, 5)
def mX8_trace : MT := (yX8_trace, cX8_trace, 1, some .long, 1)
def mX8_twins : MT := (yX8_twins, cX8_twins, 2, some .int, 6)
def mX8_twinsBy : MT := (yX8_twinsBy, cX8_twinsBy, 5, some .int, 5)
def mX8_type : MT := (yX8_type, cX8_type, 2, some .int, 2)
def mX8_undo : MT := (yX8_undo, cX8_undo, 2, some .int, 1)
def mX8_weightOf : MT := (yX8_weightOf, cX8_weightOf, 4, some .int, 1)
def mX8_year : MT := (yX8_year, cX8_year, 3, some .int, 2)
def mL_law : MT := (yL_law, cL_law, 4, some .boolean, 20)
theorem fg_X0_9 : FG RX0 9 0 3 := ⟨_, _, _, rfl, by decide, rfl, Or.inl (mg 136 (by decide +kernel) (by decide +kernel))⟩
theorem fg_X0_15 : FG RX0 15 0 4 := ⟨_, _, _, rfl, by decide, rfl, Or.inl (mg 137 (by decide +kernel) (by decide +kernel))⟩
theorem fg_X0_18 : FG RX0 18 0 5 := ⟨_, _, _, rfl, by decide, rfl, Or.inl (mg 139 (by decide +kernel) (by decide +kernel))⟩
theorem fg_X0_22 : FG RX0 22 0 6 := ⟨_, _, _, rfl, by decide, rfl, Or.inl (mg 141 (by decide +kernel) (by decide +kernel))⟩
theorem fg_X0_26 : FG RX0 26 0 7 := ⟨_, _, _, rfl, by decide, rfl, Or.inl (mg 143 (by decide +kernel) (by decide +kernel))⟩
theorem fg_X0_29 : FG RX0 29 0 8 := ⟨_, _, _, rfl, by decide, rfl, Or.inl (mg 144 (by decide +kernel) (by decide +kernel))⟩
theorem fg_X0_32 : FG RX0 32 0 9 := ⟨_, _, _, rfl, by decide, rfl, Or.inl (mg 145 (by decide +kernel) (by decide +kernel))⟩
theorem fg_X0_35 : FG RX0 35 0 0 := ⟨_, _, _, rfl, by decide, rfl, Or.inl (mg 133 (by decide +kernel) (by decide +kernel))⟩
theorem fg_X0_39 : FG RX0 39 0 1 := ⟨_, _, _, rfl, by decide, rfl, Or.inl (mg 134 (by decide +kernel) (by decide +kernel))⟩
theorem fg_X0_43 : FG RX0 43 0 2 := ⟨_, _, _, rfl, by decide, rfl, Or.inl (mg 135 (by decide +kernel) (by decide +kernel))⟩
theorem fg_X0_47 : FG RX0 47 5 0 := ⟨_, _, _, rfl, by decide, rfl, Or.inr ⟨_, mn (w := .fieldLinkNest RX0 47 _ _ _ "WhoseShip") 33 (by decide +kernel) (by decide +kernel)⟩⟩
theorem fg_X0_78 : FG RX0 78 1 4 := ⟨_, _, _, rfl, by decide, rfl, Or.inr ⟨_, mn (w := .fieldLinkNest RX0 78 _ _ _ "WhoseShip") 72 (by decide +kernel) (by decide +kernel)⟩⟩
theorem fg_X0_81 : FG RX0 81 1 1 := ⟨_, _, _, rfl, by decide, rfl, Or.inr ⟨_, mn (w := .fieldLinkNest RX0 81 _ _ _ "WhoseShip") 63 (by decide +kernel) (by decide +kernel)⟩⟩
theorem fg_X0_101 : FG RX0 101 1 5 := ⟨_, _, _, rfl, by decide, rfl, Or.inr ⟨_, mn (w := .fieldLinkNest RX0 101 _ _ _ "WhoseShip") 78 (by decide +kernel) (by decide +kernel)⟩⟩
theorem fg_X1_9 : FG RX1 9 1 0 := ⟨_, _, _, rfl, by decide, rfl, Or.inl (mg 60 (by decide +kernel) (by decide +kernel))⟩
theorem fg_X1_15 : FG RX1 15 1 1 := ⟨_, _, _, rfl, by decide, rfl, Or.inl (mg 62 (by decide +kernel) (by decide +kernel))⟩
theorem fg_X1_18 : FG RX1 18 1 2 := ⟨_, _, _, rfl, by decide, rfl, Or.inl (mg 65 (by decide +kernel) (by decide +kernel))⟩
theorem fg_X1_21 : FG RX1 21 1 3 := ⟨_, _, _, rfl, by decide, rfl, Or.inl (mg 67 (by decide +kernel) (by decide +kernel))⟩
theorem fg_X1_25 : FG RX1 25 1 4 := ⟨_, _, _, rfl, by decide, rfl, Or.inl (mg 70 (by decide +kernel) (by decide +kernel))⟩
theorem fg_X1_28 : FG RX1 28 1 5 := ⟨_, _, _, rfl, by decide, rfl, Or.inl (mg 75 (by decide +kernel) (by decide +kernel))⟩
theorem fg_X1_31 : FG RX1 31 1 6 := ⟨_, _, _, rfl, by decide, rfl, Or.inl (mg 80 (by decide +kernel) (by decide +kernel))⟩
theorem fg_X1_34 : FG RX1 34 1 7 := ⟨_, _, _, rfl, by decide, rfl, Or.inl (mg 82 (by decide +kernel) (by decide +kernel))⟩
theorem fg_X1_37 : FG RX1 37 1 8 := ⟨_, _, _, rfl, by decide, rfl, Or.inl (mg 84 (by decide +kernel) (by decide +kernel))⟩
theorem fg_X2_9 : FG RX2 9 2 2 := ⟨_, _, _, rfl, by decide, rfl, Or.inl (mg 112 (by decide +kernel) (by decide +kernel))⟩
theorem fg_X2_15 : FG RX2 15 2 3 := ⟨_, _, _, rfl, by decide, rfl, Or.inl (mg 113 (by decide +kernel) (by decide +kernel))⟩
theorem fg_X2_18 : FG RX2 18 2 4 := ⟨_, _, _, rfl, by decide, rfl, Or.inl (mg 114 (by decide +kernel) (by decide +kernel))⟩
theorem fg_X2_21 : FG RX2 21 2 0 := ⟨_, _, _, rfl, by decide, rfl, Or.inl (mg 110 (by decide +kernel) (by decide +kernel))⟩
theorem fg_X2_25 : FG RX2 25 2 1 := ⟨_, _, _, rfl, by decide, rfl, Or.inl (mg 111 (by decide +kernel) (by decide +kernel))⟩
theorem fg_X2_29 : FG RX2 29 5 0 := ⟨_, _, _, rfl, by decide, rfl, Or.inr ⟨_, mn (w := .fieldLinkNest RX2 29 _ _ _ "WhoseShip") 32 (by decide +kernel) (by decide +kernel)⟩⟩
theorem fg_X2_45 : FG RX2 45 1 4 := ⟨_, _, _, rfl, by decide, rfl, Or.inr ⟨_, mn (w := .fieldLinkNest RX2 45 _ _ _ "WhoseShip") 71 (by decide +kernel) (by decide +kernel)⟩⟩
theorem fg_X2_46 : FG RX2 46 1 5 := ⟨_, _, _, rfl, by decide, rfl, Or.inr ⟨_, mn (w := .fieldLinkNest RX2 46 _ _ _ "WhoseShip") 77 (by decide +kernel) (by decide +kernel)⟩⟩
theorem fg_X2_51 : FG RX2 51 5 2 := ⟨_, _, _, rfl, by decide, rfl, Or.inr ⟨_, mn (w := .fieldLinkNest RX2 51 _ _ _ "WhoseShip") 43 (by decide +kernel) (by decide +kernel)⟩⟩
theorem fg_X2_54 : FG RX2 54 5 1 := ⟨_, _, _, rfl, by decide, rfl, Or.inr ⟨_, mn (w := .fieldLinkNest RX2 54 _ _ _ "WhoseShip") 40 (by decide +kernel) (by decide +kernel)⟩⟩
theorem fg_X3_9 : FG RX3 9 3 2 := ⟨_, _, _, rfl, by decide, rfl, Or.inl (mg 195 (by decide +kernel) (by decide +kernel))⟩
theorem fg_X3_15 : FG RX3 15 3 0 := ⟨_, _, _, rfl, by decide, rfl, Or.inl (mg 193 (by decide +kernel) (by decide +kernel))⟩
theorem fg_X3_19 : FG RX3 19 3 1 := ⟨_, _, _, rfl, by decide, rfl, Or.inl (mg 194 (by decide +kernel) (by decide +kernel))⟩
theorem fg_X3_43 : FG RX3 43 1 5 := ⟨_, _, _, rfl, by decide, rfl, Or.inr ⟨_, mn (w := .fieldLinkNest RX3 43 _ _ _ "WhoseShip") 76 (by decide +kernel) (by decide +kernel)⟩⟩
theorem fg_X3_51 : FG RX3 51 5 1 := ⟨_, _, _, rfl, by decide, rfl, Or.inr ⟨_, mn (w := .fieldLinkNest RX3 51 _ _ _ "WhoseShip") 37 (by decide +kernel) (by decide +kernel)⟩⟩
theorem fg_X3_56 : FG RX3 56 1 3 := ⟨_, _, _, rfl, by decide, rfl, Or.inr ⟨_, mn (w := .fieldLinkNest RX3 56 _ _ _ "WhoseShip") 68 (by decide +kernel) (by decide +kernel)⟩⟩
theorem fg_X3_61 : FG RX3 61 5 2 := ⟨_, _, _, rfl, by decide, rfl, Or.inr ⟨_, mn (w := .fieldLinkNest RX3 61 _ _ _ "WhoseShip") 42 (by decide +kernel) (by decide +kernel)⟩⟩
theorem fg_X3_68 : FG RX3 68 1 4 := ⟨_, _, _, rfl, by decide, rfl, Or.inr ⟨_, mn (w := .fieldLinkNest RX3 68 _ _ _ "WhoseShip") 74 (by decide +kernel) (by decide +kernel)⟩⟩
theorem fg_X4_11 : FG RX4 11 4 0 := ⟨_, _, _, rfl, by decide, rfl, Or.inl (mg 176 (by decide +kernel) (by decide +kernel))⟩
theorem fg_X4_17 : FG RX4 17 4 1 := ⟨_, _, _, rfl, by decide, rfl, Or.inl (mg 177 (by decide +kernel) (by decide +kernel))⟩
theorem fg_X4_21 : FG RX4 21 4 2 := ⟨_, _, _, rfl, by decide, rfl, Or.inl (mg 178 (by decide +kernel) (by decide +kernel))⟩
theorem fg_X5_9 : FG RX5 9 5 1 := ⟨_, _, _, rfl, by decide, rfl, Or.inl (mg 36 (by decide +kernel) (by decide +kernel))⟩
theorem fg_X5_15 : FG RX5 15 5 2 := ⟨_, _, _, rfl, by decide, rfl, Or.inl (mg 41 (by decide +kernel) (by decide +kernel))⟩
theorem fg_X5_21 : FG RX5 21 5 0 := ⟨_, _, _, rfl, by decide, rfl, Or.inl (mg 31 (by decide +kernel) (by decide +kernel))⟩
theorem fg_X6_12 : FG RX6 12 6 1 := ⟨_, _, _, rfl, by decide, rfl, Or.inl (mg 213 (by decide +kernel) (by decide +kernel))⟩
theorem fg_X6_18 : FG RX6 18 6 2 := ⟨_, _, _, rfl, by decide, rfl, Or.inl (mg 214 (by decide +kernel) (by decide +kernel))⟩
theorem fg_X6_22 : FG RX6 22 6 3 := ⟨_, _, _, rfl, by decide, rfl, Or.inl (mg 215 (by decide +kernel) (by decide +kernel))⟩
theorem fg_X6_25 : FG RX6 25 6 4 := ⟨_, _, _, rfl, by decide, rfl, Or.inl (mg 216 (by decide +kernel) (by decide +kernel))⟩
theorem fg_X6_28 : FG RX6 28 6 5 := ⟨_, _, _, rfl, by decide, rfl, Or.inl (mg 217 (by decide +kernel) (by decide +kernel))⟩
theorem fg_X6_31 : FG RX6 31 6 6 := ⟨_, _, _, rfl, by decide, rfl, Or.inl (mg 218 (by decide +kernel) (by decide +kernel))⟩
theorem fg_X6_35 : FG RX6 35 6 7 := ⟨_, _, _, rfl, by decide, rfl, Or.inl (mg 219 (by decide +kernel) (by decide +kernel))⟩
theorem fg_X6_38 : FG RX6 38 6 8 := ⟨_, _, _, rfl, by decide, rfl, Or.inl (mg 220 (by decide +kernel) (by decide +kernel))⟩
theorem fg_X6_41 : FG RX6 41 6 9 := ⟨_, _, _, rfl, by decide, rfl, Or.inl (mg 221 (by decide +kernel) (by decide +kernel))⟩
theorem fg_X6_44 : FG RX6 44 6 10 := ⟨_, _, _, rfl, by decide, rfl, Or.inl (mg 223 (by decide +kernel) (by decide +kernel))⟩
theorem fg_X6_47 : FG RX6 47 6 11 := ⟨_, _, _, rfl, by decide, rfl, Or.inl (mg 224 (by decide +kernel) (by decide +kernel))⟩
theorem fg_X6_50 : FG RX6 50 6 12 := ⟨_, _, _, rfl, by decide, rfl, Or.inl (mg 225 (by decide +kernel) (by decide +kernel))⟩
theorem fg_X6_53 : FG RX6 53 6 13 := ⟨_, _, _, rfl, by decide, rfl, Or.inl (mg 226 (by decide +kernel) (by decide +kernel))⟩
theorem fg_X6_56 : FG RX6 56 6 14 := ⟨_, _, _, rfl, by decide, rfl, Or.inl (mg 227 (by decide +kernel) (by decide +kernel))⟩
theorem fg_X6_59 : FG RX6 59 6 0 := ⟨_, _, _, rfl, by decide, rfl, Or.inl (mg 212 (by decide +kernel) (by decide +kernel))⟩
theorem fg_X6_96 : FG RX6 96 5 0 := ⟨_, _, _, rfl, by decide, rfl, Or.inr ⟨_, mn (w := .fieldLinkNest RX6 96 _ _ _ "WhoseShip") 34 (by decide +kernel) (by decide +kernel)⟩⟩
theorem fg_X6_99 : FG RX6 99 5 1 := ⟨_, _, _, rfl, by decide, rfl, Or.inr ⟨_, mn (w := .fieldLinkNest RX6 99 _ _ _ "WhoseShip") 38 (by decide +kernel) (by decide +kernel)⟩⟩
theorem fg_X6_102 : FG RX6 102 5 2 := ⟨_, _, _, rfl, by decide, rfl, Or.inr ⟨_, mn (w := .fieldLinkNest RX6 102 _ _ _ "WhoseShip") 45 (by decide +kernel) (by decide +kernel)⟩⟩
theorem fg_X7_10 : FG RX7 10 7 0 := ⟨_, _, _, rfl, by decide, rfl, Or.inl (mg 260 (by decide +kernel) (by decide +kernel))⟩
theorem fg_X7_19 : FG RX7 19 7 1 := ⟨_, _, _, rfl, by decide, rfl, Or.inl (mg 261 (by decide +kernel) (by decide +kernel))⟩
theorem fg_X7_28 : FG RX7 28 7 2 := ⟨_, _, _, rfl, by decide, rfl, Or.inl (mg 262 (by decide +kernel) (by decide +kernel))⟩
theorem fg_X7_37 : FG RX7 37 7 3 := ⟨_, _, _, rfl, by decide, rfl, Or.inl (mg 263 (by decide +kernel) (by decide +kernel))⟩
theorem fg_X7_44 : FG RX7 44 7 4 := ⟨_, _, _, rfl, by decide, rfl, Or.inl (mg 264 (by decide +kernel) (by decide +kernel))⟩
theorem fg_X7_51 : FG RX7 51 7 5 := ⟨_, _, _, rfl, by decide, rfl, Or.inl (mg 265 (by decide +kernel) (by decide +kernel))⟩
theorem fg_X7_55 : FG RX7 55 7 6 := ⟨_, _, _, rfl, by decide, rfl, Or.inl (mg 266 (by decide +kernel) (by decide +kernel))⟩
theorem fg_X7_59 : FG RX7 59 7 7 := ⟨_, _, _, rfl, by decide, rfl, Or.inl (mg 267 (by decide +kernel) (by decide +kernel))⟩
theorem fg_X7_63 : FG RX7 63 7 8 := ⟨_, _, _, rfl, by decide, rfl, Or.inl (mg 268 (by decide +kernel) (by decide +kernel))⟩
theorem fg_X7_72 : FG RX7 72 7 9 := ⟨_, _, _, rfl, by decide, rfl, Or.inl (mg 269 (by decide +kernel) (by decide +kernel))⟩
theorem fg_X7_76 : FG RX7 76 7 10 := ⟨_, _, _, rfl, by decide, rfl, Or.inl (mg 270 (by decide +kernel) (by decide +kernel))⟩
theorem fg_X7_79 : FG RX7 79 7 11 := ⟨_, _, _, rfl, by decide, rfl, Or.inl (mg 271 (by decide +kernel) (by decide +kernel))⟩
theorem fg_X7_82 : FG RX7 82 7 12 := ⟨_, _, _, rfl, by decide, rfl, Or.inl (mg 272 (by decide +kernel) (by decide +kernel))⟩
theorem fg_X7_86 : FG RX7 86 7 13 := ⟨_, _, _, rfl, by decide, rfl, Or.inl (mg 273 (by decide +kernel) (by decide +kernel))⟩
theorem fg_X7_104 : FG RX7 104 6 9 := ⟨_, _, _, rfl, by decide, rfl, Or.inr ⟨_, mn (w := .fieldLinkNest RX7 104 _ _ _ "WhoseShip") 222 (by decide +kernel) (by decide +kernel)⟩⟩
theorem fg_X7_111 : FG RX7 111 5 1 := ⟨_, _, _, rfl, by decide, rfl, Or.inr ⟨_, mn (w := .fieldLinkNest RX7 111 _ _ _ "WhoseShip") 39 (by decide +kernel) (by decide +kernel)⟩⟩
theorem fg_X7_114 : FG RX7 114 5 2 := ⟨_, _, _, rfl, by decide, rfl, Or.inr ⟨_, mn (w := .fieldLinkNest RX7 114 _ _ _ "WhoseShip") 44 (by decide +kernel) (by decide +kernel)⟩⟩
theorem fg_X7_123 : FG RX7 123 1 3 := ⟨_, _, _, rfl, by decide, rfl, Or.inr ⟨_, mn (w := .fieldLinkNest RX7 123 _ _ _ "WhoseShip") 69 (by decide +kernel) (by decide +kernel)⟩⟩
theorem fg_X7_126 : FG RX7 126 1 4 := ⟨_, _, _, rfl, by decide, rfl, Or.inr ⟨_, mn (w := .fieldLinkNest RX7 126 _ _ _ "WhoseShip") 73 (by decide +kernel) (by decide +kernel)⟩⟩
theorem fg_X7_129 : FG RX7 129 1 5 := ⟨_, _, _, rfl, by decide, rfl, Or.inr ⟨_, mn (w := .fieldLinkNest RX7 129 _ _ _ "WhoseShip") 79 (by decide +kernel) (by decide +kernel)⟩⟩
theorem fg_X7_132 : FG RX7 132 1 6 := ⟨_, _, _, rfl, by decide, rfl, Or.inr ⟨_, mn (w := .fieldLinkNest RX7 132 _ _ _ "WhoseShip") 81 (by decide +kernel) (by decide +kernel)⟩⟩
theorem fg_X7_142 : FG RX7 142 1 7 := ⟨_, _, _, rfl, by decide, rfl, Or.inr ⟨_, mn (w := .fieldLinkNest RX7 142 _ _ _ "WhoseShip") 83 (by decide +kernel) (by decide +kernel)⟩⟩
theorem fg_X7_154 : FG RX7 154 1 0 := ⟨_, _, _, rfl, by decide, rfl, Or.inr ⟨_, mn (w := .fieldLinkNest RX7 154 _ _ _ "WhoseShip") 61 (by decide +kernel) (by decide +kernel)⟩⟩
theorem fg_X7_167 : FG RX7 167 4 2 := ⟨_, _, _, rfl, by decide, rfl, Or.inr ⟨_, mn (w := .fieldLinkNest RX7 167 _ _ _ "WhoseShip") 179 (by decide +kernel) (by decide +kernel)⟩⟩
theorem fg_X7_177 : FG RX7 177 1 1 := ⟨_, _, _, rfl, by decide, rfl, Or.inr ⟨_, mn (w := .fieldLinkNest RX7 177 _ _ _ "WhoseShip") 64 (by decide +kernel) (by decide +kernel)⟩⟩
theorem fg_X7_184 : FG RX7 184 5 0 := ⟨_, _, _, rfl, by decide, rfl, Or.inr ⟨_, mn (w := .fieldLinkNest RX7 184 _ _ _ "WhoseShip") 35 (by decide +kernel) (by decide +kernel)⟩⟩
theorem fg_X7_190 : FG RX7 190 1 2 := ⟨_, _, _, rfl, by decide, rfl, Or.inr ⟨_, mn (w := .fieldLinkNest RX7 190 _ _ _ "WhoseShip") 66 (by decide +kernel) (by decide +kernel)⟩⟩
theorem fg_X7_206 : FG RX7 206 0 5 := ⟨_, _, _, rfl, by decide, rfl, Or.inr ⟨_, mn (w := .fieldLinkNest RX7 206 _ _ _ "WhoseShip") 140 (by decide +kernel) (by decide +kernel)⟩⟩
theorem fg_X7_210 : FG RX7 210 0 6 := ⟨_, _, _, rfl, by decide, rfl, Or.inr ⟨_, mn (w := .fieldLinkNest RX7 210 _ _ _ "WhoseShip") 142 (by decide +kernel) (by decide +kernel)⟩⟩
theorem fg_X7_213 : FG RX7 213 0 4 := ⟨_, _, _, rfl, by decide, rfl, Or.inr ⟨_, mn (w := .fieldLinkNest RX7 213 _ _ _ "WhoseShip") 138 (by decide +kernel) (by decide +kernel)⟩⟩
theorem fg_X7_235 : FG RX7 235 2 4 := ⟨_, _, _, rfl, by decide, rfl, Or.inr ⟨_, mn (w := .fieldLinkNest RX7 235 _ _ _ "WhoseShip") 115 (by decide +kernel) (by decide +kernel)⟩⟩
theorem fg_X7_281 : FG RX7 281 3 2 := ⟨_, _, _, rfl, by decide, rfl, Or.inr ⟨_, mn (w := .fieldLinkNest RX7 281 _ _ _ "WhoseShip") 196 (by decide +kernel) (by decide +kernel)⟩⟩
theorem fg_X8_7 : FG RX8 7 8 2 := ⟨_, _, _, rfl, by decide, rfl, Or.inl (mg 759 (by decide +kernel) (by decide +kernel))⟩
theorem fg_X8_13 : FG RX8 13 8 9 := ⟨_, _, _, rfl, by decide, rfl, Or.inl (mg 766 (by decide +kernel) (by decide +kernel))⟩
theorem fg_X8_16 : FG RX8 16 8 10 := ⟨_, _, _, rfl, by decide, rfl, Or.inl (mg 767 (by decide +kernel) (by decide +kernel))⟩
theorem fg_X8_19 : FG RX8 19 8 11 := ⟨_, _, _, rfl, by decide, rfl, Or.inl (mg 768 (by decide +kernel) (by decide +kernel))⟩
theorem fg_X8_22 : FG RX8 22 8 12 := ⟨_, _, _, rfl, by decide, rfl, Or.inl (mg 769 (by decide +kernel) (by decide +kernel))⟩
theorem fg_X8_25 : FG RX8 25 8 17 := ⟨_, _, _, rfl, by decide, rfl, Or.inl (mg 774 (by decide +kernel) (by decide +kernel))⟩
theorem fg_X8_28 : FG RX8 28 8 18 := ⟨_, _, _, rfl, by decide, rfl, Or.inl (mg 775 (by decide +kernel) (by decide +kernel))⟩
theorem fg_X8_31 : FG RX8 31 8 19 := ⟨_, _, _, rfl, by decide, rfl, Or.inl (mg 776 (by decide +kernel) (by decide +kernel))⟩
theorem fg_X8_34 : FG RX8 34 8 20 := ⟨_, _, _, rfl, by decide, rfl, Or.inl (mg 777 (by decide +kernel) (by decide +kernel))⟩
theorem fg_X8_38 : FG RX8 38 8 21 := ⟨_, _, _, rfl, by decide, rfl, Or.inl (mg 778 (by decide +kernel) (by decide +kernel))⟩
theorem fg_X8_41 : FG RX8 41 8 23 := ⟨_, _, _, rfl, by decide, rfl, Or.inl (mg 780 (by decide +kernel) (by decide +kernel))⟩
theorem fg_X8_44 : FG RX8 44 8 24 := ⟨_, _, _, rfl, by decide, rfl, Or.inl (mg 781 (by decide +kernel) (by decide +kernel))⟩
theorem fg_X8_47 : FG RX8 47 8 26 := ⟨_, _, _, rfl, by decide, rfl, Or.inl (mg 783 (by decide +kernel) (by decide +kernel))⟩
theorem fg_X8_50 : FG RX8 50 8 27 := ⟨_, _, _, rfl, by decide, rfl, Or.inl (mg 784 (by decide +kernel) (by decide +kernel))⟩
theorem fg_X8_53 : FG RX8 53 8 28 := ⟨_, _, _, rfl, by decide, rfl, Or.inl (mg 785 (by decide +kernel) (by decide +kernel))⟩
theorem fg_X8_56 : FG RX8 56 8 29 := ⟨_, _, _, rfl, by decide, rfl, Or.inl (mg 786 (by decide +kernel) (by decide +kernel))⟩
theorem fg_X8_59 : FG RX8 59 8 13 := ⟨_, _, _, rfl, by decide, rfl, Or.inl (mg 770 (by decide +kernel) (by decide +kernel))⟩
theorem fg_X8_63 : FG RX8 63 8 0 := ⟨_, _, _, rfl, by decide, rfl, Or.inl (mg 757 (by decide +kernel) (by decide +kernel))⟩
theorem fg_X8_70 : FG RX8 70 8 3 := ⟨_, _, _, rfl, by decide, rfl, Or.inl (mg 760 (by decide +kernel) (by decide +kernel))⟩
theorem fg_X8_73 : FG RX8 73 8 4 := ⟨_, _, _, rfl, by decide, rfl, Or.inl (mg 761 (by decide +kernel) (by decide +kernel))⟩
theorem fg_X8_80 : FG RX8 80 8 6 := ⟨_, _, _, rfl, by decide, rfl, Or.inl (mg 763 (by decide +kernel) (by decide +kernel))⟩
theorem fg_X8_83 : FG RX8 83 8 5 := ⟨_, _, _, rfl, by decide, rfl, Or.inl (mg 762 (by decide +kernel) (by decide +kernel))⟩
theorem fg_X8_86 : FG RX8 86 8 7 := ⟨_, _, _, rfl, by decide, rfl, Or.inl (mg 764 (by decide +kernel) (by decide +kernel))⟩
theorem fg_X8_93 : FG RX8 93 8 8 := ⟨_, _, _, rfl, by decide, rfl, Or.inl (mg 765 (by decide +kernel) (by decide +kernel))⟩
theorem fg_X8_107 : FG RX8 107 8 15 := ⟨_, _, _, rfl, by decide, rfl, Or.inl (mg 772 (by decide +kernel) (by decide +kernel))⟩
theorem fg_X8_110 : FG RX8 110 8 16 := ⟨_, _, _, rfl, by decide, rfl, Or.inl (mg 773 (by decide +kernel) (by decide +kernel))⟩
theorem fg_X8_117 : FG RX8 117 8 14 := ⟨_, _, _, rfl, by decide, rfl, Or.inl (mg 771 (by decide +kernel) (by decide +kernel))⟩
theorem fg_X8_137 : FG RX8 137 8 22 := ⟨_, _, _, rfl, by decide, rfl, Or.inl (mg 779 (by decide +kernel) (by decide +kernel))⟩
theorem fg_X8_140 : FG RX8 140 8 25 := ⟨_, _, _, rfl, by decide, rfl, Or.inl (mg 782 (by decide +kernel) (by decide +kernel))⟩
theorem fg_X8_236 : FG RX8 236 8 1 := ⟨_, _, _, rfl, by decide, rfl, Or.inl (mg 758 (by decide +kernel) (by decide +kernel))⟩
theorem ft_0_5 : FT 0 5 .boolean := ⟨_, _, _, rfl, rfl, by decide +kernel⟩
theorem ft_0_6 : FT 0 6 .int := ⟨_, _, _, rfl, rfl, by decide +kernel⟩
theorem ft_0_7 : FT 0 7 .int := ⟨_, _, _, rfl, rfl, by decide +kernel⟩
theorem ft_0_8 : FT 0 8 .int := ⟨_, _, _, rfl, rfl, by decide +kernel⟩
theorem ft_0_9 : FT 0 9 .int := ⟨_, _, _, rfl, rfl, by decide +kernel⟩
theorem ft_1_0 : FT 1 0 .int := ⟨_, _, _, rfl, rfl, by decide +kernel⟩
theorem ft_1_1 : FT 1 1 .int := ⟨_, _, _, rfl, rfl, by decide +kernel⟩
theorem ft_1_2 : FT 1 2 .int := ⟨_, _, _, rfl, rfl, by decide +kernel⟩
theorem ft_3_2 : FT 3 2 .long := ⟨_, _, _, rfl, rfl, by decide +kernel⟩
theorem ft_4_1 : FT 4 1 .int := ⟨_, _, _, rfl, rfl, by decide +kernel⟩
theorem ft_4_2 : FT 4 2 .int := ⟨_, _, _, rfl, rfl, by decide +kernel⟩
theorem ft_5_0 : FT 5 0 .int := ⟨_, _, _, rfl, rfl, by decide +kernel⟩
theorem ft_6_6 : FT 6 6 .int := ⟨_, _, _, rfl, rfl, by decide +kernel⟩
theorem ft_6_7 : FT 6 7 .int := ⟨_, _, _, rfl, rfl, by decide +kernel⟩
theorem ft_6_8 : FT 6 8 .int := ⟨_, _, _, rfl, rfl, by decide +kernel⟩
theorem ft_6_9 : FT 6 9 .int := ⟨_, _, _, rfl, rfl, by decide +kernel⟩
theorem ft_6_10 : FT 6 10 .int := ⟨_, _, _, rfl, rfl, by decide +kernel⟩
theorem ft_6_11 : FT 6 11 .int := ⟨_, _, _, rfl, rfl, by decide +kernel⟩
theorem ft_6_12 : FT 6 12 .int := ⟨_, _, _, rfl, rfl, by decide +kernel⟩
theorem ft_6_13 : FT 6 13 .int := ⟨_, _, _, rfl, rfl, by decide +kernel⟩
theorem ft_6_14 : FT 6 14 .int := ⟨_, _, _, rfl, rfl, by decide +kernel⟩
theorem ft_7_12 : FT 7 12 .int := ⟨_, _, _, rfl, rfl, by decide +kernel⟩
theorem ft_7_13 : FT 7 13 .int := ⟨_, _, _, rfl, rfl, by decide +kernel⟩
theorem ft_8_0 : FT 8 0 .int := ⟨_, _, _, rfl, rfl, by decide +kernel⟩
theorem ft_8_1 : FT 8 1 .long := ⟨_, _, _, rfl, rfl, by decide +kernel⟩
theorem ft_8_3 : FT 8 3 .int := ⟨_, _, _, rfl, rfl, by decide +kernel⟩
theorem ft_8_4 : FT 8 4 .int := ⟨_, _, _, rfl, rfl, by decide +kernel⟩
theorem ft_8_5 : FT 8 5 .int := ⟨_, _, _, rfl, rfl, by decide +kernel⟩
theorem ft_8_6 : FT 8 6 .int := ⟨_, _, _, rfl, rfl, by decide +kernel⟩
theorem ft_8_7 : FT 8 7 .int := ⟨_, _, _, rfl, rfl, by decide +kernel⟩
theorem ft_8_8 : FT 8 8 .int := ⟨_, _, _, rfl, rfl, by decide +kernel⟩
theorem ft_8_13 : FT 8 13 .int := ⟨_, _, _, rfl, rfl, by decide +kernel⟩
theorem ft_8_14 : FT 8 14 .int := ⟨_, _, _, rfl, rfl, by decide +kernel⟩
theorem ft_8_15 : FT 8 15 .int := ⟨_, _, _, rfl, rfl, by decide +kernel⟩
theorem ft_8_16 : FT 8 16 .int := ⟨_, _, _, rfl, rfl, by decide +kernel⟩
theorem ft_8_22 : FT 8 22 .int := ⟨_, _, _, rfl, rfl, by decide +kernel⟩
theorem ft_8_25 : FT 8 25 .int := ⟨_, _, _, rfl, rfl, by decide +kernel⟩
theorem cm_J6_bitCount_0f7a4 : CM (mJ6_bitCount_0f7a4) 1 := ⟨mg (w := .code yJ6_bitCount_0f7a4 cJ6_bitCount_0f7a4 1 (some .int)) 678 (by decide +kernel) (by decide +kernel), mg (w := .initialized RJ6) 12 (by decide +kernel) (by decide +kernel), ⟨(by decide +kernel : RJ6 ≠ _), (by decide +kernel : RJ6 ≠ _), (by decide +kernel : (parseMethodDescriptor yJ6_bitCount_0f7a4.desc).map (fun d => d.parameters.length) = some 1)⟩, (by decide : 1 ≤ 21)⟩
theorem cs_J6_bitCount_0f7a4 : CS mJ6_bitCount_0f7a4 := mg (w := .static yJ6_bitCount_0f7a4) 677 (by decide +kernel) (by decide +kernel)
theorem cm_J9_max_7cf53 : CM (mJ9_max_7cf53) 2 := ⟨mg (w := .code yJ9_max_7cf53 cJ9_max_7cf53 2 (some .int)) 650 (by decide +kernel) (by decide +kernel), mg (w := .initialized RJ9) 10 (by decide +kernel) (by decide +kernel), ⟨(by decide +kernel : RJ9 ≠ _), (by decide +kernel : RJ9 ≠ _), (by decide +kernel : (parseMethodDescriptor yJ9_max_7cf53.desc).map (fun d => d.parameters.length) = some 2)⟩, (by decide : 2 ≤ 21)⟩
theorem cs_J9_max_7cf53 : CS mJ9_max_7cf53 := mg (w := .static yJ9_max_7cf53) 649 (by decide +kernel) (by decide +kernel)
theorem cm_J9_max_f86c9 : CM (mJ9_max_f86c9) 2 := ⟨mg (w := .code yJ9_max_f86c9 cJ9_max_f86c9 4 (some .long)) 636 (by decide +kernel) (by decide +kernel), mg (w := .initialized RJ9) 10 (by decide +kernel) (by decide +kernel), ⟨(by decide +kernel : RJ9 ≠ _), (by decide +kernel : RJ9 ≠ _), (by decide +kernel : (parseMethodDescriptor yJ9_max_f86c9.desc).map (fun d => d.parameters.length) = some 2)⟩, (by decide : 4 ≤ 21)⟩
theorem cs_J9_max_f86c9 : CS mJ9_max_f86c9 := mg (w := .static yJ9_max_f86c9) 635 (by decide +kernel) (by decide +kernel)
theorem cm_J9_min_7cf53 : CM (mJ9_min_7cf53) 2 := ⟨mg (w := .code yJ9_min_7cf53 cJ9_min_7cf53 2 (some .int)) 337 (by decide +kernel) (by decide +kernel), mg (w := .initialized RJ9) 10 (by decide +kernel) (by decide +kernel), ⟨(by decide +kernel : RJ9 ≠ _), (by decide +kernel : RJ9 ≠ _), (by decide +kernel : (parseMethodDescriptor yJ9_min_7cf53.desc).map (fun d => d.parameters.length) = some 2)⟩, (by decide : 2 ≤ 21)⟩
theorem cs_J9_min_7cf53 : CS mJ9_min_7cf53 := mg (w := .static yJ9_min_7cf53) 336 (by decide +kernel) (by decide +kernel)
theorem cm_X0_accept : CM (mX0_accept) 1 := ⟨mg (w := .code yX0_accept cX0_accept 2 none) 601 (by decide +kernel) (by decide +kernel), mg (w := .initialized RX0) 5 (by decide +kernel) (by decide +kernel), ⟨(by decide +kernel : RX0 ≠ _), (by decide +kernel : RX0 ≠ _), (by decide +kernel : (parseMethodDescriptor yX0_accept.desc).map (fun d => d.parameters.length) = some 1)⟩, (by decide : 2 ≤ 21)⟩
theorem ci_X0_accept : CI (mX0_accept) 0 := ⟨mg (w := .instanceMethod yX0_accept) 600 (by decide +kernel) (by decide +kernel), mt (w := .selects RX0 yX0_accept yX0_accept) (by decide +kernel) (by decide +kernel), _, _, rfl⟩
theorem cm_X0_choose (d : Nat) : CM (mX0_choose d) 2 := ⟨mg (w := .code yX0_choose cX0_choose 7 none) 607 (by decide +kernel) (by decide +kernel), mg (w := .initialized RX0) 5 (by decide +kernel) (by decide +kernel), ⟨(by decide +kernel : RX0 ≠ _), (by decide +kernel : RX0 ≠ _), (by decide +kernel : (parseMethodDescriptor yX0_choose.desc).map (fun d => d.parameters.length) = some 2)⟩, (by decide : 7 ≤ 21)⟩
theorem ci_X0_choose (d : Nat) : CI (mX0_choose d) 0 := ⟨mg (w := .instanceMethod yX0_choose) 606 (by decide +kernel) (by decide +kernel), mt (w := .selects RX0 yX0_choose yX0_choose) (by decide +kernel) (by decide +kernel), _, _, rfl⟩
theorem cm_X0_comesFirst : CM (mX0_comesFirst) 0 := ⟨mg (w := .code yX0_comesFirst cX0_comesFirst 2 (some .boolean)) 597 (by decide +kernel) (by decide +kernel), mg (w := .initialized RX0) 5 (by decide +kernel) (by decide +kernel), ⟨(by decide +kernel : RX0 ≠ _), (by decide +kernel : RX0 ≠ _), (by decide +kernel : (parseMethodDescriptor yX0_comesFirst.desc).map (fun d => d.parameters.length) = some 0)⟩, (by decide : 2 ≤ 21)⟩
theorem ci_X0_comesFirst : CI (mX0_comesFirst) 0 := ⟨mg (w := .instanceMethod yX0_comesFirst) 596 (by decide +kernel) (by decide +kernel), mt (w := .selects RX0 yX0_comesFirst yX0_comesFirst) (by decide +kernel) (by decide +kernel), _, _, rfl⟩
theorem cm_X0_init : CM (mX0_init) 3 := ⟨mg (w := .code yX0_init cX0_init 4 none) 131 (by decide +kernel) (by decide +kernel), mg (w := .initialized RX0) 5 (by decide +kernel) (by decide +kernel), ⟨(by decide +kernel : RX0 ≠ _), (by decide +kernel : RX0 ≠ _), (by decide +kernel : (parseMethodDescriptor yX0_init.desc).map (fun d => d.parameters.length) = some 3)⟩, (by decide : 4 ≤ 21)⟩
theorem cm_X0_noOlder : CM (mX0_noOlder) 2 := ⟨mg (w := .code yX0_noOlder cX0_noOlder 4 (some .int)) 593 (by decide +kernel) (by decide +kernel), mg (w := .initialized RX0) 5 (by decide +kernel) (by decide +kernel), ⟨(by decide +kernel : RX0 ≠ _), (by decide +kernel : RX0 ≠ _), (by decide +kernel : (parseMethodDescriptor yX0_noOlder.desc).map (fun d => d.parameters.length) = some 2)⟩, (by decide : 4 ≤ 21)⟩
theorem ci_X0_noOlder : CI (mX0_noOlder) 0 := ⟨mg (w := .instanceMethod yX0_noOlder) 592 (by decide +kernel) (by decide +kernel), mt (w := .selects RX0 yX0_noOlder yX0_noOlder) (by decide +kernel) (by decide +kernel), _, _, rfl⟩
theorem cm_X0_seek : CM (mX0_seek) 3 := ⟨mg (w := .code yX0_seek cX0_seek 4 none) 579 (by decide +kernel) (by decide +kernel), mg (w := .initialized RX0) 5 (by decide +kernel) (by decide +kernel), ⟨(by decide +kernel : RX0 ≠ _), (by decide +kernel : RX0 ≠ _), (by decide +kernel : (parseMethodDescriptor yX0_seek.desc).map (fun d => d.parameters.length) = some 3)⟩, (by decide : 4 ≤ 21)⟩
theorem ci_X0_seek : CI (mX0_seek) 0 := ⟨mg (w := .instanceMethod yX0_seek) 578 (by decide +kernel) (by decide +kernel), mt (w := .selects RX0 yX0_seek yX0_seek) (by decide +kernel) (by decide +kernel), _, _, rfl⟩
theorem cm_X0_seekOldest : CM (mX0_seekOldest) 0 := ⟨mg (w := .code yX0_seekOldest cX0_seekOldest 5 none) 583 (by decide +kernel) (by decide +kernel), mg (w := .initialized RX0) 5 (by decide +kernel) (by decide +kernel), ⟨(by decide +kernel : RX0 ≠ _), (by decide +kernel : RX0 ≠ _), (by decide +kernel : (parseMethodDescriptor yX0_seekOldest.desc).map (fun d => d.parameters.length) = some 0)⟩, (by decide : 5 ≤ 21)⟩
theorem ci_X0_seekOldest : CI (mX0_seekOldest) 0 := ⟨mg (w := .instanceMethod yX0_seekOldest) 582 (by decide +kernel) (by decide +kernel), mt (w := .selects RX0 yX0_seekOldest yX0_seekOldest) (by decide +kernel) (by decide +kernel), _, _, rfl⟩
theorem cm_X0_tryOldest : CM (mX0_tryOldest) 3 := ⟨mg (w := .code yX0_tryOldest cX0_tryOldest 7 none) 589 (by decide +kernel) (by decide +kernel), mg (w := .initialized RX0) 5 (by decide +kernel) (by decide +kernel), ⟨(by decide +kernel : RX0 ≠ _), (by decide +kernel : RX0 ≠ _), (by decide +kernel : (parseMethodDescriptor yX0_tryOldest.desc).map (fun d => d.parameters.length) = some 3)⟩, (by decide : 7 ≤ 21)⟩
theorem ci_X0_tryOldest : CI (mX0_tryOldest) 0 := ⟨mg (w := .instanceMethod yX0_tryOldest) 588 (by decide +kernel) (by decide +kernel), mt (w := .selects RX0 yX0_tryOldest yX0_tryOldest) (by decide +kernel) (by decide +kernel), _, _, rfl⟩
theorem cm_X1_addPart : CM (mX1_addPart) 3 := ⟨mg (w := .code yX1_addPart cX1_addPart 5 (some .int)) 399 (by decide +kernel) (by decide +kernel), mg (w := .initialized RX1) 3 (by decide +kernel) (by decide +kernel), ⟨(by decide +kernel : RX1 ≠ _), (by decide +kernel : RX1 ≠ _), (by decide +kernel : (parseMethodDescriptor yX1_addPart.desc).map (fun d => d.parameters.length) = some 3)⟩, (by decide : 5 ≤ 21)⟩
theorem ci_X1_addPart : CI (mX1_addPart) 1 := ⟨mg (w := .instanceMethod yX1_addPart) 398 (by decide +kernel) (by decide +kernel), mt (w := .selects RX1 yX1_addPart yX1_addPart) (by decide +kernel) (by decide +kernel), _, _, rfl⟩
theorem cm_X1_addShip : CM (mX1_addShip) 1 := ⟨mg (w := .code yX1_addShip cX1_addShip 3 (some .int)) 395 (by decide +kernel) (by decide +kernel), mg (w := .initialized RX1) 3 (by decide +kernel) (by decide +kernel), ⟨(by decide +kernel : RX1 ≠ _), (by decide +kernel : RX1 ≠ _), (by decide +kernel : (parseMethodDescriptor yX1_addShip.desc).map (fun d => d.parameters.length) = some 1)⟩, (by decide : 3 ≤ 21)⟩
theorem ci_X1_addShip : CI (mX1_addShip) 1 := ⟨mg (w := .instanceMethod yX1_addShip) 394 (by decide +kernel) (by decide +kernel), mt (w := .selects RX1 yX1_addShip yX1_addShip) (by decide +kernel) (by decide +kernel), _, _, rfl⟩
theorem cm_X1_copyFrom : CM (mX1_copyFrom) 1 := ⟨mg (w := .code yX1_copyFrom cX1_copyFrom 2 none) 538 (by decide +kernel) (by decide +kernel), mg (w := .initialized RX1) 3 (by decide +kernel) (by decide +kernel), ⟨(by decide +kernel : RX1 ≠ _), (by decide +kernel : RX1 ≠ _), (by decide +kernel : (parseMethodDescriptor yX1_copyFrom.desc).map (fun d => d.parameters.length) = some 1)⟩, (by decide : 2 ≤ 21)⟩
theorem ci_X1_copyFrom : CI (mX1_copyFrom) 1 := ⟨mg (w := .instanceMethod yX1_copyFrom) 537 (by decide +kernel) (by decide +kernel), mt (w := .selects RX1 yX1_copyFrom yX1_copyFrom) (by decide +kernel) (by decide +kernel), _, _, rfl⟩
theorem cm_X1_firstLying : CM (mX1_firstLying) 1 := ⟨mg (w := .code yX1_firstLying cX1_firstLying 3 (some .int)) 554 (by decide +kernel) (by decide +kernel), mg (w := .initialized RX1) 3 (by decide +kernel) (by decide +kernel), ⟨(by decide +kernel : RX1 ≠ _), (by decide +kernel : RX1 ≠ _), (by decide +kernel : (parseMethodDescriptor yX1_firstLying.desc).map (fun d => d.parameters.length) = some 1)⟩, (by decide : 3 ≤ 21)⟩
theorem ci_X1_firstLying : CI (mX1_firstLying) 1 := ⟨mg (w := .instanceMethod yX1_firstLying) 553 (by decide +kernel) (by decide +kernel), mt (w := .selects RX1 yX1_firstLying yX1_firstLying) (by decide +kernel) (by decide +kernel), _, _, rfl⟩
theorem cm_X1_init : CM (mX1_init) 0 := ⟨mg (w := .code yX1_init cX1_init 1 none) 58 (by decide +kernel) (by decide +kernel), mg (w := .initialized RX1) 3 (by decide +kernel) (by decide +kernel), ⟨(by decide +kernel : RX1 ≠ _), (by decide +kernel : RX1 ≠ _), (by decide +kernel : (parseMethodDescriptor yX1_init.desc).map (fun d => d.parameters.length) = some 0)⟩, (by decide : 1 ≤ 21)⟩
theorem cm_X1_liesFor : CM (mX1_liesFor) 2 := ⟨mg (w := .code yX1_liesFor cX1_liesFor 3 (some .boolean)) 423 (by decide +kernel) (by decide +kernel), mg (w := .initialized RX1) 3 (by decide +kernel) (by decide +kernel), ⟨(by decide +kernel : RX1 ≠ _), (by decide +kernel : RX1 ≠ _), (by decide +kernel : (parseMethodDescriptor yX1_liesFor.desc).map (fun d => d.parameters.length) = some 2)⟩, (by decide : 3 ≤ 21)⟩
theorem ci_X1_liesFor : CI (mX1_liesFor) 1 := ⟨mg (w := .instanceMethod yX1_liesFor) 422 (by decide +kernel) (by decide +kernel), mt (w := .selects RX1 yX1_liesFor yX1_liesFor) (by decide +kernel) (by decide +kernel), _, _, rfl⟩
theorem cm_X1_lying : CM (mX1_lying) 0 := ⟨mg (w := .code yX1_lying cX1_lying 3 (some .int)) 514 (by decide +kernel) (by decide +kernel), mg (w := .initialized RX1) 3 (by decide +kernel) (by decide +kernel), ⟨(by decide +kernel : RX1 ≠ _), (by decide +kernel : RX1 ≠ _), (by decide +kernel : (parseMethodDescriptor yX1_lying.desc).map (fun d => d.parameters.length) = some 0)⟩, (by decide : 3 ≤ 21)⟩
theorem ci_X1_lying : CI (mX1_lying) 1 := ⟨mg (w := .instanceMethod yX1_lying) 513 (by decide +kernel) (by decide +kernel), mt (w := .selects RX1 yX1_lying yX1_lying) (by decide +kernel) (by decide +kernel), _, _, rfl⟩
theorem cm_X1_lyingOf : CM (mX1_lyingOf) 1 := ⟨mg (w := .code yX1_lyingOf cX1_lyingOf 4 (some .int)) 419 (by decide +kernel) (by decide +kernel), mg (w := .initialized RX1) 3 (by decide +kernel) (by decide +kernel), ⟨(by decide +kernel : RX1 ≠ _), (by decide +kernel : RX1 ≠ _), (by decide +kernel : (parseMethodDescriptor yX1_lyingOf.desc).map (fun d => d.parameters.length) = some 1)⟩, (by decide : 4 ≤ 21)⟩
theorem ci_X1_lyingOf : CI (mX1_lyingOf) 1 := ⟨mg (w := .instanceMethod yX1_lyingOf) 418 (by decide +kernel) (by decide +kernel), mt (w := .selects RX1 yX1_lyingOf yX1_lyingOf) (by decide +kernel) (by decide +kernel), _, _, rfl⟩
theorem cm_X1_partAt : CM (mX1_partAt) 2 := ⟨mg (w := .code yX1_partAt cX1_partAt 3 (some .int)) 443 (by decide +kernel) (by decide +kernel), mg (w := .initialized RX1) 3 (by decide +kernel) (by decide +kernel), ⟨(by decide +kernel : RX1 ≠ _), (by decide +kernel : RX1 ≠ _), (by decide +kernel : (parseMethodDescriptor yX1_partAt.desc).map (fun d => d.parameters.length) = some 2)⟩, (by decide : 3 ≤ 21)⟩
theorem ci_X1_partAt : CI (mX1_partAt) 1 := ⟨mg (w := .instanceMethod yX1_partAt) 442 (by decide +kernel) (by decide +kernel), mt (w := .selects RX1 yX1_partAt yX1_partAt) (by decide +kernel) (by decide +kernel), _, _, rfl⟩
theorem cm_X1_putIn : CM (mX1_putIn) 2 := ⟨mg (w := .code yX1_putIn cX1_putIn 3 none) 403 (by decide +kernel) (by decide +kernel), mg (w := .initialized RX1) 3 (by decide +kernel) (by decide +kernel), ⟨(by decide +kernel : RX1 ≠ _), (by decide +kernel : RX1 ≠ _), (by decide +kernel : (parseMethodDescriptor yX1_putIn.desc).map (fun d => d.parameters.length) = some 2)⟩, (by decide : 3 ≤ 21)⟩
theorem ci_X1_putIn : CI (mX1_putIn) 1 := ⟨mg (w := .instanceMethod yX1_putIn) 402 (by decide +kernel) (by decide +kernel), mt (w := .selects RX1 yX1_putIn yX1_putIn) (by decide +kernel) (by decide +kernel), _, _, rfl⟩
theorem cm_X1_startAnew : CM (mX1_startAnew) 0 := ⟨mg (w := .code yX1_startAnew cX1_startAnew 1 none) 391 (by decide +kernel) (by decide +kernel), mg (w := .initialized RX1) 3 (by decide +kernel) (by decide +kernel), ⟨(by decide +kernel : RX1 ≠ _), (by decide +kernel : RX1 ≠ _), (by decide +kernel : (parseMethodDescriptor yX1_startAnew.desc).map (fun d => d.parameters.length) = some 0)⟩, (by decide : 1 ≤ 21)⟩
theorem ci_X1_startAnew : CI (mX1_startAnew) 1 := ⟨mg (w := .instanceMethod yX1_startAnew) 390 (by decide +kernel) (by decide +kernel), mt (w := .selects RX1 yX1_startAnew yX1_startAnew) (by decide +kernel) (by decide +kernel), _, _, rfl⟩
theorem cm_X2_ageAndRenew : CM (mX2_ageAndRenew) 0 := ⟨mg (w := .code yX2_ageAndRenew cX2_ageAndRenew 3 (some .int)) 617 (by decide +kernel) (by decide +kernel), mg (w := .initialized RX2) 4 (by decide +kernel) (by decide +kernel), ⟨(by decide +kernel : RX2 ≠ _), (by decide +kernel : RX2 ≠ _), (by decide +kernel : (parseMethodDescriptor yX2_ageAndRenew.desc).map (fun d => d.parameters.length) = some 0)⟩, (by decide : 3 ≤ 21)⟩
theorem ci_X2_ageAndRenew : CI (mX2_ageAndRenew) 2 := ⟨mg (w := .instanceMethod yX2_ageAndRenew) 616 (by decide +kernel) (by decide +kernel), mt (w := .selects RX2 yX2_ageAndRenew yX2_ageAndRenew) (by decide +kernel) (by decide +kernel), _, _, rfl⟩
theorem cm_X2_byHalf : CM (mX2_byHalf) 0 := ⟨mg (w := .code yX2_byHalf cX2_byHalf 4 (some .int)) 506 (by decide +kernel) (by decide +kernel), mg (w := .initialized RX2) 4 (by decide +kernel) (by decide +kernel), ⟨(by decide +kernel : RX2 ≠ _), (by decide +kernel : RX2 ≠ _), (by decide +kernel : (parseMethodDescriptor yX2_byHalf.desc).map (fun d => d.parameters.length) = some 0)⟩, (by decide : 4 ≤ 21)⟩
theorem ci_X2_byHalf : CI (mX2_byHalf) 2 := ⟨mg (w := .instanceMethod yX2_byHalf) 505 (by decide +kernel) (by decide +kernel), mt (w := .selects RX2 yX2_byHalf yX2_byHalf) (by decide +kernel) (by decide +kernel), _, _, rfl⟩
theorem cm_X2_byMore : CM (mX2_byMore) 0 := ⟨mg (w := .code yX2_byMore cX2_byMore 4 (some .int)) 498 (by decide +kernel) (by decide +kernel), mg (w := .initialized RX2) 4 (by decide +kernel) (by decide +kernel), ⟨(by decide +kernel : RX2 ≠ _), (by decide +kernel : RX2 ≠ _), (by decide +kernel : (parseMethodDescriptor yX2_byMore.desc).map (fun d => d.parameters.length) = some 0)⟩, (by decide : 4 ≤ 21)⟩
theorem ci_X2_byMore : CI (mX2_byMore) 2 := ⟨mg (w := .instanceMethod yX2_byMore) 497 (by decide +kernel) (by decide +kernel), mt (w := .selects RX2 yX2_byMore yX2_byMore) (by decide +kernel) (by decide +kernel), _, _, rfl⟩
theorem cm_X2_byMost : CM (mX2_byMost) 0 := ⟨mg (w := .code yX2_byMost cX2_byMost 3 (some .int)) 486 (by decide +kernel) (by decide +kernel), mg (w := .initialized RX2) 4 (by decide +kernel) (by decide +kernel), ⟨(by decide +kernel : RX2 ≠ _), (by decide +kernel : RX2 ≠ _), (by decide +kernel : (parseMethodDescriptor yX2_byMost.desc).map (fun d => d.parameters.length) = some 0)⟩, (by decide : 3 ≤ 21)⟩
theorem ci_X2_byMost : CI (mX2_byMost) 2 := ⟨mg (w := .instanceMethod yX2_byMost) 485 (by decide +kernel) (by decide +kernel), mt (w := .selects RX2 yX2_byMost yX2_byMost) (by decide +kernel) (by decide +kernel), _, _, rfl⟩
theorem cm_X2_init : CM (mX2_init) 2 := ⟨mg (w := .code yX2_init cX2_init 3 none) 108 (by decide +kernel) (by decide +kernel), mg (w := .initialized RX2) 4 (by decide +kernel) (by decide +kernel), ⟨(by decide +kernel : RX2 ≠ _), (by decide +kernel : RX2 ≠ _), (by decide +kernel : (parseMethodDescriptor yX2_init.desc).map (fun d => d.parameters.length) = some 2)⟩, (by decide : 3 ≤ 21)⟩
theorem cm_X2_load : CM (mX2_load) 1 := ⟨mg (w := .code yX2_load cX2_load 3 none) 466 (by decide +kernel) (by decide +kernel), mg (w := .initialized RX2) 4 (by decide +kernel) (by decide +kernel), ⟨(by decide +kernel : RX2 ≠ _), (by decide +kernel : RX2 ≠ _), (by decide +kernel : (parseMethodDescriptor yX2_load.desc).map (fun d => d.parameters.length) = some 1)⟩, (by decide : 3 ≤ 21)⟩
theorem ci_X2_load : CI (mX2_load) 2 := ⟨mg (w := .instanceMethod yX2_load) 465 (by decide +kernel) (by decide +kernel), mt (w := .selects RX2 yX2_load yX2_load) (by decide +kernel) (by decide +kernel), _, _, rfl⟩
theorem cm_X2_oldest : CM (mX2_oldest) 0 := ⟨mg (w := .code yX2_oldest cX2_oldest 3 (some .int)) 502 (by decide +kernel) (by decide +kernel), mg (w := .initialized RX2) 4 (by decide +kernel) (by decide +kernel), ⟨(by decide +kernel : RX2 ≠ _), (by decide +kernel : RX2 ≠ _), (by decide +kernel : (parseMethodDescriptor yX2_oldest.desc).map (fun d => d.parameters.length) = some 0)⟩, (by decide : 3 ≤ 21)⟩
theorem ci_X2_oldest : CI (mX2_oldest) 2 := ⟨mg (w := .instanceMethod yX2_oldest) 501 (by decide +kernel) (by decide +kernel), mt (w := .selects RX2 yX2_oldest yX2_oldest) (by decide +kernel) (by decide +kernel), _, _, rfl⟩
theorem cm_X2_put : CM (mX2_put) 3 := ⟨mg (w := .code yX2_put cX2_put 4 none) 475 (by decide +kernel) (by decide +kernel), mg (w := .initialized RX2) 4 (by decide +kernel) (by decide +kernel), ⟨(by decide +kernel : RX2 ≠ _), (by decide +kernel : RX2 ≠ _), (by decide +kernel : (parseMethodDescriptor yX2_put.desc).map (fun d => d.parameters.length) = some 3)⟩, (by decide : 4 ≤ 21)⟩
theorem ci_X2_put : CI (mX2_put) 2 := ⟨mg (w := .instanceMethod yX2_put) 474 (by decide +kernel) (by decide +kernel), mt (w := .selects RX2 yX2_put yX2_put) (by decide +kernel) (by decide +kernel), _, _, rfl⟩
theorem cm_X2_putPart : CM (mX2_putPart) 2 := ⟨mg (w := .code yX2_putPart cX2_putPart 3 none) 471 (by decide +kernel) (by decide +kernel), mg (w := .initialized RX2) 4 (by decide +kernel) (by decide +kernel), ⟨(by decide +kernel : RX2 ≠ _), (by decide +kernel : RX2 ≠ _), (by decide +kernel : (parseMethodDescriptor yX2_putPart.desc).map (fun d => d.parameters.length) = some 2)⟩, (by decide : 3 ≤ 21)⟩
theorem ci_X2_putPart : CI (mX2_putPart) 2 := ⟨mg (w := .instanceMethod yX2_putPart) 470 (by decide +kernel) (by decide +kernel), mt (w := .selects RX2 yX2_putPart yX2_putPart) (by decide +kernel) (by decide +kernel), _, _, rfl⟩
theorem cm_X2_shipOf : CM (mX2_shipOf) 1 := ⟨mg (w := .code yX2_shipOf cX2_shipOf 1 (some .int)) 482 (by decide +kernel) (by decide +kernel), mg (w := .initialized RX2) 4 (by decide +kernel) (by decide +kernel), ⟨(by decide +kernel : RX2 ≠ _), (by decide +kernel : RX2 ≠ _), (by decide +kernel : (parseMethodDescriptor yX2_shipOf.desc).map (fun d => d.parameters.length) = some 1)⟩, (by decide : 1 ≤ 21)⟩
theorem cs_X2_shipOf : CS mX2_shipOf := mg (w := .static yX2_shipOf) 481 (by decide +kernel) (by decide +kernel)
theorem cm_X2_weigh : CM (mX2_weigh) 0 := ⟨mg (w := .code yX2_weigh cX2_weigh 2 none) 490 (by decide +kernel) (by decide +kernel), mg (w := .initialized RX2) 4 (by decide +kernel) (by decide +kernel), ⟨(by decide +kernel : RX2 ≠ _), (by decide +kernel : RX2 ≠ _), (by decide +kernel : (parseMethodDescriptor yX2_weigh.desc).map (fun d => d.parameters.length) = some 0)⟩, (by decide : 2 ≤ 21)⟩
theorem ci_X2_weigh : CI (mX2_weigh) 2 := ⟨mg (w := .instanceMethod yX2_weigh) 489 (by decide +kernel) (by decide +kernel), mt (w := .selects RX2 yX2_weigh yX2_weigh) (by decide +kernel) (by decide +kernel), _, _, rfl⟩
theorem cm_X2_whose : CM (mX2_whose) 1 := ⟨mg (w := .code yX2_whose cX2_whose 2 (some .int)) 479 (by decide +kernel) (by decide +kernel), mg (w := .initialized RX2) 4 (by decide +kernel) (by decide +kernel), ⟨(by decide +kernel : RX2 ≠ _), (by decide +kernel : RX2 ≠ _), (by decide +kernel : (parseMethodDescriptor yX2_whose.desc).map (fun d => d.parameters.length) = some 1)⟩, (by decide : 2 ≤ 21)⟩
theorem ci_X2_whose : CI (mX2_whose) 2 := ⟨mg (w := .instanceMethod yX2_whose) 478 (by decide +kernel) (by decide +kernel), mt (w := .selects RX2 yX2_whose yX2_whose) (by decide +kernel) (by decide +kernel), _, _, rfl⟩
theorem cm_X3_asBorrowed : CM (mX3_asBorrowed) 1 := ⟨mg (w := .code yX3_asBorrowed cX3_asBorrowed 2 (some .int)) 715 (by decide +kernel) (by decide +kernel), mg (w := .initialized RX3) 7 (by decide +kernel) (by decide +kernel), ⟨(by decide +kernel : RX3 ≠ _), (by decide +kernel : RX3 ≠ _), (by decide +kernel : (parseMethodDescriptor yX3_asBorrowed.desc).map (fun d => d.parameters.length) = some 1)⟩, (by decide : 2 ≤ 21)⟩
theorem ci_X3_asBorrowed : CI (mX3_asBorrowed) 3 := ⟨mg (w := .instanceMethod yX3_asBorrowed) 714 (by decide +kernel) (by decide +kernel), mt (w := .selects RX3 yX3_asBorrowed yX3_asBorrowed) (by decide +kernel) (by decide +kernel), _, _, rfl⟩
theorem cm_X3_asForged : CM (mX3_asForged) 1 := ⟨mg (w := .code yX3_asForged cX3_asForged 2 (some .int)) 730 (by decide +kernel) (by decide +kernel), mg (w := .initialized RX3) 7 (by decide +kernel) (by decide +kernel), ⟨(by decide +kernel : RX3 ≠ _), (by decide +kernel : RX3 ≠ _), (by decide +kernel : (parseMethodDescriptor yX3_asForged.desc).map (fun d => d.parameters.length) = some 1)⟩, (by decide : 2 ≤ 21)⟩
theorem ci_X3_asForged : CI (mX3_asForged) 3 := ⟨mg (w := .instanceMethod yX3_asForged) 729 (by decide +kernel) (by decide +kernel), mt (w := .selects RX3 yX3_asForged yX3_asForged) (by decide +kernel) (by decide +kernel), _, _, rfl⟩
theorem cm_X3_asKeel : CM (mX3_asKeel) 1 := ⟨mg (w := .code yX3_asKeel cX3_asKeel 2 (some .int)) 710 (by decide +kernel) (by decide +kernel), mg (w := .initialized RX3) 7 (by decide +kernel) (by decide +kernel), ⟨(by decide +kernel : RX3 ≠ _), (by decide +kernel : RX3 ≠ _), (by decide +kernel : (parseMethodDescriptor yX3_asKeel.desc).map (fun d => d.parameters.length) = some 1)⟩, (by decide : 2 ≤ 21)⟩
theorem ci_X3_asKeel : CI (mX3_asKeel) 3 := ⟨mg (w := .instanceMethod yX3_asKeel) 709 (by decide +kernel) (by decide +kernel), mt (w := .selects RX3 yX3_asKeel yX3_asKeel) (by decide +kernel) (by decide +kernel), _, _, rfl⟩
theorem cm_X3_asMast : CM (mX3_asMast) 1 := ⟨mg (w := .code yX3_asMast cX3_asMast 2 (some .int)) 720 (by decide +kernel) (by decide +kernel), mg (w := .initialized RX3) 7 (by decide +kernel) (by decide +kernel), ⟨(by decide +kernel : RX3 ≠ _), (by decide +kernel : RX3 ≠ _), (by decide +kernel : (parseMethodDescriptor yX3_asMast.desc).map (fun d => d.parameters.length) = some 1)⟩, (by decide : 2 ≤ 21)⟩
theorem ci_X3_asMast : CI (mX3_asMast) 3 := ⟨mg (w := .instanceMethod yX3_asMast) 719 (by decide +kernel) (by decide +kernel), mt (w := .selects RX3 yX3_asMast yX3_asMast) (by decide +kernel) (by decide +kernel), _, _, rfl⟩
theorem cm_X3_asPart : CM (mX3_asPart) 1 := ⟨mg (w := .code yX3_asPart cX3_asPart 2 (some .int)) 706 (by decide +kernel) (by decide +kernel), mg (w := .initialized RX3) 7 (by decide +kernel) (by decide +kernel), ⟨(by decide +kernel : RX3 ≠ _), (by decide +kernel : RX3 ≠ _), (by decide +kernel : (parseMethodDescriptor yX3_asPart.desc).map (fun d => d.parameters.length) = some 1)⟩, (by decide : 2 ≤ 21)⟩
theorem ci_X3_asPart : CI (mX3_asPart) 3 := ⟨mg (w := .instanceMethod yX3_asPart) 705 (by decide +kernel) (by decide +kernel), mt (w := .selects RX3 yX3_asPart yX3_asPart) (by decide +kernel) (by decide +kernel), _, _, rfl⟩
theorem cm_X3_asShared : CM (mX3_asShared) 1 := ⟨mg (w := .code yX3_asShared cX3_asShared 2 (some .int)) 725 (by decide +kernel) (by decide +kernel), mg (w := .initialized RX3) 7 (by decide +kernel) (by decide +kernel), ⟨(by decide +kernel : RX3 ≠ _), (by decide +kernel : RX3 ≠ _), (by decide +kernel : (parseMethodDescriptor yX3_asShared.desc).map (fun d => d.parameters.length) = some 1)⟩, (by decide : 2 ≤ 21)⟩
theorem ci_X3_asShared : CI (mX3_asShared) 3 := ⟨mg (w := .instanceMethod yX3_asShared) 724 (by decide +kernel) (by decide +kernel), mt (w := .selects RX3 yX3_asShared yX3_asShared) (by decide +kernel) (by decide +kernel), _, _, rfl⟩
theorem cm_X3_init : CM (mX3_init) 2 := ⟨mg (w := .code yX3_init cX3_init 3 none) 191 (by decide +kernel) (by decide +kernel), mg (w := .initialized RX3) 7 (by decide +kernel) (by decide +kernel), ⟨(by decide +kernel : RX3 ≠ _), (by decide +kernel : RX3 ≠ _), (by decide +kernel : (parseMethodDescriptor yX3_init.desc).map (fun d => d.parameters.length) = some 2)⟩, (by decide : 3 ≤ 21)⟩
theorem cm_X3_rateAs : CM (mX3_rateAs) 2 := ⟨mg (w := .code yX3_rateAs cX3_rateAs 3 (some .int)) 702 (by decide +kernel) (by decide +kernel), mg (w := .initialized RX3) 7 (by decide +kernel) (by decide +kernel), ⟨(by decide +kernel : RX3 ≠ _), (by decide +kernel : RX3 ≠ _), (by decide +kernel : (parseMethodDescriptor yX3_rateAs.desc).map (fun d => d.parameters.length) = some 2)⟩, (by decide : 3 ≤ 21)⟩
theorem ci_X3_rateAs : CI (mX3_rateAs) 3 := ⟨mg (w := .instanceMethod yX3_rateAs) 701 (by decide +kernel) (by decide +kernel), mt (w := .selects RX3 yX3_rateAs yX3_rateAs) (by decide +kernel) (by decide +kernel), _, _, rfl⟩
theorem cm_X4_forgetAll : CM (mX4_forgetAll) 0 := ⟨mg (w := .code yX4_forgetAll cX4_forgetAll 1 none) 407 (by decide +kernel) (by decide +kernel), mg (w := .initialized RX4) 6 (by decide +kernel) (by decide +kernel), ⟨(by decide +kernel : RX4 ≠ _), (by decide +kernel : RX4 ≠ _), (by decide +kernel : (parseMethodDescriptor yX4_forgetAll.desc).map (fun d => d.parameters.length) = some 0)⟩, (by decide : 1 ≤ 21)⟩
theorem ci_X4_forgetAll : CI (mX4_forgetAll) 4 := ⟨mg (w := .instanceMethod yX4_forgetAll) 406 (by decide +kernel) (by decide +kernel), mt (w := .selects RX4 yX4_forgetAll yX4_forgetAll) (by decide +kernel) (by decide +kernel), _, _, rfl⟩
theorem cm_X4_init : CM (mX4_init) 0 := ⟨mg (w := .code yX4_init cX4_init 2 none) 171 (by decide +kernel) (by decide +kernel), mg (w := .initialized RX4) 6 (by decide +kernel) (by decide +kernel), ⟨(by decide +kernel : RX4 ≠ _), (by decide +kernel : RX4 ≠ _), (by decide +kernel : (parseMethodDescriptor yX4_init.desc).map (fun d => d.parameters.length) = some 0)⟩, (by decide : 2 ≤ 21)⟩
theorem cm_X4_remember : CM (mX4_remember) 1 := ⟨mg (w := .code yX4_remember cX4_remember 2 none) 534 (by decide +kernel) (by decide +kernel), mg (w := .initialized RX4) 6 (by decide +kernel) (by decide +kernel), ⟨(by decide +kernel : RX4 ≠ _), (by decide +kernel : RX4 ≠ _), (by decide +kernel : (parseMethodDescriptor yX4_remember.desc).map (fun d => d.parameters.length) = some 1)⟩, (by decide : 2 ≤ 21)⟩
theorem ci_X4_remember : CI (mX4_remember) 4 := ⟨mg (w := .instanceMethod yX4_remember) 533 (by decide +kernel) (by decide +kernel), mt (w := .selects RX4 yX4_remember yX4_remember) (by decide +kernel) (by decide +kernel), _, _, rfl⟩
theorem cm_X4_restore : CM (mX4_restore) 1 := ⟨mg (w := .code yX4_restore cX4_restore 2 none) 567 (by decide +kernel) (by decide +kernel), mg (w := .initialized RX4) 6 (by decide +kernel) (by decide +kernel), ⟨(by decide +kernel : RX4 ≠ _), (by decide +kernel : RX4 ≠ _), (by decide +kernel : (parseMethodDescriptor yX4_restore.desc).map (fun d => d.parameters.length) = some 1)⟩, (by decide : 2 ≤ 21)⟩
theorem ci_X4_restore : CI (mX4_restore) 4 := ⟨mg (w := .instanceMethod yX4_restore) 566 (by decide +kernel) (by decide +kernel), mt (w := .selects RX4 yX4_restore yX4_restore) (by decide +kernel) (by decide +kernel), _, _, rfl⟩
theorem cm_X5_allWeights : CM (mX5_allWeights) 0 := ⟨mg (w := .code yX5_allWeights cX5_allWeights 3 (some .int)) 494 (by decide +kernel) (by decide +kernel), mg (w := .initialized RX5) 2 (by decide +kernel) (by decide +kernel), ⟨(by decide +kernel : RX5 ≠ _), (by decide +kernel : RX5 ≠ _), (by decide +kernel : (parseMethodDescriptor yX5_allWeights.desc).map (fun d => d.parameters.length) = some 0)⟩, (by decide : 3 ≤ 21)⟩
theorem ci_X5_allWeights : CI (mX5_allWeights) 5 := ⟨mg (w := .instanceMethod yX5_allWeights) 493 (by decide +kernel) (by decide +kernel), mt (w := .selects RX5 yX5_allWeights yX5_allWeights) (by decide +kernel) (by decide +kernel), _, _, rfl⟩
theorem cm_X5_copyFrom : CM (mX5_copyFrom) 1 := ⟨mg (w := .code yX5_copyFrom cX5_copyFrom 2 none) 380 (by decide +kernel) (by decide +kernel), mg (w := .initialized RX5) 2 (by decide +kernel) (by decide +kernel), ⟨(by decide +kernel : RX5 ≠ _), (by decide +kernel : RX5 ≠ _), (by decide +kernel : (parseMethodDescriptor yX5_copyFrom.desc).map (fun d => d.parameters.length) = some 1)⟩, (by decide : 2 ≤ 21)⟩
theorem ci_X5_copyFrom : CI (mX5_copyFrom) 5 := ⟨mg (w := .instanceMethod yX5_copyFrom) 379 (by decide +kernel) (by decide +kernel), mt (w := .selects RX5 yX5_copyFrom yX5_copyFrom) (by decide +kernel) (by decide +kernel), _, _, rfl⟩
theorem cm_X5_init : CM (mX5_init) 0 := ⟨mg (w := .code yX5_init cX5_init 1 none) 25 (by decide +kernel) (by decide +kernel), mg (w := .initialized RX5) 2 (by decide +kernel) (by decide +kernel), ⟨(by decide +kernel : RX5 ≠ _), (by decide +kernel : RX5 ≠ _), (by decide +kernel : (parseMethodDescriptor yX5_init.desc).map (fun d => d.parameters.length) = some 0)⟩, (by decide : 1 ≤ 21)⟩
theorem cm_X5_startAnew : CM (mX5_startAnew) 0 := ⟨mg (w := .code yX5_startAnew cX5_startAnew 2 none) 30 (by decide +kernel) (by decide +kernel), mg (w := .initialized RX5) 2 (by decide +kernel) (by decide +kernel), ⟨(by decide +kernel : RX5 ≠ _), (by decide +kernel : RX5 ≠ _), (by decide +kernel : (parseMethodDescriptor yX5_startAnew.desc).map (fun d => d.parameters.length) = some 0)⟩, (by decide : 2 ≤ 21)⟩
theorem ci_X5_startAnew : CI (mX5_startAnew) 5 := ⟨mg (w := .instanceMethod yX5_startAnew) 29 (by decide +kernel) (by decide +kernel), mt (w := .selects RX5 yX5_startAnew yX5_startAnew) (by decide +kernel) (by decide +kernel), _, _, rfl⟩
theorem cm_X6_init : CM (mX6_init) 1 := ⟨mg (w := .code yX6_init cX6_init 2 none) 208 (by decide +kernel) (by decide +kernel), mg (w := .initialized RX6) 8 (by decide +kernel) (by decide +kernel), ⟨(by decide +kernel : RX6 ≠ _), (by decide +kernel : RX6 ≠ _), (by decide +kernel : (parseMethodDescriptor yX6_init.desc).map (fun d => d.parameters.length) = some 1)⟩, (by decide : 2 ≤ 21)⟩
theorem cm_X6_isDigit : CM (mX6_isDigit) 1 := ⟨mg (w := .code yX6_isDigit cX6_isDigit 1 (some .boolean)) 330 (by decide +kernel) (by decide +kernel), mg (w := .initialized RX6) 8 (by decide +kernel) (by decide +kernel), ⟨(by decide +kernel : RX6 ≠ _), (by decide +kernel : RX6 ≠ _), (by decide +kernel : (parseMethodDescriptor yX6_isDigit.desc).map (fun d => d.parameters.length) = some 1)⟩, (by decide : 1 ≤ 21)⟩
theorem cs_X6_isDigit : CS mX6_isDigit := mg (w := .static yX6_isDigit) 329 (by decide +kernel) (by decide +kernel)
theorem cm_X6_readAll : CM (mX6_readAll) 1 := ⟨mg (w := .code yX6_readAll cX6_readAll 3 (some .int)) 318 (by decide +kernel) (by decide +kernel), mg (w := .initialized RX6) 8 (by decide +kernel) (by decide +kernel), ⟨(by decide +kernel : RX6 ≠ _), (by decide +kernel : RX6 ≠ _), (by decide +kernel : (parseMethodDescriptor yX6_readAll.desc).map (fun d => d.parameters.length) = some 1)⟩, (by decide : 3 ≤ 21)⟩
theorem ci_X6_readAll : CI (mX6_readAll) 6 := ⟨mg (w := .instanceMethod yX6_readAll) 317 (by decide +kernel) (by decide +kernel), mt (w := .selects RX6 yX6_readAll yX6_readAll) (by decide +kernel) (by decide +kernel), _, _, rfl⟩
theorem cm_X6_readEnd : CM (mX6_readEnd) 0 := ⟨mg (w := .code yX6_readEnd cX6_readEnd 1 none) 372 (by decide +kernel) (by decide +kernel), mg (w := .initialized RX6) 8 (by decide +kernel) (by decide +kernel), ⟨(by decide +kernel : RX6 ≠ _), (by decide +kernel : RX6 ≠ _), (by decide +kernel : (parseMethodDescriptor yX6_readEnd.desc).map (fun d => d.parameters.length) = some 0)⟩, (by decide : 1 ≤ 21)⟩
theorem ci_X6_readEnd : CI (mX6_readEnd) 6 := ⟨mg (w := .instanceMethod yX6_readEnd) 371 (by decide +kernel) (by decide +kernel), mt (w := .selects RX6 yX6_readEnd yX6_readEnd) (by decide +kernel) (by decide +kernel), _, _, rfl⟩
theorem cm_X6_readLife : CM (mX6_readLife) 0 := ⟨mg (w := .code yX6_readLife cX6_readLife 2 none) 357 (by decide +kernel) (by decide +kernel), mg (w := .initialized RX6) 8 (by decide +kernel) (by decide +kernel), ⟨(by decide +kernel : RX6 ≠ _), (by decide +kernel : RX6 ≠ _), (by decide +kernel : (parseMethodDescriptor yX6_readLife.desc).map (fun d => d.parameters.length) = some 0)⟩, (by decide : 2 ≤ 21)⟩
theorem ci_X6_readLife : CI (mX6_readLife) 6 := ⟨mg (w := .instanceMethod yX6_readLife) 356 (by decide +kernel) (by decide +kernel), mt (w := .selects RX6 yX6_readLife yX6_readLife) (by decide +kernel) (by decide +kernel), _, _, rfl⟩
theorem cm_X6_readNumber : CM (mX6_readNumber) 2 := ⟨mg (w := .code yX6_readNumber cX6_readNumber 3 (some .int)) 349 (by decide +kernel) (by decide +kernel), mg (w := .initialized RX6) 8 (by decide +kernel) (by decide +kernel), ⟨(by decide +kernel : RX6 ≠ _), (by decide +kernel : RX6 ≠ _), (by decide +kernel : (parseMethodDescriptor yX6_readNumber.desc).map (fun d => d.parameters.length) = some 2)⟩, (by decide : 3 ≤ 21)⟩
theorem ci_X6_readNumber : CI (mX6_readNumber) 6 := ⟨mg (w := .instanceMethod yX6_readNumber) 348 (by decide +kernel) (by decide +kernel), mt (w := .selects RX6 yX6_readNumber yX6_readNumber) (by decide +kernel) (by decide +kernel), _, _, rfl⟩
theorem cm_X6_readPlaces : CM (mX6_readPlaces) 0 := ⟨mg (w := .code yX6_readPlaces cX6_readPlaces 1 none) 341 (by decide +kernel) (by decide +kernel), mg (w := .initialized RX6) 8 (by decide +kernel) (by decide +kernel), ⟨(by decide +kernel : RX6 ≠ _), (by decide +kernel : RX6 ≠ _), (by decide +kernel : (parseMethodDescriptor yX6_readPlaces.desc).map (fun d => d.parameters.length) = some 0)⟩, (by decide : 1 ≤ 21)⟩
theorem ci_X6_readPlaces : CI (mX6_readPlaces) 6 := ⟨mg (w := .instanceMethod yX6_readPlaces) 340 (by decide +kernel) (by decide +kernel), mt (w := .selects RX6 yX6_readPlaces yX6_readPlaces) (by decide +kernel) (by decide +kernel), _, _, rfl⟩
theorem cm_X6_readShip : CM (mX6_readShip) 0 := ⟨mg (w := .code yX6_readShip cX6_readShip 1 none) 361 (by decide +kernel) (by decide +kernel), mg (w := .initialized RX6) 8 (by decide +kernel) (by decide +kernel), ⟨(by decide +kernel : RX6 ≠ _), (by decide +kernel : RX6 ≠ _), (by decide +kernel : (parseMethodDescriptor yX6_readShip.desc).map (fun d => d.parameters.length) = some 0)⟩, (by decide : 1 ≤ 21)⟩
theorem ci_X6_readShip : CI (mX6_readShip) 6 := ⟨mg (w := .instanceMethod yX6_readShip) 360 (by decide +kernel) (by decide +kernel), mt (w := .selects RX6 yX6_readShip yX6_readShip) (by decide +kernel) (by decide +kernel), _, _, rfl⟩
theorem cm_X6_readSpare : CM (mX6_readSpare) 0 := ⟨mg (w := .code yX6_readSpare cX6_readSpare 1 none) 365 (by decide +kernel) (by decide +kernel), mg (w := .initialized RX6) 8 (by decide +kernel) (by decide +kernel), ⟨(by decide +kernel : RX6 ≠ _), (by decide +kernel : RX6 ≠ _), (by decide +kernel : (parseMethodDescriptor yX6_readSpare.desc).map (fun d => d.parameters.length) = some 0)⟩, (by decide : 1 ≤ 21)⟩
theorem ci_X6_readSpare : CI (mX6_readSpare) 6 := ⟨mg (w := .instanceMethod yX6_readSpare) 364 (by decide +kernel) (by decide +kernel), mt (w := .selects RX6 yX6_readSpare yX6_readSpare) (by decide +kernel) (by decide +kernel), _, _, rfl⟩
theorem cm_X6_readWeight : CM (mX6_readWeight) 0 := ⟨mg (w := .code yX6_readWeight cX6_readWeight 2 none) 353 (by decide +kernel) (by decide +kernel), mg (w := .initialized RX6) 8 (by decide +kernel) (by decide +kernel), ⟨(by decide +kernel : RX6 ≠ _), (by decide +kernel : RX6 ≠ _), (by decide +kernel : (parseMethodDescriptor yX6_readWeight.desc).map (fun d => d.parameters.length) = some 0)⟩, (by decide : 2 ≤ 21)⟩
theorem ci_X6_readWeight : CI (mX6_readWeight) 6 := ⟨mg (w := .instanceMethod yX6_readWeight) 352 (by decide +kernel) (by decide +kernel), mt (w := .selects RX6 yX6_readWeight yX6_readWeight) (by decide +kernel) (by decide +kernel), _, _, rfl⟩
theorem cm_X6_refuse : CM (mX6_refuse) 0 := ⟨mg (w := .code yX6_refuse cX6_refuse 1 none) 345 (by decide +kernel) (by decide +kernel), mg (w := .initialized RX6) 8 (by decide +kernel) (by decide +kernel), ⟨(by decide +kernel : RX6 ≠ _), (by decide +kernel : RX6 ≠ _), (by decide +kernel : (parseMethodDescriptor yX6_refuse.desc).map (fun d => d.parameters.length) = some 0)⟩, (by decide : 1 ≤ 21)⟩
theorem ci_X6_refuse : CI (mX6_refuse) 6 := ⟨mg (w := .instanceMethod yX6_refuse) 344 (by decide +kernel) (by decide +kernel), mt (w := .selects RX6 yX6_refuse yX6_refuse) (by decide +kernel) (by decide +kernel), _, _, rfl⟩
theorem cm_X6_startAnew : CM (mX6_startAnew) 1 := ⟨mg (w := .code yX6_startAnew cX6_startAnew 2 none) 322 (by decide +kernel) (by decide +kernel), mg (w := .initialized RX6) 8 (by decide +kernel) (by decide +kernel), ⟨(by decide +kernel : RX6 ≠ _), (by decide +kernel : RX6 ≠ _), (by decide +kernel : (parseMethodDescriptor yX6_startAnew.desc).map (fun d => d.parameters.length) = some 1)⟩, (by decide : 2 ≤ 21)⟩
theorem ci_X6_startAnew : CI (mX6_startAnew) 6 := ⟨mg (w := .instanceMethod yX6_startAnew) 321 (by decide +kernel) (by decide +kernel), mt (w := .selects RX6 yX6_startAnew yX6_startAnew) (by decide +kernel) (by decide +kernel), _, _, rfl⟩
theorem cm_X6_step : CM (mX6_step) 0 := ⟨mg (w := .code yX6_step cX6_step 1 none) 327 (by decide +kernel) (by decide +kernel), mg (w := .initialized RX6) 8 (by decide +kernel) (by decide +kernel), ⟨(by decide +kernel : RX6 ≠ _), (by decide +kernel : RX6 ≠ _), (by decide +kernel : (parseMethodDescriptor yX6_step.desc).map (fun d => d.parameters.length) = some 0)⟩, (by decide : 1 ≤ 21)⟩
theorem ci_X6_step : CI (mX6_step) 6 := ⟨mg (w := .instanceMethod yX6_step) 326 (by decide +kernel) (by decide +kernel), mt (w := .selects RX6 yX6_step yX6_step) (by decide +kernel) (by decide +kernel), _, _, rfl⟩
theorem cm_X6_stepNumber : CM (mX6_stepNumber) 0 := ⟨mg (w := .code yX6_stepNumber cX6_stepNumber 3 none) 334 (by decide +kernel) (by decide +kernel), mg (w := .initialized RX6) 8 (by decide +kernel) (by decide +kernel), ⟨(by decide +kernel : RX6 ≠ _), (by decide +kernel : RX6 ≠ _), (by decide +kernel : (parseMethodDescriptor yX6_stepNumber.desc).map (fun d => d.parameters.length) = some 0)⟩, (by decide : 3 ≤ 21)⟩
theorem ci_X6_stepNumber : CI (mX6_stepNumber) 6 := ⟨mg (w := .instanceMethod yX6_stepNumber) 333 (by decide +kernel) (by decide +kernel), mt (w := .selects RX6 yX6_stepNumber yX6_stepNumber) (by decide +kernel) (by decide +kernel), _, _, rfl⟩
theorem cm_X6_tellFleet : CM (mX6_tellFleet) 1 := ⟨mg (w := .code yX6_tellFleet cX6_tellFleet 5 none) 387 (by decide +kernel) (by decide +kernel), mg (w := .initialized RX6) 8 (by decide +kernel) (by decide +kernel), ⟨(by decide +kernel : RX6 ≠ _), (by decide +kernel : RX6 ≠ _), (by decide +kernel : (parseMethodDescriptor yX6_tellFleet.desc).map (fun d => d.parameters.length) = some 1)⟩, (by decide : 5 ≤ 21)⟩
theorem ci_X6_tellFleet : CI (mX6_tellFleet) 6 := ⟨mg (w := .instanceMethod yX6_tellFleet) 386 (by decide +kernel) (by decide +kernel), mt (w := .selects RX6 yX6_tellFleet yX6_tellFleet) (by decide +kernel) (by decide +kernel), _, _, rfl⟩
theorem cm_X6_tellPlan : CM (mX6_tellPlan) 1 := ⟨mg (w := .code yX6_tellPlan cX6_tellPlan 2 none) 376 (by decide +kernel) (by decide +kernel), mg (w := .initialized RX6) 8 (by decide +kernel) (by decide +kernel), ⟨(by decide +kernel : RX6 ≠ _), (by decide +kernel : RX6 ≠ _), (by decide +kernel : (parseMethodDescriptor yX6_tellPlan.desc).map (fun d => d.parameters.length) = some 1)⟩, (by decide : 2 ≤ 21)⟩
theorem ci_X6_tellPlan : CI (mX6_tellPlan) 6 := ⟨mg (w := .instanceMethod yX6_tellPlan) 375 (by decide +kernel) (by decide +kernel), mt (w := .selects RX6 yX6_tellPlan yX6_tellPlan) (by decide +kernel) (by decide +kernel), _, _, rfl⟩
theorem cm_X7_back : CM (mX7_back) 1 := ⟨mg (w := .code yX7_back cX7_back 2 (some .int)) 742 (by decide +kernel) (by decide +kernel), mg (w := .initialized RX7) 1 (by decide +kernel) (by decide +kernel), ⟨(by decide +kernel : RX7 ≠ _), (by decide +kernel : RX7 ≠ _), (by decide +kernel : (parseMethodDescriptor yX7_back.desc).map (fun d => d.parameters.length) = some 1)⟩, (by decide : 2 ≤ 21)⟩
theorem ci_X7_back : CI (mX7_back) 7 := ⟨mg (w := .instanceMethod yX7_back) 740 (by decide +kernel) (by decide +kernel), mg (w := .selects RX7 yX7_back yX7_back) 741 (by decide +kernel) (by decide +kernel), _, _, rfl⟩
theorem cm_X7_becomes : CM (mX7_becomes) 4 := ⟨mg (w := .code yX7_becomes cX7_becomes 5 (some .int)) 575 (by decide +kernel) (by decide +kernel), mg (w := .initialized RX7) 1 (by decide +kernel) (by decide +kernel), ⟨(by decide +kernel : RX7 ≠ _), (by decide +kernel : RX7 ≠ _), (by decide +kernel : (parseMethodDescriptor yX7_becomes.desc).map (fun d => d.parameters.length) = some 4)⟩, (by decide : 5 ≤ 21)⟩
theorem ci_X7_becomes : CI (mX7_becomes) 7 := ⟨mg (w := .instanceMethod yX7_becomes) 573 (by decide +kernel) (by decide +kernel), mg (w := .selects RX7 yX7_becomes yX7_becomes) 574 (by decide +kernel) (by decide +kernel), _, _, rfl⟩
theorem cm_X7_build : CM (mX7_build) 0 := ⟨mg (w := .code yX7_build cX7_build 3 (some .int)) 550 (by decide +kernel) (by decide +kernel), mg (w := .initialized RX7) 1 (by decide +kernel) (by decide +kernel), ⟨(by decide +kernel : RX7 ≠ _), (by decide +kernel : RX7 ≠ _), (by decide +kernel : (parseMethodDescriptor yX7_build.desc).map (fun d => d.parameters.length) = some 0)⟩, (by decide : 3 ≤ 21)⟩
theorem ci_X7_build : CI (mX7_build) 7 := ⟨mg (w := .instanceMethod yX7_build) 548 (by decide +kernel) (by decide +kernel), mg (w := .selects RX7 yX7_build yX7_build) 549 (by decide +kernel) (by decide +kernel), _, _, rfl⟩
theorem cm_X7_clear : CM (mX7_clear) 0 := ⟨mg (w := .code yX7_clear cX7_clear 2 (some .int)) 310 (by decide +kernel) (by decide +kernel), mg (w := .initialized RX7) 1 (by decide +kernel) (by decide +kernel), ⟨(by decide +kernel : RX7 ≠ _), (by decide +kernel : RX7 ≠ _), (by decide +kernel : (parseMethodDescriptor yX7_clear.desc).map (fun d => d.parameters.length) = some 0)⟩, (by decide : 2 ≤ 21)⟩
theorem ci_X7_clear : CI (mX7_clear) 7 := ⟨mg (w := .instanceMethod yX7_clear) 308 (by decide +kernel) (by decide +kernel), mg (w := .selects RX7 yX7_clear yX7_clear) 309 (by decide +kernel) (by decide +kernel), _, _, rfl⟩
theorem cm_X7_commonDivisor : CM (mX7_commonDivisor) 2 := ⟨mg (w := .code yX7_commonDivisor cX7_commonDivisor 11 (some .long)) 633 (by decide +kernel) (by decide +kernel), mg (w := .initialized RX7) 1 (by decide +kernel) (by decide +kernel), ⟨(by decide +kernel : RX7 ≠ _), (by decide +kernel : RX7 ≠ _), (by decide +kernel : (parseMethodDescriptor yX7_commonDivisor.desc).map (fun d => d.parameters.length) = some 2)⟩, (by decide : 11 ≤ 21)⟩
theorem cs_X7_commonDivisor : CS mX7_commonDivisor := mg (w := .static yX7_commonDivisor) 632 (by decide +kernel) (by decide +kernel)
theorem cm_X7_count : CM (mX7_count) 1 := ⟨mg (w := .code yX7_count cX7_count 2 (some .int)) 746 (by decide +kernel) (by decide +kernel), mg (w := .initialized RX7) 1 (by decide +kernel) (by decide +kernel), ⟨(by decide +kernel : RX7 ≠ _), (by decide +kernel : RX7 ≠ _), (by decide +kernel : (parseMethodDescriptor yX7_count.desc).map (fun d => d.parameters.length) = some 1)⟩, (by decide : 2 ≤ 21)⟩
theorem ci_X7_count : CI (mX7_count) 7 := ⟨mg (w := .instanceMethod yX7_count) 744 (by decide +kernel) (by decide +kernel), mg (w := .selects RX7 yX7_count yX7_count) 745 (by decide +kernel) (by decide +kernel), _, _, rfl⟩
theorem cm_X7_decides : CM (mX7_decides) 2 := ⟨mg (w := .code yX7_decides cX7_decides 6 (some .int)) 640 (by decide +kernel) (by decide +kernel), mg (w := .initialized RX7) 1 (by decide +kernel) (by decide +kernel), ⟨(by decide +kernel : RX7 ≠ _), (by decide +kernel : RX7 ≠ _), (by decide +kernel : (parseMethodDescriptor yX7_decides.desc).map (fun d => d.parameters.length) = some 2)⟩, (by decide : 6 ≤ 21)⟩
theorem ci_X7_decides : CI (mX7_decides) 7 := ⟨mg (w := .instanceMethod yX7_decides) 638 (by decide +kernel) (by decide +kernel), mg (w := .selects RX7 yX7_decides yX7_decides) 639 (by decide +kernel) (by decide +kernel), _, _, rfl⟩
theorem cm_X7_differIn : CM (mX7_differIn) 3 := ⟨mg (w := .code yX7_differIn cX7_differIn 6 (some .boolean)) 689 (by decide +kernel) (by decide +kernel), mg (w := .initialized RX7) 1 (by decide +kernel) (by decide +kernel), ⟨(by decide +kernel : RX7 ≠ _), (by decide +kernel : RX7 ≠ _), (by decide +kernel : (parseMethodDescriptor yX7_differIn.desc).map (fun d => d.parameters.length) = some 3)⟩, (by decide : 6 ≤ 21)⟩
theorem ci_X7_differIn : CI (mX7_differIn) 7 := ⟨mg (w := .instanceMethod yX7_differIn) 688 (by decide +kernel) (by decide +kernel), mt (w := .selects RX7 yX7_differIn yX7_differIn) (by decide +kernel) (by decide +kernel), _, _, rfl⟩
theorem cm_X7_fairLaws : CM (mX7_fairLaws) 0 := ⟨mg (w := .code yX7_fairLaws cX7_fairLaws 3 (some .int)) 522 (by decide +kernel) (by decide +kernel), mg (w := .initialized RX7) 1 (by decide +kernel) (by decide +kernel), ⟨(by decide +kernel : RX7 ≠ _), (by decide +kernel : RX7 ≠ _), (by decide +kernel : (parseMethodDescriptor yX7_fairLaws.desc).map (fun d => d.parameters.length) = some 0)⟩, (by decide : 3 ≤ 21)⟩
theorem ci_X7_fairLaws : CI (mX7_fairLaws) 7 := ⟨mg (w := .instanceMethod yX7_fairLaws) 521 (by decide +kernel) (by decide +kernel), mt (w := .selects RX7 yX7_fairLaws yX7_fairLaws) (by decide +kernel) (by decide +kernel), _, _, rfl⟩
theorem cm_X7_firstTwins : CM (mX7_firstTwins) 1 := ⟨mg (w := .code yX7_firstTwins cX7_firstTwins 5 (some .int)) 526 (by decide +kernel) (by decide +kernel), mg (w := .initialized RX7) 1 (by decide +kernel) (by decide +kernel), ⟨(by decide +kernel : RX7 ≠ _), (by decide +kernel : RX7 ≠ _), (by decide +kernel : (parseMethodDescriptor yX7_firstTwins.desc).map (fun d => d.parameters.length) = some 1)⟩, (by decide : 5 ≤ 21)⟩
theorem ci_X7_firstTwins : CI (mX7_firstTwins) 7 := ⟨mg (w := .instanceMethod yX7_firstTwins) 525 (by decide +kernel) (by decide +kernel), mt (w := .selects RX7 yX7_firstTwins yX7_firstTwins) (by decide +kernel) (by decide +kernel), _, _, rfl⟩
theorem cm_X7_forget : CM (mX7_forget) 0 := ⟨mg (w := .code yX7_forget cX7_forget 2 (some .int)) 663 (by decide +kernel) (by decide +kernel), mg (w := .initialized RX7) 1 (by decide +kernel) (by decide +kernel), ⟨(by decide +kernel : RX7 ≠ _), (by decide +kernel : RX7 ≠ _), (by decide +kernel : (parseMethodDescriptor yX7_forget.desc).map (fun d => d.parameters.length) = some 0)⟩, (by decide : 2 ≤ 21)⟩
theorem ci_X7_forget : CI (mX7_forget) 7 := ⟨mg (w := .instanceMethod yX7_forget) 661 (by decide +kernel) (by decide +kernel), mg (w := .selects RX7 yX7_forget yX7_forget) 662 (by decide +kernel) (by decide +kernel), _, _, rfl⟩
theorem cm_X7_fresh : CM (mX7_fresh) 1 := ⟨mg (w := .code yX7_fresh cX7_fresh 2 (some .int)) 545 (by decide +kernel) (by decide +kernel), mg (w := .initialized RX7) 1 (by decide +kernel) (by decide +kernel), ⟨(by decide +kernel : RX7 ≠ _), (by decide +kernel : RX7 ≠ _), (by decide +kernel : (parseMethodDescriptor yX7_fresh.desc).map (fun d => d.parameters.length) = some 1)⟩, (by decide : 2 ≤ 21)⟩
theorem ci_X7_fresh : CI (mX7_fresh) 7 := ⟨mg (w := .instanceMethod yX7_fresh) 543 (by decide +kernel) (by decide +kernel), mg (w := .selects RX7 yX7_fresh yX7_fresh) 544 (by decide +kernel) (by decide +kernel), _, _, rfl⟩
theorem cm_X7_inLeastTerms : CM (mX7_inLeastTerms) 3 := ⟨mg (w := .code yX7_inLeastTerms cX7_inLeastTerms 7 (some .long)) 630 (by decide +kernel) (by decide +kernel), mg (w := .initialized RX7) 1 (by decide +kernel) (by decide +kernel), ⟨(by decide +kernel : RX7 ≠ _), (by decide +kernel : RX7 ≠ _), (by decide +kernel : (parseMethodDescriptor yX7_inLeastTerms.desc).map (fun d => d.parameters.length) = some 3)⟩, (by decide : 7 ≤ 21)⟩
theorem cs_X7_inLeastTerms : CS mX7_inLeastTerms := mg (w := .static yX7_inLeastTerms) 629 (by decide +kernel) (by decide +kernel)
theorem cm_X7_inPlace : CM (mX7_inPlace) 2 := ⟨mg (w := .code yX7_inPlace cX7_inPlace 3 (some .int)) 435 (by decide +kernel) (by decide +kernel), mg (w := .initialized RX7) 1 (by decide +kernel) (by decide +kernel), ⟨(by decide +kernel : RX7 ≠ _), (by decide +kernel : RX7 ≠ _), (by decide +kernel : (parseMethodDescriptor yX7_inPlace.desc).map (fun d => d.parameters.length) = some 2)⟩, (by decide : 3 ≤ 21)⟩
theorem ci_X7_inPlace : CI (mX7_inPlace) 7 := ⟨mg (w := .instanceMethod yX7_inPlace) 433 (by decide +kernel) (by decide +kernel), mg (w := .selects RX7 yX7_inPlace yX7_inPlace) 434 (by decide +kernel) (by decide +kernel), _, _, rfl⟩
theorem cm_X7_init : CM (mX7_init) 0 := ⟨mg (w := .code yX7_init cX7_init 2 none) 17 (by decide +kernel) (by decide +kernel), mg (w := .initialized RX7) 1 (by decide +kernel) (by decide +kernel), ⟨(by decide +kernel : RX7 ≠ _), (by decide +kernel : RX7 ≠ _), (by decide +kernel : (parseMethodDescriptor yX7_init.desc).map (fun d => d.parameters.length) = some 0)⟩, (by decide : 2 ≤ 21)⟩
theorem cm_X7_is : CM (mX7_is) 2 := ⟨mg (w := .code yX7_is cX7_is 3 (some .int)) 455 (by decide +kernel) (by decide +kernel), mg (w := .initialized RX7) 1 (by decide +kernel) (by decide +kernel), ⟨(by decide +kernel : RX7 ≠ _), (by decide +kernel : RX7 ≠ _), (by decide +kernel : (parseMethodDescriptor yX7_is.desc).map (fun d => d.parameters.length) = some 2)⟩, (by decide : 3 ≤ 21)⟩
theorem ci_X7_is : CI (mX7_is) 7 := ⟨mg (w := .instanceMethod yX7_is) 453 (by decide +kernel) (by decide +kernel), mg (w := .selects RX7 yX7_is yX7_is) 454 (by decide +kernel) (by decide +kernel), _, _, rfl⟩
theorem cm_X7_isAsSeen : CM (mX7_isAsSeen) 1 := ⟨mg (w := .code yX7_isAsSeen cX7_isAsSeen 3 (some .boolean)) 671 (by decide +kernel) (by decide +kernel), mg (w := .initialized RX7) 1 (by decide +kernel) (by decide +kernel), ⟨(by decide +kernel : RX7 ≠ _), (by decide +kernel : RX7 ≠ _), (by decide +kernel : (parseMethodDescriptor yX7_isAsSeen.desc).map (fun d => d.parameters.length) = some 1)⟩, (by decide : 3 ≤ 21)⟩
theorem ci_X7_isAsSeen : CI (mX7_isAsSeen) 7 := ⟨mg (w := .instanceMethod yX7_isAsSeen) 670 (by decide +kernel) (by decide +kernel), mt (w := .selects RX7 yX7_isAsSeen yX7_isAsSeen) (by decide +kernel) (by decide +kernel), _, _, rfl⟩
theorem cm_X7_isFractionSide : CM (mX7_isFractionSide) 1 := ⟨mg (w := .code yX7_isFractionSide cX7_isFractionSide 1 (some .boolean)) 625 (by decide +kernel) (by decide +kernel), mg (w := .initialized RX7) 1 (by decide +kernel) (by decide +kernel), ⟨(by decide +kernel : RX7 ≠ _), (by decide +kernel : RX7 ≠ _), (by decide +kernel : (parseMethodDescriptor yX7_isFractionSide.desc).map (fun d => d.parameters.length) = some 1)⟩, (by decide : 1 ≤ 21)⟩
theorem cs_X7_isFractionSide : CS mX7_isFractionSide := mg (w := .static yX7_isFractionSide) 624 (by decide +kernel) (by decide +kernel)
theorem cm_X7_isLaw : CM (mX7_isLaw) 1 := ⟨mg (w := .code yX7_isLaw cX7_isLaw 1 (some .boolean)) 458 (by decide +kernel) (by decide +kernel), mg (w := .initialized RX7) 1 (by decide +kernel) (by decide +kernel), ⟨(by decide +kernel : RX7 ≠ _), (by decide +kernel : RX7 ≠ _), (by decide +kernel : (parseMethodDescriptor yX7_isLaw.desc).map (fun d => d.parameters.length) = some 1)⟩, (by decide : 1 ≤ 21)⟩
theorem cs_X7_isLaw : CS mX7_isLaw := mg (w := .static yX7_isLaw) 457 (by decide +kernel) (by decide +kernel)
theorem cm_X7_isMake : CM (mX7_isMake) 1 := ⟨mg (w := .code yX7_isMake cX7_isMake 1 (some .boolean)) 368 (by decide +kernel) (by decide +kernel), mg (w := .initialized RX7) 1 (by decide +kernel) (by decide +kernel), ⟨(by decide +kernel : RX7 ≠ _), (by decide +kernel : RX7 ≠ _), (by decide +kernel : (parseMethodDescriptor yX7_isMake.desc).map (fun d => d.parameters.length) = some 1)⟩, (by decide : 1 ≤ 21)⟩
theorem cs_X7_isMake : CS mX7_isMake := mg (w := .static yX7_isMake) 367 (by decide +kernel) (by decide +kernel)
theorem cm_X7_isPart : CM (mX7_isPart) 1 := ⟨mg (w := .code yX7_isPart cX7_isPart 2 (some .boolean)) 431 (by decide +kernel) (by decide +kernel), mg (w := .initialized RX7) 1 (by decide +kernel) (by decide +kernel), ⟨(by decide +kernel : RX7 ≠ _), (by decide +kernel : RX7 ≠ _), (by decide +kernel : (parseMethodDescriptor yX7_isPart.desc).map (fun d => d.parameters.length) = some 1)⟩, (by decide : 2 ≤ 21)⟩
theorem ci_X7_isPart : CI (mX7_isPart) 7 := ⟨mg (w := .instanceMethod yX7_isPart) 430 (by decide +kernel) (by decide +kernel), mt (w := .selects RX7 yX7_isPart yX7_isPart) (by decide +kernel) (by decide +kernel), _, _, rfl⟩
theorem cm_X7_isPlace : CM (mX7_isPlace) 1 := ⟨mg (w := .code yX7_isPlace cX7_isPlace 2 (some .boolean)) 415 (by decide +kernel) (by decide +kernel), mg (w := .initialized RX7) 1 (by decide +kernel) (by decide +kernel), ⟨(by decide +kernel : RX7 ≠ _), (by decide +kernel : RX7 ≠ _), (by decide +kernel : (parseMethodDescriptor yX7_isPlace.desc).map (fun d => d.parameters.length) = some 1)⟩, (by decide : 2 ≤ 21)⟩
theorem ci_X7_isPlace : CI (mX7_isPlace) 7 := ⟨mg (w := .instanceMethod yX7_isPlace) 414 (by decide +kernel) (by decide +kernel), mt (w := .selects RX7 yX7_isPlace yX7_isPlace) (by decide +kernel) (by decide +kernel), _, _, rfl⟩
theorem cm_X7_isShip : CM (mX7_isShip) 1 := ⟨mg (w := .code yX7_isShip cX7_isShip 2 (some .boolean)) 439 (by decide +kernel) (by decide +kernel), mg (w := .initialized RX7) 1 (by decide +kernel) (by decide +kernel), ⟨(by decide +kernel : RX7 ≠ _), (by decide +kernel : RX7 ≠ _), (by decide +kernel : (parseMethodDescriptor yX7_isShip.desc).map (fun d => d.parameters.length) = some 1)⟩, (by decide : 2 ≤ 21)⟩
theorem ci_X7_isShip : CI (mX7_isShip) 7 := ⟨mg (w := .instanceMethod yX7_isShip) 438 (by decide +kernel) (by decide +kernel), mt (w := .selects RX7 yX7_isShip yX7_isShip) (by decide +kernel) (by decide +kernel), _, _, rfl⟩
theorem cm_X7_keep : CM (mX7_keep) 1 := ⟨mg (w := .code yX7_keep cX7_keep 2 (some .int)) 737 (by decide +kernel) (by decide +kernel), mg (w := .initialized RX7) 1 (by decide +kernel) (by decide +kernel), ⟨(by decide +kernel : RX7 ≠ _), (by decide +kernel : RX7 ≠ _), (by decide +kernel : (parseMethodDescriptor yX7_keep.desc).map (fun d => d.parameters.length) = some 1)⟩, (by decide : 2 ≤ 21)⟩
theorem ci_X7_keep : CI (mX7_keep) 7 := ⟨mg (w := .instanceMethod yX7_keep) 735 (by decide +kernel) (by decide +kernel), mg (w := .selects RX7 yX7_keep yX7_keep) 736 (by decide +kernel) (by decide +kernel), _, _, rfl⟩
theorem cm_X7_leastSeen : CM (mX7_leastSeen) 1 := ⟨mg (w := .code yX7_leastSeen cX7_leastSeen 5 (some .int)) 675 (by decide +kernel) (by decide +kernel), mg (w := .initialized RX7) 1 (by decide +kernel) (by decide +kernel), ⟨(by decide +kernel : RX7 ≠ _), (by decide +kernel : RX7 ≠ _), (by decide +kernel : (parseMethodDescriptor yX7_leastSeen.desc).map (fun d => d.parameters.length) = some 1)⟩, (by decide : 5 ≤ 21)⟩
theorem ci_X7_leastSeen : CI (mX7_leastSeen) 7 := ⟨mg (w := .instanceMethod yX7_leastSeen) 673 (by decide +kernel) (by decide +kernel), mg (w := .selects RX7 yX7_leastSeen yX7_leastSeen) 674 (by decide +kernel) (by decide +kernel), _, _, rfl⟩
theorem cm_X7_mayBe : CM (mX7_mayBe) 0 := ⟨mg (w := .code yX7_mayBe cX7_mayBe 3 (some .int)) 667 (by decide +kernel) (by decide +kernel), mg (w := .initialized RX7) 1 (by decide +kernel) (by decide +kernel), ⟨(by decide +kernel : RX7 ≠ _), (by decide +kernel : RX7 ≠ _), (by decide +kernel : (parseMethodDescriptor yX7_mayBe.desc).map (fun d => d.parameters.length) = some 0)⟩, (by decide : 3 ≤ 21)⟩
theorem ci_X7_mayBe : CI (mX7_mayBe) 7 := ⟨mg (w := .instanceMethod yX7_mayBe) 665 (by decide +kernel) (by decide +kernel), mg (w := .selects RX7 yX7_mayBe yX7_mayBe) 666 (by decide +kernel) (by decide +kernel), _, _, rfl⟩
theorem cm_X7_now : CM (mX7_now) 1 := ⟨mg (w := .code yX7_now cX7_now 2 (some .int)) 510 (by decide +kernel) (by decide +kernel), mg (w := .initialized RX7) 1 (by decide +kernel) (by decide +kernel), ⟨(by decide +kernel : RX7 ≠ _), (by decide +kernel : RX7 ≠ _), (by decide +kernel : (parseMethodDescriptor yX7_now.desc).map (fun d => d.parameters.length) = some 1)⟩, (by decide : 2 ≤ 21)⟩
theorem ci_X7_now : CI (mX7_now) 7 := ⟨mg (w := .instanceMethod yX7_now) 508 (by decide +kernel) (by decide +kernel), mg (w := .selects RX7 yX7_now yX7_now) 509 (by decide +kernel) (by decide +kernel), _, _, rfl⟩
theorem cm_X7_part : CM (mX7_part) 2 := ⟨mg (w := .code yX7_part cX7_part 3 (some .int)) 427 (by decide +kernel) (by decide +kernel), mg (w := .initialized RX7) 1 (by decide +kernel) (by decide +kernel), ⟨(by decide +kernel : RX7 ≠ _), (by decide +kernel : RX7 ≠ _), (by decide +kernel : (parseMethodDescriptor yX7_part.desc).map (fun d => d.parameters.length) = some 2)⟩, (by decide : 3 ≤ 21)⟩
theorem ci_X7_part : CI (mX7_part) 7 := ⟨mg (w := .instanceMethod yX7_part) 425 (by decide +kernel) (by decide +kernel), mg (w := .selects RX7 yX7_part yX7_part) 426 (by decide +kernel) (by decide +kernel), _, _, rfl⟩
theorem cm_X7_place : CM (mX7_place) 2 := ⟨mg (w := .code yX7_place cX7_place 3 (some .int)) 411 (by decide +kernel) (by decide +kernel), mg (w := .initialized RX7) 1 (by decide +kernel) (by decide +kernel), ⟨(by decide +kernel : RX7 ≠ _), (by decide +kernel : RX7 ≠ _), (by decide +kernel : (parseMethodDescriptor yX7_place.desc).map (fun d => d.parameters.length) = some 2)⟩, (by decide : 3 ≤ 21)⟩
theorem ci_X7_place : CI (mX7_place) 7 := ⟨mg (w := .instanceMethod yX7_place) 409 (by decide +kernel) (by decide +kernel), mg (w := .selects RX7 yX7_place yX7_place) 410 (by decide +kernel) (by decide +kernel), _, _, rfl⟩
theorem cm_X7_port : CM (mX7_port) 0 := ⟨mg (w := .code yX7_port cX7_port 3 (some .int)) 314 (by decide +kernel) (by decide +kernel), mg (w := .initialized RX7) 1 (by decide +kernel) (by decide +kernel), ⟨(by decide +kernel : RX7 ≠ _), (by decide +kernel : RX7 ≠ _), (by decide +kernel : (parseMethodDescriptor yX7_port.desc).map (fun d => d.parameters.length) = some 0)⟩, (by decide : 3 ≤ 21)⟩
theorem ci_X7_port : CI (mX7_port) 7 := ⟨mg (w := .instanceMethod yX7_port) 312 (by decide +kernel) (by decide +kernel), mg (w := .selects RX7 yX7_port yX7_port) 313 (by decide +kernel) (by decide +kernel), _, _, rfl⟩
theorem cm_X7_rate : CM (mX7_rate) 2 := ⟨mg (w := .code yX7_rate cX7_rate 3 (some .int)) 697 (by decide +kernel) (by decide +kernel), mg (w := .initialized RX7) 1 (by decide +kernel) (by decide +kernel), ⟨(by decide +kernel : RX7 ≠ _), (by decide +kernel : RX7 ≠ _), (by decide +kernel : (parseMethodDescriptor yX7_rate.desc).map (fun d => d.parameters.length) = some 2)⟩, (by decide : 3 ≤ 21)⟩
theorem ci_X7_rate : CI (mX7_rate) 7 := ⟨mg (w := .instanceMethod yX7_rate) 695 (by decide +kernel) (by decide +kernel), mg (w := .selects RX7 yX7_rate yX7_rate) 696 (by decide +kernel) (by decide +kernel), _, _, rfl⟩
theorem cm_X7_repairs : CM (mX7_repairs) 3 := ⟨mg (w := .code yX7_repairs cX7_repairs 9 (some .int)) 693 (by decide +kernel) (by decide +kernel), mg (w := .initialized RX7) 1 (by decide +kernel) (by decide +kernel), ⟨(by decide +kernel : RX7 ≠ _), (by decide +kernel : RX7 ≠ _), (by decide +kernel : (parseMethodDescriptor yX7_repairs.desc).map (fun d => d.parameters.length) = some 3)⟩, (by decide : 9 ≤ 21)⟩
theorem ci_X7_repairs : CI (mX7_repairs) 7 := ⟨mg (w := .instanceMethod yX7_repairs) 691 (by decide +kernel) (by decide +kernel), mg (w := .selects RX7 yX7_repairs yX7_repairs) 692 (by decide +kernel) (by decide +kernel), _, _, rfl⟩
theorem cm_X7_replace : CM (mX7_replace) 2 := ⟨mg (w := .code yX7_replace cX7_replace 4 (some .int)) 530 (by decide +kernel) (by decide +kernel), mg (w := .initialized RX7) 1 (by decide +kernel) (by decide +kernel), ⟨(by decide +kernel : RX7 ≠ _), (by decide +kernel : RX7 ≠ _), (by decide +kernel : (parseMethodDescriptor yX7_replace.desc).map (fun d => d.parameters.length) = some 2)⟩, (by decide : 4 ≤ 21)⟩
theorem ci_X7_replace : CI (mX7_replace) 7 := ⟨mg (w := .instanceMethod yX7_replace) 528 (by decide +kernel) (by decide +kernel), mg (w := .selects RX7 yX7_replace yX7_replace) 529 (by decide +kernel) (by decide +kernel), _, _, rfl⟩
theorem cm_X7_rottenPlaces : CM (mX7_rottenPlaces) 1 := ⟨mg (w := .code yX7_rottenPlaces cX7_rottenPlaces 4 (some .int)) 451 (by decide +kernel) (by decide +kernel), mg (w := .initialized RX7) 1 (by decide +kernel) (by decide +kernel), ⟨(by decide +kernel : RX7 ≠ _), (by decide +kernel : RX7 ≠ _), (by decide +kernel : (parseMethodDescriptor yX7_rottenPlaces.desc).map (fun d => d.parameters.length) = some 1)⟩, (by decide : 4 ≤ 21)⟩
theorem ci_X7_rottenPlaces : CI (mX7_rottenPlaces) 7 := ⟨mg (w := .instanceMethod yX7_rottenPlaces) 450 (by decide +kernel) (by decide +kernel), mt (w := .selects RX7 yX7_rottenPlaces yX7_rottenPlaces) (by decide +kernel) (by decide +kernel), _, _, rfl⟩
theorem cm_X7_rottenShips : CM (mX7_rottenShips) 0 := ⟨mg (w := .code yX7_rottenShips cX7_rottenShips 3 (some .int)) 518 (by decide +kernel) (by decide +kernel), mg (w := .initialized RX7) 1 (by decide +kernel) (by decide +kernel), ⟨(by decide +kernel : RX7 ≠ _), (by decide +kernel : RX7 ≠ _), (by decide +kernel : (parseMethodDescriptor yX7_rottenShips.desc).map (fun d => d.parameters.length) = some 0)⟩, (by decide : 3 ≤ 21)⟩
theorem ci_X7_rottenShips : CI (mX7_rottenShips) 7 := ⟨mg (w := .instanceMethod yX7_rottenShips) 517 (by decide +kernel) (by decide +kernel), mt (w := .selects RX7 yX7_rottenShips yX7_rottenShips) (by decide +kernel) (by decide +kernel), _, _, rfl⟩
theorem cm_X7_saw : CM (mX7_saw) 2 := ⟨mg (w := .code yX7_saw cX7_saw 3 (some .int)) 659 (by decide +kernel) (by decide +kernel), mg (w := .initialized RX7) 1 (by decide +kernel) (by decide +kernel), ⟨(by decide +kernel : RX7 ≠ _), (by decide +kernel : RX7 ≠ _), (by decide +kernel : (parseMethodDescriptor yX7_saw.desc).map (fun d => d.parameters.length) = some 2)⟩, (by decide : 3 ≤ 21)⟩
theorem ci_X7_saw : CI (mX7_saw) 7 := ⟨mg (w := .instanceMethod yX7_saw) 657 (by decide +kernel) (by decide +kernel), mg (w := .selects RX7 yX7_saw yX7_saw) 658 (by decide +kernel) (by decide +kernel), _, _, rfl⟩
theorem cm_X7_share : CM (mX7_share) 3 := ⟨mg (w := .code yX7_share cX7_share 4 (some .int)) 621 (by decide +kernel) (by decide +kernel), mg (w := .initialized RX7) 1 (by decide +kernel) (by decide +kernel), ⟨(by decide +kernel : RX7 ≠ _), (by decide +kernel : RX7 ≠ _), (by decide +kernel : (parseMethodDescriptor yX7_share.desc).map (fun d => d.parameters.length) = some 3)⟩, (by decide : 4 ≤ 21)⟩
theorem ci_X7_share : CI (mX7_share) 7 := ⟨mg (w := .instanceMethod yX7_share) 619 (by decide +kernel) (by decide +kernel), mg (w := .selects RX7 yX7_share yX7_share) 620 (by decide +kernel) (by decide +kernel), _, _, rfl⟩
theorem cm_X7_ship : CM (mX7_ship) 2 := ⟨mg (w := .code yX7_ship cX7_ship 3 (some .int)) 447 (by decide +kernel) (by decide +kernel), mg (w := .initialized RX7) 1 (by decide +kernel) (by decide +kernel), ⟨(by decide +kernel : RX7 ≠ _), (by decide +kernel : RX7 ≠ _), (by decide +kernel : (parseMethodDescriptor yX7_ship.desc).map (fun d => d.parameters.length) = some 2)⟩, (by decide : 3 ≤ 21)⟩
theorem ci_X7_ship : CI (mX7_ship) 7 := ⟨mg (w := .instanceMethod yX7_ship) 445 (by decide +kernel) (by decide +kernel), mg (w := .selects RX7 yX7_ship yX7_ship) 446 (by decide +kernel) (by decide +kernel), _, _, rfl⟩
theorem cm_X7_staying : CM (mX7_staying) 4 := ⟨mg (w := .code yX7_staying cX7_staying 8 (some .int)) 654 (by decide +kernel) (by decide +kernel), mg (w := .initialized RX7) 1 (by decide +kernel) (by decide +kernel), ⟨(by decide +kernel : RX7 ≠ _), (by decide +kernel : RX7 ≠ _), (by decide +kernel : (parseMethodDescriptor yX7_staying.desc).map (fun d => d.parameters.length) = some 4)⟩, (by decide : 8 ≤ 21)⟩
theorem ci_X7_staying : CI (mX7_staying) 7 := ⟨mg (w := .instanceMethod yX7_staying) 653 (by decide +kernel) (by decide +kernel), mt (w := .selects RX7 yX7_staying yX7_staying) (by decide +kernel) (by decide +kernel), _, _, rfl⟩
theorem cm_X7_stays : CM (mX7_stays) 2 := ⟨mg (w := .code yX7_stays cX7_stays 5 (some .int)) 613 (by decide +kernel) (by decide +kernel), mg (w := .initialized RX7) 1 (by decide +kernel) (by decide +kernel), ⟨(by decide +kernel : RX7 ≠ _), (by decide +kernel : RX7 ≠ _), (by decide +kernel : (parseMethodDescriptor yX7_stays.desc).map (fun d => d.parameters.length) = some 2)⟩, (by decide : 5 ≤ 21)⟩
theorem ci_X7_stays : CI (mX7_stays) 7 := ⟨mg (w := .instanceMethod yX7_stays) 611 (by decide +kernel) (by decide +kernel), mg (w := .selects RX7 yX7_stays yX7_stays) 612 (by decide +kernel) (by decide +kernel), _, _, rfl⟩
theorem cm_X7_tellsFromAll : CM (mX7_tellsFromAll) 2 := ⟨mg (w := .code yX7_tellsFromAll cX7_tellsFromAll 4 (some .boolean)) 685 (by decide +kernel) (by decide +kernel), mg (w := .initialized RX7) 1 (by decide +kernel) (by decide +kernel), ⟨(by decide +kernel : RX7 ≠ _), (by decide +kernel : RX7 ≠ _), (by decide +kernel : (parseMethodDescriptor yX7_tellsFromAll.desc).map (fun d => d.parameters.length) = some 2)⟩, (by decide : 4 ≤ 21)⟩
theorem ci_X7_tellsFromAll : CI (mX7_tellsFromAll) 7 := ⟨mg (w := .instanceMethod yX7_tellsFromAll) 684 (by decide +kernel) (by decide +kernel), mt (w := .selects RX7 yX7_tellsFromAll yX7_tellsFromAll) (by decide +kernel) (by decide +kernel), _, _, rfl⟩
theorem cm_X7_thief : CM (mX7_thief) 3 := ⟨mg (w := .code yX7_thief cX7_thief 11 (some .long)) 646 (by decide +kernel) (by decide +kernel), mg (w := .initialized RX7) 1 (by decide +kernel) (by decide +kernel), ⟨(by decide +kernel : RX7 ≠ _), (by decide +kernel : RX7 ≠ _), (by decide +kernel : (parseMethodDescriptor yX7_thief.desc).map (fun d => d.parameters.length) = some 3)⟩, (by decide : 11 ≤ 21)⟩
theorem ci_X7_thief : CI (mX7_thief) 7 := ⟨mg (w := .instanceMethod yX7_thief) 644 (by decide +kernel) (by decide +kernel), mg (w := .selects RX7 yX7_thief yX7_thief) 645 (by decide +kernel) (by decide +kernel), _, _, rfl⟩
theorem cm_X7_trace : CM (mX7_trace) 0 := ⟨mg (w := .code yX7_trace cX7_trace 1 (some .long)) 750 (by decide +kernel) (by decide +kernel), mg (w := .initialized RX7) 1 (by decide +kernel) (by decide +kernel), ⟨(by decide +kernel : RX7 ≠ _), (by decide +kernel : RX7 ≠ _), (by decide +kernel : (parseMethodDescriptor yX7_trace.desc).map (fun d => d.parameters.length) = some 0)⟩, (by decide : 1 ≤ 21)⟩
theorem ci_X7_trace : CI (mX7_trace) 7 := ⟨mg (w := .instanceMethod yX7_trace) 748 (by decide +kernel) (by decide +kernel), mg (w := .selects RX7 yX7_trace yX7_trace) 749 (by decide +kernel) (by decide +kernel), _, _, rfl⟩
theorem cm_X7_twins : CM (mX7_twins) 1 := ⟨mg (w := .code yX7_twins cX7_twins 2 (some .int)) 571 (by decide +kernel) (by decide +kernel), mg (w := .initialized RX7) 1 (by decide +kernel) (by decide +kernel), ⟨(by decide +kernel : RX7 ≠ _), (by decide +kernel : RX7 ≠ _), (by decide +kernel : (parseMethodDescriptor yX7_twins.desc).map (fun d => d.parameters.length) = some 1)⟩, (by decide : 2 ≤ 21)⟩
theorem ci_X7_twins : CI (mX7_twins) 7 := ⟨mg (w := .instanceMethod yX7_twins) 569 (by decide +kernel) (by decide +kernel), mg (w := .selects RX7 yX7_twins yX7_twins) 570 (by decide +kernel) (by decide +kernel), _, _, rfl⟩
theorem cm_X7_type : CM (mX7_type) 1 := ⟨mg (w := .code yX7_type cX7_type 2 (some .int)) 306 (by decide +kernel) (by decide +kernel), mg (w := .initialized RX7) 1 (by decide +kernel) (by decide +kernel), ⟨(by decide +kernel : RX7 ≠ _), (by decide +kernel : RX7 ≠ _), (by decide +kernel : (parseMethodDescriptor yX7_type.desc).map (fun d => d.parameters.length) = some 1)⟩, (by decide : 2 ≤ 21)⟩
theorem ci_X7_type : CI (mX7_type) 7 := ⟨mg (w := .instanceMethod yX7_type) 304 (by decide +kernel) (by decide +kernel), mg (w := .selects RX7 yX7_type yX7_type) 305 (by decide +kernel) (by decide +kernel), _, _, rfl⟩
theorem cm_X7_undo : CM (mX7_undo) 0 := ⟨mg (w := .code yX7_undo cX7_undo 1 (some .int)) 563 (by decide +kernel) (by decide +kernel), mg (w := .initialized RX7) 1 (by decide +kernel) (by decide +kernel), ⟨(by decide +kernel : RX7 ≠ _), (by decide +kernel : RX7 ≠ _), (by decide +kernel : (parseMethodDescriptor yX7_undo.desc).map (fun d => d.parameters.length) = some 0)⟩, (by decide : 1 ≤ 21)⟩
theorem ci_X7_undo : CI (mX7_undo) 7 := ⟨mg (w := .instanceMethod yX7_undo) 561 (by decide +kernel) (by decide +kernel), mg (w := .selects RX7 yX7_undo yX7_undo) 562 (by decide +kernel) (by decide +kernel), _, _, rfl⟩
theorem cm_X7_whoseNow : CM (mX7_whoseNow) 2 := ⟨mg (w := .code yX7_whoseNow cX7_whoseNow 3 (some .int)) 462 (by decide +kernel) (by decide +kernel), mg (w := .initialized RX7) 1 (by decide +kernel) (by decide +kernel), ⟨(by decide +kernel : RX7 ≠ _), (by decide +kernel : RX7 ≠ _), (by decide +kernel : (parseMethodDescriptor yX7_whoseNow.desc).map (fun d => d.parameters.length) = some 2)⟩, (by decide : 3 ≤ 21)⟩
theorem ci_X7_whoseNow : CI (mX7_whoseNow) 7 := ⟨mg (w := .instanceMethod yX7_whoseNow) 461 (by decide +kernel) (by decide +kernel), mt (w := .selects RX7 yX7_whoseNow yX7_whoseNow) (by decide +kernel) (by decide +kernel), _, _, rfl⟩
theorem cm_X7_year : CM (mX7_year) 0 := ⟨mg (w := .code yX7_year cX7_year 3 (some .int)) 559 (by decide +kernel) (by decide +kernel), mg (w := .initialized RX7) 1 (by decide +kernel) (by decide +kernel), ⟨(by decide +kernel : RX7 ≠ _), (by decide +kernel : RX7 ≠ _), (by decide +kernel : (parseMethodDescriptor yX7_year.desc).map (fun d => d.parameters.length) = some 0)⟩, (by decide : 3 ≤ 21)⟩
theorem ci_X7_year : CI (mX7_year) 7 := ⟨mg (w := .instanceMethod yX7_year) 557 (by decide +kernel) (by decide +kernel), mg (w := .selects RX7 yX7_year yX7_year) 558 (by decide +kernel) (by decide +kernel), _, _, rfl⟩
theorem cm_X8_advances : CM (mX8_advances) 0 := ⟨mg (w := .code yX8_advances cX8_advances 2 none) 866 (by decide +kernel) (by decide +kernel), mg (w := .initialized RX8) 9 (by decide +kernel) (by decide +kernel), ⟨(by decide +kernel : RX8 ≠ _), (by decide +kernel : RX8 ≠ _), (by decide +kernel : (parseMethodDescriptor yX8_advances.desc).map (fun d => d.parameters.length) = some 0)⟩, (by decide : 2 ≤ 21)⟩
theorem ci_X8_advances : CI (mX8_advances) 8 := ⟨mg (w := .instanceMethod yX8_advances) 865 (by decide +kernel) (by decide +kernel), mt (w := .selects RX8 yX8_advances yX8_advances) (by decide +kernel) (by decide +kernel), _, _, rfl⟩
theorem cm_X8_ages : CM (mX8_ages) 0 := ⟨mg (w := .code yX8_ages cX8_ages 3 (some .int)) 1059 (by decide +kernel) (by decide +kernel), mg (w := .initialized RX8) 9 (by decide +kernel) (by decide +kernel), ⟨(by decide +kernel : RX8 ≠ _), (by decide +kernel : RX8 ≠ _), (by decide +kernel : (parseMethodDescriptor yX8_ages.desc).map (fun d => d.parameters.length) = some 0)⟩, (by decide : 3 ≤ 21)⟩
theorem ci_X8_ages : CI (mX8_ages) 8 := ⟨mg (w := .instanceMethod yX8_ages) 1058 (by decide +kernel) (by decide +kernel), mt (w := .selects RX8 yX8_ages yX8_ages) (by decide +kernel) (by decide +kernel), _, _, rfl⟩
theorem cm_X8_allWeights : CM (mX8_allWeights) 0 := ⟨mg (w := .code yX8_allWeights cX8_allWeights 3 (some .int)) 975 (by decide +kernel) (by decide +kernel), mg (w := .initialized RX8) 9 (by decide +kernel) (by decide +kernel), ⟨(by decide +kernel : RX8 ≠ _), (by decide +kernel : RX8 ≠ _), (by decide +kernel : (parseMethodDescriptor yX8_allWeights.desc).map (fun d => d.parameters.length) = some 0)⟩, (by decide : 3 ≤ 21)⟩
theorem ci_X8_allWeights : CI (mX8_allWeights) 8 := ⟨mg (w := .instanceMethod yX8_allWeights) 974 (by decide +kernel) (by decide +kernel), mt (w := .selects RX8 yX8_allWeights yX8_allWeights) (by decide +kernel) (by decide +kernel), _, _, rfl⟩
theorem cm_X8_asIs : CM (mX8_asIs) 1 := ⟨mg (w := .code yX8_asIs cX8_asIs 4 none) 959 (by decide +kernel) (by decide +kernel), mg (w := .initialized RX8) 9 (by decide +kernel) (by decide +kernel), ⟨(by decide +kernel : RX8 ≠ _), (by decide +kernel : RX8 ≠ _), (by decide +kernel : (parseMethodDescriptor yX8_asIs.desc).map (fun d => d.parameters.length) = some 1)⟩, (by decide : 4 ≤ 21)⟩
theorem ci_X8_asIs : CI (mX8_asIs) 8 := ⟨mg (w := .instanceMethod yX8_asIs) 958 (by decide +kernel) (by decide +kernel), mt (w := .selects RX8 yX8_asIs yX8_asIs) (by decide +kernel) (by decide +kernel), _, _, rfl⟩
theorem cm_X8_back : CM (mX8_back) 1 := ⟨mg (w := .code yX8_back cX8_back 3 (some .int)) 1124 (by decide +kernel) (by decide +kernel), mg (w := .initialized RX8) 9 (by decide +kernel) (by decide +kernel), ⟨(by decide +kernel : RX8 ≠ _), (by decide +kernel : RX8 ≠ _), (by decide +kernel : (parseMethodDescriptor yX8_back.desc).map (fun d => d.parameters.length) = some 1)⟩, (by decide : 3 ≤ 21)⟩
theorem ci_X8_back : CI (mX8_back) 8 := ⟨mg (w := .instanceMethod yX8_back) 1122 (by decide +kernel) (by decide +kernel), mg (w := .selects RX8 yX8_back yX8_back) 1123 (by decide +kernel) (by decide +kernel), _, _, rfl⟩
theorem cm_X8_becomes : CM (mX8_becomes) 4 := ⟨mg (w := .code yX8_becomes cX8_becomes 9 (some .int)) 1039 (by decide +kernel) (by decide +kernel), mg (w := .initialized RX8) 9 (by decide +kernel) (by decide +kernel), ⟨(by decide +kernel : RX8 ≠ _), (by decide +kernel : RX8 ≠ _), (by decide +kernel : (parseMethodDescriptor yX8_becomes.desc).map (fun d => d.parameters.length) = some 4)⟩, (by decide : 9 ≤ 21)⟩
theorem ci_X8_becomes : CI (mX8_becomes) 8 := ⟨mg (w := .instanceMethod yX8_becomes) 1037 (by decide +kernel) (by decide +kernel), mg (w := .selects RX8 yX8_becomes yX8_becomes) 1038 (by decide +kernel) (by decide +kernel), _, _, rfl⟩
theorem cm_X8_build : CM (mX8_build) 0 := ⟨mg (w := .code yX8_build cX8_build 5 (some .int)) 1019 (by decide +kernel) (by decide +kernel), mg (w := .initialized RX8) 9 (by decide +kernel) (by decide +kernel), ⟨(by decide +kernel : RX8 ≠ _), (by decide +kernel : RX8 ≠ _), (by decide +kernel : (parseMethodDescriptor yX8_build.desc).map (fun d => d.parameters.length) = some 0)⟩, (by decide : 5 ≤ 21)⟩
theorem ci_X8_build : CI (mX8_build) 8 := ⟨mg (w := .instanceMethod yX8_build) 1017 (by decide +kernel) (by decide +kernel), mg (w := .selects RX8 yX8_build yX8_build) 1018 (by decide +kernel) (by decide +kernel), _, _, rfl⟩
theorem cm_X8_clear : CM (mX8_clear) 0 := ⟨mg (w := .code yX8_clear cX8_clear 2 (some .int)) 858 (by decide +kernel) (by decide +kernel), mg (w := .initialized RX8) 9 (by decide +kernel) (by decide +kernel), ⟨(by decide +kernel : RX8 ≠ _), (by decide +kernel : RX8 ≠ _), (by decide +kernel : (parseMethodDescriptor yX8_clear.desc).map (fun d => d.parameters.length) = some 0)⟩, (by decide : 2 ≤ 21)⟩
theorem ci_X8_clear : CI (mX8_clear) 8 := ⟨mg (w := .instanceMethod yX8_clear) 856 (by decide +kernel) (by decide +kernel), mg (w := .selects RX8 yX8_clear yX8_clear) 857 (by decide +kernel) (by decide +kernel), _, _, rfl⟩
theorem cm_X8_comes : CM (mX8_comes) 4 := ⟨mg (w := .code yX8_comes cX8_comes 6 (some .int)) 904 (by decide +kernel) (by decide +kernel), mg (w := .initialized RX8) 9 (by decide +kernel) (by decide +kernel), ⟨(by decide +kernel : RX8 ≠ _), (by decide +kernel : RX8 ≠ _), (by decide +kernel : (parseMethodDescriptor yX8_comes.desc).map (fun d => d.parameters.length) = some 4)⟩, (by decide : 6 ≤ 21)⟩
theorem ci_X8_comes : CI (mX8_comes) 8 := ⟨mg (w := .instanceMethod yX8_comes) 903 (by decide +kernel) (by decide +kernel), mt (w := .selects RX8 yX8_comes yX8_comes) (by decide +kernel) (by decide +kernel), _, _, rfl⟩
theorem cm_X8_count : CM (mX8_count) 1 := ⟨mg (w := .code yX8_count cX8_count 2 (some .int)) 1128 (by decide +kernel) (by decide +kernel), mg (w := .initialized RX8) 9 (by decide +kernel) (by decide +kernel), ⟨(by decide +kernel : RX8 ≠ _), (by decide +kernel : RX8 ≠ _), (by decide +kernel : (parseMethodDescriptor yX8_count.desc).map (fun d => d.parameters.length) = some 1)⟩, (by decide : 2 ≤ 21)⟩
theorem ci_X8_count : CI (mX8_count) 8 := ⟨mg (w := .instanceMethod yX8_count) 1126 (by decide +kernel) (by decide +kernel), mg (w := .selects RX8 yX8_count yX8_count) 1127 (by decide +kernel) (by decide +kernel), _, _, rfl⟩
theorem cm_X8_countOf : CM (mX8_countOf) 1 := ⟨mg (w := .code yX8_countOf cX8_countOf 4 (some .int)) 983 (by decide +kernel) (by decide +kernel), mg (w := .initialized RX8) 9 (by decide +kernel) (by decide +kernel), ⟨(by decide +kernel : RX8 ≠ _), (by decide +kernel : RX8 ≠ _), (by decide +kernel : (parseMethodDescriptor yX8_countOf.desc).map (fun d => d.parameters.length) = some 1)⟩, (by decide : 4 ≤ 21)⟩
theorem ci_X8_countOf : CI (mX8_countOf) 8 := ⟨mg (w := .instanceMethod yX8_countOf) 982 (by decide +kernel) (by decide +kernel), mt (w := .selects RX8 yX8_countOf yX8_countOf) (by decide +kernel) (by decide +kernel), _, _, rfl⟩
theorem cm_X8_decides : CM (mX8_decides) 2 := ⟨mg (w := .code yX8_decides cX8_decides 6 (some .int)) 1070 (by decide +kernel) (by decide +kernel), mg (w := .initialized RX8) 9 (by decide +kernel) (by decide +kernel), ⟨(by decide +kernel : RX8 ≠ _), (by decide +kernel : RX8 ≠ _), (by decide +kernel : (parseMethodDescriptor yX8_decides.desc).map (fun d => d.parameters.length) = some 2)⟩, (by decide : 6 ≤ 21)⟩
theorem ci_X8_decides : CI (mX8_decides) 8 := ⟨mg (w := .instanceMethod yX8_decides) 1068 (by decide +kernel) (by decide +kernel), mg (w := .selects RX8 yX8_decides yX8_decides) 1069 (by decide +kernel) (by decide +kernel), _, _, rfl⟩
theorem cm_X8_fair : CM (mX8_fair) 0 := ⟨mg (w := .code yX8_fair cX8_fair 3 (some .int)) 999 (by decide +kernel) (by decide +kernel), mg (w := .initialized RX8) 9 (by decide +kernel) (by decide +kernel), ⟨(by decide +kernel : RX8 ≠ _), (by decide +kernel : RX8 ≠ _), (by decide +kernel : (parseMethodDescriptor yX8_fair.desc).map (fun d => d.parameters.length) = some 0)⟩, (by decide : 3 ≤ 21)⟩
theorem ci_X8_fair : CI (mX8_fair) 8 := ⟨mg (w := .instanceMethod yX8_fair) 998 (by decide +kernel) (by decide +kernel), mt (w := .selects RX8 yX8_fair yX8_fair) (by decide +kernel) (by decide +kernel), _, _, rfl⟩
theorem cm_X8_firstOf : CM (mX8_firstOf) 1 := ⟨mg (w := .code yX8_firstOf cX8_firstOf 3 (some .int)) 1023 (by decide +kernel) (by decide +kernel), mg (w := .initialized RX8) 9 (by decide +kernel) (by decide +kernel), ⟨(by decide +kernel : RX8 ≠ _), (by decide +kernel : RX8 ≠ _), (by decide +kernel : (parseMethodDescriptor yX8_firstOf.desc).map (fun d => d.parameters.length) = some 1)⟩, (by decide : 3 ≤ 21)⟩
theorem ci_X8_firstOf : CI (mX8_firstOf) 8 := ⟨mg (w := .instanceMethod yX8_firstOf) 1022 (by decide +kernel) (by decide +kernel), mt (w := .selects RX8 yX8_firstOf yX8_firstOf) (by decide +kernel) (by decide +kernel), _, _, rfl⟩
theorem cm_X8_forget : CM (mX8_forget) 0 := ⟨mg (w := .code yX8_forget cX8_forget 2 (some .int)) 1083 (by decide +kernel) (by decide +kernel), mg (w := .initialized RX8) 9 (by decide +kernel) (by decide +kernel), ⟨(by decide +kernel : RX8 ≠ _), (by decide +kernel : RX8 ≠ _), (by decide +kernel : (parseMethodDescriptor yX8_forget.desc).map (fun d => d.parameters.length) = some 0)⟩, (by decide : 2 ≤ 21)⟩
theorem ci_X8_forget : CI (mX8_forget) 8 := ⟨mg (w := .instanceMethod yX8_forget) 1081 (by decide +kernel) (by decide +kernel), mg (w := .selects RX8 yX8_forget yX8_forget) 1082 (by decide +kernel) (by decide +kernel), _, _, rfl⟩
theorem cm_X8_fresh : CM (mX8_fresh) 1 := ⟨mg (w := .code yX8_fresh cX8_fresh 2 (some .int)) 1015 (by decide +kernel) (by decide +kernel), mg (w := .initialized RX8) 9 (by decide +kernel) (by decide +kernel), ⟨(by decide +kernel : RX8 ≠ _), (by decide +kernel : RX8 ≠ _), (by decide +kernel : (parseMethodDescriptor yX8_fresh.desc).map (fun d => d.parameters.length) = some 1)⟩, (by decide : 2 ≤ 21)⟩
theorem ci_X8_fresh : CI (mX8_fresh) 8 := ⟨mg (w := .instanceMethod yX8_fresh) 1013 (by decide +kernel) (by decide +kernel), mg (w := .selects RX8 yX8_fresh yX8_fresh) 1014 (by decide +kernel) (by decide +kernel), _, _, rfl⟩
theorem cm_X8_gcd : CM (mX8_gcd) 2 := ⟨mg (w := .code yX8_gcd cX8_gcd 10 (some .long)) 1066 (by decide +kernel) (by decide +kernel), mg (w := .initialized RX8) 9 (by decide +kernel) (by decide +kernel), ⟨(by decide +kernel : RX8 ≠ _), (by decide +kernel : RX8 ≠ _), (by decide +kernel : (parseMethodDescriptor yX8_gcd.desc).map (fun d => d.parameters.length) = some 2)⟩, (by decide : 10 ≤ 21)⟩
theorem cs_X8_gcd : CS mX8_gcd := mg (w := .static yX8_gcd) 1065 (by decide +kernel) (by decide +kernel)
theorem cm_X8_in : CM (mX8_in) 3 := ⟨mg (w := .code yX8_in cX8_in 3 (some .boolean)) 854 (by decide +kernel) (by decide +kernel), mg (w := .initialized RX8) 9 (by decide +kernel) (by decide +kernel), ⟨(by decide +kernel : RX8 ≠ _), (by decide +kernel : RX8 ≠ _), (by decide +kernel : (parseMethodDescriptor yX8_in.desc).map (fun d => d.parameters.length) = some 3)⟩, (by decide : 3 ≤ 21)⟩
theorem cs_X8_in : CS mX8_in := mg (w := .static yX8_in) 853 (by decide +kernel) (by decide +kernel)
theorem cm_X8_inPlace : CM (mX8_inPlace) 2 := ⟨mg (w := .code yX8_inPlace cX8_inPlace 3 (some .int)) 932 (by decide +kernel) (by decide +kernel), mg (w := .initialized RX8) 9 (by decide +kernel) (by decide +kernel), ⟨(by decide +kernel : RX8 ≠ _), (by decide +kernel : RX8 ≠ _), (by decide +kernel : (parseMethodDescriptor yX8_inPlace.desc).map (fun d => d.parameters.length) = some 2)⟩, (by decide : 3 ≤ 21)⟩
theorem ci_X8_inPlace : CI (mX8_inPlace) 8 := ⟨mg (w := .instanceMethod yX8_inPlace) 930 (by decide +kernel) (by decide +kernel), mg (w := .selects RX8 yX8_inPlace yX8_inPlace) 931 (by decide +kernel) (by decide +kernel), _, _, rfl⟩
theorem cm_X8_inYard : CM (mX8_inYard) 0 := ⟨mg (w := .code yX8_inYard cX8_inYard 3 (some .int)) 991 (by decide +kernel) (by decide +kernel), mg (w := .initialized RX8) 9 (by decide +kernel) (by decide +kernel), ⟨(by decide +kernel : RX8 ≠ _), (by decide +kernel : RX8 ≠ _), (by decide +kernel : (parseMethodDescriptor yX8_inYard.desc).map (fun d => d.parameters.length) = some 0)⟩, (by decide : 3 ≤ 21)⟩
theorem ci_X8_inYard : CI (mX8_inYard) 8 := ⟨mg (w := .instanceMethod yX8_inYard) 990 (by decide +kernel) (by decide +kernel), mt (w := .selects RX8 yX8_inYard yX8_inYard) (by decide +kernel) (by decide +kernel), _, _, rfl⟩
theorem cm_X8_init : CM (mX8_init) 0 := ⟨mg (w := .code yX8_init cX8_init 2 none) 755 (by decide +kernel) (by decide +kernel), mg (w := .initialized RX8) 9 (by decide +kernel) (by decide +kernel), ⟨(by decide +kernel : RX8 ≠ _), (by decide +kernel : RX8 ≠ _), (by decide +kernel : (parseMethodDescriptor yX8_init.desc).map (fun d => d.parameters.length) = some 0)⟩, (by decide : 2 ≤ 21)⟩
theorem cm_X8_is : CM (mX8_is) 2 := ⟨mg (w := .code yX8_is cX8_is 3 (some .int)) 948 (by decide +kernel) (by decide +kernel), mg (w := .initialized RX8) 9 (by decide +kernel) (by decide +kernel), ⟨(by decide +kernel : RX8 ≠ _), (by decide +kernel : RX8 ≠ _), (by decide +kernel : (parseMethodDescriptor yX8_is.desc).map (fun d => d.parameters.length) = some 2)⟩, (by decide : 3 ≤ 21)⟩
theorem ci_X8_is : CI (mX8_is) 8 := ⟨mg (w := .instanceMethod yX8_is) 946 (by decide +kernel) (by decide +kernel), mg (w := .selects RX8 yX8_is yX8_is) 947 (by decide +kernel) (by decide +kernel), _, _, rfl⟩
theorem cm_X8_isBy : CM (mX8_isBy) 1 := ⟨mg (w := .code yX8_isBy cX8_isBy 4 (some .int)) 963 (by decide +kernel) (by decide +kernel), mg (w := .initialized RX8) 9 (by decide +kernel) (by decide +kernel), ⟨(by decide +kernel : RX8 ≠ _), (by decide +kernel : RX8 ≠ _), (by decide +kernel : (parseMethodDescriptor yX8_isBy.desc).map (fun d => d.parameters.length) = some 1)⟩, (by decide : 4 ≤ 21)⟩
theorem ci_X8_isBy : CI (mX8_isBy) 8 := ⟨mg (w := .instanceMethod yX8_isBy) 962 (by decide +kernel) (by decide +kernel), mt (w := .selects RX8 yX8_isBy yX8_isBy) (by decide +kernel) (by decide +kernel), _, _, rfl⟩
theorem cm_X8_isLaw : CM (mX8_isLaw) 1 := ⟨mg (w := .code yX8_isLaw cX8_isLaw 1 (some .boolean)) 951 (by decide +kernel) (by decide +kernel), mg (w := .initialized RX8) 9 (by decide +kernel) (by decide +kernel), ⟨(by decide +kernel : RX8 ≠ _), (by decide +kernel : RX8 ≠ _), (by decide +kernel : (parseMethodDescriptor yX8_isLaw.desc).map (fun d => d.parameters.length) = some 1)⟩, (by decide : 1 ≤ 21)⟩
theorem cs_X8_isLaw : CS mX8_isLaw := mg (w := .static yX8_isLaw) 950 (by decide +kernel) (by decide +kernel)
theorem cm_X8_isMake : CM (mX8_isMake) 1 := ⟨mg (w := .code yX8_isMake cX8_isMake 1 (some .boolean)) 896 (by decide +kernel) (by decide +kernel), mg (w := .initialized RX8) 9 (by decide +kernel) (by decide +kernel), ⟨(by decide +kernel : RX8 ≠ _), (by decide +kernel : RX8 ≠ _), (by decide +kernel : (parseMethodDescriptor yX8_isMake.desc).map (fun d => d.parameters.length) = some 1)⟩, (by decide : 1 ≤ 21)⟩
theorem cs_X8_isMake : CS mX8_isMake := mg (w := .static yX8_isMake) 895 (by decide +kernel) (by decide +kernel)
theorem cm_X8_isMore : CM (mX8_isMore) 1 := ⟨mg (w := .code yX8_isMore cX8_isMore 4 (some .boolean)) 979 (by decide +kernel) (by decide +kernel), mg (w := .initialized RX8) 9 (by decide +kernel) (by decide +kernel), ⟨(by decide +kernel : RX8 ≠ _), (by decide +kernel : RX8 ≠ _), (by decide +kernel : (parseMethodDescriptor yX8_isMore.desc).map (fun d => d.parameters.length) = some 1)⟩, (by decide : 4 ≤ 21)⟩
theorem ci_X8_isMore : CI (mX8_isMore) 8 := ⟨mg (w := .instanceMethod yX8_isMore) 978 (by decide +kernel) (by decide +kernel), mt (w := .selects RX8 yX8_isMore yX8_isMore) (by decide +kernel) (by decide +kernel), _, _, rfl⟩
theorem cm_X8_isOf : CM (mX8_isOf) 2 := ⟨mg (w := .code yX8_isOf cX8_isOf 3 (some .int)) 955 (by decide +kernel) (by decide +kernel), mg (w := .initialized RX8) 9 (by decide +kernel) (by decide +kernel), ⟨(by decide +kernel : RX8 ≠ _), (by decide +kernel : RX8 ≠ _), (by decide +kernel : (parseMethodDescriptor yX8_isOf.desc).map (fun d => d.parameters.length) = some 2)⟩, (by decide : 3 ≤ 21)⟩
theorem ci_X8_isOf : CI (mX8_isOf) 8 := ⟨mg (w := .instanceMethod yX8_isOf) 954 (by decide +kernel) (by decide +kernel), mt (w := .selects RX8 yX8_isOf yX8_isOf) (by decide +kernel) (by decide +kernel), _, _, rfl⟩
theorem cm_X8_isPart : CM (mX8_isPart) 1 := ⟨mg (w := .code yX8_isPart cX8_isPart 2 (some .boolean)) 928 (by decide +kernel) (by decide +kernel), mg (w := .initialized RX8) 9 (by decide +kernel) (by decide +kernel), ⟨(by decide +kernel : RX8 ≠ _), (by decide +kernel : RX8 ≠ _), (by decide +kernel : (parseMethodDescriptor yX8_isPart.desc).map (fun d => d.parameters.length) = some 1)⟩, (by decide : 2 ≤ 21)⟩
theorem ci_X8_isPart : CI (mX8_isPart) 8 := ⟨mg (w := .instanceMethod yX8_isPart) 927 (by decide +kernel) (by decide +kernel), mt (w := .selects RX8 yX8_isPart yX8_isPart) (by decide +kernel) (by decide +kernel), _, _, rfl⟩
theorem cm_X8_isPlace : CM (mX8_isPlace) 1 := ⟨mg (w := .code yX8_isPlace cX8_isPlace 2 (some .boolean)) 912 (by decide +kernel) (by decide +kernel), mg (w := .initialized RX8) 9 (by decide +kernel) (by decide +kernel), ⟨(by decide +kernel : RX8 ≠ _), (by decide +kernel : RX8 ≠ _), (by decide +kernel : (parseMethodDescriptor yX8_isPlace.desc).map (fun d => d.parameters.length) = some 1)⟩, (by decide : 2 ≤ 21)⟩
theorem ci_X8_isPlace : CI (mX8_isPlace) 8 := ⟨mg (w := .instanceMethod yX8_isPlace) 911 (by decide +kernel) (by decide +kernel), mt (w := .selects RX8 yX8_isPlace yX8_isPlace) (by decide +kernel) (by decide +kernel), _, _, rfl⟩
theorem cm_X8_isShip : CM (mX8_isShip) 1 := ⟨mg (w := .code yX8_isShip cX8_isShip 2 (some .boolean)) 936 (by decide +kernel) (by decide +kernel), mg (w := .initialized RX8) 9 (by decide +kernel) (by decide +kernel), ⟨(by decide +kernel : RX8 ≠ _), (by decide +kernel : RX8 ≠ _), (by decide +kernel : (parseMethodDescriptor yX8_isShip.desc).map (fun d => d.parameters.length) = some 1)⟩, (by decide : 2 ≤ 21)⟩
theorem ci_X8_isShip : CI (mX8_isShip) 8 := ⟨mg (w := .instanceMethod yX8_isShip) 935 (by decide +kernel) (by decide +kernel), mt (w := .selects RX8 yX8_isShip yX8_isShip) (by decide +kernel) (by decide +kernel), _, _, rfl⟩
theorem cm_X8_isWell : CM (mX8_isWell) 0 := ⟨mg (w := .code yX8_isWell cX8_isWell 1 (some .boolean)) 877 (by decide +kernel) (by decide +kernel), mg (w := .initialized RX8) 9 (by decide +kernel) (by decide +kernel), ⟨(by decide +kernel : RX8 ≠ _), (by decide +kernel : RX8 ≠ _), (by decide +kernel : (parseMethodDescriptor yX8_isWell.desc).map (fun d => d.parameters.length) = some 0)⟩, (by decide : 1 ≤ 21)⟩
theorem ci_X8_isWell : CI (mX8_isWell) 8 := ⟨mg (w := .instanceMethod yX8_isWell) 876 (by decide +kernel) (by decide +kernel), mt (w := .selects RX8 yX8_isWell yX8_isWell) (by decide +kernel) (by decide +kernel), _, _, rfl⟩
theorem cm_X8_isWord : CM (mX8_isWord) 1 := ⟨mg (w := .code yX8_isWord cX8_isWord 1 (some .boolean)) 873 (by decide +kernel) (by decide +kernel), mg (w := .initialized RX8) 9 (by decide +kernel) (by decide +kernel), ⟨(by decide +kernel : RX8 ≠ _), (by decide +kernel : RX8 ≠ _), (by decide +kernel : (parseMethodDescriptor yX8_isWord.desc).map (fun d => d.parameters.length) = some 1)⟩, (by decide : 1 ≤ 21)⟩
theorem cs_X8_isWord : CS mX8_isWord := mg (w := .static yX8_isWord) 872 (by decide +kernel) (by decide +kernel)
theorem cm_X8_keep : CM (mX8_keep) 1 := ⟨mg (w := .code yX8_keep cX8_keep 3 (some .int)) 1120 (by decide +kernel) (by decide +kernel), mg (w := .initialized RX8) 9 (by decide +kernel) (by decide +kernel), ⟨(by decide +kernel : RX8 ≠ _), (by decide +kernel : RX8 ≠ _), (by decide +kernel : (parseMethodDescriptor yX8_keep.desc).map (fun d => d.parameters.length) = some 1)⟩, (by decide : 3 ≤ 21)⟩
theorem ci_X8_keep : CI (mX8_keep) 8 := ⟨mg (w := .instanceMethod yX8_keep) 1118 (by decide +kernel) (by decide +kernel), mg (w := .selects RX8 yX8_keep yX8_keep) 1119 (by decide +kernel) (by decide +kernel), _, _, rfl⟩
theorem cm_X8_leastSeen : CM (mX8_leastSeen) 1 := ⟨mg (w := .code yX8_leastSeen cX8_leastSeen 4 (some .int)) 1095 (by decide +kernel) (by decide +kernel), mg (w := .initialized RX8) 9 (by decide +kernel) (by decide +kernel), ⟨(by decide +kernel : RX8 ≠ _), (by decide +kernel : RX8 ≠ _), (by decide +kernel : (parseMethodDescriptor yX8_leastSeen.desc).map (fun d => d.parameters.length) = some 1)⟩, (by decide : 4 ≤ 21)⟩
theorem ci_X8_leastSeen : CI (mX8_leastSeen) 8 := ⟨mg (w := .instanceMethod yX8_leastSeen) 1093 (by decide +kernel) (by decide +kernel), mg (w := .selects RX8 yX8_leastSeen yX8_leastSeen) 1094 (by decide +kernel) (by decide +kernel), _, _, rfl⟩
theorem cm_X8_letterAt : CM (mX8_letterAt) 1 := ⟨mg (w := .code yX8_letterAt cX8_letterAt 2 (some .int)) 870 (by decide +kernel) (by decide +kernel), mg (w := .initialized RX8) 9 (by decide +kernel) (by decide +kernel), ⟨(by decide +kernel : RX8 ≠ _), (by decide +kernel : RX8 ≠ _), (by decide +kernel : (parseMethodDescriptor yX8_letterAt.desc).map (fun d => d.parameters.length) = some 1)⟩, (by decide : 2 ≤ 21)⟩
theorem ci_X8_letterAt : CI (mX8_letterAt) 8 := ⟨mg (w := .instanceMethod yX8_letterAt) 869 (by decide +kernel) (by decide +kernel), mt (w := .selects RX8 yX8_letterAt yX8_letterAt) (by decide +kernel) (by decide +kernel), _, _, rfl⟩
theorem cm_X8_liesOf : CM (mX8_liesOf) 2 := ⟨mg (w := .code yX8_liesOf cX8_liesOf 3 (some .boolean)) 920 (by decide +kernel) (by decide +kernel), mg (w := .initialized RX8) 9 (by decide +kernel) (by decide +kernel), ⟨(by decide +kernel : RX8 ≠ _), (by decide +kernel : RX8 ≠ _), (by decide +kernel : (parseMethodDescriptor yX8_liesOf.desc).map (fun d => d.parameters.length) = some 2)⟩, (by decide : 3 ≤ 21)⟩
theorem ci_X8_liesOf : CI (mX8_liesOf) 8 := ⟨mg (w := .instanceMethod yX8_liesOf) 919 (by decide +kernel) (by decide +kernel), mt (w := .selects RX8 yX8_liesOf yX8_liesOf) (by decide +kernel) (by decide +kernel), _, _, rfl⟩
theorem cm_X8_lying : CM (mX8_lying) 1 := ⟨mg (w := .code yX8_lying cX8_lying 4 (some .int)) 916 (by decide +kernel) (by decide +kernel), mg (w := .initialized RX8) 9 (by decide +kernel) (by decide +kernel), ⟨(by decide +kernel : RX8 ≠ _), (by decide +kernel : RX8 ≠ _), (by decide +kernel : (parseMethodDescriptor yX8_lying.desc).map (fun d => d.parameters.length) = some 1)⟩, (by decide : 4 ≤ 21)⟩
theorem ci_X8_lying : CI (mX8_lying) 8 := ⟨mg (w := .instanceMethod yX8_lying) 915 (by decide +kernel) (by decide +kernel), mt (w := .selects RX8 yX8_lying yX8_lying) (by decide +kernel) (by decide +kernel), _, _, rfl⟩
theorem cm_X8_makeIn : CM (mX8_makeIn) 2 := ⟨mg (w := .code yX8_makeIn cX8_makeIn 3 (some .int)) 1091 (by decide +kernel) (by decide +kernel), mg (w := .initialized RX8) 9 (by decide +kernel) (by decide +kernel), ⟨(by decide +kernel : RX8 ≠ _), (by decide +kernel : RX8 ≠ _), (by decide +kernel : (parseMethodDescriptor yX8_makeIn.desc).map (fun d => d.parameters.length) = some 2)⟩, (by decide : 3 ≤ 21)⟩
theorem ci_X8_makeIn : CI (mX8_makeIn) 8 := ⟨mg (w := .instanceMethod yX8_makeIn) 1090 (by decide +kernel) (by decide +kernel), mt (w := .selects RX8 yX8_makeIn yX8_makeIn) (by decide +kernel) (by decide +kernel), _, _, rfl⟩
theorem cm_X8_mayBe : CM (mX8_mayBe) 0 := ⟨mg (w := .code yX8_mayBe cX8_mayBe 5 (some .int)) 1087 (by decide +kernel) (by decide +kernel), mg (w := .initialized RX8) 9 (by decide +kernel) (by decide +kernel), ⟨(by decide +kernel : RX8 ≠ _), (by decide +kernel : RX8 ≠ _), (by decide +kernel : (parseMethodDescriptor yX8_mayBe.desc).map (fun d => d.parameters.length) = some 0)⟩, (by decide : 5 ≤ 21)⟩
theorem ci_X8_mayBe : CI (mX8_mayBe) 8 := ⟨mg (w := .instanceMethod yX8_mayBe) 1085 (by decide +kernel) (by decide +kernel), mg (w := .selects RX8 yX8_mayBe yX8_mayBe) 1086 (by decide +kernel) (by decide +kernel), _, _, rfl⟩
theorem cm_X8_mayBegin : CM (mX8_mayBegin) 1 := ⟨mg (w := .code yX8_mayBegin cX8_mayBegin 2 (some .boolean)) 881 (by decide +kernel) (by decide +kernel), mg (w := .initialized RX8) 9 (by decide +kernel) (by decide +kernel), ⟨(by decide +kernel : RX8 ≠ _), (by decide +kernel : RX8 ≠ _), (by decide +kernel : (parseMethodDescriptor yX8_mayBegin.desc).map (fun d => d.parameters.length) = some 1)⟩, (by decide : 2 ≤ 21)⟩
theorem ci_X8_mayBegin : CI (mX8_mayBegin) 8 := ⟨mg (w := .instanceMethod yX8_mayBegin) 880 (by decide +kernel) (by decide +kernel), mt (w := .selects RX8 yX8_mayBegin yX8_mayBegin) (by decide +kernel) (by decide +kernel), _, _, rfl⟩
theorem cm_X8_nextOf : CM (mX8_nextOf) 2 := ⟨mg (w := .code yX8_nextOf cX8_nextOf 4 (some .int)) 1051 (by decide +kernel) (by decide +kernel), mg (w := .initialized RX8) 9 (by decide +kernel) (by decide +kernel), ⟨(by decide +kernel : RX8 ≠ _), (by decide +kernel : RX8 ≠ _), (by decide +kernel : (parseMethodDescriptor yX8_nextOf.desc).map (fun d => d.parameters.length) = some 2)⟩, (by decide : 4 ≤ 21)⟩
theorem ci_X8_nextOf : CI (mX8_nextOf) 8 := ⟨mg (w := .instanceMethod yX8_nextOf) 1050 (by decide +kernel) (by decide +kernel), mt (w := .selects RX8 yX8_nextOf yX8_nextOf) (by decide +kernel) (by decide +kernel), _, _, rfl⟩
theorem cm_X8_notes : CM (mX8_notes) 0 := ⟨mg (w := .code yX8_notes cX8_notes 2 none) 1011 (by decide +kernel) (by decide +kernel), mg (w := .initialized RX8) 9 (by decide +kernel) (by decide +kernel), ⟨(by decide +kernel : RX8 ≠ _), (by decide +kernel : RX8 ≠ _), (by decide +kernel : (parseMethodDescriptor yX8_notes.desc).map (fun d => d.parameters.length) = some 0)⟩, (by decide : 2 ≤ 21)⟩
theorem ci_X8_notes : CI (mX8_notes) 8 := ⟨mg (w := .instanceMethod yX8_notes) 1010 (by decide +kernel) (by decide +kernel), mt (w := .selects RX8 yX8_notes yX8_notes) (by decide +kernel) (by decide +kernel), _, _, rfl⟩
theorem cm_X8_now : CM (mX8_now) 1 := ⟨mg (w := .code yX8_now cX8_now 2 (some .int)) 987 (by decide +kernel) (by decide +kernel), mg (w := .initialized RX8) 9 (by decide +kernel) (by decide +kernel), ⟨(by decide +kernel : RX8 ≠ _), (by decide +kernel : RX8 ≠ _), (by decide +kernel : (parseMethodDescriptor yX8_now.desc).map (fun d => d.parameters.length) = some 1)⟩, (by decide : 2 ≤ 21)⟩
theorem ci_X8_now : CI (mX8_now) 8 := ⟨mg (w := .instanceMethod yX8_now) 985 (by decide +kernel) (by decide +kernel), mg (w := .selects RX8 yX8_now yX8_now) 986 (by decide +kernel) (by decide +kernel), _, _, rfl⟩
theorem cm_X8_number : CM (mX8_number) 2 := ⟨mg (w := .code yX8_number cX8_number 3 (some .int)) 893 (by decide +kernel) (by decide +kernel), mg (w := .initialized RX8) 9 (by decide +kernel) (by decide +kernel), ⟨(by decide +kernel : RX8 ≠ _), (by decide +kernel : RX8 ≠ _), (by decide +kernel : (parseMethodDescriptor yX8_number.desc).map (fun d => d.parameters.length) = some 2)⟩, (by decide : 3 ≤ 21)⟩
theorem ci_X8_number : CI (mX8_number) 8 := ⟨mg (w := .instanceMethod yX8_number) 892 (by decide +kernel) (by decide +kernel), mt (w := .selects RX8 yX8_number yX8_number) (by decide +kernel) (by decide +kernel), _, _, rfl⟩
theorem cm_X8_oldest : CM (mX8_oldest) 0 := ⟨mg (w := .code yX8_oldest cX8_oldest 3 (some .int)) 967 (by decide +kernel) (by decide +kernel), mg (w := .initialized RX8) 9 (by decide +kernel) (by decide +kernel), ⟨(by decide +kernel : RX8 ≠ _), (by decide +kernel : RX8 ≠ _), (by decide +kernel : (parseMethodDescriptor yX8_oldest.desc).map (fun d => d.parameters.length) = some 0)⟩, (by decide : 3 ≤ 21)⟩
theorem ci_X8_oldest : CI (mX8_oldest) 8 := ⟨mg (w := .instanceMethod yX8_oldest) 966 (by decide +kernel) (by decide +kernel), mt (w := .selects RX8 yX8_oldest yX8_oldest) (by decide +kernel) (by decide +kernel), _, _, rfl⟩
theorem cm_X8_ones : CM (mX8_ones) 1 := ⟨mg (w := .code yX8_ones cX8_ones 3 (some .int)) 1098 (by decide +kernel) (by decide +kernel), mg (w := .initialized RX8) 9 (by decide +kernel) (by decide +kernel), ⟨(by decide +kernel : RX8 ≠ _), (by decide +kernel : RX8 ≠ _), (by decide +kernel : (parseMethodDescriptor yX8_ones.desc).map (fun d => d.parameters.length) = some 1)⟩, (by decide : 3 ≤ 21)⟩
theorem cs_X8_ones : CS mX8_ones := mg (w := .static yX8_ones) 1097 (by decide +kernel) (by decide +kernel)
theorem cm_X8_part : CM (mX8_part) 2 := ⟨mg (w := .code yX8_part cX8_part 3 (some .int)) 924 (by decide +kernel) (by decide +kernel), mg (w := .initialized RX8) 9 (by decide +kernel) (by decide +kernel), ⟨(by decide +kernel : RX8 ≠ _), (by decide +kernel : RX8 ≠ _), (by decide +kernel : (parseMethodDescriptor yX8_part.desc).map (fun d => d.parameters.length) = some 2)⟩, (by decide : 3 ≤ 21)⟩
theorem ci_X8_part : CI (mX8_part) 8 := ⟨mg (w := .instanceMethod yX8_part) 922 (by decide +kernel) (by decide +kernel), mg (w := .selects RX8 yX8_part yX8_part) 923 (by decide +kernel) (by decide +kernel), _, _, rfl⟩
theorem cm_X8_place : CM (mX8_place) 2 := ⟨mg (w := .code yX8_place cX8_place 3 (some .int)) 908 (by decide +kernel) (by decide +kernel), mg (w := .initialized RX8) 9 (by decide +kernel) (by decide +kernel), ⟨(by decide +kernel : RX8 ≠ _), (by decide +kernel : RX8 ≠ _), (by decide +kernel : (parseMethodDescriptor yX8_place.desc).map (fun d => d.parameters.length) = some 2)⟩, (by decide : 3 ≤ 21)⟩
theorem ci_X8_place : CI (mX8_place) 8 := ⟨mg (w := .instanceMethod yX8_place) 906 (by decide +kernel) (by decide +kernel), mg (w := .selects RX8 yX8_place yX8_place) 907 (by decide +kernel) (by decide +kernel), _, _, rfl⟩
theorem cm_X8_port : CM (mX8_port) 0 := ⟨mg (w := .code yX8_port cX8_port 3 (some .int)) 862 (by decide +kernel) (by decide +kernel), mg (w := .initialized RX8) 9 (by decide +kernel) (by decide +kernel), ⟨(by decide +kernel : RX8 ≠ _), (by decide +kernel : RX8 ≠ _), (by decide +kernel : (parseMethodDescriptor yX8_port.desc).map (fun d => d.parameters.length) = some 0)⟩, (by decide : 3 ≤ 21)⟩
theorem ci_X8_port : CI (mX8_port) 8 := ⟨mg (w := .instanceMethod yX8_port) 860 (by decide +kernel) (by decide +kernel), mg (w := .selects RX8 yX8_port yX8_port) 861 (by decide +kernel) (by decide +kernel), _, _, rfl⟩
theorem cm_X8_putsRow : CM (mX8_putsRow) 1 := ⟨mg (w := .code yX8_putsRow cX8_putsRow 4 (some .int)) 1043 (by decide +kernel) (by decide +kernel), mg (w := .initialized RX8) 9 (by decide +kernel) (by decide +kernel), ⟨(by decide +kernel : RX8 ≠ _), (by decide +kernel : RX8 ≠ _), (by decide +kernel : (parseMethodDescriptor yX8_putsRow.desc).map (fun d => d.parameters.length) = some 1)⟩, (by decide : 4 ≤ 21)⟩
theorem ci_X8_putsRow : CI (mX8_putsRow) 8 := ⟨mg (w := .instanceMethod yX8_putsRow) 1042 (by decide +kernel) (by decide +kernel), mt (w := .selects RX8 yX8_putsRow yX8_putsRow) (by decide +kernel) (by decide +kernel), _, _, rfl⟩
theorem cm_X8_rate : CM (mX8_rate) 2 := ⟨mg (w := .code yX8_rate cX8_rate 6 (some .int)) 1110 (by decide +kernel) (by decide +kernel), mg (w := .initialized RX8) 9 (by decide +kernel) (by decide +kernel), ⟨(by decide +kernel : RX8 ≠ _), (by decide +kernel : RX8 ≠ _), (by decide +kernel : (parseMethodDescriptor yX8_rate.desc).map (fun d => d.parameters.length) = some 2)⟩, (by decide : 6 ≤ 21)⟩
theorem ci_X8_rate : CI (mX8_rate) 8 := ⟨mg (w := .instanceMethod yX8_rate) 1108 (by decide +kernel) (by decide +kernel), mg (w := .selects RX8 yX8_rate yX8_rate) 1109 (by decide +kernel) (by decide +kernel), _, _, rfl⟩
theorem cm_X8_readsItem : CM (mX8_readsItem) 1 := ⟨mg (w := .code yX8_readsItem cX8_readsItem 4 none) 889 (by decide +kernel) (by decide +kernel), mg (w := .initialized RX8) 9 (by decide +kernel) (by decide +kernel), ⟨(by decide +kernel : RX8 ≠ _), (by decide +kernel : RX8 ≠ _), (by decide +kernel : (parseMethodDescriptor yX8_readsItem.desc).map (fun d => d.parameters.length) = some 1)⟩, (by decide : 4 ≤ 21)⟩
theorem ci_X8_readsItem : CI (mX8_readsItem) 8 := ⟨mg (w := .instanceMethod yX8_readsItem) 888 (by decide +kernel) (by decide +kernel), mt (w := .selects RX8 yX8_readsItem yX8_readsItem) (by decide +kernel) (by decide +kernel), _, _, rfl⟩
theorem cm_X8_repairs : CM (mX8_repairs) 3 := ⟨mg (w := .code yX8_repairs cX8_repairs 9 (some .int)) 1106 (by decide +kernel) (by decide +kernel), mg (w := .initialized RX8) 9 (by decide +kernel) (by decide +kernel), ⟨(by decide +kernel : RX8 ≠ _), (by decide +kernel : RX8 ≠ _), (by decide +kernel : (parseMethodDescriptor yX8_repairs.desc).map (fun d => d.parameters.length) = some 3)⟩, (by decide : 9 ≤ 21)⟩
theorem ci_X8_repairs : CI (mX8_repairs) 8 := ⟨mg (w := .instanceMethod yX8_repairs) 1104 (by decide +kernel) (by decide +kernel), mg (w := .selects RX8 yX8_repairs yX8_repairs) 1105 (by decide +kernel) (by decide +kernel), _, _, rfl⟩
theorem cm_X8_replace : CM (mX8_replace) 2 := ⟨mg (w := .code yX8_replace cX8_replace 5 (some .int)) 1007 (by decide +kernel) (by decide +kernel), mg (w := .initialized RX8) 9 (by decide +kernel) (by decide +kernel), ⟨(by decide +kernel : RX8 ≠ _), (by decide +kernel : RX8 ≠ _), (by decide +kernel : (parseMethodDescriptor yX8_replace.desc).map (fun d => d.parameters.length) = some 2)⟩, (by decide : 5 ≤ 21)⟩
theorem ci_X8_replace : CI (mX8_replace) 8 := ⟨mg (w := .instanceMethod yX8_replace) 1005 (by decide +kernel) (by decide +kernel), mg (w := .selects RX8 yX8_replace yX8_replace) 1006 (by decide +kernel) (by decide +kernel), _, _, rfl⟩
theorem cm_X8_rotten : CM (mX8_rotten) 1 := ⟨mg (w := .code yX8_rotten cX8_rotten 4 (some .int)) 944 (by decide +kernel) (by decide +kernel), mg (w := .initialized RX8) 9 (by decide +kernel) (by decide +kernel), ⟨(by decide +kernel : RX8 ≠ _), (by decide +kernel : RX8 ≠ _), (by decide +kernel : (parseMethodDescriptor yX8_rotten.desc).map (fun d => d.parameters.length) = some 1)⟩, (by decide : 4 ≤ 21)⟩
theorem ci_X8_rotten : CI (mX8_rotten) 8 := ⟨mg (w := .instanceMethod yX8_rotten) 943 (by decide +kernel) (by decide +kernel), mt (w := .selects RX8 yX8_rotten yX8_rotten) (by decide +kernel) (by decide +kernel), _, _, rfl⟩
theorem cm_X8_rottenShips : CM (mX8_rottenShips) 0 := ⟨mg (w := .code yX8_rottenShips cX8_rottenShips 3 (some .int)) 995 (by decide +kernel) (by decide +kernel), mg (w := .initialized RX8) 9 (by decide +kernel) (by decide +kernel), ⟨(by decide +kernel : RX8 ≠ _), (by decide +kernel : RX8 ≠ _), (by decide +kernel : (parseMethodDescriptor yX8_rottenShips.desc).map (fun d => d.parameters.length) = some 0)⟩, (by decide : 3 ≤ 21)⟩
theorem ci_X8_rottenShips : CI (mX8_rottenShips) 8 := ⟨mg (w := .instanceMethod yX8_rottenShips) 994 (by decide +kernel) (by decide +kernel), mt (w := .selects RX8 yX8_rottenShips yX8_rottenShips) (by decide +kernel) (by decide +kernel), _, _, rfl⟩
theorem cm_X8_saw : CM (mX8_saw) 2 := ⟨mg (w := .code yX8_saw cX8_saw 3 (some .int)) 1079 (by decide +kernel) (by decide +kernel), mg (w := .initialized RX8) 9 (by decide +kernel) (by decide +kernel), ⟨(by decide +kernel : RX8 ≠ _), (by decide +kernel : RX8 ≠ _), (by decide +kernel : (parseMethodDescriptor yX8_saw.desc).map (fun d => d.parameters.length) = some 2)⟩, (by decide : 3 ≤ 21)⟩
theorem ci_X8_saw : CI (mX8_saw) 8 := ⟨mg (w := .instanceMethod yX8_saw) 1077 (by decide +kernel) (by decide +kernel), mg (w := .selects RX8 yX8_saw yX8_saw) 1078 (by decide +kernel) (by decide +kernel), _, _, rfl⟩
theorem cm_X8_settles : CM (mX8_settles) 0 := ⟨mg (w := .code yX8_settles cX8_settles 3 none) 900 (by decide +kernel) (by decide +kernel), mg (w := .initialized RX8) 9 (by decide +kernel) (by decide +kernel), ⟨(by decide +kernel : RX8 ≠ _), (by decide +kernel : RX8 ≠ _), (by decide +kernel : (parseMethodDescriptor yX8_settles.desc).map (fun d => d.parameters.length) = some 0)⟩, (by decide : 3 ≤ 21)⟩
theorem ci_X8_settles : CI (mX8_settles) 8 := ⟨mg (w := .instanceMethod yX8_settles) 899 (by decide +kernel) (by decide +kernel), mt (w := .selects RX8 yX8_settles yX8_settles) (by decide +kernel) (by decide +kernel), _, _, rfl⟩
theorem cm_X8_share : CM (mX8_share) 3 := ⟨mg (w := .code yX8_share cX8_share 7 (some .int)) 1063 (by decide +kernel) (by decide +kernel), mg (w := .initialized RX8) 9 (by decide +kernel) (by decide +kernel), ⟨(by decide +kernel : RX8 ≠ _), (by decide +kernel : RX8 ≠ _), (by decide +kernel : (parseMethodDescriptor yX8_share.desc).map (fun d => d.parameters.length) = some 3)⟩, (by decide : 7 ≤ 21)⟩
theorem ci_X8_share : CI (mX8_share) 8 := ⟨mg (w := .instanceMethod yX8_share) 1061 (by decide +kernel) (by decide +kernel), mg (w := .selects RX8 yX8_share yX8_share) 1062 (by decide +kernel) (by decide +kernel), _, _, rfl⟩
theorem cm_X8_ship : CM (mX8_ship) 2 := ⟨mg (w := .code yX8_ship cX8_ship 3 (some .int)) 940 (by decide +kernel) (by decide +kernel), mg (w := .initialized RX8) 9 (by decide +kernel) (by decide +kernel), ⟨(by decide +kernel : RX8 ≠ _), (by decide +kernel : RX8 ≠ _), (by decide +kernel : (parseMethodDescriptor yX8_ship.desc).map (fun d => d.parameters.length) = some 2)⟩, (by decide : 3 ≤ 21)⟩
theorem ci_X8_ship : CI (mX8_ship) 8 := ⟨mg (w := .instanceMethod yX8_ship) 938 (by decide +kernel) (by decide +kernel), mg (w := .selects RX8 yX8_ship yX8_ship) 939 (by decide +kernel) (by decide +kernel), _, _, rfl⟩
theorem cm_X8_stays : CM (mX8_stays) 2 := ⟨mg (w := .code yX8_stays cX8_stays 5 (some .int)) 1055 (by decide +kernel) (by decide +kernel), mg (w := .initialized RX8) 9 (by decide +kernel) (by decide +kernel), ⟨(by decide +kernel : RX8 ≠ _), (by decide +kernel : RX8 ≠ _), (by decide +kernel : (parseMethodDescriptor yX8_stays.desc).map (fun d => d.parameters.length) = some 2)⟩, (by decide : 5 ≤ 21)⟩
theorem ci_X8_stays : CI (mX8_stays) 8 := ⟨mg (w := .instanceMethod yX8_stays) 1053 (by decide +kernel) (by decide +kernel), mg (w := .selects RX8 yX8_stays yX8_stays) 1054 (by decide +kernel) (by decide +kernel), _, _, rfl⟩
theorem cm_X8_steps : CM (mX8_steps) 0 := ⟨mg (w := .code yX8_steps cX8_steps 3 (some .boolean)) 1047 (by decide +kernel) (by decide +kernel), mg (w := .initialized RX8) 9 (by decide +kernel) (by decide +kernel), ⟨(by decide +kernel : RX8 ≠ _), (by decide +kernel : RX8 ≠ _), (by decide +kernel : (parseMethodDescriptor yX8_steps.desc).map (fun d => d.parameters.length) = some 0)⟩, (by decide : 3 ≤ 21)⟩
theorem ci_X8_steps : CI (mX8_steps) 8 := ⟨mg (w := .instanceMethod yX8_steps) 1046 (by decide +kernel) (by decide +kernel), mt (w := .selects RX8 yX8_steps yX8_steps) (by decide +kernel) (by decide +kernel), _, _, rfl⟩
theorem cm_X8_takes : CM (mX8_takes) 1 := ⟨mg (w := .code yX8_takes cX8_takes 3 (some .int)) 885 (by decide +kernel) (by decide +kernel), mg (w := .initialized RX8) 9 (by decide +kernel) (by decide +kernel), ⟨(by decide +kernel : RX8 ≠ _), (by decide +kernel : RX8 ≠ _), (by decide +kernel : (parseMethodDescriptor yX8_takes.desc).map (fun d => d.parameters.length) = some 1)⟩, (by decide : 3 ≤ 21)⟩
theorem ci_X8_takes : CI (mX8_takes) 8 := ⟨mg (w := .instanceMethod yX8_takes) 884 (by decide +kernel) (by decide +kernel), mt (w := .selects RX8 yX8_takes yX8_takes) (by decide +kernel) (by decide +kernel), _, _, rfl⟩
theorem cm_X8_tells : CM (mX8_tells) 2 := ⟨mg (w := .code yX8_tells cX8_tells 7 (some .boolean)) 1102 (by decide +kernel) (by decide +kernel), mg (w := .initialized RX8) 9 (by decide +kernel) (by decide +kernel), ⟨(by decide +kernel : RX8 ≠ _), (by decide +kernel : RX8 ≠ _), (by decide +kernel : (parseMethodDescriptor yX8_tells.desc).map (fun d => d.parameters.length) = some 2)⟩, (by decide : 7 ≤ 21)⟩
theorem ci_X8_tells : CI (mX8_tells) 8 := ⟨mg (w := .instanceMethod yX8_tells) 1101 (by decide +kernel) (by decide +kernel), mt (w := .selects RX8 yX8_tells yX8_tells) (by decide +kernel) (by decide +kernel), _, _, rfl⟩
theorem cm_X8_thief : CM (mX8_thief) 3 := ⟨mg (w := .code yX8_thief cX8_thief 16 (some .long)) 1074 (by decide +kernel) (by decide +kernel), mg (w := .initialized RX8) 9 (by decide +kernel) (by decide +kernel), ⟨(by decide +kernel : RX8 ≠ _), (by decide +kernel : RX8 ≠ _), (by decide +kernel : (parseMethodDescriptor yX8_thief.desc).map (fun d => d.parameters.length) = some 3)⟩, (by decide : 16 ≤ 21)⟩
theorem ci_X8_thief : CI (mX8_thief) 8 := ⟨mg (w := .instanceMethod yX8_thief) 1072 (by decide +kernel) (by decide +kernel), mg (w := .selects RX8 yX8_thief yX8_thief) 1073 (by decide +kernel) (by decide +kernel), _, _, rfl⟩
theorem cm_X8_trace : CM (mX8_trace) 0 := ⟨mg (w := .code yX8_trace cX8_trace 1 (some .long)) 1132 (by decide +kernel) (by decide +kernel), mg (w := .initialized RX8) 9 (by decide +kernel) (by decide +kernel), ⟨(by decide +kernel : RX8 ≠ _), (by decide +kernel : RX8 ≠ _), (by decide +kernel : (parseMethodDescriptor yX8_trace.desc).map (fun d => d.parameters.length) = some 0)⟩, (by decide : 1 ≤ 21)⟩
theorem ci_X8_trace : CI (mX8_trace) 8 := ⟨mg (w := .instanceMethod yX8_trace) 1130 (by decide +kernel) (by decide +kernel), mg (w := .selects RX8 yX8_trace yX8_trace) 1131 (by decide +kernel) (by decide +kernel), _, _, rfl⟩
theorem cm_X8_twins : CM (mX8_twins) 1 := ⟨mg (w := .code yX8_twins cX8_twins 2 (some .int)) 1035 (by decide +kernel) (by decide +kernel), mg (w := .initialized RX8) 9 (by decide +kernel) (by decide +kernel), ⟨(by decide +kernel : RX8 ≠ _), (by decide +kernel : RX8 ≠ _), (by decide +kernel : (parseMethodDescriptor yX8_twins.desc).map (fun d => d.parameters.length) = some 1)⟩, (by decide : 2 ≤ 21)⟩
theorem ci_X8_twins : CI (mX8_twins) 8 := ⟨mg (w := .instanceMethod yX8_twins) 1033 (by decide +kernel) (by decide +kernel), mg (w := .selects RX8 yX8_twins yX8_twins) 1034 (by decide +kernel) (by decide +kernel), _, _, rfl⟩
theorem cm_X8_twinsBy : CM (mX8_twinsBy) 1 := ⟨mg (w := .code yX8_twinsBy cX8_twinsBy 5 (some .int)) 1003 (by decide +kernel) (by decide +kernel), mg (w := .initialized RX8) 9 (by decide +kernel) (by decide +kernel), ⟨(by decide +kernel : RX8 ≠ _), (by decide +kernel : RX8 ≠ _), (by decide +kernel : (parseMethodDescriptor yX8_twinsBy.desc).map (fun d => d.parameters.length) = some 1)⟩, (by decide : 5 ≤ 21)⟩
theorem ci_X8_twinsBy : CI (mX8_twinsBy) 8 := ⟨mg (w := .instanceMethod yX8_twinsBy) 1002 (by decide +kernel) (by decide +kernel), mt (w := .selects RX8 yX8_twinsBy yX8_twinsBy) (by decide +kernel) (by decide +kernel), _, _, rfl⟩
theorem cm_X8_type : CM (mX8_type) 1 := ⟨mg (w := .code yX8_type cX8_type 2 (some .int)) 851 (by decide +kernel) (by decide +kernel), mg (w := .initialized RX8) 9 (by decide +kernel) (by decide +kernel), ⟨(by decide +kernel : RX8 ≠ _), (by decide +kernel : RX8 ≠ _), (by decide +kernel : (parseMethodDescriptor yX8_type.desc).map (fun d => d.parameters.length) = some 1)⟩, (by decide : 2 ≤ 21)⟩
theorem ci_X8_type : CI (mX8_type) 8 := ⟨mg (w := .instanceMethod yX8_type) 849 (by decide +kernel) (by decide +kernel), mg (w := .selects RX8 yX8_type yX8_type) 850 (by decide +kernel) (by decide +kernel), _, _, rfl⟩
theorem cm_X8_undo : CM (mX8_undo) 0 := ⟨mg (w := .code yX8_undo cX8_undo 2 (some .int)) 1031 (by decide +kernel) (by decide +kernel), mg (w := .initialized RX8) 9 (by decide +kernel) (by decide +kernel), ⟨(by decide +kernel : RX8 ≠ _), (by decide +kernel : RX8 ≠ _), (by decide +kernel : (parseMethodDescriptor yX8_undo.desc).map (fun d => d.parameters.length) = some 0)⟩, (by decide : 2 ≤ 21)⟩
theorem ci_X8_undo : CI (mX8_undo) 8 := ⟨mg (w := .instanceMethod yX8_undo) 1029 (by decide +kernel) (by decide +kernel), mg (w := .selects RX8 yX8_undo yX8_undo) 1030 (by decide +kernel) (by decide +kernel), _, _, rfl⟩
theorem cm_X8_weightOf : CM (mX8_weightOf) 1 := ⟨mg (w := .code yX8_weightOf cX8_weightOf 4 (some .int)) 971 (by decide +kernel) (by decide +kernel), mg (w := .initialized RX8) 9 (by decide +kernel) (by decide +kernel), ⟨(by decide +kernel : RX8 ≠ _), (by decide +kernel : RX8 ≠ _), (by decide +kernel : (parseMethodDescriptor yX8_weightOf.desc).map (fun d => d.parameters.length) = some 1)⟩, (by decide : 4 ≤ 21)⟩
theorem ci_X8_weightOf : CI (mX8_weightOf) 8 := ⟨mg (w := .instanceMethod yX8_weightOf) 970 (by decide +kernel) (by decide +kernel), mt (w := .selects RX8 yX8_weightOf yX8_weightOf) (by decide +kernel) (by decide +kernel), _, _, rfl⟩
theorem cm_X8_year : CM (mX8_year) 0 := ⟨mg (w := .code yX8_year cX8_year 3 (some .int)) 1027 (by decide +kernel) (by decide +kernel), mg (w := .initialized RX8) 9 (by decide +kernel) (by decide +kernel), ⟨(by decide +kernel : RX8 ≠ _), (by decide +kernel : RX8 ≠ _), (by decide +kernel : (parseMethodDescriptor yX8_year.desc).map (fun d => d.parameters.length) = some 0)⟩, (by decide : 3 ≤ 21)⟩
theorem ci_X8_year : CI (mX8_year) 8 := ⟨mg (w := .instanceMethod yX8_year) 1025 (by decide +kernel) (by decide +kernel), mg (w := .selects RX8 yX8_year yX8_year) 1026 (by decide +kernel) (by decide +kernel), _, _, rfl⟩
theorem ml_L_13 : MLk RL 13 yX7_type := Or.inl (mg (w := .methodLink RL 13 yX7_type) 303 (by decide +kernel) (by decide +kernel))
theorem ml_L_17 : MLk RL 17 yX8_type := Or.inl (mg (w := .methodLink RL 17 yX8_type) 848 (by decide +kernel) (by decide +kernel))
theorem ml_L_18 : MLk RL 18 yX7_clear := Or.inl (mg (w := .methodLink RL 18 yX7_clear) 307 (by decide +kernel) (by decide +kernel))
theorem ml_L_22 : MLk RL 22 yX8_clear := Or.inl (mg (w := .methodLink RL 22 yX8_clear) 855 (by decide +kernel) (by decide +kernel))
theorem ml_L_23 : MLk RL 23 yX7_port := Or.inl (mg (w := .methodLink RL 23 yX7_port) 311 (by decide +kernel) (by decide +kernel))
theorem ml_L_26 : MLk RL 26 yX8_port := Or.inl (mg (w := .methodLink RL 26 yX8_port) 859 (by decide +kernel) (by decide +kernel))
theorem ml_L_27 : MLk RL 27 yX7_place := Or.inl (mg (w := .methodLink RL 27 yX7_place) 408 (by decide +kernel) (by decide +kernel))
theorem ml_L_31 : MLk RL 31 yX8_place := Or.inl (mg (w := .methodLink RL 31 yX8_place) 905 (by decide +kernel) (by decide +kernel))
theorem ml_L_32 : MLk RL 32 yX7_part := Or.inl (mg (w := .methodLink RL 32 yX7_part) 424 (by decide +kernel) (by decide +kernel))
theorem ml_L_35 : MLk RL 35 yX8_part := Or.inl (mg (w := .methodLink RL 35 yX8_part) 921 (by decide +kernel) (by decide +kernel))
theorem ml_L_36 : MLk RL 36 yX7_inPlace := Or.inl (mg (w := .methodLink RL 36 yX7_inPlace) 432 (by decide +kernel) (by decide +kernel))
theorem ml_L_39 : MLk RL 39 yX8_inPlace := Or.inl (mg (w := .methodLink RL 39 yX8_inPlace) 929 (by decide +kernel) (by decide +kernel))
theorem ml_L_40 : MLk RL 40 yX7_ship := Or.inl (mg (w := .methodLink RL 40 yX7_ship) 444 (by decide +kernel) (by decide +kernel))
theorem ml_L_43 : MLk RL 43 yX8_ship := Or.inl (mg (w := .methodLink RL 43 yX8_ship) 937 (by decide +kernel) (by decide +kernel))
theorem ml_L_44 : MLk RL 44 yX7_is := Or.inl (mg (w := .methodLink RL 44 yX7_is) 452 (by decide +kernel) (by decide +kernel))
theorem ml_L_47 : MLk RL 47 yX8_is := Or.inl (mg (w := .methodLink RL 47 yX8_is) 945 (by decide +kernel) (by decide +kernel))
theorem ml_L_48 : MLk RL 48 yX7_now := Or.inl (mg (w := .methodLink RL 48 yX7_now) 507 (by decide +kernel) (by decide +kernel))
theorem ml_L_51 : MLk RL 51 yX8_now := Or.inl (mg (w := .methodLink RL 51 yX8_now) 984 (by decide +kernel) (by decide +kernel))
theorem ml_L_52 : MLk RL 52 yX7_replace := Or.inl (mg (w := .methodLink RL 52 yX7_replace) 527 (by decide +kernel) (by decide +kernel))
theorem ml_L_55 : MLk RL 55 yX8_replace := Or.inl (mg (w := .methodLink RL 55 yX8_replace) 1004 (by decide +kernel) (by decide +kernel))
theorem ml_L_56 : MLk RL 56 yX7_fresh := Or.inl (mg (w := .methodLink RL 56 yX7_fresh) 542 (by decide +kernel) (by decide +kernel))
theorem ml_L_59 : MLk RL 59 yX8_fresh := Or.inl (mg (w := .methodLink RL 59 yX8_fresh) 1012 (by decide +kernel) (by decide +kernel))
theorem ml_L_60 : MLk RL 60 yX7_build := Or.inl (mg (w := .methodLink RL 60 yX7_build) 547 (by decide +kernel) (by decide +kernel))
theorem ml_L_63 : MLk RL 63 yX8_build := Or.inl (mg (w := .methodLink RL 63 yX8_build) 1016 (by decide +kernel) (by decide +kernel))
theorem ml_L_64 : MLk RL 64 yX7_year := Or.inl (mg (w := .methodLink RL 64 yX7_year) 556 (by decide +kernel) (by decide +kernel))
theorem ml_L_67 : MLk RL 67 yX8_year := Or.inl (mg (w := .methodLink RL 67 yX8_year) 1024 (by decide +kernel) (by decide +kernel))
theorem ml_L_68 : MLk RL 68 yX7_undo := Or.inl (mg (w := .methodLink RL 68 yX7_undo) 560 (by decide +kernel) (by decide +kernel))
theorem ml_L_71 : MLk RL 71 yX8_undo := Or.inl (mg (w := .methodLink RL 71 yX8_undo) 1028 (by decide +kernel) (by decide +kernel))
theorem ml_L_72 : MLk RL 72 yX7_twins := Or.inl (mg (w := .methodLink RL 72 yX7_twins) 568 (by decide +kernel) (by decide +kernel))
theorem ml_L_75 : MLk RL 75 yX8_twins := Or.inl (mg (w := .methodLink RL 75 yX8_twins) 1032 (by decide +kernel) (by decide +kernel))
theorem ml_L_76 : MLk RL 76 yX7_becomes := Or.inl (mg (w := .methodLink RL 76 yX7_becomes) 572 (by decide +kernel) (by decide +kernel))
theorem ml_L_80 : MLk RL 80 yX8_becomes := Or.inl (mg (w := .methodLink RL 80 yX8_becomes) 1036 (by decide +kernel) (by decide +kernel))
theorem ml_L_81 : MLk RL 81 yX7_stays := Or.inl (mg (w := .methodLink RL 81 yX7_stays) 610 (by decide +kernel) (by decide +kernel))
theorem ml_L_84 : MLk RL 84 yX8_stays := Or.inl (mg (w := .methodLink RL 84 yX8_stays) 1052 (by decide +kernel) (by decide +kernel))
theorem ml_L_85 : MLk RL 85 yX7_share := Or.inl (mg (w := .methodLink RL 85 yX7_share) 618 (by decide +kernel) (by decide +kernel))
theorem ml_L_89 : MLk RL 89 yX8_share := Or.inl (mg (w := .methodLink RL 89 yX8_share) 1060 (by decide +kernel) (by decide +kernel))
theorem ml_L_90 : MLk RL 90 yX7_decides := Or.inl (mg (w := .methodLink RL 90 yX7_decides) 637 (by decide +kernel) (by decide +kernel))
theorem ml_L_93 : MLk RL 93 yX8_decides := Or.inl (mg (w := .methodLink RL 93 yX8_decides) 1067 (by decide +kernel) (by decide +kernel))
theorem ml_L_94 : MLk RL 94 yX7_thief := Or.inl (mg (w := .methodLink RL 94 yX7_thief) 643 (by decide +kernel) (by decide +kernel))
theorem ml_L_98 : MLk RL 98 yX8_thief := Or.inl (mg (w := .methodLink RL 98 yX8_thief) 1071 (by decide +kernel) (by decide +kernel))
theorem ml_L_99 : MLk RL 99 yX7_saw := Or.inl (mg (w := .methodLink RL 99 yX7_saw) 656 (by decide +kernel) (by decide +kernel))
theorem ml_L_102 : MLk RL 102 yX8_saw := Or.inl (mg (w := .methodLink RL 102 yX8_saw) 1076 (by decide +kernel) (by decide +kernel))
theorem ml_L_103 : MLk RL 103 yX7_forget := Or.inl (mg (w := .methodLink RL 103 yX7_forget) 660 (by decide +kernel) (by decide +kernel))
theorem ml_L_106 : MLk RL 106 yX8_forget := Or.inl (mg (w := .methodLink RL 106 yX8_forget) 1080 (by decide +kernel) (by decide +kernel))
theorem ml_L_107 : MLk RL 107 yX7_mayBe := Or.inl (mg (w := .methodLink RL 107 yX7_mayBe) 664 (by decide +kernel) (by decide +kernel))
theorem ml_L_110 : MLk RL 110 yX8_mayBe := Or.inl (mg (w := .methodLink RL 110 yX8_mayBe) 1084 (by decide +kernel) (by decide +kernel))
theorem ml_L_111 : MLk RL 111 yX7_leastSeen := Or.inl (mg (w := .methodLink RL 111 yX7_leastSeen) 672 (by decide +kernel) (by decide +kernel))
theorem ml_L_114 : MLk RL 114 yX8_leastSeen := Or.inl (mg (w := .methodLink RL 114 yX8_leastSeen) 1092 (by decide +kernel) (by decide +kernel))
theorem ml_L_115 : MLk RL 115 yX7_repairs := Or.inl (mg (w := .methodLink RL 115 yX7_repairs) 690 (by decide +kernel) (by decide +kernel))
theorem ml_L_118 : MLk RL 118 yX8_repairs := Or.inl (mg (w := .methodLink RL 118 yX8_repairs) 1103 (by decide +kernel) (by decide +kernel))
theorem ml_L_119 : MLk RL 119 yX7_rate := Or.inl (mg (w := .methodLink RL 119 yX7_rate) 694 (by decide +kernel) (by decide +kernel))
theorem ml_L_122 : MLk RL 122 yX8_rate := Or.inl (mg (w := .methodLink RL 122 yX8_rate) 1107 (by decide +kernel) (by decide +kernel))
theorem ml_L_123 : MLk RL 123 yX7_keep := Or.inl (mg (w := .methodLink RL 123 yX7_keep) 734 (by decide +kernel) (by decide +kernel))
theorem ml_L_126 : MLk RL 126 yX8_keep := Or.inl (mg (w := .methodLink RL 126 yX8_keep) 1117 (by decide +kernel) (by decide +kernel))
theorem ml_L_127 : MLk RL 127 yX7_back := Or.inl (mg (w := .methodLink RL 127 yX7_back) 739 (by decide +kernel) (by decide +kernel))
theorem ml_L_130 : MLk RL 130 yX8_back := Or.inl (mg (w := .methodLink RL 130 yX8_back) 1121 (by decide +kernel) (by decide +kernel))
theorem ml_L_131 : MLk RL 131 yX7_count := Or.inl (mg (w := .methodLink RL 131 yX7_count) 743 (by decide +kernel) (by decide +kernel))
theorem ml_L_134 : MLk RL 134 yX8_count := Or.inl (mg (w := .methodLink RL 134 yX8_count) 1125 (by decide +kernel) (by decide +kernel))
theorem ml_L_135 : MLk RL 135 yX7_trace := Or.inl (mg (w := .methodLink RL 135 yX7_trace) 747 (by decide +kernel) (by decide +kernel))
theorem ml_L_139 : MLk RL 139 yX8_trace := Or.inl (mg (w := .methodLink RL 139 yX8_trace) 1129 (by decide +kernel) (by decide +kernel))
theorem ml_X0_52 : MLk RX0 52 yX0_seekOldest := Or.inl (mg (w := .methodLink RX0 52 yX0_seekOldest) 580 (by decide +kernel) (by decide +kernel))
theorem ml_X0_55 : MLk RX0 55 yX2_load := Or.inr ⟨_, mn (w := .methodLinkNest RX0 55 yX2_load "WhoseShip") 603 (by decide +kernel) (by decide +kernel)⟩
theorem ml_X0_61 : MLk RX0 61 yX0_choose := Or.inl (mg (w := .methodLink RX0 61 yX0_choose) 604 (by decide +kernel) (by decide +kernel))
theorem ml_X0_65 : MLk RX0 65 yX2_whose := Or.inr ⟨_, mn (w := .methodLinkNest RX0 65 yX2_whose "WhoseShip") 608 (by decide +kernel) (by decide +kernel)⟩
theorem ml_X0_69 : MLk RX0 69 yX0_accept := Or.inl (mg (w := .methodLink RX0 69 yX0_accept) 598 (by decide +kernel) (by decide +kernel))
theorem ml_X0_72 : MLk RX0 72 yX1_partAt := Or.inr ⟨_, mn (w := .methodLinkNest RX0 72 yX1_partAt "WhoseShip") 584 (by decide +kernel) (by decide +kernel)⟩
theorem ml_X0_84 : MLk RX0 84 yX1_liesFor := Or.inr ⟨_, mn (w := .methodLinkNest RX0 84 yX1_liesFor "WhoseShip") 585 (by decide +kernel) (by decide +kernel)⟩
theorem ml_X0_88 : MLk RX0 88 yX2_putPart := Or.inr ⟨_, mn (w := .methodLinkNest RX0 88 yX2_putPart "WhoseShip") 609 (by decide +kernel) (by decide +kernel)⟩
theorem ml_X0_97 : MLk RX0 97 yX0_tryOldest := Or.inl (mg (w := .methodLink RX0 97 yX0_tryOldest) 586 (by decide +kernel) (by decide +kernel))
theorem ml_X0_104 : MLk RX0 104 yX0_noOlder := Or.inl (mg (w := .methodLink RX0 104 yX0_noOlder) 590 (by decide +kernel) (by decide +kernel))
theorem ml_X0_107 : MLk RX0 107 yX0_comesFirst := Or.inl (mg (w := .methodLink RX0 107 yX0_comesFirst) 594 (by decide +kernel) (by decide +kernel))
theorem ml_X1_46 : MLk RX1 46 yX1_liesFor := Or.inl (mg (w := .methodLink RX1 46 yX1_liesFor) 420 (by decide +kernel) (by decide +kernel))
theorem ml_X2_35 : MLk RX2 35 yX1_partAt := Or.inr ⟨_, mn (w := .methodLinkNest RX2 35 yX1_partAt "WhoseShip") 467 (by decide +kernel) (by decide +kernel)⟩
theorem ml_X2_41 : MLk RX2 41 yX2_putPart := Or.inl (mg (w := .methodLink RX2 41 yX2_putPart) 468 (by decide +kernel) (by decide +kernel))
theorem ml_X2_47 : MLk RX2 47 yX2_put := Or.inl (mg (w := .methodLink RX2 47 yX2_put) 472 (by decide +kernel) (by decide +kernel))
theorem ml_X2_57 : MLk RX2 57 yX2_shipOf := Or.inl (mg (w := .methodLink RX2 57 yX2_shipOf) 480 (by decide +kernel) (by decide +kernel))
theorem ml_X2_61 : MLk RX2 61 yX2_byMost := Or.inl (mg (w := .methodLink RX2 61 yX2_byMost) 483 (by decide +kernel) (by decide +kernel))
theorem ml_X2_65 : MLk RX2 65 yX2_byMore := Or.inl (mg (w := .methodLink RX2 65 yX2_byMore) 495 (by decide +kernel) (by decide +kernel))
theorem ml_X2_68 : MLk RX2 68 yX2_oldest := Or.inl (mg (w := .methodLink RX2 68 yX2_oldest) 499 (by decide +kernel) (by decide +kernel))
theorem ml_X2_71 : MLk RX2 71 yX2_byHalf := Or.inl (mg (w := .methodLink RX2 71 yX2_byHalf) 503 (by decide +kernel) (by decide +kernel))
theorem ml_X2_74 : MLk RX2 74 yX2_weigh := Or.inl (mg (w := .methodLink RX2 74 yX2_weigh) 487 (by decide +kernel) (by decide +kernel))
theorem ml_X2_77 : MLk RX2 77 yX5_allWeights := Or.inr ⟨_, mn (w := .methodLinkNest RX2 77 yX5_allWeights "WhoseShip") 491 (by decide +kernel) (by decide +kernel)⟩
theorem ml_X3_23 : MLk RX3 23 yX3_asPart := Or.inl (mg (w := .methodLink RX3 23 yX3_asPart) 703 (by decide +kernel) (by decide +kernel))
theorem ml_X3_27 : MLk RX3 27 yX3_asKeel := Or.inl (mg (w := .methodLink RX3 27 yX3_asKeel) 707 (by decide +kernel) (by decide +kernel))
theorem ml_X3_30 : MLk RX3 30 yX3_asBorrowed := Or.inl (mg (w := .methodLink RX3 30 yX3_asBorrowed) 712 (by decide +kernel) (by decide +kernel))
theorem ml_X3_33 : MLk RX3 33 yX3_asMast := Or.inl (mg (w := .methodLink RX3 33 yX3_asMast) 717 (by decide +kernel) (by decide +kernel))
theorem ml_X3_36 : MLk RX3 36 yX3_asShared := Or.inl (mg (w := .methodLink RX3 36 yX3_asShared) 722 (by decide +kernel) (by decide +kernel))
theorem ml_X3_39 : MLk RX3 39 yX3_asForged := Or.inl (mg (w := .methodLink RX3 39 yX3_asForged) 727 (by decide +kernel) (by decide +kernel))
theorem ml_X3_73 : MLk RX3 73 yX1_lying := Or.inr ⟨_, mn (w := .methodLinkNest RX3 73 yX1_lying "WhoseShip") 732 (by decide +kernel) (by decide +kernel)⟩
theorem ml_X4_25 : MLk RX4 25 yX1_copyFrom := Or.inr ⟨_, mn (w := .methodLinkNest RX4 25 yX1_copyFrom "WhoseShip") 535 (by decide +kernel) (by decide +kernel)⟩
theorem ml_X4_29 : MLk RX4 29 yJ9_min_7cf53 := Or.inl (mg (w := .methodLink RX4 29 yJ9_min_7cf53) 540 (by decide +kernel) (by decide +kernel))
theorem ml_X5_18 : MLk RX5 18 yX5_startAnew := Or.inl (mg (w := .methodLink RX5 18 yX5_startAnew) 27 (by decide +kernel) (by decide +kernel))
theorem ml_X6_62 : MLk RX6 62 yX6_startAnew := Or.inl (mg (w := .methodLink RX6 62 yX6_startAnew) 319 (by decide +kernel) (by decide +kernel))
theorem ml_X6_66 : MLk RX6 66 yX6_step := Or.inl (mg (w := .methodLink RX6 66 yX6_step) 324 (by decide +kernel) (by decide +kernel))
theorem ml_X6_69 : MLk RX6 69 yX6_readPlaces := Or.inl (mg (w := .methodLink RX6 69 yX6_readPlaces) 338 (by decide +kernel) (by decide +kernel))
theorem ml_X6_72 : MLk RX6 72 yX6_readWeight := Or.inl (mg (w := .methodLink RX6 72 yX6_readWeight) 350 (by decide +kernel) (by decide +kernel))
theorem ml_X6_75 : MLk RX6 75 yX6_readLife := Or.inl (mg (w := .methodLink RX6 75 yX6_readLife) 354 (by decide +kernel) (by decide +kernel))
theorem ml_X6_78 : MLk RX6 78 yX6_readShip := Or.inl (mg (w := .methodLink RX6 78 yX6_readShip) 358 (by decide +kernel) (by decide +kernel))
theorem ml_X6_81 : MLk RX6 81 yX6_readSpare := Or.inl (mg (w := .methodLink RX6 81 yX6_readSpare) 362 (by decide +kernel) (by decide +kernel))
theorem ml_X6_84 : MLk RX6 84 yX6_refuse := Or.inl (mg (w := .methodLink RX6 84 yX6_refuse) 342 (by decide +kernel) (by decide +kernel))
theorem ml_X6_87 : MLk RX6 87 yX6_readEnd := Or.inl (mg (w := .methodLink RX6 87 yX6_readEnd) 369 (by decide +kernel) (by decide +kernel))
theorem ml_X6_90 : MLk RX6 90 yX5_startAnew := Or.inr ⟨_, mn (w := .methodLinkNest RX6 90 yX5_startAnew "WhoseShip") 323 (by decide +kernel) (by decide +kernel)⟩
theorem ml_X6_92 : MLk RX6 92 yX6_readNumber := Or.inl (mg (w := .methodLink RX6 92 yX6_readNumber) 346 (by decide +kernel) (by decide +kernel))
theorem ml_X6_105 : MLk RX6 105 yX7_isMake := Or.inr ⟨_, mn (w := .methodLinkNest RX6 105 yX7_isMake "WhoseShip") 366 (by decide +kernel) (by decide +kernel)⟩
theorem ml_X6_109 : MLk RX6 109 yX6_isDigit := Or.inl (mg (w := .methodLink RX6 109 yX6_isDigit) 328 (by decide +kernel) (by decide +kernel))
theorem ml_X6_112 : MLk RX6 112 yX6_stepNumber := Or.inl (mg (w := .methodLink RX6 112 yX6_stepNumber) 331 (by decide +kernel) (by decide +kernel))
theorem ml_X6_115 : MLk RX6 115 yJ9_min_7cf53 := Or.inl (mg (w := .methodLink RX6 115 yJ9_min_7cf53) 335 (by decide +kernel) (by decide +kernel))
theorem ml_X6_120 : MLk RX6 120 yX5_copyFrom := Or.inr ⟨_, mn (w := .methodLinkNest RX6 120 yX5_copyFrom "WhoseShip") 377 (by decide +kernel) (by decide +kernel)⟩
theorem ml_X6_124 : MLk RX6 124 yX1_startAnew := Or.inr ⟨_, mn (w := .methodLinkNest RX6 124 yX1_startAnew "WhoseShip") 388 (by decide +kernel) (by decide +kernel)⟩
theorem ml_X6_127 : MLk RX6 127 yX1_addShip := Or.inr ⟨_, mn (w := .methodLinkNest RX6 127 yX1_addShip "WhoseShip") 392 (by decide +kernel) (by decide +kernel)⟩
theorem ml_X6_131 : MLk RX6 131 yX1_addPart := Or.inr ⟨_, mn (w := .methodLinkNest RX6 131 yX1_addPart "WhoseShip") 396 (by decide +kernel) (by decide +kernel)⟩
theorem ml_X6_135 : MLk RX6 135 yX1_putIn := Or.inr ⟨_, mn (w := .methodLinkNest RX6 135 yX1_putIn "WhoseShip") 400 (by decide +kernel) (by decide +kernel)⟩
theorem ml_X7_89 : MLk RX7 89 yX6_readAll := Or.inr ⟨_, mn (w := .methodLinkNest RX7 89 yX6_readAll "WhoseShip") 315 (by decide +kernel) (by decide +kernel)⟩
theorem ml_X7_93 : MLk RX7 93 yX6_tellPlan := Or.inr ⟨_, mn (w := .methodLinkNest RX7 93 yX6_tellPlan "WhoseShip") 373 (by decide +kernel) (by decide +kernel)⟩
theorem ml_X7_97 : MLk RX7 97 yX6_tellFleet := Or.inr ⟨_, mn (w := .methodLinkNest RX7 97 yX6_tellFleet "WhoseShip") 384 (by decide +kernel) (by decide +kernel)⟩
theorem ml_X7_101 : MLk RX7 101 yX4_forgetAll := Or.inr ⟨_, mn (w := .methodLinkNest RX7 101 yX4_forgetAll "WhoseShip") 404 (by decide +kernel) (by decide +kernel)⟩
theorem ml_X7_107 : MLk RX7 107 yX7_isPlace := Or.inl (mg (w := .methodLink RX7 107 yX7_isPlace) 412 (by decide +kernel) (by decide +kernel))
theorem ml_X7_117 : MLk RX7 117 yX1_lyingOf := Or.inr ⟨_, mn (w := .methodLinkNest RX7 117 yX1_lyingOf "WhoseShip") 416 (by decide +kernel) (by decide +kernel)⟩
theorem ml_X7_120 : MLk RX7 120 yX7_isPart := Or.inl (mg (w := .methodLink RX7 120 yX7_isPart) 428 (by decide +kernel) (by decide +kernel))
theorem ml_X7_135 : MLk RX7 135 yX7_isShip := Or.inl (mg (w := .methodLink RX7 135 yX7_isShip) 436 (by decide +kernel) (by decide +kernel))
theorem ml_X7_138 : MLk RX7 138 yX1_partAt := Or.inr ⟨_, mn (w := .methodLinkNest RX7 138 yX1_partAt "WhoseShip") 440 (by decide +kernel) (by decide +kernel)⟩
theorem ml_X7_145 : MLk RX7 145 yX7_rottenPlaces := Or.inl (mg (w := .methodLink RX7 145 yX7_rottenPlaces) 448 (by decide +kernel) (by decide +kernel))
theorem ml_X7_148 : MLk RX7 148 yX7_isLaw := Or.inl (mg (w := .methodLink RX7 148 yX7_isLaw) 456 (by decide +kernel) (by decide +kernel))
theorem ml_X7_151 : MLk RX7 151 yX7_whoseNow := Or.inl (mg (w := .methodLink RX7 151 yX7_whoseNow) 459 (by decide +kernel) (by decide +kernel))
theorem ml_X7_157 : MLk RX7 157 yX1_lying := Or.inr ⟨_, mn (w := .methodLinkNest RX7 157 yX1_lying "WhoseShip") 511 (by decide +kernel) (by decide +kernel)⟩
theorem ml_X7_161 : MLk RX7 161 yX7_rottenShips := Or.inl (mg (w := .methodLink RX7 161 yX7_rottenShips) 515 (by decide +kernel) (by decide +kernel))
theorem ml_X7_164 : MLk RX7 164 yX7_fairLaws := Or.inl (mg (w := .methodLink RX7 164 yX7_fairLaws) 519 (by decide +kernel) (by decide +kernel))
theorem ml_X7_170 : MLk RX7 170 yX4_remember := Or.inr ⟨_, mn (w := .methodLinkNest RX7 170 yX4_remember "WhoseShip") 531 (by decide +kernel) (by decide +kernel)⟩
theorem ml_X7_173 : MLk RX7 173 yX1_putIn := Or.inr ⟨_, mn (w := .methodLinkNest RX7 173 yX1_putIn "WhoseShip") 541 (by decide +kernel) (by decide +kernel)⟩
theorem ml_X7_180 : MLk RX7 180 yX1_addPart := Or.inr ⟨_, mn (w := .methodLinkNest RX7 180 yX1_addPart "WhoseShip") 546 (by decide +kernel) (by decide +kernel)⟩
theorem ml_X7_187 : MLk RX7 187 yX1_firstLying := Or.inr ⟨_, mn (w := .methodLinkNest RX7 187 yX1_firstLying "WhoseShip") 551 (by decide +kernel) (by decide +kernel)⟩
theorem ml_X7_193 : MLk RX7 193 yX1_addShip := Or.inr ⟨_, mn (w := .methodLinkNest RX7 193 yX1_addShip "WhoseShip") 555 (by decide +kernel) (by decide +kernel)⟩
theorem ml_X7_196 : MLk RX7 196 yX4_restore := Or.inr ⟨_, mn (w := .methodLinkNest RX7 196 yX4_restore "WhoseShip") 564 (by decide +kernel) (by decide +kernel)⟩
theorem ml_X7_199 : MLk RX7 199 yX7_firstTwins := Or.inl (mg (w := .methodLink RX7 199 yX7_firstTwins) 523 (by decide +kernel) (by decide +kernel))
theorem ml_X7_202 : MLk RX7 202 yX0_seek := Or.inr ⟨_, mn (w := .methodLinkNest RX7 202 yX0_seek "WhoseShip") 576 (by decide +kernel) (by decide +kernel)⟩
theorem ml_X7_216 : MLk RX7 216 yX2_ageAndRenew := Or.inr ⟨_, mn (w := .methodLinkNest RX7 216 yX2_ageAndRenew "WhoseShip") 614 (by decide +kernel) (by decide +kernel)⟩
theorem ml_X7_219 : MLk RX7 219 yX2_whose := Or.inr ⟨_, mn (w := .methodLinkNest RX7 219 yX2_whose "WhoseShip") 476 (by decide +kernel) (by decide +kernel)⟩
theorem ml_X7_222 : MLk RX7 222 yX7_isMake := Or.inl (mg (w := .methodLink RX7 222 yX7_isMake) 622 (by decide +kernel) (by decide +kernel))
theorem ml_X7_225 : MLk RX7 225 yX7_isFractionSide := Or.inl (mg (w := .methodLink RX7 225 yX7_isFractionSide) 623 (by decide +kernel) (by decide +kernel))
theorem ml_X7_228 : MLk RX7 228 yX2_load := Or.inr ⟨_, mn (w := .methodLinkNest RX7 228 yX2_load "WhoseShip") 463 (by decide +kernel) (by decide +kernel)⟩
theorem ml_X7_232 : MLk RX7 232 yX2_weigh := Or.inr ⟨_, mn (w := .methodLinkNest RX7 232 yX2_weigh "WhoseShip") 626 (by decide +kernel) (by decide +kernel)⟩
theorem ml_X7_238 : MLk RX7 238 yX5_allWeights := Or.inr ⟨_, mn (w := .methodLinkNest RX7 238 yX5_allWeights "WhoseShip") 627 (by decide +kernel) (by decide +kernel)⟩
theorem ml_X7_241 : MLk RX7 241 yX7_inLeastTerms := Or.inl (mg (w := .methodLink RX7 241 yX7_inLeastTerms) 628 (by decide +kernel) (by decide +kernel))
theorem ml_X7_245 : MLk RX7 245 yX2_put := Or.inr ⟨_, mn (w := .methodLinkNest RX7 245 yX2_put "WhoseShip") 641 (by decide +kernel) (by decide +kernel)⟩
theorem ml_X7_248 : MLk RX7 248 yX2_putPart := Or.inr ⟨_, mn (w := .methodLinkNest RX7 248 yX2_putPart "WhoseShip") 642 (by decide +kernel) (by decide +kernel)⟩
theorem ml_X7_253 : MLk RX7 253 yJ9_max_7cf53 := Or.inl (mg (w := .methodLink RX7 253 yJ9_max_7cf53) 648 (by decide +kernel) (by decide +kernel))
theorem ml_X7_258 : MLk RX7 258 yX7_staying := Or.inl (mg (w := .methodLink RX7 258 yX7_staying) 651 (by decide +kernel) (by decide +kernel))
theorem ml_X7_262 : MLk RX7 262 yX7_isAsSeen := Or.inl (mg (w := .methodLink RX7 262 yX7_isAsSeen) 668 (by decide +kernel) (by decide +kernel))
theorem ml_X7_265 : MLk RX7 265 yJ6_bitCount_0f7a4 := Or.inl (mg (w := .methodLink RX7 265 yJ6_bitCount_0f7a4) 676 (by decide +kernel) (by decide +kernel))
theorem ml_X7_270 : MLk RX7 270 yX7_tellsFromAll := Or.inl (mg (w := .methodLink RX7 270 yX7_tellsFromAll) 682 (by decide +kernel) (by decide +kernel))
theorem ml_X7_275 : MLk RX7 275 yX3_rateAs := Or.inr ⟨_, mn (w := .methodLinkNest RX7 275 yX3_rateAs "WhoseShip") 699 (by decide +kernel) (by decide +kernel)⟩
theorem ml_X7_278 : MLk RX7 278 yX1_copyFrom := Or.inr ⟨_, mn (w := .methodLinkNest RX7 278 yX1_copyFrom "WhoseShip") 738 (by decide +kernel) (by decide +kernel)⟩
theorem ml_X7_285 : MLk RX7 285 yX1_liesFor := Or.inr ⟨_, mn (w := .methodLinkNest RX7 285 yX1_liesFor "WhoseShip") 655 (by decide +kernel) (by decide +kernel)⟩
theorem ml_X7_288 : MLk RX7 288 yX7_differIn := Or.inl (mg (w := .methodLink RX7 288 yX7_differIn) 686 (by decide +kernel) (by decide +kernel))
theorem ml_X7_292 : MLk RX7 292 yX7_commonDivisor := Or.inl (mg (w := .methodLink RX7 292 yX7_commonDivisor) 631 (by decide +kernel) (by decide +kernel))
theorem ml_X7_296 : MLk RX7 296 yJ9_max_f86c9 := Or.inl (mg (w := .methodLink RX7 296 yJ9_max_f86c9) 634 (by decide +kernel) (by decide +kernel))
theorem ml_X8_66 : MLk RX8 66 yX8_in := Or.inl (mg (w := .methodLink RX8 66 yX8_in) 852 (by decide +kernel) (by decide +kernel))
theorem ml_X8_76 : MLk RX8 76 yX8_letterAt := Or.inl (mg (w := .methodLink RX8 76 yX8_letterAt) 867 (by decide +kernel) (by decide +kernel))
theorem ml_X8_89 : MLk RX8 89 yX8_isWord := Or.inl (mg (w := .methodLink RX8 89 yX8_isWord) 871 (by decide +kernel) (by decide +kernel))
theorem ml_X8_96 : MLk RX8 96 yX8_isWell := Or.inl (mg (w := .methodLink RX8 96 yX8_isWell) 874 (by decide +kernel) (by decide +kernel))
theorem ml_X8_100 : MLk RX8 100 yX8_advances := Or.inl (mg (w := .methodLink RX8 100 yX8_advances) 863 (by decide +kernel) (by decide +kernel))
theorem ml_X8_103 : MLk RX8 103 yX8_takes := Or.inl (mg (w := .methodLink RX8 103 yX8_takes) 882 (by decide +kernel) (by decide +kernel))
theorem ml_X8_113 : MLk RX8 113 yX8_number := Or.inl (mg (w := .methodLink RX8 113 yX8_number) 890 (by decide +kernel) (by decide +kernel))
theorem ml_X8_120 : MLk RX8 120 yX8_isMake := Or.inl (mg (w := .methodLink RX8 120 yX8_isMake) 894 (by decide +kernel) (by decide +kernel))
theorem ml_X8_123 : MLk RX8 123 yX8_mayBegin := Or.inl (mg (w := .methodLink RX8 123 yX8_mayBegin) 878 (by decide +kernel) (by decide +kernel))
theorem ml_X8_126 : MLk RX8 126 yX8_readsItem := Or.inl (mg (w := .methodLink RX8 126 yX8_readsItem) 886 (by decide +kernel) (by decide +kernel))
theorem ml_X8_130 : MLk RX8 130 yX8_settles := Or.inl (mg (w := .methodLink RX8 130 yX8_settles) 897 (by decide +kernel) (by decide +kernel))
theorem ml_X8_133 : MLk RX8 133 yX8_comes := Or.inl (mg (w := .methodLink RX8 133 yX8_comes) 901 (by decide +kernel) (by decide +kernel))
theorem ml_X8_143 : MLk RX8 143 yX8_liesOf := Or.inl (mg (w := .methodLink RX8 143 yX8_liesOf) 917 (by decide +kernel) (by decide +kernel))
theorem ml_X8_147 : MLk RX8 147 yX8_lying := Or.inl (mg (w := .methodLink RX8 147 yX8_lying) 913 (by decide +kernel) (by decide +kernel))
theorem ml_X8_150 : MLk RX8 150 yX8_isPlace := Or.inl (mg (w := .methodLink RX8 150 yX8_isPlace) 909 (by decide +kernel) (by decide +kernel))
theorem ml_X8_153 : MLk RX8 153 yX8_isPart := Or.inl (mg (w := .methodLink RX8 153 yX8_isPart) 925 (by decide +kernel) (by decide +kernel))
theorem ml_X8_156 : MLk RX8 156 yX8_isShip := Or.inl (mg (w := .methodLink RX8 156 yX8_isShip) 933 (by decide +kernel) (by decide +kernel))
theorem ml_X8_159 : MLk RX8 159 yX8_rotten := Or.inl (mg (w := .methodLink RX8 159 yX8_rotten) 941 (by decide +kernel) (by decide +kernel))
theorem ml_X8_162 : MLk RX8 162 yX8_weightOf := Or.inl (mg (w := .methodLink RX8 162 yX8_weightOf) 968 (by decide +kernel) (by decide +kernel))
theorem ml_X8_165 : MLk RX8 165 yX8_oldest := Or.inl (mg (w := .methodLink RX8 165 yX8_oldest) 964 (by decide +kernel) (by decide +kernel))
theorem ml_X8_169 : MLk RX8 169 yX8_allWeights := Or.inl (mg (w := .methodLink RX8 169 yX8_allWeights) 972 (by decide +kernel) (by decide +kernel))
theorem ml_X8_172 : MLk RX8 172 yX8_isMore := Or.inl (mg (w := .methodLink RX8 172 yX8_isMore) 976 (by decide +kernel) (by decide +kernel))
theorem ml_X8_175 : MLk RX8 175 yX8_countOf := Or.inl (mg (w := .methodLink RX8 175 yX8_countOf) 980 (by decide +kernel) (by decide +kernel))
theorem ml_X8_178 : MLk RX8 178 yX8_asIs := Or.inl (mg (w := .methodLink RX8 178 yX8_asIs) 956 (by decide +kernel) (by decide +kernel))
theorem ml_X8_181 : MLk RX8 181 yX8_isBy := Or.inl (mg (w := .methodLink RX8 181 yX8_isBy) 960 (by decide +kernel) (by decide +kernel))
theorem ml_X8_184 : MLk RX8 184 yX8_isLaw := Or.inl (mg (w := .methodLink RX8 184 yX8_isLaw) 949 (by decide +kernel) (by decide +kernel))
theorem ml_X8_187 : MLk RX8 187 yX8_isOf := Or.inl (mg (w := .methodLink RX8 187 yX8_isOf) 952 (by decide +kernel) (by decide +kernel))
theorem ml_X8_190 : MLk RX8 190 yX8_twinsBy := Or.inl (mg (w := .methodLink RX8 190 yX8_twinsBy) 1000 (by decide +kernel) (by decide +kernel))
theorem ml_X8_193 : MLk RX8 193 yX8_inYard := Or.inl (mg (w := .methodLink RX8 193 yX8_inYard) 988 (by decide +kernel) (by decide +kernel))
theorem ml_X8_196 : MLk RX8 196 yX8_rottenShips := Or.inl (mg (w := .methodLink RX8 196 yX8_rottenShips) 992 (by decide +kernel) (by decide +kernel))
theorem ml_X8_199 : MLk RX8 199 yX8_fair := Or.inl (mg (w := .methodLink RX8 199 yX8_fair) 996 (by decide +kernel) (by decide +kernel))
theorem ml_X8_202 : MLk RX8 202 yX8_notes := Or.inl (mg (w := .methodLink RX8 202 yX8_notes) 1008 (by decide +kernel) (by decide +kernel))
theorem ml_X8_205 : MLk RX8 205 yX8_firstOf := Or.inl (mg (w := .methodLink RX8 205 yX8_firstOf) 1020 (by decide +kernel) (by decide +kernel))
theorem ml_X8_208 : MLk RX8 208 yX8_nextOf := Or.inl (mg (w := .methodLink RX8 208 yX8_nextOf) 1048 (by decide +kernel) (by decide +kernel))
theorem ml_X8_211 : MLk RX8 211 yX8_putsRow := Or.inl (mg (w := .methodLink RX8 211 yX8_putsRow) 1040 (by decide +kernel) (by decide +kernel))
theorem ml_X8_214 : MLk RX8 214 yX8_steps := Or.inl (mg (w := .methodLink RX8 214 yX8_steps) 1044 (by decide +kernel) (by decide +kernel))
theorem ml_X8_217 : MLk RX8 217 yX8_ages := Or.inl (mg (w := .methodLink RX8 217 yX8_ages) 1056 (by decide +kernel) (by decide +kernel))
theorem ml_X8_220 : MLk RX8 220 yX8_gcd := Or.inl (mg (w := .methodLink RX8 220 yX8_gcd) 1064 (by decide +kernel) (by decide +kernel))
theorem ml_X8_226 : MLk RX8 226 yX8_makeIn := Or.inl (mg (w := .methodLink RX8 226 yX8_makeIn) 1088 (by decide +kernel) (by decide +kernel))
theorem ml_X8_229 : MLk RX8 229 yX8_ones := Or.inl (mg (w := .methodLink RX8 229 yX8_ones) 1096 (by decide +kernel) (by decide +kernel))
theorem ml_X8_232 : MLk RX8 232 yX8_tells := Or.inl (mg (w := .methodLink RX8 232 yX8_tells) 1099 (by decide +kernel) (by decide +kernel))
theorem cn_X7_251 : Cond.constantLong RX7 251 (Int64.ofInt (-1)) ∈ lw_good := mg 647 (by decide +kernel) (by decide +kernel)
theorem cn_J6_265 : Cond.constant RJ6 265 (Int32.ofInt (1431655765)) ∈ lw_good := mg 679 (by decide +kernel) (by decide +kernel)
theorem cn_J6_266 : Cond.constant RJ6 266 (Int32.ofInt (858993459)) ∈ lw_good := mg 680 (by decide +kernel) (by decide +kernel)
theorem cn_J6_267 : Cond.constant RJ6 267 (Int32.ofInt (252645135)) ∈ lw_good := mg 681 (by decide +kernel) (by decide +kernel)
theorem cn_X7_274 : Cond.constant RX7 274 (Int32.ofInt (-1000000)) ∈ lw_good := mg 698 (by decide +kernel) (by decide +kernel)
theorem cn_X3_49 : Cond.constantLong RX3 49 (Int64.ofInt (10)) ∈ lw_good := mg 711 (by decide +kernel) (by decide +kernel)
theorem cn_X3_59 : Cond.constantLong RX3 59 (Int64.ofInt (100)) ∈ lw_good := mg 716 (by decide +kernel) (by decide +kernel)
theorem cn_X3_64 : Cond.constantLong RX3 64 (Int64.ofInt (1000)) ∈ lw_good := mg 721 (by decide +kernel) (by decide +kernel)
theorem cn_X3_66 : Cond.constantLong RX3 66 (Int64.ofInt (10000)) ∈ lw_good := mg 726 (by decide +kernel) (by decide +kernel)
theorem cn_X3_71 : Cond.constantLong RX3 71 (Int64.ofInt (100000)) ∈ lw_good := mg 731 (by decide +kernel) (by decide +kernel)
theorem cn_X3_42 : Cond.constant RX3 42 (Int32.ofInt (-1000000)) ∈ lw_good := mg 733 (by decide +kernel) (by decide +kernel)
theorem cn_X8_224 : Cond.constantLong RX8 224 (Int64.ofInt (-1)) ∈ lw_good := mg 1075 (by decide +kernel) (by decide +kernel)
theorem cn_X8_235 : Cond.constant RX8 235 (Int32.ofInt (-1000000)) ∈ lw_good := mg 1111 (by decide +kernel) (by decide +kernel)
theorem cn_X8_240 : Cond.constantLong RX8 240 (Int64.ofInt (11)) ∈ lw_good := mg 1112 (by decide +kernel) (by decide +kernel)
theorem cn_X8_242 : Cond.constantLong RX8 242 (Int64.ofInt (101)) ∈ lw_good := mg 1113 (by decide +kernel) (by decide +kernel)
theorem cn_X8_244 : Cond.constantLong RX8 244 (Int64.ofInt (1011)) ∈ lw_good := mg 1114 (by decide +kernel) (by decide +kernel)
theorem cn_X8_246 : Cond.constantLong RX8 246 (Int64.ofInt (10101)) ∈ lw_good := mg 1115 (by decide +kernel) (by decide +kernel)
theorem cn_X8_248 : Cond.constantLong RX8 248 (Int64.ofInt (100001)) ∈ lw_good := mg 1116 (by decide +kernel) (by decide +kernel)
theorem fq_0_0 : fdq 0 0 = some (7, 3) := by decide +kernel
theorem fq_0_1 : fdq 0 1 = some (7, 29) := by decide +kernel
theorem fq_0_2 : fdq 0 2 = some (7, 6) := by decide +kernel
theorem fq_0_3 : fdq 0 3 = some (7, 10) := by decide +kernel
theorem fq_0_4 : fdq 0 4 = some (7, 13) := by decide +kernel
theorem fq_0_5 : fdq 0 5 = some (7, 15) := by decide +kernel
theorem fq_0_6 : fdq 0 6 = some (7, 16) := by decide +kernel
theorem fq_0_7 : fdq 0 7 = some (7, 17) := by decide +kernel
theorem fq_0_8 : fdq 0 8 = some (7, 18) := by decide +kernel
theorem fq_0_9 : fdq 0 9 = some (7, 19) := by decide +kernel
theorem fq_0_10 : fdq 0 10 = some (7, 27) := by decide +kernel
theorem fq_0_11 : fdq 0 11 = some (7, 28) := by decide +kernel
theorem fq_0_12 : fdq 0 12 = some (7, 0) := by decide +kernel
theorem fq_0_13 : fdq 0 13 = some (7, 0) := by decide +kernel
theorem oq_0 : (fdq 0 0).map (fun q => q.1) = some 7 := by decide +kernel
theorem fq_1_0 : fdq 1 0 = some (5, 0) := by decide +kernel
theorem fq_1_1 : fdq 1 1 = some (5, 4) := by decide +kernel
theorem fq_1_2 : fdq 1 2 = some (5, 5) := by decide +kernel
theorem oq_1 : (fdq 1 0).map (fun q => q.1) = some 5 := by decide +kernel
theorem aq_2 : arq 2 = some (1, 6) := by decide +kernel
theorem aq_3 : arq 3 = some (1, 6) := by decide +kernel
theorem fq_4_0 : fdq 4 0 = some (2, 3) := by decide +kernel
theorem fq_4_1 : fdq 4 1 = some (2, 29) := by decide +kernel
theorem fq_4_2 : fdq 4 2 = some (2, 7) := by decide +kernel
theorem fq_4_3 : fdq 4 3 = some (2, 8) := by decide +kernel
theorem fq_4_4 : fdq 4 4 = some (2, 9) := by decide +kernel
theorem oq_4 : (fdq 4 0).map (fun q => q.1) = some 2 := by decide +kernel
theorem aq_5 : arq 5 = some (1, 6) := by decide +kernel
theorem aq_6 : arq 6 = some (1, 6) := by decide +kernel
theorem aq_7 : arq 7 = some (1, 10) := by decide +kernel
theorem fq_8_0 : fdq 8 0 = some (0, 3) := by decide +kernel
theorem fq_8_1 : fdq 8 1 = some (0, 29) := by decide +kernel
theorem fq_8_2 : fdq 8 2 = some (0, 6) := by decide +kernel
theorem fq_8_3 : fdq 8 3 = some (0, 11) := by decide +kernel
theorem fq_8_4 : fdq 8 4 = some (0, 12) := by decide +kernel
theorem fq_8_5 : fdq 8 5 = some (0, 0) := by decide +kernel
theorem fq_8_6 : fdq 8 6 = some (0, 0) := by decide +kernel
theorem fq_8_7 : fdq 8 7 = some (0, 0) := by decide +kernel
theorem fq_8_8 : fdq 8 8 = some (0, 0) := by decide +kernel
theorem fq_8_9 : fdq 8 9 = some (0, 0) := by decide +kernel
theorem oq_8 : (fdq 8 0).map (fun q => q.1) = some 0 := by decide +kernel
theorem aq_9 : arq 9 = some (1, 6) := by decide +kernel
theorem aq_10 : arq 10 = some (1, 6) := by decide +kernel
theorem fq_11_0 : fdq 11 0 = some (4, 14) := by decide +kernel
theorem fq_11_1 : fdq 11 1 = some (4, 0) := by decide +kernel
theorem fq_11_2 : fdq 11 2 = some (4, 0) := by decide +kernel
theorem oq_11 : (fdq 11 0).map (fun q => q.1) = some 4 := by decide +kernel
theorem dq_12 : ds 12 = (3, 10, [48, 55, 62, 69, 76, 83, 90, 97, 104, 111]) := by decide +kernel
theorem fq_13_0 : fdq 13 0 = some (3, 3) := by decide +kernel
theorem fq_13_1 : fdq 13 1 = some (3, 29) := by decide +kernel
theorem fq_13_2 : fdq 13 2 = some (3, 1) := by decide +kernel
theorem oq_13 : (fdq 13 0).map (fun q => q.1) = some 3 := by decide +kernel
theorem dq_14 : ds 14 = (3, 2, [34, 41]) := by decide +kernel
theorem aq_15 : arq 15 = some (2, 2) := by decide +kernel
theorem aq_16 : arq 16 = some (1, 200) := by decide +kernel
theorem fq_17_0 : fdq 17 0 = some (6, 18) := by decide +kernel
theorem fq_17_1 : fdq 17 1 = some (6, 20) := by decide +kernel
theorem fq_17_2 : fdq 17 2 = some (6, 23) := by decide +kernel
theorem fq_17_3 : fdq 17 3 = some (6, 24) := by decide +kernel
theorem fq_17_4 : fdq 17 4 = some (6, 25) := by decide +kernel
theorem fq_17_5 : fdq 17 5 = some (6, 26) := by decide +kernel
theorem fq_17_6 : fdq 17 6 = some (6, 0) := by decide +kernel
theorem fq_17_7 : fdq 17 7 = some (6, 0) := by decide +kernel
theorem fq_17_8 : fdq 17 8 = some (6, 0) := by decide +kernel
theorem fq_17_9 : fdq 17 9 = some (6, 0) := by decide +kernel
theorem fq_17_10 : fdq 17 10 = some (6, 0) := by decide +kernel
theorem fq_17_11 : fdq 17 11 = some (6, 0) := by decide +kernel
theorem fq_17_12 : fdq 17 12 = some (6, 0) := by decide +kernel
theorem fq_17_13 : fdq 17 13 = some (6, 0) := by decide +kernel
theorem fq_17_14 : fdq 17 14 = some (6, 0) := by decide +kernel
theorem oq_17 : (fdq 17 0).map (fun q => q.1) = some 6 := by decide +kernel
theorem fq_18_0 : fdq 18 0 = some (5, 0) := by decide +kernel
theorem fq_18_1 : fdq 18 1 = some (5, 21) := by decide +kernel
theorem fq_18_2 : fdq 18 2 = some (5, 22) := by decide +kernel
theorem oq_18 : (fdq 18 0).map (fun q => q.1) = some 5 := by decide +kernel
theorem aq_19 : arq 19 = some (1, 6) := by decide +kernel
theorem aq_20 : arq 20 = some (1, 6) := by decide +kernel
theorem aq_21 : arq 21 = some (1, 4) := by decide +kernel
theorem aq_22 : arq 22 = some (1, 6) := by decide +kernel
theorem aq_23 : arq 23 = some (1, 6) := by decide +kernel
theorem aq_24 : arq 24 = some (1, 6) := by decide +kernel
theorem aq_25 : arq 25 = some (1, 6) := by decide +kernel
theorem aq_26 : arq 26 = some (1, 6) := by decide +kernel
theorem fq_27_0 : fdq 27 0 = some (1, 0) := by decide +kernel
theorem fq_27_1 : fdq 27 1 = some (1, 0) := by decide +kernel
theorem fq_27_2 : fdq 27 2 = some (1, 0) := by decide +kernel
theorem fq_27_3 : fdq 27 3 = some (1, 30) := by decide +kernel
theorem fq_27_4 : fdq 27 4 = some (1, 31) := by decide +kernel
theorem fq_27_5 : fdq 27 5 = some (1, 32) := by decide +kernel
theorem fq_27_6 : fdq 27 6 = some (1, 33) := by decide +kernel
theorem fq_27_7 : fdq 27 7 = some (1, 34) := by decide +kernel
theorem fq_27_8 : fdq 27 8 = some (1, 35) := by decide +kernel
theorem oq_27 : (fdq 27 0).map (fun q => q.1) = some 1 := by decide +kernel
theorem aq_28 : arq 28 = some (1, 48) := by decide +kernel
theorem aq_29 : arq 29 = some (1, 48) := by decide +kernel
theorem aq_30 : arq 30 = some (1, 48) := by decide +kernel
theorem aq_31 : arq 31 = some (1, 48) := by decide +kernel
theorem aq_32 : arq 32 = some (1, 6) := by decide +kernel
theorem aq_33 : arq 33 = some (1, 36) := by decide +kernel
theorem fq_34_0 : fdq 34 0 = some (1, 0) := by decide +kernel
theorem fq_34_1 : fdq 34 1 = some (1, 0) := by decide +kernel
theorem fq_34_2 : fdq 34 2 = some (1, 0) := by decide +kernel
theorem fq_34_3 : fdq 34 3 = some (1, 37) := by decide +kernel
theorem fq_34_4 : fdq 34 4 = some (1, 38) := by decide +kernel
theorem fq_34_5 : fdq 34 5 = some (1, 39) := by decide +kernel
theorem fq_34_6 : fdq 34 6 = some (1, 40) := by decide +kernel
theorem fq_34_7 : fdq 34 7 = some (1, 41) := by decide +kernel
theorem fq_34_8 : fdq 34 8 = some (1, 42) := by decide +kernel
theorem oq_34 : (fdq 34 0).map (fun q => q.1) = some 1 := by decide +kernel
theorem aq_35 : arq 35 = some (1, 48) := by decide +kernel
theorem aq_36 : arq 36 = some (1, 48) := by decide +kernel
theorem aq_37 : arq 37 = some (1, 48) := by decide +kernel
theorem aq_38 : arq 38 = some (1, 48) := by decide +kernel
theorem aq_39 : arq 39 = some (1, 6) := by decide +kernel
theorem aq_40 : arq 40 = some (1, 36) := by decide +kernel
theorem fq_41_0 : fdq 41 0 = some (1, 0) := by decide +kernel
theorem fq_41_1 : fdq 41 1 = some (1, 0) := by decide +kernel
theorem fq_41_2 : fdq 41 2 = some (1, 0) := by decide +kernel
theorem fq_41_3 : fdq 41 3 = some (1, 44) := by decide +kernel
theorem fq_41_4 : fdq 41 4 = some (1, 45) := by decide +kernel
theorem fq_41_5 : fdq 41 5 = some (1, 46) := by decide +kernel
theorem fq_41_6 : fdq 41 6 = some (1, 47) := by decide +kernel
theorem fq_41_7 : fdq 41 7 = some (1, 48) := by decide +kernel
theorem fq_41_8 : fdq 41 8 = some (1, 49) := by decide +kernel
theorem oq_41 : (fdq 41 0).map (fun q => q.1) = some 1 := by decide +kernel
theorem aq_42 : arq 42 = some (1, 48) := by decide +kernel
theorem aq_43 : arq 43 = some (1, 48) := by decide +kernel
theorem aq_44 : arq 44 = some (1, 48) := by decide +kernel
theorem aq_45 : arq 45 = some (1, 48) := by decide +kernel
theorem aq_46 : arq 46 = some (1, 6) := by decide +kernel
theorem aq_47 : arq 47 = some (1, 36) := by decide +kernel
theorem fq_48_0 : fdq 48 0 = some (1, 0) := by decide +kernel
theorem fq_48_1 : fdq 48 1 = some (1, 0) := by decide +kernel
theorem fq_48_2 : fdq 48 2 = some (1, 0) := by decide +kernel
theorem fq_48_3 : fdq 48 3 = some (1, 51) := by decide +kernel
theorem fq_48_4 : fdq 48 4 = some (1, 52) := by decide +kernel
theorem fq_48_5 : fdq 48 5 = some (1, 53) := by decide +kernel
theorem fq_48_6 : fdq 48 6 = some (1, 54) := by decide +kernel
theorem fq_48_7 : fdq 48 7 = some (1, 55) := by decide +kernel
theorem fq_48_8 : fdq 48 8 = some (1, 56) := by decide +kernel
theorem oq_48 : (fdq 48 0).map (fun q => q.1) = some 1 := by decide +kernel
theorem aq_49 : arq 49 = some (1, 48) := by decide +kernel
theorem aq_50 : arq 50 = some (1, 48) := by decide +kernel
theorem aq_51 : arq 51 = some (1, 48) := by decide +kernel
theorem aq_52 : arq 52 = some (1, 48) := by decide +kernel
theorem aq_53 : arq 53 = some (1, 6) := by decide +kernel
theorem aq_54 : arq 54 = some (1, 36) := by decide +kernel
theorem fq_55_0 : fdq 55 0 = some (1, 0) := by decide +kernel
theorem fq_55_1 : fdq 55 1 = some (1, 0) := by decide +kernel
theorem fq_55_2 : fdq 55 2 = some (1, 0) := by decide +kernel
theorem fq_55_3 : fdq 55 3 = some (1, 58) := by decide +kernel
theorem fq_55_4 : fdq 55 4 = some (1, 59) := by decide +kernel
theorem fq_55_5 : fdq 55 5 = some (1, 60) := by decide +kernel
theorem fq_55_6 : fdq 55 6 = some (1, 61) := by decide +kernel
theorem fq_55_7 : fdq 55 7 = some (1, 62) := by decide +kernel
theorem fq_55_8 : fdq 55 8 = some (1, 63) := by decide +kernel
theorem oq_55 : (fdq 55 0).map (fun q => q.1) = some 1 := by decide +kernel
theorem aq_56 : arq 56 = some (1, 48) := by decide +kernel
theorem aq_57 : arq 57 = some (1, 48) := by decide +kernel
theorem aq_58 : arq 58 = some (1, 48) := by decide +kernel
theorem aq_59 : arq 59 = some (1, 48) := by decide +kernel
theorem aq_60 : arq 60 = some (1, 6) := by decide +kernel
theorem aq_61 : arq 61 = some (1, 36) := by decide +kernel
theorem fq_62_0 : fdq 62 0 = some (1, 0) := by decide +kernel
theorem fq_62_1 : fdq 62 1 = some (1, 0) := by decide +kernel
theorem fq_62_2 : fdq 62 2 = some (1, 0) := by decide +kernel
theorem fq_62_3 : fdq 62 3 = some (1, 65) := by decide +kernel
theorem fq_62_4 : fdq 62 4 = some (1, 66) := by decide +kernel
theorem fq_62_5 : fdq 62 5 = some (1, 67) := by decide +kernel
theorem fq_62_6 : fdq 62 6 = some (1, 68) := by decide +kernel
theorem fq_62_7 : fdq 62 7 = some (1, 69) := by decide +kernel
theorem fq_62_8 : fdq 62 8 = some (1, 70) := by decide +kernel
theorem oq_62 : (fdq 62 0).map (fun q => q.1) = some 1 := by decide +kernel
theorem aq_63 : arq 63 = some (1, 48) := by decide +kernel
theorem aq_64 : arq 64 = some (1, 48) := by decide +kernel
theorem aq_65 : arq 65 = some (1, 48) := by decide +kernel
theorem aq_66 : arq 66 = some (1, 48) := by decide +kernel
theorem aq_67 : arq 67 = some (1, 6) := by decide +kernel
theorem aq_68 : arq 68 = some (1, 36) := by decide +kernel
theorem fq_69_0 : fdq 69 0 = some (1, 0) := by decide +kernel
theorem fq_69_1 : fdq 69 1 = some (1, 0) := by decide +kernel
theorem fq_69_2 : fdq 69 2 = some (1, 0) := by decide +kernel
theorem fq_69_3 : fdq 69 3 = some (1, 72) := by decide +kernel
theorem fq_69_4 : fdq 69 4 = some (1, 73) := by decide +kernel
theorem fq_69_5 : fdq 69 5 = some (1, 74) := by decide +kernel
theorem fq_69_6 : fdq 69 6 = some (1, 75) := by decide +kernel
theorem fq_69_7 : fdq 69 7 = some (1, 76) := by decide +kernel
theorem fq_69_8 : fdq 69 8 = some (1, 77) := by decide +kernel
theorem oq_69 : (fdq 69 0).map (fun q => q.1) = some 1 := by decide +kernel
theorem aq_70 : arq 70 = some (1, 48) := by decide +kernel
theorem aq_71 : arq 71 = some (1, 48) := by decide +kernel
theorem aq_72 : arq 72 = some (1, 48) := by decide +kernel
theorem aq_73 : arq 73 = some (1, 48) := by decide +kernel
theorem aq_74 : arq 74 = some (1, 6) := by decide +kernel
theorem aq_75 : arq 75 = some (1, 36) := by decide +kernel
theorem fq_76_0 : fdq 76 0 = some (1, 0) := by decide +kernel
theorem fq_76_1 : fdq 76 1 = some (1, 0) := by decide +kernel
theorem fq_76_2 : fdq 76 2 = some (1, 0) := by decide +kernel
theorem fq_76_3 : fdq 76 3 = some (1, 79) := by decide +kernel
theorem fq_76_4 : fdq 76 4 = some (1, 80) := by decide +kernel
theorem fq_76_5 : fdq 76 5 = some (1, 81) := by decide +kernel
theorem fq_76_6 : fdq 76 6 = some (1, 82) := by decide +kernel
theorem fq_76_7 : fdq 76 7 = some (1, 83) := by decide +kernel
theorem fq_76_8 : fdq 76 8 = some (1, 84) := by decide +kernel
theorem oq_76 : (fdq 76 0).map (fun q => q.1) = some 1 := by decide +kernel
theorem aq_77 : arq 77 = some (1, 48) := by decide +kernel
theorem aq_78 : arq 78 = some (1, 48) := by decide +kernel
theorem aq_79 : arq 79 = some (1, 48) := by decide +kernel
theorem aq_80 : arq 80 = some (1, 48) := by decide +kernel
theorem aq_81 : arq 81 = some (1, 6) := by decide +kernel
theorem aq_82 : arq 82 = some (1, 36) := by decide +kernel
theorem fq_83_0 : fdq 83 0 = some (1, 0) := by decide +kernel
theorem fq_83_1 : fdq 83 1 = some (1, 0) := by decide +kernel
theorem fq_83_2 : fdq 83 2 = some (1, 0) := by decide +kernel
theorem fq_83_3 : fdq 83 3 = some (1, 86) := by decide +kernel
theorem fq_83_4 : fdq 83 4 = some (1, 87) := by decide +kernel
theorem fq_83_5 : fdq 83 5 = some (1, 88) := by decide +kernel
theorem fq_83_6 : fdq 83 6 = some (1, 89) := by decide +kernel
theorem fq_83_7 : fdq 83 7 = some (1, 90) := by decide +kernel
theorem fq_83_8 : fdq 83 8 = some (1, 91) := by decide +kernel
theorem oq_83 : (fdq 83 0).map (fun q => q.1) = some 1 := by decide +kernel
theorem aq_84 : arq 84 = some (1, 48) := by decide +kernel
theorem aq_85 : arq 85 = some (1, 48) := by decide +kernel
theorem aq_86 : arq 86 = some (1, 48) := by decide +kernel
theorem aq_87 : arq 87 = some (1, 48) := by decide +kernel
theorem aq_88 : arq 88 = some (1, 6) := by decide +kernel
theorem aq_89 : arq 89 = some (1, 36) := by decide +kernel
theorem fq_90_0 : fdq 90 0 = some (1, 0) := by decide +kernel
theorem fq_90_1 : fdq 90 1 = some (1, 0) := by decide +kernel
theorem fq_90_2 : fdq 90 2 = some (1, 0) := by decide +kernel
theorem fq_90_3 : fdq 90 3 = some (1, 93) := by decide +kernel
theorem fq_90_4 : fdq 90 4 = some (1, 94) := by decide +kernel
theorem fq_90_5 : fdq 90 5 = some (1, 95) := by decide +kernel
theorem fq_90_6 : fdq 90 6 = some (1, 96) := by decide +kernel
theorem fq_90_7 : fdq 90 7 = some (1, 97) := by decide +kernel
theorem fq_90_8 : fdq 90 8 = some (1, 98) := by decide +kernel
theorem oq_90 : (fdq 90 0).map (fun q => q.1) = some 1 := by decide +kernel
theorem aq_91 : arq 91 = some (1, 48) := by decide +kernel
theorem aq_92 : arq 92 = some (1, 48) := by decide +kernel
theorem aq_93 : arq 93 = some (1, 48) := by decide +kernel
theorem aq_94 : arq 94 = some (1, 48) := by decide +kernel
theorem aq_95 : arq 95 = some (1, 6) := by decide +kernel
theorem aq_96 : arq 96 = some (1, 36) := by decide +kernel
theorem fq_97_0 : fdq 97 0 = some (1, 0) := by decide +kernel
theorem fq_97_1 : fdq 97 1 = some (1, 0) := by decide +kernel
theorem fq_97_2 : fdq 97 2 = some (1, 0) := by decide +kernel
theorem fq_97_3 : fdq 97 3 = some (1, 100) := by decide +kernel
theorem fq_97_4 : fdq 97 4 = some (1, 101) := by decide +kernel
theorem fq_97_5 : fdq 97 5 = some (1, 102) := by decide +kernel
theorem fq_97_6 : fdq 97 6 = some (1, 103) := by decide +kernel
theorem fq_97_7 : fdq 97 7 = some (1, 104) := by decide +kernel
theorem fq_97_8 : fdq 97 8 = some (1, 105) := by decide +kernel
theorem oq_97 : (fdq 97 0).map (fun q => q.1) = some 1 := by decide +kernel
theorem aq_98 : arq 98 = some (1, 48) := by decide +kernel
theorem aq_99 : arq 99 = some (1, 48) := by decide +kernel
theorem aq_100 : arq 100 = some (1, 48) := by decide +kernel
theorem aq_101 : arq 101 = some (1, 48) := by decide +kernel
theorem aq_102 : arq 102 = some (1, 6) := by decide +kernel
theorem aq_103 : arq 103 = some (1, 36) := by decide +kernel
theorem fq_104_0 : fdq 104 0 = some (1, 0) := by decide +kernel
theorem fq_104_1 : fdq 104 1 = some (1, 0) := by decide +kernel
theorem fq_104_2 : fdq 104 2 = some (1, 0) := by decide +kernel
theorem fq_104_3 : fdq 104 3 = some (1, 107) := by decide +kernel
theorem fq_104_4 : fdq 104 4 = some (1, 108) := by decide +kernel
theorem fq_104_5 : fdq 104 5 = some (1, 109) := by decide +kernel
theorem fq_104_6 : fdq 104 6 = some (1, 110) := by decide +kernel
theorem fq_104_7 : fdq 104 7 = some (1, 111) := by decide +kernel
theorem fq_104_8 : fdq 104 8 = some (1, 112) := by decide +kernel
theorem oq_104 : (fdq 104 0).map (fun q => q.1) = some 1 := by decide +kernel
theorem aq_105 : arq 105 = some (1, 48) := by decide +kernel
theorem aq_106 : arq 106 = some (1, 48) := by decide +kernel
theorem aq_107 : arq 107 = some (1, 48) := by decide +kernel
theorem aq_108 : arq 108 = some (1, 48) := by decide +kernel
theorem aq_109 : arq 109 = some (1, 6) := by decide +kernel
theorem aq_110 : arq 110 = some (1, 36) := by decide +kernel
theorem fq_111_0 : fdq 111 0 = some (1, 0) := by decide +kernel
theorem fq_111_1 : fdq 111 1 = some (1, 0) := by decide +kernel
theorem fq_111_2 : fdq 111 2 = some (1, 0) := by decide +kernel
theorem fq_111_3 : fdq 111 3 = some (1, 114) := by decide +kernel
theorem fq_111_4 : fdq 111 4 = some (1, 115) := by decide +kernel
theorem fq_111_5 : fdq 111 5 = some (1, 116) := by decide +kernel
theorem fq_111_6 : fdq 111 6 = some (1, 117) := by decide +kernel
theorem fq_111_7 : fdq 111 7 = some (1, 118) := by decide +kernel
theorem fq_111_8 : fdq 111 8 = some (1, 119) := by decide +kernel
theorem oq_111 : (fdq 111 0).map (fun q => q.1) = some 1 := by decide +kernel
theorem aq_112 : arq 112 = some (1, 48) := by decide +kernel
theorem aq_113 : arq 113 = some (1, 48) := by decide +kernel
theorem aq_114 : arq 114 = some (1, 48) := by decide +kernel
theorem aq_115 : arq 115 = some (1, 48) := by decide +kernel
theorem aq_116 : arq 116 = some (1, 6) := by decide +kernel
theorem aq_117 : arq 117 = some (1, 36) := by decide +kernel
theorem fq_118_0 : fdq 118 0 = some (8, 0) := by decide +kernel
theorem fq_118_1 : fdq 118 1 = some (8, 1) := by decide +kernel
theorem fq_118_2 : fdq 118 2 = some (8, 121) := by decide +kernel
theorem fq_118_3 : fdq 118 3 = some (8, 0) := by decide +kernel
theorem fq_118_4 : fdq 118 4 = some (8, 0) := by decide +kernel
theorem fq_118_5 : fdq 118 5 = some (8, 0) := by decide +kernel
theorem fq_118_6 : fdq 118 6 = some (8, 0) := by decide +kernel
theorem fq_118_7 : fdq 118 7 = some (8, 0) := by decide +kernel
theorem fq_118_8 : fdq 118 8 = some (8, 0) := by decide +kernel
theorem fq_118_9 : fdq 118 9 = some (8, 122) := by decide +kernel
theorem fq_118_10 : fdq 118 10 = some (8, 123) := by decide +kernel
theorem fq_118_11 : fdq 118 11 = some (8, 124) := by decide +kernel
theorem fq_118_12 : fdq 118 12 = some (8, 125) := by decide +kernel
theorem fq_118_13 : fdq 118 13 = some (8, 0) := by decide +kernel
theorem fq_118_14 : fdq 118 14 = some (8, 0) := by decide +kernel
theorem fq_118_15 : fdq 118 15 = some (8, 0) := by decide +kernel
theorem fq_118_16 : fdq 118 16 = some (8, 0) := by decide +kernel
theorem fq_118_17 : fdq 118 17 = some (8, 126) := by decide +kernel
theorem fq_118_18 : fdq 118 18 = some (8, 127) := by decide +kernel
theorem fq_118_19 : fdq 118 19 = some (8, 128) := by decide +kernel
theorem fq_118_20 : fdq 118 20 = some (8, 129) := by decide +kernel
theorem fq_118_21 : fdq 118 21 = some (8, 130) := by decide +kernel
theorem fq_118_22 : fdq 118 22 = some (8, 0) := by decide +kernel
theorem fq_118_23 : fdq 118 23 = some (8, 131) := by decide +kernel
theorem fq_118_24 : fdq 118 24 = some (8, 132) := by decide +kernel
theorem fq_118_25 : fdq 118 25 = some (8, 0) := by decide +kernel
theorem fq_118_26 : fdq 118 26 = some (8, 133) := by decide +kernel
theorem fq_118_27 : fdq 118 27 = some (8, 134) := by decide +kernel
theorem fq_118_28 : fdq 118 28 = some (8, 135) := by decide +kernel
theorem fq_118_29 : fdq 118 29 = some (8, 136) := by decide +kernel
theorem oq_118 : (fdq 118 0).map (fun q => q.1) = some 8 := by decide +kernel
theorem aq_119 : arq 119 = some (1, 200) := by decide +kernel
theorem aq_120 : arq 120 = some (1, 12) := by decide +kernel
theorem aq_121 : arq 121 = some (1, 12) := by decide +kernel
theorem aq_122 : arq 122 = some (1, 8) := by decide +kernel
theorem aq_123 : arq 123 = some (1, 36) := by decide +kernel
theorem aq_124 : arq 124 = some (1, 48) := by decide +kernel
theorem aq_125 : arq 125 = some (1, 189) := by decide +kernel
theorem aq_126 : arq 126 = some (1, 378) := by decide +kernel
theorem aq_127 : arq 127 = some (2, 2) := by decide +kernel
theorem aq_128 : arq 128 = some (1, 1890) := by decide +kernel
theorem aq_129 : arq 129 = some (1, 6) := by decide +kernel
theorem aq_130 : arq 130 = some (1, 6) := by decide +kernel
theorem aq_131 : arq 131 = some (1, 6) := by decide +kernel
theorem aq_132 : arq 132 = some (1, 6) := by decide +kernel
theorem aq_133 : arq 133 = some (1, 6) := by decide +kernel
theorem aq_134 : arq 134 = some (1, 6) := by decide +kernel

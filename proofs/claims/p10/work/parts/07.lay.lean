theorem yd_X0_init : ti_Vd yX0_init 0 := by unfold ti_Vd; decide +kernel
theorem yp_X0_init : plainName (yX0_init).cls = true := by decide +kernel
theorem yd_X0_prepare : ti_Vd yX0_prepare 1 := by unfold ti_Vd; decide +kernel
theorem yp_X0_prepare : plainName (yX0_prepare).cls = true := by decide +kernel
theorem yd_X0_servedIn : ti_Vd yX0_servedIn 2 := by unfold ti_Vd; decide +kernel
theorem yp_X0_servedIn : plainName (yX0_servedIn).cls = true := by decide +kernel
theorem yd_X0_firstToCome : ti_Vd yX0_firstToCome 4 := by unfold ti_Vd; decide +kernel
theorem yp_X0_firstToCome : plainName (yX0_firstToCome).cls = true := by decide +kernel
theorem yd_X0_bribes : ti_Vd yX0_bribes 4 := by unfold ti_Vd; decide +kernel
theorem yp_X0_bribes : plainName (yX0_bribes).cls = true := by decide +kernel
theorem yd_X0_price : ti_Vd yX0_price 2 := by unfold ti_Vd; decide +kernel
theorem yp_X0_price : plainName (yX0_price).cls = true := by decide +kernel
theorem yd_X0_plotters : ti_Vd yX0_plotters 1 := by unfold ti_Vd; decide +kernel
theorem yp_X0_plotters : plainName (yX0_plotters).cls = true := by decide +kernel
theorem yd_X0_play : ti_Vd yX0_play 4 := by unfold ti_Vd; decide +kernel
theorem yp_X0_play : plainName (yX0_play).cls = true := by decide +kernel
theorem yd_X0_worth : ti_Vd yX0_worth 1 := by unfold ti_Vd; decide +kernel
theorem yp_X0_worth : plainName (yX0_worth).cls = true := by decide +kernel
theorem yd_X0_isRest : ti_Vd yX0_isRest 3 := by unfold ti_Vd; decide +kernel
theorem yp_X0_isRest : plainName (yX0_isRest).cls = true := by decide +kernel
theorem yd_X0_bestPlace : ti_Vd yX0_bestPlace 5 := by unfold ti_Vd; decide +kernel
theorem yp_X0_bestPlace : plainName (yX0_bestPlace).cls = true := by decide +kernel
theorem yd_X0_minutesHeld : ti_Vd yX0_minutesHeld 5 := by unfold ti_Vd; decide +kernel
theorem yp_X0_minutesHeld : plainName (yX0_minutesHeld).cls = true := by decide +kernel
theorem yd_X0_fairestPlace : ti_Vd yX0_fairestPlace 4 := by unfold ti_Vd; decide +kernel
theorem yp_X0_fairestPlace : plainName (yX0_fairestPlace).cls = true := by decide +kernel
theorem yd_X0_holders : ti_Vd yX0_holders 4 := by unfold ti_Vd; decide +kernel
theorem yp_X0_holders : plainName (yX0_holders).cls = true := by decide +kernel
theorem yd_X0_gainers : ti_Vd yX0_gainers 3 := by unfold ti_Vd; decide +kernel
theorem yp_X0_gainers : plainName (yX0_gainers).cls = true := by decide +kernel
theorem yd_X0_emptyMinutes : ti_Vd yX0_emptyMinutes 3 := by unfold ti_Vd; decide +kernel
theorem yp_X0_emptyMinutes : plainName (yX0_emptyMinutes).cls = true := by decide +kernel
theorem yd_X0_timesServed : ti_Vd yX0_timesServed 4 := by unfold ti_Vd; decide +kernel
theorem yp_X0_timesServed : plainName (yX0_timesServed).cls = true := by decide +kernel
theorem yd_X0_servedOtherwise : ti_Vd yX0_servedOtherwise 4 := by unfold ti_Vd; decide +kernel
theorem yp_X0_servedOtherwise : plainName (yX0_servedOtherwise).cls = true := by decide +kernel
theorem yd_X1_init : ti_Vd yX1_init 0 := by unfold ti_Vd; decide +kernel
theorem yp_X1_init : plainName (yX1_init).cls = true := by decide +kernel
theorem yd_X1_add : ti_Vd yX1_add 1 := by unfold ti_Vd; decide +kernel
theorem yp_X1_add : plainName (yX1_add).cls = true := by decide +kernel
theorem yd_X1_value : ti_Vd yX1_value 3 := by unfold ti_Vd; decide +kernel
theorem yp_X1_value : plainName (yX1_value).cls = true := by decide +kernel
theorem yd_X1_work : ti_Vd yX1_work 3 := by unfold ti_Vd; decide +kernel
theorem yp_X1_work : plainName (yX1_work).cls = true := by decide +kernel
theorem yd_X2_init : ti_Vd yX2_init 0 := by unfold ti_Vd; decide +kernel
theorem yp_X2_init : plainName (yX2_init).cls = true := by decide +kernel
theorem yd_X3_init : ti_Vd yX3_init 0 := by unfold ti_Vd; decide +kernel
theorem yp_X3_init : plainName (yX3_init).cls = true := by decide +kernel
theorem yd_X3_start : ti_Vd yX3_start 1 := by unfold ti_Vd; decide +kernel
theorem yp_X3_start : plainName (yX3_start).cls = true := by decide +kernel
theorem yd_X3_copy : ti_Vd yX3_copy 1 := by unfold ti_Vd; decide +kernel
theorem yp_X3_copy : plainName (yX3_copy).cls = true := by decide +kernel
theorem yd_X3_manAt : ti_Vd yX3_manAt 1 := by unfold ti_Vd; decide +kernel
theorem yp_X3_manAt : plainName (yX3_manAt).cls = true := by decide +kernel
theorem yd_X3_placeOf : ti_Vd yX3_placeOf 1 := by unfold ti_Vd; decide +kernel
theorem yp_X3_placeOf : plainName (yX3_placeOf).cls = true := by decide +kernel
theorem yd_X3_waited : ti_Vd yX3_waited 1 := by unfold ti_Vd; decide +kernel
theorem yp_X3_waited : plainName (yX3_waited).cls = true := by decide +kernel
theorem yd_X3_howMany : ti_Vd yX3_howMany 1 := by unfold ti_Vd; decide +kernel
theorem yp_X3_howMany : plainName (yX3_howMany).cls = true := by decide +kernel
theorem yd_X3_allCoin : ti_Vd yX3_allCoin 0 := by unfold ti_Vd; decide +kernel
theorem yp_X3_allCoin : plainName (yX3_allCoin).cls = true := by decide +kernel
theorem yd_X3_allCoughs : ti_Vd yX3_allCoughs 0 := by unfold ti_Vd; decide +kernel
theorem yp_X3_allCoughs : plainName (yX3_allCoughs).cls = true := by decide +kernel
theorem yd_X3_append : ti_Vd yX3_append 1 := by unfold ti_Vd; decide +kernel
theorem yp_X3_append : plainName (yX3_append).cls = true := by decide +kernel
theorem yd_X3_remove : ti_Vd yX3_remove 2 := by unfold ti_Vd; decide +kernel
theorem yp_X3_remove : plainName (yX3_remove).cls = true := by decide +kernel
theorem yd_X3_exchange : ti_Vd yX3_exchange 2 := by unfold ti_Vd; decide +kernel
theorem yp_X3_exchange : plainName (yX3_exchange).cls = true := by decide +kernel
theorem yd_X3_put : ti_Vd yX3_put 4 := by unfold ti_Vd; decide +kernel
theorem yp_X3_put : plainName (yX3_put).cls = true := by decide +kernel
theorem yd_X3_need : ti_Vd yX3_need 0 := by unfold ti_Vd; decide +kernel
theorem yp_X3_need : plainName (yX3_need).cls = true := by decide +kernel
theorem yd_X3_isGuarded : ti_Vd yX3_isGuarded 0 := by unfold ti_Vd; decide +kernel
theorem yp_X3_isGuarded : plainName (yX3_isGuarded).cls = true := by decide +kernel
theorem yd_X3_lastHeard : ti_Vd yX3_lastHeard 0 := by unfold ti_Vd; decide +kernel
theorem yp_X3_lastHeard : plainName (yX3_lastHeard).cls = true := by decide +kernel
theorem yd_X3_is : ti_Vd yX3_is 1 := by unfold ti_Vd; decide +kernel
theorem yp_X3_is : plainName (yX3_is).cls = true := by decide +kernel
theorem yd_X3_passTo : ti_Vd yX3_passTo 1 := by unfold ti_Vd; decide +kernel
theorem yp_X3_passTo : plainName (yX3_passTo).cls = true := by decide +kernel
theorem yd_X3_pass : ti_Vd yX3_pass 0 := by unfold ti_Vd; decide +kernel
theorem yp_X3_pass : plainName (yX3_pass).cls = true := by decide +kernel
theorem yd_X3_welcome : ti_Vd yX3_welcome 0 := by unfold ti_Vd; decide +kernel
theorem yp_X3_welcome : plainName (yX3_welcome).cls = true := by decide +kernel
theorem yd_X3_nextToJoin : ti_Vd yX3_nextToJoin 0 := by unfold ti_Vd; decide +kernel
theorem yp_X3_nextToJoin : plainName (yX3_nextToJoin).cls = true := by decide +kernel
theorem yd_X3_joinsAhead : ti_Vd yX3_joinsAhead 2 := by unfold ti_Vd; decide +kernel
theorem yp_X3_joinsAhead : plainName (yX3_joinsAhead).cls = true := by decide +kernel
theorem yd_X3_hearCoughs : ti_Vd yX3_hearCoughs 0 := by unfold ti_Vd; decide +kernel
theorem yp_X3_hearCoughs : plainName (yX3_hearCoughs).cls = true := by decide +kernel
theorem yd_X3_pour : ti_Vd yX3_pour 0 := by unfold ti_Vd; decide +kernel
theorem yp_X3_pour : plainName (yX3_pour).cls = true := by decide +kernel
theorem yd_X3_levy : ti_Vd yX3_levy 0 := by unfold ti_Vd; decide +kernel
theorem yp_X3_levy : plainName (yX3_levy).cls = true := by decide +kernel
theorem yd_X3_wear : ti_Vd yX3_wear 0 := by unfold ti_Vd; decide +kernel
theorem yp_X3_wear : plainName (yX3_wear).cls = true := by decide +kernel
theorem yd_X3_release : ti_Vd yX3_release 0 := by unfold ti_Vd; decide +kernel
theorem yp_X3_release : plainName (yX3_release).cls = true := by decide +kernel
theorem yd_X3_mutter : ti_Vd yX3_mutter 0 := by unfold ti_Vd; decide +kernel
theorem yp_X3_mutter : plainName (yX3_mutter).cls = true := by decide +kernel
theorem yd_X4_init : ti_Vd yX4_init 0 := by unfold ti_Vd; decide +kernel
theorem yp_X4_init : plainName (yX4_init).cls = true := by decide +kernel
theorem yd_X4_read : ti_Vd yX4_read 2 := by unfold ti_Vd; decide +kernel
theorem yp_X4_read : plainName (yX4_read).cls = true := by decide +kernel
theorem yd_X4_refuse : ti_Vd yX4_refuse 1 := by unfold ti_Vd; decide +kernel
theorem yp_X4_refuse : plainName (yX4_refuse).cls = true := by decide +kernel
theorem yd_X4_take : ti_Vd yX4_take 1 := by unfold ti_Vd; decide +kernel
theorem yp_X4_take : plainName (yX4_take).cls = true := by decide +kernel
theorem yd_X4_number : ti_Vd yX4_number 2 := by unfold ti_Vd; decide +kernel
theorem yp_X4_number : plainName (yX4_number).cls = true := by decide +kernel
theorem yd_X4_once : ti_Vd yX4_once 0 := by unfold ti_Vd; decide +kernel
theorem yp_X4_once : plainName (yX4_once).cls = true := by decide +kernel
theorem yd_X4_readMan : ti_Vd yX4_readMan 0 := by unfold ti_Vd; decide +kernel
theorem yp_X4_readMan : plainName (yX4_readMan).cls = true := by decide +kernel
theorem yd_X4_readGuard : ti_Vd yX4_readGuard 0 := by unfold ti_Vd; decide +kernel
theorem yp_X4_readGuard : plainName (yX4_readGuard).cls = true := by decide +kernel
theorem yd_X4_toldMan : ti_Vd yX4_toldMan 0 := by unfold ti_Vd; decide +kernel
theorem yp_X4_toldMan : plainName (yX4_toldMan).cls = true := by decide +kernel
theorem yd_X4_readPower : ti_Vd yX4_readPower 0 := by unfold ti_Vd; decide +kernel
theorem yp_X4_readPower : plainName (yX4_readPower).cls = true := by decide +kernel
theorem yd_X4_readLaw : ti_Vd yX4_readLaw 0 := by unfold ti_Vd; decide +kernel
theorem yp_X4_readLaw : plainName (yX4_readLaw).cls = true := by decide +kernel
theorem yd_X4_knot : ti_Vd yX4_knot 0 := by unfold ti_Vd; decide +kernel
theorem yp_X4_knot : plainName (yX4_knot).cls = true := by decide +kernel
theorem yd_X4_readEither : ti_Vd yX4_readEither 1 := by unfold ti_Vd; decide +kernel
theorem yp_X4_readEither : plainName (yX4_readEither).cls = true := by decide +kernel
theorem yd_X4_readBoth : ti_Vd yX4_readBoth 1 := by unfold ti_Vd; decide +kernel
theorem yp_X4_readBoth : plainName (yX4_readBoth).cls = true := by decide +kernel
theorem yd_X4_readNegated : ti_Vd yX4_readNegated 1 := by unfold ti_Vd; decide +kernel
theorem yp_X4_readNegated : plainName (yX4_readNegated).cls = true := by decide +kernel
theorem yd_X4_readComparison : ti_Vd yX4_readComparison 1 := by unfold ti_Vd; decide +kernel
theorem yp_X4_readComparison : plainName (yX4_readComparison).cls = true := by decide +kernel
theorem yd_X4_readSum : ti_Vd yX4_readSum 1 := by unfold ti_Vd; decide +kernel
theorem yp_X4_readSum : plainName (yX4_readSum).cls = true := by decide +kernel
theorem yd_X4_readProduct : ti_Vd yX4_readProduct 1 := by unfold ti_Vd; decide +kernel
theorem yp_X4_readProduct : plainName (yX4_readProduct).cls = true := by decide +kernel
theorem yd_X4_readPart : ti_Vd yX4_readPart 1 := by unfold ti_Vd; decide +kernel
theorem yp_X4_readPart : plainName (yX4_readPart).cls = true := by decide +kernel
theorem yd_X5_init : ti_Vd yX5_init 0 := by unfold ti_Vd; decide +kernel
theorem yp_X5_init : plainName (yX5_init).cls = true := by decide +kernel
theorem yd_X5_clear : ti_Vd yX5_clear 0 := by unfold ti_Vd; decide +kernel
theorem yp_X5_clear : plainName (yX5_clear).cls = true := by decide +kernel
theorem yd_X5_remember : ti_Vd yX5_remember 1 := by unfold ti_Vd; decide +kernel
theorem yp_X5_remember : plainName (yX5_remember).cls = true := by decide +kernel
theorem yd_X5_takeBack : ti_Vd yX5_takeBack 1 := by unfold ti_Vd; decide +kernel
theorem yp_X5_takeBack : plainName (yX5_takeBack).cls = true := by decide +kernel
theorem yd_X6_init : ti_Vd yX6_init 0 := by unfold ti_Vd; decide +kernel
theorem yp_X6_init : plainName (yX6_init).cls = true := by decide +kernel
theorem yd_X6_clear : ti_Vd yX6_clear 0 := by unfold ti_Vd; decide +kernel
theorem yp_X6_clear : plainName (yX6_clear).cls = true := by decide +kernel
theorem yd_X6_lay : ti_Vd yX6_lay 3 := by unfold ti_Vd; decide +kernel
theorem yp_X6_lay : plainName (yX6_lay).cls = true := by decide +kernel
theorem yd_X6_layStrike : ti_Vd yX6_layStrike 1 := by unfold ti_Vd; decide +kernel
theorem yp_X6_layStrike : plainName (yX6_layStrike).cls = true := by decide +kernel
theorem yd_X6_knowBy : ti_Vd yX6_knowBy 1 := by unfold ti_Vd; decide +kernel
theorem yp_X6_knowBy : plainName (yX6_knowBy).cls = true := by decide +kernel
theorem yd_X6_knownBy : ti_Vd yX6_knownBy 0 := by unfold ti_Vd; decide +kernel
theorem yp_X6_knownBy : plainName (yX6_knownBy).cls = true := by decide +kernel
theorem yd_X6_search : ti_Vd yX6_search 1 := by unfold ti_Vd; decide +kernel
theorem yp_X6_search : plainName (yX6_search).cls = true := by decide +kernel
theorem yd_X6_markStruck : ti_Vd yX6_markStruck 0 := by unfold ti_Vd; decide +kernel
theorem yp_X6_markStruck : plainName (yX6_markStruck).cls = true := by decide +kernel
theorem yd_X6_tells : ti_Vd yX6_tells 1 := by unfold ti_Vd; decide +kernel
theorem yp_X6_tells : plainName (yX6_tells).cls = true := by decide +kernel
theorem yd_X6_lastMinute : ti_Vd yX6_lastMinute 0 := by unfold ti_Vd; decide +kernel
theorem yp_X6_lastMinute : plainName (yX6_lastMinute).cls = true := by decide +kernel
theorem yd_X6_fitsThrough : ti_Vd yX6_fitsThrough 1 := by unfold ti_Vd; decide +kernel
theorem yp_X6_fitsThrough : plainName (yX6_fitsThrough).cls = true := by decide +kernel
theorem yd_X6_fitsBehindLast : ti_Vd yX6_fitsBehindLast 1 := by unfold ti_Vd; decide +kernel
theorem yp_X6_fitsBehindLast : plainName (yX6_fitsBehindLast).cls = true := by decide +kernel
theorem yd_X6_addWay : ti_Vd yX6_addWay 2 := by unfold ti_Vd; decide +kernel
theorem yp_X6_addWay : plainName (yX6_addWay).cls = true := by decide +kernel
theorem yd_X7_init : ti_Vd yX7_init 0 := by unfold ti_Vd; decide +kernel
theorem yp_X7_init : plainName (yX7_init).cls = true := by decide +kernel
theorem yd_X7_put : ti_Vd yX7_put 1 := by unfold ti_Vd; decide +kernel
theorem yp_X7_put : plainName (yX7_put).cls = true := by decide +kernel
theorem yd_X7_begin : ti_Vd yX7_begin 1 := by unfold ti_Vd; decide +kernel
theorem yp_X7_begin : plainName (yX7_begin).cls = true := by decide +kernel
theorem yd_X7_advance : ti_Vd yX7_advance 0 := by unfold ti_Vd; decide +kernel
theorem yp_X7_advance : plainName (yX7_advance).cls = true := by decide +kernel
theorem yd_X7_peek : ti_Vd yX7_peek 0 := by unfold ti_Vd; decide +kernel
theorem yp_X7_peek : plainName (yX7_peek).cls = true := by decide +kernel
theorem yd_X7_isLetter : ti_Vd yX7_isLetter 1 := by unfold ti_Vd; decide +kernel
theorem yp_X7_isLetter : plainName (yX7_isLetter).cls = true := by decide +kernel
theorem yd_X7_isDigit : ti_Vd yX7_isDigit 1 := by unfold ti_Vd; decide +kernel
theorem yp_X7_isDigit : plainName (yX7_isDigit).cls = true := by decide +kernel
theorem yd_X7_readNumber : ti_Vd yX7_readNumber 0 := by unfold ti_Vd; decide +kernel
theorem yp_X7_readNumber : plainName (yX7_readNumber).cls = true := by decide +kernel
theorem yd_X7_readWord : ti_Vd yX7_readWord 0 := by unfold ti_Vd; decide +kernel
theorem yp_X7_readWord : plainName (yX7_readWord).cls = true := by decide +kernel
theorem yd_X7_wordKind : ti_Vd yX7_wordKind 0 := by unfold ti_Vd; decide +kernel
theorem yp_X7_wordKind : plainName (yX7_wordKind).cls = true := by decide +kernel
theorem yd_X7_signKind : ti_Vd yX7_signKind 1 := by unfold ti_Vd; decide +kernel
theorem yp_X7_signKind : plainName (yX7_signKind).cls = true := by decide +kernel
theorem yd_X7_belongs : ti_Vd yX7_belongs 1 := by unfold ti_Vd; decide +kernel
theorem yp_X7_belongs : plainName (yX7_belongs).cls = true := by decide +kernel
theorem yd_X8_init : ti_Vd yX8_init 0 := by unfold ti_Vd; decide +kernel
theorem yp_X8_init : plainName (yX8_init).cls = true := by decide +kernel
theorem yd_X8_clear : ti_Vd yX8_clear 0 := by unfold ti_Vd; decide +kernel
theorem yp_X8_clear : plainName (yX8_clear).cls = true := by decide +kernel
theorem yd_X8_find : ti_Vd yX8_find 1 := by unfold ti_Vd; decide +kernel
theorem yp_X8_find : plainName (yX8_find).cls = true := by decide +kernel
theorem yd_X9_init : ti_Vd yX9_init 0 := by unfold ti_Vd; decide +kernel
theorem yp_X9_init : plainName (yX9_init).cls = true := by decide +kernel
theorem yd_X9_feed : ti_Vd yX9_feed 5 := by unfold ti_Vd; decide +kernel
theorem yp_X9_feed : plainName (yX9_feed).cls = true := by decide +kernel
theorem yd_X9_text : ti_Vd yX9_text 1 := by unfold ti_Vd; decide +kernel
theorem yp_X9_text : plainName (yX9_text).cls = true := by decide +kernel
theorem yd_X9_fault : ti_Vd yX9_fault 1 := by unfold ti_Vd; decide +kernel
theorem yp_X9_fault : plainName (yX9_fault).cls = true := by decide +kernel
theorem yd_X9_named : ti_Vd yX9_named 1 := by unfold ti_Vd; decide +kernel
theorem yp_X9_named : plainName (yX9_named).cls = true := by decide +kernel
theorem yd_X9_look : ti_Vd yX9_look 2 := by unfold ti_Vd; decide +kernel
theorem yp_X9_look : plainName (yX9_look).cls = true := by decide +kernel
theorem yd_X9_stands : ti_Vd yX9_stands 1 := by unfold ti_Vd; decide +kernel
theorem yp_X9_stands : plainName (yX9_stands).cls = true := by decide +kernel
theorem yd_X9_holder : ti_Vd yX9_holder 1 := by unfold ti_Vd; decide +kernel
theorem yp_X9_holder : plainName (yX9_holder).cls = true := by decide +kernel
theorem yd_X9_law : ti_Vd yX9_law 2 := by unfold ti_Vd; decide +kernel
theorem yp_X9_law : plainName (yX9_law).cls = true := by decide +kernel
theorem yd_X9_go : ti_Vd yX9_go 1 := by unfold ti_Vd; decide +kernel
theorem yp_X9_go : plainName (yX9_go).cls = true := by decide +kernel
theorem yd_X9_recordHolders : ti_Vd yX9_recordHolders 1 := by unfold ti_Vd; decide +kernel
theorem yp_X9_recordHolders : plainName (yX9_recordHolders).cls = true := by decide +kernel
theorem yd_X9_join : ti_Vd yX9_join 1 := by unfold ti_Vd; decide +kernel
theorem yp_X9_join : plainName (yX9_join).cls = true := by decide +kernel
theorem yd_X9_out : ti_Vd yX9_out 1 := by unfold ti_Vd; decide +kernel
theorem yp_X9_out : plainName (yX9_out).cls = true := by decide +kernel
theorem yd_X9_swap : ti_Vd yX9_swap 3 := by unfold ti_Vd; decide +kernel
theorem yp_X9_swap : plainName (yX9_swap).cls = true := by decide +kernel
theorem yd_X9_kneel : ti_Vd yX9_kneel 2 := by unfold ti_Vd; decide +kernel
theorem yp_X9_kneel : plainName (yX9_kneel).cls = true := by decide +kernel
theorem yd_X9_cough : ti_Vd yX9_cough 1 := by unfold ti_Vd; decide +kernel
theorem yp_X9_cough : plainName (yX9_cough).cls = true := by decide +kernel
theorem yd_X9_move : ti_Vd yX9_move 2 := by unfold ti_Vd; decide +kernel
theorem yp_X9_move : plainName (yX9_move).cls = true := by decide +kernel
theorem yd_X9_was : ti_Vd yX9_was 2 := by unfold ti_Vd; decide +kernel
theorem yp_X9_was : plainName (yX9_was).cls = true := by decide +kernel
theorem yd_X9_ruled : ti_Vd yX9_ruled 2 := by unfold ti_Vd; decide +kernel
theorem yp_X9_ruled : plainName (yX9_ruled).cls = true := by decide +kernel
theorem yd_X9_served : ti_Vd yX9_served 1 := by unfold ti_Vd; decide +kernel
theorem yp_X9_served : plainName (yX9_served).cls = true := by decide +kernel
theorem yd_X9_coming : ti_Vd yX9_coming 3 := by unfold ti_Vd; decide +kernel
theorem yp_X9_coming : plainName (yX9_coming).cls = true := by decide +kernel
theorem yd_X9_decree : ti_Vd yX9_decree 3 := by unfold ti_Vd; decide +kernel
theorem yp_X9_decree : plainName (yX9_decree).cls = true := by decide +kernel
theorem yd_X9_coup : ti_Vd yX9_coup 0 := by unfold ti_Vd; decide +kernel
theorem yp_X9_coup : plainName (yX9_coup).cls = true := by decide +kernel
theorem yd_X9_rests : ti_Vd yX9_rests 3 := by unfold ti_Vd; decide +kernel
theorem yp_X9_rests : plainName (yX9_rests).cls = true := by decide +kernel
theorem yd_X9_rest : ti_Vd yX9_rest 4 := by unfold ti_Vd; decide +kernel
theorem yp_X9_rest : plainName (yX9_rest).cls = true := by decide +kernel
theorem yd_X9_best : ti_Vd yX9_best 4 := by unfold ti_Vd; decide +kernel
theorem yp_X9_best : plainName (yX9_best).cls = true := by decide +kernel
theorem yd_X9_fairest : ti_Vd yX9_fairest 3 := by unfold ti_Vd; decide +kernel
theorem yp_X9_fairest : plainName (yX9_fairest).cls = true := by decide +kernel
theorem yd_X9_gain : ti_Vd yX9_gain 2 := by unfold ti_Vd; decide +kernel
theorem yp_X9_gain : plainName (yX9_gain).cls = true := by decide +kernel
theorem yd_X9_stone : ti_Vd yX9_stone 3 := by unfold ti_Vd; decide +kernel
theorem yp_X9_stone : plainName (yX9_stone).cls = true := by decide +kernel
theorem yd_X9_strike : ti_Vd yX9_strike 1 := by unfold ti_Vd; decide +kernel
theorem yp_X9_strike : plainName (yX9_strike).cls = true := by decide +kernel
theorem yd_X9_known : ti_Vd yX9_known 1 := by unfold ti_Vd; decide +kernel
theorem yp_X9_known : plainName (yX9_known).cls = true := by decide +kernel
theorem yd_X9_came : ti_Vd yX9_came 0 := by unfold ti_Vd; decide +kernel
theorem yp_X9_came : plainName (yX9_came).cls = true := by decide +kernel
theorem yd_X9_one : ti_Vd yX9_one 2 := by unfold ti_Vd; decide +kernel
theorem yp_X9_one : plainName (yX9_one).cls = true := by decide +kernel
theorem yd_X9_empty : ti_Vd yX9_empty 2 := by unfold ti_Vd; decide +kernel
theorem yp_X9_empty : plainName (yX9_empty).cls = true := by decide +kernel
theorem yd_X9_chance : ti_Vd yX9_chance 3 := by unfold ti_Vd; decide +kernel
theorem yp_X9_chance : plainName (yX9_chance).cls = true := by decide +kernel
theorem yd_X9_tried : ti_Vd yX9_tried 3 := by unfold ti_Vd; decide +kernel
theorem yp_X9_tried : plainName (yX9_tried).cls = true := by decide +kernel
theorem yd_X9_undo : ti_Vd yX9_undo 0 := by unfold ti_Vd; decide +kernel
theorem yp_X9_undo : plainName (yX9_undo).cls = true := by decide +kernel
theorem yd_X9_keep : ti_Vd yX9_keep 0 := by unfold ti_Vd; decide +kernel
theorem yp_X9_keep : plainName (yX9_keep).cls = true := by decide +kernel
theorem yd_X9_back : ti_Vd yX9_back 0 := by unfold ti_Vd; decide +kernel
theorem yp_X9_back : plainName (yX9_back).cls = true := by decide +kernel
theorem yd_X9_count : ti_Vd yX9_count 1 := by unfold ti_Vd; decide +kernel
theorem yp_X9_count : plainName (yX9_count).cls = true := by decide +kernel
theorem yd_X9_isMan : ti_Vd yX9_isMan 1 := by unfold ti_Vd; decide +kernel
theorem yp_X9_isMan : plainName (yX9_isMan).cls = true := by decide +kernel
theorem yd_X9_isToCome : ti_Vd yX9_isToCome 1 := by unfold ti_Vd; decide +kernel
theorem yp_X9_isToCome : plainName (yX9_isToCome).cls = true := by decide +kernel
theorem yd_X9_isInQueue : ti_Vd yX9_isInQueue 1 := by unfold ti_Vd; decide +kernel
theorem yp_X9_isInQueue : plainName (yX9_isInQueue).cls = true := by decide +kernel
theorem yd_X9_isPower : ti_Vd yX9_isPower 1 := by unfold ti_Vd; decide +kernel
theorem yp_X9_isPower : plainName (yX9_isPower).cls = true := by decide +kernel
theorem yd_X9_isPlace : ti_Vd yX9_isPlace 1 := by unfold ti_Vd; decide +kernel
theorem yp_X9_isPlace : plainName (yX9_isPlace).cls = true := by decide +kernel
theorem yd_X9_isZeroOrOne : ti_Vd yX9_isZeroOrOne 1 := by unfold ti_Vd; decide +kernel
theorem yp_X9_isZeroOrOne : plainName (yX9_isZeroOrOne).cls = true := by decide +kernel
theorem yd_X9_isAhead : ti_Vd yX9_isAhead 2 := by unfold ti_Vd; decide +kernel
theorem yp_X9_isAhead : plainName (yX9_isAhead).cls = true := by decide +kernel
theorem yd_X9_isGame : ti_Vd yX9_isGame 3 := by unfold ti_Vd; decide +kernel
theorem yp_X9_isGame : plainName (yX9_isGame).cls = true := by decide +kernel
theorem yd_X10_init : ti_Vd yX10_init 0 := by unfold ti_Vd; decide +kernel
theorem yp_X10_init : plainName (yX10_init).cls = true := by decide +kernel
theorem yd_X10_feed : ti_Vd yX10_feed 5 := by unfold ti_Vd; decide +kernel
theorem yp_X10_feed : plainName (yX10_feed).cls = true := by decide +kernel
theorem yd_X10_here : ti_Vd yX10_here 0 := by unfold ti_Vd; decide +kernel
theorem yp_X10_here : plainName (yX10_here).cls = true := by decide +kernel
theorem yd_X10_isSmall : ti_Vd yX10_isSmall 1 := by unfold ti_Vd; decide +kernel
theorem yp_X10_isSmall : plainName (yX10_isSmall).cls = true := by decide +kernel
theorem yd_X10_isDigit : ti_Vd yX10_isDigit 1 := by unfold ti_Vd; decide +kernel
theorem yp_X10_isDigit : plainName (yX10_isDigit).cls = true := by decide +kernel
theorem yd_X10_token : ti_Vd yX10_token 0 := by unfold ti_Vd; decide +kernel
theorem yp_X10_token : plainName (yX10_token).cls = true := by decide +kernel
theorem yd_X10_sign : ti_Vd yX10_sign 1 := by unfold ti_Vd; decide +kernel
theorem yp_X10_sign : plainName (yX10_sign).cls = true := by decide +kernel
theorem yd_X10_word : ti_Vd yX10_word 0 := by unfold ti_Vd; decide +kernel
theorem yp_X10_word : plainName (yX10_word).cls = true := by decide +kernel
theorem yd_X10_name : ti_Vd yX10_name 0 := by unfold ti_Vd; decide +kernel
theorem yp_X10_name : plainName (yX10_name).cls = true := by decide +kernel
theorem yd_X10_wrong : ti_Vd yX10_wrong 1 := by unfold ti_Vd; decide +kernel
theorem yp_X10_wrong : plainName (yX10_wrong).cls = true := by decide +kernel
theorem yd_X10_isWord : ti_Vd yX10_isWord 1 := by unfold ti_Vd; decide +kernel
theorem yp_X10_isWord : plainName (yX10_isWord).cls = true := by decide +kernel
theorem yd_X10_isSign : ti_Vd yX10_isSign 1 := by unfold ti_Vd; decide +kernel
theorem yp_X10_isSign : plainName (yX10_isSign).cls = true := by decide +kernel
theorem yd_X10_goOn : ti_Vd yX10_goOn 0 := by unfold ti_Vd; decide +kernel
theorem yp_X10_goOn : plainName (yX10_goOn).cls = true := by decide +kernel
theorem yd_X10_numeral : ti_Vd yX10_numeral 2 := by unfold ti_Vd; decide +kernel
theorem yp_X10_numeral : plainName (yX10_numeral).cls = true := by decide +kernel
theorem yd_X10_found : ti_Vd yX10_found 4 := by unfold ti_Vd; decide +kernel
theorem yp_X10_found : plainName (yX10_found).cls = true := by decide +kernel
theorem yd_X10_fresh : ti_Vd yX10_fresh 3 := by unfold ti_Vd; decide +kernel
theorem yp_X10_fresh : plainName (yX10_fresh).cls = true := by decide +kernel
theorem yd_X10_fresher : ti_Vd yX10_fresher 1 := by unfold ti_Vd; decide +kernel
theorem yp_X10_fresher : plainName (yX10_fresher).cls = true := by decide +kernel
theorem yd_X10_reads : ti_Vd yX10_reads 2 := by unfold ti_Vd; decide +kernel
theorem yp_X10_reads : plainName (yX10_reads).cls = true := by decide +kernel
theorem yd_X10_line : ti_Vd yX10_line 0 := by unfold ti_Vd; decide +kernel
theorem yp_X10_line : plainName (yX10_line).cls = true := by decide +kernel
theorem yd_X10_manLine : ti_Vd yX10_manLine 1 := by unfold ti_Vd; decide +kernel
theorem yp_X10_manLine : plainName (yX10_manLine).cls = true := by decide +kernel
theorem yd_X10_manAtHand : ti_Vd yX10_manAtHand 0 := by unfold ti_Vd; decide +kernel
theorem yp_X10_manAtHand : plainName (yX10_manAtHand).cls = true := by decide +kernel
theorem yd_X10_guardLine : ti_Vd yX10_guardLine 0 := by unfold ti_Vd; decide +kernel
theorem yp_X10_guardLine : plainName (yX10_guardLine).cls = true := by decide +kernel
theorem yd_X10_powerLine : ti_Vd yX10_powerLine 0 := by unfold ti_Vd; decide +kernel
theorem yp_X10_powerLine : plainName (yX10_powerLine).cls = true := by decide +kernel
theorem yd_X10_lawLine : ti_Vd yX10_lawLine 0 := by unfold ti_Vd; decide +kernel
theorem yp_X10_lawLine : plainName (yX10_lawLine).cls = true := by decide +kernel
theorem yd_X10_puts : ti_Vd yX10_puts 2 := by unfold ti_Vd; decide +kernel
theorem yp_X10_puts : plainName (yX10_puts).cls = true := by decide +kernel
theorem yd_X10_knot : ti_Vd yX10_knot 0 := by unfold ti_Vd; decide +kernel
theorem yp_X10_knot : plainName (yX10_knot).cls = true := by decide +kernel
theorem yd_X10_expression : ti_Vd yX10_expression 0 := by unfold ti_Vd; decide +kernel
theorem yp_X10_expression : plainName (yX10_expression).cls = true := by decide +kernel
theorem yd_X10_conjunction : ti_Vd yX10_conjunction 0 := by unfold ti_Vd; decide +kernel
theorem yp_X10_conjunction : plainName (yX10_conjunction).cls = true := by decide +kernel
theorem yd_X10_negation : ti_Vd yX10_negation 0 := by unfold ti_Vd; decide +kernel
theorem yp_X10_negation : plainName (yX10_negation).cls = true := by decide +kernel
theorem yd_X10_sum : ti_Vd yX10_sum 0 := by unfold ti_Vd; decide +kernel
theorem yp_X10_sum : plainName (yX10_sum).cls = true := by decide +kernel
theorem yd_X10_product : ti_Vd yX10_product 0 := by unfold ti_Vd; decide +kernel
theorem yp_X10_product : plainName (yX10_product).cls = true := by decide +kernel
theorem yd_X10_primary : ti_Vd yX10_primary 0 := by unfold ti_Vd; decide +kernel
theorem yp_X10_primary : plainName (yX10_primary).cls = true := by decide +kernel
theorem yd_X10_half : ti_Vd yX10_half 1 := by unfold ti_Vd; decide +kernel
theorem yp_X10_half : plainName (yX10_half).cls = true := by decide +kernel
theorem yd_X10_text : ti_Vd yX10_text 1 := by unfold ti_Vd; decide +kernel
theorem yp_X10_text : plainName (yX10_text).cls = true := by decide +kernel
theorem yd_X10_fault : ti_Vd yX10_fault 1 := by unfold ti_Vd; decide +kernel
theorem yp_X10_fault : plainName (yX10_fault).cls = true := by decide +kernel
theorem yd_X10_named : ti_Vd yX10_named 1 := by unfold ti_Vd; decide +kernel
theorem yp_X10_named : plainName (yX10_named).cls = true := by decide +kernel
theorem yd_X10_is : ti_Vd yX10_is 1 := by unfold ti_Vd; decide +kernel
theorem yp_X10_is : plainName (yX10_is).cls = true := by decide +kernel
theorem yd_X10_works : ti_Vd yX10_works 1 := by unfold ti_Vd; decide +kernel
theorem yp_X10_works : plainName (yX10_works).cls = true := by decide +kernel
theorem yd_X10_goes : ti_Vd yX10_goes 1 := by unfold ti_Vd; decide +kernel
theorem yp_X10_goes : plainName (yX10_goes).cls = true := by decide +kernel
theorem yd_X10_hasLaw : ti_Vd yX10_hasLaw 1 := by unfold ti_Vd; decide +kernel
theorem yp_X10_hasLaw : plainName (yX10_hasLaw).cls = true := by decide +kernel
theorem yd_X10_calls : ti_Vd yX10_calls 4 := by unfold ti_Vd; decide +kernel
theorem yp_X10_calls : plainName (yX10_calls).cls = true := by decide +kernel
theorem yd_X10_within : ti_Vd yX10_within 4 := by unfold ti_Vd; decide +kernel
theorem yp_X10_within : plainName (yX10_within).cls = true := by decide +kernel
theorem yd_X10_starts : ti_Vd yX10_starts 1 := by unfold ti_Vd; decide +kernel
theorem yp_X10_starts : plainName (yX10_starts).cls = true := by decide +kernel
theorem yd_X10_begins : ti_Vd yX10_begins 0 := by unfold ti_Vd; decide +kernel
theorem yp_X10_begins : plainName (yX10_begins).cls = true := by decide +kernel
theorem yd_X10_copies : ti_Vd yX10_copies 2 := by unfold ti_Vd; decide +kernel
theorem yp_X10_copies : plainName (yX10_copies).cls = true := by decide +kernel
theorem yd_X10_copiesLog : ti_Vd yX10_copiesLog 2 := by unfold ti_Vd; decide +kernel
theorem yp_X10_copiesLog : plainName (yX10_copiesLog).cls = true := by decide +kernel
theorem yd_X10_isMan : ti_Vd yX10_isMan 1 := by unfold ti_Vd; decide +kernel
theorem yp_X10_isMan : plainName (yX10_isMan).cls = true := by decide +kernel
theorem yd_X10_isIn : ti_Vd yX10_isIn 1 := by unfold ti_Vd; decide +kernel
theorem yp_X10_isIn : plainName (yX10_isIn).cls = true := by decide +kernel
theorem yd_X10_isToCome : ti_Vd yX10_isToCome 1 := by unfold ti_Vd; decide +kernel
theorem yp_X10_isToCome : plainName (yX10_isToCome).cls = true := by decide +kernel
theorem yd_X10_isPlace : ti_Vd yX10_isPlace 1 := by unfold ti_Vd; decide +kernel
theorem yp_X10_isPlace : plainName (yX10_isPlace).cls = true := by decide +kernel
theorem yd_X10_standsAt : ti_Vd yX10_standsAt 2 := by unfold ti_Vd; decide +kernel
theorem yp_X10_standsAt : plainName (yX10_standsAt).cls = true := by decide +kernel
theorem yd_X10_placeOf : ti_Vd yX10_placeOf 2 := by unfold ti_Vd; decide +kernel
theorem yp_X10_placeOf : plainName (yX10_placeOf).cls = true := by decide +kernel
theorem yd_X10_joins : ti_Vd yX10_joins 3 := by unfold ti_Vd; decide +kernel
theorem yp_X10_joins : plainName (yX10_joins).cls = true := by decide +kernel
theorem yd_X10_leaves : ti_Vd yX10_leaves 4 := by unfold ti_Vd; decide +kernel
theorem yp_X10_leaves : plainName (yX10_leaves).cls = true := by decide +kernel
theorem yd_X10_arrive : ti_Vd yX10_arrive 2 := by unfold ti_Vd; decide +kernel
theorem yp_X10_arrive : plainName (yX10_arrive).cls = true := by decide +kernel
theorem yd_X10_needOf : ti_Vd yX10_needOf 2 := by unfold ti_Vd; decide +kernel
theorem yp_X10_needOf : plainName (yX10_needOf).cls = true := by decide +kernel
theorem yd_X10_isGuarded : ti_Vd yX10_isGuarded 1 := by unfold ti_Vd; decide +kernel
theorem yp_X10_isGuarded : plainName (yX10_isGuarded).cls = true := by decide +kernel
theorem yd_X10_coughing : ti_Vd yX10_coughing 2 := by unfold ti_Vd; decide +kernel
theorem yp_X10_coughing : plainName (yX10_coughing).cls = true := by decide +kernel
theorem yd_X10_pour : ti_Vd yX10_pour 1 := by unfold ti_Vd; decide +kernel
theorem yp_X10_pour : plainName (yX10_pour).cls = true := by decide +kernel
theorem yd_X10_levy : ti_Vd yX10_levy 2 := by unfold ti_Vd; decide +kernel
theorem yp_X10_levy : plainName (yX10_levy).cls = true := by decide +kernel
theorem yd_X10_wear : ti_Vd yX10_wear 2 := by unfold ti_Vd; decide +kernel
theorem yp_X10_wear : plainName (yX10_wear).cls = true := by decide +kernel
theorem yd_X10_passes : ti_Vd yX10_passes 2 := by unfold ti_Vd; decide +kernel
theorem yp_X10_passes : plainName (yX10_passes).cls = true := by decide +kernel
theorem yd_X10_draw : ti_Vd yX10_draw 1 := by unfold ti_Vd; decide +kernel
theorem yp_X10_draw : plainName (yX10_draw).cls = true := by decide +kernel
theorem yd_X10_lays : ti_Vd yX10_lays 0 := by unfold ti_Vd; decide +kernel
theorem yp_X10_lays : plainName (yX10_lays).cls = true := by decide +kernel
theorem yd_X10_runs : ti_Vd yX10_runs 1 := by unfold ti_Vd; decide +kernel
theorem yp_X10_runs : plainName (yX10_runs).cls = true := by decide +kernel
theorem yd_X10_look : ti_Vd yX10_look 2 := by unfold ti_Vd; decide +kernel
theorem yp_X10_look : plainName (yX10_look).cls = true := by decide +kernel
theorem yd_X10_stands : ti_Vd yX10_stands 1 := by unfold ti_Vd; decide +kernel
theorem yp_X10_stands : plainName (yX10_stands).cls = true := by decide +kernel
theorem yd_X10_isPower : ti_Vd yX10_isPower 1 := by unfold ti_Vd; decide +kernel
theorem yp_X10_isPower : plainName (yX10_isPower).cls = true := by decide +kernel
theorem yd_X10_holder : ti_Vd yX10_holder 1 := by unfold ti_Vd; decide +kernel
theorem yp_X10_holder : plainName (yX10_holder).cls = true := by decide +kernel
theorem yd_X10_law : ti_Vd yX10_law 2 := by unfold ti_Vd; decide +kernel
theorem yp_X10_law : plainName (yX10_law).cls = true := by decide +kernel
theorem yd_X10_minutesLeft : ti_Vd yX10_minutesLeft 0 := by unfold ti_Vd; decide +kernel
theorem yp_X10_minutesLeft : plainName (yX10_minutesLeft).cls = true := by decide +kernel
theorem yd_X10_go : ti_Vd yX10_go 1 := by unfold ti_Vd; decide +kernel
theorem yp_X10_go : plainName (yX10_go).cls = true := by decide +kernel
theorem yd_X10_keepNow : ti_Vd yX10_keepNow 0 := by unfold ti_Vd; decide +kernel
theorem yp_X10_keepNow : plainName (yX10_keepNow).cls = true := by decide +kernel
theorem yd_X10_join : ti_Vd yX10_join 1 := by unfold ti_Vd; decide +kernel
theorem yp_X10_join : plainName (yX10_join).cls = true := by decide +kernel
theorem yd_X10_out : ti_Vd yX10_out 1 := by unfold ti_Vd; decide +kernel
theorem yp_X10_out : plainName (yX10_out).cls = true := by decide +kernel
theorem yd_X10_swap : ti_Vd yX10_swap 3 := by unfold ti_Vd; decide +kernel
theorem yp_X10_swap : plainName (yX10_swap).cls = true := by decide +kernel
theorem yd_X10_kneel : ti_Vd yX10_kneel 2 := by unfold ti_Vd; decide +kernel
theorem yp_X10_kneel : plainName (yX10_kneel).cls = true := by decide +kernel
theorem yd_X10_cough : ti_Vd yX10_cough 1 := by unfold ti_Vd; decide +kernel
theorem yp_X10_cough : plainName (yX10_cough).cls = true := by decide +kernel
theorem yd_X10_move : ti_Vd yX10_move 2 := by unfold ti_Vd; decide +kernel
theorem yp_X10_move : plainName (yX10_move).cls = true := by decide +kernel
theorem yd_X10_isGone : ti_Vd yX10_isGone 1 := by unfold ti_Vd; decide +kernel
theorem yp_X10_isGone : plainName (yX10_isGone).cls = true := by decide +kernel
theorem yd_X10_was : ti_Vd yX10_was 2 := by unfold ti_Vd; decide +kernel
theorem yp_X10_was : plainName (yX10_was).cls = true := by decide +kernel
theorem yd_X10_ruled : ti_Vd yX10_ruled 2 := by unfold ti_Vd; decide +kernel
theorem yp_X10_ruled : plainName (yX10_ruled).cls = true := by decide +kernel
theorem yd_X10_served : ti_Vd yX10_served 1 := by unfold ti_Vd; decide +kernel
theorem yp_X10_served : plainName (yX10_served).cls = true := by decide +kernel
theorem yd_X10_coming : ti_Vd yX10_coming 3 := by unfold ti_Vd; decide +kernel
theorem yp_X10_coming : plainName (yX10_coming).cls = true := by decide +kernel
theorem yd_X10_bitsOf : ti_Vd yX10_bitsOf 1 := by unfold ti_Vd; decide +kernel
theorem yp_X10_bitsOf : plainName (yX10_bitsOf).cls = true := by decide +kernel
theorem yd_X10_decree : ti_Vd yX10_decree 3 := by unfold ti_Vd; decide +kernel
theorem yp_X10_decree : plainName (yX10_decree).cls = true := by decide +kernel
theorem yd_X10_coup : ti_Vd yX10_coup 0 := by unfold ti_Vd; decide +kernel
theorem yp_X10_coup : plainName (yX10_coup).cls = true := by decide +kernel
theorem yd_X10_endOf : ti_Vd yX10_endOf 2 := by unfold ti_Vd; decide +kernel
theorem yp_X10_endOf : plainName (yX10_endOf).cls = true := by decide +kernel
theorem yd_X10_layGame : ti_Vd yX10_layGame 3 := by unfold ti_Vd; decide +kernel
theorem yp_X10_layGame : plainName (yX10_layGame).cls = true := by decide +kernel
theorem yd_X10_isRest : ti_Vd yX10_isRest 2 := by unfold ti_Vd; decide +kernel
theorem yp_X10_isRest : plainName (yX10_isRest).cls = true := by decide +kernel
theorem yd_X10_restOf : ti_Vd yX10_restOf 1 := by unfold ti_Vd; decide +kernel
theorem yp_X10_restOf : plainName (yX10_restOf).cls = true := by decide +kernel
theorem yd_X10_isLong : ti_Vd yX10_isLong 1 := by unfold ti_Vd; decide +kernel
theorem yp_X10_isLong : plainName (yX10_isLong).cls = true := by decide +kernel
theorem yd_X10_isGame : ti_Vd yX10_isGame 3 := by unfold ti_Vd; decide +kernel
theorem yp_X10_isGame : plainName (yX10_isGame).cls = true := by decide +kernel
theorem yd_X10_rests : ti_Vd yX10_rests 3 := by unfold ti_Vd; decide +kernel
theorem yp_X10_rests : plainName (yX10_rests).cls = true := by decide +kernel
theorem yd_X10_rest : ti_Vd yX10_rest 4 := by unfold ti_Vd; decide +kernel
theorem yp_X10_rest : plainName (yX10_rest).cls = true := by decide +kernel
theorem yd_X10_best : ti_Vd yX10_best 4 := by unfold ti_Vd; decide +kernel
theorem yp_X10_best : plainName (yX10_best).cls = true := by decide +kernel
theorem yd_X10_fairest : ti_Vd yX10_fairest 3 := by unfold ti_Vd; decide +kernel
theorem yp_X10_fairest : plainName (yX10_fairest).cls = true := by decide +kernel
theorem yd_X10_gain : ti_Vd yX10_gain 2 := by unfold ti_Vd; decide +kernel
theorem yp_X10_gain : plainName (yX10_gain).cls = true := by decide +kernel
theorem yd_X10_stone : ti_Vd yX10_stone 3 := by unfold ti_Vd; decide +kernel
theorem yp_X10_stone : plainName (yX10_stone).cls = true := by decide +kernel
theorem yd_X10_strike : ti_Vd yX10_strike 1 := by unfold ti_Vd; decide +kernel
theorem yp_X10_strike : plainName (yX10_strike).cls = true := by decide +kernel
theorem yd_X10_known : ti_Vd yX10_known 1 := by unfold ti_Vd; decide +kernel
theorem yp_X10_known : plainName (yX10_known).cls = true := by decide +kernel
theorem yd_X10_knownMany : ti_Vd yX10_knownMany 0 := by unfold ti_Vd; decide +kernel
theorem yp_X10_knownMany : plainName (yX10_knownMany).cls = true := by decide +kernel
theorem yd_X10_isWay : ti_Vd yX10_isWay 2 := by unfold ti_Vd; decide +kernel
theorem yp_X10_isWay : plainName (yX10_isWay).cls = true := by decide +kernel
theorem yd_X10_layCame : ti_Vd yX10_layCame 1 := by unfold ti_Vd; decide +kernel
theorem yp_X10_layCame : plainName (yX10_layCame).cls = true := by decide +kernel
theorem yd_X10_came : ti_Vd yX10_came 0 := by unfold ti_Vd; decide +kernel
theorem yp_X10_came : plainName (yX10_came).cls = true := by decide +kernel
theorem yd_X10_one : ti_Vd yX10_one 2 := by unfold ti_Vd; decide +kernel
theorem yp_X10_one : plainName (yX10_one).cls = true := by decide +kernel
theorem yd_X10_empty : ti_Vd yX10_empty 2 := by unfold ti_Vd; decide +kernel
theorem yp_X10_empty : plainName (yX10_empty).cls = true := by decide +kernel
theorem yd_X10_chance : ti_Vd yX10_chance 3 := by unfold ti_Vd; decide +kernel
theorem yp_X10_chance : plainName (yX10_chance).cls = true := by decide +kernel
theorem yd_X10_tried : ti_Vd yX10_tried 3 := by unfold ti_Vd; decide +kernel
theorem yp_X10_tried : plainName (yX10_tried).cls = true := by decide +kernel
theorem yd_X10_howMany : ti_Vd yX10_howMany 2 := by unfold ti_Vd; decide +kernel
theorem yp_X10_howMany : plainName (yX10_howMany).cls = true := by decide +kernel
theorem yd_X10_servedMany : ti_Vd yX10_servedMany 1 := by unfold ti_Vd; decide +kernel
theorem yp_X10_servedMany : plainName (yX10_servedMany).cls = true := by decide +kernel
theorem yd_X10_undo : ti_Vd yX10_undo 0 := by unfold ti_Vd; decide +kernel
theorem yp_X10_undo : plainName (yX10_undo).cls = true := by decide +kernel
theorem yd_X10_keep : ti_Vd yX10_keep 0 := by unfold ti_Vd; decide +kernel
theorem yp_X10_keep : plainName (yX10_keep).cls = true := by decide +kernel
theorem yd_X10_back : ti_Vd yX10_back 0 := by unfold ti_Vd; decide +kernel
theorem yp_X10_back : plainName (yX10_back).cls = true := by decide +kernel
theorem yd_X10_count : ti_Vd yX10_count 1 := by unfold ti_Vd; decide +kernel
theorem yp_X10_count : plainName (yX10_count).cls = true := by decide +kernel
theorem yd_J6_bitCount_0f7a4 : ti_Vd yJ6_bitCount_0f7a4 1 := by unfold ti_Vd; decide +kernel
theorem yp_J6_bitCount_0f7a4 : plainName (yJ6_bitCount_0f7a4).cls = true := by decide +kernel
theorem yd_J9_abs_067f4 : ti_Vd yJ9_abs_067f4 1 := by unfold ti_Vd; decide +kernel
theorem yd_J9_max_7cf53 : ti_Vd yJ9_max_7cf53 2 := by unfold ti_Vd; decide +kernel
theorem yd_J9_max_f86c9 : ti_Vd yJ9_max_f86c9 2 := by unfold ti_Vd; decide +kernel
theorem yd_J9_min_7cf53 : ti_Vd yJ9_min_7cf53 2 := by unfold ti_Vd; decide +kernel
theorem yd_J9_min_f86c9 : ti_Vd yJ9_min_f86c9 2 := by unfold ti_Vd; decide +kernel
theorem yd_J0_length_8abf5 : ti_Vd yJ0_length_8abf5 0 := by unfold ti_Vd; decide +kernel
theorem yp_J0_length_8abf5 : plainName (yJ0_length_8abf5).cls = true := by decide +kernel
theorem yd_J0_charAt_5068e : ti_Vd yJ0_charAt_5068e 1 := by unfold ti_Vd; decide +kernel
theorem yp_J0_charAt_5068e : plainName (yJ0_charAt_5068e).cls = true := by decide +kernel
theorem yd_J0_coder_7d493 : ti_Vd yJ0_coder_7d493 0 := by unfold ti_Vd; decide +kernel
theorem yp_J0_coder_7d493 : plainName (yJ0_coder_7d493).cls = true := by decide +kernel
theorem yd_J0_isLatin1_aae02 : ti_Vd yJ0_isLatin1_aae02 0 := by unfold ti_Vd; decide +kernel
theorem yp_J0_isLatin1_aae02 : plainName (yJ0_isLatin1_aae02).cls = true := by decide +kernel
theorem yd_J0_checkIndex_df160 : ti_Vd yJ0_checkIndex_df160 2 := by unfold ti_Vd; decide +kernel
theorem yp_J0_checkIndex_df160 : plainName (yJ0_checkIndex_df160).cls = true := by decide +kernel
theorem yd_J1_charAt_3b067 : ti_Vd yJ1_charAt_3b067 2 := by unfold ti_Vd; decide +kernel
theorem yp_J1_charAt_3b067 : plainName (yJ1_charAt_3b067).cls = true := by decide +kernel
theorem yd_J2_getChar_3b067 : ti_Vd yJ2_getChar_3b067 2 := by unfold ti_Vd; decide +kernel
theorem yp_J2_getChar_3b067 : plainName (yJ2_getChar_3b067).cls = true := by decide +kernel
theorem yd_J2_length_9d52b : ti_Vd yJ2_length_9d52b 1 := by unfold ti_Vd; decide +kernel
theorem yp_J2_length_9d52b : plainName (yJ2_length_9d52b).cls = true := by decide +kernel
theorem yd_J2_charAt_3b067 : ti_Vd yJ2_charAt_3b067 2 := by unfold ti_Vd; decide +kernel
theorem yp_J2_charAt_3b067 : plainName (yJ2_charAt_3b067).cls = true := by decide +kernel
theorem yd_J2_checkIndex_2214a : ti_Vd yJ2_checkIndex_2214a 2 := by unfold ti_Vd; decide +kernel
theorem yp_J2_checkIndex_2214a : plainName (yJ2_checkIndex_2214a).cls = true := by decide +kernel
theorem yd_J7_fill_53178 : ti_Vd yJ7_fill_53178 2 := by unfold ti_Vd; decide +kernel
theorem yp_J7_fill_53178 : plainName (yJ7_fill_53178).cls = true := by decide +kernel
theorem yd_J3_checkIndex_8e157 : ti_Vd yJ3_checkIndex_8e157 3 := by unfold ti_Vd; decide +kernel
theorem yp_J3_checkIndex_8e157 : plainName (yJ3_checkIndex_8e157).cls = true := by decide +kernel
theorem ob_0 : ti_ob ti_LT 0 9 := by unfold ti_ob; decide +kernel
theorem ob_1 : ti_ob ti_LT 1 4 := by unfold ti_ob; decide +kernel
theorem ob_2 : ti_ob ti_LT 2 7 := by unfold ti_ob; decide +kernel
theorem ob_3 : ti_ob ti_LT 3 8 := by unfold ti_ob; decide +kernel
theorem ob_4 : ti_ob ti_LT 4 8 := by unfold ti_ob; decide +kernel
theorem ob_5 : ti_ob ti_LT 5 2 := by unfold ti_ob; decide +kernel
theorem ob_6 : ti_ob ti_LT 6 2 := by unfold ti_ob; decide +kernel
theorem ob_7 : ti_ob ti_LT 7 2 := by unfold ti_ob; decide +kernel
theorem ob_8 : ti_ob ti_LT 8 2 := by unfold ti_ob; decide +kernel
theorem ob_9 : ti_ob ti_LT 9 2 := by unfold ti_ob; decide +kernel
theorem ob_10 : ti_ob ti_LT 10 2 := by unfold ti_ob; decide +kernel
theorem ob_11 : ti_ob ti_LT 11 2 := by unfold ti_ob; decide +kernel
theorem ob_12 : ti_ob ti_LT 12 2 := by unfold ti_ob; decide +kernel
theorem ob_13 : ti_ob ti_LT 13 2 := by unfold ti_ob; decide +kernel
theorem ob_14 : ti_ob ti_LT 14 2 := by unfold ti_ob; decide +kernel
theorem ob_15 : ti_ob ti_LT 15 2 := by unfold ti_ob; decide +kernel
theorem ob_16 : ti_ob ti_LT 16 2 := by unfold ti_ob; decide +kernel
theorem ob_17 : ti_ob ti_LT 17 2 := by unfold ti_ob; decide +kernel
theorem ob_18 : ti_ob ti_LT 18 2 := by unfold ti_ob; decide +kernel
theorem ob_19 : ti_ob ti_LT 19 2 := by unfold ti_ob; decide +kernel
theorem ob_20 : ti_ob ti_LT 20 2 := by unfold ti_ob; decide +kernel
theorem ob_21 : ti_ob ti_LT 21 1 := by unfold ti_ob; decide +kernel
theorem ob_22 : ti_ob ti_LT 22 1 := by unfold ti_ob; decide +kernel
theorem ob_23 : ti_ob ti_LT 23 1 := by unfold ti_ob; decide +kernel
theorem ob_24 : ti_ob ti_LT 24 1 := by unfold ti_ob; decide +kernel
theorem ob_25 : ti_ob ti_LT 25 1 := by unfold ti_ob; decide +kernel
theorem ob_26 : ti_ob ti_LT 26 1 := by unfold ti_ob; decide +kernel
theorem ob_27 : ti_ob ti_LT 27 3 := by unfold ti_ob; decide +kernel
theorem ob_28 : ti_ob ti_LT 28 5 := by unfold ti_ob; decide +kernel
theorem ob_29 : ti_ob ti_LT 29 3 := by unfold ti_ob; decide +kernel
theorem ob_30 : ti_ob ti_LT 30 3 := by unfold ti_ob; decide +kernel
theorem ob_31 : ti_ob ti_LT 31 3 := by unfold ti_ob; decide +kernel
theorem ob_32 : ti_ob ti_LT 32 3 := by unfold ti_ob; decide +kernel
theorem ob_33 : ti_ob ti_LT 33 3 := by unfold ti_ob; decide +kernel
theorem ob_34 : ti_ob ti_LT 34 3 := by unfold ti_ob; decide +kernel
theorem ob_35 : ti_ob ti_LT 35 3 := by unfold ti_ob; decide +kernel
theorem ob_36 : ti_ob ti_LT 36 3 := by unfold ti_ob; decide +kernel
theorem ob_37 : ti_ob ti_LT 37 3 := by unfold ti_ob; decide +kernel
theorem ob_38 : ti_ob ti_LT 38 3 := by unfold ti_ob; decide +kernel
theorem ob_39 : ti_ob ti_LT 39 3 := by unfold ti_ob; decide +kernel
theorem ob_40 : ti_ob ti_LT 40 3 := by unfold ti_ob; decide +kernel
theorem ob_41 : ti_ob ti_LT 41 3 := by unfold ti_ob; decide +kernel
theorem ob_42 : ti_ob ti_LT 42 3 := by unfold ti_ob; decide +kernel
theorem ob_43 : ti_ob ti_LT 43 3 := by unfold ti_ob; decide +kernel
theorem ob_44 : ti_ob ti_LT 44 3 := by unfold ti_ob; decide +kernel
theorem ob_45 : ti_ob ti_LT 45 3 := by unfold ti_ob; decide +kernel
theorem ob_46 : ti_ob ti_LT 46 3 := by unfold ti_ob; decide +kernel
theorem ob_47 : ti_ob ti_LT 47 3 := by unfold ti_ob; decide +kernel
theorem ob_48 : ti_ob ti_LT 48 3 := by unfold ti_ob; decide +kernel
theorem ob_49 : ti_ob ti_LT 49 3 := by unfold ti_ob; decide +kernel
theorem ob_50 : ti_ob ti_LT 50 6 := by unfold ti_ob; decide +kernel
theorem ob_51 : ti_ob ti_LT 51 3 := by unfold ti_ob; decide +kernel
theorem ob_52 : ti_ob ti_LT 52 3 := by unfold ti_ob; decide +kernel
theorem ob_53 : ti_ob ti_LT 53 0 := by unfold ti_ob; decide +kernel
theorem ob_54 : ti_ob ti_LT 54 3 := by unfold ti_ob; decide +kernel
theorem ob_55 : ti_ob ti_LT 55 3 := by unfold ti_ob; decide +kernel
theorem ob_60 : ti_ob ti_LM 60 10 := by unfold ti_ob; decide +kernel
theorem ob_ring {j : Nat} (h : j < 20) : ti_ob ti_LT (29 + j) 3 := by
  match j, h with
  | 0, _ => exact ob_29
  | 1, _ => exact ob_30
  | 2, _ => exact ob_31
  | 3, _ => exact ob_32
  | 4, _ => exact ob_33
  | 5, _ => exact ob_34
  | 6, _ => exact ob_35
  | 7, _ => exact ob_36
  | 8, _ => exact ob_37
  | 9, _ => exact ob_38
  | 10, _ => exact ob_39
  | 11, _ => exact ob_40
  | 12, _ => exact ob_41
  | 13, _ => exact ob_42
  | 14, _ => exact ob_43
  | 15, _ => exact ob_44
  | 16, _ => exact ob_45
  | 17, _ => exact ob_46
  | 18, _ => exact ob_47
  | 19, _ => exact ob_48
  | j + 20, h => omega
theorem fn_0 (A : Nat → Nat → Nat) (o : Nat) : ∀ I T, (ti_fs A 0 o I T).length = 6 := fun _ _ => rfl
theorem fs_0_5 {A : Nat → Nat → Nat} {o : Nat} {M : ti_M} {v : Int32} : (ti_fs A 0 o (tI M o) (tT M o)).set 5 (.int v) = ti_fs A 0 o (tI (uI M o 5 v) o) (tT (uI M o 5 v) o) := by
  have e : v = tI (uI M o 5 v) o 5 := (tI_u M o 5 v).symm
  conv => lhs; rw [e]
  rfl
theorem fn_1 (A : Nat → Nat → Nat) (o : Nat) : ∀ I T, (ti_fs A 1 o I T).length = 4 := fun _ _ => rfl
theorem fs_1_3 {A : Nat → Nat → Nat} {o : Nat} {M : ti_M} {v : Int32} : (ti_fs A 1 o (tI M o) (tT M o)).set 3 (.int v) = ti_fs A 1 o (tI (uI M o 3 v) o) (tT (uI M o 3 v) o) := by
  have e : v = tI (uI M o 3 v) o 3 := (tI_u M o 3 v).symm
  conv => lhs; rw [e]
  rfl
theorem fn_2 (A : Nat → Nat → Nat) (o : Nat) : ∀ I T, (ti_fs A 2 o I T).length = 10 := fun _ _ => rfl
theorem fs_2_0 {A : Nat → Nat → Nat} {o : Nat} {M : ti_M} {v : Int32} : (ti_fs A 2 o (tI M o) (tT M o)).set 0 (.int v) = ti_fs A 2 o (tI (uI M o 0 v) o) (tT (uI M o 0 v) o) := by
  have e : v = tI (uI M o 0 v) o 0 := (tI_u M o 0 v).symm
  conv => lhs; rw [e]
  rfl
theorem fs_2_1 {A : Nat → Nat → Nat} {o : Nat} {M : ti_M} {v : Int32} : (ti_fs A 2 o (tI M o) (tT M o)).set 1 (.int v) = ti_fs A 2 o (tI (uI M o 1 v) o) (tT (uI M o 1 v) o) := by
  have e : v = tI (uI M o 1 v) o 1 := (tI_u M o 1 v).symm
  conv => lhs; rw [e]
  rfl
theorem fs_2_2 {A : Nat → Nat → Nat} {o : Nat} {M : ti_M} {v : Int32} : (ti_fs A 2 o (tI M o) (tT M o)).set 2 (.int v) = ti_fs A 2 o (tI (uI M o 2 v) o) (tT (uI M o 2 v) o) := by
  have e : v = tI (uI M o 2 v) o 2 := (tI_u M o 2 v).symm
  conv => lhs; rw [e]
  rfl
theorem fs_2_3 {A : Nat → Nat → Nat} {o : Nat} {M : ti_M} {v : Int32} : (ti_fs A 2 o (tI M o) (tT M o)).set 3 (.int v) = ti_fs A 2 o (tI (uI M o 3 v) o) (tT (uI M o 3 v) o) := by
  have e : v = tI (uI M o 3 v) o 3 := (tI_u M o 3 v).symm
  conv => lhs; rw [e]
  rfl
theorem fs_2_4 {A : Nat → Nat → Nat} {o : Nat} {M : ti_M} {v : Int32} : (ti_fs A 2 o (tI M o) (tT M o)).set 4 (.int v) = ti_fs A 2 o (tI (uI M o 4 v) o) (tT (uI M o 4 v) o) := by
  have e : v = tI (uI M o 4 v) o 4 := (tI_u M o 4 v).symm
  conv => lhs; rw [e]
  rfl
theorem fs_2_5 {A : Nat → Nat → Nat} {o : Nat} {M : ti_M} {v : Int32} : (ti_fs A 2 o (tI M o) (tT M o)).set 5 (.int v) = ti_fs A 2 o (tI (uI M o 5 v) o) (tT (uI M o 5 v) o) := by
  have e : v = tI (uI M o 5 v) o 5 := (tI_u M o 5 v).symm
  conv => lhs; rw [e]
  rfl
theorem fs_2_6 {A : Nat → Nat → Nat} {o : Nat} {M : ti_M} {v : Int32} : (ti_fs A 2 o (tI M o) (tT M o)).set 6 (.int v) = ti_fs A 2 o (tI (uI M o 6 v) o) (tT (uI M o 6 v) o) := by
  have e : v = tI (uI M o 6 v) o 6 := (tI_u M o 6 v).symm
  conv => lhs; rw [e]
  rfl
theorem fs_2_7 {A : Nat → Nat → Nat} {o : Nat} {M : ti_M} {v : Int32} : (ti_fs A 2 o (tI M o) (tT M o)).set 7 (.int v) = ti_fs A 2 o (tI (uI M o 7 v) o) (tT (uI M o 7 v) o) := by
  have e : v = tI (uI M o 7 v) o 7 := (tI_u M o 7 v).symm
  conv => lhs; rw [e]
  rfl
theorem fs_2_8 {A : Nat → Nat → Nat} {o : Nat} {M : ti_M} {v : Int32} : (ti_fs A 2 o (tI M o) (tT M o)).set 8 (.int v) = ti_fs A 2 o (tI (uI M o 8 v) o) (tT (uI M o 8 v) o) := by
  have e : v = tI (uI M o 8 v) o 8 := (tI_u M o 8 v).symm
  conv => lhs; rw [e]
  rfl
theorem fs_2_9 {A : Nat → Nat → Nat} {o : Nat} {M : ti_M} {v : Int32} : (ti_fs A 2 o (tI M o) (tT M o)).set 9 (.int v) = ti_fs A 2 o (tI (uI M o 9 v) o) (tT (uI M o 9 v) o) := by
  have e : v = tI (uI M o 9 v) o 9 := (tI_u M o 9 v).symm
  conv => lhs; rw [e]
  rfl
theorem fn_3 (A : Nat → Nat → Nat) (o : Nat) : ∀ I T, (ti_fs A 3 o I T).length = 17 := fun _ _ => rfl
theorem fs_3_0 {A : Nat → Nat → Nat} {o : Nat} {M : ti_M} {t : Nat} : (ti_fs A 3 o (tI M o) (tT M o)).set 0 (.ref (A t 0)) = ti_fs A 3 o (tI (uT M o 0 (some t)) o) (tT (uT M o 0 (some t)) o) := by
  have e : Value.ref (A t 0) = va_rf ((tT (uT M o 0 (some t)) o 0).map (fun t => A t 0)) := by rw [tT_u]; rfl
  rw [e]
  rfl
theorem fs_3_1 {A : Nat → Nat → Nat} {o : Nat} {M : ti_M} {v : Int32} : (ti_fs A 3 o (tI M o) (tT M o)).set 1 (.int v) = ti_fs A 3 o (tI (uI M o 1 v) o) (tT (uI M o 1 v) o) := by
  have e : v = tI (uI M o 1 v) o 1 := (tI_u M o 1 v).symm
  conv => lhs; rw [e]
  rfl
theorem fs_3_2 {A : Nat → Nat → Nat} {o : Nat} {M : ti_M} {v : Int32} : (ti_fs A 3 o (tI M o) (tT M o)).set 2 (.int v) = ti_fs A 3 o (tI (uI M o 2 v) o) (tT (uI M o 2 v) o) := by
  have e : v = tI (uI M o 2 v) o 2 := (tI_u M o 2 v).symm
  conv => lhs; rw [e]
  rfl
theorem fs_3_3 {A : Nat → Nat → Nat} {o : Nat} {M : ti_M} {v : Int32} : (ti_fs A 3 o (tI M o) (tT M o)).set 3 (.int v) = ti_fs A 3 o (tI (uI M o 3 v) o) (tT (uI M o 3 v) o) := by
  have e : v = tI (uI M o 3 v) o 3 := (tI_u M o 3 v).symm
  conv => lhs; rw [e]
  rfl
theorem fs_3_4 {A : Nat → Nat → Nat} {o : Nat} {M : ti_M} {v : Int32} : (ti_fs A 3 o (tI M o) (tT M o)).set 4 (.int v) = ti_fs A 3 o (tI (uI M o 4 v) o) (tT (uI M o 4 v) o) := by
  have e : v = tI (uI M o 4 v) o 4 := (tI_u M o 4 v).symm
  conv => lhs; rw [e]
  rfl
theorem fs_3_5 {A : Nat → Nat → Nat} {o : Nat} {M : ti_M} {v : Int32} : (ti_fs A 3 o (tI M o) (tT M o)).set 5 (.int v) = ti_fs A 3 o (tI (uI M o 5 v) o) (tT (uI M o 5 v) o) := by
  have e : v = tI (uI M o 5 v) o 5 := (tI_u M o 5 v).symm
  conv => lhs; rw [e]
  rfl
theorem fn_4 (A : Nat → Nat → Nat) (o : Nat) : ∀ I T, (ti_fs A 4 o I T).length = 6 := fun _ _ => rfl
theorem fs_4_1 {A : Nat → Nat → Nat} {o : Nat} {M : ti_M} {t : Nat} : (ti_fs A 4 o (tI M o) (tT M o)).set 1 (.ref (A t 0)) = ti_fs A 4 o (tI (uT M o 1 (some t)) o) (tT (uT M o 1 (some t)) o) := by
  have e : Value.ref (A t 0) = va_rf ((tT (uT M o 1 (some t)) o 1).map (fun t => A t 0)) := by rw [tT_u]; rfl
  rw [e]
  rfl
theorem fs_4_2 {A : Nat → Nat → Nat} {o : Nat} {M : ti_M} {t : Nat} : (ti_fs A 4 o (tI M o) (tT M o)).set 2 (.ref (A t 0)) = ti_fs A 4 o (tI (uT M o 2 (some t)) o) (tT (uT M o 2 (some t)) o) := by
  have e : Value.ref (A t 0) = va_rf ((tT (uT M o 2 (some t)) o 2).map (fun t => A t 0)) := by rw [tT_u]; rfl
  rw [e]
  rfl
theorem fs_4_3 {A : Nat → Nat → Nat} {o : Nat} {M : ti_M} {v : Int32} : (ti_fs A 4 o (tI M o) (tT M o)).set 3 (.int v) = ti_fs A 4 o (tI (uI M o 3 v) o) (tT (uI M o 3 v) o) := by
  have e : v = tI (uI M o 3 v) o 3 := (tI_u M o 3 v).symm
  conv => lhs; rw [e]
  rfl
theorem fs_4_4 {A : Nat → Nat → Nat} {o : Nat} {M : ti_M} {v : Int32} : (ti_fs A 4 o (tI M o) (tT M o)).set 4 (.int v) = ti_fs A 4 o (tI (uI M o 4 v) o) (tT (uI M o 4 v) o) := by
  have e : v = tI (uI M o 4 v) o 4 := (tI_u M o 4 v).symm
  conv => lhs; rw [e]
  rfl
theorem fs_4_5 {A : Nat → Nat → Nat} {o : Nat} {M : ti_M} {v : Int32} : (ti_fs A 4 o (tI M o) (tT M o)).set 5 (.int v) = ti_fs A 4 o (tI (uI M o 5 v) o) (tT (uI M o 5 v) o) := by
  have e : v = tI (uI M o 5 v) o 5 := (tI_u M o 5 v).symm
  conv => lhs; rw [e]
  rfl
theorem fn_5 (A : Nat → Nat → Nat) (o : Nat) : ∀ I T, (ti_fs A 5 o I T).length = 3 := fun _ _ => rfl
theorem fs_5_1 {A : Nat → Nat → Nat} {o : Nat} {M : ti_M} {v : Int32} : (ti_fs A 5 o (tI M o) (tT M o)).set 1 (.int v) = ti_fs A 5 o (tI (uI M o 1 v) o) (tT (uI M o 1 v) o) := by
  have e : v = tI (uI M o 1 v) o 1 := (tI_u M o 1 v).symm
  conv => lhs; rw [e]
  rfl
theorem fs_5_2 {A : Nat → Nat → Nat} {o : Nat} {M : ti_M} {v : Int32} : (ti_fs A 5 o (tI M o) (tT M o)).set 2 (.int v) = ti_fs A 5 o (tI (uI M o 2 v) o) (tT (uI M o 2 v) o) := by
  have e : v = tI (uI M o 2 v) o 2 := (tI_u M o 2 v).symm
  conv => lhs; rw [e]
  rfl
theorem fn_6 (A : Nat → Nat → Nat) (o : Nat) : ∀ I T, (ti_fs A 6 o I T).length = 13 := fun _ _ => rfl
theorem fs_6_4 {A : Nat → Nat → Nat} {o : Nat} {M : ti_M} {v : Int32} : (ti_fs A 6 o (tI M o) (tT M o)).set 4 (.int v) = ti_fs A 6 o (tI (uI M o 4 v) o) (tT (uI M o 4 v) o) := by
  have e : v = tI (uI M o 4 v) o 4 := (tI_u M o 4 v).symm
  conv => lhs; rw [e]
  rfl
theorem fs_6_5 {A : Nat → Nat → Nat} {o : Nat} {M : ti_M} {v : Int32} : (ti_fs A 6 o (tI M o) (tT M o)).set 5 (.int v) = ti_fs A 6 o (tI (uI M o 5 v) o) (tT (uI M o 5 v) o) := by
  have e : v = tI (uI M o 5 v) o 5 := (tI_u M o 5 v).symm
  conv => lhs; rw [e]
  rfl
theorem fs_6_6 {A : Nat → Nat → Nat} {o : Nat} {M : ti_M} {v : Int32} : (ti_fs A 6 o (tI M o) (tT M o)).set 6 (.int v) = ti_fs A 6 o (tI (uI M o 6 v) o) (tT (uI M o 6 v) o) := by
  have e : v = tI (uI M o 6 v) o 6 := (tI_u M o 6 v).symm
  conv => lhs; rw [e]
  rfl
theorem fs_6_7 {A : Nat → Nat → Nat} {o : Nat} {M : ti_M} {v : Int32} : (ti_fs A 6 o (tI M o) (tT M o)).set 7 (.int v) = ti_fs A 6 o (tI (uI M o 7 v) o) (tT (uI M o 7 v) o) := by
  have e : v = tI (uI M o 7 v) o 7 := (tI_u M o 7 v).symm
  conv => lhs; rw [e]
  rfl
theorem fs_6_10 {A : Nat → Nat → Nat} {o : Nat} {M : ti_M} {v : Int32} : (ti_fs A 6 o (tI M o) (tT M o)).set 10 (.int v) = ti_fs A 6 o (tI (uI M o 10 v) o) (tT (uI M o 10 v) o) := by
  have e : v = tI (uI M o 10 v) o 10 := (tI_u M o 10 v).symm
  conv => lhs; rw [e]
  rfl
theorem fn_7 (A : Nat → Nat → Nat) (o : Nat) : ∀ I T, (ti_fs A 7 o I T).length = 7 := fun _ _ => rfl
theorem fs_7_1 {A : Nat → Nat → Nat} {o : Nat} {M : ti_M} {v : Int32} : (ti_fs A 7 o (tI M o) (tT M o)).set 1 (.int v) = ti_fs A 7 o (tI (uI M o 1 v) o) (tT (uI M o 1 v) o) := by
  have e : v = tI (uI M o 1 v) o 1 := (tI_u M o 1 v).symm
  conv => lhs; rw [e]
  rfl
theorem fs_7_2 {A : Nat → Nat → Nat} {o : Nat} {M : ti_M} {v : Int32} : (ti_fs A 7 o (tI M o) (tT M o)).set 2 (.int v) = ti_fs A 7 o (tI (uI M o 2 v) o) (tT (uI M o 2 v) o) := by
  have e : v = tI (uI M o 2 v) o 2 := (tI_u M o 2 v).symm
  conv => lhs; rw [e]
  rfl
theorem fs_7_3 {A : Nat → Nat → Nat} {o : Nat} {M : ti_M} {v : Int32} : (ti_fs A 7 o (tI M o) (tT M o)).set 3 (.int v) = ti_fs A 7 o (tI (uI M o 3 v) o) (tT (uI M o 3 v) o) := by
  have e : v = tI (uI M o 3 v) o 3 := (tI_u M o 3 v).symm
  conv => lhs; rw [e]
  rfl
theorem fs_7_4 {A : Nat → Nat → Nat} {o : Nat} {M : ti_M} {v : Int32} : (ti_fs A 7 o (tI M o) (tT M o)).set 4 (.int v) = ti_fs A 7 o (tI (uI M o 4 v) o) (tT (uI M o 4 v) o) := by
  have e : v = tI (uI M o 4 v) o 4 := (tI_u M o 4 v).symm
  conv => lhs; rw [e]
  rfl
theorem fs_7_5 {A : Nat → Nat → Nat} {o : Nat} {M : ti_M} {v : Int32} : (ti_fs A 7 o (tI M o) (tT M o)).set 5 (.int v) = ti_fs A 7 o (tI (uI M o 5 v) o) (tT (uI M o 5 v) o) := by
  have e : v = tI (uI M o 5 v) o 5 := (tI_u M o 5 v).symm
  conv => lhs; rw [e]
  rfl
theorem fs_7_6 {A : Nat → Nat → Nat} {o : Nat} {M : ti_M} {v : Int32} : (ti_fs A 7 o (tI M o) (tT M o)).set 6 (.int v) = ti_fs A 7 o (tI (uI M o 6 v) o) (tT (uI M o 6 v) o) := by
  have e : v = tI (uI M o 6 v) o 6 := (tI_u M o 6 v).symm
  conv => lhs; rw [e]
  rfl
theorem fn_8 (A : Nat → Nat → Nat) (o : Nat) : ∀ I T, (ti_fs A 8 o I T).length = 12 := fun _ _ => rfl
theorem fs_8_3 {A : Nat → Nat → Nat} {o : Nat} {M : ti_M} {v : Int32} : (ti_fs A 8 o (tI M o) (tT M o)).set 3 (.int v) = ti_fs A 8 o (tI (uI M o 3 v) o) (tT (uI M o 3 v) o) := by
  have e : v = tI (uI M o 3 v) o 3 := (tI_u M o 3 v).symm
  conv => lhs; rw [e]
  rfl
theorem fs_8_4 {A : Nat → Nat → Nat} {o : Nat} {M : ti_M} {v : Int32} : (ti_fs A 8 o (tI M o) (tT M o)).set 4 (.int v) = ti_fs A 8 o (tI (uI M o 4 v) o) (tT (uI M o 4 v) o) := by
  have e : v = tI (uI M o 4 v) o 4 := (tI_u M o 4 v).symm
  conv => lhs; rw [e]
  rfl
theorem fs_8_5 {A : Nat → Nat → Nat} {o : Nat} {M : ti_M} {v : Int32} : (ti_fs A 8 o (tI M o) (tT M o)).set 5 (.int v) = ti_fs A 8 o (tI (uI M o 5 v) o) (tT (uI M o 5 v) o) := by
  have e : v = tI (uI M o 5 v) o 5 := (tI_u M o 5 v).symm
  conv => lhs; rw [e]
  rfl
theorem fs_8_6 {A : Nat → Nat → Nat} {o : Nat} {M : ti_M} {v : Int32} : (ti_fs A 8 o (tI M o) (tT M o)).set 6 (.int v) = ti_fs A 8 o (tI (uI M o 6 v) o) (tT (uI M o 6 v) o) := by
  have e : v = tI (uI M o 6 v) o 6 := (tI_u M o 6 v).symm
  conv => lhs; rw [e]
  rfl
theorem fs_8_7 {A : Nat → Nat → Nat} {o : Nat} {M : ti_M} {v : Int32} : (ti_fs A 8 o (tI M o) (tT M o)).set 7 (.int v) = ti_fs A 8 o (tI (uI M o 7 v) o) (tT (uI M o 7 v) o) := by
  have e : v = tI (uI M o 7 v) o 7 := (tI_u M o 7 v).symm
  conv => lhs; rw [e]
  rfl
theorem fs_8_8 {A : Nat → Nat → Nat} {o : Nat} {M : ti_M} {v : Int32} : (ti_fs A 8 o (tI M o) (tT M o)).set 8 (.int v) = ti_fs A 8 o (tI (uI M o 8 v) o) (tT (uI M o 8 v) o) := by
  have e : v = tI (uI M o 8 v) o 8 := (tI_u M o 8 v).symm
  conv => lhs; rw [e]
  rfl
theorem fs_8_9 {A : Nat → Nat → Nat} {o : Nat} {M : ti_M} {v : Int32} : (ti_fs A 8 o (tI M o) (tT M o)).set 9 (.int v) = ti_fs A 8 o (tI (uI M o 9 v) o) (tT (uI M o 9 v) o) := by
  have e : v = tI (uI M o 9 v) o 9 := (tI_u M o 9 v).symm
  conv => lhs; rw [e]
  rfl
theorem fs_8_10 {A : Nat → Nat → Nat} {o : Nat} {M : ti_M} {v : Int32} : (ti_fs A 8 o (tI M o) (tT M o)).set 10 (.int v) = ti_fs A 8 o (tI (uI M o 10 v) o) (tT (uI M o 10 v) o) := by
  have e : v = tI (uI M o 10 v) o 10 := (tI_u M o 10 v).symm
  conv => lhs; rw [e]
  rfl
theorem fs_8_11 {A : Nat → Nat → Nat} {o : Nat} {M : ti_M} {v : Int32} : (ti_fs A 8 o (tI M o) (tT M o)).set 11 (.int v) = ti_fs A 8 o (tI (uI M o 11 v) o) (tT (uI M o 11 v) o) := by
  have e : v = tI (uI M o 11 v) o 11 := (tI_u M o 11 v).symm
  conv => lhs; rw [e]
  rfl
theorem fn_9 (A : Nat → Nat → Nat) (o : Nat) : ∀ I T, (ti_fs A 9 o I T).length = 10 := fun _ _ => rfl
theorem fs_9_1 {A : Nat → Nat → Nat} {o : Nat} {M : ti_M} {t : Nat} : (ti_fs A 9 o (tI M o) (tT M o)).set 1 (.ref (A t 0)) = ti_fs A 9 o (tI (uT M o 1 (some t)) o) (tT (uT M o 1 (some t)) o) := by
  have e : Value.ref (A t 0) = va_rf ((tT (uT M o 1 (some t)) o 1).map (fun t => A t 0)) := by rw [tT_u]; rfl
  rw [e]
  rfl
theorem fs_9_2 {A : Nat → Nat → Nat} {o : Nat} {M : ti_M} {t : Nat} : (ti_fs A 9 o (tI M o) (tT M o)).set 2 (.ref (A t 0)) = ti_fs A 9 o (tI (uT M o 2 (some t)) o) (tT (uT M o 2 (some t)) o) := by
  have e : Value.ref (A t 0) = va_rf ((tT (uT M o 2 (some t)) o 2).map (fun t => A t 0)) := by rw [tT_u]; rfl
  rw [e]
  rfl
theorem fs_9_7 {A : Nat → Nat → Nat} {o : Nat} {M : ti_M} {v : Int32} : (ti_fs A 9 o (tI M o) (tT M o)).set 7 (.int v) = ti_fs A 9 o (tI (uI M o 7 v) o) (tT (uI M o 7 v) o) := by
  have e : v = tI (uI M o 7 v) o 7 := (tI_u M o 7 v).symm
  conv => lhs; rw [e]
  rfl
theorem fn_10 (A : Nat → Nat → Nat) (o : Nat) : ∀ I T, (ti_fs A 10 o I T).length = 67 := fun _ _ => rfl
theorem fs_10_0 {A : Nat → Nat → Nat} {o : Nat} {M : ti_M} {v : Int32} : (ti_fs A 10 o (tI M o) (tT M o)).set 0 (.int v) = ti_fs A 10 o (tI (uI M o 0 v) o) (tT (uI M o 0 v) o) := by
  have e : v = tI (uI M o 0 v) o 0 := (tI_u M o 0 v).symm
  conv => lhs; rw [e]
  rfl
theorem fs_10_2 {A : Nat → Nat → Nat} {o : Nat} {M : ti_M} {v : Int32} : (ti_fs A 10 o (tI M o) (tT M o)).set 2 (.int v) = ti_fs A 10 o (tI (uI M o 2 v) o) (tT (uI M o 2 v) o) := by
  have e : v = tI (uI M o 2 v) o 2 := (tI_u M o 2 v).symm
  conv => lhs; rw [e]
  rfl
theorem fs_10_18 {A : Nat → Nat → Nat} {o : Nat} {M : ti_M} {v : Int32} : (ti_fs A 10 o (tI M o) (tT M o)).set 18 (.int v) = ti_fs A 10 o (tI (uI M o 18 v) o) (tT (uI M o 18 v) o) := by
  have e : v = tI (uI M o 18 v) o 18 := (tI_u M o 18 v).symm
  conv => lhs; rw [e]
  rfl
theorem fs_10_19 {A : Nat → Nat → Nat} {o : Nat} {M : ti_M} {v : Int32} : (ti_fs A 10 o (tI M o) (tT M o)).set 19 (.int v) = ti_fs A 10 o (tI (uI M o 19 v) o) (tT (uI M o 19 v) o) := by
  have e : v = tI (uI M o 19 v) o 19 := (tI_u M o 19 v).symm
  conv => lhs; rw [e]
  rfl
theorem fs_10_20 {A : Nat → Nat → Nat} {o : Nat} {M : ti_M} {v : Int32} : (ti_fs A 10 o (tI M o) (tT M o)).set 20 (.int v) = ti_fs A 10 o (tI (uI M o 20 v) o) (tT (uI M o 20 v) o) := by
  have e : v = tI (uI M o 20 v) o 20 := (tI_u M o 20 v).symm
  conv => lhs; rw [e]
  rfl
theorem fs_10_21 {A : Nat → Nat → Nat} {o : Nat} {M : ti_M} {v : Int32} : (ti_fs A 10 o (tI M o) (tT M o)).set 21 (.int v) = ti_fs A 10 o (tI (uI M o 21 v) o) (tT (uI M o 21 v) o) := by
  have e : v = tI (uI M o 21 v) o 21 := (tI_u M o 21 v).symm
  conv => lhs; rw [e]
  rfl
theorem fs_10_22 {A : Nat → Nat → Nat} {o : Nat} {M : ti_M} {v : Int32} : (ti_fs A 10 o (tI M o) (tT M o)).set 22 (.int v) = ti_fs A 10 o (tI (uI M o 22 v) o) (tT (uI M o 22 v) o) := by
  have e : v = tI (uI M o 22 v) o 22 := (tI_u M o 22 v).symm
  conv => lhs; rw [e]
  rfl
theorem fs_10_23 {A : Nat → Nat → Nat} {o : Nat} {M : ti_M} {v : Int32} : (ti_fs A 10 o (tI M o) (tT M o)).set 23 (.int v) = ti_fs A 10 o (tI (uI M o 23 v) o) (tT (uI M o 23 v) o) := by
  have e : v = tI (uI M o 23 v) o 23 := (tI_u M o 23 v).symm
  conv => lhs; rw [e]
  rfl
theorem fs_10_24 {A : Nat → Nat → Nat} {o : Nat} {M : ti_M} {v : Int32} : (ti_fs A 10 o (tI M o) (tT M o)).set 24 (.int v) = ti_fs A 10 o (tI (uI M o 24 v) o) (tT (uI M o 24 v) o) := by
  have e : v = tI (uI M o 24 v) o 24 := (tI_u M o 24 v).symm
  conv => lhs; rw [e]
  rfl
theorem fs_10_25 {A : Nat → Nat → Nat} {o : Nat} {M : ti_M} {v : Int32} : (ti_fs A 10 o (tI M o) (tT M o)).set 25 (.int v) = ti_fs A 10 o (tI (uI M o 25 v) o) (tT (uI M o 25 v) o) := by
  have e : v = tI (uI M o 25 v) o 25 := (tI_u M o 25 v).symm
  conv => lhs; rw [e]
  rfl
theorem fs_10_26 {A : Nat → Nat → Nat} {o : Nat} {M : ti_M} {v : Int32} : (ti_fs A 10 o (tI M o) (tT M o)).set 26 (.int v) = ti_fs A 10 o (tI (uI M o 26 v) o) (tT (uI M o 26 v) o) := by
  have e : v = tI (uI M o 26 v) o 26 := (tI_u M o 26 v).symm
  conv => lhs; rw [e]
  rfl
theorem fs_10_27 {A : Nat → Nat → Nat} {o : Nat} {M : ti_M} {v : Int32} : (ti_fs A 10 o (tI M o) (tT M o)).set 27 (.int v) = ti_fs A 10 o (tI (uI M o 27 v) o) (tT (uI M o 27 v) o) := by
  have e : v = tI (uI M o 27 v) o 27 := (tI_u M o 27 v).symm
  conv => lhs; rw [e]
  rfl
theorem fs_10_28 {A : Nat → Nat → Nat} {o : Nat} {M : ti_M} {v : Int32} : (ti_fs A 10 o (tI M o) (tT M o)).set 28 (.int v) = ti_fs A 10 o (tI (uI M o 28 v) o) (tT (uI M o 28 v) o) := by
  have e : v = tI (uI M o 28 v) o 28 := (tI_u M o 28 v).symm
  conv => lhs; rw [e]
  rfl
theorem fs_10_29 {A : Nat → Nat → Nat} {o : Nat} {M : ti_M} {v : Int32} : (ti_fs A 10 o (tI M o) (tT M o)).set 29 (.int v) = ti_fs A 10 o (tI (uI M o 29 v) o) (tT (uI M o 29 v) o) := by
  have e : v = tI (uI M o 29 v) o 29 := (tI_u M o 29 v).symm
  conv => lhs; rw [e]
  rfl
theorem fs_10_30 {A : Nat → Nat → Nat} {o : Nat} {M : ti_M} {v : Int32} : (ti_fs A 10 o (tI M o) (tT M o)).set 30 (.int v) = ti_fs A 10 o (tI (uI M o 30 v) o) (tT (uI M o 30 v) o) := by
  have e : v = tI (uI M o 30 v) o 30 := (tI_u M o 30 v).symm
  conv => lhs; rw [e]
  rfl
theorem fs_10_33 {A : Nat → Nat → Nat} {o : Nat} {M : ti_M} {v : Int32} : (ti_fs A 10 o (tI M o) (tT M o)).set 33 (.int v) = ti_fs A 10 o (tI (uI M o 33 v) o) (tT (uI M o 33 v) o) := by
  have e : v = tI (uI M o 33 v) o 33 := (tI_u M o 33 v).symm
  conv => lhs; rw [e]
  rfl
theorem fs_10_51 {A : Nat → Nat → Nat} {o : Nat} {M : ti_M} {v : Int32} : (ti_fs A 10 o (tI M o) (tT M o)).set 51 (.int v) = ti_fs A 10 o (tI (uI M o 51 v) o) (tT (uI M o 51 v) o) := by
  have e : v = tI (uI M o 51 v) o 51 := (tI_u M o 51 v).symm
  conv => lhs; rw [e]
  rfl
theorem fs_10_52 {A : Nat → Nat → Nat} {o : Nat} {M : ti_M} {v : Int32} : (ti_fs A 10 o (tI M o) (tT M o)).set 52 (.int v) = ti_fs A 10 o (tI (uI M o 52 v) o) (tT (uI M o 52 v) o) := by
  have e : v = tI (uI M o 52 v) o 52 := (tI_u M o 52 v).symm
  conv => lhs; rw [e]
  rfl
theorem fs_10_53 {A : Nat → Nat → Nat} {o : Nat} {M : ti_M} {v : Int32} : (ti_fs A 10 o (tI M o) (tT M o)).set 53 (.int v) = ti_fs A 10 o (tI (uI M o 53 v) o) (tT (uI M o 53 v) o) := by
  have e : v = tI (uI M o 53 v) o 53 := (tI_u M o 53 v).symm
  conv => lhs; rw [e]
  rfl
theorem fs_10_56 {A : Nat → Nat → Nat} {o : Nat} {M : ti_M} {v : Int32} : (ti_fs A 10 o (tI M o) (tT M o)).set 56 (.int v) = ti_fs A 10 o (tI (uI M o 56 v) o) (tT (uI M o 56 v) o) := by
  have e : v = tI (uI M o 56 v) o 56 := (tI_u M o 56 v).symm
  conv => lhs; rw [e]
  rfl
theorem fs_10_58 {A : Nat → Nat → Nat} {o : Nat} {M : ti_M} {v : Int32} : (ti_fs A 10 o (tI M o) (tT M o)).set 58 (.int v) = ti_fs A 10 o (tI (uI M o 58 v) o) (tT (uI M o 58 v) o) := by
  have e : v = tI (uI M o 58 v) o 58 := (tI_u M o 58 v).symm
  conv => lhs; rw [e]
  rfl
theorem fs_10_59 {A : Nat → Nat → Nat} {o : Nat} {M : ti_M} {v : Int32} : (ti_fs A 10 o (tI M o) (tT M o)).set 59 (.int v) = ti_fs A 10 o (tI (uI M o 59 v) o) (tT (uI M o 59 v) o) := by
  have e : v = tI (uI M o 59 v) o 59 := (tI_u M o 59 v).symm
  conv => lhs; rw [e]
  rfl
theorem fs_10_65 {A : Nat → Nat → Nat} {o : Nat} {M : ti_M} {v : Int32} : (ti_fs A 10 o (tI M o) (tT M o)).set 65 (.int v) = ti_fs A 10 o (tI (uI M o 65 v) o) (tT (uI M o 65 v) o) := by
  have e : v = tI (uI M o 65 v) o 65 := (tI_u M o 65 v).symm
  conv => lhs; rw [e]
  rfl
theorem fs_10_66 {A : Nat → Nat → Nat} {o : Nat} {M : ti_M} {v : Int32} : (ti_fs A 10 o (tI M o) (tT M o)).set 66 (.int v) = ti_fs A 10 o (tI (uI M o 66 v) o) (tT (uI M o 66 v) o) := by
  have e : v = tI (uI M o 66 v) o 66 := (tI_u M o 66 v).symm
  conv => lhs; rw [e]
  rfl

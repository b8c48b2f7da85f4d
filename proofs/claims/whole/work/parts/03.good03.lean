set_option maxRecDepth 20000 in
theorem ggX9_thing_X7_kindOf : GoodIn wsX9_thing wsX7_kindOf := goodIn_r _ [17, 18, 19, 3, 4, 5, 6, 7, 57, 58, 59, 60, 61, 62, 63] (by decide +kernel) (by decide +kernel)
set_option maxRecDepth 20000 in
theorem gX9_thing_X7_kindOf : GoodIn wsX9_thing (wsV RX9 81 RX7 yX7_kindOf wsX7_kindOf) := goodIn_app (goodIn_of _ (by decide +kernel)) ggX9_thing_X7_kindOf
set_option maxRecDepth 20000 in
theorem ggX9_thing_X7_figureOf : GoodIn wsX9_thing wsX7_figureOf := goodIn_r _ [23, 24, 19, 3, 4, 5, 6, 7, 57, 58, 59, 60, 61, 62, 63] (by decide +kernel) (by decide +kernel)
set_option maxRecDepth 20000 in
theorem gX9_thing_X7_figureOf : GoodIn wsX9_thing (wsV RX9 84 RX7 yX7_figureOf wsX7_figureOf) := goodIn_app (goodIn_of _ (by decide +kernel)) ggX9_thing_X7_figureOf
set_option maxRecDepth 20000 in
theorem ggX9_thing_X7_causesOf : GoodIn wsX9_thing wsX7_causesOf := goodIn_r _ [28, 29, 19, 3, 4, 5, 6, 7, 57, 58, 59, 60, 61, 62, 63] (by decide +kernel) (by decide +kernel)
set_option maxRecDepth 20000 in
theorem gX9_thing_X7_causesOf : GoodIn wsX9_thing (wsV RX9 87 RX7 yX7_causesOf wsX7_causesOf) := goodIn_app (goodIn_of _ (by decide +kernel)) ggX9_thing_X7_causesOf
set_option maxRecDepth 20000 in
theorem ggX9_thing_X7_isLost : GoodIn wsX9_thing wsX7_isLost := goodIn_r _ [33, 34, 19, 3, 4, 5, 6, 7, 57, 58, 59, 60, 61, 62, 63] (by decide +kernel) (by decide +kernel)
set_option maxRecDepth 20000 in
theorem gX9_thing_X7_isLost : GoodIn wsX9_thing (wsV RX9 90 RX7 yX7_isLost wsX7_isLost) := goodIn_app (goodIn_of _ (by decide +kernel)) ggX9_thing_X7_isLost
set_option maxRecDepth 20000 in
theorem ggX9_thing_X7_isGuarded : GoodIn wsX9_thing wsX7_isGuarded := goodIn_r _ [38, 39, 19, 3, 4, 5, 6, 7, 57, 58, 59, 60, 61, 62, 63] (by decide +kernel) (by decide +kernel)
set_option maxRecDepth 20000 in
theorem gX9_thing_X7_isGuarded : GoodIn wsX9_thing (wsV RX9 93 RX7 yX7_isGuarded wsX7_isGuarded) := goodIn_app (goodIn_of _ (by decide +kernel)) ggX9_thing_X7_isGuarded
set_option maxRecDepth 20000 in
theorem ggX9_thing_X7_depthOf : GoodIn wsX9_thing wsX7_depthOf := goodIn_r _ [43, 44, 26, 27, 5, 28, 29, 19, 3, 4, 6, 7, 45, 46, 47, 48, 57, 58, 59, 60, 61, 62, 63] (by decide +kernel) (by decide +kernel)
set_option maxRecDepth 20000 in
theorem gX9_thing_X7_depthOf : GoodIn wsX9_thing (wsV RX9 96 RX7 yX7_depthOf wsX7_depthOf) := goodIn_app (goodIn_of _ (by decide +kernel)) ggX9_thing_X7_depthOf
set_option maxRecDepth 20000 in
theorem ggX9_causes_X7_has : GoodIn wsX9_causes wsX7_has := goodIn_r _ [6, 7, 32, 33, 34, 35, 36, 37, 38] (by decide +kernel) (by decide +kernel)
set_option maxRecDepth 20000 in
theorem gX9_causes_X7_has : GoodIn wsX9_causes (wsV RX9 77 RX7 yX7_has wsX7_has) := goodIn_app (goodIn_of _ (by decide +kernel)) ggX9_causes_X7_has
set_option maxRecDepth 20000 in
theorem ggX9_causes_X9_refuse : GoodIn wsX9_causes wsX9_refuse := goodIn_r _ [12, 13, 24, 25, 26, 27, 28, 29, 30, 31] (by decide +kernel) (by decide +kernel)
set_option maxRecDepth 20000 in
theorem gX9_causes_X9_refuse : GoodIn wsX9_causes (wsV RX9 51 RX9 yX9_refuse wsX9_refuse) := goodIn_app (goodIn_of _ (by decide +kernel)) ggX9_causes_X9_refuse
set_option maxRecDepth 20000 in
theorem ggX9_causes_X7_flipCause : GoodIn wsX9_causes wsX7_flipCause := goodIn_r _ [17, 18, 19, 3, 4, 5, 6, 7, 32, 33, 34, 35, 36, 37, 38] (by decide +kernel) (by decide +kernel)
set_option maxRecDepth 20000 in
theorem gX9_causes_X7_flipCause : GoodIn wsX9_causes (wsV RX9 99 RX7 yX7_flipCause wsX7_flipCause) := goodIn_app (goodIn_of _ (by decide +kernel)) ggX9_causes_X7_flipCause
set_option maxRecDepth 20000 in
theorem ggX9_causes_X7_causesOf : GoodIn wsX9_causes wsX7_causesOf := goodIn_r _ [23, 18, 19, 3, 4, 5, 6, 7, 32, 33, 34, 35, 36, 37, 38] (by decide +kernel) (by decide +kernel)
set_option maxRecDepth 20000 in
theorem gX9_causes_X7_causesOf : GoodIn wsX9_causes (wsV RX9 87 RX7 yX7_causesOf wsX7_causesOf) := goodIn_app (goodIn_of _ (by decide +kernel)) ggX9_causes_X7_causesOf
set_option maxRecDepth 20000 in
theorem ggX9_loses_X7_has : GoodIn wsX9_loses wsX7_has := goodIn_r _ [6, 7, 44, 45, 46, 47, 48, 49, 50] (by decide +kernel) (by decide +kernel)
set_option maxRecDepth 20000 in
theorem gX9_loses_X7_has : GoodIn wsX9_loses (wsV RX9 77 RX7 yX7_has wsX7_has) := goodIn_app (goodIn_of _ (by decide +kernel)) ggX9_loses_X7_has
set_option maxRecDepth 20000 in
theorem ggX9_loses_X9_refuse : GoodIn wsX9_loses wsX9_refuse := goodIn_r _ [12, 13, 36, 37, 38, 39, 40, 41, 42, 43] (by decide +kernel) (by decide +kernel)
set_option maxRecDepth 20000 in
theorem gX9_loses_X9_refuse : GoodIn wsX9_loses (wsV RX9 51 RX9 yX9_refuse wsX9_refuse) := goodIn_app (goodIn_of _ (by decide +kernel)) ggX9_loses_X9_refuse
set_option maxRecDepth 20000 in
theorem ggX9_loses_X7_isLost : GoodIn wsX9_loses wsX7_isLost := goodIn_r _ [17, 18, 19, 3, 4, 5, 6, 7, 44, 45, 46, 47, 48, 49, 50] (by decide +kernel) (by decide +kernel)
set_option maxRecDepth 20000 in
theorem gX9_loses_X7_isLost : GoodIn wsX9_loses (wsV RX9 90 RX7 yX7_isLost wsX7_isLost) := goodIn_app (goodIn_of _ (by decide +kernel)) ggX9_loses_X7_isLost
set_option maxRecDepth 20000 in
theorem ggX9_loses_X7_lose : GoodIn wsX9_loses wsX7_lose := goodIn_r _ [23, 18, 19, 3, 4, 5, 6, 7, 24, 25, 26, 27, 28, 44, 45, 46, 47, 48, 49, 50] (by decide +kernel) (by decide +kernel)
set_option maxRecDepth 20000 in
theorem gX9_loses_X7_lose : GoodIn wsX9_loses (wsV RX9 103 RX7 yX7_lose wsX7_lose) := goodIn_app (goodIn_of _ (by decide +kernel)) ggX9_loses_X7_lose
set_option maxRecDepth 20000 in
theorem ggX9_loses_J6_bitCount_0f7a4 : GoodIn wsX9_loses wsJ6_bitCount_0f7a4 := goodIn_r _ [32, 33, 34, 35] (by decide +kernel) (by decide +kernel)
set_option maxRecDepth 20000 in
theorem gX9_loses_J6_bitCount_0f7a4 : GoodIn wsX9_loses (va_wsS RX9 110 yJ6_bitCount_0f7a4 wsJ6_bitCount_0f7a4) := goodIn_app (goodIn_of _ (by decide +kernel)) ggX9_loses_J6_bitCount_0f7a4
set_option maxRecDepth 20000 in
theorem ggX9_mends_X7_has : GoodIn wsX9_mends wsX7_has := goodIn_r _ [6, 7, 39, 40, 41, 42, 43, 44, 45] (by decide +kernel) (by decide +kernel)
set_option maxRecDepth 20000 in
theorem gX9_mends_X7_has : GoodIn wsX9_mends (wsV RX9 77 RX7 yX7_has wsX7_has) := goodIn_app (goodIn_of _ (by decide +kernel)) ggX9_mends_X7_has
set_option maxRecDepth 20000 in
theorem ggX9_mends_X9_refuse : GoodIn wsX9_mends wsX9_refuse := goodIn_r _ [12, 13, 31, 32, 33, 34, 35, 36, 37, 38] (by decide +kernel) (by decide +kernel)
set_option maxRecDepth 20000 in
theorem gX9_mends_X9_refuse : GoodIn wsX9_mends (wsV RX9 51 RX9 yX9_refuse wsX9_refuse) := goodIn_app (goodIn_of _ (by decide +kernel)) ggX9_mends_X9_refuse
set_option maxRecDepth 20000 in
theorem ggX9_mends_X7_isLost : GoodIn wsX9_mends wsX7_isLost := goodIn_r _ [17, 18, 19, 3, 4, 5, 6, 7, 39, 40, 41, 42, 43, 44, 45] (by decide +kernel) (by decide +kernel)
set_option maxRecDepth 20000 in
theorem gX9_mends_X7_isLost : GoodIn wsX9_mends (wsV RX9 90 RX7 yX7_isLost wsX7_isLost) := goodIn_app (goodIn_of _ (by decide +kernel)) ggX9_mends_X7_isLost
set_option maxRecDepth 20000 in
theorem ggX9_mends_X7_mend : GoodIn wsX9_mends wsX7_mend := goodIn_r _ [23, 18, 19, 3, 4, 5, 6, 7, 39, 40, 41, 42, 43, 44, 45] (by decide +kernel) (by decide +kernel)
set_option maxRecDepth 20000 in
theorem gX9_mends_X7_mend : GoodIn wsX9_mends (wsV RX9 115 RX7 yX7_mend wsX7_mend) := goodIn_app (goodIn_of _ (by decide +kernel)) ggX9_mends_X7_mend
set_option maxRecDepth 20000 in
theorem ggX9_mends_J6_bitCount_0f7a4 : GoodIn wsX9_mends wsJ6_bitCount_0f7a4 := goodIn_r _ [27, 28, 29, 30] (by decide +kernel) (by decide +kernel)
set_option maxRecDepth 20000 in
theorem gX9_mends_J6_bitCount_0f7a4 : GoodIn wsX9_mends (va_wsS RX9 110 yJ6_bitCount_0f7a4 wsJ6_bitCount_0f7a4) := goodIn_app (goodIn_of _ (by decide +kernel)) ggX9_mends_J6_bitCount_0f7a4
set_option maxRecDepth 20000 in
theorem ggX9_guards_X7_flipGuard : GoodIn wsX9_guards wsX7_flipGuard := goodIn_r _ [6, 7, 8, 9, 10, 5, 11, 12, 31, 32, 33, 34, 35, 36, 37] (by decide +kernel) (by decide +kernel)
set_option maxRecDepth 20000 in
theorem gX9_guards_X7_flipGuard : GoodIn wsX9_guards (wsV RX9 118 RX7 yX7_flipGuard wsX7_flipGuard) := goodIn_app (goodIn_of _ (by decide +kernel)) ggX9_guards_X7_flipGuard
set_option maxRecDepth 20000 in
theorem ggX9_guards_X9_refuse : GoodIn wsX9_guards wsX9_refuse := goodIn_r _ [17, 18, 23, 24, 25, 26, 27, 28, 29, 30] (by decide +kernel) (by decide +kernel)
set_option maxRecDepth 20000 in
theorem gX9_guards_X9_refuse : GoodIn wsX9_guards (wsV RX9 51 RX9 yX9_refuse wsX9_refuse) := goodIn_app (goodIn_of _ (by decide +kernel)) ggX9_guards_X9_refuse
set_option maxRecDepth 20000 in
theorem ggX9_guards_X7_isGuarded : GoodIn wsX9_guards wsX7_isGuarded := goodIn_r _ [22, 7, 8, 9, 10, 5, 11, 12, 31, 32, 33, 34, 35, 36, 37] (by decide +kernel) (by decide +kernel)
set_option maxRecDepth 20000 in
theorem gX9_guards_X7_isGuarded : GoodIn wsX9_guards (wsV RX9 93 RX7 yX7_isGuarded wsX7_isGuarded) := goodIn_app (goodIn_of _ (by decide +kernel)) ggX9_guards_X7_isGuarded
set_option maxRecDepth 20000 in
theorem ggX9_turn_X7_has : GoodIn wsX9_turn wsX7_has := goodIn_r _ [6, 7, 51, 52, 53, 54, 55, 56, 57] (by decide +kernel) (by decide +kernel)
set_option maxRecDepth 20000 in
theorem gX9_turn_X7_has : GoodIn wsX9_turn (wsV RX9 77 RX7 yX7_has wsX7_has) := goodIn_app (goodIn_of _ (by decide +kernel)) ggX9_turn_X7_has
set_option maxRecDepth 20000 in
theorem ggX9_turn_X9_refuse : GoodIn wsX9_turn wsX9_refuse := goodIn_r _ [12, 13, 43, 44, 45, 46, 47, 48, 49, 50] (by decide +kernel) (by decide +kernel)
set_option maxRecDepth 20000 in
theorem gX9_turn_X9_refuse : GoodIn wsX9_turn (wsV RX9 51 RX9 yX9_refuse wsX9_refuse) := goodIn_app (goodIn_of _ (by decide +kernel)) ggX9_turn_X9_refuse
set_option maxRecDepth 20000 in
theorem ggX9_turn_X7_isKind : GoodIn wsX9_turn wsX7_isKind := goodIn_r _ [16] (by decide +kernel) (by decide +kernel)
set_option maxRecDepth 20000 in
theorem gX9_turn_X7_isKind : GoodIn wsX9_turn (va_wsS RX9 121 yX7_isKind wsX7_isKind) := goodIn_app (goodIn_of _ (by decide +kernel)) ggX9_turn_X7_isKind
set_option maxRecDepth 20000 in
theorem ggX9_turn_X9_outside : GoodIn wsX9_turn wsX9_outside := goodIn_r _ [19] (by decide +kernel) (by decide +kernel)
set_option maxRecDepth 20000 in
theorem gX9_turn_X9_outside : GoodIn wsX9_turn (va_wsS RX9 124 yX9_outside wsX9_outside) := goodIn_app (goodIn_of _ (by decide +kernel)) ggX9_turn_X9_outside
set_option maxRecDepth 20000 in
theorem ggX9_turn_X7_kindOf : GoodIn wsX9_turn wsX7_kindOf := goodIn_r _ [23, 24, 25, 3, 4, 5, 6, 7, 51, 52, 53, 54, 55, 56, 57] (by decide +kernel) (by decide +kernel)
set_option maxRecDepth 20000 in
theorem gX9_turn_X7_kindOf : GoodIn wsX9_turn (wsV RX9 81 RX7 yX7_kindOf wsX7_kindOf) := goodIn_app (goodIn_of _ (by decide +kernel)) ggX9_turn_X7_kindOf
set_option maxRecDepth 20000 in
theorem ggX9_turn_X7_figureOf : GoodIn wsX9_turn wsX7_figureOf := goodIn_r _ [29, 30, 25, 3, 4, 5, 6, 7, 51, 52, 53, 54, 55, 56, 57] (by decide +kernel) (by decide +kernel)
set_option maxRecDepth 20000 in
theorem gX9_turn_X7_figureOf : GoodIn wsX9_turn (wsV RX9 84 RX7 yX7_figureOf wsX7_figureOf) := goodIn_app (goodIn_of _ (by decide +kernel)) ggX9_turn_X7_figureOf
set_option maxRecDepth 20000 in
theorem ggX9_turn_X7_setKind : GoodIn wsX9_turn wsX7_setKind := goodIn_r _ [34, 24, 25, 3, 4, 5, 6, 7, 35, 15, 16, 51, 52, 53, 54, 55, 56, 57] (by decide +kernel) (by decide +kernel)
set_option maxRecDepth 20000 in
theorem gX9_turn_X7_setKind : GoodIn wsX9_turn (wsV RX9 128 RX7 yX7_setKind wsX7_setKind) := goodIn_app (goodIn_of _ (by decide +kernel)) ggX9_turn_X7_setKind
set_option maxRecDepth 20000 in
theorem ggX9_turn_X7_setFigure : GoodIn wsX9_turn wsX7_setFigure := goodIn_r _ [39, 30, 25, 3, 4, 5, 6, 7, 40, 41, 42, 51, 52, 53, 54, 55, 56, 57] (by decide +kernel) (by decide +kernel)
set_option maxRecDepth 20000 in
theorem gX9_turn_X7_setFigure : GoodIn wsX9_turn (wsV RX9 132 RX7 yX7_setFigure wsX7_setFigure) := goodIn_app (goodIn_of _ (by decide +kernel)) ggX9_turn_X7_setFigure
set_option maxRecDepth 20000 in
theorem ggX9_days_X9_outside : GoodIn wsX9_days wsX9_outside := goodIn_r _ [5] (by decide +kernel) (by decide +kernel)
set_option maxRecDepth 20000 in
theorem gX9_days_X9_outside : GoodIn wsX9_days (va_wsS RX9 124 yX9_outside wsX9_outside) := goodIn_app (goodIn_of _ (by decide +kernel)) ggX9_days_X9_outside
set_option maxRecDepth 20000 in
theorem ggX9_days_X9_refuse : GoodIn wsX9_days wsX9_refuse := goodIn_r _ [9, 10, 43, 44, 45, 46, 47, 48, 49, 50] (by decide +kernel) (by decide +kernel)
set_option maxRecDepth 20000 in
theorem gX9_days_X9_refuse : GoodIn wsX9_days (wsV RX9 51 RX9 yX9_refuse wsX9_refuse) := goodIn_app (goodIn_of _ (by decide +kernel)) ggX9_days_X9_refuse
set_option maxRecDepth 20000 in
theorem ggX9_days_X7_passDays : GoodIn wsX9_days wsX7_passDays := goodIn_r _ [15, 16, 17, 18, 19, 20, 21, 14, 22, 23, 24, 25, 26, 27, 28, 29, 30, 31, 32, 33, 34, 35, 36, 37, 38, 39, 40, 41, 51, 52, 53, 54, 55, 56, 57] (by decide +kernel) (by decide +kernel)
set_option maxRecDepth 20000 in
theorem gX9_days_X7_passDays : GoodIn wsX9_days (wsV RX9 135 RX7 yX7_passDays wsX7_passDays) := goodIn_app (goodIn_of _ (by decide +kernel)) ggX9_days_X7_passDays
set_option maxRecDepth 20000 in
theorem ggX9_days_J6_bitCount_0f7a4 : GoodIn wsX9_days wsJ6_bitCount_0f7a4 := goodIn_r _ [32, 33, 34, 35] (by decide +kernel) (by decide +kernel)
set_option maxRecDepth 20000 in
theorem gX9_days_J6_bitCount_0f7a4 : GoodIn wsX9_days (va_wsS RX9 110 yJ6_bitCount_0f7a4 wsJ6_bitCount_0f7a4) := goodIn_app (goodIn_of _ (by decide +kernel)) ggX9_days_J6_bitCount_0f7a4
set_option maxRecDepth 20000 in
theorem ggX9_lostThen_X9_outside : GoodIn wsX9_lostThen wsX9_outside := goodIn_r _ [5] (by decide +kernel) (by decide +kernel)
set_option maxRecDepth 20000 in
theorem gX9_lostThen_X9_outside : GoodIn wsX9_lostThen (va_wsS RX9 124 yX9_outside wsX9_outside) := goodIn_app (goodIn_of _ (by decide +kernel)) ggX9_lostThen_X9_outside
set_option maxRecDepth 20000 in
theorem ggX9_lostThen_X9_refuse : GoodIn wsX9_lostThen wsX9_refuse := goodIn_r _ [9, 10, 39, 40, 41, 42, 43, 44, 45, 46] (by decide +kernel) (by decide +kernel)
set_option maxRecDepth 20000 in
theorem gX9_lostThen_X9_refuse : GoodIn wsX9_lostThen (wsV RX9 51 RX9 yX9_refuse wsX9_refuse) := goodIn_app (goodIn_of _ (by decide +kernel)) ggX9_lostThen_X9_refuse
set_option maxRecDepth 20000 in
theorem ggX9_lostThen_X4_lostBehind : GoodIn wsX9_lostThen wsX4_lostBehind := goodIn_r _ [14, 15, 16, 17, 18, 19, 20, 21, 22, 23, 24, 25, 26, 27, 28, 29, 30, 31, 32, 33, 34, 35, 36, 37, 38, 47, 48, 49, 50, 51, 52, 53] (by decide +kernel) (by decide +kernel)
set_option maxRecDepth 20000 in
theorem gX9_lostThen_X4_lostBehind : GoodIn wsX9_lostThen (va_wsS RX9 138 yX4_lostBehind wsX4_lostBehind) := goodIn_app (goodIn_of _ (by decide +kernel)) ggX9_lostThen_X4_lostBehind
set_option maxRecDepth 20000 in
theorem ggX9_when_X7_has : GoodIn wsX9_when wsX7_has := goodIn_r _ [6, 7, 44, 45, 46, 47, 48, 49, 50] (by decide +kernel) (by decide +kernel)
set_option maxRecDepth 20000 in
theorem gX9_when_X7_has : GoodIn wsX9_when (wsV RX9 77 RX7 yX7_has wsX7_has) := goodIn_app (goodIn_of _ (by decide +kernel)) ggX9_when_X7_has
set_option maxRecDepth 20000 in
theorem ggX9_when_X4_daysUntilLost : GoodIn wsX9_when wsX4_daysUntilLost := goodIn_r _ [11, 12, 13, 14, 5, 15, 7, 16, 17, 18, 19, 20, 21, 22, 23, 24, 25, 26, 27, 28, 29, 44, 45, 46, 47, 48, 49, 50] (by decide +kernel) (by decide +kernel)
set_option maxRecDepth 20000 in
theorem gX9_when_X4_daysUntilLost : GoodIn wsX9_when (va_wsS RX9 144 yX4_daysUntilLost wsX4_daysUntilLost) := goodIn_app (goodIn_of _ (by decide +kernel)) ggX9_when_X4_daysUntilLost

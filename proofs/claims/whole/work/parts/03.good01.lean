set_option maxRecDepth 20000 in
theorem ggX10_lostWhen_X10_has : GoodIn wsX10_lostWhen wsX10_has := goodIn_r _ [30] (by decide +kernel) (by decide +kernel)
set_option maxRecDepth 20000 in
theorem gX10_lostWhen_X10_has : GoodIn wsX10_lostWhen (va_wsS RX10 52 yX10_has wsX10_has) := goodIn_app (goodIn_of _ (by decide +kernel)) ggX10_lostWhen_X10_has
set_option maxRecDepth 20000 in
theorem ggX10_lostWhen_X10_goesDay : GoodIn wsX10_lostWhen wsX10_goesDay := goodIn_r _ [34, 17, 16, 1, 18, 15, 28, 29, 5, 30, 35, 36, 37, 38, 39, 40, 41, 13, 14, 46, 47, 48, 49, 50, 51, 52, 53, 54, 55, 56, 57, 58, 59, 60, 61, 62, 63, 64, 65, 66, 67, 68, 69, 70] (by decide +kernel) (by decide +kernel)
set_option maxRecDepth 20000 in
theorem gX10_lostWhen_X10_goesDay : GoodIn wsX10_lostWhen (wsV RX10 156 RX10 yX10_goesDay wsX10_goesDay) := goodIn_app (goodIn_of _ (by decide +kernel)) ggX10_lostWhen_X10_goesDay
set_option maxRecDepth 20000 in
theorem ggX10_lostWhen_X10_forgets : GoodIn wsX10_lostWhen wsX10_forgets := goodIn_r _ [45, 7, 8, 9, 5, 10, 11, 12, 13, 14, 15, 16, 17, 1, 18, 19, 20, 21, 22, 23, 24, 25, 26, 27, 46, 47, 48, 49, 50, 51, 52, 53, 54, 55, 56, 57, 58, 59, 60, 61, 62, 63, 64, 65, 66, 67, 68, 69, 70] (by decide +kernel) (by decide +kernel)
set_option maxRecDepth 20000 in
theorem gX10_lostWhen_X10_forgets : GoodIn wsX10_lostWhen (wsV RX10 162 RX10 yX10_forgets wsX10_forgets) := goodIn_app (goodIn_of _ (by decide +kernel)) ggX10_lostWhen_X10_forgets
set_option maxRecDepth 20000 in
theorem ggX10_lostWith_X10_lostIn : GoodIn wsX10_lostWith wsX10_lostIn := goodIn_r _ [6, 1, 7, 8, 9, 5, 10, 11, 12, 13, 14, 15, 16, 17, 18, 19, 20, 21, 22, 23, 24, 25, 26, 27, 28, 29, 30, 31, 32, 33, 34, 35, 36, 37, 38, 39, 40, 41, 42, 43, 44, 45, 46, 47, 48, 49, 50, 51, 52, 53, 54, 55, 56, 57, 58, 59, 60, 61, 62, 63, 64, 65, 66, 67, 68, 69, 70, 71, 72, 73, 74, 75, 76, 77, 78] (by decide +kernel) (by decide +kernel)
set_option maxRecDepth 20000 in
theorem gX10_lostWith_X10_lostIn : GoodIn wsX10_lostWith (wsV RX10 165 RX10 yX10_lostIn wsX10_lostIn) := goodIn_app (goodIn_of _ (by decide +kernel)) ggX10_lostWith_X10_lostIn
set_option maxRecDepth 20000 in
theorem ggX10_depthOf_X10_has : GoodIn wsX10_depthOf wsX10_has := goodIn_r _ [7] (by decide +kernel) (by decide +kernel)
set_option maxRecDepth 20000 in
theorem gX10_depthOf_X10_has : GoodIn wsX10_depthOf (va_wsS RX10 52 yX10_has wsX10_has) := goodIn_app (goodIn_of _ (by decide +kernel)) ggX10_depthOf_X10_has
set_option maxRecDepth 20000 in
theorem ggX10_thing_X10_isThing : GoodIn wsX10_thing wsX10_isThing := goodIn_r _ [10, 11, 25, 26, 27, 28, 29, 30, 31, 32, 33, 34, 35, 36, 37, 38, 39, 40, 41, 42, 43, 44, 45, 46, 47, 48, 49] (by decide +kernel) (by decide +kernel)
set_option maxRecDepth 20000 in
theorem gX10_thing_X10_isThing : GoodIn wsX10_thing (wsV RX10 100 RX10 yX10_isThing wsX10_isThing) := goodIn_app (goodIn_of _ (by decide +kernel)) ggX10_thing_X10_isThing
set_option maxRecDepth 20000 in
theorem ggX10_thing_X10_no : GoodIn wsX10_thing wsX10_no := goodIn_r _ [15, 16, 25, 26, 27, 28, 29, 30, 31, 32, 33, 34, 35, 36, 37, 38, 39, 40, 41, 42, 43, 44, 45, 46, 47, 48, 49] (by decide +kernel) (by decide +kernel)
set_option maxRecDepth 20000 in
theorem gX10_thing_X10_no : GoodIn wsX10_thing (wsV RX10 63 RX10 yX10_no wsX10_no) := goodIn_app (goodIn_of _ (by decide +kernel)) ggX10_thing_X10_no
set_option maxRecDepth 20000 in
theorem ggX10_thing_X10_depthOf : GoodIn wsX10_thing wsX10_depthOf := goodIn_r _ [20, 11, 21, 3, 22, 23, 9, 24, 25, 26, 27, 28, 29, 30, 31, 32, 33, 34, 35, 36, 37, 38, 39, 40, 41, 42, 43, 44, 45, 46, 47, 48, 49] (by decide +kernel) (by decide +kernel)
set_option maxRecDepth 20000 in
theorem gX10_thing_X10_depthOf : GoodIn wsX10_thing (wsV RX10 168 RX10 yX10_depthOf wsX10_depthOf) := goodIn_app (goodIn_of _ (by decide +kernel)) ggX10_thing_X10_depthOf
set_option maxRecDepth 20000 in
theorem ggX10_causes_X10_isThing : GoodIn wsX10_causes wsX10_isThing := goodIn_r _ [6, 7, 13, 14, 15, 16, 17, 18, 19, 20, 21, 22, 23, 24, 25, 26, 27, 28, 29, 30, 31, 32, 33, 34, 35, 36, 37] (by decide +kernel) (by decide +kernel)
set_option maxRecDepth 20000 in
theorem gX10_causes_X10_isThing : GoodIn wsX10_causes (wsV RX10 100 RX10 yX10_isThing wsX10_isThing) := goodIn_app (goodIn_of _ (by decide +kernel)) ggX10_causes_X10_isThing
set_option maxRecDepth 20000 in
theorem ggX10_causes_X10_no : GoodIn wsX10_causes wsX10_no := goodIn_r _ [11, 12, 13, 14, 15, 16, 17, 18, 19, 20, 21, 22, 23, 24, 25, 26, 27, 28, 29, 30, 31, 32, 33, 34, 35, 36, 37] (by decide +kernel) (by decide +kernel)
set_option maxRecDepth 20000 in
theorem gX10_causes_X10_no : GoodIn wsX10_causes (wsV RX10 63 RX10 yX10_no wsX10_no) := goodIn_app (goodIn_of _ (by decide +kernel)) ggX10_causes_X10_no
set_option maxRecDepth 20000 in
theorem ggX10_loses_X10_isThing : GoodIn wsX10_loses wsX10_isThing := goodIn_r _ [7, 8, 20, 21, 22, 23, 24, 25, 26, 27, 28, 29, 30, 31, 32, 33, 34, 35, 36, 37, 38, 39, 40, 41, 42, 43, 44] (by decide +kernel) (by decide +kernel)
set_option maxRecDepth 20000 in
theorem gX10_loses_X10_isThing : GoodIn wsX10_loses (wsV RX10 100 RX10 yX10_isThing wsX10_isThing) := goodIn_app (goodIn_of _ (by decide +kernel)) ggX10_loses_X10_isThing
set_option maxRecDepth 20000 in
theorem ggX10_loses_X10_has : GoodIn wsX10_loses wsX10_has := goodIn_r _ [11] (by decide +kernel) (by decide +kernel)
set_option maxRecDepth 20000 in
theorem gX10_loses_X10_has : GoodIn wsX10_loses (va_wsS RX10 52 yX10_has wsX10_has) := goodIn_app (goodIn_of _ (by decide +kernel)) ggX10_loses_X10_has
set_option maxRecDepth 20000 in
theorem ggX10_loses_X10_no : GoodIn wsX10_loses wsX10_no := goodIn_r _ [15, 16, 20, 21, 22, 23, 24, 25, 26, 27, 28, 29, 30, 31, 32, 33, 34, 35, 36, 37, 38, 39, 40, 41, 42, 43, 44] (by decide +kernel) (by decide +kernel)
set_option maxRecDepth 20000 in
theorem gX10_loses_X10_no : GoodIn wsX10_loses (wsV RX10 63 RX10 yX10_no wsX10_no) := goodIn_app (goodIn_of _ (by decide +kernel)) ggX10_loses_X10_no
set_option maxRecDepth 20000 in
theorem ggX10_loses_X10_bits : GoodIn wsX10_loses wsX10_bits := goodIn_r _ [19] (by decide +kernel) (by decide +kernel)
set_option maxRecDepth 20000 in
theorem gX10_loses_X10_bits : GoodIn wsX10_loses (va_wsS RX10 150 yX10_bits wsX10_bits) := goodIn_app (goodIn_of _ (by decide +kernel)) ggX10_loses_X10_bits
set_option maxRecDepth 20000 in
theorem ggX10_mends_X10_isThing : GoodIn wsX10_mends wsX10_isThing := goodIn_r _ [6, 7, 19, 20, 21, 22, 23, 24, 25, 26, 27, 28, 29, 30, 31, 32, 33, 34, 35, 36, 37, 38, 39, 40, 41, 42, 43] (by decide +kernel) (by decide +kernel)
set_option maxRecDepth 20000 in
theorem gX10_mends_X10_isThing : GoodIn wsX10_mends (wsV RX10 100 RX10 yX10_isThing wsX10_isThing) := goodIn_app (goodIn_of _ (by decide +kernel)) ggX10_mends_X10_isThing
set_option maxRecDepth 20000 in
theorem ggX10_mends_X10_has : GoodIn wsX10_mends wsX10_has := goodIn_r _ [10] (by decide +kernel) (by decide +kernel)
set_option maxRecDepth 20000 in
theorem gX10_mends_X10_has : GoodIn wsX10_mends (va_wsS RX10 52 yX10_has wsX10_has) := goodIn_app (goodIn_of _ (by decide +kernel)) ggX10_mends_X10_has
set_option maxRecDepth 20000 in
theorem ggX10_mends_X10_no : GoodIn wsX10_mends wsX10_no := goodIn_r _ [14, 15, 19, 20, 21, 22, 23, 24, 25, 26, 27, 28, 29, 30, 31, 32, 33, 34, 35, 36, 37, 38, 39, 40, 41, 42, 43] (by decide +kernel) (by decide +kernel)
set_option maxRecDepth 20000 in
theorem gX10_mends_X10_no : GoodIn wsX10_mends (wsV RX10 63 RX10 yX10_no wsX10_no) := goodIn_app (goodIn_of _ (by decide +kernel)) ggX10_mends_X10_no
set_option maxRecDepth 20000 in
theorem ggX10_mends_X10_bits : GoodIn wsX10_mends wsX10_bits := goodIn_r _ [18] (by decide +kernel) (by decide +kernel)
set_option maxRecDepth 20000 in
theorem gX10_mends_X10_bits : GoodIn wsX10_mends (va_wsS RX10 150 yX10_bits wsX10_bits) := goodIn_app (goodIn_of _ (by decide +kernel)) ggX10_mends_X10_bits
set_option maxRecDepth 20000 in
theorem ggX10_guards_X10_isThing : GoodIn wsX10_guards wsX10_isThing := goodIn_r _ [6, 7, 13, 14, 15, 16, 17, 18, 19, 20, 21, 22, 23, 24, 25, 26, 27, 28, 29, 30, 31, 32, 33, 34, 35, 36, 37] (by decide +kernel) (by decide +kernel)
set_option maxRecDepth 20000 in
theorem gX10_guards_X10_isThing : GoodIn wsX10_guards (wsV RX10 100 RX10 yX10_isThing wsX10_isThing) := goodIn_app (goodIn_of _ (by decide +kernel)) ggX10_guards_X10_isThing
set_option maxRecDepth 20000 in
theorem ggX10_guards_X10_no : GoodIn wsX10_guards wsX10_no := goodIn_r _ [11, 12, 13, 14, 15, 16, 17, 18, 19, 20, 21, 22, 23, 24, 25, 26, 27, 28, 29, 30, 31, 32, 33, 34, 35, 36, 37] (by decide +kernel) (by decide +kernel)
set_option maxRecDepth 20000 in
theorem gX10_guards_X10_no : GoodIn wsX10_guards (wsV RX10 63 RX10 yX10_no wsX10_no) := goodIn_app (goodIn_of _ (by decide +kernel)) ggX10_guards_X10_no
set_option maxRecDepth 20000 in
theorem ggX10_turn_X10_isThing : GoodIn wsX10_turn wsX10_isThing := goodIn_r _ [7, 8, 20, 21, 22, 23, 24, 25, 26, 27, 28, 29, 30, 31, 32, 33, 34, 35, 36, 37, 38, 39, 40, 41, 42, 43, 44] (by decide +kernel) (by decide +kernel)
set_option maxRecDepth 20000 in
theorem gX10_turn_X10_isThing : GoodIn wsX10_turn (wsV RX10 100 RX10 yX10_isThing wsX10_isThing) := goodIn_app (goodIn_of _ (by decide +kernel)) ggX10_turn_X10_isThing
set_option maxRecDepth 20000 in
theorem ggX10_turn_X10_isIn : GoodIn wsX10_turn wsX10_isIn := goodIn_r _ [11] (by decide +kernel) (by decide +kernel)
set_option maxRecDepth 20000 in
theorem gX10_turn_X10_isIn : GoodIn wsX10_turn (va_wsS RX10 74 yX10_isIn wsX10_isIn) := goodIn_app (goodIn_of _ (by decide +kernel)) ggX10_turn_X10_isIn
set_option maxRecDepth 20000 in
theorem ggX10_turn_X10_bound : GoodIn wsX10_turn wsX10_bound := goodIn_r _ [14] (by decide +kernel) (by decide +kernel)
set_option maxRecDepth 20000 in
theorem gX10_turn_X10_bound : GoodIn wsX10_turn (va_wsS RX10 56 yX10_bound wsX10_bound) := goodIn_app (goodIn_of _ (by decide +kernel)) ggX10_turn_X10_bound
set_option maxRecDepth 20000 in
theorem ggX10_turn_X10_no : GoodIn wsX10_turn wsX10_no := goodIn_r _ [18, 19, 20, 21, 22, 23, 24, 25, 26, 27, 28, 29, 30, 31, 32, 33, 34, 35, 36, 37, 38, 39, 40, 41, 42, 43, 44] (by decide +kernel) (by decide +kernel)
set_option maxRecDepth 20000 in
theorem gX10_turn_X10_no : GoodIn wsX10_turn (wsV RX10 63 RX10 yX10_no wsX10_no) := goodIn_app (goodIn_of _ (by decide +kernel)) ggX10_turn_X10_no
set_option maxRecDepth 20000 in
theorem ggX10_days_X10_bound : GoodIn wsX10_days wsX10_bound := goodIn_r _ [6] (by decide +kernel) (by decide +kernel)
set_option maxRecDepth 20000 in
theorem gX10_days_X10_bound : GoodIn wsX10_days (va_wsS RX10 56 yX10_bound wsX10_bound) := goodIn_app (goodIn_of _ (by decide +kernel)) ggX10_days_X10_bound
set_option maxRecDepth 20000 in
theorem ggX10_days_X10_no : GoodIn wsX10_days wsX10_no := goodIn_r _ [10, 11, 35, 36, 37, 38, 39, 40, 41, 42, 43, 44, 45, 46, 47, 48, 49, 50, 51, 52, 53, 54, 55, 56, 57, 58, 59] (by decide +kernel) (by decide +kernel)
set_option maxRecDepth 20000 in
theorem gX10_days_X10_no : GoodIn wsX10_days (wsV RX10 63 RX10 yX10_no wsX10_no) := goodIn_app (goodIn_of _ (by decide +kernel)) ggX10_days_X10_no
set_option maxRecDepth 20000 in
theorem ggX10_days_X10_goes : GoodIn wsX10_days wsX10_goes := goodIn_r _ [15, 16, 17, 18, 5, 19, 1, 20, 2, 21, 22, 23, 24, 25, 26, 27, 28, 29, 30, 31, 32, 33, 34, 35, 36, 37, 38, 39, 40, 41, 42, 43, 44, 45, 46, 47, 48, 49, 50, 51, 52, 53, 54, 55, 56, 57, 58, 59] (by decide +kernel) (by decide +kernel)
set_option maxRecDepth 20000 in
theorem gX10_days_X10_goes : GoodIn wsX10_days (wsV RX10 106 RX10 yX10_goes wsX10_goes) := goodIn_app (goodIn_of _ (by decide +kernel)) ggX10_days_X10_goes
set_option maxRecDepth 20000 in
theorem ggX10_days_X10_bits : GoodIn wsX10_days wsX10_bits := goodIn_r _ [28] (by decide +kernel) (by decide +kernel)
set_option maxRecDepth 20000 in
theorem gX10_days_X10_bits : GoodIn wsX10_days (va_wsS RX10 150 yX10_bits wsX10_bits) := goodIn_app (goodIn_of _ (by decide +kernel)) ggX10_days_X10_bits
set_option maxRecDepth 20000 in
theorem ggX10_lostThen_X10_bound : GoodIn wsX10_lostThen wsX10_bound := goodIn_r _ [4] (by decide +kernel) (by decide +kernel)
set_option maxRecDepth 20000 in
theorem gX10_lostThen_X10_bound : GoodIn wsX10_lostThen (va_wsS RX10 56 yX10_bound wsX10_bound) := goodIn_app (goodIn_of _ (by decide +kernel)) ggX10_lostThen_X10_bound
set_option maxRecDepth 20000 in
theorem ggX10_lostThen_X10_no : GoodIn wsX10_lostThen wsX10_no := goodIn_r _ [8, 9, 62, 63, 64, 65, 66, 67, 68, 69, 70, 71, 72, 73, 74, 75, 76, 77, 78, 79, 80, 81, 82, 83, 84, 85, 86] (by decide +kernel) (by decide +kernel)
set_option maxRecDepth 20000 in
theorem gX10_lostThen_X10_no : GoodIn wsX10_lostThen (wsV RX10 63 RX10 yX10_no wsX10_no) := goodIn_app (goodIn_of _ (by decide +kernel)) ggX10_lostThen_X10_no
set_option maxRecDepth 20000 in
theorem ggX10_lostThen_X10_lostIn : GoodIn wsX10_lostThen wsX10_lostIn := goodIn_r _ [13, 14, 15, 16, 17, 3, 18, 19, 20, 21, 22, 23, 24, 25, 26, 27, 28, 29, 30, 31, 32, 33, 34, 35, 36, 37, 38, 39, 40, 41, 42, 43, 44, 45, 46, 47, 48, 49, 50, 51, 52, 53, 54, 55, 56, 57, 58, 59, 60, 61, 62, 63, 64, 65, 66, 67, 68, 69, 70, 71, 72, 73, 74, 75, 76, 77, 78, 79, 80, 81, 82, 83, 84, 85, 86] (by decide +kernel) (by decide +kernel)
set_option maxRecDepth 20000 in
theorem gX10_lostThen_X10_lostIn : GoodIn wsX10_lostThen (wsV RX10 165 RX10 yX10_lostIn wsX10_lostIn) := goodIn_app (goodIn_of _ (by decide +kernel)) ggX10_lostThen_X10_lostIn
set_option maxRecDepth 20000 in
theorem ggX10_when_X10_isThing : GoodIn wsX10_when wsX10_isThing := goodIn_r _ [5, 6, 59, 60, 61, 62, 63, 64, 65, 66, 67, 68, 69, 70, 71, 72, 73, 74, 75, 76, 77, 78, 79, 80, 81, 82, 83] (by decide +kernel) (by decide +kernel)
set_option maxRecDepth 20000 in
theorem gX10_when_X10_isThing : GoodIn wsX10_when (wsV RX10 100 RX10 yX10_isThing wsX10_isThing) := goodIn_app (goodIn_of _ (by decide +kernel)) ggX10_when_X10_isThing
set_option maxRecDepth 20000 in
theorem ggX10_when_X10_lostWhen : GoodIn wsX10_when wsX10_lostWhen := goodIn_r _ [10, 11, 12, 13, 14, 4, 15, 16, 17, 18, 19, 20, 21, 22, 23, 24, 6, 25, 26, 27, 28, 29, 30, 31, 32, 33, 34, 35, 36, 37, 38, 39, 40, 41, 42, 43, 44, 45, 46, 47, 48, 49, 50, 51, 52, 53, 59, 60, 61, 62, 63, 64, 65, 66, 67, 68, 69, 70, 71, 72, 73, 74, 75, 76, 77, 78, 79, 80, 81, 82, 83] (by decide +kernel) (by decide +kernel)
set_option maxRecDepth 20000 in
theorem gX10_when_X10_lostWhen : GoodIn wsX10_when (wsV RX10 171 RX10 yX10_lostWhen wsX10_lostWhen) := goodIn_app (goodIn_of _ (by decide +kernel)) ggX10_when_X10_lostWhen
set_option maxRecDepth 20000 in
theorem ggX10_when_X10_no : GoodIn wsX10_when wsX10_no := goodIn_r _ [57, 58, 59, 60, 61, 62, 63, 64, 65, 66, 67, 68, 69, 70, 71, 72, 73, 74, 75, 76, 77, 78, 79, 80, 81, 82, 83] (by decide +kernel) (by decide +kernel)
set_option maxRecDepth 20000 in
theorem gX10_when_X10_no : GoodIn wsX10_when (wsV RX10 63 RX10 yX10_no wsX10_no) := goodIn_app (goodIn_of _ (by decide +kernel)) ggX10_when_X10_no
set_option maxRecDepth 20000 in
theorem ggX10_nextOne_X10_lostWhen : GoodIn wsX10_nextOne wsX10_lostWhen := goodIn_r _ [7, 8, 9, 10, 11, 6, 12, 13, 14, 15, 16, 17, 18, 19, 20, 21, 2, 22, 23, 24, 25, 26, 27, 28, 29, 30, 31, 32, 33, 34, 35, 36, 37, 38, 39, 40, 41, 42, 43, 44, 45, 46, 47, 48, 49, 50, 51, 52, 53, 54, 55, 56, 57, 58, 59, 60, 61, 62, 63, 64, 65, 66, 67, 68, 69, 70, 71, 72, 73, 74, 75] (by decide +kernel) (by decide +kernel)
set_option maxRecDepth 20000 in
theorem gX10_nextOne_X10_lostWhen : GoodIn wsX10_nextOne (wsV RX10 171 RX10 yX10_lostWhen wsX10_lostWhen) := goodIn_app (goodIn_of _ (by decide +kernel)) ggX10_nextOne_X10_lostWhen
set_option maxRecDepth 20000 in
theorem ggX10_still_X10_lostIn : GoodIn wsX10_still wsX10_lostIn := goodIn_r _ [5, 6, 7, 8, 9, 4, 10, 11, 12, 13, 14, 15, 16, 17, 18, 19, 20, 21, 22, 23, 24, 25, 26, 27, 28, 29, 30, 31, 32, 33, 34, 35, 36, 37, 38, 39, 40, 41, 42, 43, 44, 45, 46, 47, 48, 49, 50, 51, 52, 53, 54, 55, 56, 57, 58, 59, 60, 61, 62, 63, 64, 65, 66, 67, 68, 69, 70, 71, 72, 73, 74, 75, 76, 77, 78] (by decide +kernel) (by decide +kernel)
set_option maxRecDepth 20000 in
theorem gX10_still_X10_lostIn : GoodIn wsX10_still (wsV RX10 165 RX10 yX10_lostIn wsX10_lostIn) := goodIn_app (goodIn_of _ (by decide +kernel)) ggX10_still_X10_lostIn
set_option maxRecDepth 20000 in
theorem ggX10_next__X10_isIn : GoodIn wsX10_next_ wsX10_isIn := goodIn_r _ [5] (by decide +kernel) (by decide +kernel)
set_option maxRecDepth 20000 in
theorem gX10_next__X10_isIn : GoodIn wsX10_next_ (va_wsS RX10 74 yX10_isIn wsX10_isIn) := goodIn_app (goodIn_of _ (by decide +kernel)) ggX10_next__X10_isIn
set_option maxRecDepth 20000 in
theorem ggX10_next__X10_no : GoodIn wsX10_next_ wsX10_no := goodIn_r _ [9, 10, 75, 76, 77, 78, 79, 80, 81, 82, 83, 84, 85, 86, 87, 88, 89, 90, 91, 92, 93, 94, 95, 96, 97, 98, 99] (by decide +kernel) (by decide +kernel)
set_option maxRecDepth 20000 in
theorem gX10_next__X10_no : GoodIn wsX10_next_ (wsV RX10 63 RX10 yX10_no wsX10_no) := goodIn_app (goodIn_of _ (by decide +kernel)) ggX10_next__X10_no
set_option maxRecDepth 20000 in
theorem ggX10_next__X10_still : GoodIn wsX10_next_ wsX10_still := goodIn_r _ [14, 15, 16, 17, 4, 18, 19, 20, 21, 22, 23, 24, 25, 26, 27, 28, 29, 30, 31, 32, 33, 34, 35, 36, 37, 38, 39, 40, 41, 42, 43, 44, 45, 46, 47, 48, 49, 50, 51, 52, 53, 54, 55, 56, 57, 58, 59, 60, 61, 62, 63, 64, 65, 66, 75, 76, 77, 78, 79, 80, 81, 82, 83, 84, 85, 86, 87, 88, 89, 90, 91, 92, 93, 94, 95, 96, 97, 98, 99] (by decide +kernel) (by decide +kernel)
set_option maxRecDepth 20000 in
theorem gX10_next__X10_still : GoodIn wsX10_next_ (wsV RX10 178 RX10 yX10_still wsX10_still) := goodIn_app (goodIn_of _ (by decide +kernel)) ggX10_next__X10_still
set_option maxRecDepth 20000 in
theorem ggX10_next__X10_nextOne : GoodIn wsX10_next_ wsX10_nextOne := goodIn_r _ [70, 1, 33, 71, 72, 73, 4, 74, 19, 20, 21, 22, 23, 24, 25, 26, 27, 28, 29, 30, 31, 32, 34, 35, 36, 37, 38, 39, 40, 41, 42, 43, 44, 53, 54, 55, 49, 50, 51, 52, 56, 57, 58, 59, 60, 61, 62, 63, 64, 65, 66, 75, 76, 77, 78, 79, 80, 81, 82, 83, 84, 85, 86, 87, 88, 89, 90, 91, 92, 93, 94, 95, 96, 97, 98, 99] (by decide +kernel) (by decide +kernel)
set_option maxRecDepth 20000 in
theorem gX10_next__X10_nextOne : GoodIn wsX10_next_ (wsV RX10 181 RX10 yX10_nextOne wsX10_nextOne) := goodIn_app (goodIn_of _ (by decide +kernel)) ggX10_next__X10_nextOne
set_option maxRecDepth 20000 in
theorem ggX10_rootsOf_X10_has : GoodIn wsX10_rootsOf wsX10_has := goodIn_r _ [5] (by decide +kernel) (by decide +kernel)
set_option maxRecDepth 20000 in
theorem gX10_rootsOf_X10_has : GoodIn wsX10_rootsOf (va_wsS RX10 52 yX10_has wsX10_has) := goodIn_app (goodIn_of _ (by decide +kernel)) ggX10_rootsOf_X10_has
set_option maxRecDepth 20000 in
theorem ggX10_fruitsOf_X10_rootsOf : GoodIn wsX10_fruitsOf wsX10_rootsOf := goodIn_r _ [6, 7, 8, 9, 5, 10, 11, 12, 13, 14, 15, 16, 17, 18, 19, 20, 21, 22, 23, 24, 25, 26, 27, 28, 29, 30, 31, 32, 33, 34, 35] (by decide +kernel) (by decide +kernel)
set_option maxRecDepth 20000 in
theorem gX10_fruitsOf_X10_rootsOf : GoodIn wsX10_fruitsOf (wsV RX10 184 RX10 yX10_rootsOf wsX10_rootsOf) := goodIn_app (goodIn_of _ (by decide +kernel)) ggX10_fruitsOf_X10_rootsOf
set_option maxRecDepth 20000 in
theorem ggX10_fruitsOf_X10_has : GoodIn wsX10_fruitsOf wsX10_has := goodIn_r _ [10] (by decide +kernel) (by decide +kernel)
set_option maxRecDepth 20000 in
theorem gX10_fruitsOf_X10_has : GoodIn wsX10_fruitsOf (va_wsS RX10 52 yX10_has wsX10_has) := goodIn_app (goodIn_of _ (by decide +kernel)) ggX10_fruitsOf_X10_has
set_option maxRecDepth 20000 in
theorem ggX10_roots_X10_isThing : GoodIn wsX10_roots wsX10_isThing := goodIn_r _ [5, 6, 27, 28, 29, 30, 31, 32, 33, 34, 35, 36, 37, 38, 39, 40, 41, 42, 43, 44, 45, 46, 47, 48, 49, 50, 51] (by decide +kernel) (by decide +kernel)
set_option maxRecDepth 20000 in
theorem gX10_roots_X10_isThing : GoodIn wsX10_roots (wsV RX10 100 RX10 yX10_isThing wsX10_isThing) := goodIn_app (goodIn_of _ (by decide +kernel)) ggX10_roots_X10_isThing
set_option maxRecDepth 20000 in
theorem ggX10_roots_X10_isIn : GoodIn wsX10_roots wsX10_isIn := goodIn_r _ [9] (by decide +kernel) (by decide +kernel)
set_option maxRecDepth 20000 in
theorem gX10_roots_X10_isIn : GoodIn wsX10_roots (va_wsS RX10 74 yX10_isIn wsX10_isIn) := goodIn_app (goodIn_of _ (by decide +kernel)) ggX10_roots_X10_isIn
set_option maxRecDepth 20000 in
theorem ggX10_roots_X10_no : GoodIn wsX10_roots wsX10_no := goodIn_r _ [13, 14, 27, 28, 29, 30, 31, 32, 33, 34, 35, 36, 37, 38, 39, 40, 41, 42, 43, 44, 45, 46, 47, 48, 49, 50, 51] (by decide +kernel) (by decide +kernel)
set_option maxRecDepth 20000 in
theorem gX10_roots_X10_no : GoodIn wsX10_roots (wsV RX10 63 RX10 yX10_no wsX10_no) := goodIn_app (goodIn_of _ (by decide +kernel)) ggX10_roots_X10_no
set_option maxRecDepth 20000 in
theorem ggX10_roots_X10_rootsOf : GoodIn wsX10_roots wsX10_rootsOf := goodIn_r _ [18, 19, 20, 21, 4, 22, 27, 28, 29, 30, 31, 32, 33, 34, 35, 36, 37, 38, 39, 40, 41, 42, 43, 44, 45, 46, 47, 48, 49, 50, 51] (by decide +kernel) (by decide +kernel)
set_option maxRecDepth 20000 in
theorem gX10_roots_X10_rootsOf : GoodIn wsX10_roots (wsV RX10 184 RX10 yX10_rootsOf wsX10_rootsOf) := goodIn_app (goodIn_of _ (by decide +kernel)) ggX10_roots_X10_rootsOf
set_option maxRecDepth 20000 in
theorem ggX10_roots_X10_fruitsOf : GoodIn wsX10_roots wsX10_fruitsOf := goodIn_r _ [26, 6, 15, 16, 17, 4, 18, 19, 20, 21, 22, 27, 28, 29, 30, 31, 32, 33, 34, 35, 36, 37, 38, 39, 40, 41, 42, 43, 44, 45, 46, 47, 48, 49, 50, 51] (by decide +kernel) (by decide +kernel)
set_option maxRecDepth 20000 in
theorem gX10_roots_X10_fruitsOf : GoodIn wsX10_roots (wsV RX10 187 RX10 yX10_fruitsOf wsX10_fruitsOf) := goodIn_app (goodIn_of _ (by decide +kernel)) ggX10_roots_X10_fruitsOf
set_option maxRecDepth 20000 in
theorem ggX10_bare_X10_all : GoodIn wsX10_bare wsX10_all := goodIn_r _ [7, 8, 9, 10, 11, 12, 13, 14, 15, 16, 17, 18, 19, 20, 21, 22, 23, 24, 25, 26, 27, 28, 29, 30, 31, 32, 33] (by decide +kernel) (by decide +kernel)
set_option maxRecDepth 20000 in
theorem gX10_bare_X10_all : GoodIn wsX10_bare (wsV RX10 190 RX10 yX10_all wsX10_all) := goodIn_app (goodIn_of _ (by decide +kernel)) ggX10_bare_X10_all
set_option maxRecDepth 20000 in
theorem ggX10_lostGuarding_X10_lostIn : GoodIn wsX10_lostGuarding wsX10_lostIn := goodIn_r _ [6, 7, 8, 9, 10, 5, 11, 12, 13, 14, 15, 16, 17, 18, 19, 20, 21, 22, 1, 23, 24, 25, 26, 27, 28, 29, 30, 31, 32, 33, 34, 35, 36, 37, 38, 39, 40, 41, 42, 43, 44, 45, 46, 47, 48, 49, 50, 51, 52, 53, 54, 55, 56, 57, 58, 59, 60, 61, 62, 63, 64, 65, 66, 67, 68, 69, 70, 71, 72, 73, 74, 75, 76, 77, 78] (by decide +kernel) (by decide +kernel)
set_option maxRecDepth 20000 in
theorem gX10_lostGuarding_X10_lostIn : GoodIn wsX10_lostGuarding (wsV RX10 165 RX10 yX10_lostIn wsX10_lostIn) := goodIn_app (goodIn_of _ (by decide +kernel)) ggX10_lostGuarding_X10_lostIn
set_option maxRecDepth 20000 in
theorem ggX10_guard_X10_isThing : GoodIn wsX10_guard wsX10_isThing := goodIn_r _ [5, 6, 78, 79, 80, 81, 82, 83, 84, 85, 86, 87, 88, 89, 90, 91, 92, 93, 94, 95, 96, 97, 98, 99, 100, 101, 102] (by decide +kernel) (by decide +kernel)
set_option maxRecDepth 20000 in
theorem gX10_guard_X10_isThing : GoodIn wsX10_guard (wsV RX10 100 RX10 yX10_isThing wsX10_isThing) := goodIn_app (goodIn_of _ (by decide +kernel)) ggX10_guard_X10_isThing
set_option maxRecDepth 20000 in
theorem ggX10_guard_X10_bound : GoodIn wsX10_guard wsX10_bound := goodIn_r _ [9] (by decide +kernel) (by decide +kernel)
set_option maxRecDepth 20000 in
theorem gX10_guard_X10_bound : GoodIn wsX10_guard (va_wsS RX10 56 yX10_bound wsX10_bound) := goodIn_app (goodIn_of _ (by decide +kernel)) ggX10_guard_X10_bound
set_option maxRecDepth 20000 in
theorem ggX10_guard_X10_no : GoodIn wsX10_guard wsX10_no := goodIn_r _ [13, 14, 78, 79, 80, 81, 82, 83, 84, 85, 86, 87, 88, 89, 90, 91, 92, 93, 94, 95, 96, 97, 98, 99, 100, 101, 102] (by decide +kernel) (by decide +kernel)
set_option maxRecDepth 20000 in
theorem gX10_guard_X10_no : GoodIn wsX10_guard (wsV RX10 63 RX10 yX10_no wsX10_no) := goodIn_app (goodIn_of _ (by decide +kernel)) ggX10_guard_X10_no
set_option maxRecDepth 20000 in
theorem ggX10_guard_X10_all : GoodIn wsX10_guard wsX10_all := goodIn_r _ [18, 6, 78, 79, 80, 81, 82, 83, 84, 85, 86, 87, 88, 89, 90, 91, 92, 93, 94, 95, 96, 97, 98, 99, 100, 101, 102] (by decide +kernel) (by decide +kernel)
set_option maxRecDepth 20000 in
theorem gX10_guard_X10_all : GoodIn wsX10_guard (wsV RX10 190 RX10 yX10_all wsX10_all) := goodIn_app (goodIn_of _ (by decide +kernel)) ggX10_guard_X10_all
set_option maxRecDepth 20000 in
theorem ggX10_guard_X10_bare : GoodIn wsX10_guard wsX10_bare := goodIn_r _ [22, 23, 24, 15, 16, 17, 4, 18, 6, 78, 79, 80, 81, 82, 83, 84, 85, 86, 87, 88, 89, 90, 91, 92, 93, 94, 95, 96, 97, 98, 99, 100, 101, 102] (by decide +kernel) (by decide +kernel)
set_option maxRecDepth 20000 in
theorem gX10_guard_X10_bare : GoodIn wsX10_guard (wsV RX10 193 RX10 yX10_bare wsX10_bare) := goodIn_app (goodIn_of _ (by decide +kernel)) ggX10_guard_X10_bare
set_option maxRecDepth 20000 in
theorem ggX10_guard_X10_bits : GoodIn wsX10_guard wsX10_bits := goodIn_r _ [27] (by decide +kernel) (by decide +kernel)
set_option maxRecDepth 20000 in
theorem gX10_guard_X10_bits : GoodIn wsX10_guard (va_wsS RX10 150 yX10_bits wsX10_bits) := goodIn_app (goodIn_of _ (by decide +kernel)) ggX10_guard_X10_bits
set_option maxRecDepth 20000 in
theorem ggX10_guard_X10_lostGuarding : GoodIn wsX10_guard wsX10_lostGuarding := goodIn_r _ [31, 24, 32, 33, 34, 4, 35, 23, 36, 37, 38, 39, 40, 41, 42, 43, 44, 45, 46, 47, 48, 6, 49, 50, 51, 52, 53, 54, 55, 56, 57, 58, 59, 60, 61, 62, 63, 64, 65, 66, 67, 68, 69, 25, 26, 27, 70, 71, 72, 73, 74, 75, 76, 77, 78, 79, 80, 81, 82, 83, 84, 85, 86, 87, 88, 89, 90, 91, 92, 93, 94, 95, 96, 97, 98, 99, 100, 101, 102] (by decide +kernel) (by decide +kernel)
set_option maxRecDepth 20000 in
theorem gX10_guard_X10_lostGuarding : GoodIn wsX10_guard (wsV RX10 196 RX10 yX10_lostGuarding wsX10_lostGuarding) := goodIn_app (goodIn_of _ (by decide +kernel)) ggX10_guard_X10_lostGuarding
set_option maxRecDepth 20000 in
theorem ggX10_guard_X10_has : GoodIn wsX10_guard wsX10_has := goodIn_r _ [69] (by decide +kernel) (by decide +kernel)
set_option maxRecDepth 20000 in
theorem gX10_guard_X10_has : GoodIn wsX10_guard (va_wsS RX10 52 yX10_has wsX10_has) := goodIn_app (goodIn_of _ (by decide +kernel)) ggX10_guard_X10_has
set_option maxRecDepth 20000 in
theorem ggX10_weak_X10_bound : GoodIn wsX10_weak wsX10_bound := goodIn_r _ [5] (by decide +kernel) (by decide +kernel)
set_option maxRecDepth 20000 in
theorem gX10_weak_X10_bound : GoodIn wsX10_weak (va_wsS RX10 56 yX10_bound wsX10_bound) := goodIn_app (goodIn_of _ (by decide +kernel)) ggX10_weak_X10_bound
set_option maxRecDepth 20000 in
theorem ggX10_weak_X10_no : GoodIn wsX10_weak wsX10_no := goodIn_r _ [9, 10, 66, 67, 68, 69, 70, 71, 72, 73, 74, 75, 76, 77, 78, 79, 80, 81, 82, 83, 84, 85, 86, 87, 88, 89, 90] (by decide +kernel) (by decide +kernel)
set_option maxRecDepth 20000 in
theorem gX10_weak_X10_no : GoodIn wsX10_weak (wsV RX10 63 RX10 yX10_no wsX10_no) := goodIn_app (goodIn_of _ (by decide +kernel)) ggX10_weak_X10_no
set_option maxRecDepth 20000 in
theorem ggX10_weak_X10_lostIn : GoodIn wsX10_weak wsX10_lostIn := goodIn_r _ [14, 15, 16, 17, 18, 4, 19, 20, 21, 22, 23, 24, 25, 26, 27, 28, 1, 29, 30, 31, 32, 33, 34, 35, 36, 37, 38, 39, 40, 41, 42, 43, 44, 45, 46, 47, 48, 49, 50, 51, 52, 53, 54, 55, 56, 57, 58, 59, 60, 61, 66, 67, 68, 69, 70, 71, 72, 73, 74, 75, 76, 77, 78, 79, 80, 81, 82, 83, 84, 85, 86, 87, 88, 89, 90] (by decide +kernel) (by decide +kernel)
set_option maxRecDepth 20000 in
theorem gX10_weak_X10_lostIn : GoodIn wsX10_weak (wsV RX10 165 RX10 yX10_lostIn wsX10_lostIn) := goodIn_app (goodIn_of _ (by decide +kernel)) ggX10_weak_X10_lostIn
set_option maxRecDepth 20000 in
theorem ggX10_weak_X10_bits : GoodIn wsX10_weak wsX10_bits := goodIn_r _ [53] (by decide +kernel) (by decide +kernel)
set_option maxRecDepth 20000 in
theorem gX10_weak_X10_bits : GoodIn wsX10_weak (va_wsS RX10 150 yX10_bits wsX10_bits) := goodIn_app (goodIn_of _ (by decide +kernel)) ggX10_weak_X10_bits
set_option maxRecDepth 20000 in
theorem ggX10_weak_X10_lostGuarding : GoodIn wsX10_weak wsX10_lostGuarding := goodIn_r _ [65, 30, 11, 12, 13, 4, 14, 15, 16, 17, 18, 19, 20, 21, 22, 23, 24, 25, 26, 27, 28, 1, 29, 31, 32, 33, 34, 35, 36, 37, 38, 39, 40, 41, 42, 43, 44, 45, 46, 47, 48, 49, 50, 51, 52, 53, 54, 55, 56, 57, 58, 59, 60, 61, 66, 67, 68, 69, 70, 71, 72, 73, 74, 75, 76, 77, 78, 79, 80, 81, 82, 83, 84, 85, 86, 87, 88, 89, 90] (by decide +kernel) (by decide +kernel)
set_option maxRecDepth 20000 in
theorem gX10_weak_X10_lostGuarding : GoodIn wsX10_weak (wsV RX10 196 RX10 yX10_lostGuarding wsX10_lostGuarding) := goodIn_app (goodIn_of _ (by decide +kernel)) ggX10_weak_X10_lostGuarding
set_option maxRecDepth 20000 in
theorem ggX10_whenWith_X10_lostWhen : GoodIn wsX10_whenWith wsX10_lostWhen := goodIn_r _ [6, 1, 7, 8, 9, 5, 10, 11, 12, 13, 14, 15, 16, 17, 18, 19, 20, 21, 22, 23, 24, 25, 26, 27, 28, 29, 30, 31, 32, 33, 34, 35, 36, 37, 38, 39, 40, 41, 42, 43, 44, 45, 46, 47, 48, 49, 50, 51, 52, 53, 54, 55, 56, 57, 58, 59, 60, 61, 62, 63, 64, 65, 66, 67, 68, 69, 70, 71, 72, 73, 74] (by decide +kernel) (by decide +kernel)
set_option maxRecDepth 20000 in
theorem gX10_whenWith_X10_lostWhen : GoodIn wsX10_whenWith (wsV RX10 171 RX10 yX10_lostWhen wsX10_lostWhen) := goodIn_app (goodIn_of _ (by decide +kernel)) ggX10_whenWith_X10_lostWhen
set_option maxRecDepth 20000 in
theorem ggX10_tack_X10_isThing : GoodIn wsX10_tack wsX10_isThing := goodIn_r _ [6, 1, 75, 76, 77, 78, 79, 80, 81, 82, 83, 84, 85, 86, 87, 88, 89, 90, 91, 92, 93, 94, 95, 96, 97, 98, 99] (by decide +kernel) (by decide +kernel)
set_option maxRecDepth 20000 in
theorem gX10_tack_X10_isThing : GoodIn wsX10_tack (wsV RX10 100 RX10 yX10_isThing wsX10_isThing) := goodIn_app (goodIn_of _ (by decide +kernel)) ggX10_tack_X10_isThing
set_option maxRecDepth 20000 in
theorem ggX10_tack_X10_no : GoodIn wsX10_tack wsX10_no := goodIn_r _ [10, 11, 75, 76, 77, 78, 79, 80, 81, 82, 83, 84, 85, 86, 87, 88, 89, 90, 91, 92, 93, 94, 95, 96, 97, 98, 99] (by decide +kernel) (by decide +kernel)
set_option maxRecDepth 20000 in
theorem gX10_tack_X10_no : GoodIn wsX10_tack (wsV RX10 63 RX10 yX10_no wsX10_no) := goodIn_app (goodIn_of _ (by decide +kernel)) ggX10_tack_X10_no
set_option maxRecDepth 20000 in
theorem ggX10_tack_X10_nails : GoodIn wsX10_tack wsX10_nails := goodIn_r _ [15, 1, 16, 75, 76, 77, 78, 79, 80, 81, 82, 83, 84, 85, 86, 87, 88, 89, 90, 91, 92, 93, 94, 95, 96, 97, 98, 99] (by decide +kernel) (by decide +kernel)
set_option maxRecDepth 20000 in
theorem gX10_tack_X10_nails : GoodIn wsX10_tack (wsV RX10 199 RX10 yX10_nails wsX10_nails) := goodIn_app (goodIn_of _ (by decide +kernel)) ggX10_tack_X10_nails
set_option maxRecDepth 20000 in
theorem ggX10_tack_X10_bare : GoodIn wsX10_tack wsX10_bare := goodIn_r _ [20, 21, 22, 23, 24, 25, 5, 26, 1, 75, 76, 77, 78, 79, 80, 81, 82, 83, 84, 85, 86, 87, 88, 89, 90, 91, 92, 93, 94, 95, 96, 97, 98, 99] (by decide +kernel) (by decide +kernel)
set_option maxRecDepth 20000 in
theorem gX10_tack_X10_bare : GoodIn wsX10_tack (wsV RX10 193 RX10 yX10_bare wsX10_bare) := goodIn_app (goodIn_of _ (by decide +kernel)) ggX10_tack_X10_bare
set_option maxRecDepth 20000 in
theorem ggX10_tack_X10_whenWith : GoodIn wsX10_tack wsX10_whenWith := goodIn_r _ [30, 21, 31, 32, 33, 5, 34, 35, 36, 37, 38, 39, 40, 41, 42, 43, 44, 45, 46, 16, 1, 47, 22, 48, 49, 50, 51, 52, 53, 54, 55, 56, 57, 58, 59, 60, 61, 62, 63, 64, 65, 66, 67, 68, 69, 70, 71, 72, 73, 74, 75, 76, 77, 78, 79, 80, 81, 82, 83, 84, 85, 86, 87, 88, 89, 90, 91, 92, 93, 94, 95, 96, 97, 98, 99] (by decide +kernel) (by decide +kernel)
set_option maxRecDepth 20000 in
theorem gX10_tack_X10_whenWith : GoodIn wsX10_tack (wsV RX10 202 RX10 yX10_whenWith wsX10_whenWith) := goodIn_app (goodIn_of _ (by decide +kernel)) ggX10_tack_X10_whenWith
set_option maxRecDepth 20000 in
theorem ggX10_tack_X10_has : GoodIn wsX10_tack wsX10_has := goodIn_r _ [59] (by decide +kernel) (by decide +kernel)
set_option maxRecDepth 20000 in
theorem gX10_tack_X10_has : GoodIn wsX10_tack (va_wsS RX10 52 yX10_has wsX10_has) := goodIn_app (goodIn_of _ (by decide +kernel)) ggX10_tack_X10_has
set_option maxRecDepth 20000 in
theorem ggX10_worst_X10_bound : GoodIn wsX10_worst wsX10_bound := goodIn_r _ [5] (by decide +kernel) (by decide +kernel)
set_option maxRecDepth 20000 in
theorem gX10_worst_X10_bound : GoodIn wsX10_worst (va_wsS RX10 56 yX10_bound wsX10_bound) := goodIn_app (goodIn_of _ (by decide +kernel)) ggX10_worst_X10_bound
set_option maxRecDepth 20000 in
theorem ggX10_worst_X10_no : GoodIn wsX10_worst wsX10_no := goodIn_r _ [9, 10, 78, 79, 80, 81, 82, 83, 84, 85, 86, 87, 88, 89, 90, 91, 92, 93, 94, 95, 96, 97, 98, 99, 100, 101, 102] (by decide +kernel) (by decide +kernel)
set_option maxRecDepth 20000 in
theorem gX10_worst_X10_no : GoodIn wsX10_worst (wsV RX10 63 RX10 yX10_no wsX10_no) := goodIn_app (goodIn_of _ (by decide +kernel)) ggX10_worst_X10_no
set_option maxRecDepth 20000 in
theorem ggX10_worst_X10_nails : GoodIn wsX10_worst wsX10_nails := goodIn_r _ [14, 1, 15, 78, 79, 80, 81, 82, 83, 84, 85, 86, 87, 88, 89, 90, 91, 92, 93, 94, 95, 96, 97, 98, 99, 100, 101, 102] (by decide +kernel) (by decide +kernel)
set_option maxRecDepth 20000 in
theorem gX10_worst_X10_nails : GoodIn wsX10_worst (wsV RX10 199 RX10 yX10_nails wsX10_nails) := goodIn_app (goodIn_of _ (by decide +kernel)) ggX10_worst_X10_nails
set_option maxRecDepth 20000 in
theorem ggX10_worst_X10_bare : GoodIn wsX10_worst wsX10_bare := goodIn_r _ [19, 20, 21, 22, 23, 24, 4, 25, 1, 78, 79, 80, 81, 82, 83, 84, 85, 86, 87, 88, 89, 90, 91, 92, 93, 94, 95, 96, 97, 98, 99, 100, 101, 102] (by decide +kernel) (by decide +kernel)
set_option maxRecDepth 20000 in
theorem gX10_worst_X10_bare : GoodIn wsX10_worst (wsV RX10 193 RX10 yX10_bare wsX10_bare) := goodIn_app (goodIn_of _ (by decide +kernel)) ggX10_worst_X10_bare
set_option maxRecDepth 20000 in
theorem ggX10_worst_X10_lostIn : GoodIn wsX10_worst wsX10_lostIn := goodIn_r _ [29, 20, 30, 31, 32, 4, 33, 34, 35, 36, 37, 38, 39, 40, 41, 15, 1, 42, 21, 43, 44, 45, 46, 47, 48, 49, 50, 51, 52, 53, 54, 55, 56, 57, 58, 59, 60, 61, 62, 63, 64, 65, 66, 67, 68, 69, 70, 71, 72, 73, 78, 79, 80, 81, 82, 83, 84, 85, 86, 87, 88, 89, 90, 91, 92, 93, 94, 95, 96, 97, 98, 99, 100, 101, 102] (by decide +kernel) (by decide +kernel)
set_option maxRecDepth 20000 in
theorem gX10_worst_X10_lostIn : GoodIn wsX10_worst (wsV RX10 165 RX10 yX10_lostIn wsX10_lostIn) := goodIn_app (goodIn_of _ (by decide +kernel)) ggX10_worst_X10_lostIn
set_option maxRecDepth 20000 in
theorem ggX10_worst_X10_bits : GoodIn wsX10_worst wsX10_bits := goodIn_r _ [65] (by decide +kernel) (by decide +kernel)
set_option maxRecDepth 20000 in
theorem gX10_worst_X10_bits : GoodIn wsX10_worst (va_wsS RX10 150 yX10_bits wsX10_bits) := goodIn_app (goodIn_of _ (by decide +kernel)) ggX10_worst_X10_bits
set_option maxRecDepth 20000 in
theorem ggX10_worst_X10_has : GoodIn wsX10_worst wsX10_has := goodIn_r _ [62] (by decide +kernel) (by decide +kernel)
set_option maxRecDepth 20000 in
theorem gX10_worst_X10_has : GoodIn wsX10_worst (va_wsS RX10 52 yX10_has wsX10_has) := goodIn_app (goodIn_of _ (by decide +kernel)) ggX10_worst_X10_has
set_option maxRecDepth 20000 in
theorem ggX10_worst_X10_lostWith : GoodIn wsX10_worst wsX10_lostWith := goodIn_r _ [77, 20, 26, 27, 28, 4, 29, 30, 31, 32, 33, 34, 35, 36, 37, 38, 39, 40, 41, 15, 1, 42, 21, 43, 44, 45, 46, 47, 48, 49, 50, 51, 52, 53, 54, 55, 56, 57, 58, 59, 60, 61, 62, 63, 64, 65, 66, 67, 68, 69, 70, 71, 72, 73, 78, 79, 80, 81, 82, 83, 84, 85, 86, 87, 88, 89, 90, 91, 92, 93, 94, 95, 96, 97, 98, 99, 100, 101, 102] (by decide +kernel) (by decide +kernel)
set_option maxRecDepth 20000 in
theorem gX10_worst_X10_lostWith : GoodIn wsX10_worst (wsV RX10 205 RX10 yX10_lostWith wsX10_lostWith) := goodIn_app (goodIn_of _ (by decide +kernel)) ggX10_worst_X10_lostWith
set_option maxRecDepth 20000 in
theorem ggX10_fewest_X10_isThing : GoodIn wsX10_fewest wsX10_isThing := goodIn_r _ [5, 6, 79, 80, 81, 82, 83, 84, 85, 86, 87, 88, 89, 90, 91, 92, 93, 94, 95, 96, 97, 98, 99, 100, 101, 102, 103] (by decide +kernel) (by decide +kernel)
set_option maxRecDepth 20000 in
theorem gX10_fewest_X10_isThing : GoodIn wsX10_fewest (wsV RX10 100 RX10 yX10_isThing wsX10_isThing) := goodIn_app (goodIn_of _ (by decide +kernel)) ggX10_fewest_X10_isThing
set_option maxRecDepth 20000 in
theorem ggX10_fewest_X10_no : GoodIn wsX10_fewest wsX10_no := goodIn_r _ [10, 11, 79, 80, 81, 82, 83, 84, 85, 86, 87, 88, 89, 90, 91, 92, 93, 94, 95, 96, 97, 98, 99, 100, 101, 102, 103] (by decide +kernel) (by decide +kernel)
set_option maxRecDepth 20000 in
theorem gX10_fewest_X10_no : GoodIn wsX10_fewest (wsV RX10 63 RX10 yX10_no wsX10_no) := goodIn_app (goodIn_of _ (by decide +kernel)) ggX10_fewest_X10_no
set_option maxRecDepth 20000 in
theorem ggX10_fewest_X10_nails : GoodIn wsX10_fewest wsX10_nails := goodIn_r _ [15, 6, 16, 79, 80, 81, 82, 83, 84, 85, 86, 87, 88, 89, 90, 91, 92, 93, 94, 95, 96, 97, 98, 99, 100, 101, 102, 103] (by decide +kernel) (by decide +kernel)
set_option maxRecDepth 20000 in
theorem gX10_fewest_X10_nails : GoodIn wsX10_fewest (wsV RX10 199 RX10 yX10_nails wsX10_nails) := goodIn_app (goodIn_of _ (by decide +kernel)) ggX10_fewest_X10_nails
set_option maxRecDepth 20000 in
theorem ggX10_fewest_X10_bare : GoodIn wsX10_fewest wsX10_bare := goodIn_r _ [20, 21, 22, 23, 24, 25, 4, 26, 6, 79, 80, 81, 82, 83, 84, 85, 86, 87, 88, 89, 90, 91, 92, 93, 94, 95, 96, 97, 98, 99, 100, 101, 102, 103] (by decide +kernel) (by decide +kernel)
set_option maxRecDepth 20000 in
theorem gX10_fewest_X10_bare : GoodIn wsX10_fewest (wsV RX10 193 RX10 yX10_bare wsX10_bare) := goodIn_app (goodIn_of _ (by decide +kernel)) ggX10_fewest_X10_bare
set_option maxRecDepth 20000 in
theorem ggX10_fewest_X10_all : GoodIn wsX10_fewest wsX10_all := goodIn_r _ [26, 6, 79, 80, 81, 82, 83, 84, 85, 86, 87, 88, 89, 90, 91, 92, 93, 94, 95, 96, 97, 98, 99, 100, 101, 102, 103] (by decide +kernel) (by decide +kernel)
set_option maxRecDepth 20000 in
theorem gX10_fewest_X10_all : GoodIn wsX10_fewest (wsV RX10 190 RX10 yX10_all wsX10_all) := goodIn_app (goodIn_of _ (by decide +kernel)) ggX10_fewest_X10_all
set_option maxRecDepth 20000 in
theorem ggX10_fewest_X10_bits : GoodIn wsX10_fewest wsX10_bits := goodIn_r _ [29] (by decide +kernel) (by decide +kernel)
set_option maxRecDepth 20000 in
theorem gX10_fewest_X10_bits : GoodIn wsX10_fewest (va_wsS RX10 150 yX10_bits wsX10_bits) := goodIn_app (goodIn_of _ (by decide +kernel)) ggX10_fewest_X10_bits
set_option maxRecDepth 20000 in
theorem ggX10_fewest_X10_lostWith : GoodIn wsX10_fewest wsX10_lostWith := goodIn_r _ [33, 21, 34, 35, 36, 4, 37, 38, 39, 40, 41, 42, 43, 44, 45, 46, 47, 48, 49, 16, 6, 50, 22, 51, 52, 53, 54, 55, 56, 57, 58, 59, 60, 61, 62, 63, 64, 65, 66, 67, 68, 69, 70, 27, 28, 29, 71, 72, 73, 74, 75, 76, 77, 78, 79, 80, 81, 82, 83, 84, 85, 86, 87, 88, 89, 90, 91, 92, 93, 94, 95, 96, 97, 98, 99, 100, 101, 102, 103] (by decide +kernel) (by decide +kernel)
set_option maxRecDepth 20000 in
theorem gX10_fewest_X10_lostWith : GoodIn wsX10_fewest (wsV RX10 205 RX10 yX10_lostWith wsX10_lostWith) := goodIn_app (goodIn_of _ (by decide +kernel)) ggX10_fewest_X10_lostWith
set_option maxRecDepth 20000 in
theorem ggX10_fewest_X10_has : GoodIn wsX10_fewest wsX10_has := goodIn_r _ [70] (by decide +kernel) (by decide +kernel)
set_option maxRecDepth 20000 in
theorem gX10_fewest_X10_has : GoodIn wsX10_fewest (va_wsS RX10 52 yX10_has wsX10_has) := goodIn_app (goodIn_of _ (by decide +kernel)) ggX10_fewest_X10_has
set_option maxRecDepth 20000 in
theorem ggX10_firstNails_X10_bits : GoodIn wsX10_firstNails wsX10_bits := goodIn_r _ [6] (by decide +kernel) (by decide +kernel)
set_option maxRecDepth 20000 in
theorem gX10_firstNails_X10_bits : GoodIn wsX10_firstNails (va_wsS RX10 150 yX10_bits wsX10_bits) := goodIn_app (goodIn_of _ (by decide +kernel)) ggX10_firstNails_X10_bits
set_option maxRecDepth 20000 in
theorem ggX10_blamedBy_X10_bits : GoodIn wsX10_blamedBy wsX10_bits := goodIn_r _ [6] (by decide +kernel) (by decide +kernel)
set_option maxRecDepth 20000 in
theorem gX10_blamedBy_X10_bits : GoodIn wsX10_blamedBy (va_wsS RX10 150 yX10_bits wsX10_bits) := goodIn_app (goodIn_of _ (by decide +kernel)) ggX10_blamedBy_X10_bits
set_option maxRecDepth 20000 in
theorem ggX10_blamedBy_X10_nth : GoodIn wsX10_blamedBy wsX10_nth := goodIn_r _ [9, 10, 11, 5, 12] (by decide +kernel) (by decide +kernel)
set_option maxRecDepth 20000 in
theorem gX10_blamedBy_X10_nth : GoodIn wsX10_blamedBy (va_wsS RX10 208 yX10_nth wsX10_nth) := goodIn_app (goodIn_of _ (by decide +kernel)) ggX10_blamedBy_X10_nth
set_option maxRecDepth 20000 in
theorem ggX10_blamedBy_X10_goes : GoodIn wsX10_blamedBy wsX10_goes := goodIn_r _ [16, 17, 18, 19, 5, 20, 21, 22, 1, 2, 23, 10, 11, 12, 3, 4, 6, 24, 25, 26, 27, 28, 29, 30, 31, 32, 33, 34, 35, 36, 37, 38, 39, 40, 41, 42, 43, 44, 45, 46, 47, 48, 49, 50, 51, 52, 53, 54] (by decide +kernel) (by decide +kernel)
set_option maxRecDepth 20000 in
theorem gX10_blamedBy_X10_goes : GoodIn wsX10_blamedBy (wsV RX10 106 RX10 yX10_goes wsX10_goes) := goodIn_app (goodIn_of _ (by decide +kernel)) ggX10_blamedBy_X10_goes
set_option maxRecDepth 20000 in
theorem ggX10_blamedBy_X10_has : GoodIn wsX10_blamedBy wsX10_has := goodIn_r _ [12] (by decide +kernel) (by decide +kernel)
set_option maxRecDepth 20000 in
theorem gX10_blamedBy_X10_has : GoodIn wsX10_blamedBy (va_wsS RX10 52 yX10_has wsX10_has) := goodIn_app (goodIn_of _ (by decide +kernel)) ggX10_blamedBy_X10_has
set_option maxRecDepth 20000 in
theorem ggX10_partOf_X10_divisor : GoodIn wsX10_partOf wsX10_divisor := goodIn_r _ [4] (by decide +kernel) (by decide +kernel)
set_option maxRecDepth 20000 in
theorem gX10_partOf_X10_divisor : GoodIn wsX10_partOf (va_wsS RX10 211 yX10_divisor wsX10_divisor) := goodIn_app (goodIn_of _ (by decide +kernel)) ggX10_partOf_X10_divisor
set_option maxRecDepth 20000 in
theorem ggX10_blame_X10_isThing : GoodIn wsX10_blame wsX10_isThing := goodIn_r _ [5, 6, 80, 81, 82, 83, 84, 85, 86, 87, 88, 89, 90, 91, 92, 93, 94, 95, 96, 97, 98, 99, 100, 101, 102, 103, 104] (by decide +kernel) (by decide +kernel)
set_option maxRecDepth 20000 in
theorem gX10_blame_X10_isThing : GoodIn wsX10_blame (wsV RX10 100 RX10 yX10_isThing wsX10_isThing) := goodIn_app (goodIn_of _ (by decide +kernel)) ggX10_blame_X10_isThing
set_option maxRecDepth 20000 in
theorem ggX10_blame_X10_firstNails : GoodIn wsX10_blame wsX10_firstNails := goodIn_r _ [10, 6, 11, 12, 13, 4, 14, 80, 81, 82, 83, 84, 85, 86, 87, 88, 89, 90, 91, 92, 93, 94, 95, 96, 97, 98, 99, 100, 101, 102, 103, 104] (by decide +kernel) (by decide +kernel)
set_option maxRecDepth 20000 in
theorem gX10_blame_X10_firstNails : GoodIn wsX10_blame (wsV RX10 215 RX10 yX10_firstNails wsX10_firstNails) := goodIn_app (goodIn_of _ (by decide +kernel)) ggX10_blame_X10_firstNails
set_option maxRecDepth 20000 in
theorem ggX10_blame_X10_has : GoodIn wsX10_blame wsX10_has := goodIn_r _ [17] (by decide +kernel) (by decide +kernel)
set_option maxRecDepth 20000 in
theorem gX10_blame_X10_has : GoodIn wsX10_blame (va_wsS RX10 52 yX10_has wsX10_has) := goodIn_app (goodIn_of _ (by decide +kernel)) ggX10_blame_X10_has
set_option maxRecDepth 20000 in
theorem ggX10_blame_X10_isIn : GoodIn wsX10_blame wsX10_isIn := goodIn_r _ [20] (by decide +kernel) (by decide +kernel)
set_option maxRecDepth 20000 in
theorem gX10_blame_X10_isIn : GoodIn wsX10_blame (va_wsS RX10 74 yX10_isIn wsX10_isIn) := goodIn_app (goodIn_of _ (by decide +kernel)) ggX10_blame_X10_isIn
set_option maxRecDepth 20000 in
theorem ggX10_blame_X10_lowestOf : GoodIn wsX10_blame wsX10_lowestOf := goodIn_r _ [24, 25, 26, 80, 81, 82, 83, 84, 85, 86, 87, 88, 89, 90, 91, 92, 93, 94, 95, 96, 97, 98, 99, 100, 101, 102, 103, 104] (by decide +kernel) (by decide +kernel)
set_option maxRecDepth 20000 in
theorem gX10_blame_X10_lowestOf : GoodIn wsX10_blame (wsV RX10 218 RX10 yX10_lowestOf wsX10_lowestOf) := goodIn_app (goodIn_of _ (by decide +kernel)) ggX10_blame_X10_lowestOf
set_option maxRecDepth 20000 in
theorem ggX10_blame_X10_bits : GoodIn wsX10_blame wsX10_bits := goodIn_r _ [14] (by decide +kernel) (by decide +kernel)
set_option maxRecDepth 20000 in
theorem gX10_blame_X10_bits : GoodIn wsX10_blame (va_wsS RX10 150 yX10_bits wsX10_bits) := goodIn_app (goodIn_of _ (by decide +kernel)) ggX10_blame_X10_bits
set_option maxRecDepth 20000 in
theorem ggX10_blame_X10_thinks : GoodIn wsX10_blame wsX10_thinks := goodIn_r _ [30, 31, 32, 33, 4, 34, 35, 36, 37, 38, 11, 6, 39, 40, 41, 42, 43, 44, 45, 46, 47, 48, 49, 50, 80, 81, 82, 83, 84, 85, 86, 87, 88, 89, 90, 91, 92, 93, 94, 95, 96, 97, 98, 99, 100, 101, 102, 103, 104] (by decide +kernel) (by decide +kernel)
set_option maxRecDepth 20000 in
theorem gX10_blame_X10_thinks : GoodIn wsX10_blame (wsV RX10 159 RX10 yX10_thinks wsX10_thinks) := goodIn_app (goodIn_of _ (by decide +kernel)) ggX10_blame_X10_thinks
set_option maxRecDepth 20000 in
theorem ggX10_blame_X10_blamedBy : GoodIn wsX10_blame wsX10_blamedBy := goodIn_r _ [54, 40, 41, 12, 13, 4, 14, 55, 56, 57, 15, 16, 17, 58, 59, 60, 61, 62, 63, 64, 65, 39, 6, 11, 66, 67, 68, 69, 37, 38, 80, 81, 82, 83, 84, 85, 86, 87, 88, 89, 90, 91, 92, 93, 94, 95, 96, 97, 98, 99, 100, 101, 102, 103, 104] (by decide +kernel) (by decide +kernel)
set_option maxRecDepth 20000 in
theorem gX10_blame_X10_blamedBy : GoodIn wsX10_blame (wsV RX10 222 RX10 yX10_blamedBy wsX10_blamedBy) := goodIn_app (goodIn_of _ (by decide +kernel)) ggX10_blame_X10_blamedBy
set_option maxRecDepth 20000 in
theorem ggX10_blame_X10_forgets : GoodIn wsX10_blame wsX10_forgets := goodIn_r _ [73, 31, 32, 33, 4, 34, 35, 36, 37, 38, 11, 6, 39, 40, 41, 42, 43, 44, 45, 46, 47, 48, 49, 50, 80, 81, 82, 83, 84, 85, 86, 87, 88, 89, 90, 91, 92, 93, 94, 95, 96, 97, 98, 99, 100, 101, 102, 103, 104] (by decide +kernel) (by decide +kernel)
set_option maxRecDepth 20000 in
theorem gX10_blame_X10_forgets : GoodIn wsX10_blame (wsV RX10 162 RX10 yX10_forgets wsX10_forgets) := goodIn_app (goodIn_of _ (by decide +kernel)) ggX10_blame_X10_forgets
set_option maxRecDepth 20000 in
theorem ggX10_blame_X10_partOf : GoodIn wsX10_blame wsX10_partOf := goodIn_r _ [76, 77, 78, 4, 79] (by decide +kernel) (by decide +kernel)
set_option maxRecDepth 20000 in
theorem gX10_blame_X10_partOf : GoodIn wsX10_blame (va_wsS RX10 226 yX10_partOf wsX10_partOf) := goodIn_app (goodIn_of _ (by decide +kernel)) ggX10_blame_X10_partOf
set_option maxRecDepth 20000 in
theorem ggX10_saved_X10_isThing : GoodIn wsX10_saved wsX10_isThing := goodIn_r _ [6, 7, 66, 67, 68, 69, 70, 71, 72, 73, 74, 75, 76, 77, 78, 79, 80, 81, 82, 83, 84, 85, 86, 87, 88, 89, 90] (by decide +kernel) (by decide +kernel)
set_option maxRecDepth 20000 in
theorem gX10_saved_X10_isThing : GoodIn wsX10_saved (wsV RX10 100 RX10 yX10_isThing wsX10_isThing) := goodIn_app (goodIn_of _ (by decide +kernel)) ggX10_saved_X10_isThing
set_option maxRecDepth 20000 in
theorem ggX10_saved_X10_bound : GoodIn wsX10_saved wsX10_bound := goodIn_r _ [10] (by decide +kernel) (by decide +kernel)
set_option maxRecDepth 20000 in
theorem gX10_saved_X10_bound : GoodIn wsX10_saved (va_wsS RX10 56 yX10_bound wsX10_bound) := goodIn_app (goodIn_of _ (by decide +kernel)) ggX10_saved_X10_bound
set_option maxRecDepth 20000 in
theorem ggX10_saved_X10_no : GoodIn wsX10_saved wsX10_no := goodIn_r _ [14, 15, 66, 67, 68, 69, 70, 71, 72, 73, 74, 75, 76, 77, 78, 79, 80, 81, 82, 83, 84, 85, 86, 87, 88, 89, 90] (by decide +kernel) (by decide +kernel)
set_option maxRecDepth 20000 in
theorem gX10_saved_X10_no : GoodIn wsX10_saved (wsV RX10 63 RX10 yX10_no wsX10_no) := goodIn_app (goodIn_of _ (by decide +kernel)) ggX10_saved_X10_no
set_option maxRecDepth 20000 in
theorem ggX10_saved_X10_lostIn : GoodIn wsX10_saved wsX10_lostIn := goodIn_r _ [19, 1, 20, 21, 22, 5, 23, 24, 25, 26, 27, 28, 29, 30, 31, 32, 7, 33, 34, 35, 36, 37, 38, 39, 40, 41, 42, 43, 44, 45, 46, 47, 48, 49, 50, 51, 52, 53, 54, 55, 56, 57, 58, 59, 60, 61, 62, 63, 64, 65, 66, 67, 68, 69, 70, 71, 72, 73, 74, 75, 76, 77, 78, 79, 80, 81, 82, 83, 84, 85, 86, 87, 88, 89, 90] (by decide +kernel) (by decide +kernel)
set_option maxRecDepth 20000 in
theorem gX10_saved_X10_lostIn : GoodIn wsX10_saved (wsV RX10 165 RX10 yX10_lostIn wsX10_lostIn) := goodIn_app (goodIn_of _ (by decide +kernel)) ggX10_saved_X10_lostIn
set_option maxRecDepth 20000 in
theorem ggX10_saved_X10_bits : GoodIn wsX10_saved wsX10_bits := goodIn_r _ [57] (by decide +kernel) (by decide +kernel)
set_option maxRecDepth 20000 in
theorem gX10_saved_X10_bits : GoodIn wsX10_saved (va_wsS RX10 150 yX10_bits wsX10_bits) := goodIn_app (goodIn_of _ (by decide +kernel)) ggX10_saved_X10_bits
set_option maxRecDepth 20000 in
theorem ggX10_hooks_X10_isIn : GoodIn wsX10_hooks wsX10_isIn := goodIn_r _ [5] (by decide +kernel) (by decide +kernel)
set_option maxRecDepth 20000 in
theorem gX10_hooks_X10_isIn : GoodIn wsX10_hooks (va_wsS RX10 74 yX10_isIn wsX10_isIn) := goodIn_app (goodIn_of _ (by decide +kernel)) ggX10_hooks_X10_isIn
set_option maxRecDepth 20000 in
theorem ggX10_hooks_X10_no : GoodIn wsX10_hooks wsX10_no := goodIn_r _ [9, 10, 66, 67, 68, 69, 70, 71, 72, 73, 74, 75, 76, 77, 78, 79, 80, 81, 82, 83, 84, 85, 86, 87, 88, 89, 90] (by decide +kernel) (by decide +kernel)
set_option maxRecDepth 20000 in
theorem gX10_hooks_X10_no : GoodIn wsX10_hooks (wsV RX10 63 RX10 yX10_no wsX10_no) := goodIn_app (goodIn_of _ (by decide +kernel)) ggX10_hooks_X10_no
set_option maxRecDepth 20000 in
theorem ggX10_hooks_X10_lostIn : GoodIn wsX10_hooks wsX10_lostIn := goodIn_r _ [14, 1, 15, 16, 17, 4, 18, 19, 20, 21, 22, 23, 24, 25, 26, 27, 28, 29, 30, 31, 32, 33, 34, 35, 36, 37, 38, 39, 40, 41, 42, 43, 44, 45, 46, 47, 48, 49, 50, 51, 52, 53, 54, 55, 56, 57, 58, 59, 60, 61, 66, 67, 68, 69, 70, 71, 72, 73, 74, 75, 76, 77, 78, 79, 80, 81, 82, 83, 84, 85, 86, 87, 88, 89, 90] (by decide +kernel) (by decide +kernel)
set_option maxRecDepth 20000 in
theorem gX10_hooks_X10_lostIn : GoodIn wsX10_hooks (wsV RX10 165 RX10 yX10_lostIn wsX10_lostIn) := goodIn_app (goodIn_of _ (by decide +kernel)) ggX10_hooks_X10_lostIn
set_option maxRecDepth 20000 in
theorem ggX10_hooks_X10_all : GoodIn wsX10_hooks wsX10_all := goodIn_r _ [65, 28, 66, 67, 68, 69, 70, 71, 72, 73, 74, 75, 76, 77, 78, 79, 80, 81, 82, 83, 84, 85, 86, 87, 88, 89, 90] (by decide +kernel) (by decide +kernel)
set_option maxRecDepth 20000 in
theorem gX10_hooks_X10_all : GoodIn wsX10_hooks (wsV RX10 190 RX10 yX10_all wsX10_all) := goodIn_app (goodIn_of _ (by decide +kernel)) ggX10_hooks_X10_all
set_option maxRecDepth 20000 in
theorem ggX10_key_X10_fruitsOf : GoodIn wsX10_key wsX10_fruitsOf := goodIn_r _ [6, 1, 7, 8, 9, 5, 10, 11, 12, 13, 14, 18, 19, 20, 21, 22, 23, 24, 25, 26, 27, 28, 29, 30, 31, 32, 33, 34, 35, 36, 37, 38, 39, 40, 41, 42] (by decide +kernel) (by decide +kernel)
set_option maxRecDepth 20000 in
theorem gX10_key_X10_fruitsOf : GoodIn wsX10_key (wsV RX10 187 RX10 yX10_fruitsOf wsX10_fruitsOf) := goodIn_app (goodIn_of _ (by decide +kernel)) ggX10_key_X10_fruitsOf
set_option maxRecDepth 20000 in
theorem ggX10_key_X10_bits : GoodIn wsX10_key wsX10_bits := goodIn_r _ [17] (by decide +kernel) (by decide +kernel)
set_option maxRecDepth 20000 in
theorem gX10_key_X10_bits : GoodIn wsX10_key (va_wsS RX10 150 yX10_bits wsX10_bits) := goodIn_app (goodIn_of _ (by decide +kernel)) ggX10_key_X10_bits
set_option maxRecDepth 20000 in
theorem ggX10_twins_X10_isIn : GoodIn wsX10_twins wsX10_isIn := goodIn_r _ [7] (by decide +kernel) (by decide +kernel)
set_option maxRecDepth 20000 in
theorem gX10_twins_X10_isIn : GoodIn wsX10_twins (va_wsS RX10 74 yX10_isIn wsX10_isIn) := goodIn_app (goodIn_of _ (by decide +kernel)) ggX10_twins_X10_isIn
set_option maxRecDepth 20000 in
theorem ggX10_twins_X10_no : GoodIn wsX10_twins wsX10_no := goodIn_r _ [11, 12, 13, 14, 15, 16, 17, 18, 19, 20, 21, 22, 23, 24, 25, 26, 27, 28, 29, 30, 31, 32, 33, 34, 35, 36, 37] (by decide +kernel) (by decide +kernel)
set_option maxRecDepth 20000 in
theorem gX10_twins_X10_no : GoodIn wsX10_twins (wsV RX10 63 RX10 yX10_no wsX10_no) := goodIn_app (goodIn_of _ (by decide +kernel)) ggX10_twins_X10_no
set_option maxRecDepth 20000 in
theorem ggX10_two_X10_isThing : GoodIn wsX10_two wsX10_isThing := goodIn_r _ [6, 7, 83, 84, 85, 86, 87, 88, 89, 90, 91, 92, 93, 94, 95, 96, 97, 98, 99, 100, 101, 102, 103, 104, 105, 106, 107] (by decide +kernel) (by decide +kernel)
set_option maxRecDepth 20000 in
theorem gX10_two_X10_isThing : GoodIn wsX10_two (wsV RX10 100 RX10 yX10_isThing wsX10_isThing) := goodIn_app (goodIn_of _ (by decide +kernel)) ggX10_two_X10_isThing
set_option maxRecDepth 20000 in
theorem ggX10_two_X10_bound : GoodIn wsX10_two wsX10_bound := goodIn_r _ [10] (by decide +kernel) (by decide +kernel)
set_option maxRecDepth 20000 in
theorem gX10_two_X10_bound : GoodIn wsX10_two (va_wsS RX10 56 yX10_bound wsX10_bound) := goodIn_app (goodIn_of _ (by decide +kernel)) ggX10_two_X10_bound
set_option maxRecDepth 20000 in
theorem ggX10_two_X10_nails : GoodIn wsX10_two wsX10_nails := goodIn_r _ [14, 7, 15, 83, 84, 85, 86, 87, 88, 89, 90, 91, 92, 93, 94, 95, 96, 97, 98, 99, 100, 101, 102, 103, 104, 105, 106, 107] (by decide +kernel) (by decide +kernel)
set_option maxRecDepth 20000 in
theorem gX10_two_X10_nails : GoodIn wsX10_two (wsV RX10 199 RX10 yX10_nails wsX10_nails) := goodIn_app (goodIn_of _ (by decide +kernel)) ggX10_two_X10_nails
set_option maxRecDepth 20000 in
theorem ggX10_two_X10_bare : GoodIn wsX10_two wsX10_bare := goodIn_r _ [19, 20, 21, 22, 23, 24, 5, 25, 7, 83, 84, 85, 86, 87, 88, 89, 90, 91, 92, 93, 94, 95, 96, 97, 98, 99, 100, 101, 102, 103, 104, 105, 106, 107] (by decide +kernel) (by decide +kernel)
set_option maxRecDepth 20000 in
theorem gX10_two_X10_bare : GoodIn wsX10_two (wsV RX10 193 RX10 yX10_bare wsX10_bare) := goodIn_app (goodIn_of _ (by decide +kernel)) ggX10_two_X10_bare
set_option maxRecDepth 20000 in
theorem ggX10_two_X10_has : GoodIn wsX10_two wsX10_has := goodIn_r _ [28] (by decide +kernel) (by decide +kernel)
set_option maxRecDepth 20000 in
theorem gX10_two_X10_has : GoodIn wsX10_two (va_wsS RX10 52 yX10_has wsX10_has) := goodIn_app (goodIn_of _ (by decide +kernel)) ggX10_two_X10_has
set_option maxRecDepth 20000 in
theorem ggX10_two_X10_no : GoodIn wsX10_two wsX10_no := goodIn_r _ [32, 33, 83, 84, 85, 86, 87, 88, 89, 90, 91, 92, 93, 94, 95, 96, 97, 98, 99, 100, 101, 102, 103, 104, 105, 106, 107] (by decide +kernel) (by decide +kernel)
set_option maxRecDepth 20000 in
theorem gX10_two_X10_no : GoodIn wsX10_two (wsV RX10 63 RX10 yX10_no wsX10_no) := goodIn_app (goodIn_of _ (by decide +kernel)) ggX10_two_X10_no
set_option maxRecDepth 20000 in
theorem ggX10_two_X10_lostWith : GoodIn wsX10_two wsX10_lostWith := goodIn_r _ [37, 20, 38, 39, 40, 5, 41, 42, 43, 44, 45, 46, 47, 48, 49, 50, 51, 52, 53, 15, 7, 54, 21, 55, 56, 57, 58, 59, 60, 61, 62, 63, 64, 65, 66, 67, 68, 69, 70, 71, 26, 27, 28, 72, 73, 74, 75, 76, 77, 78, 79, 80, 81, 82, 83, 84, 85, 86, 87, 88, 89, 90, 91, 92, 93, 94, 95, 96, 97, 98, 99, 100, 101, 102, 103, 104, 105, 106, 107] (by decide +kernel) (by decide +kernel)
set_option maxRecDepth 20000 in
theorem gX10_two_X10_lostWith : GoodIn wsX10_two (wsV RX10 205 RX10 yX10_lostWith wsX10_lostWith) := goodIn_app (goodIn_of _ (by decide +kernel)) ggX10_two_X10_lostWith
set_option maxRecDepth 20000 in
theorem ggX10_two_X10_bits : GoodIn wsX10_two wsX10_bits := goodIn_r _ [74] (by decide +kernel) (by decide +kernel)
set_option maxRecDepth 20000 in
theorem gX10_two_X10_bits : GoodIn wsX10_two (va_wsS RX10 150 yX10_bits wsX10_bits) := goodIn_app (goodIn_of _ (by decide +kernel)) ggX10_two_X10_bits
set_option maxRecDepth 20000 in
theorem ggX10_boys_X10_isThing : GoodIn wsX10_boys wsX10_isThing := goodIn_r _ [6, 7, 65, 66, 67, 68, 69, 70, 71, 72, 73, 74, 75, 76, 77, 78, 79, 80, 81, 82, 83, 84, 85, 86, 87, 88, 89] (by decide +kernel) (by decide +kernel)
set_option maxRecDepth 20000 in
theorem gX10_boys_X10_isThing : GoodIn wsX10_boys (wsV RX10 100 RX10 yX10_isThing wsX10_isThing) := goodIn_app (goodIn_of _ (by decide +kernel)) ggX10_boys_X10_isThing
set_option maxRecDepth 20000 in
theorem ggX10_boys_X10_isIn : GoodIn wsX10_boys wsX10_isIn := goodIn_r _ [10] (by decide +kernel) (by decide +kernel)
set_option maxRecDepth 20000 in
theorem gX10_boys_X10_isIn : GoodIn wsX10_boys (va_wsS RX10 74 yX10_isIn wsX10_isIn) := goodIn_app (goodIn_of _ (by decide +kernel)) ggX10_boys_X10_isIn
set_option maxRecDepth 20000 in
theorem ggX10_boys_X10_lowestOf : GoodIn wsX10_boys wsX10_lowestOf := goodIn_r _ [14, 15, 16, 65, 66, 67, 68, 69, 70, 71, 72, 73, 74, 75, 76, 77, 78, 79, 80, 81, 82, 83, 84, 85, 86, 87, 88, 89] (by decide +kernel) (by decide +kernel)
set_option maxRecDepth 20000 in
theorem gX10_boys_X10_lowestOf : GoodIn wsX10_boys (wsV RX10 218 RX10 yX10_lowestOf wsX10_lowestOf) := goodIn_app (goodIn_of _ (by decide +kernel)) ggX10_boys_X10_lowestOf
set_option maxRecDepth 20000 in
theorem ggX10_boys_X10_thinks : GoodIn wsX10_boys wsX10_thinks := goodIn_r _ [20, 21, 22, 23, 5, 24, 25, 26, 27, 28, 29, 7, 30, 1, 31, 32, 33, 34, 35, 36, 37, 38, 39, 40, 65, 66, 67, 68, 69, 70, 71, 72, 73, 74, 75, 76, 77, 78, 79, 80, 81, 82, 83, 84, 85, 86, 87, 88, 89] (by decide +kernel) (by decide +kernel)
set_option maxRecDepth 20000 in
theorem gX10_boys_X10_thinks : GoodIn wsX10_boys (wsV RX10 159 RX10 yX10_thinks wsX10_thinks) := goodIn_app (goodIn_of _ (by decide +kernel)) ggX10_boys_X10_thinks
set_option maxRecDepth 20000 in
theorem ggX10_boys_X10_has : GoodIn wsX10_boys wsX10_has := goodIn_r _ [43] (by decide +kernel) (by decide +kernel)
set_option maxRecDepth 20000 in
theorem gX10_boys_X10_has : GoodIn wsX10_boys (va_wsS RX10 52 yX10_has wsX10_has) := goodIn_app (goodIn_of _ (by decide +kernel)) ggX10_boys_X10_has
set_option maxRecDepth 20000 in
theorem ggX10_boys_X10_goesDay : GoodIn wsX10_boys wsX10_goesDay := goodIn_r _ [47, 30, 7, 1, 31, 29, 41, 42, 5, 43, 48, 49, 50, 51, 52, 53, 54, 27, 28, 65, 66, 67, 68, 69, 70, 71, 72, 73, 74, 75, 76, 77, 78, 79, 80, 81, 82, 83, 84, 85, 86, 87, 88, 89] (by decide +kernel) (by decide +kernel)
set_option maxRecDepth 20000 in
theorem gX10_boys_X10_goesDay : GoodIn wsX10_boys (wsV RX10 156 RX10 yX10_goesDay wsX10_goesDay) := goodIn_app (goodIn_of _ (by decide +kernel)) ggX10_boys_X10_goesDay
set_option maxRecDepth 20000 in
theorem ggX10_boys_X10_forgets : GoodIn wsX10_boys wsX10_forgets := goodIn_r _ [58, 21, 22, 23, 5, 24, 25, 26, 27, 28, 29, 7, 30, 1, 31, 32, 33, 34, 35, 36, 37, 38, 39, 40, 65, 66, 67, 68, 69, 70, 71, 72, 73, 74, 75, 76, 77, 78, 79, 80, 81, 82, 83, 84, 85, 86, 87, 88, 89] (by decide +kernel) (by decide +kernel)
set_option maxRecDepth 20000 in
theorem gX10_boys_X10_forgets : GoodIn wsX10_boys (wsV RX10 162 RX10 yX10_forgets wsX10_forgets) := goodIn_app (goodIn_of _ (by decide +kernel)) ggX10_boys_X10_forgets
set_option maxRecDepth 20000 in
theorem ggX10_boys_X10_partOf : GoodIn wsX10_boys wsX10_partOf := goodIn_r _ [61, 62, 63, 5, 64] (by decide +kernel) (by decide +kernel)
set_option maxRecDepth 20000 in
theorem gX10_boys_X10_partOf : GoodIn wsX10_boys (va_wsS RX10 226 yX10_partOf wsX10_partOf) := goodIn_app (goodIn_of _ (by decide +kernel)) ggX10_boys_X10_partOf
set_option maxRecDepth 20000 in
theorem ggX10_allCauses_X10_bits : GoodIn wsX10_allCauses wsX10_bits := goodIn_r _ [6] (by decide +kernel) (by decide +kernel)
set_option maxRecDepth 20000 in
theorem gX10_allCauses_X10_bits : GoodIn wsX10_allCauses (va_wsS RX10 150 yX10_bits wsX10_bits) := goodIn_app (goodIn_of _ (by decide +kernel)) ggX10_allCauses_X10_bits
set_option maxRecDepth 20000 in
theorem ggX10_mean_X10_isIn : GoodIn wsX10_mean wsX10_isIn := goodIn_r _ [5] (by decide +kernel) (by decide +kernel)
set_option maxRecDepth 20000 in
theorem gX10_mean_X10_isIn : GoodIn wsX10_mean (va_wsS RX10 74 yX10_isIn wsX10_isIn) := goodIn_app (goodIn_of _ (by decide +kernel)) ggX10_mean_X10_isIn
set_option maxRecDepth 20000 in
theorem ggX10_mean_X10_lowestOf : GoodIn wsX10_mean wsX10_lowestOf := goodIn_r _ [9, 10, 11, 26, 27, 28, 29, 30, 31, 32, 33, 34, 35, 36, 37, 38, 39, 40, 41, 42, 43, 44, 45, 46, 47, 48, 49, 50] (by decide +kernel) (by decide +kernel)
set_option maxRecDepth 20000 in
theorem gX10_mean_X10_lowestOf : GoodIn wsX10_mean (wsV RX10 218 RX10 yX10_lowestOf wsX10_lowestOf) := goodIn_app (goodIn_of _ (by decide +kernel)) ggX10_mean_X10_lowestOf
set_option maxRecDepth 20000 in
theorem ggX10_mean_X10_allCauses : GoodIn wsX10_mean wsX10_allCauses := goodIn_r _ [15, 1, 16, 17, 18, 4, 19, 26, 27, 28, 29, 30, 31, 32, 33, 34, 35, 36, 37, 38, 39, 40, 41, 42, 43, 44, 45, 46, 47, 48, 49, 50] (by decide +kernel) (by decide +kernel)
set_option maxRecDepth 20000 in
theorem gX10_mean_X10_allCauses : GoodIn wsX10_mean (wsV RX10 230 RX10 yX10_allCauses wsX10_allCauses) := goodIn_app (goodIn_of _ (by decide +kernel)) ggX10_mean_X10_allCauses
set_option maxRecDepth 20000 in
theorem ggX10_mean_X10_partOf : GoodIn wsX10_mean wsX10_partOf := goodIn_r _ [22, 23, 24, 4, 25] (by decide +kernel) (by decide +kernel)
set_option maxRecDepth 20000 in
theorem gX10_mean_X10_partOf : GoodIn wsX10_mean (va_wsS RX10 226 yX10_partOf wsX10_partOf) := goodIn_app (goodIn_of _ (by decide +kernel)) ggX10_mean_X10_partOf
set_option maxRecDepth 20000 in
theorem ggX10_isSo_X10_thinks : GoodIn wsX10_isSo wsX10_thinks := goodIn_r _ [8, 9, 10, 11, 7, 12, 13, 14, 15, 16, 17, 18, 19, 2, 20, 21, 22, 23, 24, 25, 26, 27, 28, 29, 48, 49, 50, 51, 52, 53, 54, 55, 56, 57, 58, 59, 60, 61, 62, 63, 64, 65, 66, 67, 68, 69, 70, 71, 72] (by decide +kernel) (by decide +kernel)
set_option maxRecDepth 20000 in
theorem gX10_isSo_X10_thinks : GoodIn wsX10_isSo (wsV RX10 159 RX10 yX10_thinks wsX10_thinks) := goodIn_app (goodIn_of _ (by decide +kernel)) ggX10_isSo_X10_thinks
set_option maxRecDepth 20000 in
theorem ggX10_isSo_X10_bits : GoodIn wsX10_isSo wsX10_bits := goodIn_r _ [32] (by decide +kernel) (by decide +kernel)
set_option maxRecDepth 20000 in
theorem gX10_isSo_X10_bits : GoodIn wsX10_isSo (va_wsS RX10 150 yX10_bits wsX10_bits) := goodIn_app (goodIn_of _ (by decide +kernel)) ggX10_isSo_X10_bits
set_option maxRecDepth 20000 in
theorem ggX10_isSo_X10_goesDay : GoodIn wsX10_isSo wsX10_goesDay := goodIn_r _ [36, 19, 18, 2, 20, 17, 37, 38, 7, 39, 30, 31, 32, 40, 41, 42, 43, 15, 16, 48, 49, 50, 51, 52, 53, 54, 55, 56, 57, 58, 59, 60, 61, 62, 63, 64, 65, 66, 67, 68, 69, 70, 71, 72] (by decide +kernel) (by decide +kernel)
set_option maxRecDepth 20000 in
theorem gX10_isSo_X10_goesDay : GoodIn wsX10_isSo (wsV RX10 156 RX10 yX10_goesDay wsX10_goesDay) := goodIn_app (goodIn_of _ (by decide +kernel)) ggX10_isSo_X10_goesDay
set_option maxRecDepth 20000 in
theorem ggX10_isSo_X10_forgets : GoodIn wsX10_isSo wsX10_forgets := goodIn_r _ [47, 9, 10, 11, 7, 12, 13, 14, 15, 16, 17, 18, 19, 2, 20, 21, 22, 23, 24, 25, 26, 27, 28, 29, 48, 49, 50, 51, 52, 53, 54, 55, 56, 57, 58, 59, 60, 61, 62, 63, 64, 65, 66, 67, 68, 69, 70, 71, 72] (by decide +kernel) (by decide +kernel)
set_option maxRecDepth 20000 in
theorem gX10_isSo_X10_forgets : GoodIn wsX10_isSo (wsV RX10 162 RX10 yX10_forgets wsX10_forgets) := goodIn_app (goodIn_of _ (by decide +kernel)) ggX10_isSo_X10_forgets
set_option maxRecDepth 20000 in
theorem ggX10_bitsFor_X10_isSo : GoodIn wsX10_bitsFor wsX10_isSo := goodIn_r _ [5, 6, 7, 8, 9, 10, 11, 4, 12, 13, 14, 15, 16, 17, 18, 19, 20, 21, 22, 23, 24, 25, 26, 27, 28, 29, 30, 31, 32, 33, 34, 35, 36, 37, 38, 39, 40, 41, 42, 43, 44, 45, 46, 47, 48, 49, 50, 51, 52, 53, 54, 55, 56, 57, 58, 59, 60, 61, 62, 63, 64, 65, 66, 67, 68, 69, 70, 71, 72, 73, 74, 75, 76] (by decide +kernel) (by decide +kernel)
set_option maxRecDepth 20000 in
theorem gX10_bitsFor_X10_isSo : GoodIn wsX10_bitsFor (wsV RX10 236 RX10 yX10_isSo wsX10_isSo) := goodIn_app (goodIn_of _ (by decide +kernel)) ggX10_bitsFor_X10_isSo
set_option maxRecDepth 20000 in
theorem ggX10_whatWas_X10_isThing : GoodIn wsX10_whatWas wsX10_isThing := goodIn_r _ [7, 8, 68, 69, 70, 71, 72, 73, 74, 75, 76, 77, 78, 79, 80, 81, 82, 83, 84, 85, 86, 87, 88, 89, 90, 91, 92] (by decide +kernel) (by decide +kernel)
set_option maxRecDepth 20000 in
theorem gX10_whatWas_X10_isThing : GoodIn wsX10_whatWas (wsV RX10 100 RX10 yX10_isThing wsX10_isThing) := goodIn_app (goodIn_of _ (by decide +kernel)) ggX10_whatWas_X10_isThing
set_option maxRecDepth 20000 in
theorem ggX10_whatWas_X10_isIn : GoodIn wsX10_whatWas wsX10_isIn := goodIn_r _ [11] (by decide +kernel) (by decide +kernel)
set_option maxRecDepth 20000 in
theorem gX10_whatWas_X10_isIn : GoodIn wsX10_whatWas (va_wsS RX10 74 yX10_isIn wsX10_isIn) := goodIn_app (goodIn_of _ (by decide +kernel)) ggX10_whatWas_X10_isIn
set_option maxRecDepth 20000 in
theorem ggX10_whatWas_X10_no : GoodIn wsX10_whatWas wsX10_no := goodIn_r _ [15, 16, 68, 69, 70, 71, 72, 73, 74, 75, 76, 77, 78, 79, 80, 81, 82, 83, 84, 85, 86, 87, 88, 89, 90, 91, 92] (by decide +kernel) (by decide +kernel)
set_option maxRecDepth 20000 in
theorem gX10_whatWas_X10_no : GoodIn wsX10_whatWas (wsV RX10 63 RX10 yX10_no wsX10_no) := goodIn_app (goodIn_of _ (by decide +kernel)) ggX10_whatWas_X10_no
set_option maxRecDepth 20000 in
theorem ggX10_whatWas_X10_bitsFor : GoodIn wsX10_whatWas wsX10_bitsFor := goodIn_r _ [20, 21, 22, 23, 6, 24, 25, 26, 27, 28, 29, 30, 31, 32, 33, 34, 35, 36, 37, 1, 2, 38, 8, 39, 40, 41, 42, 43, 44, 45, 46, 47, 48, 49, 50, 51, 52, 53, 54, 55, 56, 57, 58, 59, 60, 61, 62, 63, 64, 65, 66, 67, 68, 69, 70, 71, 72, 73, 74, 75, 76, 77, 78, 79, 80, 81, 82, 83, 84, 85, 86, 87, 88, 89, 90, 91, 92] (by decide +kernel) (by decide +kernel)
set_option maxRecDepth 20000 in
theorem gX10_whatWas_X10_bitsFor : GoodIn wsX10_whatWas (wsV RX10 239 RX10 yX10_bitsFor wsX10_bitsFor) := goodIn_app (goodIn_of _ (by decide +kernel)) ggX10_whatWas_X10_bitsFor
set_option maxRecDepth 20000 in
theorem ggX10_row_X10_bound : GoodIn wsX10_row wsX10_bound := goodIn_r _ [6] (by decide +kernel) (by decide +kernel)
set_option maxRecDepth 20000 in
theorem gX10_row_X10_bound : GoodIn wsX10_row (va_wsS RX10 56 yX10_bound wsX10_bound) := goodIn_app (goodIn_of _ (by decide +kernel)) ggX10_row_X10_bound
set_option maxRecDepth 20000 in
theorem ggX10_row_X10_no : GoodIn wsX10_row wsX10_no := goodIn_r _ [10, 11, 12, 13, 14, 15, 16, 17, 18, 19, 20, 21, 22, 23, 24, 25, 26, 27, 28, 29, 30, 31, 32, 33, 34, 35, 36] (by decide +kernel) (by decide +kernel)
set_option maxRecDepth 20000 in
theorem gX10_row_X10_no : GoodIn wsX10_row (wsV RX10 63 RX10 yX10_no wsX10_no) := goodIn_app (goodIn_of _ (by decide +kernel)) ggX10_row_X10_no
set_option maxRecDepth 20000 in
theorem ggX10_isTold_X10_lostWhen : GoodIn wsX10_isTold wsX10_lostWhen := goodIn_r _ [5, 6, 7, 8, 9, 4, 10, 11, 12, 13, 14, 15, 16, 17, 18, 19, 20, 21, 22, 23, 24, 25, 26, 27, 28, 29, 30, 31, 32, 33, 34, 35, 36, 37, 38, 39, 40, 41, 42, 43, 44, 45, 46, 47, 48, 49, 50, 51, 52, 53, 54, 55, 56, 57, 58, 59, 60, 61, 62, 63, 64, 65, 66, 67, 68, 69, 70, 71, 72, 73, 74] (by decide +kernel) (by decide +kernel)
set_option maxRecDepth 20000 in
theorem gX10_isTold_X10_lostWhen : GoodIn wsX10_isTold (wsV RX10 171 RX10 yX10_lostWhen wsX10_lostWhen) := goodIn_app (goodIn_of _ (by decide +kernel)) ggX10_isTold_X10_lostWhen
set_option maxRecDepth 20000 in
theorem ggX10_judge_X10_isTold : GoodIn wsX10_judge wsX10_isTold := goodIn_r _ [8, 9, 10, 11, 7, 12, 13, 14, 15, 16, 17, 18, 19, 20, 21, 22, 23, 24, 25, 26, 2, 27, 28, 29, 30, 31, 32, 33, 34, 35, 36, 37, 38, 39, 40, 41, 42, 43, 44, 45, 46, 47, 48, 49, 50, 51, 52, 53, 54, 55, 56, 57, 58, 59, 60, 61, 62, 63, 64, 65, 66, 67, 68, 69, 70, 71, 72, 73, 74, 75, 76, 77, 78, 79, 80] (by decide +kernel) (by decide +kernel)
set_option maxRecDepth 20000 in
theorem gX10_judge_X10_isTold : GoodIn wsX10_judge (wsV RX10 243 RX10 yX10_isTold wsX10_isTold) := goodIn_app (goodIn_of _ (by decide +kernel)) ggX10_judge_X10_isTold
set_option maxRecDepth 20000 in
theorem ggX10_lots_X10_bound : GoodIn wsX10_lots wsX10_bound := goodIn_r _ [8] (by decide +kernel) (by decide +kernel)
set_option maxRecDepth 20000 in
theorem gX10_lots_X10_bound : GoodIn wsX10_lots (va_wsS RX10 56 yX10_bound wsX10_bound) := goodIn_app (goodIn_of _ (by decide +kernel)) ggX10_lots_X10_bound
set_option maxRecDepth 20000 in
theorem ggX10_lots_X10_isIn : GoodIn wsX10_lots wsX10_isIn := goodIn_r _ [11] (by decide +kernel) (by decide +kernel)
set_option maxRecDepth 20000 in
theorem gX10_lots_X10_isIn : GoodIn wsX10_lots (va_wsS RX10 74 yX10_isIn wsX10_isIn) := goodIn_app (goodIn_of _ (by decide +kernel)) ggX10_lots_X10_isIn
set_option maxRecDepth 20000 in
theorem ggX10_lots_X10_no : GoodIn wsX10_lots wsX10_no := goodIn_r _ [15, 16, 69, 70, 71, 72, 73, 74, 75, 76, 77, 78, 79, 80, 81, 82, 83, 84, 85, 86, 87, 88, 89, 90, 91, 92, 93] (by decide +kernel) (by decide +kernel)
set_option maxRecDepth 20000 in
theorem gX10_lots_X10_no : GoodIn wsX10_lots (wsV RX10 63 RX10 yX10_no wsX10_no) := goodIn_app (goodIn_of _ (by decide +kernel)) ggX10_lots_X10_no
set_option maxRecDepth 20000 in
theorem ggX10_lots_X10_thinks : GoodIn wsX10_lots wsX10_thinks := goodIn_r _ [20, 21, 22, 23, 7, 24, 25, 26, 27, 28, 3, 1, 29, 4, 30, 31, 32, 33, 34, 35, 36, 37, 38, 39, 69, 70, 71, 72, 73, 74, 75, 76, 77, 78, 79, 80, 81, 82, 83, 84, 85, 86, 87, 88, 89, 90, 91, 92, 93] (by decide +kernel) (by decide +kernel)
set_option maxRecDepth 20000 in
theorem gX10_lots_X10_thinks : GoodIn wsX10_lots (wsV RX10 159 RX10 yX10_thinks wsX10_thinks) := goodIn_app (goodIn_of _ (by decide +kernel)) ggX10_lots_X10_thinks
set_option maxRecDepth 20000 in
theorem ggX10_lots_X10_draw : GoodIn wsX10_lots wsX10_draw := goodIn_r _ [43, 2, 44, 45, 46, 69, 70, 71, 72, 73, 74, 75, 76, 77, 78, 79, 80, 81, 82, 83, 84, 85, 86, 87, 88, 89, 90, 91, 92, 93] (by decide +kernel) (by decide +kernel)
set_option maxRecDepth 20000 in
theorem gX10_lots_X10_draw : GoodIn wsX10_lots (wsV RX10 252 RX10 yX10_draw wsX10_draw) := goodIn_app (goodIn_of _ (by decide +kernel)) ggX10_lots_X10_draw
set_option maxRecDepth 20000 in
theorem ggX10_lots_X10_goes : GoodIn wsX10_lots wsX10_goes := goodIn_r _ [50, 51, 52, 53, 7, 54, 29, 1, 4, 30, 3, 55, 56, 57, 58, 59, 60, 61, 62, 63, 64, 27, 28, 69, 70, 71, 72, 73, 74, 75, 76, 77, 78, 79, 80, 81, 82, 83, 84, 85, 86, 87, 88, 89, 90, 91, 92, 93] (by decide +kernel) (by decide +kernel)
set_option maxRecDepth 20000 in
theorem gX10_lots_X10_goes : GoodIn wsX10_lots (wsV RX10 106 RX10 yX10_goes wsX10_goes) := goodIn_app (goodIn_of _ (by decide +kernel)) ggX10_lots_X10_goes
set_option maxRecDepth 20000 in
theorem ggX10_lots_X10_bits : GoodIn wsX10_lots wsX10_bits := goodIn_r _ [60] (by decide +kernel) (by decide +kernel)
set_option maxRecDepth 20000 in
theorem gX10_lots_X10_bits : GoodIn wsX10_lots (va_wsS RX10 150 yX10_bits wsX10_bits) := goodIn_app (goodIn_of _ (by decide +kernel)) ggX10_lots_X10_bits
set_option maxRecDepth 20000 in
theorem ggX10_lots_X10_forgets : GoodIn wsX10_lots wsX10_forgets := goodIn_r _ [68, 21, 22, 23, 7, 24, 25, 26, 27, 28, 3, 1, 29, 4, 30, 31, 32, 33, 34, 35, 36, 37, 38, 39, 69, 70, 71, 72, 73, 74, 75, 76, 77, 78, 79, 80, 81, 82, 83, 84, 85, 86, 87, 88, 89, 90, 91, 92, 93] (by decide +kernel) (by decide +kernel)
set_option maxRecDepth 20000 in
theorem gX10_lots_X10_forgets : GoodIn wsX10_lots (wsV RX10 162 RX10 yX10_forgets wsX10_forgets) := goodIn_app (goodIn_of _ (by decide +kernel)) ggX10_lots_X10_forgets
set_option maxRecDepth 20000 in
theorem ggX10_count_X10_isIn : GoodIn wsX10_count wsX10_isIn := goodIn_r _ [11] (by decide +kernel) (by decide +kernel)
set_option maxRecDepth 20000 in
theorem gX10_count_X10_isIn : GoodIn wsX10_count (va_wsS RX10 74 yX10_isIn wsX10_isIn) := goodIn_app (goodIn_of _ (by decide +kernel)) ggX10_count_X10_isIn
set_option maxRecDepth 20000 in
theorem ggX10_count_X10_allCauses : GoodIn wsX10_count wsX10_allCauses := goodIn_r _ [15, 2, 16, 17, 18, 10, 19, 24, 25, 26, 27, 28, 29, 30, 31, 32, 33, 34, 35, 36, 37, 38, 39, 40, 41, 42, 43, 44, 45, 46, 47, 48] (by decide +kernel) (by decide +kernel)
set_option maxRecDepth 20000 in
theorem gX10_count_X10_allCauses : GoodIn wsX10_count (wsV RX10 230 RX10 yX10_allCauses wsX10_allCauses) := goodIn_app (goodIn_of _ (by decide +kernel)) ggX10_count_X10_allCauses
set_option maxRecDepth 20000 in
theorem ggX10_count_X10_nails : GoodIn wsX10_count wsX10_nails := goodIn_r _ [23, 2, 16, 24, 25, 26, 27, 28, 29, 30, 31, 32, 33, 34, 35, 36, 37, 38, 39, 40, 41, 42, 43, 44, 45, 46, 47, 48] (by decide +kernel) (by decide +kernel)
set_option maxRecDepth 20000 in
theorem gX10_count_X10_nails : GoodIn wsX10_count (wsV RX10 199 RX10 yX10_nails wsX10_nails) := goodIn_app (goodIn_of _ (by decide +kernel)) ggX10_count_X10_nails
set_option maxRecDepth 20000 in
theorem ggX10_count_X10_bits : GoodIn wsX10_count wsX10_bits := goodIn_r _ [19] (by decide +kernel) (by decide +kernel)
set_option maxRecDepth 20000 in
theorem gX10_count_X10_bits : GoodIn wsX10_count (va_wsS RX10 150 yX10_bits wsX10_bits) := goodIn_app (goodIn_of _ (by decide +kernel)) ggX10_count_X10_bits
set_option maxRecDepth 20000 in
theorem ggJ0_length_8abf5_J0_coder_7d493 : GoodIn wsJ0_length_8abf5 wsJ0_coder_7d493 := goodIn_r _ [6, 7, 8] (by decide +kernel) (by decide +kernel)
set_option maxRecDepth 20000 in
theorem gJ0_length_8abf5_J0_coder_7d493 : GoodIn wsJ0_length_8abf5 (wsV RJ0 335 RJ0 yJ0_coder_7d493 wsJ0_coder_7d493) := goodIn_app (goodIn_of _ (by decide +kernel)) ggJ0_length_8abf5_J0_coder_7d493
set_option maxRecDepth 20000 in
theorem ggJ0_indexOf_0f7a4_J0_indexOf_7cf53 : GoodIn wsJ0_indexOf_0f7a4 wsJ0_indexOf_7cf53 := goodIn_r _ [5, 6, 7, 8, 9, 4, 10, 11, 12, 13, 14, 15, 16, 17, 18, 19, 20, 21, 22, 23, 24, 25, 26, 27, 28, 29, 30, 31, 32, 33, 34, 35, 36, 37, 38, 39, 40, 41, 42, 43, 44, 45, 46, 47, 48, 49, 50, 51, 52, 53, 54, 55, 56, 57, 58, 59, 60, 61, 62, 63, 64, 65, 66, 67, 68, 69, 70, 71, 72, 73, 74, 75, 76, 77, 78, 79, 80, 81, 82, 83, 84, 85] (by decide +kernel) (by decide +kernel)
set_option maxRecDepth 20000 in
theorem gJ0_indexOf_0f7a4_J0_indexOf_7cf53 : GoodIn wsJ0_indexOf_0f7a4 (wsV RJ0 633 RJ0 yJ0_indexOf_7cf53 wsJ0_indexOf_7cf53) := goodIn_app (goodIn_of _ (by decide +kernel)) ggJ0_indexOf_0f7a4_J0_indexOf_7cf53
set_option maxRecDepth 20000 in
theorem ggJ0_indexOf_7cf53_J0_isLatin1_aae02 : GoodIn wsJ0_indexOf_7cf53 wsJ0_isLatin1_aae02 := goodIn_r _ [6, 7, 8] (by decide +kernel) (by decide +kernel)
set_option maxRecDepth 20000 in
theorem gJ0_indexOf_7cf53_J0_isLatin1_aae02 : GoodIn wsJ0_indexOf_7cf53 (wsV RJ0 492 RJ0 yJ0_isLatin1_aae02 wsJ0_isLatin1_aae02) := goodIn_app (goodIn_of _ (by decide +kernel)) ggJ0_indexOf_7cf53_J0_isLatin1_aae02
set_option maxRecDepth 20000 in
theorem ggJ0_indexOf_7cf53_J0_length_8abf5 : GoodIn wsJ0_indexOf_7cf53 wsJ0_length_8abf5 := goodIn_r _ [12, 1, 13, 14, 15, 5, 16, 7, 8] (by decide +kernel) (by decide +kernel)
set_option maxRecDepth 20000 in
theorem gJ0_indexOf_7cf53_J0_length_8abf5 : GoodIn wsJ0_indexOf_7cf53 (wsV RJ0 505 RJ0 yJ0_length_8abf5 wsJ0_length_8abf5) := goodIn_app (goodIn_of _ (by decide +kernel)) ggJ0_indexOf_7cf53_J0_length_8abf5
set_option maxRecDepth 20000 in
theorem ggJ0_indexOf_7cf53_J1_indexOf_4cfef : GoodIn wsJ0_indexOf_7cf53 wsJ1_indexOf_4cfef := goodIn_r _ [20, 21, 22, 23, 24, 25, 26, 27, 28, 29, 19, 30, 31, 32, 33] (by decide +kernel) (by decide +kernel)
set_option maxRecDepth 20000 in
theorem gJ0_indexOf_7cf53_J1_indexOf_4cfef : GoodIn wsJ0_indexOf_7cf53 (va_wsS RJ0 637 yJ1_indexOf_4cfef wsJ1_indexOf_4cfef) := goodIn_app (goodIn_of _ (by decide +kernel)) ggJ0_indexOf_7cf53_J1_indexOf_4cfef
set_option maxRecDepth 20000 in
theorem ggJ0_indexOf_7cf53_J2_indexOf_4cfef : GoodIn wsJ0_indexOf_7cf53 wsJ2_indexOf_4cfef := goodIn_r _ [37, 38, 22, 23, 24, 39, 26, 27, 40, 41, 42, 36, 43, 44, 45, 46, 47, 48, 49, 50, 51, 5, 52, 53, 54, 55, 56, 57, 58, 59, 60, 61, 62, 63, 64, 65, 66, 67, 68, 69, 70, 71, 72, 73, 74, 75, 76, 77, 78, 79, 80, 81] (by decide +kernel) (by decide +kernel)
set_option maxRecDepth 20000 in
theorem gJ0_indexOf_7cf53_J2_indexOf_4cfef : GoodIn wsJ0_indexOf_7cf53 (va_wsS RJ0 640 yJ2_indexOf_4cfef wsJ2_indexOf_4cfef) := goodIn_app (goodIn_of _ (by decide +kernel)) ggJ0_indexOf_7cf53_J2_indexOf_4cfef
set_option maxRecDepth 20000 in
theorem ggJ0_checkBoundsBeginEnd_23922_J3_checkFromToIndex_8c36e : GoodIn wsJ0_checkBoundsBeginEnd_23922 wsJ3_checkFromToIndex_8c36e := goodIn_r _ [5] (by decide +kernel) (by decide +kernel)
set_option maxRecDepth 20000 in
theorem gJ0_checkBoundsBeginEnd_23922_J3_checkFromToIndex_8c36e : GoodIn wsJ0_checkBoundsBeginEnd_23922 (va_wsS RJ0 1062 yJ3_checkFromToIndex_8c36e wsJ3_checkFromToIndex_8c36e) := goodIn_app (goodIn_of _ (by decide +kernel)) ggJ0_checkBoundsBeginEnd_23922_J3_checkFromToIndex_8c36e
set_option maxRecDepth 20000 in
theorem ggJ1_indexOf_4cfef_J1_canEncode_9a6ad : GoodIn wsJ1_indexOf_4cfef wsJ1_canEncode_9a6ad := goodIn_r _ [11] (by decide +kernel) (by decide +kernel)
set_option maxRecDepth 20000 in
theorem gJ1_indexOf_4cfef_J1_canEncode_9a6ad : GoodIn wsJ1_indexOf_4cfef (va_wsS RJ1 88 yJ1_canEncode_9a6ad wsJ1_canEncode_9a6ad) := goodIn_app (goodIn_of _ (by decide +kernel)) ggJ1_indexOf_4cfef_J1_canEncode_9a6ad
set_option maxRecDepth 20000 in
theorem ggJ1_indexOf_4cfef_J1_indexOfChar_4cfef : GoodIn wsJ1_indexOf_4cfef wsJ1_indexOfChar_4cfef := goodIn_r _ [14] (by decide +kernel) (by decide +kernel)
set_option maxRecDepth 20000 in
theorem gJ1_indexOf_4cfef_J1_indexOfChar_4cfef : GoodIn wsJ1_indexOf_4cfef (va_wsS RJ1 95 yJ1_indexOfChar_4cfef wsJ1_indexOfChar_4cfef) := goodIn_app (goodIn_of _ (by decide +kernel)) ggJ1_indexOf_4cfef_J1_indexOfChar_4cfef
set_option maxRecDepth 20000 in
theorem ggJ2_getChar_3b067_J2_length_9d52b : GoodIn wsJ2_getChar_3b067 wsJ2_length_9d52b := goodIn_r _ [7] (by decide +kernel) (by decide +kernel)
set_option maxRecDepth 20000 in
theorem gJ2_getChar_3b067_J2_length_9d52b : GoodIn wsJ2_getChar_3b067 (va_wsS RJ2 48 yJ2_length_9d52b wsJ2_length_9d52b) := goodIn_app (goodIn_of _ (by decide +kernel)) ggJ2_getChar_3b067_J2_length_9d52b
set_option maxRecDepth 20000 in
theorem ggJ2_indexOf_4cfef_J2_indexOfChar_4cfef : GoodIn wsJ2_indexOf_4cfef wsJ2_indexOfChar_4cfef := goodIn_r _ [12, 13, 14, 11, 15, 16, 17, 18, 19, 20, 21, 22, 23, 24, 25, 26, 27, 28, 29, 30, 31, 32, 33, 34, 35, 36] (by decide +kernel) (by decide +kernel)
set_option maxRecDepth 20000 in
theorem gJ2_indexOf_4cfef_J2_indexOfChar_4cfef : GoodIn wsJ2_indexOf_4cfef (va_wsS RJ2 228 yJ2_indexOfChar_4cfef wsJ2_indexOfChar_4cfef) := goodIn_app (goodIn_of _ (by decide +kernel)) ggJ2_indexOf_4cfef_J2_indexOfChar_4cfef
set_option maxRecDepth 20000 in
theorem ggJ2_indexOf_4cfef_J2_indexOfSupplementary_4cfef : GoodIn wsJ2_indexOf_4cfef wsJ2_indexOfSupplementary_4cfef := goodIn_r _ [39, 40, 41, 42, 43, 44, 45, 46, 47, 48, 49, 50, 51, 13, 14, 11, 15, 16, 17, 18, 19, 20, 21, 22, 23, 24, 25, 26, 27, 31, 32, 33, 34, 35, 36] (by decide +kernel) (by decide +kernel)
set_option maxRecDepth 20000 in
theorem gJ2_indexOf_4cfef_J2_indexOfSupplementary_4cfef : GoodIn wsJ2_indexOf_4cfef (va_wsS RJ2 232 yJ2_indexOfSupplementary_4cfef wsJ2_indexOfSupplementary_4cfef) := goodIn_app (goodIn_of _ (by decide +kernel)) ggJ2_indexOf_4cfef_J2_indexOfSupplementary_4cfef
set_option maxRecDepth 20000 in
theorem ggJ2_indexOfChar_4cfef_J2_checkBoundsBeginEnd_d044e : GoodIn wsJ2_indexOfChar_4cfef wsJ2_checkBoundsBeginEnd_d044e := goodIn_r _ [4, 5, 6, 3, 7, 8, 9, 10, 11, 12, 13, 14, 15, 16] (by decide +kernel) (by decide +kernel)
set_option maxRecDepth 20000 in
theorem gJ2_indexOfChar_4cfef_J2_checkBoundsBeginEnd_d044e : GoodIn wsJ2_indexOfChar_4cfef (va_wsS RJ2 96 yJ2_checkBoundsBeginEnd_d044e wsJ2_checkBoundsBeginEnd_d044e) := goodIn_app (goodIn_of _ (by decide +kernel)) ggJ2_indexOfChar_4cfef_J2_checkBoundsBeginEnd_d044e
set_option maxRecDepth 20000 in
theorem ggJ2_indexOfChar_4cfef_J2_indexOfCharUnsafe_4cfef : GoodIn wsJ2_indexOfChar_4cfef wsJ2_indexOfCharUnsafe_4cfef := goodIn_r _ [19, 20, 21, 3, 22, 23, 24, 25, 5, 6, 7] (by decide +kernel) (by decide +kernel)
set_option maxRecDepth 20000 in
theorem gJ2_indexOfChar_4cfef_J2_indexOfCharUnsafe_4cfef : GoodIn wsJ2_indexOfChar_4cfef (va_wsS RJ2 244 yJ2_indexOfCharUnsafe_4cfef wsJ2_indexOfCharUnsafe_4cfef) := goodIn_app (goodIn_of _ (by decide +kernel)) ggJ2_indexOfChar_4cfef_J2_indexOfCharUnsafe_4cfef
set_option maxRecDepth 20000 in
theorem ggJ2_indexOfCharUnsafe_4cfef_J2_getChar_3b067 : GoodIn wsJ2_indexOfCharUnsafe_4cfef wsJ2_getChar_3b067 := goodIn_r _ [4, 5, 6, 7, 8, 9, 3, 10] (by decide +kernel) (by decide +kernel)
set_option maxRecDepth 20000 in
theorem gJ2_indexOfCharUnsafe_4cfef_J2_getChar_3b067 : GoodIn wsJ2_indexOfCharUnsafe_4cfef (va_wsS RJ2 71 yJ2_getChar_3b067 wsJ2_getChar_3b067) := goodIn_app (goodIn_of _ (by decide +kernel)) ggJ2_indexOfCharUnsafe_4cfef_J2_getChar_3b067
set_option maxRecDepth 20000 in
theorem ggJ2_indexOfSupplementary_4cfef_J11_isValidCodePoint_9a6ad : GoodIn wsJ2_indexOfSupplementary_4cfef wsJ11_isValidCodePoint_9a6ad := goodIn_r _ [4] (by decide +kernel) (by decide +kernel)
set_option maxRecDepth 20000 in
theorem gJ2_indexOfSupplementary_4cfef_J11_isValidCodePoint_9a6ad : GoodIn wsJ2_indexOfSupplementary_4cfef (va_wsS RJ2 164 yJ11_isValidCodePoint_9a6ad wsJ11_isValidCodePoint_9a6ad) := goodIn_app (goodIn_of _ (by decide +kernel)) ggJ2_indexOfSupplementary_4cfef_J11_isValidCodePoint_9a6ad
set_option maxRecDepth 20000 in
theorem ggJ2_indexOfSupplementary_4cfef_J11_highSurrogate_5068e : GoodIn wsJ2_indexOfSupplementary_4cfef wsJ11_highSurrogate_5068e := goodIn_r _ [7, 8] (by decide +kernel) (by decide +kernel)
set_option maxRecDepth 20000 in
theorem gJ2_indexOfSupplementary_4cfef_J11_highSurrogate_5068e : GoodIn wsJ2_indexOfSupplementary_4cfef (va_wsS RJ2 157 yJ11_highSurrogate_5068e wsJ11_highSurrogate_5068e) := goodIn_app (goodIn_of _ (by decide +kernel)) ggJ2_indexOfSupplementary_4cfef_J11_highSurrogate_5068e
set_option maxRecDepth 20000 in
theorem ggJ2_indexOfSupplementary_4cfef_J11_lowSurrogate_5068e : GoodIn wsJ2_indexOfSupplementary_4cfef wsJ11_lowSurrogate_5068e := goodIn_r _ [11, 12] (by decide +kernel) (by decide +kernel)
set_option maxRecDepth 20000 in
theorem gJ2_indexOfSupplementary_4cfef_J11_lowSurrogate_5068e : GoodIn wsJ2_indexOfSupplementary_4cfef (va_wsS RJ2 161 yJ11_lowSurrogate_5068e wsJ11_lowSurrogate_5068e) := goodIn_app (goodIn_of _ (by decide +kernel)) ggJ2_indexOfSupplementary_4cfef_J11_lowSurrogate_5068e
set_option maxRecDepth 20000 in
theorem ggJ2_indexOfSupplementary_4cfef_J2_checkBoundsBeginEnd_d044e : GoodIn wsJ2_indexOfSupplementary_4cfef wsJ2_checkBoundsBeginEnd_d044e := goodIn_r _ [16, 17, 18, 15, 19, 20, 21, 22, 23, 24, 25, 26, 27, 28] (by decide +kernel) (by decide +kernel)
set_option maxRecDepth 20000 in
theorem gJ2_indexOfSupplementary_4cfef_J2_checkBoundsBeginEnd_d044e : GoodIn wsJ2_indexOfSupplementary_4cfef (va_wsS RJ2 96 yJ2_checkBoundsBeginEnd_d044e wsJ2_checkBoundsBeginEnd_d044e) := goodIn_app (goodIn_of _ (by decide +kernel)) ggJ2_indexOfSupplementary_4cfef_J2_checkBoundsBeginEnd_d044e
set_option maxRecDepth 20000 in
theorem ggJ2_indexOfSupplementary_4cfef_J2_getChar_3b067 : GoodIn wsJ2_indexOfSupplementary_4cfef wsJ2_getChar_3b067 := goodIn_r _ [31, 32, 33, 34, 17, 18, 15, 19] (by decide +kernel) (by decide +kernel)
set_option maxRecDepth 20000 in
theorem gJ2_indexOfSupplementary_4cfef_J2_getChar_3b067 : GoodIn wsJ2_indexOfSupplementary_4cfef (va_wsS RJ2 71 yJ2_getChar_3b067 wsJ2_getChar_3b067) := goodIn_app (goodIn_of _ (by decide +kernel)) ggJ2_indexOfSupplementary_4cfef_J2_getChar_3b067
set_option maxRecDepth 20000 in
theorem ggJ2_checkBoundsBeginEnd_d044e_J2_length_9d52b : GoodIn wsJ2_checkBoundsBeginEnd_d044e wsJ2_length_9d52b := goodIn_r _ [4] (by decide +kernel) (by decide +kernel)
set_option maxRecDepth 20000 in
theorem gJ2_checkBoundsBeginEnd_d044e_J2_length_9d52b : GoodIn wsJ2_checkBoundsBeginEnd_d044e (va_wsS RJ2 48 yJ2_length_9d52b wsJ2_length_9d52b) := goodIn_app (goodIn_of _ (by decide +kernel)) ggJ2_checkBoundsBeginEnd_d044e_J2_length_9d52b
set_option maxRecDepth 20000 in
theorem ggJ2_checkBoundsBeginEnd_d044e_J0_checkBoundsBeginEnd_23922 : GoodIn wsJ2_checkBoundsBeginEnd_d044e wsJ0_checkBoundsBeginEnd_23922 := goodIn_r _ [8, 9, 10, 11, 12, 13] (by decide +kernel) (by decide +kernel)
set_option maxRecDepth 20000 in
theorem gJ2_checkBoundsBeginEnd_d044e_J0_checkBoundsBeginEnd_23922 : GoodIn wsJ2_checkBoundsBeginEnd_d044e (va_wsS RJ2 241 yJ0_checkBoundsBeginEnd_23922 wsJ0_checkBoundsBeginEnd_23922) := goodIn_app (goodIn_of _ (by decide +kernel)) ggJ2_checkBoundsBeginEnd_d044e_J0_checkBoundsBeginEnd_23922
set_option maxRecDepth 20000 in
theorem ggL_law_X9_init : GoodIn wsL_law wsX9_init := goodIn_r _ [8, 9, 10, 11, 12, 13, 14, 15, 16, 17, 18, 19, 20, 21, 22, 23, 24, 25, 26, 27, 28, 29, 30, 31, 32, 33, 34, 35, 36, 37, 38, 39, 40, 41, 42, 43, 44, 45, 46, 47, 48, 49, 50, 51, 52, 1049, 1050, 1051, 1052, 1053, 1054, 1055, 1016, 1017, 1018, 1019, 1020, 1021, 1022, 1023, 1056, 1057, 1058, 1059, 1060] (by decide +kernel) (by decide +kernel)
set_option maxRecDepth 20000 in
theorem gL_law_X9_init : GoodIn wsL_law (wsX9_init) := ggL_law_X9_init
set_option maxRecDepth 20000 in
theorem ggL_law_X10_init : GoodIn wsL_law wsX10_init := goodIn_r _ [55, 56, 10, 11, 30, 57, 58, 59, 60, 61, 62, 63, 64, 65, 66, 67, 68, 69, 1024, 1025, 1026, 1027, 1028, 1029, 1030, 1031, 1032, 1033, 1034, 1035, 1036, 1037, 1038, 1039, 1040, 1041, 1042, 1043, 1044, 1045, 1046, 1047, 1048] (by decide +kernel) (by decide +kernel)
set_option maxRecDepth 20000 in
theorem gL_law_X10_init : GoodIn wsL_law (wsX10_init) := ggL_law_X10_init
set_option maxRecDepth 20000 in
theorem ggL_law_X9_letter : GoodIn wsL_law wsX9_letter := goodIn_r _ [73, 21, 74, 75, 76, 2, 77, 31, 78, 79, 80, 20, 81, 82, 83, 84, 85, 86, 44, 87, 1016, 1017, 1018, 1019, 1020, 1021, 1022, 1023, 1056, 1057] (by decide +kernel) (by decide +kernel)
set_option maxRecDepth 20000 in
theorem gL_law_X9_letter : GoodIn wsL_law (wsV RL 13 RX9 yX9_letter wsX9_letter) := goodIn_app (goodIn_of _ (by decide +kernel)) ggL_law_X9_letter
set_option maxRecDepth 20000 in
theorem ggL_law_X10_letter : GoodIn wsL_law wsX10_letter := goodIn_r _ [91, 92, 61, 93, 94, 5, 95, 96, 97, 98, 99, 57, 1024, 1025, 1026, 1027, 1028, 1029, 1030, 1031, 1032, 1033, 1034, 1035, 1036, 1037, 1038, 1039, 1040, 1041, 1042, 1043, 1044, 1045, 1046, 1047, 1048] (by decide +kernel) (by decide +kernel)
set_option maxRecDepth 20000 in
theorem gL_law_X10_letter : GoodIn wsL_law (wsV RL 17 RX10 yX10_letter wsX10_letter) := goodIn_app (goodIn_of _ (by decide +kernel)) ggL_law_X10_letter
set_option maxRecDepth 20000 in
theorem ggL_law_X9_state : GoodIn wsL_law wsX9_state := goodIn_r _ [103, 21, 16, 15, 104, 105, 106, 20, 107, 82, 108, 109, 110, 111, 44, 112, 113, 114, 115, 116, 117, 118, 119, 120, 121, 122, 123, 124, 125, 126, 127, 128, 129, 130, 131, 132, 133, 134, 135, 136, 137, 138, 139, 140, 141, 142, 143, 144, 145, 146, 147, 148, 149, 150, 151, 152, 153, 154, 155, 156, 157, 158, 159, 160, 161, 162, 163, 164, 165, 166, 167, 168, 169, 170, 171, 172, 173, 174, 175, 176, 177, 178, 179, 180, 181, 182, 183, 184, 185, 186, 187, 188, 189, 190, 191, 192, 193, 194, 195, 196, 197, 198, 199, 200, 201, 202, 203, 204, 205, 206, 207, 208, 209, 210, 211, 212, 14, 213, 37, 38, 39, 214, 215, 216, 217, 218, 219, 220, 221, 222, 223, 224, 225, 226, 227, 228, 229, 230, 231, 232, 233, 234, 235, 236, 237, 238, 239, 240, 241, 242, 243, 244, 245, 246, 247, 248, 249, 250, 251, 252, 253, 254, 255, 256, 257, 258, 259, 260, 261, 262, 263, 264, 265, 266, 267, 268, 269, 270, 271, 272, 273, 274, 275, 276, 277, 278, 279, 280, 281, 282, 283, 284, 285, 286, 287, 288, 289, 290, 291, 292, 293, 294, 295, 296, 297, 298, 299, 300, 301, 302, 303, 304, 305, 306, 1016, 1017, 1018, 1019, 1020, 1021, 1022, 1023, 1056, 1057, 1049, 1050, 1051, 1052, 1053, 1054, 1055] (by decide +kernel) (by decide +kernel)
set_option maxRecDepth 20000 in
theorem gL_law_X9_state : GoodIn wsL_law (wsV RL 18 RX9 yX9_state wsX9_state) := goodIn_app (goodIn_of _ (by decide +kernel)) ggL_law_X9_state
set_option maxRecDepth 20000 in
theorem ggL_law_X10_state : GoodIn wsL_law wsX10_state := goodIn_r _ [310, 311, 312, 92, 63, 313, 314, 315, 5, 316, 62, 317, 318, 319, 320, 61, 321, 322, 323, 324, 325, 326, 327, 328, 64, 329, 330, 331, 332, 333, 334, 335, 336, 337, 338, 339, 340, 341, 342, 343, 344, 58, 59, 60, 69, 345, 346, 347, 348, 349, 350, 351, 65, 352, 353, 354, 355, 356, 357, 358, 359, 360, 361, 362, 363, 364, 365, 366, 367, 368, 369, 370, 371, 372, 373, 374, 375, 376, 377, 378, 379, 380, 381, 382, 383, 384, 385, 386, 387, 388, 389, 390, 391, 392, 393, 394, 395, 396, 397, 1024, 1025, 1026, 1027, 1028, 1029, 1030, 1031, 1032, 1033, 1034, 1035, 1036, 1037, 1038, 1039, 1040, 1041, 1042, 1043, 1044, 1045, 1046, 1047, 1048] (by decide +kernel) (by decide +kernel)
set_option maxRecDepth 20000 in
theorem gL_law_X10_state : GoodIn wsL_law (wsV RL 22 RX10 yX10_state wsX10_state) := goodIn_app (goodIn_of _ (by decide +kernel)) ggL_law_X10_state
set_option maxRecDepth 20000 in
theorem ggL_law_X9_thing : GoodIn wsL_law wsX9_thing := goodIn_r _ [401, 15, 402, 242, 243, 14, 244, 214, 74, 75, 76, 2, 77, 31, 403, 293, 294, 295, 37, 241, 404, 297, 298, 299, 38, 405, 278, 279, 280, 39, 406, 407, 408, 409, 215, 410, 250, 251, 252, 216, 411, 412, 413, 414, 277, 415, 416, 417, 418, 1016, 1017, 1018, 1019, 1020, 1021, 1022, 1023, 1049, 1050, 1051, 1052, 1053, 1054, 1055] (by decide +kernel) (by decide +kernel)
set_option maxRecDepth 20000 in
theorem gL_law_X9_thing : GoodIn wsL_law (wsV RL 23 RX9 yX9_thing wsX9_thing) := goodIn_app (goodIn_of _ (by decide +kernel)) ggL_law_X9_thing
set_option maxRecDepth 20000 in
theorem ggL_law_X10_thing : GoodIn wsL_law wsX10_thing := goodIn_r _ [422, 58, 59, 60, 346, 347, 368, 369, 370, 5, 371, 69, 96, 97, 98, 99, 57, 423, 424, 425, 426, 66, 384, 385, 386, 1024, 1025, 1026, 1027, 1028, 1029, 1030, 1031, 1032, 1033, 1034, 1035, 1036, 1037, 1038, 1039, 1040, 1041, 1042, 1043, 1044, 1045, 1046, 1047, 1048] (by decide +kernel) (by decide +kernel)
set_option maxRecDepth 20000 in
theorem gL_law_X10_thing : GoodIn wsL_law (wsV RL 27 RX10 yX10_thing wsX10_thing) := goodIn_app (goodIn_of _ (by decide +kernel)) ggL_law_X10_thing
set_option maxRecDepth 20000 in
theorem ggL_law_X9_causes : GoodIn wsL_law wsX9_causes := goodIn_r _ [430, 15, 402, 242, 243, 14, 244, 214, 74, 75, 76, 2, 77, 31, 431, 238, 239, 240, 39, 241, 405, 278, 279, 280, 1016, 1017, 1018, 1019, 1020, 1021, 1022, 1023, 1049, 1050, 1051, 1052, 1053, 1054, 1055] (by decide +kernel) (by decide +kernel)
set_option maxRecDepth 20000 in
theorem gL_law_X9_causes : GoodIn wsL_law (wsV RL 28 RX9 yX9_causes wsX9_causes) := goodIn_app (goodIn_of _ (by decide +kernel)) ggL_law_X9_causes
set_option maxRecDepth 20000 in
theorem ggL_law_X10_causes : GoodIn wsL_law wsX10_causes := goodIn_r _ [435, 60, 368, 369, 370, 5, 371, 69, 96, 97, 98, 99, 57, 1024, 1025, 1026, 1027, 1028, 1029, 1030, 1031, 1032, 1033, 1034, 1035, 1036, 1037, 1038, 1039, 1040, 1041, 1042, 1043, 1044, 1045, 1046, 1047, 1048] (by decide +kernel) (by decide +kernel)
set_option maxRecDepth 20000 in
theorem gL_law_X10_causes : GoodIn wsL_law (wsV RL 31 RX10 yX10_causes wsX10_causes) := goodIn_app (goodIn_of _ (by decide +kernel)) ggL_law_X10_causes
set_option maxRecDepth 20000 in
theorem ggL_law_X9_loses : GoodIn wsL_law wsX9_loses := goodIn_r _ [439, 15, 402, 242, 243, 14, 244, 214, 74, 75, 76, 2, 77, 31, 406, 407, 408, 409, 215, 241, 440, 246, 247, 248, 249, 250, 251, 252, 216, 441, 282, 283, 284, 285, 286, 287, 1016, 1017, 1018, 1019, 1020, 1021, 1022, 1023, 1049, 1050, 1051, 1052, 1053, 1054, 1055] (by decide +kernel) (by decide +kernel)
set_option maxRecDepth 20000 in
theorem gL_law_X9_loses : GoodIn wsL_law (wsV RL 32 RX9 yX9_loses wsX9_loses) := goodIn_app (goodIn_of _ (by decide +kernel)) ggL_law_X9_loses
set_option maxRecDepth 20000 in
theorem ggL_law_X10_loses : GoodIn wsL_law wsX10_loses := goodIn_r _ [445, 346, 347, 368, 369, 370, 5, 371, 69, 384, 385, 386, 96, 97, 98, 99, 57, 387, 388, 389, 1024, 1025, 1026, 1027, 1028, 1029, 1030, 1031, 1032, 1033, 1034, 1035, 1036, 1037, 1038, 1039, 1040, 1041, 1042, 1043, 1044, 1045, 1046, 1047, 1048] (by decide +kernel) (by decide +kernel)
set_option maxRecDepth 20000 in
theorem gL_law_X10_loses : GoodIn wsL_law (wsV RL 35 RX10 yX10_loses wsX10_loses) := goodIn_app (goodIn_of _ (by decide +kernel)) ggL_law_X10_loses
set_option maxRecDepth 20000 in
theorem ggL_law_X9_mends : GoodIn wsL_law wsX9_mends := goodIn_r _ [449, 15, 402, 242, 243, 14, 244, 214, 74, 75, 76, 2, 77, 31, 406, 407, 408, 409, 215, 241, 450, 254, 255, 256, 441, 282, 283, 284, 285, 286, 287, 1016, 1017, 1018, 1019, 1020, 1021, 1022, 1023, 1049, 1050, 1051, 1052, 1053, 1054, 1055] (by decide +kernel) (by decide +kernel)
set_option maxRecDepth 20000 in
theorem gL_law_X9_mends : GoodIn wsL_law (wsV RL 36 RX9 yX9_mends wsX9_mends) := goodIn_app (goodIn_of _ (by decide +kernel)) ggL_law_X9_mends
set_option maxRecDepth 20000 in
theorem ggL_law_X10_mends : GoodIn wsL_law wsX10_mends := goodIn_r _ [454, 346, 368, 369, 370, 5, 371, 69, 384, 385, 386, 96, 97, 98, 99, 57, 387, 388, 389, 1024, 1025, 1026, 1027, 1028, 1029, 1030, 1031, 1032, 1033, 1034, 1035, 1036, 1037, 1038, 1039, 1040, 1041, 1042, 1043, 1044, 1045, 1046, 1047, 1048] (by decide +kernel) (by decide +kernel)
set_option maxRecDepth 20000 in
theorem gL_law_X10_mends : GoodIn wsL_law (wsV RL 39 RX10 yX10_mends wsX10_mends) := goodIn_app (goodIn_of _ (by decide +kernel)) ggL_law_X10_mends
set_option maxRecDepth 20000 in
theorem ggL_law_X9_guards : GoodIn wsL_law wsX9_guards := goodIn_r _ [458, 15, 459, 258, 259, 14, 260, 216, 241, 242, 243, 244, 214, 74, 75, 76, 2, 77, 31, 410, 250, 251, 252, 1016, 1017, 1018, 1019, 1020, 1021, 1022, 1023, 1049, 1050, 1051, 1052, 1053, 1054, 1055] (by decide +kernel) (by decide +kernel)
set_option maxRecDepth 20000 in
theorem gL_law_X9_guards : GoodIn wsL_law (wsV RL 40 RX9 yX9_guards wsX9_guards) := goodIn_app (goodIn_of _ (by decide +kernel)) ggL_law_X9_guards
set_option maxRecDepth 20000 in
theorem ggL_law_X10_guards : GoodIn wsL_law wsX10_guards := goodIn_r _ [463, 347, 368, 369, 370, 5, 371, 69, 96, 97, 98, 99, 57, 1024, 1025, 1026, 1027, 1028, 1029, 1030, 1031, 1032, 1033, 1034, 1035, 1036, 1037, 1038, 1039, 1040, 1041, 1042, 1043, 1044, 1045, 1046, 1047, 1048] (by decide +kernel) (by decide +kernel)
set_option maxRecDepth 20000 in
theorem gL_law_X10_guards : GoodIn wsL_law (wsV RL 43 RX10 yX10_guards wsX10_guards) := goodIn_app (goodIn_of _ (by decide +kernel)) ggL_law_X10_guards
set_option maxRecDepth 20000 in
theorem ggL_law_X9_turn : GoodIn wsL_law wsX9_turn := goodIn_r _ [467, 15, 402, 242, 243, 14, 244, 214, 74, 75, 76, 2, 77, 31, 468, 232, 233, 469, 470, 471, 403, 293, 294, 295, 37, 241, 404, 297, 298, 299, 38, 472, 473, 474, 475, 231, 476, 477, 478, 479, 234, 235, 236, 1016, 1017, 1018, 1019, 1020, 1021, 1022, 1023, 1049, 1050, 1051, 1052, 1053, 1054, 1055] (by decide +kernel) (by decide +kernel)
set_option maxRecDepth 20000 in
theorem gL_law_X9_turn : GoodIn wsL_law (wsV RL 44 RX9 yX9_turn wsX9_turn) := goodIn_app (goodIn_of _ (by decide +kernel)) ggL_law_X9_turn
set_option maxRecDepth 20000 in
theorem ggL_law_X10_turn : GoodIn wsL_law wsX10_turn := goodIn_r _ [483, 58, 59, 368, 369, 370, 5, 371, 69, 336, 337, 338, 93, 94, 95, 96, 97, 98, 99, 57, 1024, 1025, 1026, 1027, 1028, 1029, 1030, 1031, 1032, 1033, 1034, 1035, 1036, 1037, 1038, 1039, 1040, 1041, 1042, 1043, 1044, 1045, 1046, 1047, 1048] (by decide +kernel) (by decide +kernel)
set_option maxRecDepth 20000 in
theorem gL_law_X10_turn : GoodIn wsL_law (wsV RL 48 RX10 yX10_turn wsX10_turn) := goodIn_app (goodIn_of _ (by decide +kernel)) ggL_law_X10_turn
set_option maxRecDepth 20000 in
theorem ggL_law_X9_days : GoodIn wsL_law wsX9_days := goodIn_r _ [487, 15, 469, 470, 2, 471, 74, 75, 76, 77, 31, 488, 262, 263, 14, 264, 217, 215, 216, 265, 266, 267, 268, 269, 270, 271, 272, 214, 273, 274, 275, 276, 277, 278, 279, 280, 39, 241, 242, 243, 244, 281, 282, 283, 284, 285, 286, 287, 288, 289, 290, 291, 292, 293, 294, 295, 37, 296, 297, 298, 299, 38, 300, 301, 302, 441, 1016, 1017, 1018, 1019, 1020, 1021, 1022, 1023, 1049, 1050, 1051, 1052, 1053, 1054, 1055] (by decide +kernel) (by decide +kernel)
set_option maxRecDepth 20000 in
theorem gL_law_X9_days : GoodIn wsL_law (wsV RL 49 RX9 yX9_days wsX9_days) := goodIn_app (goodIn_of _ (by decide +kernel)) ggL_law_X9_days
set_option maxRecDepth 20000 in
theorem ggL_law_X10_days : GoodIn wsL_law wsX10_days := goodIn_r _ [492, 345, 346, 93, 94, 5, 95, 96, 97, 98, 99, 57, 376, 377, 378, 379, 380, 381, 382, 383, 69, 347, 60, 384, 385, 386, 387, 388, 389, 390, 391, 392, 393, 58, 59, 1024, 1025, 1026, 1027, 1028, 1029, 1030, 1031, 1032, 1033, 1034, 1035, 1036, 1037, 1038, 1039, 1040, 1041, 1042, 1043, 1044, 1045, 1046, 1047, 1048] (by decide +kernel) (by decide +kernel)
set_option maxRecDepth 20000 in
theorem gL_law_X10_days : GoodIn wsL_law (wsV RL 52 RX10 yX10_days wsX10_days) := goodIn_app (goodIn_of _ (by decide +kernel)) ggL_law_X10_days
set_option maxRecDepth 20000 in
theorem ggL_law_X9_lostThen : GoodIn wsL_law wsX9_lostThen := goodIn_r _ [496, 15, 469, 470, 2, 471, 74, 75, 76, 77, 31, 497, 498, 499, 500, 501, 266, 267, 14, 268, 269, 270, 271, 272, 214, 273, 274, 275, 276, 277, 278, 279, 280, 39, 241, 242, 243, 244, 281, 282, 283, 284, 285, 286, 287, 288, 289, 290, 291, 292, 293, 294, 295, 37, 296, 297, 298, 299, 38, 300, 301, 302, 1016, 1017, 1018, 1019, 1020, 1021, 1022, 1023, 1049, 1050, 1051, 1052, 1053, 1054, 1055] (by decide +kernel) (by decide +kernel)
set_option maxRecDepth 20000 in
theorem gL_law_X9_lostThen : GoodIn wsL_law (wsV RL 53 RX9 yX9_lostThen wsX9_lostThen) := goodIn_app (goodIn_of _ (by decide +kernel)) ggL_law_X9_lostThen
set_option maxRecDepth 20000 in
theorem ggL_law_X10_lostThen : GoodIn wsL_law wsX10_lostThen := goodIn_r _ [505, 93, 94, 5, 95, 96, 97, 98, 99, 57, 506, 507, 508, 509, 346, 510, 511, 512, 513, 339, 340, 341, 342, 343, 344, 58, 59, 60, 69, 345, 347, 348, 349, 350, 351, 65, 352, 353, 354, 355, 376, 377, 378, 379, 380, 381, 382, 383, 384, 385, 386, 387, 388, 389, 390, 391, 392, 393, 514, 515, 516, 517, 1024, 1025, 1026, 1027, 1028, 1029, 1030, 1031, 1032, 1033, 1034, 1035, 1036, 1037, 1038, 1039, 1040, 1041, 1042, 1043, 1044, 1045, 1046, 1047, 1048] (by decide +kernel) (by decide +kernel)
set_option maxRecDepth 20000 in
theorem gL_law_X10_lostThen : GoodIn wsL_law (wsV RL 56 RX10 yX10_lostThen wsX10_lostThen) := goodIn_app (goodIn_of _ (by decide +kernel)) ggL_law_X10_lostThen
set_option maxRecDepth 20000 in
theorem ggL_law_X9_when : GoodIn wsL_law wsX9_when := goodIn_r _ [521, 15, 402, 242, 243, 14, 244, 214, 522, 523, 499, 524, 525, 270, 271, 272, 273, 274, 275, 276, 277, 278, 279, 280, 39, 241, 281, 282, 283, 284, 285, 286, 287, 288, 289, 290, 291, 292, 293, 294, 295, 37, 296, 297, 298, 299, 38, 300, 301, 302, 74, 75, 76, 2, 77, 31, 1016, 1017, 1018, 1019, 1020, 1021, 1022, 1023, 1049, 1050, 1051, 1052, 1053, 1054, 1055] (by decide +kernel) (by decide +kernel)
set_option maxRecDepth 20000 in
theorem gL_law_X9_when : GoodIn wsL_law (wsV RL 57 RX9 yX9_when wsX9_when) := goodIn_app (goodIn_of _ (by decide +kernel)) ggL_law_X9_when
set_option maxRecDepth 20000 in
theorem ggL_law_X10_when : GoodIn wsL_law wsX10_when := goodIn_r _ [529, 368, 369, 370, 5, 371, 69, 530, 531, 532, 533, 346, 510, 511, 512, 513, 339, 340, 341, 342, 343, 344, 58, 59, 60, 345, 347, 348, 349, 350, 351, 65, 352, 353, 354, 355, 384, 385, 386, 380, 381, 382, 383, 387, 388, 389, 390, 391, 392, 393, 514, 515, 516, 517, 96, 97, 98, 99, 57, 1024, 1025, 1026, 1027, 1028, 1029, 1030, 1031, 1032, 1033, 1034, 1035, 1036, 1037, 1038, 1039, 1040, 1041, 1042, 1043, 1044, 1045, 1046, 1047, 1048] (by decide +kernel) (by decide +kernel)
set_option maxRecDepth 20000 in
theorem gL_law_X10_when : GoodIn wsL_law (wsV RL 60 RX10 yX10_when wsX10_when) := goodIn_app (goodIn_of _ (by decide +kernel)) ggL_law_X10_when
set_option maxRecDepth 20000 in
theorem ggL_law_X9_next : GoodIn wsL_law wsX9_next := goodIn_r _ [537, 15, 538, 539, 499, 540, 525, 270, 271, 14, 272, 214, 273, 274, 275, 276, 277, 278, 279, 280, 39, 241, 242, 243, 244, 281, 282, 283, 284, 285, 286, 287, 288, 289, 290, 291, 292, 293, 294, 295, 37, 296, 297, 298, 299, 38, 300, 301, 302, 541, 542, 543, 544, 522, 523, 524, 545, 546, 547, 501, 266, 267, 268, 269, 74, 75, 76, 2, 77, 31, 1016, 1017, 1018, 1019, 1020, 1021, 1022, 1023, 1049, 1050, 1051, 1052, 1053, 1054, 1055] (by decide +kernel) (by decide +kernel)
set_option maxRecDepth 20000 in
theorem gL_law_X9_next : GoodIn wsL_law (wsV RL 61 RX9 yX9_next wsX9_next) := goodIn_app (goodIn_of _ (by decide +kernel)) ggL_law_X9_next
set_option maxRecDepth 20000 in
theorem ggL_law_X10_next_ : GoodIn wsL_law wsX10_next_ := goodIn_r _ [551, 552, 336, 337, 5, 338, 96, 97, 98, 99, 57, 553, 554, 555, 556, 506, 507, 508, 509, 346, 510, 511, 512, 513, 339, 340, 341, 342, 343, 344, 58, 59, 60, 69, 345, 347, 348, 349, 350, 351, 65, 352, 353, 354, 355, 376, 377, 378, 379, 380, 381, 382, 383, 384, 385, 386, 387, 388, 389, 390, 391, 392, 393, 514, 515, 516, 517, 557, 558, 559, 560, 530, 531, 532, 533, 1024, 1025, 1026, 1027, 1028, 1029, 1030, 1031, 1032, 1033, 1034, 1035, 1036, 1037, 1038, 1039, 1040, 1041, 1042, 1043, 1044, 1045, 1046, 1047, 1048] (by decide +kernel) (by decide +kernel)
set_option maxRecDepth 20000 in
theorem gL_law_X10_next_ : GoodIn wsL_law (wsV RL 64 RX10 yX10_next_ wsX10_next_) := goodIn_app (goodIn_of _ (by decide +kernel)) ggL_law_X10_next_
set_option maxRecDepth 20000 in
theorem ggL_law_X9_roots : GoodIn wsL_law wsX9_roots := goodIn_r _ [564, 15, 402, 242, 243, 14, 244, 214, 74, 75, 76, 2, 77, 31, 565, 566, 567, 568, 569, 570, 571, 277, 278, 279, 280, 39, 241, 572, 573, 574, 575, 576, 1016, 1017, 1018, 1019, 1020, 1021, 1022, 1023, 1049, 1050, 1051, 1052, 1053, 1054, 1055] (by decide +kernel) (by decide +kernel)
set_option maxRecDepth 20000 in
theorem gL_law_X9_roots : GoodIn wsL_law (wsV RL 65 RX9 yX9_roots wsX9_roots) := goodIn_app (goodIn_of _ (by decide +kernel)) ggL_law_X9_roots
set_option maxRecDepth 20000 in
theorem ggL_law_X10_roots : GoodIn wsL_law wsX10_roots := goodIn_r _ [580, 368, 369, 370, 5, 371, 69, 336, 337, 338, 96, 97, 98, 99, 57, 581, 582, 583, 584, 60, 384, 385, 386, 585, 586, 587, 588, 1024, 1025, 1026, 1027, 1028, 1029, 1030, 1031, 1032, 1033, 1034, 1035, 1036, 1037, 1038, 1039, 1040, 1041, 1042, 1043, 1044, 1045, 1046, 1047, 1048] (by decide +kernel) (by decide +kernel)
set_option maxRecDepth 20000 in
theorem gL_law_X10_roots : GoodIn wsL_law (wsV RL 68 RX10 yX10_roots wsX10_roots) := goodIn_app (goodIn_of _ (by decide +kernel)) ggL_law_X10_roots
set_option maxRecDepth 20000 in
theorem ggL_law_X9_nails : GoodIn wsL_law wsX9_nails := goodIn_r _ [592, 15, 593, 594, 595, 14, 596, 214, 277, 278, 279, 280, 39, 241, 242, 243, 244, 1016, 1017, 1018, 1019, 1020, 1021, 1022, 1023, 1049, 1050, 1051, 1052, 1053, 1054, 1055] (by decide +kernel) (by decide +kernel)
set_option maxRecDepth 20000 in
theorem gL_law_X9_nails : GoodIn wsL_law (wsV RL 69 RX9 yX9_nails wsX9_nails) := goodIn_app (goodIn_of _ (by decide +kernel)) ggL_law_X9_nails
set_option maxRecDepth 20000 in
theorem ggL_law_X10_nails : GoodIn wsL_law wsX10_nails := goodIn_r _ [600, 69, 60, 1024, 1025, 1026, 1027, 1028, 1029, 1030, 1031, 1032, 1033, 1034, 1035, 1036, 1037, 1038, 1039, 1040, 1041, 1042, 1043, 1044, 1045, 1046, 1047, 1048] (by decide +kernel) (by decide +kernel)
set_option maxRecDepth 20000 in
theorem gL_law_X10_nails : GoodIn wsL_law (wsV RL 72 RX10 yX10_nails wsX10_nails) := goodIn_app (goodIn_of _ (by decide +kernel)) ggL_law_X10_nails
set_option maxRecDepth 20000 in
theorem ggL_law_X9_guard : GoodIn wsL_law wsX9_guard := goodIn_r _ [604, 15, 402, 242, 243, 14, 244, 214, 74, 75, 76, 2, 77, 31, 469, 470, 471, 605, 606, 499, 607, 608, 407, 408, 409, 215, 241, 609, 498, 500, 501, 266, 267, 268, 269, 270, 271, 272, 273, 274, 275, 276, 277, 278, 279, 280, 39, 281, 282, 283, 284, 285, 286, 287, 288, 289, 290, 291, 292, 293, 294, 295, 37, 296, 297, 298, 299, 38, 300, 301, 302, 610, 611, 612, 613, 216, 614, 615, 616, 617, 618, 619, 620, 1016, 1017, 1018, 1019, 1020, 1021, 1022, 1023, 1049, 1050, 1051, 1052, 1053, 1054, 1055] (by decide +kernel) (by decide +kernel)
set_option maxRecDepth 20000 in
theorem gL_law_X9_guard : GoodIn wsL_law (wsV RL 73 RX9 yX9_guard wsX9_guard) := goodIn_app (goodIn_of _ (by decide +kernel)) ggL_law_X9_guard
set_option maxRecDepth 20000 in
theorem ggL_law_X10_guard : GoodIn wsL_law wsX10_guard := goodIn_r _ [624, 368, 369, 370, 5, 371, 69, 93, 94, 95, 96, 97, 98, 99, 57, 625, 626, 627, 628, 629, 630, 631, 632, 346, 347, 387, 388, 389, 633, 634, 635, 636, 506, 507, 508, 509, 510, 511, 512, 513, 339, 340, 341, 342, 343, 344, 58, 59, 60, 345, 348, 349, 350, 351, 65, 352, 353, 354, 355, 376, 377, 378, 379, 380, 381, 382, 383, 384, 385, 386, 390, 391, 392, 393, 514, 515, 516, 517, 1024, 1025, 1026, 1027, 1028, 1029, 1030, 1031, 1032, 1033, 1034, 1035, 1036, 1037, 1038, 1039, 1040, 1041, 1042, 1043, 1044, 1045, 1046, 1047, 1048] (by decide +kernel) (by decide +kernel)
set_option maxRecDepth 20000 in
theorem gL_law_X10_guard : GoodIn wsL_law (wsV RL 76 RX10 yX10_guard wsX10_guard) := goodIn_app (goodIn_of _ (by decide +kernel)) ggL_law_X10_guard
set_option maxRecDepth 20000 in
theorem ggL_law_X9_weak : GoodIn wsL_law wsX9_weak := goodIn_r _ [640, 15, 469, 470, 2, 471, 74, 75, 76, 77, 31, 641, 642, 499, 643, 609, 498, 500, 501, 266, 267, 14, 268, 269, 270, 271, 272, 214, 273, 274, 275, 276, 277, 278, 279, 280, 39, 241, 242, 243, 244, 281, 282, 283, 284, 285, 286, 287, 288, 289, 290, 291, 292, 293, 294, 295, 37, 296, 297, 298, 299, 38, 300, 301, 302, 644, 610, 611, 612, 613, 215, 216, 614, 615, 616, 617, 618, 619, 620, 1016, 1017, 1018, 1019, 1020, 1021, 1022, 1023, 1049, 1050, 1051, 1052, 1053, 1054, 1055] (by decide +kernel) (by decide +kernel)
set_option maxRecDepth 20000 in
theorem gL_law_X9_weak : GoodIn wsL_law (wsV RL 77 RX9 yX9_weak wsX9_weak) := goodIn_app (goodIn_of _ (by decide +kernel)) ggL_law_X9_weak
set_option maxRecDepth 20000 in
theorem ggL_law_X10_weak : GoodIn wsL_law wsX10_weak := goodIn_r _ [648, 69, 93, 94, 5, 95, 96, 97, 98, 99, 57, 506, 507, 508, 509, 346, 510, 511, 512, 513, 339, 340, 341, 342, 343, 344, 58, 59, 60, 345, 347, 348, 349, 350, 351, 65, 352, 353, 354, 355, 376, 377, 378, 379, 380, 381, 382, 383, 384, 385, 386, 387, 388, 389, 390, 391, 392, 393, 514, 515, 516, 517, 633, 634, 635, 636, 1024, 1025, 1026, 1027, 1028, 1029, 1030, 1031, 1032, 1033, 1034, 1035, 1036, 1037, 1038, 1039, 1040, 1041, 1042, 1043, 1044, 1045, 1046, 1047, 1048] (by decide +kernel) (by decide +kernel)
set_option maxRecDepth 20000 in
theorem gL_law_X10_weak : GoodIn wsL_law (wsV RL 80 RX10 yX10_weak wsX10_weak) := goodIn_app (goodIn_of _ (by decide +kernel)) ggL_law_X10_weak
set_option maxRecDepth 20000 in
theorem ggL_law_X9_tack : GoodIn wsL_law wsX9_tack := goodIn_r _ [652, 15, 402, 242, 243, 14, 244, 214, 653, 654, 499, 655, 656, 523, 524, 525, 270, 271, 272, 273, 274, 275, 276, 277, 278, 279, 280, 39, 241, 281, 282, 283, 284, 285, 286, 287, 288, 289, 290, 291, 292, 293, 294, 295, 37, 296, 297, 298, 299, 38, 300, 301, 302, 657, 658, 659, 660, 661, 594, 595, 596, 662, 611, 612, 613, 215, 216, 614, 615, 616, 617, 74, 75, 76, 2, 77, 31, 1016, 1017, 1018, 1019, 1020, 1021, 1022, 1023, 1049, 1050, 1051, 1052, 1053, 1054, 1055] (by decide +kernel) (by decide +kernel)
set_option maxRecDepth 20000 in
theorem gL_law_X9_tack : GoodIn wsL_law (wsV RL 81 RX9 yX9_tack wsX9_tack) := goodIn_app (goodIn_of _ (by decide +kernel)) ggL_law_X9_tack
set_option maxRecDepth 20000 in
theorem ggL_law_X10_tack : GoodIn wsL_law wsX10_tack := goodIn_r _ [666, 69, 368, 369, 370, 5, 371, 96, 97, 98, 99, 57, 667, 598, 599, 600, 60, 629, 630, 631, 632, 346, 347, 625, 626, 627, 628, 668, 669, 670, 671, 530, 531, 532, 533, 510, 511, 512, 513, 339, 340, 341, 342, 343, 344, 58, 59, 345, 348, 349, 350, 351, 65, 352, 353, 354, 355, 384, 385, 386, 380, 381, 382, 383, 387, 388, 389, 390, 391, 392, 393, 514, 515, 516, 517, 1024, 1025, 1026, 1027, 1028, 1029, 1030, 1031, 1032, 1033, 1034, 1035, 1036, 1037, 1038, 1039, 1040, 1041, 1042, 1043, 1044, 1045, 1046, 1047, 1048] (by decide +kernel) (by decide +kernel)
set_option maxRecDepth 20000 in
theorem gL_law_X10_tack : GoodIn wsL_law (wsV RL 84 RX10 yX10_tack wsX10_tack) := goodIn_app (goodIn_of _ (by decide +kernel)) ggL_law_X10_tack
set_option maxRecDepth 20000 in
theorem ggL_law_X9_worst : GoodIn wsL_law wsX9_worst := goodIn_r _ [675, 15, 469, 470, 2, 471, 74, 75, 76, 77, 31, 676, 677, 499, 678, 609, 498, 500, 501, 266, 267, 14, 268, 269, 270, 271, 272, 214, 273, 274, 275, 276, 277, 278, 279, 280, 39, 241, 242, 243, 244, 281, 282, 283, 284, 285, 286, 287, 288, 289, 290, 291, 292, 293, 294, 295, 37, 296, 297, 298, 299, 38, 300, 301, 302, 644, 657, 658, 659, 660, 661, 594, 595, 596, 662, 611, 612, 613, 215, 216, 614, 615, 616, 617, 1016, 1017, 1018, 1019, 1020, 1021, 1022, 1023, 1049, 1050, 1051, 1052, 1053, 1054, 1055] (by decide +kernel) (by decide +kernel)
set_option maxRecDepth 20000 in
theorem gL_law_X9_worst : GoodIn wsL_law (wsV RL 85 RX9 yX9_worst wsX9_worst) := goodIn_app (goodIn_of _ (by decide +kernel)) ggL_law_X9_worst
set_option maxRecDepth 20000 in
theorem ggL_law_X10_worst : GoodIn wsL_law wsX10_worst := goodIn_r _ [682, 69, 93, 94, 5, 95, 96, 97, 98, 99, 57, 667, 598, 599, 600, 60, 629, 630, 631, 632, 346, 347, 625, 626, 627, 628, 506, 507, 508, 509, 510, 511, 512, 513, 339, 340, 341, 342, 343, 344, 58, 59, 345, 348, 349, 350, 351, 65, 352, 353, 354, 355, 376, 377, 378, 379, 380, 381, 382, 383, 384, 385, 386, 387, 388, 389, 390, 391, 392, 393, 514, 515, 516, 517, 683, 684, 685, 686, 1024, 1025, 1026, 1027, 1028, 1029, 1030, 1031, 1032, 1033, 1034, 1035, 1036, 1037, 1038, 1039, 1040, 1041, 1042, 1043, 1044, 1045, 1046, 1047, 1048] (by decide +kernel) (by decide +kernel)
set_option maxRecDepth 20000 in
theorem gL_law_X10_worst : GoodIn wsL_law (wsV RL 88 RX10 yX10_worst wsX10_worst) := goodIn_app (goodIn_of _ (by decide +kernel)) ggL_law_X10_worst
set_option maxRecDepth 20000 in
theorem ggL_law_X9_fewest : GoodIn wsL_law wsX9_fewest := goodIn_r _ [690, 15, 402, 242, 243, 14, 244, 214, 691, 692, 499, 693, 657, 658, 659, 660, 661, 594, 595, 596, 277, 278, 279, 280, 39, 241, 662, 611, 612, 613, 215, 216, 614, 615, 616, 617, 694, 644, 282, 283, 284, 285, 286, 287, 656, 523, 524, 525, 270, 271, 272, 273, 274, 275, 276, 281, 288, 289, 290, 291, 292, 293, 294, 295, 37, 296, 297, 298, 299, 38, 300, 301, 302, 74, 75, 76, 2, 77, 31, 1016, 1017, 1018, 1019, 1020, 1021, 1022, 1023, 1049, 1050, 1051, 1052, 1053, 1054, 1055] (by decide +kernel) (by decide +kernel)
set_option maxRecDepth 20000 in
theorem gL_law_X9_fewest : GoodIn wsL_law (wsV RL 89 RX9 yX9_fewest wsX9_fewest) := goodIn_app (goodIn_of _ (by decide +kernel)) ggL_law_X9_fewest
set_option maxRecDepth 20000 in
theorem ggL_law_X10_fewest : GoodIn wsL_law wsX10_fewest := goodIn_r _ [698, 368, 369, 370, 5, 371, 69, 96, 97, 98, 99, 57, 667, 598, 599, 600, 60, 629, 630, 631, 632, 346, 347, 625, 626, 627, 628, 387, 388, 389, 683, 684, 685, 686, 506, 507, 508, 509, 510, 511, 512, 513, 339, 340, 341, 342, 343, 344, 58, 59, 345, 348, 349, 350, 351, 65, 352, 353, 354, 355, 376, 377, 378, 379, 380, 381, 382, 383, 384, 385, 386, 390, 391, 392, 393, 514, 515, 516, 517, 1024, 1025, 1026, 1027, 1028, 1029, 1030, 1031, 1032, 1033, 1034, 1035, 1036, 1037, 1038, 1039, 1040, 1041, 1042, 1043, 1044, 1045, 1046, 1047, 1048] (by decide +kernel) (by decide +kernel)
set_option maxRecDepth 20000 in
theorem gL_law_X10_fewest : GoodIn wsL_law (wsV RL 92 RX10 yX10_fewest wsX10_fewest) := goodIn_app (goodIn_of _ (by decide +kernel)) ggL_law_X10_fewest
set_option maxRecDepth 20000 in
theorem ggL_law_X9_blame : GoodIn wsL_law wsX9_blame := goodIn_r _ [702, 15, 402, 242, 243, 14, 244, 214, 703, 704, 705, 2, 706, 707, 74, 75, 76, 77, 31, 708, 709, 710, 711, 712, 594, 595, 596, 277, 278, 279, 280, 39, 241, 713, 282, 283, 284, 285, 286, 287, 565, 566, 567, 714, 715, 716, 717, 718, 719, 720, 721, 266, 267, 268, 269, 270, 271, 272, 273, 274, 275, 276, 281, 288, 289, 290, 291, 292, 293, 294, 295, 37, 296, 297, 298, 299, 38, 300, 301, 302, 722, 723, 724, 441, 725, 726, 727, 728, 729, 730, 731, 732, 1016, 1017, 1018, 1019, 1020, 1021, 1022, 1023, 1049, 1050, 1051, 1052, 1053, 1054, 1055] (by decide +kernel) (by decide +kernel)
set_option maxRecDepth 20000 in
theorem gL_law_X9_blame : GoodIn wsL_law (wsV RL 93 RX9 yX9_blame wsX9_blame) := goodIn_app (goodIn_of _ (by decide +kernel)) ggL_law_X9_blame
set_option maxRecDepth 20000 in
theorem ggL_law_X10_blame : GoodIn wsL_law wsX10_blame := goodIn_r _ [736, 368, 369, 370, 5, 371, 69, 737, 738, 739, 740, 60, 387, 388, 389, 384, 385, 386, 336, 337, 338, 741, 742, 743, 744, 57, 745, 510, 511, 512, 513, 339, 340, 341, 342, 343, 344, 58, 59, 345, 346, 347, 348, 349, 350, 351, 65, 352, 353, 354, 355, 746, 747, 748, 749, 750, 751, 752, 376, 377, 378, 379, 380, 381, 382, 383, 390, 391, 392, 393, 514, 515, 516, 517, 753, 754, 755, 756, 757, 758, 1024, 1025, 1026, 1027, 1028, 1029, 1030, 1031, 1032, 1033, 1034, 1035, 1036, 1037, 1038, 1039, 1040, 1041, 1042, 1043, 1044, 1045, 1046, 1047, 1048] (by decide +kernel) (by decide +kernel)
set_option maxRecDepth 20000 in
theorem gL_law_X10_blame : GoodIn wsL_law (wsV RL 97 RX10 yX10_blame wsX10_blame) := goodIn_app (goodIn_of _ (by decide +kernel)) ggL_law_X10_blame
set_option maxRecDepth 20000 in
theorem ggL_law_X9_saved : GoodIn wsL_law wsX9_saved := goodIn_r _ [762, 15, 402, 242, 243, 14, 244, 214, 74, 75, 76, 2, 77, 31, 469, 470, 471, 763, 764, 499, 765, 609, 498, 500, 501, 266, 267, 268, 269, 270, 271, 272, 273, 274, 275, 276, 277, 278, 279, 280, 39, 241, 281, 282, 283, 284, 285, 286, 287, 288, 289, 290, 291, 292, 293, 294, 295, 37, 296, 297, 298, 299, 38, 300, 301, 302, 644, 1016, 1017, 1018, 1019, 1020, 1021, 1022, 1023, 1049, 1050, 1051, 1052, 1053, 1054, 1055] (by decide +kernel) (by decide +kernel)
set_option maxRecDepth 20000 in
theorem gL_law_X9_saved : GoodIn wsL_law (wsV RL 98 RX9 yX9_saved wsX9_saved) := goodIn_app (goodIn_of _ (by decide +kernel)) ggL_law_X9_saved
set_option maxRecDepth 20000 in
theorem ggL_law_X10_saved : GoodIn wsL_law wsX10_saved := goodIn_r _ [769, 346, 368, 369, 370, 5, 371, 69, 93, 94, 95, 96, 97, 98, 99, 57, 506, 507, 508, 509, 510, 511, 512, 513, 339, 340, 341, 342, 343, 344, 58, 59, 60, 345, 347, 348, 349, 350, 351, 65, 352, 353, 354, 355, 376, 377, 378, 379, 380, 381, 382, 383, 384, 385, 386, 387, 388, 389, 390, 391, 392, 393, 514, 515, 516, 517, 1024, 1025, 1026, 1027, 1028, 1029, 1030, 1031, 1032, 1033, 1034, 1035, 1036, 1037, 1038, 1039, 1040, 1041, 1042, 1043, 1044, 1045, 1046, 1047, 1048] (by decide +kernel) (by decide +kernel)
set_option maxRecDepth 20000 in
theorem gL_law_X10_saved : GoodIn wsL_law (wsV RL 101 RX10 yX10_saved wsX10_saved) := goodIn_app (goodIn_of _ (by decide +kernel)) ggL_law_X10_saved
set_option maxRecDepth 20000 in
theorem ggL_law_X9_hooks : GoodIn wsL_law wsX9_hooks := goodIn_r _ [773, 15, 565, 566, 2, 567, 74, 75, 76, 77, 31, 497, 498, 499, 500, 501, 266, 267, 14, 268, 269, 270, 271, 272, 214, 273, 274, 275, 276, 277, 278, 279, 280, 39, 241, 242, 243, 244, 281, 282, 283, 284, 285, 286, 287, 288, 289, 290, 291, 292, 293, 294, 295, 37, 296, 297, 298, 299, 38, 300, 301, 302, 774, 615, 616, 617, 1016, 1017, 1018, 1019, 1020, 1021, 1022, 1023, 1049, 1050, 1051, 1052, 1053, 1054, 1055] (by decide +kernel) (by decide +kernel)
set_option maxRecDepth 20000 in
theorem gL_law_X9_hooks : GoodIn wsL_law (wsV RL 102 RX9 yX9_hooks wsX9_hooks) := goodIn_app (goodIn_of _ (by decide +kernel)) ggL_law_X9_hooks
set_option maxRecDepth 20000 in
theorem ggL_law_X10_hooks : GoodIn wsL_law wsX10_hooks := goodIn_r _ [778, 346, 336, 337, 5, 338, 96, 97, 98, 99, 57, 506, 507, 508, 509, 510, 511, 512, 513, 339, 340, 341, 342, 343, 344, 58, 59, 60, 69, 345, 347, 348, 349, 350, 351, 65, 352, 353, 354, 355, 376, 377, 378, 379, 380, 381, 382, 383, 384, 385, 386, 387, 388, 389, 390, 391, 392, 393, 514, 515, 516, 517, 625, 626, 627, 628, 1024, 1025, 1026, 1027, 1028, 1029, 1030, 1031, 1032, 1033, 1034, 1035, 1036, 1037, 1038, 1039, 1040, 1041, 1042, 1043, 1044, 1045, 1046, 1047, 1048] (by decide +kernel) (by decide +kernel)
set_option maxRecDepth 20000 in
theorem gL_law_X10_hooks : GoodIn wsL_law (wsV RL 105 RX10 yX10_hooks wsX10_hooks) := goodIn_app (goodIn_of _ (by decide +kernel)) ggL_law_X10_hooks
set_option maxRecDepth 20000 in
theorem ggL_law_X9_key : GoodIn wsL_law wsX9_key := goodIn_r _ [782, 15, 783, 784, 785, 14, 786, 214, 787, 573, 574, 575, 576, 569, 570, 571, 277, 278, 279, 280, 39, 241, 242, 243, 244, 281, 282, 283, 284, 285, 286, 287, 1016, 1017, 1018, 1019, 1020, 1021, 1022, 1023, 1049, 1050, 1051, 1052, 1053, 1054, 1055] (by decide +kernel) (by decide +kernel)
set_option maxRecDepth 20000 in
theorem gL_law_X9_key : GoodIn wsL_law (wsV RL 106 RX9 yX9_key wsX9_key) := goodIn_app (goodIn_of _ (by decide +kernel)) ggL_law_X9_key
set_option maxRecDepth 20000 in
theorem ggL_law_X10_key : GoodIn wsL_law wsX10_key := goodIn_r _ [791, 69, 585, 586, 587, 5, 588, 581, 582, 583, 584, 60, 384, 385, 386, 387, 388, 389, 1024, 1025, 1026, 1027, 1028, 1029, 1030, 1031, 1032, 1033, 1034, 1035, 1036, 1037, 1038, 1039, 1040, 1041, 1042, 1043, 1044, 1045, 1046, 1047, 1048] (by decide +kernel) (by decide +kernel)
set_option maxRecDepth 20000 in
theorem gL_law_X10_key : GoodIn wsL_law (wsV RL 109 RX10 yX10_key wsX10_key) := goodIn_app (goodIn_of _ (by decide +kernel)) ggL_law_X10_key
set_option maxRecDepth 20000 in
theorem ggL_law_X9_twins : GoodIn wsL_law wsX9_twins := goodIn_r _ [795, 15, 565, 566, 2, 567, 74, 75, 76, 77, 31, 796, 797, 798, 14, 799, 214, 800, 801, 802, 803, 292, 293, 294, 295, 37, 241, 242, 243, 244, 277, 278, 279, 280, 39, 804, 805, 806, 807, 1016, 1017, 1018, 1019, 1020, 1021, 1022, 1023, 1049, 1050, 1051, 1052, 1053, 1054, 1055] (by decide +kernel) (by decide +kernel)
set_option maxRecDepth 20000 in
theorem gL_law_X9_twins : GoodIn wsL_law (wsV RL 110 RX9 yX9_twins wsX9_twins) := goodIn_app (goodIn_of _ (by decide +kernel)) ggL_law_X9_twins
set_option maxRecDepth 20000 in
theorem ggL_law_X10_twins : GoodIn wsL_law wsX10_twins := goodIn_r _ [811, 69, 60, 58, 336, 337, 5, 338, 96, 97, 98, 99, 57, 1024, 1025, 1026, 1027, 1028, 1029, 1030, 1031, 1032, 1033, 1034, 1035, 1036, 1037, 1038, 1039, 1040, 1041, 1042, 1043, 1044, 1045, 1046, 1047, 1048] (by decide +kernel) (by decide +kernel)
set_option maxRecDepth 20000 in
theorem gL_law_X10_twins : GoodIn wsL_law (wsV RL 113 RX10 yX10_twins wsX10_twins) := goodIn_app (goodIn_of _ (by decide +kernel)) ggL_law_X10_twins
set_option maxRecDepth 20000 in
theorem ggL_law_X9_two : GoodIn wsL_law wsX9_two := goodIn_r _ [815, 15, 402, 242, 243, 14, 244, 214, 74, 75, 76, 2, 77, 31, 469, 470, 471, 816, 658, 659, 660, 661, 594, 595, 596, 277, 278, 279, 280, 39, 241, 662, 611, 612, 613, 215, 216, 614, 615, 616, 617, 817, 818, 819, 820, 821, 822, 823, 824, 825, 826, 827, 498, 499, 500, 501, 266, 267, 268, 269, 270, 271, 272, 273, 274, 275, 276, 281, 282, 283, 284, 285, 286, 287, 288, 289, 290, 291, 292, 293, 294, 295, 37, 296, 297, 298, 299, 38, 300, 301, 302, 828, 829, 830, 831, 1016, 1017, 1018, 1019, 1020, 1021, 1022, 1023, 1049, 1050, 1051, 1052, 1053, 1054, 1055] (by decide +kernel) (by decide +kernel)
set_option maxRecDepth 20000 in
theorem gL_law_X9_two : GoodIn wsL_law (wsV RL 114 RX9 yX9_two wsX9_two) := goodIn_app (goodIn_of _ (by decide +kernel)) ggL_law_X9_two
set_option maxRecDepth 20000 in
theorem ggL_law_X10_two : GoodIn wsL_law wsX10_two := goodIn_r _ [835, 67, 368, 369, 370, 5, 371, 69, 93, 94, 95, 667, 598, 599, 600, 60, 629, 630, 631, 632, 346, 347, 625, 626, 627, 628, 384, 385, 386, 96, 97, 98, 99, 57, 683, 684, 685, 686, 506, 507, 508, 509, 510, 511, 512, 513, 339, 340, 341, 342, 343, 344, 58, 59, 345, 348, 349, 350, 351, 65, 352, 353, 354, 355, 376, 377, 378, 379, 380, 381, 382, 383, 387, 388, 389, 390, 391, 392, 393, 514, 515, 516, 517, 1024, 1025, 1026, 1027, 1028, 1029, 1030, 1031, 1032, 1033, 1034, 1035, 1036, 1037, 1038, 1039, 1040, 1041, 1042, 1043, 1044, 1045, 1046, 1047, 1048] (by decide +kernel) (by decide +kernel)
set_option maxRecDepth 20000 in
theorem gL_law_X10_two : GoodIn wsL_law (wsV RL 117 RX10 yX10_two wsX10_two) := goodIn_app (goodIn_of _ (by decide +kernel)) ggL_law_X10_two
set_option maxRecDepth 20000 in
theorem ggL_law_X9_boys : GoodIn wsL_law wsX9_boys := goodIn_r _ [839, 15, 402, 242, 243, 14, 244, 214, 703, 704, 705, 2, 706, 707, 74, 75, 76, 77, 31, 565, 566, 567, 840, 841, 842, 843, 844, 845, 846, 847, 270, 271, 272, 273, 274, 275, 276, 277, 278, 279, 280, 39, 241, 281, 282, 283, 284, 285, 286, 287, 288, 289, 290, 291, 292, 293, 294, 295, 37, 296, 297, 298, 299, 38, 300, 301, 302, 848, 849, 850, 728, 851, 852, 726, 727, 729, 730, 731, 732, 1016, 1017, 1018, 1019, 1020, 1021, 1022, 1023, 1049, 1050, 1051, 1052, 1053, 1054, 1055] (by decide +kernel) (by decide +kernel)
set_option maxRecDepth 20000 in
theorem gL_law_X9_boys : GoodIn wsL_law (wsV RL 118 RX9 yX9_boys wsX9_boys) := goodIn_app (goodIn_of _ (by decide +kernel)) ggL_law_X9_boys
set_option maxRecDepth 20000 in
theorem ggL_law_X10_boys : GoodIn wsL_law wsX10_boys := goodIn_r _ [856, 346, 368, 369, 370, 5, 371, 69, 336, 337, 338, 741, 742, 743, 744, 57, 745, 510, 511, 512, 513, 339, 340, 341, 342, 343, 344, 58, 59, 60, 345, 347, 348, 349, 350, 351, 65, 352, 353, 354, 355, 384, 385, 386, 380, 381, 382, 383, 387, 388, 389, 390, 391, 392, 393, 514, 515, 516, 517, 753, 754, 755, 756, 757, 758, 1024, 1025, 1026, 1027, 1028, 1029, 1030, 1031, 1032, 1033, 1034, 1035, 1036, 1037, 1038, 1039, 1040, 1041, 1042, 1043, 1044, 1045, 1046, 1047, 1048] (by decide +kernel) (by decide +kernel)
set_option maxRecDepth 20000 in
theorem gL_law_X10_boys : GoodIn wsL_law (wsV RL 122 RX10 yX10_boys wsX10_boys) := goodIn_app (goodIn_of _ (by decide +kernel)) ggL_law_X10_boys
set_option maxRecDepth 20000 in
theorem ggL_law_X9_mean : GoodIn wsL_law wsX9_mean := goodIn_r _ [860, 15, 861, 150, 151, 152, 565, 566, 2, 567, 703, 704, 705, 706, 707, 74, 75, 76, 77, 31, 862, 863, 864, 14, 865, 214, 277, 278, 279, 280, 39, 241, 242, 243, 244, 281, 282, 283, 284, 285, 286, 287, 726, 727, 728, 729, 730, 731, 732, 1016, 1017, 1018, 1019, 1020, 1021, 1022, 1023, 1049, 1050, 1051, 1052, 1053, 1054, 1055] (by decide +kernel) (by decide +kernel)
set_option maxRecDepth 20000 in
theorem gL_law_X9_mean : GoodIn wsL_law (wsV RL 123 RX9 yX9_mean wsX9_mean) := goodIn_app (goodIn_of _ (by decide +kernel)) ggL_law_X9_mean
set_option maxRecDepth 20000 in
theorem ggL_law_X10_mean : GoodIn wsL_law wsX10_mean := goodIn_r _ [869, 69, 336, 337, 5, 338, 741, 742, 743, 744, 57, 745, 870, 871, 872, 873, 60, 387, 388, 389, 753, 754, 755, 756, 757, 758, 1024, 1025, 1026, 1027, 1028, 1029, 1030, 1031, 1032, 1033, 1034, 1035, 1036, 1037, 1038, 1039, 1040, 1041, 1042, 1043, 1044, 1045, 1046, 1047, 1048] (by decide +kernel) (by decide +kernel)
set_option maxRecDepth 20000 in
theorem gL_law_X10_mean : GoodIn wsL_law (wsV RL 127 RX10 yX10_mean wsX10_mean) := goodIn_app (goodIn_of _ (by decide +kernel)) ggL_law_X10_mean
set_option maxRecDepth 20000 in
theorem ggL_law_X9_whatWas : GoodIn wsL_law wsX9_whatWas := goodIn_r _ [877, 15, 402, 242, 243, 14, 244, 214, 74, 75, 76, 2, 77, 31, 565, 566, 567, 878, 879, 880, 881, 16, 25, 210, 211, 212, 213, 37, 38, 39, 215, 216, 217, 472, 473, 474, 475, 241, 231, 232, 233, 882, 883, 884, 24, 885, 886, 887, 270, 271, 272, 273, 274, 275, 276, 277, 278, 279, 280, 281, 282, 283, 284, 285, 286, 287, 288, 289, 290, 291, 292, 293, 294, 295, 296, 297, 298, 299, 300, 301, 302, 888, 889, 890, 891, 49, 892, 893, 894, 895, 896, 476, 477, 478, 479, 234, 235, 236, 1016, 1017, 1018, 1019, 1020, 1021, 1022, 1023, 1049, 1050, 1051, 1052, 1053, 1054, 1055, 1058, 1059] (by decide +kernel) (by decide +kernel)
set_option maxRecDepth 20000 in
theorem gL_law_X9_whatWas : GoodIn wsL_law (wsV RL 128 RX9 yX9_whatWas wsX9_whatWas) := goodIn_app (goodIn_of _ (by decide +kernel)) ggL_law_X9_whatWas
set_option maxRecDepth 20000 in
theorem ggL_law_X10_whatWas : GoodIn wsL_law wsX10_whatWas := goodIn_r _ [900, 58, 59, 368, 369, 370, 5, 371, 69, 336, 337, 338, 96, 97, 98, 99, 57, 901, 902, 903, 904, 905, 906, 907, 908, 909, 346, 68, 510, 511, 512, 513, 339, 340, 341, 342, 343, 344, 60, 345, 347, 348, 349, 350, 351, 65, 352, 353, 354, 355, 387, 388, 389, 380, 381, 382, 383, 384, 385, 386, 390, 391, 392, 393, 514, 515, 516, 517, 1024, 1025, 1026, 1027, 1028, 1029, 1030, 1031, 1032, 1033, 1034, 1035, 1036, 1037, 1038, 1039, 1040, 1041, 1042, 1043, 1044, 1045, 1046, 1047, 1048] (by decide +kernel) (by decide +kernel)
set_option maxRecDepth 20000 in
theorem gL_law_X10_whatWas : GoodIn wsL_law (wsV RL 131 RX10 yX10_whatWas wsX10_whatWas) := goodIn_app (goodIn_of _ (by decide +kernel)) ggL_law_X10_whatWas
set_option maxRecDepth 20000 in
theorem ggL_law_X9_row : GoodIn wsL_law wsX9_row := goodIn_r _ [913, 25, 74, 75, 76, 2, 77, 31, 914, 915, 916, 24, 917, 886, 918, 919, 920, 921, 49, 922, 1016, 1017, 1018, 1019, 1020, 1021, 1022, 1023, 1058, 1059] (by decide +kernel) (by decide +kernel)
set_option maxRecDepth 20000 in
theorem gL_law_X9_row : GoodIn wsL_law (wsV RL 132 RX9 yX9_row wsX9_row) := goodIn_app (goodIn_of _ (by decide +kernel)) ggL_law_X9_row
set_option maxRecDepth 20000 in
theorem ggL_law_X10_row : GoodIn wsL_law wsX10_row := goodIn_r _ [926, 909, 68, 93, 94, 5, 95, 96, 97, 98, 99, 57, 1024, 1025, 1026, 1027, 1028, 1029, 1030, 1031, 1032, 1033, 1034, 1035, 1036, 1037, 1038, 1039, 1040, 1041, 1042, 1043, 1044, 1045, 1046, 1047, 1048] (by decide +kernel) (by decide +kernel)
set_option maxRecDepth 20000 in
theorem gL_law_X10_row : GoodIn wsL_law (wsV RL 135 RX10 yX10_row wsX10_row) := goodIn_app (goodIn_of _ (by decide +kernel)) ggL_law_X10_row
set_option maxRecDepth 20000 in
theorem ggL_law_X9_judge : GoodIn wsL_law wsX9_judge := goodIn_r _ [930, 25, 931, 932, 933, 2, 934, 15, 402, 242, 243, 14, 244, 214, 522, 523, 499, 524, 525, 270, 271, 272, 273, 274, 275, 276, 277, 278, 279, 280, 39, 241, 281, 282, 283, 284, 285, 286, 287, 288, 289, 290, 291, 292, 293, 294, 295, 37, 296, 297, 298, 299, 38, 300, 301, 302, 935, 889, 890, 24, 891, 886, 49, 936, 937, 938, 939, 1016, 1017, 1018, 1019, 1020, 1021, 1022, 1023, 1058, 1059, 1049, 1050, 1051, 1052, 1053, 1054, 1055] (by decide +kernel) (by decide +kernel)
set_option maxRecDepth 20000 in
theorem gL_law_X9_judge : GoodIn wsL_law (wsV RL 136 RX9 yX9_judge wsX9_judge) := goodIn_app (goodIn_of _ (by decide +kernel)) ggL_law_X9_judge
set_option maxRecDepth 20000 in
theorem ggL_law_X10_judge : GoodIn wsL_law wsX10_judge := goodIn_r _ [943, 909, 69, 68, 944, 945, 946, 5, 947, 530, 531, 532, 533, 346, 510, 511, 512, 513, 339, 340, 341, 342, 343, 344, 58, 59, 60, 345, 347, 348, 349, 350, 351, 65, 352, 353, 354, 355, 384, 385, 386, 380, 381, 382, 383, 387, 388, 389, 390, 391, 392, 393, 514, 515, 516, 517, 1024, 1025, 1026, 1027, 1028, 1029, 1030, 1031, 1032, 1033, 1034, 1035, 1036, 1037, 1038, 1039, 1040, 1041, 1042, 1043, 1044, 1045, 1046, 1047, 1048] (by decide +kernel) (by decide +kernel)
set_option maxRecDepth 20000 in
theorem gL_law_X10_judge : GoodIn wsL_law (wsV RL 139 RX10 yX10_judge wsX10_judge) := goodIn_app (goodIn_of _ (by decide +kernel)) ggL_law_X10_judge
set_option maxRecDepth 20000 in
theorem ggL_law_X9_clear : GoodIn wsL_law wsX9_clear := goodIn_r _ [951, 25, 936, 937, 938, 24, 939, 886, 1016, 1017, 1018, 1019, 1020, 1021, 1022, 1023, 1058, 1059] (by decide +kernel) (by decide +kernel)
set_option maxRecDepth 20000 in
theorem gL_law_X9_clear : GoodIn wsL_law (wsV RL 140 RX9 yX9_clear wsX9_clear) := goodIn_app (goodIn_of _ (by decide +kernel)) ggL_law_X9_clear
set_option maxRecDepth 20000 in
theorem ggL_law_X10_clear : GoodIn wsL_law wsX10_clear := goodIn_r _ [955, 909, 1024, 1025, 1026, 1027, 1028, 1029, 1030, 1031, 1032, 1033, 1034, 1035, 1036, 1037, 1038, 1039, 1040, 1041, 1042, 1043, 1044, 1045, 1046, 1047, 1048] (by decide +kernel) (by decide +kernel)
set_option maxRecDepth 20000 in
theorem gL_law_X10_clear : GoodIn wsL_law (wsV RL 143 RX10 yX10_clear wsX10_clear) := goodIn_app (goodIn_of _ (by decide +kernel)) ggL_law_X10_clear
set_option maxRecDepth 20000 in
theorem ggL_law_X9_lots : GoodIn wsL_law wsX9_lots := goodIn_r _ [959, 15, 29, 469, 470, 2, 471, 74, 75, 76, 77, 31, 565, 566, 567, 774, 615, 616, 14, 617, 214, 960, 961, 962, 28, 963, 964, 965, 966, 967, 968, 969, 594, 595, 596, 277, 278, 279, 280, 39, 241, 242, 243, 244, 970, 971, 972, 973, 974, 975, 976, 977, 498, 499, 500, 501, 266, 267, 268, 269, 270, 271, 272, 273, 274, 275, 276, 281, 282, 283, 284, 285, 286, 287, 288, 289, 290, 291, 292, 293, 294, 295, 37, 296, 297, 298, 299, 38, 300, 301, 302, 978, 1016, 1017, 1018, 1019, 1020, 1021, 1022, 1023, 1049, 1050, 1051, 1052, 1053, 1054, 1055, 1060] (by decide +kernel) (by decide +kernel)
set_option maxRecDepth 20000 in
theorem gL_law_X9_lots : GoodIn wsL_law (wsV RL 144 RX9 yX9_lots wsX9_lots) := goodIn_app (goodIn_of _ (by decide +kernel)) ggL_law_X9_lots
set_option maxRecDepth 20000 in
theorem ggL_law_X10_lots : GoodIn wsL_law wsX10_lots := goodIn_r _ [982, 69, 983, 60, 346, 93, 94, 5, 95, 336, 337, 338, 96, 97, 98, 99, 57, 510, 511, 512, 513, 339, 340, 341, 342, 343, 344, 58, 59, 345, 347, 348, 349, 350, 351, 65, 352, 353, 354, 355, 984, 985, 986, 987, 988, 989, 990, 376, 377, 378, 379, 380, 381, 382, 383, 384, 385, 386, 387, 388, 389, 390, 391, 392, 393, 514, 515, 516, 517, 1024, 1025, 1026, 1027, 1028, 1029, 1030, 1031, 1032, 1033, 1034, 1035, 1036, 1037, 1038, 1039, 1040, 1041, 1042, 1043, 1044, 1045, 1046, 1047, 1048] (by decide +kernel) (by decide +kernel)
set_option maxRecDepth 20000 in
theorem gL_law_X10_lots : GoodIn wsL_law (wsV RL 147 RX10 yX10_lots wsX10_lots) := goodIn_app (goodIn_of _ (by decide +kernel)) ggL_law_X10_lots
set_option maxRecDepth 20000 in
theorem ggL_law_X9_image : GoodIn wsL_law wsX9_image := goodIn_r _ [994, 17, 15, 32, 210, 211, 212, 14, 213, 37, 38, 39, 214, 215, 216, 217, 1016, 1017, 1018, 1019, 1020, 1021, 1022, 1023, 1049, 1050, 1051, 1052, 1053, 1054, 1055] (by decide +kernel) (by decide +kernel)
set_option maxRecDepth 20000 in
theorem gL_law_X9_image : GoodIn wsL_law (wsV RL 148 RX9 yX9_image wsX9_image) := goodIn_app (goodIn_of _ (by decide +kernel)) ggL_law_X9_image
set_option maxRecDepth 20000 in
theorem ggL_law_X10_image : GoodIn wsL_law wsX10_image := goodIn_r _ [998, 999, 345, 339, 340, 341, 5, 342, 343, 344, 58, 59, 60, 69, 346, 347, 348, 349, 350, 351, 65, 352, 353, 354, 355, 1024, 1025, 1026, 1027, 1028, 1029, 1030, 1031, 1032, 1033, 1034, 1035, 1036, 1037, 1038, 1039, 1040, 1041, 1042, 1043, 1044, 1045, 1046, 1047, 1048] (by decide +kernel) (by decide +kernel)
set_option maxRecDepth 20000 in
theorem gL_law_X10_image : GoodIn wsL_law (wsV RL 151 RX10 yX10_image wsX10_image) := goodIn_app (goodIn_of _ (by decide +kernel)) ggL_law_X10_image
set_option maxRecDepth 20000 in
theorem ggL_law_X9_on : GoodIn wsL_law wsX9_on := goodIn_r _ [1003, 32, 15, 17, 74, 75, 76, 2, 77, 31, 210, 211, 212, 14, 213, 37, 38, 39, 214, 215, 216, 217, 1016, 1017, 1018, 1019, 1020, 1021, 1022, 1023, 1049, 1050, 1051, 1052, 1053, 1054, 1055] (by decide +kernel) (by decide +kernel)
set_option maxRecDepth 20000 in
theorem gL_law_X9_on : GoodIn wsL_law (wsV RL 152 RX9 yX9_on wsX9_on) := goodIn_app (goodIn_of _ (by decide +kernel)) ggL_law_X9_on
set_option maxRecDepth 20000 in
theorem ggL_law_X10_on : GoodIn wsL_law wsX10_on := goodIn_r _ [1007, 999, 345, 96, 97, 98, 5, 99, 57, 339, 340, 341, 342, 343, 344, 58, 59, 60, 69, 346, 347, 348, 349, 350, 351, 65, 352, 353, 354, 355, 1024, 1025, 1026, 1027, 1028, 1029, 1030, 1031, 1032, 1033, 1034, 1035, 1036, 1037, 1038, 1039, 1040, 1041, 1042, 1043, 1044, 1045, 1046, 1047, 1048] (by decide +kernel) (by decide +kernel)
set_option maxRecDepth 20000 in
theorem gL_law_X10_on : GoodIn wsL_law (wsV RL 155 RX10 yX10_on wsX10_on) := goodIn_app (goodIn_of _ (by decide +kernel)) ggL_law_X10_on
set_option maxRecDepth 20000 in
theorem ggL_law_X9_count : GoodIn wsL_law wsX9_count := goodIn_r _ [1011, 15, 25, 21, 31, 862, 863, 864, 14, 865, 214, 277, 278, 279, 280, 39, 241, 242, 243, 244, 281, 282, 283, 284, 285, 286, 287, 593, 594, 595, 596, 441, 1016, 1017, 1018, 1019, 1020, 1021, 1022, 1023, 1049, 1050, 1051, 1052, 1053, 1054, 1055, 1058, 1059, 1056, 1057] (by decide +kernel) (by decide +kernel)
set_option maxRecDepth 20000 in
theorem gL_law_X9_count : GoodIn wsL_law (wsV RL 156 RX9 yX9_count wsX9_count) := goodIn_app (goodIn_of _ (by decide +kernel)) ggL_law_X9_count
set_option maxRecDepth 20000 in
theorem ggL_law_X10_count : GoodIn wsL_law wsX10_count := goodIn_r _ [1015, 57, 69, 345, 346, 347, 909, 92, 336, 337, 5, 338, 870, 871, 872, 873, 60, 387, 388, 389, 667, 598, 599, 600, 1024, 1025, 1026, 1027, 1028, 1029, 1030, 1031, 1032, 1033, 1034, 1035, 1036, 1037, 1038, 1039, 1040, 1041, 1042, 1043, 1044, 1045, 1046, 1047, 1048] (by decide +kernel) (by decide +kernel)
set_option maxRecDepth 20000 in
theorem gL_law_X10_count : GoodIn wsL_law (wsV RL 159 RX10 yX10_count wsX10_count) := goodIn_app (goodIn_of _ (by decide +kernel)) ggL_law_X10_count

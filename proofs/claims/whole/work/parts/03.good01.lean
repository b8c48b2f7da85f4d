set_option maxRecDepth 20000 in
theorem ggX10_thing_X10_isThing : GoodIn wsX10_thing wsX10_isThing := goodIn_r _ [10, 11, 25, 26, 27, 28, 29, 30, 31, 32, 33, 34, 35, 36, 37, 38, 39, 40, 41, 42, 43, 44, 45, 46, 47, 48, 49] (by decide +kernel) (by decide +kernel)
set_option maxRecDepth 20000 in
theorem gX10_thing_X10_isThing : GoodIn wsX10_thing (wsV RX10 100 RX10 yX10_isThing wsX10_isThing) := goodIn_app (goodIn_of _ (by decide +kernel)) ggX10_thing_X10_isThing
set_option maxRecDepth 20000 in
theorem ggX10_thing_X10_no : GoodIn wsX10_thing wsX10_no := goodIn_r _ [15, 16, 25, 26, 27, 28, 29, 30, 31, 32, 33, 34, 35, 36, 37, 38, 39, 40, 41, 42, 43, 44, 45, 46, 47, 48, 49] (by decide +kernel) (by decide +kernel)
set_option maxRecDepth 20000 in
theorem gX10_thing_X10_no : GoodIn wsX10_thing (wsV RX10 63 RX10 yX10_no wsX10_no) := goodIn_app (goodIn_of _ (by decide +kernel)) ggX10_thing_X10_no
set_option maxRecDepth 20000 in
theorem ggX10_thing_X10_depthOf : GoodIn wsX10_thing wsX10_depthOf := goodIn_r _ [20, 11, 21, 3, 22, 23, 9, 24, 25, 26, 27, 28, 29, 30, 31, 32, 33, 34, 35, 36, 37, 38, 39, 40, 41, 42, 43, 44, 45, 46, 47, 48, 49] (by decide +kernel) (by decide +kernel)
set_option maxRecDepth 20000 in
theorem gX10_thing_X10_depthOf : GoodIn wsX10_thing (wsV RX10 168 RX10 yX10_depthOf wsX10_depthOf) := goodIn_app (goodIn_of _ (by decide +kernel)) ggX10_thing_X10_depthOf
set_option maxRecDepth 20000 in
theorem ggX10_causes_X10_isThing : GoodIn wsX10_causes wsX10_isThing := goodIn_r _ [6, 7, 13, 14, 15, 16, 17, 18, 19, 20, 21, 22, 23, 24, 25, 26, 27, 28, 29, 30, 31, 32, 33, 34, 35, 36, 37] (by decide +kernel) (by decide +kernel)
set_option maxRecDepth 20000 in
theorem gX10_causes_X10_isThing : GoodIn wsX10_causes (wsV RX10 100 RX10 yX10_isThing wsX10_isThing) := goodIn_app (goodIn_of _ (by decide +kernel)) ggX10_causes_X10_isThing
set_option maxRecDepth 20000 in
theorem ggX10_causes_X10_no : GoodIn wsX10_causes wsX10_no := goodIn_r _ [11, 12, 13, 14, 15, 16, 17, 18, 19, 20, 21, 22, 23, 24, 25, 26, 27, 28, 29, 30, 31, 32, 33, 34, 35, 36, 37] (by decide +kernel) (by decide +kernel)
set_option maxRecDepth 20000 in
theorem gX10_causes_X10_no : GoodIn wsX10_causes (wsV RX10 63 RX10 yX10_no wsX10_no) := goodIn_app (goodIn_of _ (by decide +kernel)) ggX10_causes_X10_no
set_option maxRecDepth 20000 in
theorem ggX10_loses_X10_isThing : GoodIn wsX10_loses wsX10_isThing := goodIn_r _ [7, 8, 20, 21, 22, 23, 24, 25, 26, 27, 28, 29, 30, 31, 32, 33, 34, 35, 36, 37, 38, 39, 40, 41, 42, 43, 44] (by decide +kernel) (by decide +kernel)
set_option maxRecDepth 20000 in
theorem gX10_loses_X10_isThing : GoodIn wsX10_loses (wsV RX10 100 RX10 yX10_isThing wsX10_isThing) := goodIn_app (goodIn_of _ (by decide +kernel)) ggX10_loses_X10_isThing
set_option maxRecDepth 20000 in
theorem ggX10_loses_X10_has : GoodIn wsX10_loses wsX10_has := goodIn_r _ [11] (by decide +kernel) (by decide +kernel)
set_option maxRecDepth 20000 in
theorem gX10_loses_X10_has : GoodIn wsX10_loses (va_wsS RX10 52 yX10_has wsX10_has) := goodIn_app (goodIn_of _ (by decide +kernel)) ggX10_loses_X10_has
set_option maxRecDepth 20000 in
theorem ggX10_loses_X10_no : GoodIn wsX10_loses wsX10_no := goodIn_r _ [15, 16, 20, 21, 22, 23, 24, 25, 26, 27, 28, 29, 30, 31, 32, 33, 34, 35, 36, 37, 38, 39, 40, 41, 42, 43, 44] (by decide +kernel) (by decide +kernel)
set_option maxRecDepth 20000 in
theorem gX10_loses_X10_no : GoodIn wsX10_loses (wsV RX10 63 RX10 yX10_no wsX10_no) := goodIn_app (goodIn_of _ (by decide +kernel)) ggX10_loses_X10_no
set_option maxRecDepth 20000 in
theorem ggX10_loses_X10_bits : GoodIn wsX10_loses wsX10_bits := goodIn_r _ [19] (by decide +kernel) (by decide +kernel)
set_option maxRecDepth 20000 in
theorem gX10_loses_X10_bits : GoodIn wsX10_loses (va_wsS RX10 150 yX10_bits wsX10_bits) := goodIn_app (goodIn_of _ (by decide +kernel)) ggX10_loses_X10_bits
set_option maxRecDepth 20000 in
theorem ggX10_mends_X10_isThing : GoodIn wsX10_mends wsX10_isThing := goodIn_r _ [6, 7, 19, 20, 21, 22, 23, 24, 25, 26, 27, 28, 29, 30, 31, 32, 33, 34, 35, 36, 37, 38, 39, 40, 41, 42, 43] (by decide +kernel) (by decide +kernel)
set_option maxRecDepth 20000 in
theorem gX10_mends_X10_isThing : GoodIn wsX10_mends (wsV RX10 100 RX10 yX10_isThing wsX10_isThing) := goodIn_app (goodIn_of _ (by decide +kernel)) ggX10_mends_X10_isThing
set_option maxRecDepth 20000 in
theorem ggX10_mends_X10_has : GoodIn wsX10_mends wsX10_has := goodIn_r _ [10] (by decide +kernel) (by decide +kernel)
set_option maxRecDepth 20000 in
theorem gX10_mends_X10_has : GoodIn wsX10_mends (va_wsS RX10 52 yX10_has wsX10_has) := goodIn_app (goodIn_of _ (by decide +kernel)) ggX10_mends_X10_has
set_option maxRecDepth 20000 in
theorem ggX10_mends_X10_no : GoodIn wsX10_mends wsX10_no := goodIn_r _ [14, 15, 19, 20, 21, 22, 23, 24, 25, 26, 27, 28, 29, 30, 31, 32, 33, 34, 35, 36, 37, 38, 39, 40, 41, 42, 43] (by decide +kernel) (by decide +kernel)
set_option maxRecDepth 20000 in
theorem gX10_mends_X10_no : GoodIn wsX10_mends (wsV RX10 63 RX10 yX10_no wsX10_no) := goodIn_app (goodIn_of _ (by decide +kernel)) ggX10_mends_X10_no
set_option maxRecDepth 20000 in
theorem ggX10_mends_X10_bits : GoodIn wsX10_mends wsX10_bits := goodIn_r _ [18] (by decide +kernel) (by decide +kernel)
set_option maxRecDepth 20000 in
theorem gX10_mends_X10_bits : GoodIn wsX10_mends (va_wsS RX10 150 yX10_bits wsX10_bits) := goodIn_app (goodIn_of _ (by decide +kernel)) ggX10_mends_X10_bits
set_option maxRecDepth 20000 in
theorem ggX10_guards_X10_isThing : GoodIn wsX10_guards wsX10_isThing := goodIn_r _ [6, 7, 13, 14, 15, 16, 17, 18, 19, 20, 21, 22, 23, 24, 25, 26, 27, 28, 29, 30, 31, 32, 33, 34, 35, 36, 37] (by decide +kernel) (by decide +kernel)
set_option maxRecDepth 20000 in
theorem gX10_guards_X10_isThing : GoodIn wsX10_guards (wsV RX10 100 RX10 yX10_isThing wsX10_isThing) := goodIn_app (goodIn_of _ (by decide +kernel)) ggX10_guards_X10_isThing
set_option maxRecDepth 20000 in
theorem ggX10_guards_X10_no : GoodIn wsX10_guards wsX10_no := goodIn_r _ [11, 12, 13, 14, 15, 16, 17, 18, 19, 20, 21, 22, 23, 24, 25, 26, 27, 28, 29, 30, 31, 32, 33, 34, 35, 36, 37] (by decide +kernel) (by decide +kernel)
set_option maxRecDepth 20000 in
theorem gX10_guards_X10_no : GoodIn wsX10_guards (wsV RX10 63 RX10 yX10_no wsX10_no) := goodIn_app (goodIn_of _ (by decide +kernel)) ggX10_guards_X10_no
set_option maxRecDepth 20000 in
theorem ggX10_turn_X10_isThing : GoodIn wsX10_turn wsX10_isThing := goodIn_r _ [7, 8, 20, 21, 22, 23, 24, 25, 26, 27, 28, 29, 30, 31, 32, 33, 34, 35, 36, 37, 38, 39, 40, 41, 42, 43, 44] (by decide +kernel) (by decide +kernel)
set_option maxRecDepth 20000 in
theorem gX10_turn_X10_isThing : GoodIn wsX10_turn (wsV RX10 100 RX10 yX10_isThing wsX10_isThing) := goodIn_app (goodIn_of _ (by decide +kernel)) ggX10_turn_X10_isThing
set_option maxRecDepth 20000 in
theorem ggX10_turn_X10_isIn : GoodIn wsX10_turn wsX10_isIn := goodIn_r _ [11] (by decide +kernel) (by decide +kernel)
set_option maxRecDepth 20000 in
theorem gX10_turn_X10_isIn : GoodIn wsX10_turn (va_wsS RX10 74 yX10_isIn wsX10_isIn) := goodIn_app (goodIn_of _ (by decide +kernel)) ggX10_turn_X10_isIn
set_option maxRecDepth 20000 in
theorem ggX10_turn_X10_bound : GoodIn wsX10_turn wsX10_bound := goodIn_r _ [14] (by decide +kernel) (by decide +kernel)
set_option maxRecDepth 20000 in
theorem gX10_turn_X10_bound : GoodIn wsX10_turn (va_wsS RX10 56 yX10_bound wsX10_bound) := goodIn_app (goodIn_of _ (by decide +kernel)) ggX10_turn_X10_bound
set_option maxRecDepth 20000 in
theorem ggX10_turn_X10_no : GoodIn wsX10_turn wsX10_no := goodIn_r _ [18, 19, 20, 21, 22, 23, 24, 25, 26, 27, 28, 29, 30, 31, 32, 33, 34, 35, 36, 37, 38, 39, 40, 41, 42, 43, 44] (by decide +kernel) (by decide +kernel)
set_option maxRecDepth 20000 in
theorem gX10_turn_X10_no : GoodIn wsX10_turn (wsV RX10 63 RX10 yX10_no wsX10_no) := goodIn_app (goodIn_of _ (by decide +kernel)) ggX10_turn_X10_no
set_option maxRecDepth 20000 in
theorem ggX10_days_X10_bound : GoodIn wsX10_days wsX10_bound := goodIn_r _ [6] (by decide +kernel) (by decide +kernel)
set_option maxRecDepth 20000 in
theorem gX10_days_X10_bound : GoodIn wsX10_days (va_wsS RX10 56 yX10_bound wsX10_bound) := goodIn_app (goodIn_of _ (by decide +kernel)) ggX10_days_X10_bound
set_option maxRecDepth 20000 in
theorem ggX10_days_X10_no : GoodIn wsX10_days wsX10_no := goodIn_r _ [10, 11, 35, 36, 37, 38, 39, 40, 41, 42, 43, 44, 45, 46, 47, 48, 49, 50, 51, 52, 53, 54, 55, 56, 57, 58, 59] (by decide +kernel) (by decide +kernel)
set_option maxRecDepth 20000 in
theorem gX10_days_X10_no : GoodIn wsX10_days (wsV RX10 63 RX10 yX10_no wsX10_no) := goodIn_app (goodIn_of _ (by decide +kernel)) ggX10_days_X10_no
set_option maxRecDepth 20000 in
theorem ggX10_days_X10_goes : GoodIn wsX10_days wsX10_goes := goodIn_r _ [15, 16, 17, 18, 5, 19, 1, 20, 2, 21, 22, 23, 24, 25, 26, 27, 28, 29, 30, 31, 32, 33, 34, 35, 36, 37, 38, 39, 40, 41, 42, 43, 44, 45, 46, 47, 48, 49, 50, 51, 52, 53, 54, 55, 56, 57, 58, 59] (by decide +kernel) (by decide +kernel)
set_option maxRecDepth 20000 in
theorem gX10_days_X10_goes : GoodIn wsX10_days (wsV RX10 106 RX10 yX10_goes wsX10_goes) := goodIn_app (goodIn_of _ (by decide +kernel)) ggX10_days_X10_goes
set_option maxRecDepth 20000 in
theorem ggX10_days_X10_bits : GoodIn wsX10_days wsX10_bits := goodIn_r _ [28] (by decide +kernel) (by decide +kernel)
set_option maxRecDepth 20000 in
theorem gX10_days_X10_bits : GoodIn wsX10_days (va_wsS RX10 150 yX10_bits wsX10_bits) := goodIn_app (goodIn_of _ (by decide +kernel)) ggX10_days_X10_bits
set_option maxRecDepth 20000 in
theorem ggX10_lostThen_X10_bound : GoodIn wsX10_lostThen wsX10_bound := goodIn_r _ [4] (by decide +kernel) (by decide +kernel)
set_option maxRecDepth 20000 in
theorem gX10_lostThen_X10_bound : GoodIn wsX10_lostThen (va_wsS RX10 56 yX10_bound wsX10_bound) := goodIn_app (goodIn_of _ (by decide +kernel)) ggX10_lostThen_X10_bound
set_option maxRecDepth 20000 in
theorem ggX10_lostThen_X10_no : GoodIn wsX10_lostThen wsX10_no := goodIn_r _ [8, 9, 62, 63, 64, 65, 66, 67, 68, 69, 70, 71, 72, 73, 74, 75, 76, 77, 78, 79, 80, 81, 82, 83, 84, 85, 86] (by decide +kernel) (by decide +kernel)
set_option maxRecDepth 20000 in
theorem gX10_lostThen_X10_no : GoodIn wsX10_lostThen (wsV RX10 63 RX10 yX10_no wsX10_no) := goodIn_app (goodIn_of _ (by decide +kernel)) ggX10_lostThen_X10_no
set_option maxRecDepth 20000 in
theorem ggX10_lostThen_X10_lostIn : GoodIn wsX10_lostThen wsX10_lostIn := goodIn_r _ [13, 14, 15, 16, 17, 3, 18, 19, 20, 21, 22, 23, 24, 25, 26, 27, 28, 29, 30, 31, 32, 33, 34, 35, 36, 37, 38, 39, 40, 41, 42, 43, 44, 45, 46, 47, 48, 49, 50, 51, 52, 53, 54, 55, 56, 57, 58, 59, 60, 61, 62, 63, 64, 65, 66, 67, 68, 69, 70, 71, 72, 73, 74, 75, 76, 77, 78, 79, 80, 81, 82, 83, 84, 85, 86] (by decide +kernel) (by decide +kernel)
set_option maxRecDepth 20000 in
theorem gX10_lostThen_X10_lostIn : GoodIn wsX10_lostThen (wsV RX10 165 RX10 yX10_lostIn wsX10_lostIn) := goodIn_app (goodIn_of _ (by decide +kernel)) ggX10_lostThen_X10_lostIn
set_option maxRecDepth 20000 in
theorem ggX10_when_X10_isThing : GoodIn wsX10_when wsX10_isThing := goodIn_r _ [5, 6, 59, 60, 61, 62, 63, 64, 65, 66, 67, 68, 69, 70, 71, 72, 73, 74, 75, 76, 77, 78, 79, 80, 81, 82, 83] (by decide +kernel) (by decide +kernel)
set_option maxRecDepth 20000 in
theorem gX10_when_X10_isThing : GoodIn wsX10_when (wsV RX10 100 RX10 yX10_isThing wsX10_isThing) := goodIn_app (goodIn_of _ (by decide +kernel)) ggX10_when_X10_isThing
set_option maxRecDepth 20000 in
theorem ggX10_when_X10_lostWhen : GoodIn wsX10_when wsX10_lostWhen := goodIn_r _ [10, 11, 12, 13, 14, 4, 15, 16, 17, 18, 19, 20, 21, 22, 23, 24, 6, 25, 26, 27, 28, 29, 30, 31, 32, 33, 34, 35, 36, 37, 38, 39, 40, 41, 42, 43, 44, 45, 46, 47, 48, 49, 50, 51, 52, 53, 59, 60, 61, 62, 63, 64, 65, 66, 67, 68, 69, 70, 71, 72, 73, 74, 75, 76, 77, 78, 79, 80, 81, 82, 83] (by decide +kernel) (by decide +kernel)
set_option maxRecDepth 20000 in
theorem gX10_when_X10_lostWhen : GoodIn wsX10_when (wsV RX10 171 RX10 yX10_lostWhen wsX10_lostWhen) := goodIn_app (goodIn_of _ (by decide +kernel)) ggX10_when_X10_lostWhen
set_option maxRecDepth 20000 in
theorem ggX10_when_X10_no : GoodIn wsX10_when wsX10_no := goodIn_r _ [57, 58, 59, 60, 61, 62, 63, 64, 65, 66, 67, 68, 69, 70, 71, 72, 73, 74, 75, 76, 77, 78, 79, 80, 81, 82, 83] (by decide +kernel) (by decide +kernel)
set_option maxRecDepth 20000 in
theorem gX10_when_X10_no : GoodIn wsX10_when (wsV RX10 63 RX10 yX10_no wsX10_no) := goodIn_app (goodIn_of _ (by decide +kernel)) ggX10_when_X10_no
set_option maxRecDepth 20000 in
theorem ggX10_nextOne_X10_lostWhen : GoodIn wsX10_nextOne wsX10_lostWhen := goodIn_r _ [7, 8, 9, 10, 11, 6, 12, 13, 14, 15, 16, 17, 18, 19, 20, 21, 2, 22, 23, 24, 25, 26, 27, 28, 29, 30, 31, 32, 33, 34, 35, 36, 37, 38, 39, 40, 41, 42, 43, 44, 45, 46, 47, 48, 49, 50, 51, 52, 53, 54, 55, 56, 57, 58, 59, 60, 61, 62, 63, 64, 65, 66, 67, 68, 69, 70, 71, 72, 73, 74, 75] (by decide +kernel) (by decide +kernel)
set_option maxRecDepth 20000 in
theorem gX10_nextOne_X10_lostWhen : GoodIn wsX10_nextOne (wsV RX10 171 RX10 yX10_lostWhen wsX10_lostWhen) := goodIn_app (goodIn_of _ (by decide +kernel)) ggX10_nextOne_X10_lostWhen
set_option maxRecDepth 20000 in
theorem ggX10_still_X10_lostIn : GoodIn wsX10_still wsX10_lostIn := goodIn_r _ [5, 6, 7, 8, 9, 4, 10, 11, 12, 13, 14, 15, 16, 17, 18, 19, 20, 21, 22, 23, 24, 25, 26, 27, 28, 29, 30, 31, 32, 33, 34, 35, 36, 37, 38, 39, 40, 41, 42, 43, 44, 45, 46, 47, 48, 49, 50, 51, 52, 53, 54, 55, 56, 57, 58, 59, 60, 61, 62, 63, 64, 65, 66, 67, 68, 69, 70, 71, 72, 73, 74, 75, 76, 77, 78] (by decide +kernel) (by decide +kernel)
set_option maxRecDepth 20000 in
theorem gX10_still_X10_lostIn : GoodIn wsX10_still (wsV RX10 165 RX10 yX10_lostIn wsX10_lostIn) := goodIn_app (goodIn_of _ (by decide +kernel)) ggX10_still_X10_lostIn
set_option maxRecDepth 20000 in
theorem ggX10_next__X10_isIn : GoodIn wsX10_next_ wsX10_isIn := goodIn_r _ [5] (by decide +kernel) (by decide +kernel)
set_option maxRecDepth 20000 in
theorem gX10_next__X10_isIn : GoodIn wsX10_next_ (va_wsS RX10 74 yX10_isIn wsX10_isIn) := goodIn_app (goodIn_of _ (by decide +kernel)) ggX10_next__X10_isIn
set_option maxRecDepth 20000 in
theorem ggX10_next__X10_no : GoodIn wsX10_next_ wsX10_no := goodIn_r _ [9, 10, 75, 76, 77, 78, 79, 80, 81, 82, 83, 84, 85, 86, 87, 88, 89, 90, 91, 92, 93, 94, 95, 96, 97, 98, 99] (by decide +kernel) (by decide +kernel)
set_option maxRecDepth 20000 in
theorem gX10_next__X10_no : GoodIn wsX10_next_ (wsV RX10 63 RX10 yX10_no wsX10_no) := goodIn_app (goodIn_of _ (by decide +kernel)) ggX10_next__X10_no
set_option maxRecDepth 20000 in
theorem ggX10_next__X10_still : GoodIn wsX10_next_ wsX10_still := goodIn_r _ [14, 15, 16, 17, 4, 18, 19, 20, 21, 22, 23, 24, 25, 26, 27, 28, 29, 30, 31, 32, 33, 34, 35, 36, 37, 38, 39, 40, 41, 42, 43, 44, 45, 46, 47, 48, 49, 50, 51, 52, 53, 54, 55, 56, 57, 58, 59, 60, 61, 62, 63, 64, 65, 66, 75, 76, 77, 78, 79, 80, 81, 82, 83, 84, 85, 86, 87, 88, 89, 90, 91, 92, 93, 94, 95, 96, 97, 98, 99] (by decide +kernel) (by decide +kernel)
set_option maxRecDepth 20000 in
theorem gX10_next__X10_still : GoodIn wsX10_next_ (wsV RX10 178 RX10 yX10_still wsX10_still) := goodIn_app (goodIn_of _ (by decide +kernel)) ggX10_next__X10_still
set_option maxRecDepth 20000 in
theorem ggX10_next__X10_nextOne : GoodIn wsX10_next_ wsX10_nextOne := goodIn_r _ [70, 1, 33, 71, 72, 73, 4, 74, 19, 20, 21, 22, 23, 24, 25, 26, 27, 28, 29, 30, 31, 32, 34, 35, 36, 37, 38, 39, 40, 41, 42, 43, 44, 53, 54, 55, 49, 50, 51, 52, 56, 57, 58, 59, 60, 61, 62, 63, 64, 65, 66, 75, 76, 77, 78, 79, 80, 81, 82, 83, 84, 85, 86, 87, 88, 89, 90, 91, 92, 93, 94, 95, 96, 97, 98, 99] (by decide +kernel) (by decide +kernel)
set_option maxRecDepth 20000 in
theorem gX10_next__X10_nextOne : GoodIn wsX10_next_ (wsV RX10 181 RX10 yX10_nextOne wsX10_nextOne) := goodIn_app (goodIn_of _ (by decide +kernel)) ggX10_next__X10_nextOne
set_option maxRecDepth 20000 in
theorem ggX10_rootsOf_X10_has : GoodIn wsX10_rootsOf wsX10_has := goodIn_r _ [5] (by decide +kernel) (by decide +kernel)
set_option maxRecDepth 20000 in
theorem gX10_rootsOf_X10_has : GoodIn wsX10_rootsOf (va_wsS RX10 52 yX10_has wsX10_has) := goodIn_app (goodIn_of _ (by decide +kernel)) ggX10_rootsOf_X10_has
set_option maxRecDepth 20000 in
theorem ggX10_fruitsOf_X10_rootsOf : GoodIn wsX10_fruitsOf wsX10_rootsOf := goodIn_r _ [6, 7, 8, 9, 5, 10, 11, 12, 13, 14, 15, 16, 17, 18, 19, 20, 21, 22, 23, 24, 25, 26, 27, 28, 29, 30, 31, 32, 33, 34, 35] (by decide +kernel) (by decide +kernel)
set_option maxRecDepth 20000 in
theorem gX10_fruitsOf_X10_rootsOf : GoodIn wsX10_fruitsOf (wsV RX10 184 RX10 yX10_rootsOf wsX10_rootsOf) := goodIn_app (goodIn_of _ (by decide +kernel)) ggX10_fruitsOf_X10_rootsOf
set_option maxRecDepth 20000 in
theorem ggX10_fruitsOf_X10_has : GoodIn wsX10_fruitsOf wsX10_has := goodIn_r _ [10] (by decide +kernel) (by decide +kernel)
set_option maxRecDepth 20000 in
theorem gX10_fruitsOf_X10_has : GoodIn wsX10_fruitsOf (va_wsS RX10 52 yX10_has wsX10_has) := goodIn_app (goodIn_of _ (by decide +kernel)) ggX10_fruitsOf_X10_has
set_option maxRecDepth 20000 in
theorem ggX10_roots_X10_isThing : GoodIn wsX10_roots wsX10_isThing := goodIn_r _ [5, 6, 27, 28, 29, 30, 31, 32, 33, 34, 35, 36, 37, 38, 39, 40, 41, 42, 43, 44, 45, 46, 47, 48, 49, 50, 51] (by decide +kernel) (by decide +kernel)
set_option maxRecDepth 20000 in
theorem gX10_roots_X10_isThing : GoodIn wsX10_roots (wsV RX10 100 RX10 yX10_isThing wsX10_isThing) := goodIn_app (goodIn_of _ (by decide +kernel)) ggX10_roots_X10_isThing
set_option maxRecDepth 20000 in
theorem ggX10_roots_X10_isIn : GoodIn wsX10_roots wsX10_isIn := goodIn_r _ [9] (by decide +kernel) (by decide +kernel)
set_option maxRecDepth 20000 in
theorem gX10_roots_X10_isIn : GoodIn wsX10_roots (va_wsS RX10 74 yX10_isIn wsX10_isIn) := goodIn_app (goodIn_of _ (by decide +kernel)) ggX10_roots_X10_isIn
set_option maxRecDepth 20000 in
theorem ggX10_roots_X10_no : GoodIn wsX10_roots wsX10_no := goodIn_r _ [13, 14, 27, 28, 29, 30, 31, 32, 33, 34, 35, 36, 37, 38, 39, 40, 41, 42, 43, 44, 45, 46, 47, 48, 49, 50, 51] (by decide +kernel) (by decide +kernel)
set_option maxRecDepth 20000 in
theorem gX10_roots_X10_no : GoodIn wsX10_roots (wsV RX10 63 RX10 yX10_no wsX10_no) := goodIn_app (goodIn_of _ (by decide +kernel)) ggX10_roots_X10_no
set_option maxRecDepth 20000 in
theorem ggX10_roots_X10_rootsOf : GoodIn wsX10_roots wsX10_rootsOf := goodIn_r _ [18, 19, 20, 21, 4, 22, 27, 28, 29, 30, 31, 32, 33, 34, 35, 36, 37, 38, 39, 40, 41, 42, 43, 44, 45, 46, 47, 48, 49, 50, 51] (by decide +kernel) (by decide +kernel)
set_option maxRecDepth 20000 in
theorem gX10_roots_X10_rootsOf : GoodIn wsX10_roots (wsV RX10 184 RX10 yX10_rootsOf wsX10_rootsOf) := goodIn_app (goodIn_of _ (by decide +kernel)) ggX10_roots_X10_rootsOf
set_option maxRecDepth 20000 in
theorem ggX10_roots_X10_fruitsOf : GoodIn wsX10_roots wsX10_fruitsOf := goodIn_r _ [26, 6, 15, 16, 17, 4, 18, 19, 20, 21, 22, 27, 28, 29, 30, 31, 32, 33, 34, 35, 36, 37, 38, 39, 40, 41, 42, 43, 44, 45, 46, 47, 48, 49, 50, 51] (by decide +kernel) (by decide +kernel)
set_option maxRecDepth 20000 in
theorem gX10_roots_X10_fruitsOf : GoodIn wsX10_roots (wsV RX10 187 RX10 yX10_fruitsOf wsX10_fruitsOf) := goodIn_app (goodIn_of _ (by decide +kernel)) ggX10_roots_X10_fruitsOf
set_option maxRecDepth 20000 in
theorem ggX10_bare_X10_all : GoodIn wsX10_bare wsX10_all := goodIn_r _ [7, 8, 9, 10, 11, 12, 13, 14, 15, 16, 17, 18, 19, 20, 21, 22, 23, 24, 25, 26, 27, 28, 29, 30, 31, 32, 33] (by decide +kernel) (by decide +kernel)
set_option maxRecDepth 20000 in
theorem gX10_bare_X10_all : GoodIn wsX10_bare (wsV RX10 190 RX10 yX10_all wsX10_all) := goodIn_app (goodIn_of _ (by decide +kernel)) ggX10_bare_X10_all
set_option maxRecDepth 20000 in
theorem ggX10_lostGuarding_X10_lostIn : GoodIn wsX10_lostGuarding wsX10_lostIn := goodIn_r _ [6, 7, 8, 9, 10, 5, 11, 12, 13, 14, 15, 16, 17, 18, 19, 20, 21, 22, 1, 23, 24, 25, 26, 27, 28, 29, 30, 31, 32, 33, 34, 35, 36, 37, 38, 39, 40, 41, 42, 43, 44, 45, 46, 47, 48, 49, 50, 51, 52, 53, 54, 55, 56, 57, 58, 59, 60, 61, 62, 63, 64, 65, 66, 67, 68, 69, 70, 71, 72, 73, 74, 75, 76, 77, 78] (by decide +kernel) (by decide +kernel)
set_option maxRecDepth 20000 in
theorem gX10_lostGuarding_X10_lostIn : GoodIn wsX10_lostGuarding (wsV RX10 165 RX10 yX10_lostIn wsX10_lostIn) := goodIn_app (goodIn_of _ (by decide +kernel)) ggX10_lostGuarding_X10_lostIn
set_option maxRecDepth 20000 in
theorem ggX10_guard_X10_isThing : GoodIn wsX10_guard wsX10_isThing := goodIn_r _ [5, 6, 78, 79, 80, 81, 82, 83, 84, 85, 86, 87, 88, 89, 90, 91, 92, 93, 94, 95, 96, 97, 98, 99, 100, 101, 102] (by decide +kernel) (by decide +kernel)
set_option maxRecDepth 20000 in
theorem gX10_guard_X10_isThing : GoodIn wsX10_guard (wsV RX10 100 RX10 yX10_isThing wsX10_isThing) := goodIn_app (goodIn_of _ (by decide +kernel)) ggX10_guard_X10_isThing
set_option maxRecDepth 20000 in
theorem ggX10_guard_X10_bound : GoodIn wsX10_guard wsX10_bound := goodIn_r _ [9] (by decide +kernel) (by decide +kernel)
set_option maxRecDepth 20000 in
theorem gX10_guard_X10_bound : GoodIn wsX10_guard (va_wsS RX10 56 yX10_bound wsX10_bound) := goodIn_app (goodIn_of _ (by decide +kernel)) ggX10_guard_X10_bound
set_option maxRecDepth 20000 in
theorem ggX10_guard_X10_no : GoodIn wsX10_guard wsX10_no := goodIn_r _ [13, 14, 78, 79, 80, 81, 82, 83, 84, 85, 86, 87, 88, 89, 90, 91, 92, 93, 94, 95, 96, 97, 98, 99, 100, 101, 102] (by decide +kernel) (by decide +kernel)
set_option maxRecDepth 20000 in
theorem gX10_guard_X10_no : GoodIn wsX10_guard (wsV RX10 63 RX10 yX10_no wsX10_no) := goodIn_app (goodIn_of _ (by decide +kernel)) ggX10_guard_X10_no
set_option maxRecDepth 20000 in
theorem ggX10_guard_X10_all : GoodIn wsX10_guard wsX10_all := goodIn_r _ [18, 6, 78, 79, 80, 81, 82, 83, 84, 85, 86, 87, 88, 89, 90, 91, 92, 93, 94, 95, 96, 97, 98, 99, 100, 101, 102] (by decide +kernel) (by decide +kernel)
set_option maxRecDepth 20000 in
theorem gX10_guard_X10_all : GoodIn wsX10_guard (wsV RX10 190 RX10 yX10_all wsX10_all) := goodIn_app (goodIn_of _ (by decide +kernel)) ggX10_guard_X10_all
set_option maxRecDepth 20000 in
theorem ggX10_guard_X10_bare : GoodIn wsX10_guard wsX10_bare := goodIn_r _ [22, 23, 24, 15, 16, 17, 4, 18, 6, 78, 79, 80, 81, 82, 83, 84, 85, 86, 87, 88, 89, 90, 91, 92, 93, 94, 95, 96, 97, 98, 99, 100, 101, 102] (by decide +kernel) (by decide +kernel)
set_option maxRecDepth 20000 in
theorem gX10_guard_X10_bare : GoodIn wsX10_guard (wsV RX10 193 RX10 yX10_bare wsX10_bare) := goodIn_app (goodIn_of _ (by decide +kernel)) ggX10_guard_X10_bare
set_option maxRecDepth 20000 in
theorem ggX10_guard_X10_bits : GoodIn wsX10_guard wsX10_bits := goodIn_r _ [27] (by decide +kernel) (by decide +kernel)
set_option maxRecDepth 20000 in
theorem gX10_guard_X10_bits : GoodIn wsX10_guard (va_wsS RX10 150 yX10_bits wsX10_bits) := goodIn_app (goodIn_of _ (by decide +kernel)) ggX10_guard_X10_bits
set_option maxRecDepth 20000 in
theorem ggX10_guard_X10_lostGuarding : GoodIn wsX10_guard wsX10_lostGuarding := goodIn_r _ [31, 24, 32, 33, 34, 4, 35, 23, 36, 37, 38, 39, 40, 41, 42, 43, 44, 45, 46, 47, 48, 6, 49, 50, 51, 52, 53, 54, 55, 56, 57, 58, 59, 60, 61, 62, 63, 64, 65, 66, 67, 68, 69, 25, 26, 27, 70, 71, 72, 73, 74, 75, 76, 77, 78, 79, 80, 81, 82, 83, 84, 85, 86, 87, 88, 89, 90, 91, 92, 93, 94, 95, 96, 97, 98, 99, 100, 101, 102] (by decide +kernel) (by decide +kernel)
set_option maxRecDepth 20000 in
theorem gX10_guard_X10_lostGuarding : GoodIn wsX10_guard (wsV RX10 196 RX10 yX10_lostGuarding wsX10_lostGuarding) := goodIn_app (goodIn_of _ (by decide +kernel)) ggX10_guard_X10_lostGuarding
set_option maxRecDepth 20000 in
theorem ggX10_guard_X10_has : GoodIn wsX10_guard wsX10_has := goodIn_r _ [69] (by decide +kernel) (by decide +kernel)
set_option maxRecDepth 20000 in
theorem gX10_guard_X10_has : GoodIn wsX10_guard (va_wsS RX10 52 yX10_has wsX10_has) := goodIn_app (goodIn_of _ (by decide +kernel)) ggX10_guard_X10_has
set_option maxRecDepth 20000 in
theorem ggX10_weak_X10_bound : GoodIn wsX10_weak wsX10_bound := goodIn_r _ [5] (by decide +kernel) (by decide +kernel)
set_option maxRecDepth 20000 in
theorem gX10_weak_X10_bound : GoodIn wsX10_weak (va_wsS RX10 56 yX10_bound wsX10_bound) := goodIn_app (goodIn_of _ (by decide +kernel)) ggX10_weak_X10_bound
set_option maxRecDepth 20000 in
theorem ggX10_weak_X10_no : GoodIn wsX10_weak wsX10_no := goodIn_r _ [9, 10, 66, 67, 68, 69, 70, 71, 72, 73, 74, 75, 76, 77, 78, 79, 80, 81, 82, 83, 84, 85, 86, 87, 88, 89, 90] (by decide +kernel) (by decide +kernel)
set_option maxRecDepth 20000 in
theorem gX10_weak_X10_no : GoodIn wsX10_weak (wsV RX10 63 RX10 yX10_no wsX10_no) := goodIn_app (goodIn_of _ (by decide +kernel)) ggX10_weak_X10_no
set_option maxRecDepth 20000 in
theorem ggX10_weak_X10_lostIn : GoodIn wsX10_weak wsX10_lostIn := goodIn_r _ [14, 15, 16, 17, 18, 4, 19, 20, 21, 22, 23, 24, 25, 26, 27, 28, 1, 29, 30, 31, 32, 33, 34, 35, 36, 37, 38, 39, 40, 41, 42, 43, 44, 45, 46, 47, 48, 49, 50, 51, 52, 53, 54, 55, 56, 57, 58, 59, 60, 61, 66, 67, 68, 69, 70, 71, 72, 73, 74, 75, 76, 77, 78, 79, 80, 81, 82, 83, 84, 85, 86, 87, 88, 89, 90] (by decide +kernel) (by decide +kernel)
set_option maxRecDepth 20000 in
theorem gX10_weak_X10_lostIn : GoodIn wsX10_weak (wsV RX10 165 RX10 yX10_lostIn wsX10_lostIn) := goodIn_app (goodIn_of _ (by decide +kernel)) ggX10_weak_X10_lostIn
set_option maxRecDepth 20000 in
theorem ggX10_weak_X10_bits : GoodIn wsX10_weak wsX10_bits := goodIn_r _ [53] (by decide +kernel) (by decide +kernel)
set_option maxRecDepth 20000 in
theorem gX10_weak_X10_bits : GoodIn wsX10_weak (va_wsS RX10 150 yX10_bits wsX10_bits) := goodIn_app (goodIn_of _ (by decide +kernel)) ggX10_weak_X10_bits
set_option maxRecDepth 20000 in
theorem ggX10_weak_X10_lostGuarding : GoodIn wsX10_weak wsX10_lostGuarding := goodIn_r _ [65, 30, 11, 12, 13, 4, 14, 15, 16, 17, 18, 19, 20, 21, 22, 23, 24, 25, 26, 27, 28, 1, 29, 31, 32, 33, 34, 35, 36, 37, 38, 39, 40, 41, 42, 43, 44, 45, 46, 47, 48, 49, 50, 51, 52, 53, 54, 55, 56, 57, 58, 59, 60, 61, 66, 67, 68, 69, 70, 71, 72, 73, 74, 75, 76, 77, 78, 79, 80, 81, 82, 83, 84, 85, 86, 87, 88, 89, 90] (by decide +kernel) (by decide +kernel)
set_option maxRecDepth 20000 in
theorem gX10_weak_X10_lostGuarding : GoodIn wsX10_weak (wsV RX10 196 RX10 yX10_lostGuarding wsX10_lostGuarding) := goodIn_app (goodIn_of _ (by decide +kernel)) ggX10_weak_X10_lostGuarding
set_option maxRecDepth 20000 in
theorem ggX10_whenWith_X10_lostWhen : GoodIn wsX10_whenWith wsX10_lostWhen := goodIn_r _ [6, 1, 7, 8, 9, 5, 10, 11, 12, 13, 14, 15, 16, 17, 18, 19, 20, 21, 22, 23, 24, 25, 26, 27, 28, 29, 30, 31, 32, 33, 34, 35, 36, 37, 38, 39, 40, 41, 42, 43, 44, 45, 46, 47, 48, 49, 50, 51, 52, 53, 54, 55, 56, 57, 58, 59, 60, 61, 62, 63, 64, 65, 66, 67, 68, 69, 70, 71, 72, 73, 74] (by decide +kernel) (by decide +kernel)
set_option maxRecDepth 20000 in
theorem gX10_whenWith_X10_lostWhen : GoodIn wsX10_whenWith (wsV RX10 171 RX10 yX10_lostWhen wsX10_lostWhen) := goodIn_app (goodIn_of _ (by decide +kernel)) ggX10_whenWith_X10_lostWhen
set_option maxRecDepth 20000 in
theorem ggX10_tack_X10_isThing : GoodIn wsX10_tack wsX10_isThing := goodIn_r _ [6, 1, 75, 76, 77, 78, 79, 80, 81, 82, 83, 84, 85, 86, 87, 88, 89, 90, 91, 92, 93, 94, 95, 96, 97, 98, 99] (by decide +kernel) (by decide +kernel)
set_option maxRecDepth 20000 in
theorem gX10_tack_X10_isThing : GoodIn wsX10_tack (wsV RX10 100 RX10 yX10_isThing wsX10_isThing) := goodIn_app (goodIn_of _ (by decide +kernel)) ggX10_tack_X10_isThing
set_option maxRecDepth 20000 in
theorem ggX10_tack_X10_no : GoodIn wsX10_tack wsX10_no := goodIn_r _ [10, 11, 75, 76, 77, 78, 79, 80, 81, 82, 83, 84, 85, 86, 87, 88, 89, 90, 91, 92, 93, 94, 95, 96, 97, 98, 99] (by decide +kernel) (by decide +kernel)
set_option maxRecDepth 20000 in
theorem gX10_tack_X10_no : GoodIn wsX10_tack (wsV RX10 63 RX10 yX10_no wsX10_no) := goodIn_app (goodIn_of _ (by decide +kernel)) ggX10_tack_X10_no
set_option maxRecDepth 20000 in
theorem ggX10_tack_X10_nails : GoodIn wsX10_tack wsX10_nails := goodIn_r _ [15, 1, 16, 75, 76, 77, 78, 79, 80, 81, 82, 83, 84, 85, 86, 87, 88, 89, 90, 91, 92, 93, 94, 95, 96, 97, 98, 99] (by decide +kernel) (by decide +kernel)
set_option maxRecDepth 20000 in
theorem gX10_tack_X10_nails : GoodIn wsX10_tack (wsV RX10 199 RX10 yX10_nails wsX10_nails) := goodIn_app (goodIn_of _ (by decide +kernel)) ggX10_tack_X10_nails
set_option maxRecDepth 20000 in
theorem ggX10_tack_X10_bare : GoodIn wsX10_tack wsX10_bare := goodIn_r _ [20, 21, 22, 23, 24, 25, 5, 26, 1, 75, 76, 77, 78, 79, 80, 81, 82, 83, 84, 85, 86, 87, 88, 89, 90, 91, 92, 93, 94, 95, 96, 97, 98, 99] (by decide +kernel) (by decide +kernel)
set_option maxRecDepth 20000 in
theorem gX10_tack_X10_bare : GoodIn wsX10_tack (wsV RX10 193 RX10 yX10_bare wsX10_bare) := goodIn_app (goodIn_of _ (by decide +kernel)) ggX10_tack_X10_bare
set_option maxRecDepth 20000 in
theorem ggX10_tack_X10_whenWith : GoodIn wsX10_tack wsX10_whenWith := goodIn_r _ [30, 21, 31, 32, 33, 5, 34, 35, 36, 37, 38, 39, 40, 41, 42, 43, 44, 45, 46, 16, 1, 47, 22, 48, 49, 50, 51, 52, 53, 54, 55, 56, 57, 58, 59, 60, 61, 62, 63, 64, 65, 66, 67, 68, 69, 70, 71, 72, 73, 74, 75, 76, 77, 78, 79, 80, 81, 82, 83, 84, 85, 86, 87, 88, 89, 90, 91, 92, 93, 94, 95, 96, 97, 98, 99] (by decide +kernel) (by decide +kernel)
set_option maxRecDepth 20000 in
theorem gX10_tack_X10_whenWith : GoodIn wsX10_tack (wsV RX10 202 RX10 yX10_whenWith wsX10_whenWith) := goodIn_app (goodIn_of _ (by decide +kernel)) ggX10_tack_X10_whenWith
set_option maxRecDepth 20000 in
theorem ggX10_tack_X10_has : GoodIn wsX10_tack wsX10_has := goodIn_r _ [59] (by decide +kernel) (by decide +kernel)
set_option maxRecDepth 20000 in
theorem gX10_tack_X10_has : GoodIn wsX10_tack (va_wsS RX10 52 yX10_has wsX10_has) := goodIn_app (goodIn_of _ (by decide +kernel)) ggX10_tack_X10_has
set_option maxRecDepth 20000 in
theorem ggX10_worst_X10_bound : GoodIn wsX10_worst wsX10_bound := goodIn_r _ [5] (by decide +kernel) (by decide +kernel)
set_option maxRecDepth 20000 in
theorem gX10_worst_X10_bound : GoodIn wsX10_worst (va_wsS RX10 56 yX10_bound wsX10_bound) := goodIn_app (goodIn_of _ (by decide +kernel)) ggX10_worst_X10_bound
set_option maxRecDepth 20000 in
theorem ggX10_worst_X10_no : GoodIn wsX10_worst wsX10_no := goodIn_r _ [9, 10, 78, 79, 80, 81, 82, 83, 84, 85, 86, 87, 88, 89, 90, 91, 92, 93, 94, 95, 96, 97, 98, 99, 100, 101, 102] (by decide +kernel) (by decide +kernel)
set_option maxRecDepth 20000 in
theorem gX10_worst_X10_no : GoodIn wsX10_worst (wsV RX10 63 RX10 yX10_no wsX10_no) := goodIn_app (goodIn_of _ (by decide +kernel)) ggX10_worst_X10_no
set_option maxRecDepth 20000 in
theorem ggX10_worst_X10_nails : GoodIn wsX10_worst wsX10_nails := goodIn_r _ [14, 1, 15, 78, 79, 80, 81, 82, 83, 84, 85, 86, 87, 88, 89, 90, 91, 92, 93, 94, 95, 96, 97, 98, 99, 100, 101, 102] (by decide +kernel) (by decide +kernel)
set_option maxRecDepth 20000 in
theorem gX10_worst_X10_nails : GoodIn wsX10_worst (wsV RX10 199 RX10 yX10_nails wsX10_nails) := goodIn_app (goodIn_of _ (by decide +kernel)) ggX10_worst_X10_nails
set_option maxRecDepth 20000 in
theorem ggX10_worst_X10_bare : GoodIn wsX10_worst wsX10_bare := goodIn_r _ [19, 20, 21, 22, 23, 24, 4, 25, 1, 78, 79, 80, 81, 82, 83, 84, 85, 86, 87, 88, 89, 90, 91, 92, 93, 94, 95, 96, 97, 98, 99, 100, 101, 102] (by decide +kernel) (by decide +kernel)
set_option maxRecDepth 20000 in
theorem gX10_worst_X10_bare : GoodIn wsX10_worst (wsV RX10 193 RX10 yX10_bare wsX10_bare) := goodIn_app (goodIn_of _ (by decide +kernel)) ggX10_worst_X10_bare
set_option maxRecDepth 20000 in
theorem ggX10_worst_X10_lostIn : GoodIn wsX10_worst wsX10_lostIn := goodIn_r _ [29, 20, 30, 31, 32, 4, 33, 34, 35, 36, 37, 38, 39, 40, 41, 15, 1, 42, 21, 43, 44, 45, 46, 47, 48, 49, 50, 51, 52, 53, 54, 55, 56, 57, 58, 59, 60, 61, 62, 63, 64, 65, 66, 67, 68, 69, 70, 71, 72, 73, 78, 79, 80, 81, 82, 83, 84, 85, 86, 87, 88, 89, 90, 91, 92, 93, 94, 95, 96, 97, 98, 99, 100, 101, 102] (by decide +kernel) (by decide +kernel)
set_option maxRecDepth 20000 in
theorem gX10_worst_X10_lostIn : GoodIn wsX10_worst (wsV RX10 165 RX10 yX10_lostIn wsX10_lostIn) := goodIn_app (goodIn_of _ (by decide +kernel)) ggX10_worst_X10_lostIn
set_option maxRecDepth 20000 in
theorem ggX10_worst_X10_bits : GoodIn wsX10_worst wsX10_bits := goodIn_r _ [65] (by decide +kernel) (by decide +kernel)
set_option maxRecDepth 20000 in
theorem gX10_worst_X10_bits : GoodIn wsX10_worst (va_wsS RX10 150 yX10_bits wsX10_bits) := goodIn_app (goodIn_of _ (by decide +kernel)) ggX10_worst_X10_bits
set_option maxRecDepth 20000 in
theorem ggX10_worst_X10_has : GoodIn wsX10_worst wsX10_has := goodIn_r _ [62] (by decide +kernel) (by decide +kernel)
set_option maxRecDepth 20000 in
theorem gX10_worst_X10_has : GoodIn wsX10_worst (va_wsS RX10 52 yX10_has wsX10_has) := goodIn_app (goodIn_of _ (by decide +kernel)) ggX10_worst_X10_has
set_option maxRecDepth 20000 in
theorem ggX10_worst_X10_lostWith : GoodIn wsX10_worst wsX10_lostWith := goodIn_r _ [77, 20, 26, 27, 28, 4, 29, 30, 31, 32, 33, 34, 35, 36, 37, 38, 39, 40, 41, 15, 1, 42, 21, 43, 44, 45, 46, 47, 48, 49, 50, 51, 52, 53, 54, 55, 56, 57, 58, 59, 60, 61, 62, 63, 64, 65, 66, 67, 68, 69, 70, 71, 72, 73, 78, 79, 80, 81, 82, 83, 84, 85, 86, 87, 88, 89, 90, 91, 92, 93, 94, 95, 96, 97, 98, 99, 100, 101, 102] (by decide +kernel) (by decide +kernel)
set_option maxRecDepth 20000 in
theorem gX10_worst_X10_lostWith : GoodIn wsX10_worst (wsV RX10 205 RX10 yX10_lostWith wsX10_lostWith) := goodIn_app (goodIn_of _ (by decide +kernel)) ggX10_worst_X10_lostWith
set_option maxRecDepth 20000 in
theorem ggX10_fewest_X10_isThing : GoodIn wsX10_fewest wsX10_isThing := goodIn_r _ [5, 6, 79, 80, 81, 82, 83, 84, 85, 86, 87, 88, 89, 90, 91, 92, 93, 94, 95, 96, 97, 98, 99, 100, 101, 102, 103] (by decide +kernel) (by decide +kernel)
set_option maxRecDepth 20000 in
theorem gX10_fewest_X10_isThing : GoodIn wsX10_fewest (wsV RX10 100 RX10 yX10_isThing wsX10_isThing) := goodIn_app (goodIn_of _ (by decide +kernel)) ggX10_fewest_X10_isThing
set_option maxRecDepth 20000 in
theorem ggX10_fewest_X10_no : GoodIn wsX10_fewest wsX10_no := goodIn_r _ [10, 11, 79, 80, 81, 82, 83, 84, 85, 86, 87, 88, 89, 90, 91, 92, 93, 94, 95, 96, 97, 98, 99, 100, 101, 102, 103] (by decide +kernel) (by decide +kernel)
set_option maxRecDepth 20000 in
theorem gX10_fewest_X10_no : GoodIn wsX10_fewest (wsV RX10 63 RX10 yX10_no wsX10_no) := goodIn_app (goodIn_of _ (by decide +kernel)) ggX10_fewest_X10_no
set_option maxRecDepth 20000 in
theorem ggX10_fewest_X10_nails : GoodIn wsX10_fewest wsX10_nails := goodIn_r _ [15, 6, 16, 79, 80, 81, 82, 83, 84, 85, 86, 87, 88, 89, 90, 91, 92, 93, 94, 95, 96, 97, 98, 99, 100, 101, 102, 103] (by decide +kernel) (by decide +kernel)
set_option maxRecDepth 20000 in
theorem gX10_fewest_X10_nails : GoodIn wsX10_fewest (wsV RX10 199 RX10 yX10_nails wsX10_nails) := goodIn_app (goodIn_of _ (by decide +kernel)) ggX10_fewest_X10_nails
set_option maxRecDepth 20000 in
theorem ggX10_fewest_X10_bare : GoodIn wsX10_fewest wsX10_bare := goodIn_r _ [20, 21, 22, 23, 24, 25, 4, 26, 6, 79, 80, 81, 82, 83, 84, 85, 86, 87, 88, 89, 90, 91, 92, 93, 94, 95, 96, 97, 98, 99, 100, 101, 102, 103] (by decide +kernel) (by decide +kernel)
set_option maxRecDepth 20000 in
theorem gX10_fewest_X10_bare : GoodIn wsX10_fewest (wsV RX10 193 RX10 yX10_bare wsX10_bare) := goodIn_app (goodIn_of _ (by decide +kernel)) ggX10_fewest_X10_bare
set_option maxRecDepth 20000 in
theorem ggX10_fewest_X10_all : GoodIn wsX10_fewest wsX10_all := goodIn_r _ [26, 6, 79, 80, 81, 82, 83, 84, 85, 86, 87, 88, 89, 90, 91, 92, 93, 94, 95, 96, 97, 98, 99, 100, 101, 102, 103] (by decide +kernel) (by decide +kernel)
set_option maxRecDepth 20000 in
theorem gX10_fewest_X10_all : GoodIn wsX10_fewest (wsV RX10 190 RX10 yX10_all wsX10_all) := goodIn_app (goodIn_of _ (by decide +kernel)) ggX10_fewest_X10_all
set_option maxRecDepth 20000 in
theorem ggX10_fewest_X10_bits : GoodIn wsX10_fewest wsX10_bits := goodIn_r _ [29] (by decide +kernel) (by decide +kernel)
set_option maxRecDepth 20000 in
theorem gX10_fewest_X10_bits : GoodIn wsX10_fewest (va_wsS RX10 150 yX10_bits wsX10_bits) := goodIn_app (goodIn_of _ (by decide +kernel)) ggX10_fewest_X10_bits
set_option maxRecDepth 20000 in
theorem ggX10_fewest_X10_lostWith : GoodIn wsX10_fewest wsX10_lostWith := goodIn_r _ [33, 21, 34, 35, 36, 4, 37, 38, 39, 40, 41, 42, 43, 44, 45, 46, 47, 48, 49, 16, 6, 50, 22, 51, 52, 53, 54, 55, 56, 57, 58, 59, 60, 61, 62, 63, 64, 65, 66, 67, 68, 69, 70, 27, 28, 29, 71, 72, 73, 74, 75, 76, 77, 78, 79, 80, 81, 82, 83, 84, 85, 86, 87, 88, 89, 90, 91, 92, 93, 94, 95, 96, 97, 98, 99, 100, 101, 102, 103] (by decide +kernel) (by decide +kernel)
set_option maxRecDepth 20000 in
theorem gX10_fewest_X10_lostWith : GoodIn wsX10_fewest (wsV RX10 205 RX10 yX10_lostWith wsX10_lostWith) := goodIn_app (goodIn_of _ (by decide +kernel)) ggX10_fewest_X10_lostWith
set_option maxRecDepth 20000 in
theorem ggX10_fewest_X10_has : GoodIn wsX10_fewest wsX10_has := goodIn_r _ [70] (by decide +kernel) (by decide +kernel)
set_option maxRecDepth 20000 in
theorem gX10_fewest_X10_has : GoodIn wsX10_fewest (va_wsS RX10 52 yX10_has wsX10_has) := goodIn_app (goodIn_of _ (by decide +kernel)) ggX10_fewest_X10_has
set_option maxRecDepth 20000 in
theorem ggX10_firstNails_X10_bits : GoodIn wsX10_firstNails wsX10_bits := goodIn_r _ [6] (by decide +kernel) (by decide +kernel)
set_option maxRecDepth 20000 in
theorem gX10_firstNails_X10_bits : GoodIn wsX10_firstNails (va_wsS RX10 150 yX10_bits wsX10_bits) := goodIn_app (goodIn_of _ (by decide +kernel)) ggX10_firstNails_X10_bits
set_option maxRecDepth 20000 in
theorem ggX10_blamedBy_X10_bits : GoodIn wsX10_blamedBy wsX10_bits := goodIn_r _ [6] (by decide +kernel) (by decide +kernel)
set_option maxRecDepth 20000 in
theorem gX10_blamedBy_X10_bits : GoodIn wsX10_blamedBy (va_wsS RX10 150 yX10_bits wsX10_bits) := goodIn_app (goodIn_of _ (by decide +kernel)) ggX10_blamedBy_X10_bits
set_option maxRecDepth 20000 in
theorem ggX10_blamedBy_X10_nth : GoodIn wsX10_blamedBy wsX10_nth := goodIn_r _ [9, 10, 11, 5, 12] (by decide +kernel) (by decide +kernel)
set_option maxRecDepth 20000 in
theorem gX10_blamedBy_X10_nth : GoodIn wsX10_blamedBy (va_wsS RX10 208 yX10_nth wsX10_nth) := goodIn_app (goodIn_of _ (by decide +kernel)) ggX10_blamedBy_X10_nth
set_option maxRecDepth 20000 in
theorem ggX10_blamedBy_X10_goes : GoodIn wsX10_blamedBy wsX10_goes := goodIn_r _ [16, 17, 18, 19, 5, 20, 21, 22, 1, 2, 23, 10, 11, 12, 3, 4, 6, 24, 25, 26, 27, 28, 29, 30, 31, 32, 33, 34, 35, 36, 37, 38, 39, 40, 41, 42, 43, 44, 45, 46, 47, 48, 49, 50, 51, 52, 53, 54] (by decide +kernel) (by decide +kernel)
set_option maxRecDepth 20000 in
theorem gX10_blamedBy_X10_goes : GoodIn wsX10_blamedBy (wsV RX10 106 RX10 yX10_goes wsX10_goes) := goodIn_app (goodIn_of _ (by decide +kernel)) ggX10_blamedBy_X10_goes
set_option maxRecDepth 20000 in
theorem ggX10_blamedBy_X10_has : GoodIn wsX10_blamedBy wsX10_has := goodIn_r _ [12] (by decide +kernel) (by decide +kernel)
set_option maxRecDepth 20000 in
theorem gX10_blamedBy_X10_has : GoodIn wsX10_blamedBy (va_wsS RX10 52 yX10_has wsX10_has) := goodIn_app (goodIn_of _ (by decide +kernel)) ggX10_blamedBy_X10_has
set_option maxRecDepth 20000 in
theorem ggX10_partOf_X10_divisor : GoodIn wsX10_partOf wsX10_divisor := goodIn_r _ [4] (by decide +kernel) (by decide +kernel)
set_option maxRecDepth 20000 in
theorem gX10_partOf_X10_divisor : GoodIn wsX10_partOf (va_wsS RX10 211 yX10_divisor wsX10_divisor) := goodIn_app (goodIn_of _ (by decide +kernel)) ggX10_partOf_X10_divisor
set_option maxRecDepth 20000 in
theorem ggX10_blame_X10_isThing : GoodIn wsX10_blame wsX10_isThing := goodIn_r _ [5, 6, 80, 81, 82, 83, 84, 85, 86, 87, 88, 89, 90, 91, 92, 93, 94, 95, 96, 97, 98, 99, 100, 101, 102, 103, 104] (by decide +kernel) (by decide +kernel)
set_option maxRecDepth 20000 in
theorem gX10_blame_X10_isThing : GoodIn wsX10_blame (wsV RX10 100 RX10 yX10_isThing wsX10_isThing) := goodIn_app (goodIn_of _ (by decide +kernel)) ggX10_blame_X10_isThing
set_option maxRecDepth 20000 in
theorem ggX10_blame_X10_firstNails : GoodIn wsX10_blame wsX10_firstNails := goodIn_r _ [10, 6, 11, 12, 13, 4, 14, 80, 81, 82, 83, 84, 85, 86, 87, 88, 89, 90, 91, 92, 93, 94, 95, 96, 97, 98, 99, 100, 101, 102, 103, 104] (by decide +kernel) (by decide +kernel)
set_option maxRecDepth 20000 in
theorem gX10_blame_X10_firstNails : GoodIn wsX10_blame (wsV RX10 215 RX10 yX10_firstNails wsX10_firstNails) := goodIn_app (goodIn_of _ (by decide +kernel)) ggX10_blame_X10_firstNails
set_option maxRecDepth 20000 in
theorem ggX10_blame_X10_has : GoodIn wsX10_blame wsX10_has := goodIn_r _ [17] (by decide +kernel) (by decide +kernel)
set_option maxRecDepth 20000 in
theorem gX10_blame_X10_has : GoodIn wsX10_blame (va_wsS RX10 52 yX10_has wsX10_has) := goodIn_app (goodIn_of _ (by decide +kernel)) ggX10_blame_X10_has
set_option maxRecDepth 20000 in
theorem ggX10_blame_X10_isIn : GoodIn wsX10_blame wsX10_isIn := goodIn_r _ [20] (by decide +kernel) (by decide +kernel)
set_option maxRecDepth 20000 in
theorem gX10_blame_X10_isIn : GoodIn wsX10_blame (va_wsS RX10 74 yX10_isIn wsX10_isIn) := goodIn_app (goodIn_of _ (by decide +kernel)) ggX10_blame_X10_isIn
set_option maxRecDepth 20000 in
theorem ggX10_blame_X10_lowestOf : GoodIn wsX10_blame wsX10_lowestOf := goodIn_r _ [24, 25, 26, 80, 81, 82, 83, 84, 85, 86, 87, 88, 89, 90, 91, 92, 93, 94, 95, 96, 97, 98, 99, 100, 101, 102, 103, 104] (by decide +kernel) (by decide +kernel)
set_option maxRecDepth 20000 in
theorem gX10_blame_X10_lowestOf : GoodIn wsX10_blame (wsV RX10 218 RX10 yX10_lowestOf wsX10_lowestOf) := goodIn_app (goodIn_of _ (by decide +kernel)) ggX10_blame_X10_lowestOf
set_option maxRecDepth 20000 in
theorem ggX10_blame_X10_bits : GoodIn wsX10_blame wsX10_bits := goodIn_r _ [14] (by decide +kernel) (by decide +kernel)
set_option maxRecDepth 20000 in
theorem gX10_blame_X10_bits : GoodIn wsX10_blame (va_wsS RX10 150 yX10_bits wsX10_bits) := goodIn_app (goodIn_of _ (by decide +kernel)) ggX10_blame_X10_bits
set_option maxRecDepth 20000 in
theorem ggX10_blame_X10_thinks : GoodIn wsX10_blame wsX10_thinks := goodIn_r _ [30, 31, 32, 33, 4, 34, 35, 36, 37, 38, 11, 6, 39, 40, 41, 42, 43, 44, 45, 46, 47, 48, 49, 50, 80, 81, 82, 83, 84, 85, 86, 87, 88, 89, 90, 91, 92, 93, 94, 95, 96, 97, 98, 99, 100, 101, 102, 103, 104] (by decide +kernel) (by decide +kernel)
set_option maxRecDepth 20000 in
theorem gX10_blame_X10_thinks : GoodIn wsX10_blame (wsV RX10 159 RX10 yX10_thinks wsX10_thinks) := goodIn_app (goodIn_of _ (by decide +kernel)) ggX10_blame_X10_thinks
set_option maxRecDepth 20000 in
theorem ggX10_blame_X10_blamedBy : GoodIn wsX10_blame wsX10_blamedBy := goodIn_r _ [54, 40, 41, 12, 13, 4, 14, 55, 56, 57, 15, 16, 17, 58, 59, 60, 61, 62, 63, 64, 65, 39, 6, 11, 66, 67, 68, 69, 37, 38, 80, 81, 82, 83, 84, 85, 86, 87, 88, 89, 90, 91, 92, 93, 94, 95, 96, 97, 98, 99, 100, 101, 102, 103, 104] (by decide +kernel) (by decide +kernel)
set_option maxRecDepth 20000 in
theorem gX10_blame_X10_blamedBy : GoodIn wsX10_blame (wsV RX10 222 RX10 yX10_blamedBy wsX10_blamedBy) := goodIn_app (goodIn_of _ (by decide +kernel)) ggX10_blame_X10_blamedBy
set_option maxRecDepth 20000 in
theorem ggX10_blame_X10_forgets : GoodIn wsX10_blame wsX10_forgets := goodIn_r _ [73, 31, 32, 33, 4, 34, 35, 36, 37, 38, 11, 6, 39, 40, 41, 42, 43, 44, 45, 46, 47, 48, 49, 50, 80, 81, 82, 83, 84, 85, 86, 87, 88, 89, 90, 91, 92, 93, 94, 95, 96, 97, 98, 99, 100, 101, 102, 103, 104] (by decide +kernel) (by decide +kernel)
set_option maxRecDepth 20000 in
theorem gX10_blame_X10_forgets : GoodIn wsX10_blame (wsV RX10 162 RX10 yX10_forgets wsX10_forgets) := goodIn_app (goodIn_of _ (by decide +kernel)) ggX10_blame_X10_forgets
set_option maxRecDepth 20000 in
theorem ggX10_blame_X10_partOf : GoodIn wsX10_blame wsX10_partOf := goodIn_r _ [76, 77, 78, 4, 79] (by decide +kernel) (by decide +kernel)
set_option maxRecDepth 20000 in
theorem gX10_blame_X10_partOf : GoodIn wsX10_blame (va_wsS RX10 226 yX10_partOf wsX10_partOf) := goodIn_app (goodIn_of _ (by decide +kernel)) ggX10_blame_X10_partOf
set_option maxRecDepth 20000 in
theorem ggX10_saved_X10_isThing : GoodIn wsX10_saved wsX10_isThing := goodIn_r _ [6, 7, 66, 67, 68, 69, 70, 71, 72, 73, 74, 75, 76, 77, 78, 79, 80, 81, 82, 83, 84, 85, 86, 87, 88, 89, 90] (by decide +kernel) (by decide +kernel)
set_option maxRecDepth 20000 in
theorem gX10_saved_X10_isThing : GoodIn wsX10_saved (wsV RX10 100 RX10 yX10_isThing wsX10_isThing) := goodIn_app (goodIn_of _ (by decide +kernel)) ggX10_saved_X10_isThing
set_option maxRecDepth 20000 in
theorem ggX10_saved_X10_bound : GoodIn wsX10_saved wsX10_bound := goodIn_r _ [10] (by decide +kernel) (by decide +kernel)
set_option maxRecDepth 20000 in
theorem gX10_saved_X10_bound : GoodIn wsX10_saved (va_wsS RX10 56 yX10_bound wsX10_bound) := goodIn_app (goodIn_of _ (by decide +kernel)) ggX10_saved_X10_bound
set_option maxRecDepth 20000 in
theorem ggX10_saved_X10_no : GoodIn wsX10_saved wsX10_no := goodIn_r _ [14, 15, 66, 67, 68, 69, 70, 71, 72, 73, 74, 75, 76, 77, 78, 79, 80, 81, 82, 83, 84, 85, 86, 87, 88, 89, 90] (by decide +kernel) (by decide +kernel)
set_option maxRecDepth 20000 in
theorem gX10_saved_X10_no : GoodIn wsX10_saved (wsV RX10 63 RX10 yX10_no wsX10_no) := goodIn_app (goodIn_of _ (by decide +kernel)) ggX10_saved_X10_no
set_option maxRecDepth 20000 in
theorem ggX10_saved_X10_lostIn : GoodIn wsX10_saved wsX10_lostIn := goodIn_r _ [19, 1, 20, 21, 22, 5, 23, 24, 25, 26, 27, 28, 29, 30, 31, 32, 7, 33, 34, 35, 36, 37, 38, 39, 40, 41, 42, 43, 44, 45, 46, 47, 48, 49, 50, 51, 52, 53, 54, 55, 56, 57, 58, 59, 60, 61, 62, 63, 64, 65, 66, 67, 68, 69, 70, 71, 72, 73, 74, 75, 76, 77, 78, 79, 80, 81, 82, 83, 84, 85, 86, 87, 88, 89, 90] (by decide +kernel) (by decide +kernel)
set_option maxRecDepth 20000 in
theorem gX10_saved_X10_lostIn : GoodIn wsX10_saved (wsV RX10 165 RX10 yX10_lostIn wsX10_lostIn) := goodIn_app (goodIn_of _ (by decide +kernel)) ggX10_saved_X10_lostIn
set_option maxRecDepth 20000 in
theorem ggX10_saved_X10_bits : GoodIn wsX10_saved wsX10_bits := goodIn_r _ [57] (by decide +kernel) (by decide +kernel)
set_option maxRecDepth 20000 in
theorem gX10_saved_X10_bits : GoodIn wsX10_saved (va_wsS RX10 150 yX10_bits wsX10_bits) := goodIn_app (goodIn_of _ (by decide +kernel)) ggX10_saved_X10_bits
set_option maxRecDepth 20000 in
theorem ggX10_hooks_X10_isIn : GoodIn wsX10_hooks wsX10_isIn := goodIn_r _ [5] (by decide +kernel) (by decide +kernel)
set_option maxRecDepth 20000 in
theorem gX10_hooks_X10_isIn : GoodIn wsX10_hooks (va_wsS RX10 74 yX10_isIn wsX10_isIn) := goodIn_app (goodIn_of _ (by decide +kernel)) ggX10_hooks_X10_isIn
set_option maxRecDepth 20000 in
theorem ggX10_hooks_X10_no : GoodIn wsX10_hooks wsX10_no := goodIn_r _ [9, 10, 66, 67, 68, 69, 70, 71, 72, 73, 74, 75, 76, 77, 78, 79, 80, 81, 82, 83, 84, 85, 86, 87, 88, 89, 90] (by decide +kernel) (by decide +kernel)
set_option maxRecDepth 20000 in
theorem gX10_hooks_X10_no : GoodIn wsX10_hooks (wsV RX10 63 RX10 yX10_no wsX10_no) := goodIn_app (goodIn_of _ (by decide +kernel)) ggX10_hooks_X10_no
set_option maxRecDepth 20000 in
theorem ggX10_hooks_X10_lostIn : GoodIn wsX10_hooks wsX10_lostIn := goodIn_r _ [14, 1, 15, 16, 17, 4, 18, 19, 20, 21, 22, 23, 24, 25, 26, 27, 28, 29, 30, 31, 32, 33, 34, 35, 36, 37, 38, 39, 40, 41, 42, 43, 44, 45, 46, 47, 48, 49, 50, 51, 52, 53, 54, 55, 56, 57, 58, 59, 60, 61, 66, 67, 68, 69, 70, 71, 72, 73, 74, 75, 76, 77, 78, 79, 80, 81, 82, 83, 84, 85, 86, 87, 88, 89, 90] (by decide +kernel) (by decide +kernel)
set_option maxRecDepth 20000 in
theorem gX10_hooks_X10_lostIn : GoodIn wsX10_hooks (wsV RX10 165 RX10 yX10_lostIn wsX10_lostIn) := goodIn_app (goodIn_of _ (by decide +kernel)) ggX10_hooks_X10_lostIn
set_option maxRecDepth 20000 in
theorem ggX10_hooks_X10_all : GoodIn wsX10_hooks wsX10_all := goodIn_r _ [65, 28, 66, 67, 68, 69, 70, 71, 72, 73, 74, 75, 76, 77, 78, 79, 80, 81, 82, 83, 84, 85, 86, 87, 88, 89, 90] (by decide +kernel) (by decide +kernel)
set_option maxRecDepth 20000 in
theorem gX10_hooks_X10_all : GoodIn wsX10_hooks (wsV RX10 190 RX10 yX10_all wsX10_all) := goodIn_app (goodIn_of _ (by decide +kernel)) ggX10_hooks_X10_all
set_option maxRecDepth 20000 in
theorem ggX10_key_X10_fruitsOf : GoodIn wsX10_key wsX10_fruitsOf := goodIn_r _ [6, 1, 7, 8, 9, 5, 10, 11, 12, 13, 14, 18, 19, 20, 21, 22, 23, 24, 25, 26, 27, 28, 29, 30, 31, 32, 33, 34, 35, 36, 37, 38, 39, 40, 41, 42] (by decide +kernel) (by decide +kernel)
set_option maxRecDepth 20000 in
theorem gX10_key_X10_fruitsOf : GoodIn wsX10_key (wsV RX10 187 RX10 yX10_fruitsOf wsX10_fruitsOf) := goodIn_app (goodIn_of _ (by decide +kernel)) ggX10_key_X10_fruitsOf
set_option maxRecDepth 20000 in
theorem ggX10_key_X10_bits : GoodIn wsX10_key wsX10_bits := goodIn_r _ [17] (by decide +kernel) (by decide +kernel)
set_option maxRecDepth 20000 in
theorem gX10_key_X10_bits : GoodIn wsX10_key (va_wsS RX10 150 yX10_bits wsX10_bits) := goodIn_app (goodIn_of _ (by decide +kernel)) ggX10_key_X10_bits
set_option maxRecDepth 20000 in
theorem ggX10_twins_X10_isIn : GoodIn wsX10_twins wsX10_isIn := goodIn_r _ [7] (by decide +kernel) (by decide +kernel)
set_option maxRecDepth 20000 in
theorem gX10_twins_X10_isIn : GoodIn wsX10_twins (va_wsS RX10 74 yX10_isIn wsX10_isIn) := goodIn_app (goodIn_of _ (by decide +kernel)) ggX10_twins_X10_isIn
set_option maxRecDepth 20000 in
theorem ggX10_twins_X10_no : GoodIn wsX10_twins wsX10_no := goodIn_r _ [11, 12, 13, 14, 15, 16, 17, 18, 19, 20, 21, 22, 23, 24, 25, 26, 27, 28, 29, 30, 31, 32, 33, 34, 35, 36, 37] (by decide +kernel) (by decide +kernel)
set_option maxRecDepth 20000 in
theorem gX10_twins_X10_no : GoodIn wsX10_twins (wsV RX10 63 RX10 yX10_no wsX10_no) := goodIn_app (goodIn_of _ (by decide +kernel)) ggX10_twins_X10_no
set_option maxRecDepth 20000 in
theorem ggX10_two_X10_isThing : GoodIn wsX10_two wsX10_isThing := goodIn_r _ [6, 7, 83, 84, 85, 86, 87, 88, 89, 90, 91, 92, 93, 94, 95, 96, 97, 98, 99, 100, 101, 102, 103, 104, 105, 106, 107] (by decide +kernel) (by decide +kernel)
set_option maxRecDepth 20000 in
theorem gX10_two_X10_isThing : GoodIn wsX10_two (wsV RX10 100 RX10 yX10_isThing wsX10_isThing) := goodIn_app (goodIn_of _ (by decide +kernel)) ggX10_two_X10_isThing
set_option maxRecDepth 20000 in
theorem ggX10_two_X10_bound : GoodIn wsX10_two wsX10_bound := goodIn_r _ [10] (by decide +kernel) (by decide +kernel)
set_option maxRecDepth 20000 in
theorem gX10_two_X10_bound : GoodIn wsX10_two (va_wsS RX10 56 yX10_bound wsX10_bound) := goodIn_app (goodIn_of _ (by decide +kernel)) ggX10_two_X10_bound
set_option maxRecDepth 20000 in
theorem ggX10_two_X10_nails : GoodIn wsX10_two wsX10_nails := goodIn_r _ [14, 7, 15, 83, 84, 85, 86, 87, 88, 89, 90, 91, 92, 93, 94, 95, 96, 97, 98, 99, 100, 101, 102, 103, 104, 105, 106, 107] (by decide +kernel) (by decide +kernel)
set_option maxRecDepth 20000 in
theorem gX10_two_X10_nails : GoodIn wsX10_two (wsV RX10 199 RX10 yX10_nails wsX10_nails) := goodIn_app (goodIn_of _ (by decide +kernel)) ggX10_two_X10_nails
set_option maxRecDepth 20000 in
theorem ggX10_two_X10_bare : GoodIn wsX10_two wsX10_bare := goodIn_r _ [19, 20, 21, 22, 23, 24, 5, 25, 7, 83, 84, 85, 86, 87, 88, 89, 90, 91, 92, 93, 94, 95, 96, 97, 98, 99, 100, 101, 102, 103, 104, 105, 106, 107] (by decide +kernel) (by decide +kernel)
set_option maxRecDepth 20000 in
theorem gX10_two_X10_bare : GoodIn wsX10_two (wsV RX10 193 RX10 yX10_bare wsX10_bare) := goodIn_app (goodIn_of _ (by decide +kernel)) ggX10_two_X10_bare
set_option maxRecDepth 20000 in
theorem ggX10_two_X10_has : GoodIn wsX10_two wsX10_has := goodIn_r _ [28] (by decide +kernel) (by decide +kernel)
set_option maxRecDepth 20000 in
theorem gX10_two_X10_has : GoodIn wsX10_two (va_wsS RX10 52 yX10_has wsX10_has) := goodIn_app (goodIn_of _ (by decide +kernel)) ggX10_two_X10_has
set_option maxRecDepth 20000 in
theorem ggX10_two_X10_no : GoodIn wsX10_two wsX10_no := goodIn_r _ [32, 33, 83, 84, 85, 86, 87, 88, 89, 90, 91, 92, 93, 94, 95, 96, 97, 98, 99, 100, 101, 102, 103, 104, 105, 106, 107] (by decide +kernel) (by decide +kernel)
set_option maxRecDepth 20000 in
theorem gX10_two_X10_no : GoodIn wsX10_two (wsV RX10 63 RX10 yX10_no wsX10_no) := goodIn_app (goodIn_of _ (by decide +kernel)) ggX10_two_X10_no
set_option maxRecDepth 20000 in
theorem ggX10_two_X10_lostWith : GoodIn wsX10_two wsX10_lostWith := goodIn_r _ [37, 20, 38, 39, 40, 5, 41, 42, 43, 44, 45, 46, 47, 48, 49, 50, 51, 52, 53, 15, 7, 54, 21, 55, 56, 57, 58, 59, 60, 61, 62, 63, 64, 65, 66, 67, 68, 69, 70, 71, 26, 27, 28, 72, 73, 74, 75, 76, 77, 78, 79, 80, 81, 82, 83, 84, 85, 86, 87, 88, 89, 90, 91, 92, 93, 94, 95, 96, 97, 98, 99, 100, 101, 102, 103, 104, 105, 106, 107] (by decide +kernel) (by decide +kernel)
set_option maxRecDepth 20000 in
theorem gX10_two_X10_lostWith : GoodIn wsX10_two (wsV RX10 205 RX10 yX10_lostWith wsX10_lostWith) := goodIn_app (goodIn_of _ (by decide +kernel)) ggX10_two_X10_lostWith
set_option maxRecDepth 20000 in
theorem ggX10_two_X10_bits : GoodIn wsX10_two wsX10_bits := goodIn_r _ [74] (by decide +kernel) (by decide +kernel)
set_option maxRecDepth 20000 in
theorem gX10_two_X10_bits : GoodIn wsX10_two (va_wsS RX10 150 yX10_bits wsX10_bits) := goodIn_app (goodIn_of _ (by decide +kernel)) ggX10_two_X10_bits
set_option maxRecDepth 20000 in
theorem ggX10_boys_X10_isThing : GoodIn wsX10_boys wsX10_isThing := goodIn_r _ [6, 7, 65, 66, 67, 68, 69, 70, 71, 72, 73, 74, 75, 76, 77, 78, 79, 80, 81, 82, 83, 84, 85, 86, 87, 88, 89] (by decide +kernel) (by decide +kernel)
set_option maxRecDepth 20000 in
theorem gX10_boys_X10_isThing : GoodIn wsX10_boys (wsV RX10 100 RX10 yX10_isThing wsX10_isThing) := goodIn_app (goodIn_of _ (by decide +kernel)) ggX10_boys_X10_isThing
set_option maxRecDepth 20000 in
theorem ggX10_boys_X10_isIn : GoodIn wsX10_boys wsX10_isIn := goodIn_r _ [10] (by decide +kernel) (by decide +kernel)
set_option maxRecDepth 20000 in
theorem gX10_boys_X10_isIn : GoodIn wsX10_boys (va_wsS RX10 74 yX10_isIn wsX10_isIn) := goodIn_app (goodIn_of _ (by decide +kernel)) ggX10_boys_X10_isIn
set_option maxRecDepth 20000 in
theorem ggX10_boys_X10_lowestOf : GoodIn wsX10_boys wsX10_lowestOf := goodIn_r _ [14, 15, 16, 65, 66, 67, 68, 69, 70, 71, 72, 73, 74, 75, 76, 77, 78, 79, 80, 81, 82, 83, 84, 85, 86, 87, 88, 89] (by decide +kernel) (by decide +kernel)
set_option maxRecDepth 20000 in
theorem gX10_boys_X10_lowestOf : GoodIn wsX10_boys (wsV RX10 218 RX10 yX10_lowestOf wsX10_lowestOf) := goodIn_app (goodIn_of _ (by decide +kernel)) ggX10_boys_X10_lowestOf
set_option maxRecDepth 20000 in
theorem ggX10_boys_X10_thinks : GoodIn wsX10_boys wsX10_thinks := goodIn_r _ [20, 21, 22, 23, 5, 24, 25, 26, 27, 28, 29, 7, 30, 1, 31, 32, 33, 34, 35, 36, 37, 38, 39, 40, 65, 66, 67, 68, 69, 70, 71, 72, 73, 74, 75, 76, 77, 78, 79, 80, 81, 82, 83, 84, 85, 86, 87, 88, 89] (by decide +kernel) (by decide +kernel)
set_option maxRecDepth 20000 in
theorem gX10_boys_X10_thinks : GoodIn wsX10_boys (wsV RX10 159 RX10 yX10_thinks wsX10_thinks) := goodIn_app (goodIn_of _ (by decide +kernel)) ggX10_boys_X10_thinks
set_option maxRecDepth 20000 in
theorem ggX10_boys_X10_has : GoodIn wsX10_boys wsX10_has := goodIn_r _ [43] (by decide +kernel) (by decide +kernel)
set_option maxRecDepth 20000 in
theorem gX10_boys_X10_has : GoodIn wsX10_boys (va_wsS RX10 52 yX10_has wsX10_has) := goodIn_app (goodIn_of _ (by decide +kernel)) ggX10_boys_X10_has
set_option maxRecDepth 20000 in
theorem ggX10_boys_X10_goesDay : GoodIn wsX10_boys wsX10_goesDay := goodIn_r _ [47, 30, 7, 1, 31, 29, 41, 42, 5, 43, 48, 49, 50, 51, 52, 53, 54, 27, 28, 65, 66, 67, 68, 69, 70, 71, 72, 73, 74, 75, 76, 77, 78, 79, 80, 81, 82, 83, 84, 85, 86, 87, 88, 89] (by decide +kernel) (by decide +kernel)
set_option maxRecDepth 20000 in
theorem gX10_boys_X10_goesDay : GoodIn wsX10_boys (wsV RX10 156 RX10 yX10_goesDay wsX10_goesDay) := goodIn_app (goodIn_of _ (by decide +kernel)) ggX10_boys_X10_goesDay
set_option maxRecDepth 20000 in
theorem ggX10_boys_X10_forgets : GoodIn wsX10_boys wsX10_forgets := goodIn_r _ [58, 21, 22, 23, 5, 24, 25, 26, 27, 28, 29, 7, 30, 1, 31, 32, 33, 34, 35, 36, 37, 38, 39, 40, 65, 66, 67, 68, 69, 70, 71, 72, 73, 74, 75, 76, 77, 78, 79, 80, 81, 82, 83, 84, 85, 86, 87, 88, 89] (by decide +kernel) (by decide +kernel)
set_option maxRecDepth 20000 in
theorem gX10_boys_X10_forgets : GoodIn wsX10_boys (wsV RX10 162 RX10 yX10_forgets wsX10_forgets) := goodIn_app (goodIn_of _ (by decide +kernel)) ggX10_boys_X10_forgets
set_option maxRecDepth 20000 in
theorem ggX10_boys_X10_partOf : GoodIn wsX10_boys wsX10_partOf := goodIn_r _ [61, 62, 63, 5, 64] (by decide +kernel) (by decide +kernel)
set_option maxRecDepth 20000 in
theorem gX10_boys_X10_partOf : GoodIn wsX10_boys (va_wsS RX10 226 yX10_partOf wsX10_partOf) := goodIn_app (goodIn_of _ (by decide +kernel)) ggX10_boys_X10_partOf
set_option maxRecDepth 20000 in
theorem ggX10_allCauses_X10_bits : GoodIn wsX10_allCauses wsX10_bits := goodIn_r _ [6] (by decide +kernel) (by decide +kernel)
set_option maxRecDepth 20000 in
theorem gX10_allCauses_X10_bits : GoodIn wsX10_allCauses (va_wsS RX10 150 yX10_bits wsX10_bits) := goodIn_app (goodIn_of _ (by decide +kernel)) ggX10_allCauses_X10_bits
set_option maxRecDepth 20000 in
theorem ggX10_mean_X10_isIn : GoodIn wsX10_mean wsX10_isIn := goodIn_r _ [5] (by decide +kernel) (by decide +kernel)
set_option maxRecDepth 20000 in
theorem gX10_mean_X10_isIn : GoodIn wsX10_mean (va_wsS RX10 74 yX10_isIn wsX10_isIn) := goodIn_app (goodIn_of _ (by decide +kernel)) ggX10_mean_X10_isIn
set_option maxRecDepth 20000 in
theorem ggX10_mean_X10_lowestOf : GoodIn wsX10_mean wsX10_lowestOf := goodIn_r _ [9, 10, 11, 26, 27, 28, 29, 30, 31, 32, 33, 34, 35, 36, 37, 38, 39, 40, 41, 42, 43, 44, 45, 46, 47, 48, 49, 50] (by decide +kernel) (by decide +kernel)
set_option maxRecDepth 20000 in
theorem gX10_mean_X10_lowestOf : GoodIn wsX10_mean (wsV RX10 218 RX10 yX10_lowestOf wsX10_lowestOf) := goodIn_app (goodIn_of _ (by decide +kernel)) ggX10_mean_X10_lowestOf
set_option maxRecDepth 20000 in
theorem ggX10_mean_X10_allCauses : GoodIn wsX10_mean wsX10_allCauses := goodIn_r _ [15, 1, 16, 17, 18, 4, 19, 26, 27, 28, 29, 30, 31, 32, 33, 34, 35, 36, 37, 38, 39, 40, 41, 42, 43, 44, 45, 46, 47, 48, 49, 50] (by decide +kernel) (by decide +kernel)
set_option maxRecDepth 20000 in
theorem gX10_mean_X10_allCauses : GoodIn wsX10_mean (wsV RX10 230 RX10 yX10_allCauses wsX10_allCauses) := goodIn_app (goodIn_of _ (by decide +kernel)) ggX10_mean_X10_allCauses
set_option maxRecDepth 20000 in
theorem ggX10_mean_X10_partOf : GoodIn wsX10_mean wsX10_partOf := goodIn_r _ [22, 23, 24, 4, 25] (by decide +kernel) (by decide +kernel)
set_option maxRecDepth 20000 in
theorem gX10_mean_X10_partOf : GoodIn wsX10_mean (va_wsS RX10 226 yX10_partOf wsX10_partOf) := goodIn_app (goodIn_of _ (by decide +kernel)) ggX10_mean_X10_partOf
set_option maxRecDepth 20000 in
theorem ggX10_isSo_X10_thinks : GoodIn wsX10_isSo wsX10_thinks := goodIn_r _ [8, 9, 10, 11, 7, 12, 13, 14, 15, 16, 17, 18, 19, 2, 20, 21, 22, 23, 24, 25, 26, 27, 28, 29, 48, 49, 50, 51, 52, 53, 54, 55, 56, 57, 58, 59, 60, 61, 62, 63, 64, 65, 66, 67, 68, 69, 70, 71, 72] (by decide +kernel) (by decide +kernel)
set_option maxRecDepth 20000 in
theorem gX10_isSo_X10_thinks : GoodIn wsX10_isSo (wsV RX10 159 RX10 yX10_thinks wsX10_thinks) := goodIn_app (goodIn_of _ (by decide +kernel)) ggX10_isSo_X10_thinks
set_option maxRecDepth 20000 in
theorem ggX10_isSo_X10_bits : GoodIn wsX10_isSo wsX10_bits := goodIn_r _ [32] (by decide +kernel) (by decide +kernel)
set_option maxRecDepth 20000 in
theorem gX10_isSo_X10_bits : GoodIn wsX10_isSo (va_wsS RX10 150 yX10_bits wsX10_bits) := goodIn_app (goodIn_of _ (by decide +kernel)) ggX10_isSo_X10_bits
set_option maxRecDepth 20000 in
theorem ggX10_isSo_X10_goesDay : GoodIn wsX10_isSo wsX10_goesDay := goodIn_r _ [36, 19, 18, 2, 20, 17, 37, 38, 7, 39, 30, 31, 32, 40, 41, 42, 43, 15, 16, 48, 49, 50, 51, 52, 53, 54, 55, 56, 57, 58, 59, 60, 61, 62, 63, 64, 65, 66, 67, 68, 69, 70, 71, 72] (by decide +kernel) (by decide +kernel)
set_option maxRecDepth 20000 in
theorem gX10_isSo_X10_goesDay : GoodIn wsX10_isSo (wsV RX10 156 RX10 yX10_goesDay wsX10_goesDay) := goodIn_app (goodIn_of _ (by decide +kernel)) ggX10_isSo_X10_goesDay
set_option maxRecDepth 20000 in
theorem ggX10_isSo_X10_forgets : GoodIn wsX10_isSo wsX10_forgets := goodIn_r _ [47, 9, 10, 11, 7, 12, 13, 14, 15, 16, 17, 18, 19, 2, 20, 21, 22, 23, 24, 25, 26, 27, 28, 29, 48, 49, 50, 51, 52, 53, 54, 55, 56, 57, 58, 59, 60, 61, 62, 63, 64, 65, 66, 67, 68, 69, 70, 71, 72] (by decide +kernel) (by decide +kernel)
set_option maxRecDepth 20000 in
theorem gX10_isSo_X10_forgets : GoodIn wsX10_isSo (wsV RX10 162 RX10 yX10_forgets wsX10_forgets) := goodIn_app (goodIn_of _ (by decide +kernel)) ggX10_isSo_X10_forgets
set_option maxRecDepth 20000 in
theorem ggX10_bitsFor_X10_isSo : GoodIn wsX10_bitsFor wsX10_isSo := goodIn_r _ [5, 6, 7, 8, 9, 10, 11, 4, 12, 13, 14, 15, 16, 17, 18, 19, 20, 21, 22, 23, 24, 25, 26, 27, 28, 29, 30, 31, 32, 33, 34, 35, 36, 37, 38, 39, 40, 41, 42, 43, 44, 45, 46, 47, 48, 49, 50, 51, 52, 53, 54, 55, 56, 57, 58, 59, 60, 61, 62, 63, 64, 65, 66, 67, 68, 69, 70, 71, 72, 73, 74, 75, 76] (by decide +kernel) (by decide +kernel)
set_option maxRecDepth 20000 in
theorem gX10_bitsFor_X10_isSo : GoodIn wsX10_bitsFor (wsV RX10 236 RX10 yX10_isSo wsX10_isSo) := goodIn_app (goodIn_of _ (by decide +kernel)) ggX10_bitsFor_X10_isSo
set_option maxRecDepth 20000 in
theorem ggX10_whatWas_X10_isThing : GoodIn wsX10_whatWas wsX10_isThing := goodIn_r _ [7, 8, 68, 69, 70, 71, 72, 73, 74, 75, 76, 77, 78, 79, 80, 81, 82, 83, 84, 85, 86, 87, 88, 89, 90, 91, 92] (by decide +kernel) (by decide +kernel)
set_option maxRecDepth 20000 in
theorem gX10_whatWas_X10_isThing : GoodIn wsX10_whatWas (wsV RX10 100 RX10 yX10_isThing wsX10_isThing) := goodIn_app (goodIn_of _ (by decide +kernel)) ggX10_whatWas_X10_isThing
set_option maxRecDepth 20000 in
theorem ggX10_whatWas_X10_isIn : GoodIn wsX10_whatWas wsX10_isIn := goodIn_r _ [11] (by decide +kernel) (by decide +kernel)
set_option maxRecDepth 20000 in
theorem gX10_whatWas_X10_isIn : GoodIn wsX10_whatWas (va_wsS RX10 74 yX10_isIn wsX10_isIn) := goodIn_app (goodIn_of _ (by decide +kernel)) ggX10_whatWas_X10_isIn
set_option maxRecDepth 20000 in
theorem ggX10_whatWas_X10_no : GoodIn wsX10_whatWas wsX10_no := goodIn_r _ [15, 16, 68, 69, 70, 71, 72, 73, 74, 75, 76, 77, 78, 79, 80, 81, 82, 83, 84, 85, 86, 87, 88, 89, 90, 91, 92] (by decide +kernel) (by decide +kernel)
set_option maxRecDepth 20000 in
theorem gX10_whatWas_X10_no : GoodIn wsX10_whatWas (wsV RX10 63 RX10 yX10_no wsX10_no) := goodIn_app (goodIn_of _ (by decide +kernel)) ggX10_whatWas_X10_no
set_option maxRecDepth 20000 in
theorem ggX10_whatWas_X10_bitsFor : GoodIn wsX10_whatWas wsX10_bitsFor := goodIn_r _ [20, 21, 22, 23, 6, 24, 25, 26, 27, 28, 29, 30, 31, 32, 33, 34, 35, 36, 37, 1, 2, 38, 8, 39, 40, 41, 42, 43, 44, 45, 46, 47, 48, 49, 50, 51, 52, 53, 54, 55, 56, 57, 58, 59, 60, 61, 62, 63, 64, 65, 66, 67, 68, 69, 70, 71, 72, 73, 74, 75, 76, 77, 78, 79, 80, 81, 82, 83, 84, 85, 86, 87, 88, 89, 90, 91, 92] (by decide +kernel) (by decide +kernel)
set_option maxRecDepth 20000 in
theorem gX10_whatWas_X10_bitsFor : GoodIn wsX10_whatWas (wsV RX10 239 RX10 yX10_bitsFor wsX10_bitsFor) := goodIn_app (goodIn_of _ (by decide +kernel)) ggX10_whatWas_X10_bitsFor
set_option maxRecDepth 20000 in
theorem ggX10_row_X10_bound : GoodIn wsX10_row wsX10_bound := goodIn_r _ [6] (by decide +kernel) (by decide +kernel)
set_option maxRecDepth 20000 in
theorem gX10_row_X10_bound : GoodIn wsX10_row (va_wsS RX10 56 yX10_bound wsX10_bound) := goodIn_app (goodIn_of _ (by decide +kernel)) ggX10_row_X10_bound
set_option maxRecDepth 20000 in
theorem ggX10_row_X10_no : GoodIn wsX10_row wsX10_no := goodIn_r _ [10, 11, 12, 13, 14, 15, 16, 17, 18, 19, 20, 21, 22, 23, 24, 25, 26, 27, 28, 29, 30, 31, 32, 33, 34, 35, 36] (by decide +kernel) (by decide +kernel)
set_option maxRecDepth 20000 in
theorem gX10_row_X10_no : GoodIn wsX10_row (wsV RX10 63 RX10 yX10_no wsX10_no) := goodIn_app (goodIn_of _ (by decide +kernel)) ggX10_row_X10_no
set_option maxRecDepth 20000 in
theorem ggX10_isTold_X10_lostWhen : GoodIn wsX10_isTold wsX10_lostWhen := goodIn_r _ [5, 6, 7, 8, 9, 4, 10, 11, 12, 13, 14, 15, 16, 17, 18, 19, 20, 21, 22, 23, 24, 25, 26, 27, 28, 29, 30, 31, 32, 33, 34, 35, 36, 37, 38, 39, 40, 41, 42, 43, 44, 45, 46, 47, 48, 49, 50, 51, 52, 53, 54, 55, 56, 57, 58, 59, 60, 61, 62, 63, 64, 65, 66, 67, 68, 69, 70, 71, 72, 73, 74] (by decide +kernel) (by decide +kernel)
set_option maxRecDepth 20000 in
theorem gX10_isTold_X10_lostWhen : GoodIn wsX10_isTold (wsV RX10 171 RX10 yX10_lostWhen wsX10_lostWhen) := goodIn_app (goodIn_of _ (by decide +kernel)) ggX10_isTold_X10_lostWhen
set_option maxRecDepth 20000 in
theorem ggX10_judge_X10_isTold : GoodIn wsX10_judge wsX10_isTold := goodIn_r _ [8, 9, 10, 11, 7, 12, 13, 14, 15, 16, 17, 18, 19, 20, 21, 22, 23, 24, 25, 26, 2, 27, 28, 29, 30, 31, 32, 33, 34, 35, 36, 37, 38, 39, 40, 41, 42, 43, 44, 45, 46, 47, 48, 49, 50, 51, 52, 53, 54, 55, 56, 57, 58, 59, 60, 61, 62, 63, 64, 65, 66, 67, 68, 69, 70, 71, 72, 73, 74, 75, 76, 77, 78, 79, 80] (by decide +kernel) (by decide +kernel)
set_option maxRecDepth 20000 in
theorem gX10_judge_X10_isTold : GoodIn wsX10_judge (wsV RX10 243 RX10 yX10_isTold wsX10_isTold) := goodIn_app (goodIn_of _ (by decide +kernel)) ggX10_judge_X10_isTold
set_option maxRecDepth 20000 in
theorem ggX10_lots_X10_bound : GoodIn wsX10_lots wsX10_bound := goodIn_r _ [8] (by decide +kernel) (by decide +kernel)
set_option maxRecDepth 20000 in
theorem gX10_lots_X10_bound : GoodIn wsX10_lots (va_wsS RX10 56 yX10_bound wsX10_bound) := goodIn_app (goodIn_of _ (by decide +kernel)) ggX10_lots_X10_bound
set_option maxRecDepth 20000 in
theorem ggX10_lots_X10_isIn : GoodIn wsX10_lots wsX10_isIn := goodIn_r _ [11] (by decide +kernel) (by decide +kernel)
set_option maxRecDepth 20000 in
theorem gX10_lots_X10_isIn : GoodIn wsX10_lots (va_wsS RX10 74 yX10_isIn wsX10_isIn) := goodIn_app (goodIn_of _ (by decide +kernel)) ggX10_lots_X10_isIn
set_option maxRecDepth 20000 in
theorem ggX10_lots_X10_no : GoodIn wsX10_lots wsX10_no := goodIn_r _ [15, 16, 69, 70, 71, 72, 73, 74, 75, 76, 77, 78, 79, 80, 81, 82, 83, 84, 85, 86, 87, 88, 89, 90, 91, 92, 93] (by decide +kernel) (by decide +kernel)
set_option maxRecDepth 20000 in
theorem gX10_lots_X10_no : GoodIn wsX10_lots (wsV RX10 63 RX10 yX10_no wsX10_no) := goodIn_app (goodIn_of _ (by decide +kernel)) ggX10_lots_X10_no
set_option maxRecDepth 20000 in
theorem ggX10_lots_X10_thinks : GoodIn wsX10_lots wsX10_thinks := goodIn_r _ [20, 21, 22, 23, 7, 24, 25, 26, 27, 28, 3, 1, 29, 4, 30, 31, 32, 33, 34, 35, 36, 37, 38, 39, 69, 70, 71, 72, 73, 74, 75, 76, 77, 78, 79, 80, 81, 82, 83, 84, 85, 86, 87, 88, 89, 90, 91, 92, 93] (by decide +kernel) (by decide +kernel)
set_option maxRecDepth 20000 in
theorem gX10_lots_X10_thinks : GoodIn wsX10_lots (wsV RX10 159 RX10 yX10_thinks wsX10_thinks) := goodIn_app (goodIn_of _ (by decide +kernel)) ggX10_lots_X10_thinks
set_option maxRecDepth 20000 in
theorem ggX10_lots_X10_draw : GoodIn wsX10_lots wsX10_draw := goodIn_r _ [43, 2, 44, 45, 46, 69, 70, 71, 72, 73, 74, 75, 76, 77, 78, 79, 80, 81, 82, 83, 84, 85, 86, 87, 88, 89, 90, 91, 92, 93] (by decide +kernel) (by decide +kernel)
set_option maxRecDepth 20000 in
theorem gX10_lots_X10_draw : GoodIn wsX10_lots (wsV RX10 252 RX10 yX10_draw wsX10_draw) := goodIn_app (goodIn_of _ (by decide +kernel)) ggX10_lots_X10_draw
set_option maxRecDepth 20000 in
theorem ggX10_lots_X10_goes : GoodIn wsX10_lots wsX10_goes := goodIn_r _ [50, 51, 52, 53, 7, 54, 29, 1, 4, 30, 3, 55, 56, 57, 58, 59, 60, 61, 62, 63, 64, 27, 28, 69, 70, 71, 72, 73, 74, 75, 76, 77, 78, 79, 80, 81, 82, 83, 84, 85, 86, 87, 88, 89, 90, 91, 92, 93] (by decide +kernel) (by decide +kernel)
set_option maxRecDepth 20000 in
theorem gX10_lots_X10_goes : GoodIn wsX10_lots (wsV RX10 106 RX10 yX10_goes wsX10_goes) := goodIn_app (goodIn_of _ (by decide +kernel)) ggX10_lots_X10_goes
set_option maxRecDepth 20000 in
theorem ggX10_lots_X10_bits : GoodIn wsX10_lots wsX10_bits := goodIn_r _ [60] (by decide +kernel) (by decide +kernel)
set_option maxRecDepth 20000 in
theorem gX10_lots_X10_bits : GoodIn wsX10_lots (va_wsS RX10 150 yX10_bits wsX10_bits) := goodIn_app (goodIn_of _ (by decide +kernel)) ggX10_lots_X10_bits
set_option maxRecDepth 20000 in
theorem ggX10_lots_X10_forgets : GoodIn wsX10_lots wsX10_forgets := goodIn_r _ [68, 21, 22, 23, 7, 24, 25, 26, 27, 28, 3, 1, 29, 4, 30, 31, 32, 33, 34, 35, 36, 37, 38, 39, 69, 70, 71, 72, 73, 74, 75, 76, 77, 78, 79, 80, 81, 82, 83, 84, 85, 86, 87, 88, 89, 90, 91, 92, 93] (by decide +kernel) (by decide +kernel)
set_option maxRecDepth 20000 in
theorem gX10_lots_X10_forgets : GoodIn wsX10_lots (wsV RX10 162 RX10 yX10_forgets wsX10_forgets) := goodIn_app (goodIn_of _ (by decide +kernel)) ggX10_lots_X10_forgets
set_option maxRecDepth 20000 in
theorem ggX10_count_X10_isIn : GoodIn wsX10_count wsX10_isIn := goodIn_r _ [11] (by decide +kernel) (by decide +kernel)
set_option maxRecDepth 20000 in
theorem gX10_count_X10_isIn : GoodIn wsX10_count (va_wsS RX10 74 yX10_isIn wsX10_isIn) := goodIn_app (goodIn_of _ (by decide +kernel)) ggX10_count_X10_isIn
set_option maxRecDepth 20000 in
theorem ggX10_count_X10_allCauses : GoodIn wsX10_count wsX10_allCauses := goodIn_r _ [15, 2, 16, 17, 18, 10, 19, 24, 25, 26, 27, 28, 29, 30, 31, 32, 33, 34, 35, 36, 37, 38, 39, 40, 41, 42, 43, 44, 45, 46, 47, 48] (by decide +kernel) (by decide +kernel)
set_option maxRecDepth 20000 in
theorem gX10_count_X10_allCauses : GoodIn wsX10_count (wsV RX10 230 RX10 yX10_allCauses wsX10_allCauses) := goodIn_app (goodIn_of _ (by decide +kernel)) ggX10_count_X10_allCauses
set_option maxRecDepth 20000 in
theorem ggX10_count_X10_nails : GoodIn wsX10_count wsX10_nails := goodIn_r _ [23, 2, 16, 24, 25, 26, 27, 28, 29, 30, 31, 32, 33, 34, 35, 36, 37, 38, 39, 40, 41, 42, 43, 44, 45, 46, 47, 48] (by decide +kernel) (by decide +kernel)
set_option maxRecDepth 20000 in
theorem gX10_count_X10_nails : GoodIn wsX10_count (wsV RX10 199 RX10 yX10_nails wsX10_nails) := goodIn_app (goodIn_of _ (by decide +kernel)) ggX10_count_X10_nails
set_option maxRecDepth 20000 in
theorem ggX10_count_X10_bits : GoodIn wsX10_count wsX10_bits := goodIn_r _ [19] (by decide +kernel) (by decide +kernel)
set_option maxRecDepth 20000 in
theorem gX10_count_X10_bits : GoodIn wsX10_count (va_wsS RX10 150 yX10_bits wsX10_bits) := goodIn_app (goodIn_of _ (by decide +kernel)) ggX10_count_X10_bits
set_option maxRecDepth 20000 in
theorem ggJ0_length_8abf5_J0_coder_7d493 : GoodIn wsJ0_length_8abf5 wsJ0_coder_7d493 := goodIn_r _ [6, 7, 8] (by decide +kernel) (by decide +kernel)
set_option maxRecDepth 20000 in
theorem gJ0_length_8abf5_J0_coder_7d493 : GoodIn wsJ0_length_8abf5 (wsV RJ0 335 RJ0 yJ0_coder_7d493 wsJ0_coder_7d493) := goodIn_app (goodIn_of _ (by decide +kernel)) ggJ0_length_8abf5_J0_coder_7d493
set_option maxRecDepth 20000 in
theorem ggJ0_indexOf_0f7a4_J0_indexOf_7cf53 : GoodIn wsJ0_indexOf_0f7a4 wsJ0_indexOf_7cf53 := goodIn_r _ [5, 6, 7, 8, 9, 4, 10, 11, 12, 13, 14, 15, 16, 17, 18, 19, 20, 21, 22, 23, 24, 25, 26, 27, 28, 29, 30, 31, 32, 33, 34, 35, 36, 37, 38, 39, 40, 41, 42, 43, 44, 45, 46, 47, 48, 49, 50, 51, 52, 53, 54, 55, 56, 57, 58, 59, 60, 61, 62, 63, 64, 65, 66, 67, 68, 69, 70, 71, 72, 73, 74, 75, 76, 77, 78, 79, 80, 81, 82, 83, 84, 85] (by decide +kernel) (by decide +kernel)
set_option maxRecDepth 20000 in
theorem gJ0_indexOf_0f7a4_J0_indexOf_7cf53 : GoodIn wsJ0_indexOf_0f7a4 (wsV RJ0 633 RJ0 yJ0_indexOf_7cf53 wsJ0_indexOf_7cf53) := goodIn_app (goodIn_of _ (by decide +kernel)) ggJ0_indexOf_0f7a4_J0_indexOf_7cf53
set_option maxRecDepth 20000 in
theorem ggJ0_indexOf_7cf53_J0_isLatin1_aae02 : GoodIn wsJ0_indexOf_7cf53 wsJ0_isLatin1_aae02 := goodIn_r _ [6, 7, 8] (by decide +kernel) (by decide +kernel)
set_option maxRecDepth 20000 in
theorem gJ0_indexOf_7cf53_J0_isLatin1_aae02 : GoodIn wsJ0_indexOf_7cf53 (wsV RJ0 492 RJ0 yJ0_isLatin1_aae02 wsJ0_isLatin1_aae02) := goodIn_app (goodIn_of _ (by decide +kernel)) ggJ0_indexOf_7cf53_J0_isLatin1_aae02
set_option maxRecDepth 20000 in
theorem ggJ0_indexOf_7cf53_J0_length_8abf5 : GoodIn wsJ0_indexOf_7cf53 wsJ0_length_8abf5 := goodIn_r _ [12, 1, 13, 14, 15, 5, 16, 7, 8] (by decide +kernel) (by decide +kernel)
set_option maxRecDepth 20000 in
theorem gJ0_indexOf_7cf53_J0_length_8abf5 : GoodIn wsJ0_indexOf_7cf53 (wsV RJ0 505 RJ0 yJ0_length_8abf5 wsJ0_length_8abf5) := goodIn_app (goodIn_of _ (by decide +kernel)) ggJ0_indexOf_7cf53_J0_length_8abf5
set_option maxRecDepth 20000 in
theorem ggJ0_indexOf_7cf53_J1_indexOf_4cfef : GoodIn wsJ0_indexOf_7cf53 wsJ1_indexOf_4cfef := goodIn_r _ [20, 21, 22, 23, 24, 25, 26, 27, 28, 29, 19, 30, 31, 32, 33] (by decide +kernel) (by decide +kernel)
set_option maxRecDepth 20000 in
theorem gJ0_indexOf_7cf53_J1_indexOf_4cfef : GoodIn wsJ0_indexOf_7cf53 (va_wsS RJ0 637 yJ1_indexOf_4cfef wsJ1_indexOf_4cfef) := goodIn_app (goodIn_of _ (by decide +kernel)) ggJ0_indexOf_7cf53_J1_indexOf_4cfef
set_option maxRecDepth 20000 in
theorem ggJ0_indexOf_7cf53_J2_indexOf_4cfef : GoodIn wsJ0_indexOf_7cf53 wsJ2_indexOf_4cfef := goodIn_r _ [37, 38, 22, 23, 24, 39, 26, 27, 40, 41, 42, 36, 43, 44, 45, 46, 47, 48, 49, 50, 51, 5, 52, 53, 54, 55, 56, 57, 58, 59, 60, 61, 62, 63, 64, 65, 66, 67, 68, 69, 70, 71, 72, 73, 74, 75, 76, 77, 78, 79, 80, 81] (by decide +kernel) (by decide +kernel)
set_option maxRecDepth 20000 in
theorem gJ0_indexOf_7cf53_J2_indexOf_4cfef : GoodIn wsJ0_indexOf_7cf53 (va_wsS RJ0 640 yJ2_indexOf_4cfef wsJ2_indexOf_4cfef) := goodIn_app (goodIn_of _ (by decide +kernel)) ggJ0_indexOf_7cf53_J2_indexOf_4cfef
set_option maxRecDepth 20000 in
theorem ggJ0_checkBoundsBeginEnd_23922_J3_checkFromToIndex_8c36e : GoodIn wsJ0_checkBoundsBeginEnd_23922 wsJ3_checkFromToIndex_8c36e := goodIn_r _ [5] (by decide +kernel) (by decide +kernel)
set_option maxRecDepth 20000 in
theorem gJ0_checkBoundsBeginEnd_23922_J3_checkFromToIndex_8c36e : GoodIn wsJ0_checkBoundsBeginEnd_23922 (va_wsS RJ0 1062 yJ3_checkFromToIndex_8c36e wsJ3_checkFromToIndex_8c36e) := goodIn_app (goodIn_of _ (by decide +kernel)) ggJ0_checkBoundsBeginEnd_23922_J3_checkFromToIndex_8c36e
set_option maxRecDepth 20000 in
theorem ggJ1_indexOf_4cfef_J1_canEncode_9a6ad : GoodIn wsJ1_indexOf_4cfef wsJ1_canEncode_9a6ad := goodIn_r _ [11] (by decide +kernel) (by decide +kernel)
set_option maxRecDepth 20000 in
theorem gJ1_indexOf_4cfef_J1_canEncode_9a6ad : GoodIn wsJ1_indexOf_4cfef (va_wsS RJ1 88 yJ1_canEncode_9a6ad wsJ1_canEncode_9a6ad) := goodIn_app (goodIn_of _ (by decide +kernel)) ggJ1_indexOf_4cfef_J1_canEncode_9a6ad
set_option maxRecDepth 20000 in
theorem ggJ1_indexOf_4cfef_J1_indexOfChar_4cfef : GoodIn wsJ1_indexOf_4cfef wsJ1_indexOfChar_4cfef := goodIn_r _ [14] (by decide +kernel) (by decide +kernel)
set_option maxRecDepth 20000 in
theorem gJ1_indexOf_4cfef_J1_indexOfChar_4cfef : GoodIn wsJ1_indexOf_4cfef (va_wsS RJ1 95 yJ1_indexOfChar_4cfef wsJ1_indexOfChar_4cfef) := goodIn_app (goodIn_of _ (by decide +kernel)) ggJ1_indexOf_4cfef_J1_indexOfChar_4cfef
set_option maxRecDepth 20000 in
theorem ggJ2_getChar_3b067_J2_length_9d52b : GoodIn wsJ2_getChar_3b067 wsJ2_length_9d52b := goodIn_r _ [7] (by decide +kernel) (by decide +kernel)
set_option maxRecDepth 20000 in
theorem gJ2_getChar_3b067_J2_length_9d52b : GoodIn wsJ2_getChar_3b067 (va_wsS RJ2 48 yJ2_length_9d52b wsJ2_length_9d52b) := goodIn_app (goodIn_of _ (by decide +kernel)) ggJ2_getChar_3b067_J2_length_9d52b
set_option maxRecDepth 20000 in
theorem ggJ2_indexOf_4cfef_J2_indexOfChar_4cfef : GoodIn wsJ2_indexOf_4cfef wsJ2_indexOfChar_4cfef := goodIn_r _ [12, 13, 14, 11, 15, 16, 17, 18, 19, 20, 21, 22, 23, 24, 25, 26, 27, 28, 29, 30, 31, 32, 33, 34, 35, 36] (by decide +kernel) (by decide +kernel)
set_option maxRecDepth 20000 in
theorem gJ2_indexOf_4cfef_J2_indexOfChar_4cfef : GoodIn wsJ2_indexOf_4cfef (va_wsS RJ2 228 yJ2_indexOfChar_4cfef wsJ2_indexOfChar_4cfef) := goodIn_app (goodIn_of _ (by decide +kernel)) ggJ2_indexOf_4cfef_J2_indexOfChar_4cfef
set_option maxRecDepth 20000 in
theorem ggJ2_indexOf_4cfef_J2_indexOfSupplementary_4cfef : GoodIn wsJ2_indexOf_4cfef wsJ2_indexOfSupplementary_4cfef := goodIn_r _ [39, 40, 41, 42, 43, 44, 45, 46, 47, 48, 49, 50, 51, 13, 14, 11, 15, 16, 17, 18, 19, 20, 21, 22, 23, 24, 25, 26, 27, 31, 32, 33, 34, 35, 36] (by decide +kernel) (by decide +kernel)
set_option maxRecDepth 20000 in
theorem gJ2_indexOf_4cfef_J2_indexOfSupplementary_4cfef : GoodIn wsJ2_indexOf_4cfef (va_wsS RJ2 232 yJ2_indexOfSupplementary_4cfef wsJ2_indexOfSupplementary_4cfef) := goodIn_app (goodIn_of _ (by decide +kernel)) ggJ2_indexOf_4cfef_J2_indexOfSupplementary_4cfef
set_option maxRecDepth 20000 in
theorem ggJ2_indexOfChar_4cfef_J2_checkBoundsBeginEnd_d044e : GoodIn wsJ2_indexOfChar_4cfef wsJ2_checkBoundsBeginEnd_d044e := goodIn_r _ [4, 5, 6, 3, 7, 8, 9, 10, 11, 12, 13, 14, 15, 16] (by decide +kernel) (by decide +kernel)
set_option maxRecDepth 20000 in
theorem gJ2_indexOfChar_4cfef_J2_checkBoundsBeginEnd_d044e : GoodIn wsJ2_indexOfChar_4cfef (va_wsS RJ2 96 yJ2_checkBoundsBeginEnd_d044e wsJ2_checkBoundsBeginEnd_d044e) := goodIn_app (goodIn_of _ (by decide +kernel)) ggJ2_indexOfChar_4cfef_J2_checkBoundsBeginEnd_d044e
set_option maxRecDepth 20000 in
theorem ggJ2_indexOfChar_4cfef_J2_indexOfCharUnsafe_4cfef : GoodIn wsJ2_indexOfChar_4cfef wsJ2_indexOfCharUnsafe_4cfef := goodIn_r _ [19, 20, 21, 3, 22, 23, 24, 25, 5, 6, 7] (by decide +kernel) (by decide +kernel)
set_option maxRecDepth 20000 in
theorem gJ2_indexOfChar_4cfef_J2_indexOfCharUnsafe_4cfef : GoodIn wsJ2_indexOfChar_4cfef (va_wsS RJ2 244 yJ2_indexOfCharUnsafe_4cfef wsJ2_indexOfCharUnsafe_4cfef) := goodIn_app (goodIn_of _ (by decide +kernel)) ggJ2_indexOfChar_4cfef_J2_indexOfCharUnsafe_4cfef
set_option maxRecDepth 20000 in
theorem ggJ2_indexOfCharUnsafe_4cfef_J2_getChar_3b067 : GoodIn wsJ2_indexOfCharUnsafe_4cfef wsJ2_getChar_3b067 := goodIn_r _ [4, 5, 6, 7, 8, 9, 3, 10] (by decide +kernel) (by decide +kernel)
set_option maxRecDepth 20000 in
theorem gJ2_indexOfCharUnsafe_4cfef_J2_getChar_3b067 : GoodIn wsJ2_indexOfCharUnsafe_4cfef (va_wsS RJ2 71 yJ2_getChar_3b067 wsJ2_getChar_3b067) := goodIn_app (goodIn_of _ (by decide +kernel)) ggJ2_indexOfCharUnsafe_4cfef_J2_getChar_3b067
set_option maxRecDepth 20000 in
theorem ggJ2_indexOfSupplementary_4cfef_J11_isValidCodePoint_9a6ad : GoodIn wsJ2_indexOfSupplementary_4cfef wsJ11_isValidCodePoint_9a6ad := goodIn_r _ [4] (by decide +kernel) (by decide +kernel)
set_option maxRecDepth 20000 in
theorem gJ2_indexOfSupplementary_4cfef_J11_isValidCodePoint_9a6ad : GoodIn wsJ2_indexOfSupplementary_4cfef (va_wsS RJ2 164 yJ11_isValidCodePoint_9a6ad wsJ11_isValidCodePoint_9a6ad) := goodIn_app (goodIn_of _ (by decide +kernel)) ggJ2_indexOfSupplementary_4cfef_J11_isValidCodePoint_9a6ad
set_option maxRecDepth 20000 in
theorem ggJ2_indexOfSupplementary_4cfef_J11_highSurrogate_5068e : GoodIn wsJ2_indexOfSupplementary_4cfef wsJ11_highSurrogate_5068e := goodIn_r _ [7, 8] (by decide +kernel) (by decide +kernel)
set_option maxRecDepth 20000 in
theorem gJ2_indexOfSupplementary_4cfef_J11_highSurrogate_5068e : GoodIn wsJ2_indexOfSupplementary_4cfef (va_wsS RJ2 157 yJ11_highSurrogate_5068e wsJ11_highSurrogate_5068e) := goodIn_app (goodIn_of _ (by decide +kernel)) ggJ2_indexOfSupplementary_4cfef_J11_highSurrogate_5068e
set_option maxRecDepth 20000 in
theorem ggJ2_indexOfSupplementary_4cfef_J11_lowSurrogate_5068e : GoodIn wsJ2_indexOfSupplementary_4cfef wsJ11_lowSurrogate_5068e := goodIn_r _ [11, 12] (by decide +kernel) (by decide +kernel)
set_option maxRecDepth 20000 in
theorem gJ2_indexOfSupplementary_4cfef_J11_lowSurrogate_5068e : GoodIn wsJ2_indexOfSupplementary_4cfef (va_wsS RJ2 161 yJ11_lowSurrogate_5068e wsJ11_lowSurrogate_5068e) := goodIn_app (goodIn_of _ (by decide +kernel)) ggJ2_indexOfSupplementary_4cfef_J11_lowSurrogate_5068e
set_option maxRecDepth 20000 in
theorem ggJ2_indexOfSupplementary_4cfef_J2_checkBoundsBeginEnd_d044e : GoodIn wsJ2_indexOfSupplementary_4cfef wsJ2_checkBoundsBeginEnd_d044e := goodIn_r _ [16, 17, 18, 15, 19, 20, 21, 22, 23, 24, 25, 26, 27, 28] (by decide +kernel) (by decide +kernel)
set_option maxRecDepth 20000 in
theorem gJ2_indexOfSupplementary_4cfef_J2_checkBoundsBeginEnd_d044e : GoodIn wsJ2_indexOfSupplementary_4cfef (va_wsS RJ2 96 yJ2_checkBoundsBeginEnd_d044e wsJ2_checkBoundsBeginEnd_d044e) := goodIn_app (goodIn_of _ (by decide +kernel)) ggJ2_indexOfSupplementary_4cfef_J2_checkBoundsBeginEnd_d044e
set_option maxRecDepth 20000 in
theorem ggJ2_indexOfSupplementary_4cfef_J2_getChar_3b067 : GoodIn wsJ2_indexOfSupplementary_4cfef wsJ2_getChar_3b067 := goodIn_r _ [31, 32, 33, 34, 17, 18, 15, 19] (by decide +kernel) (by decide +kernel)
set_option maxRecDepth 20000 in
theorem gJ2_indexOfSupplementary_4cfef_J2_getChar_3b067 : GoodIn wsJ2_indexOfSupplementary_4cfef (va_wsS RJ2 71 yJ2_getChar_3b067 wsJ2_getChar_3b067) := goodIn_app (goodIn_of _ (by decide +kernel)) ggJ2_indexOfSupplementary_4cfef_J2_getChar_3b067
set_option maxRecDepth 20000 in
theorem ggJ2_checkBoundsBeginEnd_d044e_J2_length_9d52b : GoodIn wsJ2_checkBoundsBeginEnd_d044e wsJ2_length_9d52b := goodIn_r _ [4] (by decide +kernel) (by decide +kernel)
set_option maxRecDepth 20000 in
theorem gJ2_checkBoundsBeginEnd_d044e_J2_length_9d52b : GoodIn wsJ2_checkBoundsBeginEnd_d044e (va_wsS RJ2 48 yJ2_length_9d52b wsJ2_length_9d52b) := goodIn_app (goodIn_of _ (by decide +kernel)) ggJ2_checkBoundsBeginEnd_d044e_J2_length_9d52b
set_option maxRecDepth 20000 in
theorem ggJ2_checkBoundsBeginEnd_d044e_J0_checkBoundsBeginEnd_23922 : GoodIn wsJ2_checkBoundsBeginEnd_d044e wsJ0_checkBoundsBeginEnd_23922 := goodIn_r _ [8, 9, 10, 11, 12, 13] (by decide +kernel) (by decide +kernel)
set_option maxRecDepth 20000 in
theorem gJ2_checkBoundsBeginEnd_d044e_J0_checkBoundsBeginEnd_23922 : GoodIn wsJ2_checkBoundsBeginEnd_d044e (va_wsS RJ2 241 yJ0_checkBoundsBeginEnd_23922 wsJ0_checkBoundsBeginEnd_23922) := goodIn_app (goodIn_of _ (by decide +kernel)) ggJ2_checkBoundsBeginEnd_d044e_J0_checkBoundsBeginEnd_23922

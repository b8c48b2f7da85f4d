set_option maxRecDepth 20000 in
theorem ggX10_passesAll_X10_passOne : GoodIn wsX10_passesAll wsX10_passOne := goodIn_r _ [19, 2, 15, 1, 20, 21, 22, 23, 24, 25, 26, 27, 28, 29, 30, 31, 32, 33, 34, 35, 36, 37, 38, 39, 40, 41, 42, 43, 44] (by decide +kernel) (by decide +kernel)
set_option maxRecDepth 20000 in
theorem gX10_passesAll_X10_passOne : GoodIn wsX10_passesAll (wsV RX10 144 RX10 yX10_passOne wsX10_passOne) := goodIn_app (goodIn_of _ (by decide +kernel)) ggX10_passesAll_X10_passOne
set_option maxRecDepth 20000 in
theorem ggX10_thinks_X10_passesAll : GoodIn wsX10_thinks wsX10_passesAll := goodIn_r _ [5, 6, 7, 8, 9, 10, 11, 12, 13, 14, 15, 16, 17, 4, 18, 19, 20, 21, 22, 23, 24, 25, 26, 27, 28, 29, 30, 31, 32, 33, 34, 35, 36, 37, 38, 39, 40, 41, 42, 43, 44, 45, 46, 47, 48] (by decide +kernel) (by decide +kernel)
set_option maxRecDepth 20000 in
theorem gX10_thinks_X10_passesAll : GoodIn wsX10_thinks (wsV RX10 126 RX10 yX10_passesAll wsX10_passesAll) := goodIn_app (goodIn_of _ (by decide +kernel)) ggX10_thinks_X10_passesAll
set_option maxRecDepth 20000 in
theorem ggX10_forgets_X10_passesAll : GoodIn wsX10_forgets wsX10_passesAll := goodIn_r _ [5, 6, 7, 8, 9, 10, 11, 12, 13, 14, 15, 16, 17, 4, 18, 19, 20, 21, 22, 23, 24, 25, 26, 27, 28, 29, 30, 31, 32, 33, 34, 35, 36, 37, 38, 39, 40, 41, 42, 43, 44, 45, 46, 47, 48] (by decide +kernel) (by decide +kernel)
set_option maxRecDepth 20000 in
theorem gX10_forgets_X10_passesAll : GoodIn wsX10_forgets (wsV RX10 126 RX10 yX10_passesAll wsX10_passesAll) := goodIn_app (goodIn_of _ (by decide +kernel)) ggX10_forgets_X10_passesAll
set_option maxRecDepth 20000 in
theorem ggX10_image_X10_passesAll : GoodIn wsX10_image wsX10_passesAll := goodIn_r _ [7, 8, 9, 10, 11, 12, 13, 2, 14, 15, 16, 17, 18, 6, 19, 20, 21, 22, 23, 24, 25, 26, 27, 28, 29, 30, 31, 32, 33, 34, 35, 36, 37, 38, 39, 40, 41, 42, 43, 44, 45, 46, 47, 48, 49] (by decide +kernel) (by decide +kernel)
set_option maxRecDepth 20000 in
theorem gX10_image_X10_passesAll : GoodIn wsX10_image (wsV RX10 126 RX10 yX10_passesAll wsX10_passesAll) := goodIn_app (goodIn_of _ (by decide +kernel)) ggX10_image_X10_passesAll
set_option maxRecDepth 20000 in
theorem ggX10_on_X10_no : GoodIn wsX10_on wsX10_no := goodIn_r _ [7, 8, 30, 31, 32, 33, 34, 35, 36, 37, 38, 39, 40, 41, 42, 43, 44, 45, 46, 47, 48, 49, 50, 51, 52, 53, 54] (by decide +kernel) (by decide +kernel)
set_option maxRecDepth 20000 in
theorem gX10_on_X10_no : GoodIn wsX10_on (wsV RX10 63 RX10 yX10_no wsX10_no) := goodIn_app (goodIn_of _ (by decide +kernel)) ggX10_on_X10_no
set_option maxRecDepth 20000 in
theorem ggX10_on_X10_passesAll : GoodIn wsX10_on wsX10_passesAll := goodIn_r _ [12, 13, 14, 15, 16, 17, 18, 2, 19, 20, 21, 22, 23, 6, 24, 25, 26, 27, 28, 29, 30, 31, 32, 33, 34, 35, 36, 37, 38, 39, 40, 41, 42, 43, 44, 45, 46, 47, 48, 49, 50, 51, 52, 53, 54] (by decide +kernel) (by decide +kernel)
set_option maxRecDepth 20000 in
theorem gX10_on_X10_passesAll : GoodIn wsX10_on (wsV RX10 126 RX10 yX10_passesAll wsX10_passesAll) := goodIn_app (goodIn_of _ (by decide +kernel)) ggX10_on_X10_passesAll
set_option maxRecDepth 20000 in
theorem ggX10_needs_X10_bits : GoodIn wsX10_needs wsX10_bits := goodIn_r _ [8] (by decide +kernel) (by decide +kernel)
set_option maxRecDepth 20000 in
theorem gX10_needs_X10_bits : GoodIn wsX10_needs (va_wsS RX10 150 yX10_bits wsX10_bits) := goodIn_app (goodIn_of _ (by decide +kernel)) ggX10_needs_X10_bits
set_option maxRecDepth 20000 in
theorem ggX10_goesDay_X10_has : GoodIn wsX10_goesDay wsX10_has := goodIn_r _ [9] (by decide +kernel) (by decide +kernel)
set_option maxRecDepth 20000 in
theorem gX10_goesDay_X10_has : GoodIn wsX10_goesDay (va_wsS RX10 52 yX10_has wsX10_has) := goodIn_app (goodIn_of _ (by decide +kernel)) ggX10_goesDay_X10_has
set_option maxRecDepth 20000 in
theorem ggX10_goesDay_X10_bits : GoodIn wsX10_goesDay wsX10_bits := goodIn_r _ [12] (by decide +kernel) (by decide +kernel)
set_option maxRecDepth 20000 in
theorem gX10_goesDay_X10_bits : GoodIn wsX10_goesDay (va_wsS RX10 150 yX10_bits wsX10_bits) := goodIn_app (goodIn_of _ (by decide +kernel)) ggX10_goesDay_X10_bits
set_option maxRecDepth 20000 in
theorem ggX10_goesDay_X10_needs : GoodIn wsX10_goesDay wsX10_needs := goodIn_r _ [16, 5, 17, 1, 18, 10, 11, 8, 12, 19, 20, 21, 22, 23, 24, 25, 26, 27, 28, 29, 30, 31, 32, 33, 34, 35, 36, 37, 38, 39, 40, 41, 42, 43] (by decide +kernel) (by decide +kernel)
set_option maxRecDepth 20000 in
theorem gX10_goesDay_X10_needs : GoodIn wsX10_goesDay (wsV RX10 153 RX10 yX10_needs wsX10_needs) := goodIn_app (goodIn_of _ (by decide +kernel)) ggX10_goesDay_X10_needs
set_option maxRecDepth 20000 in
theorem ggX10_goes_X10_goesDay : GoodIn wsX10_goes wsX10_goesDay := goodIn_r _ [5, 6, 7, 8, 9, 10, 11, 12, 4, 13, 14, 15, 16, 17, 18, 19, 20, 21, 22, 23, 24, 25, 26, 27, 28, 29, 30, 31, 32, 33, 34, 35, 36, 37, 38, 39, 40, 41, 42, 43, 44, 45, 46, 47] (by decide +kernel) (by decide +kernel)
set_option maxRecDepth 20000 in
theorem gX10_goes_X10_goesDay : GoodIn wsX10_goes (wsV RX10 156 RX10 yX10_goesDay wsX10_goesDay) := goodIn_app (goodIn_of _ (by decide +kernel)) ggX10_goes_X10_goesDay
set_option maxRecDepth 20000 in
theorem ggX10_lostIn_X10_thinks : GoodIn wsX10_lostIn wsX10_thinks := goodIn_r _ [6, 7, 8, 9, 5, 10, 11, 12, 13, 14, 15, 16, 17, 1, 18, 19, 20, 21, 22, 23, 24, 25, 26, 27, 50, 51, 52, 53, 54, 55, 56, 57, 58, 59, 60, 61, 62, 63, 64, 65, 66, 67, 68, 69, 70, 71, 72, 73, 74] (by decide +kernel) (by decide +kernel)
set_option maxRecDepth 20000 in
theorem gX10_lostIn_X10_thinks : GoodIn wsX10_lostIn (wsV RX10 159 RX10 yX10_thinks wsX10_thinks) := goodIn_app (goodIn_of _ (by decide +kernel)) ggX10_lostIn_X10_thinks
set_option maxRecDepth 20000 in
theorem ggX10_lostIn_X10_goes : GoodIn wsX10_lostIn wsX10_goes := goodIn_r _ [31, 32, 33, 34, 5, 35, 17, 16, 1, 18, 15, 36, 37, 38, 39, 40, 41, 42, 43, 44, 45, 13, 14, 50, 51, 52, 53, 54, 55, 56, 57, 58, 59, 60, 61, 62, 63, 64, 65, 66, 67, 68, 69, 70, 71, 72, 73, 74] (by decide +kernel) (by decide +kernel)
set_option maxRecDepth 20000 in
theorem gX10_lostIn_X10_goes : GoodIn wsX10_lostIn (wsV RX10 106 RX10 yX10_goes wsX10_goes) := goodIn_app (goodIn_of _ (by decide +kernel)) ggX10_lostIn_X10_goes
set_option maxRecDepth 20000 in
theorem ggX10_lostIn_X10_forgets : GoodIn wsX10_lostIn wsX10_forgets := goodIn_r _ [49, 7, 8, 9, 5, 10, 11, 12, 13, 14, 15, 16, 17, 1, 18, 19, 20, 21, 22, 23, 24, 25, 26, 27, 50, 51, 52, 53, 54, 55, 56, 57, 58, 59, 60, 61, 62, 63, 64, 65, 66, 67, 68, 69, 70, 71, 72, 73, 74] (by decide +kernel) (by decide +kernel)
set_option maxRecDepth 20000 in
theorem gX10_lostIn_X10_forgets : GoodIn wsX10_lostIn (wsV RX10 162 RX10 yX10_forgets wsX10_forgets) := goodIn_app (goodIn_of _ (by decide +kernel)) ggX10_lostIn_X10_forgets
set_option maxRecDepth 20000 in
theorem ggX10_lostWhen_X10_thinks : GoodIn wsX10_lostWhen wsX10_thinks := goodIn_r _ [6, 7, 8, 9, 5, 10, 11, 12, 13, 14, 15, 16, 17, 1, 18, 19, 20, 21, 22, 23, 24, 25, 26, 27, 46, 47, 48, 49, 50, 51, 52, 53, 54, 55, 56, 57, 58, 59, 60, 61, 62, 63, 64, 65, 66, 67, 68, 69, 70] (by decide +kernel) (by decide +kernel)
set_option maxRecDepth 20000 in
theorem gX10_lostWhen_X10_thinks : GoodIn wsX10_lostWhen (wsV RX10 159 RX10 yX10_thinks wsX10_thinks) := goodIn_app (goodIn_of _ (by decide +kernel)) ggX10_lostWhen_X10_thinks
set_option maxRecDepth 20000 in
theorem ggX10_lostWhen_X10_has : GoodIn wsX10_lostWhen wsX10_has := goodIn_r _ [30] (by decide +kernel) (by decide +kernel)
set_option maxRecDepth 20000 in
theorem gX10_lostWhen_X10_has : GoodIn wsX10_lostWhen (va_wsS RX10 52 yX10_has wsX10_has) := goodIn_app (goodIn_of _ (by decide +kernel)) ggX10_lostWhen_X10_has
set_option maxRecDepth 20000 in
theorem ggX10_lostWhen_X10_goesDay : GoodIn wsX10_lostWhen wsX10_goesDay := goodIn_r _ [34, 17, 16, 1, 18, 15, 28, 29, 5, 30, 35, 36, 37, 38, 39, 40, 41, 13, 14, 46, 47, 48, 49, 50, 51, 52, 53, 54, 55, 56, 57, 58, 59, 60, 61, 62, 63, 64, 65, 66, 67, 68, 69, 70] (by decide +kernel) (by decide +kernel)
set_option maxRecDepth 20000 in
theorem gX10_lostWhen_X10_goesDay : GoodIn wsX10_lostWhen (wsV RX10 156 RX10 yX10_goesDay wsX10_goesDay) := goodIn_app (goodIn_of _ (by decide +kernel)) ggX10_lostWhen_X10_goesDay
set_option maxRecDepth 20000 in
theorem ggX10_lostWhen_X10_forgets : GoodIn wsX10_lostWhen wsX10_forgets := goodIn_r _ [45, 7, 8, 9, 5, 10, 11, 12, 13, 14, 15, 16, 17, 1, 18, 19, 20, 21, 22, 23, 24, 25, 26, 27, 46, 47, 48, 49, 50, 51, 52, 53, 54, 55, 56, 57, 58, 59, 60, 61, 62, 63, 64, 65, 66, 67, 68, 69, 70] (by decide +kernel) (by decide +kernel)
set_option maxRecDepth 20000 in
theorem gX10_lostWhen_X10_forgets : GoodIn wsX10_lostWhen (wsV RX10 162 RX10 yX10_forgets wsX10_forgets) := goodIn_app (goodIn_of _ (by decide +kernel)) ggX10_lostWhen_X10_forgets
set_option maxRecDepth 20000 in
theorem ggX10_lostWith_X10_lostIn : GoodIn wsX10_lostWith wsX10_lostIn := goodIn_r _ [6, 1, 7, 8, 9, 5, 10, 11, 12, 13, 14, 15, 16, 17, 18, 19, 20, 21, 22, 23, 24, 25, 26, 27, 28, 29, 30, 31, 32, 33, 34, 35, 36, 37, 38, 39, 40, 41, 42, 43, 44, 45, 46, 47, 48, 49, 50, 51, 52, 53, 54, 55, 56, 57, 58, 59, 60, 61, 62, 63, 64, 65, 66, 67, 68, 69, 70, 71, 72, 73, 74, 75, 76, 77, 78] (by decide +kernel) (by decide +kernel)
set_option maxRecDepth 20000 in
theorem gX10_lostWith_X10_lostIn : GoodIn wsX10_lostWith (wsV RX10 165 RX10 yX10_lostIn wsX10_lostIn) := goodIn_app (goodIn_of _ (by decide +kernel)) ggX10_lostWith_X10_lostIn
set_option maxRecDepth 20000 in
theorem ggX10_depthOf_X10_has : GoodIn wsX10_depthOf wsX10_has := goodIn_r _ [7] (by decide +kernel) (by decide +kernel)
set_option maxRecDepth 20000 in
theorem gX10_depthOf_X10_has : GoodIn wsX10_depthOf (va_wsS RX10 52 yX10_has wsX10_has) := goodIn_app (goodIn_of _ (by decide +kernel)) ggX10_depthOf_X10_has
set_option maxRecDepth 20000 in
theorem ggX10_thing_X10_isThing : GoodIn wsX10_thing wsX10_isThing := goodIn_r _ [10, 11, 25, 26, 27, 28, 29, 30, 31, 32, 33, 34, 35, 36, 37, 38, 39, 40, 41, 42, 43, 44, 45, 46, 47, 48, 49] (by decide +kernel) (by decide +kernel)
set_option maxRecDepth 20000 in
theorem gX10_thing_X10_isThing : GoodIn wsX10_thing (wsV RX10 100 RX10 yX10_isThing wsX10_isThing) := goodIn_app (goodIn_of _ (by decide +kernel)) ggX10_thing_X10_isThing
set_option maxRecDepth 20000 in
theorem ggX10_thing_X10_no : GoodIn wsX10_thing wsX10_no := goodIn_r _ [15, 16, 25, 26, 27, 28, 29, 30, 31, 32, 33, 34, 35, 36, 37, 38, 39, 40, 41, 42, 43, 44, 45, 46, 47, 48, 49] (by decide +kernel) (by decide +kernel)
set_option maxRecDepth 20000 in
theorem gX10_thing_X10_no : GoodIn wsX10_thing (wsV RX10 63 RX10 yX10_no wsX10_no) := goodIn_app (goodIn_of _ (by decide +kernel)) ggX10_thing_X10_no
set_option maxRecDepth 20000 in
theorem ggX10_thing_X10_depthOf : GoodIn wsX10_thing wsX10_depthOf := goodIn_r _ [20, 11, 21, 3, 22, 23, 9, 24, 25, 26, 27, 28, 29, 30, 31, 32, 33, 34, 35, 36, 37, 38, 39, 40, 41, 42, 43, 44, 45, 46, 47, 48, 49] (by decide +kernel) (by decide +kernel)
set_option maxRecDepth 20000 in
theorem gX10_thing_X10_depthOf : GoodIn wsX10_thing (wsV RX10 168 RX10 yX10_depthOf wsX10_depthOf) := goodIn_app (goodIn_of _ (by decide +kernel)) ggX10_thing_X10_depthOf
set_option maxRecDepth 20000 in
theorem ggX10_causes_X10_isThing : GoodIn wsX10_causes wsX10_isThing := goodIn_r _ [6, 7, 13, 14, 15, 16, 17, 18, 19, 20, 21, 22, 23, 24, 25, 26, 27, 28, 29, 30, 31, 32, 33, 34, 35, 36, 37] (by decide +kernel) (by decide +kernel)
set_option maxRecDepth 20000 in
theorem gX10_causes_X10_isThing : GoodIn wsX10_causes (wsV RX10 100 RX10 yX10_isThing wsX10_isThing) := goodIn_app (goodIn_of _ (by decide +kernel)) ggX10_causes_X10_isThing
set_option maxRecDepth 20000 in
theorem ggX10_causes_X10_no : GoodIn wsX10_causes wsX10_no := goodIn_r _ [11, 12, 13, 14, 15, 16, 17, 18, 19, 20, 21, 22, 23, 24, 25, 26, 27, 28, 29, 30, 31, 32, 33, 34, 35, 36, 37] (by decide +kernel) (by decide +kernel)
set_option maxRecDepth 20000 in
theorem gX10_causes_X10_no : GoodIn wsX10_causes (wsV RX10 63 RX10 yX10_no wsX10_no) := goodIn_app (goodIn_of _ (by decide +kernel)) ggX10_causes_X10_no
set_option maxRecDepth 20000 in
theorem ggX10_loses_X10_isThing : GoodIn wsX10_loses wsX10_isThing := goodIn_r _ [7, 8, 20, 21, 22, 23, 24, 25, 26, 27, 28, 29, 30, 31, 32, 33, 34, 35, 36, 37, 38, 39, 40, 41, 42, 43, 44] (by decide +kernel) (by decide +kernel)
set_option maxRecDepth 20000 in
theorem gX10_loses_X10_isThing : GoodIn wsX10_loses (wsV RX10 100 RX10 yX10_isThing wsX10_isThing) := goodIn_app (goodIn_of _ (by decide +kernel)) ggX10_loses_X10_isThing
set_option maxRecDepth 20000 in
theorem ggX10_loses_X10_has : GoodIn wsX10_loses wsX10_has := goodIn_r _ [11] (by decide +kernel) (by decide +kernel)
set_option maxRecDepth 20000 in
theorem gX10_loses_X10_has : GoodIn wsX10_loses (va_wsS RX10 52 yX10_has wsX10_has) := goodIn_app (goodIn_of _ (by decide +kernel)) ggX10_loses_X10_has
set_option maxRecDepth 20000 in
theorem ggX10_loses_X10_no : GoodIn wsX10_loses wsX10_no := goodIn_r _ [15, 16, 20, 21, 22, 23, 24, 25, 26, 27, 28, 29, 30, 31, 32, 33, 34, 35, 36, 37, 38, 39, 40, 41, 42, 43, 44] (by decide +kernel) (by decide +kernel)
set_option maxRecDepth 20000 in
theorem gX10_loses_X10_no : GoodIn wsX10_loses (wsV RX10 63 RX10 yX10_no wsX10_no) := goodIn_app (goodIn_of _ (by decide +kernel)) ggX10_loses_X10_no
set_option maxRecDepth 20000 in
theorem ggX10_loses_X10_bits : GoodIn wsX10_loses wsX10_bits := goodIn_r _ [19] (by decide +kernel) (by decide +kernel)
set_option maxRecDepth 20000 in
theorem gX10_loses_X10_bits : GoodIn wsX10_loses (va_wsS RX10 150 yX10_bits wsX10_bits) := goodIn_app (goodIn_of _ (by decide +kernel)) ggX10_loses_X10_bits
set_option maxRecDepth 20000 in
theorem ggX10_mends_X10_isThing : GoodIn wsX10_mends wsX10_isThing := goodIn_r _ [6, 7, 19, 20, 21, 22, 23, 24, 25, 26, 27, 28, 29, 30, 31, 32, 33, 34, 35, 36, 37, 38, 39, 40, 41, 42, 43] (by decide +kernel) (by decide +kernel)
set_option maxRecDepth 20000 in
theorem gX10_mends_X10_isThing : GoodIn wsX10_mends (wsV RX10 100 RX10 yX10_isThing wsX10_isThing) := goodIn_app (goodIn_of _ (by decide +kernel)) ggX10_mends_X10_isThing
set_option maxRecDepth 20000 in
theorem ggX10_mends_X10_has : GoodIn wsX10_mends wsX10_has := goodIn_r _ [10] (by decide +kernel) (by decide +kernel)
set_option maxRecDepth 20000 in
theorem gX10_mends_X10_has : GoodIn wsX10_mends (va_wsS RX10 52 yX10_has wsX10_has) := goodIn_app (goodIn_of _ (by decide +kernel)) ggX10_mends_X10_has
set_option maxRecDepth 20000 in
theorem ggX10_mends_X10_no : GoodIn wsX10_mends wsX10_no := goodIn_r _ [14, 15, 19, 20, 21, 22, 23, 24, 25, 26, 27, 28, 29, 30, 31, 32, 33, 34, 35, 36, 37, 38, 39, 40, 41, 42, 43] (by decide +kernel) (by decide +kernel)
set_option maxRecDepth 20000 in
theorem gX10_mends_X10_no : GoodIn wsX10_mends (wsV RX10 63 RX10 yX10_no wsX10_no) := goodIn_app (goodIn_of _ (by decide +kernel)) ggX10_mends_X10_no
set_option maxRecDepth 20000 in
theorem ggX10_mends_X10_bits : GoodIn wsX10_mends wsX10_bits := goodIn_r _ [18] (by decide +kernel) (by decide +kernel)
set_option maxRecDepth 20000 in
theorem gX10_mends_X10_bits : GoodIn wsX10_mends (va_wsS RX10 150 yX10_bits wsX10_bits) := goodIn_app (goodIn_of _ (by decide +kernel)) ggX10_mends_X10_bits
set_option maxRecDepth 20000 in
theorem ggX10_guards_X10_isThing : GoodIn wsX10_guards wsX10_isThing := goodIn_r _ [6, 7, 13, 14, 15, 16, 17, 18, 19, 20, 21, 22, 23, 24, 25, 26, 27, 28, 29, 30, 31, 32, 33, 34, 35, 36, 37] (by decide +kernel) (by decide +kernel)
set_option maxRecDepth 20000 in
theorem gX10_guards_X10_isThing : GoodIn wsX10_guards (wsV RX10 100 RX10 yX10_isThing wsX10_isThing) := goodIn_app (goodIn_of _ (by decide +kernel)) ggX10_guards_X10_isThing
set_option maxRecDepth 20000 in
theorem ggX10_guards_X10_no : GoodIn wsX10_guards wsX10_no := goodIn_r _ [11, 12, 13, 14, 15, 16, 17, 18, 19, 20, 21, 22, 23, 24, 25, 26, 27, 28, 29, 30, 31, 32, 33, 34, 35, 36, 37] (by decide +kernel) (by decide +kernel)
set_option maxRecDepth 20000 in
theorem gX10_guards_X10_no : GoodIn wsX10_guards (wsV RX10 63 RX10 yX10_no wsX10_no) := goodIn_app (goodIn_of _ (by decide +kernel)) ggX10_guards_X10_no
set_option maxRecDepth 20000 in
theorem ggX10_turn_X10_isThing : GoodIn wsX10_turn wsX10_isThing := goodIn_r _ [7, 8, 20, 21, 22, 23, 24, 25, 26, 27, 28, 29, 30, 31, 32, 33, 34, 35, 36, 37, 38, 39, 40, 41, 42, 43, 44] (by decide +kernel) (by decide +kernel)
set_option maxRecDepth 20000 in
theorem gX10_turn_X10_isThing : GoodIn wsX10_turn (wsV RX10 100 RX10 yX10_isThing wsX10_isThing) := goodIn_app (goodIn_of _ (by decide +kernel)) ggX10_turn_X10_isThing
set_option maxRecDepth 20000 in
theorem ggX10_turn_X10_isIn : GoodIn wsX10_turn wsX10_isIn := goodIn_r _ [11] (by decide +kernel) (by decide +kernel)
set_option maxRecDepth 20000 in
theorem gX10_turn_X10_isIn : GoodIn wsX10_turn (va_wsS RX10 74 yX10_isIn wsX10_isIn) := goodIn_app (goodIn_of _ (by decide +kernel)) ggX10_turn_X10_isIn
set_option maxRecDepth 20000 in
theorem ggX10_turn_X10_bound : GoodIn wsX10_turn wsX10_bound := goodIn_r _ [14] (by decide +kernel) (by decide +kernel)
set_option maxRecDepth 20000 in
theorem gX10_turn_X10_bound : GoodIn wsX10_turn (va_wsS RX10 56 yX10_bound wsX10_bound) := goodIn_app (goodIn_of _ (by decide +kernel)) ggX10_turn_X10_bound
set_option maxRecDepth 20000 in
theorem ggX10_turn_X10_no : GoodIn wsX10_turn wsX10_no := goodIn_r _ [18, 19, 20, 21, 22, 23, 24, 25, 26, 27, 28, 29, 30, 31, 32, 33, 34, 35, 36, 37, 38, 39, 40, 41, 42, 43, 44] (by decide +kernel) (by decide +kernel)
set_option maxRecDepth 20000 in
theorem gX10_turn_X10_no : GoodIn wsX10_turn (wsV RX10 63 RX10 yX10_no wsX10_no) := goodIn_app (goodIn_of _ (by decide +kernel)) ggX10_turn_X10_no
set_option maxRecDepth 20000 in
theorem ggX10_days_X10_bound : GoodIn wsX10_days wsX10_bound := goodIn_r _ [6] (by decide +kernel) (by decide +kernel)
set_option maxRecDepth 20000 in
theorem gX10_days_X10_bound : GoodIn wsX10_days (va_wsS RX10 56 yX10_bound wsX10_bound) := goodIn_app (goodIn_of _ (by decide +kernel)) ggX10_days_X10_bound

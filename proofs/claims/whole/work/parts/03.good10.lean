set_option maxRecDepth 20000 in
theorem ggX10_saved_X10_lostIn : GoodIn wsX10_saved wsX10_lostIn := goodIn_r _ [19, 1, 20, 21, 22, 5, 23, 24, 25, 26, 27, 28, 29, 30, 31, 32, 7, 33, 34, 35, 36, 37, 38, 39, 40, 41, 42, 43, 44, 45, 46, 47, 48, 49, 50, 51, 52, 53, 54, 55, 56, 57, 58, 59, 60, 61, 62, 63, 64, 65, 66, 67, 68, 69, 70, 71, 72, 73, 74, 75, 76, 77, 78, 79, 80, 81, 82, 83, 84, 85, 86, 87, 88, 89, 90] (by decide +kernel) (by decide +kernel)
set_option maxRecDepth 20000 in
theorem gX10_saved_X10_lostIn : GoodIn wsX10_saved (wsV RX10 165 RX10 yX10_lostIn wsX10_lostIn) := goodIn_app (goodIn_of _ (by decide +kernel)) ggX10_saved_X10_lostIn
set_option maxRecDepth 20000 in
theorem ggX10_saved_X10_bits : GoodIn wsX10_saved wsX10_bits := goodIn_r _ [57] (by decide +kernel) (by decide +kernel)
set_option maxRecDepth 20000 in
theorem gX10_saved_X10_bits : GoodIn wsX10_saved (va_wsS RX10 150 yX10_bits wsX10_bits) := goodIn_app (goodIn_of _ (by decide +kernel)) ggX10_saved_X10_bits
set_option maxRecDepth 20000 in
theorem ggX10_hooks_X10_isIn : GoodIn wsX10_hooks wsX10_isIn := goodIn_r _ [5] (by decide +kernel) (by decide +kernel)
set_option maxRecDepth 20000 in
theorem gX10_hooks_X10_isIn : GoodIn wsX10_hooks (va_wsS RX10 74 yX10_isIn wsX10_isIn) := goodIn_app (goodIn_of _ (by decide +kernel)) ggX10_hooks_X10_isIn
set_option maxRecDepth 20000 in
theorem ggX10_hooks_X10_no : GoodIn wsX10_hooks wsX10_no := goodIn_r _ [9, 10, 66, 67, 68, 69, 70, 71, 72, 73, 74, 75, 76, 77, 78, 79, 80, 81, 82, 83, 84, 85, 86, 87, 88, 89, 90] (by decide +kernel) (by decide +kernel)
set_option maxRecDepth 20000 in
theorem gX10_hooks_X10_no : GoodIn wsX10_hooks (wsV RX10 63 RX10 yX10_no wsX10_no) := goodIn_app (goodIn_of _ (by decide +kernel)) ggX10_hooks_X10_no
set_option maxRecDepth 20000 in
theorem ggX10_hooks_X10_lostIn : GoodIn wsX10_hooks wsX10_lostIn := goodIn_r _ [14, 1, 15, 16, 17, 4, 18, 19, 20, 21, 22, 23, 24, 25, 26, 27, 28, 29, 30, 31, 32, 33, 34, 35, 36, 37, 38, 39, 40, 41, 42, 43, 44, 45, 46, 47, 48, 49, 50, 51, 52, 53, 54, 55, 56, 57, 58, 59, 60, 61, 66, 67, 68, 69, 70, 71, 72, 73, 74, 75, 76, 77, 78, 79, 80, 81, 82, 83, 84, 85, 86, 87, 88, 89, 90] (by decide +kernel) (by decide +kernel)
set_option maxRecDepth 20000 in
theorem gX10_hooks_X10_lostIn : GoodIn wsX10_hooks (wsV RX10 165 RX10 yX10_lostIn wsX10_lostIn) := goodIn_app (goodIn_of _ (by decide +kernel)) ggX10_hooks_X10_lostIn
set_option maxRecDepth 20000 in
theorem ggX10_hooks_X10_all : GoodIn wsX10_hooks wsX10_all := goodIn_r _ [65, 28, 66, 67, 68, 69, 70, 71, 72, 73, 74, 75, 76, 77, 78, 79, 80, 81, 82, 83, 84, 85, 86, 87, 88, 89, 90] (by decide +kernel) (by decide +kernel)
set_option maxRecDepth 20000 in
theorem gX10_hooks_X10_all : GoodIn wsX10_hooks (wsV RX10 190 RX10 yX10_all wsX10_all) := goodIn_app (goodIn_of _ (by decide +kernel)) ggX10_hooks_X10_all
set_option maxRecDepth 20000 in
theorem ggX10_key_X10_fruitsOf : GoodIn wsX10_key wsX10_fruitsOf := goodIn_r _ [6, 1, 7, 8, 9, 5, 10, 11, 12, 13, 14, 18, 19, 20, 21, 22, 23, 24, 25, 26, 27, 28, 29, 30, 31, 32, 33, 34, 35, 36, 37, 38, 39, 40, 41, 42] (by decide +kernel) (by decide +kernel)
set_option maxRecDepth 20000 in
theorem gX10_key_X10_fruitsOf : GoodIn wsX10_key (wsV RX10 187 RX10 yX10_fruitsOf wsX10_fruitsOf) := goodIn_app (goodIn_of _ (by decide +kernel)) ggX10_key_X10_fruitsOf
set_option maxRecDepth 20000 in
theorem ggX10_key_X10_bits : GoodIn wsX10_key wsX10_bits := goodIn_r _ [17] (by decide +kernel) (by decide +kernel)
set_option maxRecDepth 20000 in
theorem gX10_key_X10_bits : GoodIn wsX10_key (va_wsS RX10 150 yX10_bits wsX10_bits) := goodIn_app (goodIn_of _ (by decide +kernel)) ggX10_key_X10_bits
set_option maxRecDepth 20000 in
theorem ggX10_twins_X10_isIn : GoodIn wsX10_twins wsX10_isIn := goodIn_r _ [7] (by decide +kernel) (by decide +kernel)
set_option maxRecDepth 20000 in
theorem gX10_twins_X10_isIn : GoodIn wsX10_twins (va_wsS RX10 74 yX10_isIn wsX10_isIn) := goodIn_app (goodIn_of _ (by decide +kernel)) ggX10_twins_X10_isIn
set_option maxRecDepth 20000 in
theorem ggX10_twins_X10_no : GoodIn wsX10_twins wsX10_no := goodIn_r _ [11, 12, 13, 14, 15, 16, 17, 18, 19, 20, 21, 22, 23, 24, 25, 26, 27, 28, 29, 30, 31, 32, 33, 34, 35, 36, 37] (by decide +kernel) (by decide +kernel)
set_option maxRecDepth 20000 in
theorem gX10_twins_X10_no : GoodIn wsX10_twins (wsV RX10 63 RX10 yX10_no wsX10_no) := goodIn_app (goodIn_of _ (by decide +kernel)) ggX10_twins_X10_no
set_option maxRecDepth 20000 in
theorem ggX10_two_X10_isThing : GoodIn wsX10_two wsX10_isThing := goodIn_r _ [6, 7, 83, 84, 85, 86, 87, 88, 89, 90, 91, 92, 93, 94, 95, 96, 97, 98, 99, 100, 101, 102, 103, 104, 105, 106, 107] (by decide +kernel) (by decide +kernel)
set_option maxRecDepth 20000 in
theorem gX10_two_X10_isThing : GoodIn wsX10_two (wsV RX10 100 RX10 yX10_isThing wsX10_isThing) := goodIn_app (goodIn_of _ (by decide +kernel)) ggX10_two_X10_isThing
set_option maxRecDepth 20000 in
theorem ggX10_two_X10_bound : GoodIn wsX10_two wsX10_bound := goodIn_r _ [10] (by decide +kernel) (by decide +kernel)
set_option maxRecDepth 20000 in
theorem gX10_two_X10_bound : GoodIn wsX10_two (va_wsS RX10 56 yX10_bound wsX10_bound) := goodIn_app (goodIn_of _ (by decide +kernel)) ggX10_two_X10_bound
set_option maxRecDepth 20000 in
theorem ggX10_two_X10_nails : GoodIn wsX10_two wsX10_nails := goodIn_r _ [14, 7, 15, 83, 84, 85, 86, 87, 88, 89, 90, 91, 92, 93, 94, 95, 96, 97, 98, 99, 100, 101, 102, 103, 104, 105, 106, 107] (by decide +kernel) (by decide +kernel)
set_option maxRecDepth 20000 in
theorem gX10_two_X10_nails : GoodIn wsX10_two (wsV RX10 199 RX10 yX10_nails wsX10_nails) := goodIn_app (goodIn_of _ (by decide +kernel)) ggX10_two_X10_nails
set_option maxRecDepth 20000 in
theorem ggX10_two_X10_bare : GoodIn wsX10_two wsX10_bare := goodIn_r _ [19, 20, 21, 22, 23, 24, 5, 25, 7, 83, 84, 85, 86, 87, 88, 89, 90, 91, 92, 93, 94, 95, 96, 97, 98, 99, 100, 101, 102, 103, 104, 105, 106, 107] (by decide +kernel) (by decide +kernel)
set_option maxRecDepth 20000 in
theorem gX10_two_X10_bare : GoodIn wsX10_two (wsV RX10 193 RX10 yX10_bare wsX10_bare) := goodIn_app (goodIn_of _ (by decide +kernel)) ggX10_two_X10_bare
set_option maxRecDepth 20000 in
theorem ggX10_two_X10_has : GoodIn wsX10_two wsX10_has := goodIn_r _ [28] (by decide +kernel) (by decide +kernel)
set_option maxRecDepth 20000 in
theorem gX10_two_X10_has : GoodIn wsX10_two (va_wsS RX10 52 yX10_has wsX10_has) := goodIn_app (goodIn_of _ (by decide +kernel)) ggX10_two_X10_has
set_option maxRecDepth 20000 in
theorem ggX10_two_X10_no : GoodIn wsX10_two wsX10_no := goodIn_r _ [32, 33, 83, 84, 85, 86, 87, 88, 89, 90, 91, 92, 93, 94, 95, 96, 97, 98, 99, 100, 101, 102, 103, 104, 105, 106, 107] (by decide +kernel) (by decide +kernel)
set_option maxRecDepth 20000 in
theorem gX10_two_X10_no : GoodIn wsX10_two (wsV RX10 63 RX10 yX10_no wsX10_no) := goodIn_app (goodIn_of _ (by decide +kernel)) ggX10_two_X10_no
set_option maxRecDepth 20000 in
theorem ggX10_two_X10_lostWith : GoodIn wsX10_two wsX10_lostWith := goodIn_r _ [37, 20, 38, 39, 40, 5, 41, 42, 43, 44, 45, 46, 47, 48, 49, 50, 51, 52, 53, 15, 7, 54, 21, 55, 56, 57, 58, 59, 60, 61, 62, 63, 64, 65, 66, 67, 68, 69, 70, 71, 26, 27, 28, 72, 73, 74, 75, 76, 77, 78, 79, 80, 81, 82, 83, 84, 85, 86, 87, 88, 89, 90, 91, 92, 93, 94, 95, 96, 97, 98, 99, 100, 101, 102, 103, 104, 105, 106, 107] (by decide +kernel) (by decide +kernel)
set_option maxRecDepth 20000 in
theorem gX10_two_X10_lostWith : GoodIn wsX10_two (wsV RX10 205 RX10 yX10_lostWith wsX10_lostWith) := goodIn_app (goodIn_of _ (by decide +kernel)) ggX10_two_X10_lostWith
set_option maxRecDepth 20000 in
theorem ggX10_two_X10_bits : GoodIn wsX10_two wsX10_bits := goodIn_r _ [74] (by decide +kernel) (by decide +kernel)
set_option maxRecDepth 20000 in
theorem gX10_two_X10_bits : GoodIn wsX10_two (va_wsS RX10 150 yX10_bits wsX10_bits) := goodIn_app (goodIn_of _ (by decide +kernel)) ggX10_two_X10_bits
set_option maxRecDepth 20000 in
theorem ggX10_boys_X10_isThing : GoodIn wsX10_boys wsX10_isThing := goodIn_r _ [6, 7, 65, 66, 67, 68, 69, 70, 71, 72, 73, 74, 75, 76, 77, 78, 79, 80, 81, 82, 83, 84, 85, 86, 87, 88, 89] (by decide +kernel) (by decide +kernel)
set_option maxRecDepth 20000 in
theorem gX10_boys_X10_isThing : GoodIn wsX10_boys (wsV RX10 100 RX10 yX10_isThing wsX10_isThing) := goodIn_app (goodIn_of _ (by decide +kernel)) ggX10_boys_X10_isThing
set_option maxRecDepth 20000 in
theorem ggX10_boys_X10_isIn : GoodIn wsX10_boys wsX10_isIn := goodIn_r _ [10] (by decide +kernel) (by decide +kernel)
set_option maxRecDepth 20000 in
theorem gX10_boys_X10_isIn : GoodIn wsX10_boys (va_wsS RX10 74 yX10_isIn wsX10_isIn) := goodIn_app (goodIn_of _ (by decide +kernel)) ggX10_boys_X10_isIn
set_option maxRecDepth 20000 in
theorem ggX10_boys_X10_lowestOf : GoodIn wsX10_boys wsX10_lowestOf := goodIn_r _ [14, 15, 16, 65, 66, 67, 68, 69, 70, 71, 72, 73, 74, 75, 76, 77, 78, 79, 80, 81, 82, 83, 84, 85, 86, 87, 88, 89] (by decide +kernel) (by decide +kernel)
set_option maxRecDepth 20000 in
theorem gX10_boys_X10_lowestOf : GoodIn wsX10_boys (wsV RX10 218 RX10 yX10_lowestOf wsX10_lowestOf) := goodIn_app (goodIn_of _ (by decide +kernel)) ggX10_boys_X10_lowestOf
set_option maxRecDepth 20000 in
theorem ggX10_boys_X10_thinks : GoodIn wsX10_boys wsX10_thinks := goodIn_r _ [20, 21, 22, 23, 5, 24, 25, 26, 27, 28, 29, 7, 30, 1, 31, 32, 33, 34, 35, 36, 37, 38, 39, 40, 65, 66, 67, 68, 69, 70, 71, 72, 73, 74, 75, 76, 77, 78, 79, 80, 81, 82, 83, 84, 85, 86, 87, 88, 89] (by decide +kernel) (by decide +kernel)
set_option maxRecDepth 20000 in
theorem gX10_boys_X10_thinks : GoodIn wsX10_boys (wsV RX10 159 RX10 yX10_thinks wsX10_thinks) := goodIn_app (goodIn_of _ (by decide +kernel)) ggX10_boys_X10_thinks
set_option maxRecDepth 20000 in
theorem ggX10_boys_X10_has : GoodIn wsX10_boys wsX10_has := goodIn_r _ [43] (by decide +kernel) (by decide +kernel)
set_option maxRecDepth 20000 in
theorem gX10_boys_X10_has : GoodIn wsX10_boys (va_wsS RX10 52 yX10_has wsX10_has) := goodIn_app (goodIn_of _ (by decide +kernel)) ggX10_boys_X10_has
set_option maxRecDepth 20000 in
theorem ggX10_boys_X10_goesDay : GoodIn wsX10_boys wsX10_goesDay := goodIn_r _ [47, 30, 7, 1, 31, 29, 41, 42, 5, 43, 48, 49, 50, 51, 52, 53, 54, 27, 28, 65, 66, 67, 68, 69, 70, 71, 72, 73, 74, 75, 76, 77, 78, 79, 80, 81, 82, 83, 84, 85, 86, 87, 88, 89] (by decide +kernel) (by decide +kernel)
set_option maxRecDepth 20000 in
theorem gX10_boys_X10_goesDay : GoodIn wsX10_boys (wsV RX10 156 RX10 yX10_goesDay wsX10_goesDay) := goodIn_app (goodIn_of _ (by decide +kernel)) ggX10_boys_X10_goesDay
set_option maxRecDepth 20000 in
theorem ggX10_boys_X10_forgets : GoodIn wsX10_boys wsX10_forgets := goodIn_r _ [58, 21, 22, 23, 5, 24, 25, 26, 27, 28, 29, 7, 30, 1, 31, 32, 33, 34, 35, 36, 37, 38, 39, 40, 65, 66, 67, 68, 69, 70, 71, 72, 73, 74, 75, 76, 77, 78, 79, 80, 81, 82, 83, 84, 85, 86, 87, 88, 89] (by decide +kernel) (by decide +kernel)
set_option maxRecDepth 20000 in
theorem gX10_boys_X10_forgets : GoodIn wsX10_boys (wsV RX10 162 RX10 yX10_forgets wsX10_forgets) := goodIn_app (goodIn_of _ (by decide +kernel)) ggX10_boys_X10_forgets
set_option maxRecDepth 20000 in
theorem ggX10_boys_X10_partOf : GoodIn wsX10_boys wsX10_partOf := goodIn_r _ [61, 62, 63, 5, 64] (by decide +kernel) (by decide +kernel)
set_option maxRecDepth 20000 in
theorem gX10_boys_X10_partOf : GoodIn wsX10_boys (va_wsS RX10 226 yX10_partOf wsX10_partOf) := goodIn_app (goodIn_of _ (by decide +kernel)) ggX10_boys_X10_partOf
set_option maxRecDepth 20000 in
theorem ggX10_allCauses_X10_bits : GoodIn wsX10_allCauses wsX10_bits := goodIn_r _ [6] (by decide +kernel) (by decide +kernel)
set_option maxRecDepth 20000 in
theorem gX10_allCauses_X10_bits : GoodIn wsX10_allCauses (va_wsS RX10 150 yX10_bits wsX10_bits) := goodIn_app (goodIn_of _ (by decide +kernel)) ggX10_allCauses_X10_bits
set_option maxRecDepth 20000 in
theorem ggX10_mean_X10_isIn : GoodIn wsX10_mean wsX10_isIn := goodIn_r _ [5] (by decide +kernel) (by decide +kernel)
set_option maxRecDepth 20000 in
theorem gX10_mean_X10_isIn : GoodIn wsX10_mean (va_wsS RX10 74 yX10_isIn wsX10_isIn) := goodIn_app (goodIn_of _ (by decide +kernel)) ggX10_mean_X10_isIn
set_option maxRecDepth 20000 in
theorem ggX10_mean_X10_lowestOf : GoodIn wsX10_mean wsX10_lowestOf := goodIn_r _ [9, 10, 11, 26, 27, 28, 29, 30, 31, 32, 33, 34, 35, 36, 37, 38, 39, 40, 41, 42, 43, 44, 45, 46, 47, 48, 49, 50] (by decide +kernel) (by decide +kernel)
set_option maxRecDepth 20000 in
theorem gX10_mean_X10_lowestOf : GoodIn wsX10_mean (wsV RX10 218 RX10 yX10_lowestOf wsX10_lowestOf) := goodIn_app (goodIn_of _ (by decide +kernel)) ggX10_mean_X10_lowestOf
set_option maxRecDepth 20000 in
theorem ggX10_mean_X10_allCauses : GoodIn wsX10_mean wsX10_allCauses := goodIn_r _ [15, 1, 16, 17, 18, 4, 19, 26, 27, 28, 29, 30, 31, 32, 33, 34, 35, 36, 37, 38, 39, 40, 41, 42, 43, 44, 45, 46, 47, 48, 49, 50] (by decide +kernel) (by decide +kernel)
set_option maxRecDepth 20000 in
theorem gX10_mean_X10_allCauses : GoodIn wsX10_mean (wsV RX10 230 RX10 yX10_allCauses wsX10_allCauses) := goodIn_app (goodIn_of _ (by decide +kernel)) ggX10_mean_X10_allCauses
set_option maxRecDepth 20000 in
theorem ggX10_mean_X10_partOf : GoodIn wsX10_mean wsX10_partOf := goodIn_r _ [22, 23, 24, 4, 25] (by decide +kernel) (by decide +kernel)
set_option maxRecDepth 20000 in
theorem gX10_mean_X10_partOf : GoodIn wsX10_mean (va_wsS RX10 226 yX10_partOf wsX10_partOf) := goodIn_app (goodIn_of _ (by decide +kernel)) ggX10_mean_X10_partOf
set_option maxRecDepth 20000 in
theorem ggX10_isSo_X10_thinks : GoodIn wsX10_isSo wsX10_thinks := goodIn_r _ [8, 9, 10, 11, 7, 12, 13, 14, 15, 16, 17, 18, 19, 2, 20, 21, 22, 23, 24, 25, 26, 27, 28, 29, 48, 49, 50, 51, 52, 53, 54, 55, 56, 57, 58, 59, 60, 61, 62, 63, 64, 65, 66, 67, 68, 69, 70, 71, 72] (by decide +kernel) (by decide +kernel)
set_option maxRecDepth 20000 in
theorem gX10_isSo_X10_thinks : GoodIn wsX10_isSo (wsV RX10 159 RX10 yX10_thinks wsX10_thinks) := goodIn_app (goodIn_of _ (by decide +kernel)) ggX10_isSo_X10_thinks
set_option maxRecDepth 20000 in
theorem ggX10_isSo_X10_bits : GoodIn wsX10_isSo wsX10_bits := goodIn_r _ [32] (by decide +kernel) (by decide +kernel)
set_option maxRecDepth 20000 in
theorem gX10_isSo_X10_bits : GoodIn wsX10_isSo (va_wsS RX10 150 yX10_bits wsX10_bits) := goodIn_app (goodIn_of _ (by decide +kernel)) ggX10_isSo_X10_bits
set_option maxRecDepth 20000 in
theorem ggX10_isSo_X10_goesDay : GoodIn wsX10_isSo wsX10_goesDay := goodIn_r _ [36, 19, 18, 2, 20, 17, 37, 38, 7, 39, 30, 31, 32, 40, 41, 42, 43, 15, 16, 48, 49, 50, 51, 52, 53, 54, 55, 56, 57, 58, 59, 60, 61, 62, 63, 64, 65, 66, 67, 68, 69, 70, 71, 72] (by decide +kernel) (by decide +kernel)
set_option maxRecDepth 20000 in
theorem gX10_isSo_X10_goesDay : GoodIn wsX10_isSo (wsV RX10 156 RX10 yX10_goesDay wsX10_goesDay) := goodIn_app (goodIn_of _ (by decide +kernel)) ggX10_isSo_X10_goesDay
set_option maxRecDepth 20000 in
theorem ggX10_isSo_X10_forgets : GoodIn wsX10_isSo wsX10_forgets := goodIn_r _ [47, 9, 10, 11, 7, 12, 13, 14, 15, 16, 17, 18, 19, 2, 20, 21, 22, 23, 24, 25, 26, 27, 28, 29, 48, 49, 50, 51, 52, 53, 54, 55, 56, 57, 58, 59, 60, 61, 62, 63, 64, 65, 66, 67, 68, 69, 70, 71, 72] (by decide +kernel) (by decide +kernel)
set_option maxRecDepth 20000 in
theorem gX10_isSo_X10_forgets : GoodIn wsX10_isSo (wsV RX10 162 RX10 yX10_forgets wsX10_forgets) := goodIn_app (goodIn_of _ (by decide +kernel)) ggX10_isSo_X10_forgets
set_option maxRecDepth 20000 in
theorem ggX10_bitsFor_X10_isSo : GoodIn wsX10_bitsFor wsX10_isSo := goodIn_r _ [5, 6, 7, 8, 9, 10, 11, 4, 12, 13, 14, 15, 16, 17, 18, 19, 20, 21, 22, 23, 24, 25, 26, 27, 28, 29, 30, 31, 32, 33, 34, 35, 36, 37, 38, 39, 40, 41, 42, 43, 44, 45, 46, 47, 48, 49, 50, 51, 52, 53, 54, 55, 56, 57, 58, 59, 60, 61, 62, 63, 64, 65, 66, 67, 68, 69, 70, 71, 72, 73, 74, 75, 76] (by decide +kernel) (by decide +kernel)
set_option maxRecDepth 20000 in
theorem gX10_bitsFor_X10_isSo : GoodIn wsX10_bitsFor (wsV RX10 236 RX10 yX10_isSo wsX10_isSo) := goodIn_app (goodIn_of _ (by decide +kernel)) ggX10_bitsFor_X10_isSo
set_option maxRecDepth 20000 in
theorem ggX10_whatWas_X10_isThing : GoodIn wsX10_whatWas wsX10_isThing := goodIn_r _ [7, 8, 68, 69, 70, 71, 72, 73, 74, 75, 76, 77, 78, 79, 80, 81, 82, 83, 84, 85, 86, 87, 88, 89, 90, 91, 92] (by decide +kernel) (by decide +kernel)
set_option maxRecDepth 20000 in
theorem gX10_whatWas_X10_isThing : GoodIn wsX10_whatWas (wsV RX10 100 RX10 yX10_isThing wsX10_isThing) := goodIn_app (goodIn_of _ (by decide +kernel)) ggX10_whatWas_X10_isThing
set_option maxRecDepth 20000 in
theorem ggX10_whatWas_X10_isIn : GoodIn wsX10_whatWas wsX10_isIn := goodIn_r _ [11] (by decide +kernel) (by decide +kernel)
set_option maxRecDepth 20000 in
theorem gX10_whatWas_X10_isIn : GoodIn wsX10_whatWas (va_wsS RX10 74 yX10_isIn wsX10_isIn) := goodIn_app (goodIn_of _ (by decide +kernel)) ggX10_whatWas_X10_isIn
set_option maxRecDepth 20000 in
theorem ggX10_whatWas_X10_no : GoodIn wsX10_whatWas wsX10_no := goodIn_r _ [15, 16, 68, 69, 70, 71, 72, 73, 74, 75, 76, 77, 78, 79, 80, 81, 82, 83, 84, 85, 86, 87, 88, 89, 90, 91, 92] (by decide +kernel) (by decide +kernel)
set_option maxRecDepth 20000 in
theorem gX10_whatWas_X10_no : GoodIn wsX10_whatWas (wsV RX10 63 RX10 yX10_no wsX10_no) := goodIn_app (goodIn_of _ (by decide +kernel)) ggX10_whatWas_X10_no
set_option maxRecDepth 20000 in
theorem ggX10_whatWas_X10_bitsFor : GoodIn wsX10_whatWas wsX10_bitsFor := goodIn_r _ [20, 21, 22, 23, 6, 24, 25, 26, 27, 28, 29, 30, 31, 32, 33, 34, 35, 36, 37, 1, 2, 38, 8, 39, 40, 41, 42, 43, 44, 45, 46, 47, 48, 49, 50, 51, 52, 53, 54, 55, 56, 57, 58, 59, 60, 61, 62, 63, 64, 65, 66, 67, 68, 69, 70, 71, 72, 73, 74, 75, 76, 77, 78, 79, 80, 81, 82, 83, 84, 85, 86, 87, 88, 89, 90, 91, 92] (by decide +kernel) (by decide +kernel)
set_option maxRecDepth 20000 in
theorem gX10_whatWas_X10_bitsFor : GoodIn wsX10_whatWas (wsV RX10 239 RX10 yX10_bitsFor wsX10_bitsFor) := goodIn_app (goodIn_of _ (by decide +kernel)) ggX10_whatWas_X10_bitsFor

set_option maxRecDepth 20000 in
theorem ggX10_days_X10_no : GoodIn wsX10_days wsX10_no := goodIn_r _ [10, 11, 35, 36, 37, 38, 39, 40, 41, 42, 43, 44, 45, 46, 47, 48, 49, 50, 51, 52, 53, 54, 55, 56, 57, 58, 59] (by decide +kernel) (by decide +kernel)
set_option maxRecDepth 20000 in
theorem gX10_days_X10_no : GoodIn wsX10_days (wsV RX10 63 RX10 yX10_no wsX10_no) := goodIn_app (goodIn_of _ (by decide +kernel)) ggX10_days_X10_no
set_option maxRecDepth 20000 in
theorem ggX10_days_X10_goes : GoodIn wsX10_days wsX10_goes := goodIn_r _ [15, 16, 17, 18, 5, 19, 1, 20, 2, 21, 22, 23, 24, 25, 26, 27, 28, 29, 30, 31, 32, 33, 34, 35, 36, 37, 38, 39, 40, 41, 42, 43, 44, 45, 46, 47, 48, 49, 50, 51, 52, 53, 54, 55, 56, 57, 58, 59] (by decide +kernel) (by decide +kernel)
set_option maxRecDepth 20000 in
theorem gX10_days_X10_goes : GoodIn wsX10_days (wsV RX10 106 RX10 yX10_goes wsX10_goes) := goodIn_app (goodIn_of _ (by decide +kernel)) ggX10_days_X10_goes
set_option maxRecDepth 20000 in
theorem ggX10_days_X10_bits : GoodIn wsX10_days wsX10_bits := goodIn_r _ [28] (by decide +kernel) (by decide +kernel)
set_option maxRecDepth 20000 in
theorem gX10_days_X10_bits : GoodIn wsX10_days (va_wsS RX10 150 yX10_bits wsX10_bits) := goodIn_app (goodIn_of _ (by decide +kernel)) ggX10_days_X10_bits
set_option maxRecDepth 20000 in
theorem ggX10_lostThen_X10_bound : GoodIn wsX10_lostThen wsX10_bound := goodIn_r _ [4] (by decide +kernel) (by decide +kernel)
set_option maxRecDepth 20000 in
theorem gX10_lostThen_X10_bound : GoodIn wsX10_lostThen (va_wsS RX10 56 yX10_bound wsX10_bound) := goodIn_app (goodIn_of _ (by decide +kernel)) ggX10_lostThen_X10_bound
set_option maxRecDepth 20000 in
theorem ggX10_lostThen_X10_no : GoodIn wsX10_lostThen wsX10_no := goodIn_r _ [8, 9, 62, 63, 64, 65, 66, 67, 68, 69, 70, 71, 72, 73, 74, 75, 76, 77, 78, 79, 80, 81, 82, 83, 84, 85, 86] (by decide +kernel) (by decide +kernel)
set_option maxRecDepth 20000 in
theorem gX10_lostThen_X10_no : GoodIn wsX10_lostThen (wsV RX10 63 RX10 yX10_no wsX10_no) := goodIn_app (goodIn_of _ (by decide +kernel)) ggX10_lostThen_X10_no
set_option maxRecDepth 20000 in
theorem ggX10_lostThen_X10_lostIn : GoodIn wsX10_lostThen wsX10_lostIn := goodIn_r _ [13, 14, 15, 16, 17, 3, 18, 19, 20, 21, 22, 23, 24, 25, 26, 27, 28, 29, 30, 31, 32, 33, 34, 35, 36, 37, 38, 39, 40, 41, 42, 43, 44, 45, 46, 47, 48, 49, 50, 51, 52, 53, 54, 55, 56, 57, 58, 59, 60, 61, 62, 63, 64, 65, 66, 67, 68, 69, 70, 71, 72, 73, 74, 75, 76, 77, 78, 79, 80, 81, 82, 83, 84, 85, 86] (by decide +kernel) (by decide +kernel)
set_option maxRecDepth 20000 in
theorem gX10_lostThen_X10_lostIn : GoodIn wsX10_lostThen (wsV RX10 165 RX10 yX10_lostIn wsX10_lostIn) := goodIn_app (goodIn_of _ (by decide +kernel)) ggX10_lostThen_X10_lostIn
set_option maxRecDepth 20000 in
theorem ggX10_when_X10_isThing : GoodIn wsX10_when wsX10_isThing := goodIn_r _ [5, 6, 59, 60, 61, 62, 63, 64, 65, 66, 67, 68, 69, 70, 71, 72, 73, 74, 75, 76, 77, 78, 79, 80, 81, 82, 83] (by decide +kernel) (by decide +kernel)
set_option maxRecDepth 20000 in
theorem gX10_when_X10_isThing : GoodIn wsX10_when (wsV RX10 100 RX10 yX10_isThing wsX10_isThing) := goodIn_app (goodIn_of _ (by decide +kernel)) ggX10_when_X10_isThing
set_option maxRecDepth 20000 in
theorem ggX10_when_X10_lostWhen : GoodIn wsX10_when wsX10_lostWhen := goodIn_r _ [10, 11, 12, 13, 14, 4, 15, 16, 17, 18, 19, 20, 21, 22, 23, 24, 6, 25, 26, 27, 28, 29, 30, 31, 32, 33, 34, 35, 36, 37, 38, 39, 40, 41, 42, 43, 44, 45, 46, 47, 48, 49, 50, 51, 52, 53, 59, 60, 61, 62, 63, 64, 65, 66, 67, 68, 69, 70, 71, 72, 73, 74, 75, 76, 77, 78, 79, 80, 81, 82, 83] (by decide +kernel) (by decide +kernel)
set_option maxRecDepth 20000 in
theorem gX10_when_X10_lostWhen : GoodIn wsX10_when (wsV RX10 171 RX10 yX10_lostWhen wsX10_lostWhen) := goodIn_app (goodIn_of _ (by decide +kernel)) ggX10_when_X10_lostWhen
set_option maxRecDepth 20000 in
theorem ggX10_when_X10_no : GoodIn wsX10_when wsX10_no := goodIn_r _ [57, 58, 59, 60, 61, 62, 63, 64, 65, 66, 67, 68, 69, 70, 71, 72, 73, 74, 75, 76, 77, 78, 79, 80, 81, 82, 83] (by decide +kernel) (by decide +kernel)
set_option maxRecDepth 20000 in
theorem gX10_when_X10_no : GoodIn wsX10_when (wsV RX10 63 RX10 yX10_no wsX10_no) := goodIn_app (goodIn_of _ (by decide +kernel)) ggX10_when_X10_no
set_option maxRecDepth 20000 in
theorem ggX10_nextOne_X10_lostWhen : GoodIn wsX10_nextOne wsX10_lostWhen := goodIn_r _ [7, 8, 9, 10, 11, 6, 12, 13, 14, 15, 16, 17, 18, 19, 20, 21, 2, 22, 23, 24, 25, 26, 27, 28, 29, 30, 31, 32, 33, 34, 35, 36, 37, 38, 39, 40, 41, 42, 43, 44, 45, 46, 47, 48, 49, 50, 51, 52, 53, 54, 55, 56, 57, 58, 59, 60, 61, 62, 63, 64, 65, 66, 67, 68, 69, 70, 71, 72, 73, 74, 75] (by decide +kernel) (by decide +kernel)
set_option maxRecDepth 20000 in
theorem gX10_nextOne_X10_lostWhen : GoodIn wsX10_nextOne (wsV RX10 171 RX10 yX10_lostWhen wsX10_lostWhen) := goodIn_app (goodIn_of _ (by decide +kernel)) ggX10_nextOne_X10_lostWhen
set_option maxRecDepth 20000 in
theorem ggX10_still_X10_lostIn : GoodIn wsX10_still wsX10_lostIn := goodIn_r _ [5, 6, 7, 8, 9, 4, 10, 11, 12, 13, 14, 15, 16, 17, 18, 19, 20, 21, 22, 23, 24, 25, 26, 27, 28, 29, 30, 31, 32, 33, 34, 35, 36, 37, 38, 39, 40, 41, 42, 43, 44, 45, 46, 47, 48, 49, 50, 51, 52, 53, 54, 55, 56, 57, 58, 59, 60, 61, 62, 63, 64, 65, 66, 67, 68, 69, 70, 71, 72, 73, 74, 75, 76, 77, 78] (by decide +kernel) (by decide +kernel)
set_option maxRecDepth 20000 in
theorem gX10_still_X10_lostIn : GoodIn wsX10_still (wsV RX10 165 RX10 yX10_lostIn wsX10_lostIn) := goodIn_app (goodIn_of _ (by decide +kernel)) ggX10_still_X10_lostIn
set_option maxRecDepth 20000 in
theorem ggX10_next__X10_isIn : GoodIn wsX10_next_ wsX10_isIn := goodIn_r _ [5] (by decide +kernel) (by decide +kernel)
set_option maxRecDepth 20000 in
theorem gX10_next__X10_isIn : GoodIn wsX10_next_ (va_wsS RX10 74 yX10_isIn wsX10_isIn) := goodIn_app (goodIn_of _ (by decide +kernel)) ggX10_next__X10_isIn
set_option maxRecDepth 20000 in
theorem ggX10_next__X10_no : GoodIn wsX10_next_ wsX10_no := goodIn_r _ [9, 10, 75, 76, 77, 78, 79, 80, 81, 82, 83, 84, 85, 86, 87, 88, 89, 90, 91, 92, 93, 94, 95, 96, 97, 98, 99] (by decide +kernel) (by decide +kernel)
set_option maxRecDepth 20000 in
theorem gX10_next__X10_no : GoodIn wsX10_next_ (wsV RX10 63 RX10 yX10_no wsX10_no) := goodIn_app (goodIn_of _ (by decide +kernel)) ggX10_next__X10_no
set_option maxRecDepth 20000 in
theorem ggX10_next__X10_still : GoodIn wsX10_next_ wsX10_still := goodIn_r _ [14, 15, 16, 17, 4, 18, 19, 20, 21, 22, 23, 24, 25, 26, 27, 28, 29, 30, 31, 32, 33, 34, 35, 36, 37, 38, 39, 40, 41, 42, 43, 44, 45, 46, 47, 48, 49, 50, 51, 52, 53, 54, 55, 56, 57, 58, 59, 60, 61, 62, 63, 64, 65, 66, 75, 76, 77, 78, 79, 80, 81, 82, 83, 84, 85, 86, 87, 88, 89, 90, 91, 92, 93, 94, 95, 96, 97, 98, 99] (by decide +kernel) (by decide +kernel)
set_option maxRecDepth 20000 in
theorem gX10_next__X10_still : GoodIn wsX10_next_ (wsV RX10 178 RX10 yX10_still wsX10_still) := goodIn_app (goodIn_of _ (by decide +kernel)) ggX10_next__X10_still
set_option maxRecDepth 20000 in
theorem ggX10_next__X10_nextOne : GoodIn wsX10_next_ wsX10_nextOne := goodIn_r _ [70, 1, 33, 71, 72, 73, 4, 74, 19, 20, 21, 22, 23, 24, 25, 26, 27, 28, 29, 30, 31, 32, 34, 35, 36, 37, 38, 39, 40, 41, 42, 43, 44, 53, 54, 55, 49, 50, 51, 52, 56, 57, 58, 59, 60, 61, 62, 63, 64, 65, 66, 75, 76, 77, 78, 79, 80, 81, 82, 83, 84, 85, 86, 87, 88, 89, 90, 91, 92, 93, 94, 95, 96, 97, 98, 99] (by decide +kernel) (by decide +kernel)
set_option maxRecDepth 20000 in
theorem gX10_next__X10_nextOne : GoodIn wsX10_next_ (wsV RX10 181 RX10 yX10_nextOne wsX10_nextOne) := goodIn_app (goodIn_of _ (by decide +kernel)) ggX10_next__X10_nextOne
set_option maxRecDepth 20000 in
theorem ggX10_rootsOf_X10_has : GoodIn wsX10_rootsOf wsX10_has := goodIn_r _ [5] (by decide +kernel) (by decide +kernel)
set_option maxRecDepth 20000 in
theorem gX10_rootsOf_X10_has : GoodIn wsX10_rootsOf (va_wsS RX10 52 yX10_has wsX10_has) := goodIn_app (goodIn_of _ (by decide +kernel)) ggX10_rootsOf_X10_has
set_option maxRecDepth 20000 in
theorem ggX10_fruitsOf_X10_rootsOf : GoodIn wsX10_fruitsOf wsX10_rootsOf := goodIn_r _ [6, 7, 8, 9, 5, 10, 11, 12, 13, 14, 15, 16, 17, 18, 19, 20, 21, 22, 23, 24, 25, 26, 27, 28, 29, 30, 31, 32, 33, 34, 35] (by decide +kernel) (by decide +kernel)
set_option maxRecDepth 20000 in
theorem gX10_fruitsOf_X10_rootsOf : GoodIn wsX10_fruitsOf (wsV RX10 184 RX10 yX10_rootsOf wsX10_rootsOf) := goodIn_app (goodIn_of _ (by decide +kernel)) ggX10_fruitsOf_X10_rootsOf
set_option maxRecDepth 20000 in
theorem ggX10_fruitsOf_X10_has : GoodIn wsX10_fruitsOf wsX10_has := goodIn_r _ [10] (by decide +kernel) (by decide +kernel)
set_option maxRecDepth 20000 in
theorem gX10_fruitsOf_X10_has : GoodIn wsX10_fruitsOf (va_wsS RX10 52 yX10_has wsX10_has) := goodIn_app (goodIn_of _ (by decide +kernel)) ggX10_fruitsOf_X10_has
set_option maxRecDepth 20000 in
theorem ggX10_roots_X10_isThing : GoodIn wsX10_roots wsX10_isThing := goodIn_r _ [5, 6, 27, 28, 29, 30, 31, 32, 33, 34, 35, 36, 37, 38, 39, 40, 41, 42, 43, 44, 45, 46, 47, 48, 49, 50, 51] (by decide +kernel) (by decide +kernel)
set_option maxRecDepth 20000 in
theorem gX10_roots_X10_isThing : GoodIn wsX10_roots (wsV RX10 100 RX10 yX10_isThing wsX10_isThing) := goodIn_app (goodIn_of _ (by decide +kernel)) ggX10_roots_X10_isThing
set_option maxRecDepth 20000 in
theorem ggX10_roots_X10_isIn : GoodIn wsX10_roots wsX10_isIn := goodIn_r _ [9] (by decide +kernel) (by decide +kernel)
set_option maxRecDepth 20000 in
theorem gX10_roots_X10_isIn : GoodIn wsX10_roots (va_wsS RX10 74 yX10_isIn wsX10_isIn) := goodIn_app (goodIn_of _ (by decide +kernel)) ggX10_roots_X10_isIn
set_option maxRecDepth 20000 in
theorem ggX10_roots_X10_no : GoodIn wsX10_roots wsX10_no := goodIn_r _ [13, 14, 27, 28, 29, 30, 31, 32, 33, 34, 35, 36, 37, 38, 39, 40, 41, 42, 43, 44, 45, 46, 47, 48, 49, 50, 51] (by decide +kernel) (by decide +kernel)
set_option maxRecDepth 20000 in
theorem gX10_roots_X10_no : GoodIn wsX10_roots (wsV RX10 63 RX10 yX10_no wsX10_no) := goodIn_app (goodIn_of _ (by decide +kernel)) ggX10_roots_X10_no
set_option maxRecDepth 20000 in
theorem ggX10_roots_X10_rootsOf : GoodIn wsX10_roots wsX10_rootsOf := goodIn_r _ [18, 19, 20, 21, 4, 22, 27, 28, 29, 30, 31, 32, 33, 34, 35, 36, 37, 38, 39, 40, 41, 42, 43, 44, 45, 46, 47, 48, 49, 50, 51] (by decide +kernel) (by decide +kernel)
set_option maxRecDepth 20000 in
theorem gX10_roots_X10_rootsOf : GoodIn wsX10_roots (wsV RX10 184 RX10 yX10_rootsOf wsX10_rootsOf) := goodIn_app (goodIn_of _ (by decide +kernel)) ggX10_roots_X10_rootsOf
set_option maxRecDepth 20000 in
theorem ggX10_roots_X10_fruitsOf : GoodIn wsX10_roots wsX10_fruitsOf := goodIn_r _ [26, 6, 15, 16, 17, 4, 18, 19, 20, 21, 22, 27, 28, 29, 30, 31, 32, 33, 34, 35, 36, 37, 38, 39, 40, 41, 42, 43, 44, 45, 46, 47, 48, 49, 50, 51] (by decide +kernel) (by decide +kernel)
set_option maxRecDepth 20000 in
theorem gX10_roots_X10_fruitsOf : GoodIn wsX10_roots (wsV RX10 187 RX10 yX10_fruitsOf wsX10_fruitsOf) := goodIn_app (goodIn_of _ (by decide +kernel)) ggX10_roots_X10_fruitsOf
set_option maxRecDepth 20000 in
theorem ggX10_bare_X10_all : GoodIn wsX10_bare wsX10_all := goodIn_r _ [7, 8, 9, 10, 11, 12, 13, 14, 15, 16, 17, 18, 19, 20, 21, 22, 23, 24, 25, 26, 27, 28, 29, 30, 31, 32, 33] (by decide +kernel) (by decide +kernel)
set_option maxRecDepth 20000 in
theorem gX10_bare_X10_all : GoodIn wsX10_bare (wsV RX10 190 RX10 yX10_all wsX10_all) := goodIn_app (goodIn_of _ (by decide +kernel)) ggX10_bare_X10_all
set_option maxRecDepth 20000 in
theorem ggX10_lostGuarding_X10_lostIn : GoodIn wsX10_lostGuarding wsX10_lostIn := goodIn_r _ [6, 7, 8, 9, 10, 5, 11, 12, 13, 14, 15, 16, 17, 18, 19, 20, 21, 22, 1, 23, 24, 25, 26, 27, 28, 29, 30, 31, 32, 33, 34, 35, 36, 37, 38, 39, 40, 41, 42, 43, 44, 45, 46, 47, 48, 49, 50, 51, 52, 53, 54, 55, 56, 57, 58, 59, 60, 61, 62, 63, 64, 65, 66, 67, 68, 69, 70, 71, 72, 73, 74, 75, 76, 77, 78] (by decide +kernel) (by decide +kernel)
set_option maxRecDepth 20000 in
theorem gX10_lostGuarding_X10_lostIn : GoodIn wsX10_lostGuarding (wsV RX10 165 RX10 yX10_lostIn wsX10_lostIn) := goodIn_app (goodIn_of _ (by decide +kernel)) ggX10_lostGuarding_X10_lostIn
set_option maxRecDepth 20000 in
theorem ggX10_guard_X10_isThing : GoodIn wsX10_guard wsX10_isThing := goodIn_r _ [5, 6, 78, 79, 80, 81, 82, 83, 84, 85, 86, 87, 88, 89, 90, 91, 92, 93, 94, 95, 96, 97, 98, 99, 100, 101, 102] (by decide +kernel) (by decide +kernel)
set_option maxRecDepth 20000 in
theorem gX10_guard_X10_isThing : GoodIn wsX10_guard (wsV RX10 100 RX10 yX10_isThing wsX10_isThing) := goodIn_app (goodIn_of _ (by decide +kernel)) ggX10_guard_X10_isThing
set_option maxRecDepth 20000 in
theorem ggX10_guard_X10_bound : GoodIn wsX10_guard wsX10_bound := goodIn_r _ [9] (by decide +kernel) (by decide +kernel)
set_option maxRecDepth 20000 in
theorem gX10_guard_X10_bound : GoodIn wsX10_guard (va_wsS RX10 56 yX10_bound wsX10_bound) := goodIn_app (goodIn_of _ (by decide +kernel)) ggX10_guard_X10_bound
set_option maxRecDepth 20000 in
theorem ggX10_guard_X10_no : GoodIn wsX10_guard wsX10_no := goodIn_r _ [13, 14, 78, 79, 80, 81, 82, 83, 84, 85, 86, 87, 88, 89, 90, 91, 92, 93, 94, 95, 96, 97, 98, 99, 100, 101, 102] (by decide +kernel) (by decide +kernel)
set_option maxRecDepth 20000 in
theorem gX10_guard_X10_no : GoodIn wsX10_guard (wsV RX10 63 RX10 yX10_no wsX10_no) := goodIn_app (goodIn_of _ (by decide +kernel)) ggX10_guard_X10_no
set_option maxRecDepth 20000 in
theorem ggX10_guard_X10_all : GoodIn wsX10_guard wsX10_all := goodIn_r _ [18, 6, 78, 79, 80, 81, 82, 83, 84, 85, 86, 87, 88, 89, 90, 91, 92, 93, 94, 95, 96, 97, 98, 99, 100, 101, 102] (by decide +kernel) (by decide +kernel)
set_option maxRecDepth 20000 in
theorem gX10_guard_X10_all : GoodIn wsX10_guard (wsV RX10 190 RX10 yX10_all wsX10_all) := goodIn_app (goodIn_of _ (by decide +kernel)) ggX10_guard_X10_all
set_option maxRecDepth 20000 in
theorem ggX10_guard_X10_bare : GoodIn wsX10_guard wsX10_bare := goodIn_r _ [22, 23, 24, 15, 16, 17, 4, 18, 6, 78, 79, 80, 81, 82, 83, 84, 85, 86, 87, 88, 89, 90, 91, 92, 93, 94, 95, 96, 97, 98, 99, 100, 101, 102] (by decide +kernel) (by decide +kernel)
set_option maxRecDepth 20000 in
theorem gX10_guard_X10_bare : GoodIn wsX10_guard (wsV RX10 193 RX10 yX10_bare wsX10_bare) := goodIn_app (goodIn_of _ (by decide +kernel)) ggX10_guard_X10_bare
set_option maxRecDepth 20000 in
theorem ggX10_guard_X10_bits : GoodIn wsX10_guard wsX10_bits := goodIn_r _ [27] (by decide +kernel) (by decide +kernel)
set_option maxRecDepth 20000 in
theorem gX10_guard_X10_bits : GoodIn wsX10_guard (va_wsS RX10 150 yX10_bits wsX10_bits) := goodIn_app (goodIn_of _ (by decide +kernel)) ggX10_guard_X10_bits
set_option maxRecDepth 20000 in
theorem ggX10_guard_X10_lostGuarding : GoodIn wsX10_guard wsX10_lostGuarding := goodIn_r _ [31, 24, 32, 33, 34, 4, 35, 23, 36, 37, 38, 39, 40, 41, 42, 43, 44, 45, 46, 47, 48, 6, 49, 50, 51, 52, 53, 54, 55, 56, 57, 58, 59, 60, 61, 62, 63, 64, 65, 66, 67, 68, 69, 25, 26, 27, 70, 71, 72, 73, 74, 75, 76, 77, 78, 79, 80, 81, 82, 83, 84, 85, 86, 87, 88, 89, 90, 91, 92, 93, 94, 95, 96, 97, 98, 99, 100, 101, 102] (by decide +kernel) (by decide +kernel)
set_option maxRecDepth 20000 in
theorem gX10_guard_X10_lostGuarding : GoodIn wsX10_guard (wsV RX10 196 RX10 yX10_lostGuarding wsX10_lostGuarding) := goodIn_app (goodIn_of _ (by decide +kernel)) ggX10_guard_X10_lostGuarding
set_option maxRecDepth 20000 in
theorem ggX10_guard_X10_has : GoodIn wsX10_guard wsX10_has := goodIn_r _ [69] (by decide +kernel) (by decide +kernel)
set_option maxRecDepth 20000 in
theorem gX10_guard_X10_has : GoodIn wsX10_guard (va_wsS RX10 52 yX10_has wsX10_has) := goodIn_app (goodIn_of _ (by decide +kernel)) ggX10_guard_X10_has
set_option maxRecDepth 20000 in
theorem ggX10_weak_X10_bound : GoodIn wsX10_weak wsX10_bound := goodIn_r _ [5] (by decide +kernel) (by decide +kernel)
set_option maxRecDepth 20000 in
theorem gX10_weak_X10_bound : GoodIn wsX10_weak (va_wsS RX10 56 yX10_bound wsX10_bound) := goodIn_app (goodIn_of _ (by decide +kernel)) ggX10_weak_X10_bound
set_option maxRecDepth 20000 in
theorem ggX10_weak_X10_no : GoodIn wsX10_weak wsX10_no := goodIn_r _ [9, 10, 66, 67, 68, 69, 70, 71, 72, 73, 74, 75, 76, 77, 78, 79, 80, 81, 82, 83, 84, 85, 86, 87, 88, 89, 90] (by decide +kernel) (by decide +kernel)
set_option maxRecDepth 20000 in
theorem gX10_weak_X10_no : GoodIn wsX10_weak (wsV RX10 63 RX10 yX10_no wsX10_no) := goodIn_app (goodIn_of _ (by decide +kernel)) ggX10_weak_X10_no
set_option maxRecDepth 20000 in
theorem ggX10_weak_X10_lostIn : GoodIn wsX10_weak wsX10_lostIn := goodIn_r _ [14, 15, 16, 17, 18, 4, 19, 20, 21, 22, 23, 24, 25, 26, 27, 28, 1, 29, 30, 31, 32, 33, 34, 35, 36, 37, 38, 39, 40, 41, 42, 43, 44, 45, 46, 47, 48, 49, 50, 51, 52, 53, 54, 55, 56, 57, 58, 59, 60, 61, 66, 67, 68, 69, 70, 71, 72, 73, 74, 75, 76, 77, 78, 79, 80, 81, 82, 83, 84, 85, 86, 87, 88, 89, 90] (by decide +kernel) (by decide +kernel)
set_option maxRecDepth 20000 in
theorem gX10_weak_X10_lostIn : GoodIn wsX10_weak (wsV RX10 165 RX10 yX10_lostIn wsX10_lostIn) := goodIn_app (goodIn_of _ (by decide +kernel)) ggX10_weak_X10_lostIn
set_option maxRecDepth 20000 in
theorem ggX10_weak_X10_bits : GoodIn wsX10_weak wsX10_bits := goodIn_r _ [53] (by decide +kernel) (by decide +kernel)
set_option maxRecDepth 20000 in
theorem gX10_weak_X10_bits : GoodIn wsX10_weak (va_wsS RX10 150 yX10_bits wsX10_bits) := goodIn_app (goodIn_of _ (by decide +kernel)) ggX10_weak_X10_bits
set_option maxRecDepth 20000 in
theorem ggX10_weak_X10_lostGuarding : GoodIn wsX10_weak wsX10_lostGuarding := goodIn_r _ [65, 30, 11, 12, 13, 4, 14, 15, 16, 17, 18, 19, 20, 21, 22, 23, 24, 25, 26, 27, 28, 1, 29, 31, 32, 33, 34, 35, 36, 37, 38, 39, 40, 41, 42, 43, 44, 45, 46, 47, 48, 49, 50, 51, 52, 53, 54, 55, 56, 57, 58, 59, 60, 61, 66, 67, 68, 69, 70, 71, 72, 73, 74, 75, 76, 77, 78, 79, 80, 81, 82, 83, 84, 85, 86, 87, 88, 89, 90] (by decide +kernel) (by decide +kernel)
set_option maxRecDepth 20000 in
theorem gX10_weak_X10_lostGuarding : GoodIn wsX10_weak (wsV RX10 196 RX10 yX10_lostGuarding wsX10_lostGuarding) := goodIn_app (goodIn_of _ (by decide +kernel)) ggX10_weak_X10_lostGuarding
set_option maxRecDepth 20000 in
theorem ggX10_whenWith_X10_lostWhen : GoodIn wsX10_whenWith wsX10_lostWhen := goodIn_r _ [6, 1, 7, 8, 9, 5, 10, 11, 12, 13, 14, 15, 16, 17, 18, 19, 20, 21, 22, 23, 24, 25, 26, 27, 28, 29, 30, 31, 32, 33, 34, 35, 36, 37, 38, 39, 40, 41, 42, 43, 44, 45, 46, 47, 48, 49, 50, 51, 52, 53, 54, 55, 56, 57, 58, 59, 60, 61, 62, 63, 64, 65, 66, 67, 68, 69, 70, 71, 72, 73, 74] (by decide +kernel) (by decide +kernel)
set_option maxRecDepth 20000 in
theorem gX10_whenWith_X10_lostWhen : GoodIn wsX10_whenWith (wsV RX10 171 RX10 yX10_lostWhen wsX10_lostWhen) := goodIn_app (goodIn_of _ (by decide +kernel)) ggX10_whenWith_X10_lostWhen
set_option maxRecDepth 20000 in
theorem ggX10_tack_X10_isThing : GoodIn wsX10_tack wsX10_isThing := goodIn_r _ [6, 1, 75, 76, 77, 78, 79, 80, 81, 82, 83, 84, 85, 86, 87, 88, 89, 90, 91, 92, 93, 94, 95, 96, 97, 98, 99] (by decide +kernel) (by decide +kernel)
set_option maxRecDepth 20000 in
theorem gX10_tack_X10_isThing : GoodIn wsX10_tack (wsV RX10 100 RX10 yX10_isThing wsX10_isThing) := goodIn_app (goodIn_of _ (by decide +kernel)) ggX10_tack_X10_isThing

set_option maxRecDepth 20000 in
theorem ggX10_tack_X10_no : GoodIn wsX10_tack wsX10_no := goodIn_r _ [10, 11, 75, 76, 77, 78, 79, 80, 81, 82, 83, 84, 85, 86, 87, 88, 89, 90, 91, 92, 93, 94, 95, 96, 97, 98, 99] (by decide +kernel) (by decide +kernel)
set_option maxRecDepth 20000 in
theorem gX10_tack_X10_no : GoodIn wsX10_tack (wsV RX10 63 RX10 yX10_no wsX10_no) := goodIn_app (goodIn_of _ (by decide +kernel)) ggX10_tack_X10_no
set_option maxRecDepth 20000 in
theorem ggX10_tack_X10_nails : GoodIn wsX10_tack wsX10_nails := goodIn_r _ [15, 1, 16, 75, 76, 77, 78, 79, 80, 81, 82, 83, 84, 85, 86, 87, 88, 89, 90, 91, 92, 93, 94, 95, 96, 97, 98, 99] (by decide +kernel) (by decide +kernel)
set_option maxRecDepth 20000 in
theorem gX10_tack_X10_nails : GoodIn wsX10_tack (wsV RX10 199 RX10 yX10_nails wsX10_nails) := goodIn_app (goodIn_of _ (by decide +kernel)) ggX10_tack_X10_nails
set_option maxRecDepth 20000 in
theorem ggX10_tack_X10_bare : GoodIn wsX10_tack wsX10_bare := goodIn_r _ [20, 21, 22, 23, 24, 25, 5, 26, 1, 75, 76, 77, 78, 79, 80, 81, 82, 83, 84, 85, 86, 87, 88, 89, 90, 91, 92, 93, 94, 95, 96, 97, 98, 99] (by decide +kernel) (by decide +kernel)
set_option maxRecDepth 20000 in
theorem gX10_tack_X10_bare : GoodIn wsX10_tack (wsV RX10 193 RX10 yX10_bare wsX10_bare) := goodIn_app (goodIn_of _ (by decide +kernel)) ggX10_tack_X10_bare
set_option maxRecDepth 20000 in
theorem ggX10_tack_X10_whenWith : GoodIn wsX10_tack wsX10_whenWith := goodIn_r _ [30, 21, 31, 32, 33, 5, 34, 35, 36, 37, 38, 39, 40, 41, 42, 43, 44, 45, 46, 16, 1, 47, 22, 48, 49, 50, 51, 52, 53, 54, 55, 56, 57, 58, 59, 60, 61, 62, 63, 64, 65, 66, 67, 68, 69, 70, 71, 72, 73, 74, 75, 76, 77, 78, 79, 80, 81, 82, 83, 84, 85, 86, 87, 88, 89, 90, 91, 92, 93, 94, 95, 96, 97, 98, 99] (by decide +kernel) (by decide +kernel)
set_option maxRecDepth 20000 in
theorem gX10_tack_X10_whenWith : GoodIn wsX10_tack (wsV RX10 202 RX10 yX10_whenWith wsX10_whenWith) := goodIn_app (goodIn_of _ (by decide +kernel)) ggX10_tack_X10_whenWith
set_option maxRecDepth 20000 in
theorem ggX10_tack_X10_has : GoodIn wsX10_tack wsX10_has := goodIn_r _ [59] (by decide +kernel) (by decide +kernel)
set_option maxRecDepth 20000 in
theorem gX10_tack_X10_has : GoodIn wsX10_tack (va_wsS RX10 52 yX10_has wsX10_has) := goodIn_app (goodIn_of _ (by decide +kernel)) ggX10_tack_X10_has
set_option maxRecDepth 20000 in
theorem ggX10_worst_X10_bound : GoodIn wsX10_worst wsX10_bound := goodIn_r _ [5] (by decide +kernel) (by decide +kernel)
set_option maxRecDepth 20000 in
theorem gX10_worst_X10_bound : GoodIn wsX10_worst (va_wsS RX10 56 yX10_bound wsX10_bound) := goodIn_app (goodIn_of _ (by decide +kernel)) ggX10_worst_X10_bound
set_option maxRecDepth 20000 in
theorem ggX10_worst_X10_no : GoodIn wsX10_worst wsX10_no := goodIn_r _ [9, 10, 78, 79, 80, 81, 82, 83, 84, 85, 86, 87, 88, 89, 90, 91, 92, 93, 94, 95, 96, 97, 98, 99, 100, 101, 102] (by decide +kernel) (by decide +kernel)
set_option maxRecDepth 20000 in
theorem gX10_worst_X10_no : GoodIn wsX10_worst (wsV RX10 63 RX10 yX10_no wsX10_no) := goodIn_app (goodIn_of _ (by decide +kernel)) ggX10_worst_X10_no
set_option maxRecDepth 20000 in
theorem ggX10_worst_X10_nails : GoodIn wsX10_worst wsX10_nails := goodIn_r _ [14, 1, 15, 78, 79, 80, 81, 82, 83, 84, 85, 86, 87, 88, 89, 90, 91, 92, 93, 94, 95, 96, 97, 98, 99, 100, 101, 102] (by decide +kernel) (by decide +kernel)
set_option maxRecDepth 20000 in
theorem gX10_worst_X10_nails : GoodIn wsX10_worst (wsV RX10 199 RX10 yX10_nails wsX10_nails) := goodIn_app (goodIn_of _ (by decide +kernel)) ggX10_worst_X10_nails
set_option maxRecDepth 20000 in
theorem ggX10_worst_X10_bare : GoodIn wsX10_worst wsX10_bare := goodIn_r _ [19, 20, 21, 22, 23, 24, 4, 25, 1, 78, 79, 80, 81, 82, 83, 84, 85, 86, 87, 88, 89, 90, 91, 92, 93, 94, 95, 96, 97, 98, 99, 100, 101, 102] (by decide +kernel) (by decide +kernel)
set_option maxRecDepth 20000 in
theorem gX10_worst_X10_bare : GoodIn wsX10_worst (wsV RX10 193 RX10 yX10_bare wsX10_bare) := goodIn_app (goodIn_of _ (by decide +kernel)) ggX10_worst_X10_bare
set_option maxRecDepth 20000 in
theorem ggX10_worst_X10_lostIn : GoodIn wsX10_worst wsX10_lostIn := goodIn_r _ [29, 20, 30, 31, 32, 4, 33, 34, 35, 36, 37, 38, 39, 40, 41, 15, 1, 42, 21, 43, 44, 45, 46, 47, 48, 49, 50, 51, 52, 53, 54, 55, 56, 57, 58, 59, 60, 61, 62, 63, 64, 65, 66, 67, 68, 69, 70, 71, 72, 73, 78, 79, 80, 81, 82, 83, 84, 85, 86, 87, 88, 89, 90, 91, 92, 93, 94, 95, 96, 97, 98, 99, 100, 101, 102] (by decide +kernel) (by decide +kernel)
set_option maxRecDepth 20000 in
theorem gX10_worst_X10_lostIn : GoodIn wsX10_worst (wsV RX10 165 RX10 yX10_lostIn wsX10_lostIn) := goodIn_app (goodIn_of _ (by decide +kernel)) ggX10_worst_X10_lostIn
set_option maxRecDepth 20000 in
theorem ggX10_worst_X10_bits : GoodIn wsX10_worst wsX10_bits := goodIn_r _ [65] (by decide +kernel) (by decide +kernel)
set_option maxRecDepth 20000 in
theorem gX10_worst_X10_bits : GoodIn wsX10_worst (va_wsS RX10 150 yX10_bits wsX10_bits) := goodIn_app (goodIn_of _ (by decide +kernel)) ggX10_worst_X10_bits
set_option maxRecDepth 20000 in
theorem ggX10_worst_X10_has : GoodIn wsX10_worst wsX10_has := goodIn_r _ [62] (by decide +kernel) (by decide +kernel)
set_option maxRecDepth 20000 in
theorem gX10_worst_X10_has : GoodIn wsX10_worst (va_wsS RX10 52 yX10_has wsX10_has) := goodIn_app (goodIn_of _ (by decide +kernel)) ggX10_worst_X10_has
set_option maxRecDepth 20000 in
theorem ggX10_worst_X10_lostWith : GoodIn wsX10_worst wsX10_lostWith := goodIn_r _ [77, 20, 26, 27, 28, 4, 29, 30, 31, 32, 33, 34, 35, 36, 37, 38, 39, 40, 41, 15, 1, 42, 21, 43, 44, 45, 46, 47, 48, 49, 50, 51, 52, 53, 54, 55, 56, 57, 58, 59, 60, 61, 62, 63, 64, 65, 66, 67, 68, 69, 70, 71, 72, 73, 78, 79, 80, 81, 82, 83, 84, 85, 86, 87, 88, 89, 90, 91, 92, 93, 94, 95, 96, 97, 98, 99, 100, 101, 102] (by decide +kernel) (by decide +kernel)
set_option maxRecDepth 20000 in
theorem gX10_worst_X10_lostWith : GoodIn wsX10_worst (wsV RX10 205 RX10 yX10_lostWith wsX10_lostWith) := goodIn_app (goodIn_of _ (by decide +kernel)) ggX10_worst_X10_lostWith
set_option maxRecDepth 20000 in
theorem ggX10_fewest_X10_isThing : GoodIn wsX10_fewest wsX10_isThing := goodIn_r _ [5, 6, 79, 80, 81, 82, 83, 84, 85, 86, 87, 88, 89, 90, 91, 92, 93, 94, 95, 96, 97, 98, 99, 100, 101, 102, 103] (by decide +kernel) (by decide +kernel)
set_option maxRecDepth 20000 in
theorem gX10_fewest_X10_isThing : GoodIn wsX10_fewest (wsV RX10 100 RX10 yX10_isThing wsX10_isThing) := goodIn_app (goodIn_of _ (by decide +kernel)) ggX10_fewest_X10_isThing
set_option maxRecDepth 20000 in
theorem ggX10_fewest_X10_no : GoodIn wsX10_fewest wsX10_no := goodIn_r _ [10, 11, 79, 80, 81, 82, 83, 84, 85, 86, 87, 88, 89, 90, 91, 92, 93, 94, 95, 96, 97, 98, 99, 100, 101, 102, 103] (by decide +kernel) (by decide +kernel)
set_option maxRecDepth 20000 in
theorem gX10_fewest_X10_no : GoodIn wsX10_fewest (wsV RX10 63 RX10 yX10_no wsX10_no) := goodIn_app (goodIn_of _ (by decide +kernel)) ggX10_fewest_X10_no
set_option maxRecDepth 20000 in
theorem ggX10_fewest_X10_nails : GoodIn wsX10_fewest wsX10_nails := goodIn_r _ [15, 6, 16, 79, 80, 81, 82, 83, 84, 85, 86, 87, 88, 89, 90, 91, 92, 93, 94, 95, 96, 97, 98, 99, 100, 101, 102, 103] (by decide +kernel) (by decide +kernel)
set_option maxRecDepth 20000 in
theorem gX10_fewest_X10_nails : GoodIn wsX10_fewest (wsV RX10 199 RX10 yX10_nails wsX10_nails) := goodIn_app (goodIn_of _ (by decide +kernel)) ggX10_fewest_X10_nails
set_option maxRecDepth 20000 in
theorem ggX10_fewest_X10_bare : GoodIn wsX10_fewest wsX10_bare := goodIn_r _ [20, 21, 22, 23, 24, 25, 4, 26, 6, 79, 80, 81, 82, 83, 84, 85, 86, 87, 88, 89, 90, 91, 92, 93, 94, 95, 96, 97, 98, 99, 100, 101, 102, 103] (by decide +kernel) (by decide +kernel)
set_option maxRecDepth 20000 in
theorem gX10_fewest_X10_bare : GoodIn wsX10_fewest (wsV RX10 193 RX10 yX10_bare wsX10_bare) := goodIn_app (goodIn_of _ (by decide +kernel)) ggX10_fewest_X10_bare
set_option maxRecDepth 20000 in
theorem ggX10_fewest_X10_all : GoodIn wsX10_fewest wsX10_all := goodIn_r _ [26, 6, 79, 80, 81, 82, 83, 84, 85, 86, 87, 88, 89, 90, 91, 92, 93, 94, 95, 96, 97, 98, 99, 100, 101, 102, 103] (by decide +kernel) (by decide +kernel)
set_option maxRecDepth 20000 in
theorem gX10_fewest_X10_all : GoodIn wsX10_fewest (wsV RX10 190 RX10 yX10_all wsX10_all) := goodIn_app (goodIn_of _ (by decide +kernel)) ggX10_fewest_X10_all
set_option maxRecDepth 20000 in
theorem ggX10_fewest_X10_bits : GoodIn wsX10_fewest wsX10_bits := goodIn_r _ [29] (by decide +kernel) (by decide +kernel)
set_option maxRecDepth 20000 in
theorem gX10_fewest_X10_bits : GoodIn wsX10_fewest (va_wsS RX10 150 yX10_bits wsX10_bits) := goodIn_app (goodIn_of _ (by decide +kernel)) ggX10_fewest_X10_bits
set_option maxRecDepth 20000 in
theorem ggX10_fewest_X10_lostWith : GoodIn wsX10_fewest wsX10_lostWith := goodIn_r _ [33, 21, 34, 35, 36, 4, 37, 38, 39, 40, 41, 42, 43, 44, 45, 46, 47, 48, 49, 16, 6, 50, 22, 51, 52, 53, 54, 55, 56, 57, 58, 59, 60, 61, 62, 63, 64, 65, 66, 67, 68, 69, 70, 27, 28, 29, 71, 72, 73, 74, 75, 76, 77, 78, 79, 80, 81, 82, 83, 84, 85, 86, 87, 88, 89, 90, 91, 92, 93, 94, 95, 96, 97, 98, 99, 100, 101, 102, 103] (by decide +kernel) (by decide +kernel)
set_option maxRecDepth 20000 in
theorem gX10_fewest_X10_lostWith : GoodIn wsX10_fewest (wsV RX10 205 RX10 yX10_lostWith wsX10_lostWith) := goodIn_app (goodIn_of _ (by decide +kernel)) ggX10_fewest_X10_lostWith
set_option maxRecDepth 20000 in
theorem ggX10_fewest_X10_has : GoodIn wsX10_fewest wsX10_has := goodIn_r _ [70] (by decide +kernel) (by decide +kernel)
set_option maxRecDepth 20000 in
theorem gX10_fewest_X10_has : GoodIn wsX10_fewest (va_wsS RX10 52 yX10_has wsX10_has) := goodIn_app (goodIn_of _ (by decide +kernel)) ggX10_fewest_X10_has
set_option maxRecDepth 20000 in
theorem ggX10_firstNails_X10_bits : GoodIn wsX10_firstNails wsX10_bits := goodIn_r _ [6] (by decide +kernel) (by decide +kernel)
set_option maxRecDepth 20000 in
theorem gX10_firstNails_X10_bits : GoodIn wsX10_firstNails (va_wsS RX10 150 yX10_bits wsX10_bits) := goodIn_app (goodIn_of _ (by decide +kernel)) ggX10_firstNails_X10_bits
set_option maxRecDepth 20000 in
theorem ggX10_blamedBy_X10_bits : GoodIn wsX10_blamedBy wsX10_bits := goodIn_r _ [6] (by decide +kernel) (by decide +kernel)
set_option maxRecDepth 20000 in
theorem gX10_blamedBy_X10_bits : GoodIn wsX10_blamedBy (va_wsS RX10 150 yX10_bits wsX10_bits) := goodIn_app (goodIn_of _ (by decide +kernel)) ggX10_blamedBy_X10_bits
set_option maxRecDepth 20000 in
theorem ggX10_blamedBy_X10_nth : GoodIn wsX10_blamedBy wsX10_nth := goodIn_r _ [9, 10, 11, 5, 12] (by decide +kernel) (by decide +kernel)
set_option maxRecDepth 20000 in
theorem gX10_blamedBy_X10_nth : GoodIn wsX10_blamedBy (va_wsS RX10 208 yX10_nth wsX10_nth) := goodIn_app (goodIn_of _ (by decide +kernel)) ggX10_blamedBy_X10_nth
set_option maxRecDepth 20000 in
theorem ggX10_blamedBy_X10_goes : GoodIn wsX10_blamedBy wsX10_goes := goodIn_r _ [16, 17, 18, 19, 5, 20, 21, 22, 1, 2, 23, 10, 11, 12, 3, 4, 6, 24, 25, 26, 27, 28, 29, 30, 31, 32, 33, 34, 35, 36, 37, 38, 39, 40, 41, 42, 43, 44, 45, 46, 47, 48, 49, 50, 51, 52, 53, 54] (by decide +kernel) (by decide +kernel)
set_option maxRecDepth 20000 in
theorem gX10_blamedBy_X10_goes : GoodIn wsX10_blamedBy (wsV RX10 106 RX10 yX10_goes wsX10_goes) := goodIn_app (goodIn_of _ (by decide +kernel)) ggX10_blamedBy_X10_goes
set_option maxRecDepth 20000 in
theorem ggX10_blamedBy_X10_has : GoodIn wsX10_blamedBy wsX10_has := goodIn_r _ [12] (by decide +kernel) (by decide +kernel)
set_option maxRecDepth 20000 in
theorem gX10_blamedBy_X10_has : GoodIn wsX10_blamedBy (va_wsS RX10 52 yX10_has wsX10_has) := goodIn_app (goodIn_of _ (by decide +kernel)) ggX10_blamedBy_X10_has
set_option maxRecDepth 20000 in
theorem ggX10_partOf_X10_divisor : GoodIn wsX10_partOf wsX10_divisor := goodIn_r _ [4] (by decide +kernel) (by decide +kernel)
set_option maxRecDepth 20000 in
theorem gX10_partOf_X10_divisor : GoodIn wsX10_partOf (va_wsS RX10 211 yX10_divisor wsX10_divisor) := goodIn_app (goodIn_of _ (by decide +kernel)) ggX10_partOf_X10_divisor
set_option maxRecDepth 20000 in
theorem ggX10_blame_X10_isThing : GoodIn wsX10_blame wsX10_isThing := goodIn_r _ [5, 6, 80, 81, 82, 83, 84, 85, 86, 87, 88, 89, 90, 91, 92, 93, 94, 95, 96, 97, 98, 99, 100, 101, 102, 103, 104] (by decide +kernel) (by decide +kernel)
set_option maxRecDepth 20000 in
theorem gX10_blame_X10_isThing : GoodIn wsX10_blame (wsV RX10 100 RX10 yX10_isThing wsX10_isThing) := goodIn_app (goodIn_of _ (by decide +kernel)) ggX10_blame_X10_isThing
set_option maxRecDepth 20000 in
theorem ggX10_blame_X10_firstNails : GoodIn wsX10_blame wsX10_firstNails := goodIn_r _ [10, 6, 11, 12, 13, 4, 14, 80, 81, 82, 83, 84, 85, 86, 87, 88, 89, 90, 91, 92, 93, 94, 95, 96, 97, 98, 99, 100, 101, 102, 103, 104] (by decide +kernel) (by decide +kernel)
set_option maxRecDepth 20000 in
theorem gX10_blame_X10_firstNails : GoodIn wsX10_blame (wsV RX10 215 RX10 yX10_firstNails wsX10_firstNails) := goodIn_app (goodIn_of _ (by decide +kernel)) ggX10_blame_X10_firstNails
set_option maxRecDepth 20000 in
theorem ggX10_blame_X10_has : GoodIn wsX10_blame wsX10_has := goodIn_r _ [17] (by decide +kernel) (by decide +kernel)
set_option maxRecDepth 20000 in
theorem gX10_blame_X10_has : GoodIn wsX10_blame (va_wsS RX10 52 yX10_has wsX10_has) := goodIn_app (goodIn_of _ (by decide +kernel)) ggX10_blame_X10_has
set_option maxRecDepth 20000 in
theorem ggX10_blame_X10_isIn : GoodIn wsX10_blame wsX10_isIn := goodIn_r _ [20] (by decide +kernel) (by decide +kernel)
set_option maxRecDepth 20000 in
theorem gX10_blame_X10_isIn : GoodIn wsX10_blame (va_wsS RX10 74 yX10_isIn wsX10_isIn) := goodIn_app (goodIn_of _ (by decide +kernel)) ggX10_blame_X10_isIn
set_option maxRecDepth 20000 in
theorem ggX10_blame_X10_lowestOf : GoodIn wsX10_blame wsX10_lowestOf := goodIn_r _ [24, 25, 26, 80, 81, 82, 83, 84, 85, 86, 87, 88, 89, 90, 91, 92, 93, 94, 95, 96, 97, 98, 99, 100, 101, 102, 103, 104] (by decide +kernel) (by decide +kernel)
set_option maxRecDepth 20000 in
theorem gX10_blame_X10_lowestOf : GoodIn wsX10_blame (wsV RX10 218 RX10 yX10_lowestOf wsX10_lowestOf) := goodIn_app (goodIn_of _ (by decide +kernel)) ggX10_blame_X10_lowestOf
set_option maxRecDepth 20000 in
theorem ggX10_blame_X10_bits : GoodIn wsX10_blame wsX10_bits := goodIn_r _ [14] (by decide +kernel) (by decide +kernel)
set_option maxRecDepth 20000 in
theorem gX10_blame_X10_bits : GoodIn wsX10_blame (va_wsS RX10 150 yX10_bits wsX10_bits) := goodIn_app (goodIn_of _ (by decide +kernel)) ggX10_blame_X10_bits
set_option maxRecDepth 20000 in
theorem ggX10_blame_X10_thinks : GoodIn wsX10_blame wsX10_thinks := goodIn_r _ [30, 31, 32, 33, 4, 34, 35, 36, 37, 38, 11, 6, 39, 40, 41, 42, 43, 44, 45, 46, 47, 48, 49, 50, 80, 81, 82, 83, 84, 85, 86, 87, 88, 89, 90, 91, 92, 93, 94, 95, 96, 97, 98, 99, 100, 101, 102, 103, 104] (by decide +kernel) (by decide +kernel)
set_option maxRecDepth 20000 in
theorem gX10_blame_X10_thinks : GoodIn wsX10_blame (wsV RX10 159 RX10 yX10_thinks wsX10_thinks) := goodIn_app (goodIn_of _ (by decide +kernel)) ggX10_blame_X10_thinks
set_option maxRecDepth 20000 in
theorem ggX10_blame_X10_blamedBy : GoodIn wsX10_blame wsX10_blamedBy := goodIn_r _ [54, 40, 41, 12, 13, 4, 14, 55, 56, 57, 15, 16, 17, 58, 59, 60, 61, 62, 63, 64, 65, 39, 6, 11, 66, 67, 68, 69, 37, 38, 80, 81, 82, 83, 84, 85, 86, 87, 88, 89, 90, 91, 92, 93, 94, 95, 96, 97, 98, 99, 100, 101, 102, 103, 104] (by decide +kernel) (by decide +kernel)
set_option maxRecDepth 20000 in
theorem gX10_blame_X10_blamedBy : GoodIn wsX10_blame (wsV RX10 222 RX10 yX10_blamedBy wsX10_blamedBy) := goodIn_app (goodIn_of _ (by decide +kernel)) ggX10_blame_X10_blamedBy
set_option maxRecDepth 20000 in
theorem ggX10_blame_X10_forgets : GoodIn wsX10_blame wsX10_forgets := goodIn_r _ [73, 31, 32, 33, 4, 34, 35, 36, 37, 38, 11, 6, 39, 40, 41, 42, 43, 44, 45, 46, 47, 48, 49, 50, 80, 81, 82, 83, 84, 85, 86, 87, 88, 89, 90, 91, 92, 93, 94, 95, 96, 97, 98, 99, 100, 101, 102, 103, 104] (by decide +kernel) (by decide +kernel)
set_option maxRecDepth 20000 in
theorem gX10_blame_X10_forgets : GoodIn wsX10_blame (wsV RX10 162 RX10 yX10_forgets wsX10_forgets) := goodIn_app (goodIn_of _ (by decide +kernel)) ggX10_blame_X10_forgets
set_option maxRecDepth 20000 in
theorem ggX10_blame_X10_partOf : GoodIn wsX10_blame wsX10_partOf := goodIn_r _ [76, 77, 78, 4, 79] (by decide +kernel) (by decide +kernel)
set_option maxRecDepth 20000 in
theorem gX10_blame_X10_partOf : GoodIn wsX10_blame (va_wsS RX10 226 yX10_partOf wsX10_partOf) := goodIn_app (goodIn_of _ (by decide +kernel)) ggX10_blame_X10_partOf
set_option maxRecDepth 20000 in
theorem ggX10_saved_X10_isThing : GoodIn wsX10_saved wsX10_isThing := goodIn_r _ [6, 7, 66, 67, 68, 69, 70, 71, 72, 73, 74, 75, 76, 77, 78, 79, 80, 81, 82, 83, 84, 85, 86, 87, 88, 89, 90] (by decide +kernel) (by decide +kernel)
set_option maxRecDepth 20000 in
theorem gX10_saved_X10_isThing : GoodIn wsX10_saved (wsV RX10 100 RX10 yX10_isThing wsX10_isThing) := goodIn_app (goodIn_of _ (by decide +kernel)) ggX10_saved_X10_isThing
set_option maxRecDepth 20000 in
theorem ggX10_saved_X10_bound : GoodIn wsX10_saved wsX10_bound := goodIn_r _ [10] (by decide +kernel) (by decide +kernel)
set_option maxRecDepth 20000 in
theorem gX10_saved_X10_bound : GoodIn wsX10_saved (va_wsS RX10 56 yX10_bound wsX10_bound) := goodIn_app (goodIn_of _ (by decide +kernel)) ggX10_saved_X10_bound
set_option maxRecDepth 20000 in
theorem ggX10_saved_X10_no : GoodIn wsX10_saved wsX10_no := goodIn_r _ [14, 15, 66, 67, 68, 69, 70, 71, 72, 73, 74, 75, 76, 77, 78, 79, 80, 81, 82, 83, 84, 85, 86, 87, 88, 89, 90] (by decide +kernel) (by decide +kernel)
set_option maxRecDepth 20000 in
theorem gX10_saved_X10_no : GoodIn wsX10_saved (wsV RX10 63 RX10 yX10_no wsX10_no) := goodIn_app (goodIn_of _ (by decide +kernel)) ggX10_saved_X10_no

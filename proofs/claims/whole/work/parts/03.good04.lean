set_option maxRecDepth 20000 in
theorem ggX9_when_X9_refuse : GoodIn wsX9_when wsX9_refuse := goodIn_r _ [34, 35, 36, 37, 38, 39, 40, 41, 42, 43] (by decide +kernel) (by decide +kernel)
set_option maxRecDepth 20000 in
theorem gX9_when_X9_refuse : GoodIn wsX9_when (wsV RX9 51 RX9 yX9_refuse wsX9_refuse) := goodIn_app (goodIn_of _ (by decide +kernel)) ggX9_when_X9_refuse
set_option maxRecDepth 20000 in
theorem ggX9_next_X4_firstToFall : GoodIn wsX9_next wsX4_firstToFall := goodIn_r _ [5, 6, 7, 8, 9, 10, 11, 12, 13, 14, 15, 16, 17, 18, 19, 20, 21, 22, 23, 24, 25, 26, 27, 28, 29, 55, 56, 57, 58, 59, 60, 61] (by decide +kernel) (by decide +kernel)
set_option maxRecDepth 20000 in
theorem gX9_next_X4_firstToFall : GoodIn wsX9_next (va_wsS RX9 147 yX4_firstToFall wsX4_firstToFall) := goodIn_app (goodIn_of _ (by decide +kernel)) ggX9_next_X4_firstToFall
set_option maxRecDepth 20000 in
theorem ggX9_next_X4_daysUntilLost : GoodIn wsX9_next wsX4_daysUntilLost := goodIn_r _ [32, 6, 7, 8, 9, 10, 11, 12, 13, 14, 15, 16, 17, 18, 19, 20, 21, 22, 23, 24, 25, 55, 56, 57, 58, 59, 60, 61] (by decide +kernel) (by decide +kernel)
set_option maxRecDepth 20000 in
theorem gX9_next_X4_daysUntilLost : GoodIn wsX9_next (va_wsS RX9 144 yX4_daysUntilLost wsX4_daysUntilLost) := goodIn_app (goodIn_of _ (by decide +kernel)) ggX9_next_X4_daysUntilLost
set_option maxRecDepth 20000 in
theorem ggX9_next_X4_daysUntilStill : GoodIn wsX9_next wsX4_daysUntilStill := goodIn_r _ [35, 36, 37, 38, 9, 39, 40, 7, 8, 10, 11, 12, 13, 14, 15, 16, 17, 18, 19, 20, 21, 22, 23, 24, 25, 6, 55, 56, 57, 58, 59, 60, 61] (by decide +kernel) (by decide +kernel)
set_option maxRecDepth 20000 in
theorem gX9_next_X4_daysUntilStill : GoodIn wsX9_next (va_wsS RX9 150 yX4_daysUntilStill wsX4_daysUntilStill) := goodIn_app (goodIn_of _ (by decide +kernel)) ggX9_next_X4_daysUntilStill
set_option maxRecDepth 20000 in
theorem ggX9_next_X9_refuse : GoodIn wsX9_next wsX9_refuse := goodIn_r _ [45, 46, 47, 48, 49, 50, 51, 52, 53, 54] (by decide +kernel) (by decide +kernel)
set_option maxRecDepth 20000 in
theorem gX9_next_X9_refuse : GoodIn wsX9_next (wsV RX9 51 RX9 yX9_refuse wsX9_refuse) := goodIn_app (goodIn_of _ (by decide +kernel)) ggX9_next_X9_refuse
set_option maxRecDepth 20000 in
theorem ggX9_roots_X7_has : GoodIn wsX9_roots wsX7_has := goodIn_r _ [6, 7, 40, 41, 42, 43, 44, 45, 46] (by decide +kernel) (by decide +kernel)
set_option maxRecDepth 20000 in
theorem gX9_roots_X7_has : GoodIn wsX9_roots (wsV RX9 77 RX7 yX7_has wsX7_has) := goodIn_app (goodIn_of _ (by decide +kernel)) ggX9_roots_X7_has
set_option maxRecDepth 20000 in
theorem ggX9_roots_X9_refuse : GoodIn wsX9_roots wsX9_refuse := goodIn_r _ [12, 13, 32, 33, 34, 35, 36, 37, 38, 39] (by decide +kernel) (by decide +kernel)
set_option maxRecDepth 20000 in
theorem gX9_roots_X9_refuse : GoodIn wsX9_roots (wsV RX9 51 RX9 yX9_refuse wsX9_refuse) := goodIn_app (goodIn_of _ (by decide +kernel)) ggX9_roots_X9_refuse
set_option maxRecDepth 20000 in
theorem ggX9_roots_X9_isPart : GoodIn wsX9_roots wsX9_isPart := goodIn_r _ [16] (by decide +kernel) (by decide +kernel)
set_option maxRecDepth 20000 in
theorem gX9_roots_X9_isPart : GoodIn wsX9_roots (va_wsS RX9 153 yX9_isPart wsX9_isPart) := goodIn_app (goodIn_of _ (by decide +kernel)) ggX9_roots_X9_isPart
set_option maxRecDepth 20000 in
theorem ggX9_roots_X7_rootsOf : GoodIn wsX9_roots wsX7_rootsOf := goodIn_r _ [20, 21, 22, 23, 5, 24, 25, 26, 3, 4, 6, 7, 40, 41, 42, 43, 44, 45, 46] (by decide +kernel) (by decide +kernel)
set_option maxRecDepth 20000 in
theorem gX9_roots_X7_rootsOf : GoodIn wsX9_roots (wsV RX9 156 RX7 yX7_rootsOf wsX7_rootsOf) := goodIn_app (goodIn_of _ (by decide +kernel)) ggX9_roots_X7_rootsOf
set_option maxRecDepth 20000 in
theorem ggX9_roots_X7_fruitsOf : GoodIn wsX9_roots wsX7_fruitsOf := goodIn_r _ [30, 7, 31, 18, 19, 5, 20, 21, 22, 23, 24, 25, 26, 3, 4, 6, 40, 41, 42, 43, 44, 45, 46] (by decide +kernel) (by decide +kernel)
set_option maxRecDepth 20000 in
theorem gX9_roots_X7_fruitsOf : GoodIn wsX9_roots (wsV RX9 159 RX7 yX7_fruitsOf wsX7_fruitsOf) := goodIn_app (goodIn_of _ (by decide +kernel)) ggX9_roots_X7_fruitsOf
set_option maxRecDepth 20000 in
theorem ggX9_nails_X7_withoutCauses : GoodIn wsX9_nails wsX7_withoutCauses := goodIn_r _ [6, 7, 8, 9, 10, 5, 11, 12, 13, 14, 15, 16, 25, 26, 27, 28, 29, 30, 31] (by decide +kernel) (by decide +kernel)
set_option maxRecDepth 20000 in
theorem gX9_nails_X7_withoutCauses : GoodIn wsX9_nails (wsV RX9 162 RX7 yX7_withoutCauses wsX7_withoutCauses) := goodIn_app (goodIn_of _ (by decide +kernel)) ggX9_nails_X7_withoutCauses
set_option maxRecDepth 20000 in
theorem ggX9_guard_X7_has : GoodIn wsX9_guard wsX7_has := goodIn_r _ [6, 7, 72, 73, 74, 75, 76, 77, 78] (by decide +kernel) (by decide +kernel)
set_option maxRecDepth 20000 in
theorem gX9_guard_X7_has : GoodIn wsX9_guard (wsV RX9 77 RX7 yX7_has wsX7_has) := goodIn_app (goodIn_of _ (by decide +kernel)) ggX9_guard_X7_has
set_option maxRecDepth 20000 in
theorem ggX9_guard_X9_refuse : GoodIn wsX9_guard wsX9_refuse := goodIn_r _ [12, 13, 64, 65, 66, 67, 68, 69, 70, 71] (by decide +kernel) (by decide +kernel)
set_option maxRecDepth 20000 in
theorem gX9_guard_X9_refuse : GoodIn wsX9_guard (wsV RX9 51 RX9 yX9_refuse wsX9_refuse) := goodIn_app (goodIn_of _ (by decide +kernel)) ggX9_guard_X9_refuse
set_option maxRecDepth 20000 in
theorem ggX9_guard_X9_outside : GoodIn wsX9_guard wsX9_outside := goodIn_r _ [16] (by decide +kernel) (by decide +kernel)
set_option maxRecDepth 20000 in
theorem gX9_guard_X9_outside : GoodIn wsX9_guard (va_wsS RX9 124 yX9_outside wsX9_outside) := goodIn_app (goodIn_of _ (by decide +kernel)) ggX9_guard_X9_outside
set_option maxRecDepth 20000 in
theorem ggX9_guard_X4_fewestToGuard : GoodIn wsX9_guard wsX4_fewestToGuard := goodIn_r _ [20, 21, 22, 23, 5, 24, 25, 26, 3, 4, 6, 7, 27, 28, 19, 29, 30, 31, 32, 33, 34, 35, 36, 37, 38, 39, 40, 41, 42, 43, 44, 45, 46, 47, 48, 49, 50, 51, 52, 53, 54, 55, 56, 57, 58, 59, 60, 61, 62, 63, 72, 73, 74, 75, 76, 77, 78] (by decide +kernel) (by decide +kernel)
set_option maxRecDepth 20000 in
theorem gX9_guard_X4_fewestToGuard : GoodIn wsX9_guard (va_wsS RX9 165 yX4_fewestToGuard wsX4_fewestToGuard) := goodIn_app (goodIn_of _ (by decide +kernel)) ggX9_guard_X4_fewestToGuard
set_option maxRecDepth 20000 in
theorem ggX9_weak_X9_outside : GoodIn wsX9_weak wsX9_outside := goodIn_r _ [5] (by decide +kernel) (by decide +kernel)
set_option maxRecDepth 20000 in
theorem gX9_weak_X9_outside : GoodIn wsX9_weak (va_wsS RX9 124 yX9_outside wsX9_outside) := goodIn_app (goodIn_of _ (by decide +kernel)) ggX9_weak_X9_outside
set_option maxRecDepth 20000 in
theorem ggX9_weak_X9_refuse : GoodIn wsX9_weak wsX9_refuse := goodIn_r _ [9, 10, 56, 57, 58, 59, 60, 61, 62, 63] (by decide +kernel) (by decide +kernel)
set_option maxRecDepth 20000 in
theorem gX9_weak_X9_refuse : GoodIn wsX9_weak (wsV RX9 51 RX9 yX9_refuse wsX9_refuse) := goodIn_app (goodIn_of _ (by decide +kernel)) ggX9_weak_X9_refuse
set_option maxRecDepth 20000 in
theorem ggX9_weak_X4_bestToGuard : GoodIn wsX9_weak wsX4_bestToGuard := goodIn_r _ [14, 15, 16, 13, 17, 18, 19, 20, 21, 22, 23, 24, 25, 26, 27, 28, 29, 30, 31, 32, 33, 34, 35, 36, 37, 38, 39, 40, 41, 42, 43, 44, 45, 46, 47, 48, 49, 50, 51, 52, 53, 54, 55, 64, 65, 66, 67, 68, 69, 70] (by decide +kernel) (by decide +kernel)
set_option maxRecDepth 20000 in
theorem gX9_weak_X4_bestToGuard : GoodIn wsX9_weak (va_wsS RX9 168 yX4_bestToGuard wsX4_bestToGuard) := goodIn_app (goodIn_of _ (by decide +kernel)) ggX9_weak_X4_bestToGuard
set_option maxRecDepth 20000 in
theorem ggX9_tack_X7_has : GoodIn wsX9_tack wsX7_has := goodIn_r _ [6, 7, 70, 71, 72, 73, 74, 75, 76] (by decide +kernel) (by decide +kernel)
set_option maxRecDepth 20000 in
theorem gX9_tack_X7_has : GoodIn wsX9_tack (wsV RX9 77 RX7 yX7_has wsX7_has) := goodIn_app (goodIn_of _ (by decide +kernel)) ggX9_tack_X7_has
set_option maxRecDepth 20000 in
theorem ggX9_tack_X4_soonestNail : GoodIn wsX9_tack wsX4_soonestNail := goodIn_r _ [11, 12, 13, 10, 14, 15, 16, 17, 5, 18, 7, 19, 20, 21, 22, 23, 24, 25, 26, 27, 28, 29, 30, 31, 32, 33, 34, 35, 36, 37, 38, 39, 40, 41, 42, 43, 44, 45, 3, 4, 6, 46, 47, 48, 49, 50, 51, 52, 53, 54, 55, 70, 71, 72, 73, 74, 75, 76] (by decide +kernel) (by decide +kernel)
set_option maxRecDepth 20000 in
theorem gX9_tack_X4_soonestNail : GoodIn wsX9_tack (va_wsS RX9 172 yX4_soonestNail wsX4_soonestNail) := goodIn_app (goodIn_of _ (by decide +kernel)) ggX9_tack_X4_soonestNail
set_option maxRecDepth 20000 in
theorem ggX9_tack_X9_refuse : GoodIn wsX9_tack wsX9_refuse := goodIn_r _ [60, 61, 62, 63, 64, 65, 66, 67, 68, 69] (by decide +kernel) (by decide +kernel)
set_option maxRecDepth 20000 in
theorem gX9_tack_X9_refuse : GoodIn wsX9_tack (wsV RX9 51 RX9 yX9_refuse wsX9_refuse) := goodIn_app (goodIn_of _ (by decide +kernel)) ggX9_tack_X9_refuse
set_option maxRecDepth 20000 in
theorem ggX9_worst_X9_outside : GoodIn wsX9_worst wsX9_outside := goodIn_r _ [5] (by decide +kernel) (by decide +kernel)
set_option maxRecDepth 20000 in
theorem gX9_worst_X9_outside : GoodIn wsX9_worst (va_wsS RX9 124 yX9_outside wsX9_outside) := goodIn_app (goodIn_of _ (by decide +kernel)) ggX9_worst_X9_outside
set_option maxRecDepth 20000 in
theorem ggX9_worst_X9_refuse : GoodIn wsX9_worst wsX9_refuse := goodIn_r _ [9, 10, 69, 70, 71, 72, 73, 74, 75, 76] (by decide +kernel) (by decide +kernel)
set_option maxRecDepth 20000 in
theorem gX9_worst_X9_refuse : GoodIn wsX9_worst (wsV RX9 51 RX9 yX9_refuse wsX9_refuse) := goodIn_app (goodIn_of _ (by decide +kernel)) ggX9_worst_X9_refuse
set_option maxRecDepth 20000 in
theorem ggX9_worst_X4_worstNail : GoodIn wsX9_worst wsX4_worstNail := goodIn_r _ [14, 15, 16, 13, 17, 18, 19, 20, 21, 22, 23, 24, 25, 26, 27, 28, 29, 30, 31, 32, 33, 34, 35, 36, 37, 38, 39, 40, 41, 42, 43, 44, 45, 46, 47, 48, 49, 50, 51, 52, 53, 54, 55, 56, 57, 58, 59, 60, 61, 62, 63, 64, 65, 66, 67, 68, 77, 78, 79, 80, 81, 82, 83] (by decide +kernel) (by decide +kernel)
set_option maxRecDepth 20000 in
theorem gX9_worst_X4_worstNail : GoodIn wsX9_worst (va_wsS RX9 175 yX4_worstNail wsX4_worstNail) := goodIn_app (goodIn_of _ (by decide +kernel)) ggX9_worst_X4_worstNail
set_option maxRecDepth 20000 in
theorem ggX9_fewest_X7_has : GoodIn wsX9_fewest wsX7_has := goodIn_r _ [6, 7, 72, 73, 74, 75, 76, 77, 78] (by decide +kernel) (by decide +kernel)
set_option maxRecDepth 20000 in
theorem gX9_fewest_X7_has : GoodIn wsX9_fewest (wsV RX9 77 RX7 yX7_has wsX7_has) := goodIn_app (goodIn_of _ (by decide +kernel)) ggX9_fewest_X7_has
set_option maxRecDepth 20000 in
theorem ggX9_fewest_X4_fewestToLose : GoodIn wsX9_fewest wsX4_fewestToLose := goodIn_r _ [11, 12, 13, 14, 5, 15, 16, 17, 18, 19, 7, 20, 21, 22, 23, 24, 25, 3, 4, 6, 26, 27, 28, 29, 30, 31, 32, 33, 34, 35, 36, 37, 38, 39, 40, 41, 42, 43, 44, 45, 10, 46, 47, 48, 49, 50, 51, 52, 53, 54, 55, 56, 57, 72, 73, 74, 75, 76, 77, 78] (by decide +kernel) (by decide +kernel)
set_option maxRecDepth 20000 in
theorem gX9_fewest_X4_fewestToLose : GoodIn wsX9_fewest (va_wsS RX9 178 yX4_fewestToLose wsX4_fewestToLose) := goodIn_app (goodIn_of _ (by decide +kernel)) ggX9_fewest_X4_fewestToLose
set_option maxRecDepth 20000 in
theorem ggX9_fewest_X9_refuse : GoodIn wsX9_fewest wsX9_refuse := goodIn_r _ [62, 63, 64, 65, 66, 67, 68, 69, 70, 71] (by decide +kernel) (by decide +kernel)
set_option maxRecDepth 20000 in
theorem gX9_fewest_X9_refuse : GoodIn wsX9_fewest (wsV RX9 51 RX9 yX9_refuse wsX9_refuse) := goodIn_app (goodIn_of _ (by decide +kernel)) ggX9_fewest_X9_refuse
set_option maxRecDepth 20000 in
theorem ggX9_blame_X7_has : GoodIn wsX9_blame wsX7_has := goodIn_r _ [6, 7, 85, 86, 87, 88, 89, 90, 91] (by decide +kernel) (by decide +kernel)
set_option maxRecDepth 20000 in
theorem gX9_blame_X7_has : GoodIn wsX9_blame (wsV RX9 77 RX7 yX7_has wsX7_has) := goodIn_app (goodIn_of _ (by decide +kernel)) ggX9_blame_X7_has
set_option maxRecDepth 20000 in
theorem ggX9_blame_X9_refuseLong : GoodIn wsX9_blame wsX9_refuseLong := goodIn_r _ [12, 13, 14, 15, 16, 11, 17, 18, 77, 78, 79, 80, 81, 82, 83, 84] (by decide +kernel) (by decide +kernel)
set_option maxRecDepth 20000 in
theorem gX9_blame_X9_refuseLong : GoodIn wsX9_blame (wsV RX9 181 RX9 yX9_refuseLong wsX9_refuseLong) := goodIn_app (goodIn_of _ (by decide +kernel)) ggX9_blame_X9_refuseLong
set_option maxRecDepth 20000 in
theorem ggX9_blame_X6_firstNails : GoodIn wsX9_blame wsX6_firstNails := goodIn_r _ [22, 23, 24, 25, 5, 26, 7, 27, 28, 29, 30, 31, 32, 3, 4, 6, 33, 34, 35, 36, 37, 38, 39, 85, 86, 87, 88, 89, 90, 91] (by decide +kernel) (by decide +kernel)
set_option maxRecDepth 20000 in
theorem gX9_blame_X6_firstNails : GoodIn wsX9_blame (va_wsS RX9 185 yX6_firstNails wsX6_firstNails) := goodIn_app (goodIn_of _ (by decide +kernel)) ggX9_blame_X6_firstNails
set_option maxRecDepth 20000 in
theorem ggX9_blame_X9_isPart : GoodIn wsX9_blame wsX9_isPart := goodIn_r _ [42] (by decide +kernel) (by decide +kernel)
set_option maxRecDepth 20000 in
theorem gX9_blame_X9_isPart : GoodIn wsX9_blame (va_wsS RX9 153 yX9_isPart wsX9_isPart) := goodIn_app (goodIn_of _ (by decide +kernel)) ggX9_blame_X9_isPart
set_option maxRecDepth 20000 in
theorem ggX9_blame_X6_blaming : GoodIn wsX9_blame wsX6_blaming := goodIn_r _ [45, 46, 20, 21, 22, 23, 24, 25, 5, 26, 7, 27, 28, 29, 30, 31, 32, 3, 4, 6, 33, 34, 35, 36, 37, 38, 39, 47, 48, 49, 50, 51, 52, 53, 54, 55, 56, 57, 58, 59, 60, 61, 62, 63, 64, 65, 66, 67, 85, 86, 87, 88, 89, 90, 91] (by decide +kernel) (by decide +kernel)
set_option maxRecDepth 20000 in
theorem gX9_blame_X6_blaming : GoodIn wsX9_blame (va_wsS RX9 190 yX6_blaming wsX6_blaming) := goodIn_app (goodIn_of _ (by decide +kernel)) ggX9_blame_X6_blaming
set_option maxRecDepth 20000 in
theorem ggX9_blame_J6_bitCount_0f7a4 : GoodIn wsX9_blame wsJ6_bitCount_0f7a4 := goodIn_r _ [36, 37, 38, 39] (by decide +kernel) (by decide +kernel)
set_option maxRecDepth 20000 in
theorem gX9_blame_J6_bitCount_0f7a4 : GoodIn wsX9_blame (va_wsS RX9 110 yJ6_bitCount_0f7a4 wsJ6_bitCount_0f7a4) := goodIn_app (goodIn_of _ (by decide +kernel)) ggX9_blame_J6_bitCount_0f7a4
set_option maxRecDepth 20000 in
theorem ggX9_blame_X6_ofThese : GoodIn wsX9_blame wsX6_ofThese := goodIn_r _ [67] (by decide +kernel) (by decide +kernel)
set_option maxRecDepth 20000 in
theorem gX9_blame_X6_ofThese : GoodIn wsX9_blame (va_wsS RX9 194 yX6_ofThese wsX6_ofThese) := goodIn_app (goodIn_of _ (by decide +kernel)) ggX9_blame_X6_ofThese
set_option maxRecDepth 20000 in
theorem ggX9_blame_X1_part : GoodIn wsX9_blame wsX1_part := goodIn_r _ [73, 74, 75, 72, 76] (by decide +kernel) (by decide +kernel)
set_option maxRecDepth 20000 in
theorem gX9_blame_X1_part : GoodIn wsX9_blame (va_wsS RX9 197 yX1_part wsX1_part) := goodIn_app (goodIn_of _ (by decide +kernel)) ggX9_blame_X1_part
set_option maxRecDepth 20000 in
theorem ggX9_saved_X7_has : GoodIn wsX9_saved wsX7_has := goodIn_r _ [6, 7, 55, 56, 57, 58, 59, 60, 61] (by decide +kernel) (by decide +kernel)
set_option maxRecDepth 20000 in
theorem gX9_saved_X7_has : GoodIn wsX9_saved (wsV RX9 77 RX7 yX7_has wsX7_has) := goodIn_app (goodIn_of _ (by decide +kernel)) ggX9_saved_X7_has
set_option maxRecDepth 20000 in
theorem ggX9_saved_X9_refuse : GoodIn wsX9_saved wsX9_refuse := goodIn_r _ [12, 13, 47, 48, 49, 50, 51, 52, 53, 54] (by decide +kernel) (by decide +kernel)
set_option maxRecDepth 20000 in
theorem gX9_saved_X9_refuse : GoodIn wsX9_saved (wsV RX9 51 RX9 yX9_refuse wsX9_refuse) := goodIn_app (goodIn_of _ (by decide +kernel)) ggX9_saved_X9_refuse
set_option maxRecDepth 20000 in
theorem ggX9_saved_X9_outside : GoodIn wsX9_saved wsX9_outside := goodIn_r _ [16] (by decide +kernel) (by decide +kernel)
set_option maxRecDepth 20000 in
theorem gX9_saved_X9_outside : GoodIn wsX9_saved (va_wsS RX9 124 yX9_outside wsX9_outside) := goodIn_app (goodIn_of _ (by decide +kernel)) ggX9_saved_X9_outside
set_option maxRecDepth 20000 in
theorem ggX9_saved_X4_savedBy : GoodIn wsX9_saved wsX4_savedBy := goodIn_r _ [20, 21, 22, 19, 23, 24, 25, 26, 5, 27, 28, 29, 30, 31, 7, 32, 33, 34, 35, 36, 37, 38, 39, 40, 41, 42, 43, 44, 45, 46, 55, 56, 57, 58, 59, 60, 61] (by decide +kernel) (by decide +kernel)
set_option maxRecDepth 20000 in
theorem gX9_saved_X4_savedBy : GoodIn wsX9_saved (va_wsS RX9 203 yX4_savedBy wsX4_savedBy) := goodIn_app (goodIn_of _ (by decide +kernel)) ggX9_saved_X4_savedBy
set_option maxRecDepth 20000 in
theorem ggX9_hooks_X9_isPart : GoodIn wsX9_hooks wsX9_isPart := goodIn_r _ [5] (by decide +kernel) (by decide +kernel)
set_option maxRecDepth 20000 in
theorem gX9_hooks_X9_isPart : GoodIn wsX9_hooks (va_wsS RX9 153 yX9_isPart wsX9_isPart) := goodIn_app (goodIn_of _ (by decide +kernel)) ggX9_hooks_X9_isPart

set_option maxRecDepth 20000 in
theorem ggX9_hooks_X9_refuse : GoodIn wsX9_hooks wsX9_refuse := goodIn_r _ [9, 10, 43, 44, 45, 46, 47, 48, 49, 50] (by decide +kernel) (by decide +kernel)
set_option maxRecDepth 20000 in
theorem gX9_hooks_X9_refuse : GoodIn wsX9_hooks (wsV RX9 51 RX9 yX9_refuse wsX9_refuse) := goodIn_app (goodIn_of _ (by decide +kernel)) ggX9_hooks_X9_refuse
set_option maxRecDepth 20000 in
theorem ggX9_hooks_X4_lostBehind : GoodIn wsX9_hooks wsX4_lostBehind := goodIn_r _ [14, 15, 16, 17, 18, 19, 20, 21, 22, 23, 24, 25, 26, 27, 28, 29, 30, 31, 32, 33, 34, 35, 36, 37, 38, 51, 52, 53, 54, 55, 56, 57] (by decide +kernel) (by decide +kernel)
set_option maxRecDepth 20000 in
theorem gX9_hooks_X4_lostBehind : GoodIn wsX9_hooks (va_wsS RX9 138 yX4_lostBehind wsX4_lostBehind) := goodIn_app (goodIn_of _ (by decide +kernel)) ggX9_hooks_X4_lostBehind
set_option maxRecDepth 20000 in
theorem ggX9_hooks_X7_all : GoodIn wsX9_hooks wsX7_all := goodIn_r _ [42, 24, 51, 52, 53, 54, 55, 56, 57] (by decide +kernel) (by decide +kernel)
set_option maxRecDepth 20000 in
theorem gX9_hooks_X7_all : GoodIn wsX9_hooks (wsV RX9 206 RX7 yX7_all wsX7_all) := goodIn_app (goodIn_of _ (by decide +kernel)) ggX9_hooks_X7_all
set_option maxRecDepth 20000 in
theorem ggX9_key_X7_withMostFruits : GoodIn wsX9_key wsX7_withMostFruits := goodIn_r _ [6, 7, 8, 9, 10, 5, 11, 12, 13, 14, 15, 16, 17, 18, 19, 20, 21, 22, 23, 24, 25, 26, 27, 28, 29, 30, 31, 40, 41, 42, 43, 44, 45, 46] (by decide +kernel) (by decide +kernel)
set_option maxRecDepth 20000 in
theorem gX9_key_X7_withMostFruits : GoodIn wsX9_key (wsV RX9 209 RX7 yX7_withMostFruits wsX7_withMostFruits) := goodIn_app (goodIn_of _ (by decide +kernel)) ggX9_key_X7_withMostFruits
set_option maxRecDepth 20000 in
theorem ggX9_twins_X9_isPart : GoodIn wsX9_twins wsX9_isPart := goodIn_r _ [5] (by decide +kernel) (by decide +kernel)
set_option maxRecDepth 20000 in
theorem gX9_twins_X9_isPart : GoodIn wsX9_twins (va_wsS RX9 153 yX9_isPart wsX9_isPart) := goodIn_app (goodIn_of _ (by decide +kernel)) ggX9_twins_X9_isPart
set_option maxRecDepth 20000 in
theorem ggX9_twins_X9_refuse : GoodIn wsX9_twins wsX9_refuse := goodIn_r _ [9, 10, 39, 40, 41, 42, 43, 44, 45, 46] (by decide +kernel) (by decide +kernel)
set_option maxRecDepth 20000 in
theorem gX9_twins_X9_refuse : GoodIn wsX9_twins (wsV RX9 51 RX9 yX9_refuse wsX9_refuse) := goodIn_app (goodIn_of _ (by decide +kernel)) ggX9_twins_X9_refuse
set_option maxRecDepth 20000 in
theorem ggX9_twins_X7_howManyTwins : GoodIn wsX9_twins wsX7_howManyTwins := goodIn_r _ [15, 16, 17, 18, 19, 14, 20, 21, 22, 23, 24, 25, 26, 27, 28, 29, 30, 31, 32, 33, 34, 47, 48, 49, 50, 51, 52, 53] (by decide +kernel) (by decide +kernel)
set_option maxRecDepth 20000 in
theorem gX9_twins_X7_howManyTwins : GoodIn wsX9_twins (wsV RX9 212 RX7 yX7_howManyTwins wsX7_howManyTwins) := goodIn_app (goodIn_of _ (by decide +kernel)) ggX9_twins_X7_howManyTwins
set_option maxRecDepth 20000 in
theorem ggX9_twins_X7_firstTwins : GoodIn wsX9_twins wsX7_firstTwins := goodIn_r _ [38, 16, 17, 18, 19, 14, 20, 21, 22, 23, 24, 25, 26, 27, 28, 29, 30, 31, 32, 33, 34, 47, 48, 49, 50, 51, 52, 53] (by decide +kernel) (by decide +kernel)
set_option maxRecDepth 20000 in
theorem gX9_twins_X7_firstTwins : GoodIn wsX9_twins (wsV RX9 215 RX7 yX7_firstTwins wsX7_firstTwins) := goodIn_app (goodIn_of _ (by decide +kernel)) ggX9_twins_X7_firstTwins
set_option maxRecDepth 20000 in
theorem ggX9_two_X7_has : GoodIn wsX9_two wsX7_has := goodIn_r _ [6, 7, 84, 85, 86, 87, 88, 89, 90] (by decide +kernel) (by decide +kernel)
set_option maxRecDepth 20000 in
theorem gX9_two_X7_has : GoodIn wsX9_two (wsV RX9 77 RX7 yX7_has wsX7_has) := goodIn_app (goodIn_of _ (by decide +kernel)) ggX9_two_X7_has
set_option maxRecDepth 20000 in
theorem ggX9_two_X9_refuse : GoodIn wsX9_two wsX9_refuse := goodIn_r _ [12, 13, 76, 77, 78, 79, 80, 81, 82, 83] (by decide +kernel) (by decide +kernel)
set_option maxRecDepth 20000 in
theorem gX9_two_X9_refuse : GoodIn wsX9_two (wsV RX9 51 RX9 yX9_refuse wsX9_refuse) := goodIn_app (goodIn_of _ (by decide +kernel)) ggX9_two_X9_refuse
set_option maxRecDepth 20000 in
theorem ggX9_two_X9_outside : GoodIn wsX9_two wsX9_outside := goodIn_r _ [16] (by decide +kernel) (by decide +kernel)
set_option maxRecDepth 20000 in
theorem gX9_two_X9_outside : GoodIn wsX9_two (va_wsS RX9 124 yX9_outside wsX9_outside) := goodIn_app (goodIn_of _ (by decide +kernel)) ggX9_two_X9_outside
set_option maxRecDepth 20000 in
theorem ggX9_two_X7_openNails : GoodIn wsX9_two wsX7_openNails := goodIn_r _ [20, 21, 22, 23, 5, 24, 7, 25, 26, 27, 28, 29, 30, 3, 4, 6, 31, 32, 33, 34, 35, 36, 37, 38, 39, 40, 84, 85, 86, 87, 88, 89, 90] (by decide +kernel) (by decide +kernel)
set_option maxRecDepth 20000 in
theorem gX9_two_X7_openNails : GoodIn wsX9_two (wsV RX9 218 RX7 yX7_openNails wsX7_openNails) := goodIn_app (goodIn_of _ (by decide +kernel)) ggX9_two_X7_openNails
set_option maxRecDepth 20000 in
theorem ggX9_two_X2_firstSettled : GoodIn wsX9_two wsX2_firstSettled := goodIn_r _ [44, 45, 46, 43, 47, 48, 49, 50, 51, 52, 53, 5, 54, 55, 56, 57, 58, 7, 29, 59, 60, 61, 62, 63, 64, 65, 66, 67, 68, 69, 70, 71, 72, 73, 74, 75, 84, 85, 86, 87, 88, 89, 90] (by decide +kernel) (by decide +kernel)
set_option maxRecDepth 20000 in
theorem gX9_two_X2_firstSettled : GoodIn wsX9_two (va_wsS RX9 221 yX2_firstSettled wsX2_firstSettled) := goodIn_app (goodIn_of _ (by decide +kernel)) ggX9_two_X2_firstSettled
set_option maxRecDepth 20000 in
theorem ggX9_boys_X7_has : GoodIn wsX9_boys wsX7_has := goodIn_r _ [6, 7, 67, 68, 69, 70, 71, 72, 73] (by decide +kernel) (by decide +kernel)
set_option maxRecDepth 20000 in
theorem gX9_boys_X7_has : GoodIn wsX9_boys (wsV RX9 77 RX7 yX7_has wsX7_has) := goodIn_app (goodIn_of _ (by decide +kernel)) ggX9_boys_X7_has
set_option maxRecDepth 20000 in
theorem ggX9_boys_X9_refuseLong : GoodIn wsX9_boys wsX9_refuseLong := goodIn_r _ [12, 13, 14, 15, 16, 11, 17, 18, 59, 60, 61, 62, 63, 64, 65, 66] (by decide +kernel) (by decide +kernel)
set_option maxRecDepth 20000 in
theorem gX9_boys_X9_refuseLong : GoodIn wsX9_boys (wsV RX9 181 RX9 yX9_refuseLong wsX9_refuseLong) := goodIn_app (goodIn_of _ (by decide +kernel)) ggX9_boys_X9_refuseLong
set_option maxRecDepth 20000 in
theorem ggX9_boys_X9_isPart : GoodIn wsX9_boys wsX9_isPart := goodIn_r _ [21] (by decide +kernel) (by decide +kernel)
set_option maxRecDepth 20000 in
theorem gX9_boys_X9_isPart : GoodIn wsX9_boys (va_wsS RX9 153 yX9_isPart wsX9_isPart) := goodIn_app (goodIn_of _ (by decide +kernel)) ggX9_boys_X9_isPart
set_option maxRecDepth 20000 in
theorem ggX9_boys_X0_waysToLose : GoodIn wsX9_boys wsX0_waysToLose := goodIn_r _ [25, 26, 27, 24, 28, 29, 30, 31, 5, 32, 7, 33, 34, 35, 36, 37, 38, 39, 40, 41, 42, 43, 44, 45, 46, 47, 48, 49, 50, 51, 67, 68, 69, 70, 71, 72, 73] (by decide +kernel) (by decide +kernel)
set_option maxRecDepth 20000 in
theorem gX9_boys_X0_waysToLose : GoodIn wsX9_boys (va_wsS RX9 229 yX0_waysToLose wsX0_waysToLose) := goodIn_app (goodIn_of _ (by decide +kernel)) ggX9_boys_X0_waysToLose
set_option maxRecDepth 20000 in
theorem ggX9_boys_X1_power : GoodIn wsX9_boys wsX1_power := goodIn_r _ [51] (by decide +kernel) (by decide +kernel)
set_option maxRecDepth 20000 in
theorem gX9_boys_X1_power : GoodIn wsX9_boys (va_wsS RX9 233 yX1_power wsX1_power) := goodIn_app (goodIn_of _ (by decide +kernel)) ggX9_boys_X1_power
set_option maxRecDepth 20000 in
theorem ggX9_boys_X1_part : GoodIn wsX9_boys wsX1_part := goodIn_r _ [55, 56, 57, 50, 58] (by decide +kernel) (by decide +kernel)
set_option maxRecDepth 20000 in
theorem gX9_boys_X1_part : GoodIn wsX9_boys (va_wsS RX9 197 yX1_part wsX1_part) := goodIn_app (goodIn_of _ (by decide +kernel)) ggX9_boys_X1_part
set_option maxRecDepth 20000 in
theorem ggX9_mean_X9_isPart : GoodIn wsX9_mean wsX9_isPart := goodIn_r _ [9] (by decide +kernel) (by decide +kernel)
set_option maxRecDepth 20000 in
theorem gX9_mean_X9_isPart : GoodIn wsX9_mean (va_wsS RX9 153 yX9_isPart wsX9_isPart) := goodIn_app (goodIn_of _ (by decide +kernel)) ggX9_mean_X9_isPart
set_option maxRecDepth 20000 in
theorem ggX9_mean_X9_refuseLong : GoodIn wsX9_mean wsX9_refuseLong := goodIn_r _ [13, 14, 15, 16, 17, 8, 18, 19, 49, 50, 51, 52, 53, 54, 55, 56] (by decide +kernel) (by decide +kernel)
set_option maxRecDepth 20000 in
theorem gX9_mean_X9_refuseLong : GoodIn wsX9_mean (wsV RX9 181 RX9 yX9_refuseLong wsX9_refuseLong) := goodIn_app (goodIn_of _ (by decide +kernel)) ggX9_mean_X9_refuseLong
set_option maxRecDepth 20000 in
theorem ggX9_mean_X7_allCauses : GoodIn wsX9_mean wsX7_allCauses := goodIn_r _ [24, 25, 26, 27, 28, 23, 29, 30, 31, 32, 33, 34, 35, 36, 37, 38, 39, 40, 41, 57, 58, 59, 60, 61, 62, 63] (by decide +kernel) (by decide +kernel)
set_option maxRecDepth 20000 in
theorem gX9_mean_X7_allCauses : GoodIn wsX9_mean (wsV RX9 237 RX7 yX7_allCauses wsX7_allCauses) := goodIn_app (goodIn_of _ (by decide +kernel)) ggX9_mean_X7_allCauses
set_option maxRecDepth 20000 in
theorem ggX9_mean_X1_part : GoodIn wsX9_mean wsX1_part := goodIn_r _ [45, 46, 47, 44, 48] (by decide +kernel) (by decide +kernel)
set_option maxRecDepth 20000 in
theorem gX9_mean_X1_part : GoodIn wsX9_mean (va_wsS RX9 197 yX1_part wsX1_part) := goodIn_app (goodIn_of _ (by decide +kernel)) ggX9_mean_X1_part
set_option maxRecDepth 20000 in
theorem ggX9_whatWas_X7_has : GoodIn wsX9_whatWas wsX7_has := goodIn_r _ [6, 7, 87, 88, 89, 90, 91, 92, 93] (by decide +kernel) (by decide +kernel)
set_option maxRecDepth 20000 in
theorem gX9_whatWas_X7_has : GoodIn wsX9_whatWas (wsV RX9 77 RX7 yX7_has wsX7_has) := goodIn_app (goodIn_of _ (by decide +kernel)) ggX9_whatWas_X7_has
set_option maxRecDepth 20000 in
theorem ggX9_whatWas_X9_refuse : GoodIn wsX9_whatWas wsX9_refuse := goodIn_r _ [12, 13, 79, 80, 81, 82, 83, 84, 85, 86] (by decide +kernel) (by decide +kernel)
set_option maxRecDepth 20000 in
theorem gX9_whatWas_X9_refuse : GoodIn wsX9_whatWas (wsV RX9 51 RX9 yX9_refuse wsX9_refuse) := goodIn_app (goodIn_of _ (by decide +kernel)) ggX9_whatWas_X9_refuse
set_option maxRecDepth 20000 in
theorem ggX9_whatWas_X9_isPart : GoodIn wsX9_whatWas wsX9_isPart := goodIn_r _ [16] (by decide +kernel) (by decide +kernel)
set_option maxRecDepth 20000 in
theorem gX9_whatWas_X9_isPart : GoodIn wsX9_whatWas (va_wsS RX9 153 yX9_isPart wsX9_isPart) := goodIn_app (goodIn_of _ (by decide +kernel)) ggX9_whatWas_X9_isPart
set_option maxRecDepth 20000 in
theorem ggX9_whatWas_X9_kindsBySuchNumbers : GoodIn wsX9_whatWas wsX9_kindsBySuchNumbers := goodIn_r _ [20, 21, 1, 22, 23, 24, 25, 5, 26, 27, 28, 29, 7, 30, 31, 32, 33, 34, 35, 36, 37, 3, 4, 6, 38, 39, 40, 41, 42, 43, 44, 45, 46, 47, 48, 49, 50, 51, 52, 53, 54, 55, 56, 57, 58, 59, 60, 61, 62, 63, 64, 65, 66, 67, 79, 80, 81, 82, 83, 84, 85, 86, 87, 88, 89, 90, 91, 92, 93, 94, 95] (by decide +kernel) (by decide +kernel)
set_option maxRecDepth 20000 in
theorem gX9_whatWas_X9_kindsBySuchNumbers : GoodIn wsX9_whatWas (wsV RX9 249 RX9 yX9_kindsBySuchNumbers wsX9_kindsBySuchNumbers) := goodIn_app (goodIn_of _ (by decide +kernel)) ggX9_whatWas_X9_kindsBySuchNumbers
set_option maxRecDepth 20000 in
theorem ggX9_whatWas_X9_figuresBySuchNumbers : GoodIn wsX9_whatWas wsX9_figuresBySuchNumbers := goodIn_r _ [71, 21, 1, 22, 23, 24, 25, 5, 26, 27, 28, 29, 7, 30, 31, 32, 72, 73, 74, 75, 37, 3, 4, 6, 76, 77, 78, 41, 42, 43, 44, 45, 46, 47, 48, 49, 50, 51, 52, 53, 54, 55, 56, 57, 58, 59, 60, 61, 62, 63, 64, 65, 66, 67, 79, 80, 81, 82, 83, 84, 85, 86, 87, 88, 89, 90, 91, 92, 93, 94, 95] (by decide +kernel) (by decide +kernel)
set_option maxRecDepth 20000 in
theorem gX9_whatWas_X9_figuresBySuchNumbers : GoodIn wsX9_whatWas (wsV RX9 252 RX9 yX9_figuresBySuchNumbers wsX9_figuresBySuchNumbers) := goodIn_app (goodIn_of _ (by decide +kernel)) ggX9_whatWas_X9_figuresBySuchNumbers
set_option maxRecDepth 20000 in
theorem ggX9_row_X9_refuse : GoodIn wsX9_row wsX9_refuse := goodIn_r _ [6, 7, 20, 21, 22, 23, 24, 25, 26, 27] (by decide +kernel) (by decide +kernel)
set_option maxRecDepth 20000 in
theorem gX9_row_X9_refuse : GoodIn wsX9_row (wsV RX9 51 RX9 yX9_refuse wsX9_refuse) := goodIn_app (goodIn_of _ (by decide +kernel)) ggX9_row_X9_refuse
set_option maxRecDepth 20000 in
theorem ggX9_row_X5_isFull : GoodIn wsX9_row wsX5_isFull := goodIn_r _ [12, 13, 28, 29] (by decide +kernel) (by decide +kernel)
set_option maxRecDepth 20000 in
theorem gX9_row_X5_isFull : GoodIn wsX9_row (wsV RX9 255 RX5 yX5_isFull wsX5_isFull) := goodIn_app (goodIn_of _ (by decide +kernel)) ggX9_row_X5_isFull
set_option maxRecDepth 20000 in
theorem ggX9_row_X5_add : GoodIn wsX9_row wsX5_add := goodIn_r _ [17, 18, 13, 19, 9, 10, 11, 12, 28, 29] (by decide +kernel) (by decide +kernel)
set_option maxRecDepth 20000 in
theorem gX9_row_X5_add : GoodIn wsX9_row (wsV RX9 256 RX5 yX5_add wsX5_add) := goodIn_app (goodIn_of _ (by decide +kernel)) ggX9_row_X5_add
set_option maxRecDepth 20000 in
theorem ggX9_judge_X9_firstMisjudged : GoodIn wsX9_judge wsX9_firstMisjudged := goodIn_r _ [6, 1, 7, 8, 9, 10, 11, 12, 13, 14, 15, 16, 17, 18, 19, 20, 21, 22, 23, 24, 25, 26, 27, 28, 29, 30, 31, 32, 33, 34, 35, 36, 37, 38, 39, 40, 41, 42, 47, 48, 49, 50, 51, 52, 53, 54, 55, 56, 57, 58, 59, 60, 61, 62, 63] (by decide +kernel) (by decide +kernel)
set_option maxRecDepth 20000 in
theorem gX9_judge_X9_firstMisjudged : GoodIn wsX9_judge (wsV RX9 257 RX9 yX9_firstMisjudged wsX9_firstMisjudged) := goodIn_app (goodIn_of _ (by decide +kernel)) ggX9_judge_X9_firstMisjudged
set_option maxRecDepth 20000 in
theorem ggX9_judge_X5_forget : GoodIn wsX9_judge wsX5_forget := goodIn_r _ [46, 41, 55, 56] (by decide +kernel) (by decide +kernel)
set_option maxRecDepth 20000 in
theorem gX9_judge_X5_forget : GoodIn wsX9_judge (wsV RX9 260 RX5 yX5_forget wsX5_forget) := goodIn_app (goodIn_of _ (by decide +kernel)) ggX9_judge_X5_forget
set_option maxRecDepth 20000 in
theorem ggX9_clear_X5_forget : GoodIn wsX9_clear wsX5_forget := goodIn_r _ [6, 7, 16, 17] (by decide +kernel) (by decide +kernel)
set_option maxRecDepth 20000 in
theorem gX9_clear_X5_forget : GoodIn wsX9_clear (wsV RX9 260 RX5 yX5_forget wsX5_forget) := goodIn_app (goodIn_of _ (by decide +kernel)) ggX9_clear_X5_forget
set_option maxRecDepth 20000 in
theorem ggX9_lots_X9_outside : GoodIn wsX9_lots wsX9_outside := goodIn_r _ [6] (by decide +kernel) (by decide +kernel)
set_option maxRecDepth 20000 in
theorem gX9_lots_X9_outside : GoodIn wsX9_lots (va_wsS RX9 124 yX9_outside wsX9_outside) := goodIn_app (goodIn_of _ (by decide +kernel)) ggX9_lots_X9_outside
set_option maxRecDepth 20000 in
theorem ggX9_lots_X9_refuse : GoodIn wsX9_lots wsX9_refuse := goodIn_r _ [10, 11, 77, 78, 79, 80, 81, 82, 83, 84] (by decide +kernel) (by decide +kernel)
set_option maxRecDepth 20000 in
theorem gX9_lots_X9_refuse : GoodIn wsX9_lots (wsV RX9 51 RX9 yX9_refuse wsX9_refuse) := goodIn_app (goodIn_of _ (by decide +kernel)) ggX9_lots_X9_refuse
set_option maxRecDepth 20000 in
theorem ggX9_lots_X9_isPart : GoodIn wsX9_lots wsX9_isPart := goodIn_r _ [14] (by decide +kernel) (by decide +kernel)
set_option maxRecDepth 20000 in
theorem gX9_lots_X9_isPart : GoodIn wsX9_lots (va_wsS RX9 153 yX9_isPart wsX9_isPart) := goodIn_app (goodIn_of _ (by decide +kernel)) ggX9_lots_X9_isPart
set_option maxRecDepth 20000 in
theorem ggX9_lots_X7_all : GoodIn wsX9_lots wsX7_all := goodIn_r _ [19, 20, 85, 86, 87, 88, 89, 90, 91] (by decide +kernel) (by decide +kernel)
set_option maxRecDepth 20000 in
theorem gX9_lots_X7_all : GoodIn wsX9_lots (wsV RX9 206 RX7 yX7_all wsX7_all) := goodIn_app (goodIn_of _ (by decide +kernel)) ggX9_lots_X7_all
set_option maxRecDepth 20000 in
theorem ggX9_lots_X3_lostInWars : GoodIn wsX9_lots wsX3_lostInWars := goodIn_r _ [25, 26, 27, 28, 29, 24, 30, 31, 32, 33, 18, 34, 20, 35, 36, 37, 38, 39, 40, 41, 42, 43, 44, 45, 46, 47, 48, 49, 50, 51, 52, 53, 54, 55, 56, 57, 58, 59, 60, 61, 62, 63, 64, 65, 66, 67, 68, 69, 70, 71, 72, 73, 74, 75, 76, 92, 85, 86, 87, 88, 89, 90, 91] (by decide +kernel) (by decide +kernel)
set_option maxRecDepth 20000 in
theorem gX9_lots_X3_lostInWars : GoodIn wsX9_lots (wsV RX9 262 RX3 yX3_lostInWars wsX3_lostInWars) := goodIn_app (goodIn_of _ (by decide +kernel)) ggX9_lots_X3_lostInWars
set_option maxRecDepth 20000 in
theorem ggX9_image_X7_becomes : GoodIn wsX9_image wsX7_becomes := goodIn_r _ [8, 9, 10, 11, 12, 13, 14, 15, 24, 25, 26, 27, 28, 29, 30] (by decide +kernel) (by decide +kernel)
set_option maxRecDepth 20000 in
theorem gX9_image_X7_becomes : GoodIn wsX9_image (wsV RX9 66 RX7 yX7_becomes wsX7_becomes) := goodIn_app (goodIn_of _ (by decide +kernel)) ggX9_image_X7_becomes

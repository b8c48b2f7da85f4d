set_option maxRecDepth 20000 in
theorem ggX7_fruitsOf_X7_rootsOf : GoodIn wsX7_fruitsOf wsX7_rootsOf := goodIn_r _ [6, 7, 8, 9, 5, 10, 11, 12, 13, 14, 15, 1, 16, 17, 18, 19, 20, 21, 22] (by decide +kernel) (by decide +kernel)
set_option maxRecDepth 20000 in
theorem gX7_fruitsOf_X7_rootsOf : GoodIn wsX7_fruitsOf (wsV RX7 77 RX7 yX7_rootsOf wsX7_rootsOf) := goodIn_app (goodIn_of _ (by decide +kernel)) ggX7_fruitsOf_X7_rootsOf
set_option maxRecDepth 20000 in
theorem ggX7_depthOf_X7_causesOf : GoodIn wsX7_depthOf wsX7_causesOf := goodIn_r _ [5, 6, 7, 8, 9, 4, 10, 11, 16, 17, 18, 19, 20, 21, 22] (by decide +kernel) (by decide +kernel)
set_option maxRecDepth 20000 in
theorem gX7_depthOf_X7_causesOf : GoodIn wsX7_depthOf (wsV RX7 64 RX7 yX7_causesOf wsX7_causesOf) := goodIn_app (goodIn_of _ (by decide +kernel)) ggX7_depthOf_X7_causesOf
set_option maxRecDepth 20000 in
theorem ggX7_depthOf_X7_causesOfThese : GoodIn wsX7_depthOf wsX7_causesOfThese := goodIn_r _ [15, 11, 1, 2, 3, 4, 5, 6, 7, 8, 9, 10, 16, 17, 18, 19, 20, 21, 22] (by decide +kernel) (by decide +kernel)
set_option maxRecDepth 20000 in
theorem gX7_depthOf_X7_causesOfThese : GoodIn wsX7_depthOf (wsV RX7 80 RX7 yX7_causesOfThese wsX7_causesOfThese) := goodIn_app (goodIn_of _ (by decide +kernel)) ggX7_depthOf_X7_causesOfThese
set_option maxRecDepth 20000 in
theorem ggX7_causesOfThese_X7_causesOf : GoodIn wsX7_causesOfThese wsX7_causesOf := goodIn_r _ [6, 7, 8, 9, 10, 5, 11, 1, 12, 13, 14, 15, 16, 17, 18] (by decide +kernel) (by decide +kernel)
set_option maxRecDepth 20000 in
theorem gX7_causesOfThese_X7_causesOf : GoodIn wsX7_causesOfThese (wsV RX7 64 RX7 yX7_causesOf wsX7_causesOf) := goodIn_app (goodIn_of _ (by decide +kernel)) ggX7_causesOfThese_X7_causesOf
set_option maxRecDepth 20000 in
theorem ggX7_withMostFruits_X7_fruitsOf : GoodIn wsX7_withMostFruits wsX7_fruitsOf := goodIn_r _ [6, 1, 7, 8, 9, 5, 10, 11, 12, 13, 14, 15, 16, 17, 18, 19, 27, 28, 29, 30, 31, 32, 33] (by decide +kernel) (by decide +kernel)
set_option maxRecDepth 20000 in
theorem gX7_withMostFruits_X7_fruitsOf : GoodIn wsX7_withMostFruits (wsV RX7 83 RX7 yX7_fruitsOf wsX7_fruitsOf) := goodIn_app (goodIn_of _ (by decide +kernel)) ggX7_withMostFruits_X7_fruitsOf
set_option maxRecDepth 20000 in
theorem ggX7_withMostFruits_J6_bitCount_0f7a4 : GoodIn wsX7_withMostFruits wsJ6_bitCount_0f7a4 := goodIn_r _ [23, 24, 25, 26] (by decide +kernel) (by decide +kernel)
set_option maxRecDepth 20000 in
theorem gX7_withMostFruits_J6_bitCount_0f7a4 : GoodIn wsX7_withMostFruits (va_wsS RX7 51 yJ6_bitCount_0f7a4 wsJ6_bitCount_0f7a4) := goodIn_app (goodIn_of _ (by decide +kernel)) ggX7_withMostFruits_J6_bitCount_0f7a4
set_option maxRecDepth 20000 in
theorem ggX7_areTwins_X7_kindOf : GoodIn wsX7_areTwins wsX7_kindOf := goodIn_r _ [5, 6, 7, 8, 9, 4, 10, 11, 17, 18, 19, 20, 21, 22, 23] (by decide +kernel) (by decide +kernel)
set_option maxRecDepth 20000 in
theorem gX7_areTwins_X7_kindOf : GoodIn wsX7_areTwins (wsV RX7 86 RX7 yX7_kindOf wsX7_kindOf) := goodIn_app (goodIn_of _ (by decide +kernel)) ggX7_areTwins_X7_kindOf
set_option maxRecDepth 20000 in
theorem ggX7_areTwins_X7_causesOf : GoodIn wsX7_areTwins wsX7_causesOf := goodIn_r _ [15, 16, 7, 8, 9, 4, 10, 11, 17, 18, 19, 20, 21, 22, 23] (by decide +kernel) (by decide +kernel)
set_option maxRecDepth 20000 in
theorem gX7_areTwins_X7_causesOf : GoodIn wsX7_areTwins (wsV RX7 64 RX7 yX7_causesOf wsX7_causesOf) := goodIn_app (goodIn_of _ (by decide +kernel)) ggX7_areTwins_X7_causesOf
set_option maxRecDepth 20000 in
theorem ggX7_howManyTwins_X7_areTwins : GoodIn wsX7_howManyTwins wsX7_areTwins := goodIn_r _ [6, 7, 8, 9, 5, 10, 11, 12, 13, 14, 15, 1, 16, 17, 18, 19, 20, 21, 22, 23, 24, 25, 26, 27] (by decide +kernel) (by decide +kernel)
set_option maxRecDepth 20000 in
theorem gX7_howManyTwins_X7_areTwins : GoodIn wsX7_howManyTwins (wsV RX7 89 RX7 yX7_areTwins wsX7_areTwins) := goodIn_app (goodIn_of _ (by decide +kernel)) ggX7_howManyTwins_X7_areTwins
set_option maxRecDepth 20000 in
theorem ggX7_firstTwins_X7_areTwins : GoodIn wsX7_firstTwins wsX7_areTwins := goodIn_r _ [6, 7, 8, 9, 5, 10, 11, 12, 13, 14, 15, 1, 16, 17, 18, 19, 20, 21, 22, 23, 24, 25, 26, 27] (by decide +kernel) (by decide +kernel)
set_option maxRecDepth 20000 in
theorem gX7_firstTwins_X7_areTwins : GoodIn wsX7_firstTwins (wsV RX7 89 RX7 yX7_areTwins wsX7_areTwins) := goodIn_app (goodIn_of _ (by decide +kernel)) ggX7_firstTwins_X7_areTwins
set_option maxRecDepth 20000 in
theorem ggX8_add_X8_isFull : GoodIn wsX8_add wsX8_isFull := goodIn_r _ [7, 2, 8, 9] (by decide +kernel) (by decide +kernel)
set_option maxRecDepth 20000 in
theorem gX8_add_X8_isFull : GoodIn wsX8_add (wsV RX8 17 RX8 yX8_isFull wsX8_isFull) := goodIn_app (goodIn_of _ (by decide +kernel)) ggX8_add_X8_isFull
set_option maxRecDepth 20000 in
theorem ggX8_faultOfForm_X8_at : GoodIn wsX8_faultOfForm wsX8_at := goodIn_r _ [6, 1, 7, 106, 107] (by decide +kernel) (by decide +kernel)
set_option maxRecDepth 20000 in
theorem gX8_faultOfForm_X8_at : GoodIn wsX8_faultOfForm (wsV RX8 21 RX8 yX8_at wsX8_at) := goodIn_app (goodIn_of _ (by decide +kernel)) ggX8_faultOfForm_X8_at
set_option maxRecDepth 20000 in
theorem ggX8_faultOfForm_X8_lengthBy : GoodIn wsX8_faultOfForm wsX8_lengthBy := goodIn_r _ [10] (by decide +kernel) (by decide +kernel)
set_option maxRecDepth 20000 in
theorem gX8_faultOfForm_X8_lengthBy : GoodIn wsX8_faultOfForm (va_wsS RX8 25 yX8_lengthBy wsX8_lengthBy) := goodIn_app (goodIn_of _ (by decide +kernel)) ggX8_faultOfForm_X8_lengthBy
set_option maxRecDepth 20000 in
theorem ggX8_faultOfForm_X8_goesOn : GoodIn wsX8_faultOfForm wsX8_goesOn := goodIn_r _ [13, 14, 15, 5, 16, 17, 18, 19, 20, 21, 22, 23, 24, 25, 26, 27, 28, 29, 30, 31, 32, 33, 34, 35, 36, 37, 38, 39, 40, 41, 42, 43, 44, 45, 46, 47, 48, 49, 50, 51, 52, 53, 54, 55, 56, 57, 58, 59, 60, 61, 62, 63, 64, 65, 66, 67, 68, 69, 70, 71, 72, 73, 74, 75, 76, 77, 78, 79, 80, 81, 82, 83, 84, 85, 86, 87, 88, 89, 90, 91, 92, 93, 94, 95, 96, 97, 98, 99, 100, 101, 102, 103, 104, 105] (by decide +kernel) (by decide +kernel)
set_option maxRecDepth 20000 in
theorem gX8_faultOfForm_X8_goesOn : GoodIn wsX8_faultOfForm (va_wsS RX8 28 yX8_goesOn wsX8_goesOn) := goodIn_app (goodIn_of _ (by decide +kernel)) ggX8_faultOfForm_X8_goesOn
set_option maxRecDepth 20000 in
theorem ggX8_goesOn_X8_kindBy : GoodIn wsX8_goesOn wsX8_kindBy := goodIn_r _ [4, 5, 6, 7, 8, 9, 10, 11, 12, 13, 14, 15, 16, 17, 18, 19, 20, 21, 22, 23, 24, 25, 26, 27, 28, 29, 30, 31, 32, 33, 34, 35, 36, 37, 38, 39, 40, 41, 42, 43, 44, 45, 46, 47, 48, 49, 50, 51, 52, 53, 54, 55, 56, 57, 58, 59, 60, 61, 62, 63, 64, 65, 66, 67, 68, 69, 70, 71, 72, 73, 74, 75, 76, 77, 78, 79, 80, 81, 82, 83, 84, 85, 86, 87, 88, 89, 90, 91, 92, 93] (by decide +kernel) (by decide +kernel)
set_option maxRecDepth 20000 in
theorem gX8_goesOn_X8_kindBy : GoodIn wsX8_goesOn (va_wsS RX8 32 yX8_kindBy wsX8_kindBy) := goodIn_app (goodIn_of _ (by decide +kernel)) ggX8_goesOn_X8_kindBy
set_option maxRecDepth 20000 in
theorem ggX8_kindBy_J0_indexOf_0f7a4 : GoodIn wsX8_kindBy wsJ0_indexOf_0f7a4 := goodIn_r _ [5, 6, 7, 8, 4, 9, 10, 11, 12, 13, 14, 15, 16, 17, 18, 19, 20, 21, 22, 23, 24, 25, 26, 27, 28, 29, 30, 31, 32, 33, 34, 35, 36, 37, 38, 39, 40, 41, 42, 43, 44, 45, 46, 47, 48, 49, 50, 51, 52, 53, 54, 55, 56, 57, 58, 59, 60, 61, 62, 63, 64, 65, 66, 67, 68, 69, 70, 71, 72, 73, 74, 75, 76, 77, 78, 79, 80, 81, 82, 83, 84, 85, 86, 87, 88, 89] (by decide +kernel) (by decide +kernel)
set_option maxRecDepth 20000 in
theorem gX8_kindBy_J0_indexOf_0f7a4 : GoodIn wsX8_kindBy (wsV RX8 37 RJ0 yJ0_indexOf_0f7a4 wsJ0_indexOf_0f7a4) := goodIn_app (goodIn_of _ (by decide +kernel)) ggX8_kindBy_J0_indexOf_0f7a4
set_option maxRecDepth 20000 in
theorem ggX8_comeOver_X8_comes : GoodIn wsX8_comeOver wsX8_comes := goodIn_r _ [10, 11, 12, 13, 9, 14, 1, 15, 16, 17, 18, 19, 20, 21, 22, 23, 24, 25, 26, 27, 28, 29, 30, 31, 32, 33, 34, 35, 36, 37, 38, 39, 40, 41, 42, 43, 44, 45, 46, 47, 3, 4, 5, 48, 49, 50, 51, 52, 53, 54, 55, 56, 57, 58, 59, 60, 61, 62, 63, 64, 65, 66, 67, 68, 69, 70, 71, 72, 73, 74, 75, 76, 77, 78, 79, 80, 81, 82, 83, 84, 85, 86, 87, 88, 89, 90, 91, 92, 93, 94, 95, 96, 97, 98, 99, 100, 101, 102, 103, 104, 105, 106, 107, 108, 109, 110, 111, 112, 113, 114, 115, 116, 117, 118, 119, 120, 121, 122, 123, 124, 125, 126, 127, 128, 129, 130, 131, 132, 133, 134, 135, 136, 137, 138, 139, 140, 141, 142, 143, 144, 145, 146, 147, 148, 149, 150, 151, 152, 153, 154, 155, 156, 157, 158, 159, 160, 161, 162, 163, 164, 165, 166, 167, 168, 169, 173, 174, 175, 176, 177, 178, 179, 180, 181] (by decide +kernel) (by decide +kernel)
set_option maxRecDepth 20000 in
theorem gX8_comeOver_X8_comes : GoodIn wsX8_comeOver (wsV RX8 42 RX8 yX8_comes wsX8_comes) := goodIn_app (goodIn_of _ (by decide +kernel)) ggX8_comeOver_X8_comes
set_option maxRecDepth 20000 in
theorem ggX8_comeOver_X8_at : GoodIn wsX8_comeOver wsX8_at := goodIn_r _ [14, 1, 15, 173, 174] (by decide +kernel) (by decide +kernel)
set_option maxRecDepth 20000 in
theorem gX8_comeOver_X8_at : GoodIn wsX8_comeOver (wsV RX8 21 RX8 yX8_at wsX8_at) := goodIn_app (goodIn_of _ (by decide +kernel)) ggX8_comeOver_X8_at
set_option maxRecDepth 20000 in
theorem ggX8_comeOver_X8_lengthBy : GoodIn wsX8_comeOver wsX8_lengthBy := goodIn_r _ [172] (by decide +kernel) (by decide +kernel)
set_option maxRecDepth 20000 in
theorem gX8_comeOver_X8_lengthBy : GoodIn wsX8_comeOver (va_wsS RX8 25 yX8_lengthBy wsX8_lengthBy) := goodIn_app (goodIn_of _ (by decide +kernel)) ggX8_comeOver_X8_lengthBy
set_option maxRecDepth 20000 in
theorem ggX8_comes_X8_at : GoodIn wsX8_comes wsX8_at := goodIn_r _ [5, 6, 7, 165, 166] (by decide +kernel) (by decide +kernel)
set_option maxRecDepth 20000 in
theorem gX8_comes_X8_at : GoodIn wsX8_comes (wsV RX8 21 RX8 yX8_at wsX8_at) := goodIn_app (goodIn_of _ (by decide +kernel)) ggX8_comes_X8_at
set_option maxRecDepth 20000 in
theorem ggX8_comes_X8_kindBy : GoodIn wsX8_comes wsX8_kindBy := goodIn_r _ [10, 11, 12, 13, 14, 15, 16, 17, 18, 19, 20, 21, 22, 23, 24, 25, 26, 27, 28, 29, 30, 31, 32, 33, 34, 35, 36, 37, 38, 39, 40, 41, 42, 43, 44, 45, 46, 47, 48, 49, 50, 51, 52, 53, 54, 55, 56, 57, 58, 59, 60, 61, 62, 63, 64, 65, 66, 67, 68, 69, 70, 71, 72, 73, 74, 75, 76, 77, 78, 79, 80, 81, 82, 83, 84, 85, 86, 87, 88, 89, 90, 91, 92, 93, 94, 95, 96, 97, 98, 99] (by decide +kernel) (by decide +kernel)
set_option maxRecDepth 20000 in
theorem gX8_comes_X8_kindBy : GoodIn wsX8_comes (va_wsS RX8 32 yX8_kindBy wsX8_kindBy) := goodIn_app (goodIn_of _ (by decide +kernel)) ggX8_comes_X8_kindBy
set_option maxRecDepth 20000 in
theorem ggX8_comes_X7_add : GoodIn wsX8_comes wsX7_add := goodIn_r _ [104, 105, 106, 107, 108, 109, 110, 103, 111, 112, 113, 114, 167, 168, 169, 170, 171, 172, 173] (by decide +kernel) (by decide +kernel)
set_option maxRecDepth 20000 in
theorem gX8_comes_X7_add : GoodIn wsX8_comes (wsV RX8 52 RX7 yX7_add wsX7_add) := goodIn_app (goodIn_of _ (by decide +kernel)) ggX8_comes_X7_add
set_option maxRecDepth 20000 in
theorem ggX8_comes_X7_flipCause : GoodIn wsX8_comes wsX7_flipCause := goodIn_r _ [118, 108, 119, 120, 121, 103, 122, 105, 167, 168, 169, 170, 171, 172, 173] (by decide +kernel) (by decide +kernel)
set_option maxRecDepth 20000 in
theorem gX8_comes_X7_flipCause : GoodIn wsX8_comes (wsV RX8 58 RX7 yX7_flipCause wsX7_flipCause) := goodIn_app (goodIn_of _ (by decide +kernel)) ggX8_comes_X7_flipCause
set_option maxRecDepth 20000 in
theorem ggX8_comes_X7_lose : GoodIn wsX8_comes wsX7_lose := goodIn_r _ [126, 127, 119, 120, 121, 103, 122, 105, 128, 129, 130, 131, 132, 167, 168, 169, 170, 171, 172, 173] (by decide +kernel) (by decide +kernel)
set_option maxRecDepth 20000 in
theorem gX8_comes_X7_lose : GoodIn wsX8_comes (wsV RX8 61 RX7 yX7_lose wsX7_lose) := goodIn_app (goodIn_of _ (by decide +kernel)) ggX8_comes_X7_lose
set_option maxRecDepth 20000 in
theorem ggX8_comes_X7_mend : GoodIn wsX8_comes wsX7_mend := goodIn_r _ [136, 127, 119, 120, 121, 103, 122, 105, 167, 168, 169, 170, 171, 172, 173] (by decide +kernel) (by decide +kernel)
set_option maxRecDepth 20000 in
theorem gX8_comes_X7_mend : GoodIn wsX8_comes (wsV RX8 65 RX7 yX7_mend wsX7_mend) := goodIn_app (goodIn_of _ (by decide +kernel)) ggX8_comes_X7_mend
set_option maxRecDepth 20000 in
theorem ggX8_comes_X7_flipGuard : GoodIn wsX8_comes wsX7_flipGuard := goodIn_r _ [140, 132, 119, 120, 121, 103, 122, 105, 167, 168, 169, 170, 171, 172, 173] (by decide +kernel) (by decide +kernel)
set_option maxRecDepth 20000 in
theorem gX8_comes_X7_flipGuard : GoodIn wsX8_comes (wsV RX8 68 RX7 yX7_flipGuard wsX7_flipGuard) := goodIn_app (goodIn_of _ (by decide +kernel)) ggX8_comes_X7_flipGuard
set_option maxRecDepth 20000 in
theorem ggX8_comes_X7_passDays : GoodIn wsX8_comes wsX7_passDays := goodIn_r _ [144, 145, 127, 132, 146, 147, 148, 103, 149, 150, 151, 152, 153, 105, 108, 154, 155, 156, 157, 158, 159, 160, 161, 162, 163, 164, 106, 107, 167, 168, 169, 170, 171, 172, 173] (by decide +kernel) (by decide +kernel)
set_option maxRecDepth 20000 in
theorem gX8_comes_X7_passDays : GoodIn wsX8_comes (wsV RX8 71 RX7 yX7_passDays wsX7_passDays) := goodIn_app (goodIn_of _ (by decide +kernel)) ggX8_comes_X7_passDays
set_option maxRecDepth 20000 in
theorem ggX9_init_X7_init : GoodIn wsX9_init wsX7_init := goodIn_r _ [27, 28, 2, 3, 22, 29, 30, 31, 45, 46, 47, 48, 49, 50, 51] (by decide +kernel) (by decide +kernel)
set_option maxRecDepth 20000 in
theorem gX9_init_X7_init : GoodIn wsX9_init (wsX7_init) := ggX9_init_X7_init
set_option maxRecDepth 20000 in
theorem ggX9_init_X8_init : GoodIn wsX9_init wsX8_init := goodIn_r _ [34, 35, 2, 3, 22, 36, 60, 61] (by decide +kernel) (by decide +kernel)
set_option maxRecDepth 20000 in
theorem gX9_init_X8_init : GoodIn wsX9_init (wsX8_init) := ggX9_init_X8_init
set_option maxRecDepth 20000 in
theorem ggX9_init_X5_init : GoodIn wsX9_init wsX5_init := goodIn_r _ [39, 40, 2, 3, 22, 41, 62, 63] (by decide +kernel) (by decide +kernel)
set_option maxRecDepth 20000 in
theorem gX9_init_X5_init : GoodIn wsX9_init (wsX5_init) := ggX9_init_X5_init
set_option maxRecDepth 20000 in
theorem ggX9_init_X3_init : GoodIn wsX9_init wsX3_init := goodIn_r _ [43, 44, 2, 3] (by decide +kernel) (by decide +kernel)
set_option maxRecDepth 20000 in
theorem gX9_init_X3_init_n38 : GoodIn wsX9_init (wsX3_init) := ggX9_init_X3_init
set_option maxRecDepth 20000 in
theorem ggX9_letter_X9_refuse : GoodIn wsX9_letter wsX9_refuse := goodIn_r _ [6, 7, 20, 21, 22, 23, 24, 25, 26, 27] (by decide +kernel) (by decide +kernel)
set_option maxRecDepth 20000 in
theorem gX9_letter_X9_refuse : GoodIn wsX9_letter (wsV RX9 51 RX9 yX9_refuse wsX9_refuse) := goodIn_app (goodIn_of _ (by decide +kernel)) ggX9_letter_X9_refuse
set_option maxRecDepth 20000 in
theorem ggX9_letter_X8_isFull : GoodIn wsX9_letter wsX8_isFull := goodIn_r _ [12, 13, 28, 29] (by decide +kernel) (by decide +kernel)
set_option maxRecDepth 20000 in
theorem gX9_letter_X8_isFull : GoodIn wsX9_letter (wsV RX9 55 RX8 yX8_isFull wsX8_isFull) := goodIn_app (goodIn_of _ (by decide +kernel)) ggX9_letter_X8_isFull
set_option maxRecDepth 20000 in
theorem ggX9_letter_X8_add : GoodIn wsX9_letter wsX8_add := goodIn_r _ [17, 18, 13, 19, 9, 10, 11, 12, 28, 29] (by decide +kernel) (by decide +kernel)
set_option maxRecDepth 20000 in
theorem gX9_letter_X8_add : GoodIn wsX9_letter (wsV RX9 59 RX8 yX8_add wsX8_add) := goodIn_app (goodIn_of _ (by decide +kernel)) ggX9_letter_X8_add
set_option maxRecDepth 20000 in
theorem ggX9_state_X8_faultOfForm : GoodIn wsX9_state wsX8_faultOfForm := goodIn_r _ [8, 9, 10, 11, 12, 7, 13, 14, 15, 16, 17, 18, 19, 20, 21, 22, 23, 24, 25, 26, 27, 28, 29, 30, 31, 32, 33, 34, 35, 36, 37, 38, 39, 40, 41, 42, 43, 44, 45, 46, 47, 48, 49, 50, 51, 52, 53, 54, 55, 56, 57, 58, 59, 60, 61, 62, 63, 64, 65, 66, 67, 68, 69, 70, 71, 72, 73, 74, 75, 76, 77, 78, 79, 80, 81, 82, 83, 84, 85, 86, 87, 88, 89, 90, 91, 92, 93, 94, 95, 96, 97, 98, 99, 100, 101, 102, 103, 104, 105, 106, 107, 108, 109, 110, 111, 112, 203, 204] (by decide +kernel) (by decide +kernel)
set_option maxRecDepth 20000 in
theorem gX9_state_X8_faultOfForm : GoodIn wsX9_state (wsV RX9 62 RX8 yX8_faultOfForm wsX8_faultOfForm) := goodIn_app (goodIn_of _ (by decide +kernel)) ggX9_state_X8_faultOfForm
set_option maxRecDepth 20000 in
theorem ggX9_state_X7_becomes : GoodIn wsX9_state wsX7_becomes := goodIn_r _ [117, 118, 119, 120, 121, 122, 123, 124, 205, 206, 207, 208, 209, 210, 211] (by decide +kernel) (by decide +kernel)
set_option maxRecDepth 20000 in
theorem gX9_state_X7_becomes : GoodIn wsX9_state (wsV RX9 66 RX7 yX7_becomes wsX7_becomes) := goodIn_app (goodIn_of _ (by decide +kernel)) ggX9_state_X7_becomes
set_option maxRecDepth 20000 in
theorem ggX9_state_X8_comeOver : GoodIn wsX9_state wsX8_comeOver := goodIn_r _ [128, 9, 129, 53, 54, 55, 130, 131, 132, 7, 133, 10, 11, 12, 13, 14, 21, 22, 23, 24, 25, 26, 27, 28, 29, 30, 31, 32, 33, 34, 35, 36, 37, 38, 39, 40, 41, 42, 43, 44, 45, 46, 47, 48, 49, 50, 51, 52, 56, 57, 58, 59, 60, 61, 62, 63, 64, 65, 66, 67, 68, 69, 70, 71, 72, 73, 74, 75, 76, 77, 78, 79, 80, 81, 82, 83, 84, 85, 86, 87, 88, 89, 90, 91, 92, 93, 94, 95, 96, 97, 98, 99, 100, 101, 102, 103, 104, 105, 106, 107, 108, 109, 110, 111, 112, 134, 135, 136, 116, 137, 121, 118, 119, 120, 138, 139, 140, 141, 142, 143, 144, 145, 146, 147, 148, 149, 150, 151, 152, 153, 154, 155, 122, 156, 157, 158, 159, 123, 160, 161, 162, 163, 164, 165, 166, 167, 168, 169, 170, 171, 124, 172, 173, 174, 175, 176, 177, 178, 179, 180, 181, 182, 183, 184, 185, 186, 187, 188, 189, 190, 15, 16, 17, 203, 204, 205, 206, 207, 208, 209, 210, 211] (by decide +kernel) (by decide +kernel)
set_option maxRecDepth 20000 in
theorem gX9_state_X8_comeOver : GoodIn wsX9_state (wsV RX9 70 RX8 yX8_comeOver wsX8_comeOver) := goodIn_app (goodIn_of _ (by decide +kernel)) ggX9_state_X8_comeOver
set_option maxRecDepth 20000 in
theorem ggX9_state_X8_forget : GoodIn wsX9_state wsX8_forget := goodIn_r _ [194, 9, 203, 204] (by decide +kernel) (by decide +kernel)
set_option maxRecDepth 20000 in
theorem gX9_state_X8_forget : GoodIn wsX9_state (wsV RX9 74 RX8 yX8_forget wsX8_forget) := goodIn_app (goodIn_of _ (by decide +kernel)) ggX9_state_X8_forget
set_option maxRecDepth 20000 in
theorem ggX9_thing_X7_has : GoodIn wsX9_thing wsX7_has := goodIn_r _ [6, 7, 57, 58, 59, 60, 61, 62, 63] (by decide +kernel) (by decide +kernel)
set_option maxRecDepth 20000 in
theorem gX9_thing_X7_has : GoodIn wsX9_thing (wsV RX9 77 RX7 yX7_has wsX7_has) := goodIn_app (goodIn_of _ (by decide +kernel)) ggX9_thing_X7_has
set_option maxRecDepth 20000 in
theorem ggX9_thing_X9_refuse : GoodIn wsX9_thing wsX9_refuse := goodIn_r _ [12, 13, 49, 50, 51, 52, 53, 54, 55, 56] (by decide +kernel) (by decide +kernel)
set_option maxRecDepth 20000 in
theorem gX9_thing_X9_refuse : GoodIn wsX9_thing (wsV RX9 51 RX9 yX9_refuse wsX9_refuse) := goodIn_app (goodIn_of _ (by decide +kernel)) ggX9_thing_X9_refuse

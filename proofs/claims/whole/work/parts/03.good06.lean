set_option maxRecDepth 20000 in
theorem ggX9_on_X9_refuse : GoodIn wsX9_on wsX9_refuse := goodIn_r _ [8, 9, 22, 23, 24, 25, 26, 27, 28, 29] (by decide +kernel) (by decide +kernel)
set_option maxRecDepth 20000 in
theorem gX9_on_X9_refuse : GoodIn wsX9_on (wsV RX9 51 RX9 yX9_refuse wsX9_refuse) := goodIn_app (goodIn_of _ (by decide +kernel)) ggX9_on_X9_refuse
set_option maxRecDepth 20000 in
theorem ggX9_on_X7_becomes : GoodIn wsX9_on wsX7_becomes := goodIn_r _ [14, 15, 16, 17, 18, 19, 20, 21, 30, 31, 32, 33, 34, 35, 36] (by decide +kernel) (by decide +kernel)
set_option maxRecDepth 20000 in
theorem gX9_on_X7_becomes : GoodIn wsX9_on (wsV RX9 66 RX7 yX7_becomes wsX7_becomes) := goodIn_app (goodIn_of _ (by decide +kernel)) ggX9_on_X7_becomes
set_option maxRecDepth 20000 in
theorem ggX9_count_X7_allCauses : GoodIn wsX9_count wsX7_allCauses := goodIn_r _ [9, 10, 11, 12, 13, 8, 14, 15, 16, 17, 18, 19, 20, 21, 22, 23, 24, 25, 26, 40, 41, 42, 43, 44, 45, 46] (by decide +kernel) (by decide +kernel)
set_option maxRecDepth 20000 in
theorem gX9_count_X7_allCauses : GoodIn wsX9_count (wsV RX9 237 RX7 yX7_allCauses wsX7_allCauses) := goodIn_app (goodIn_of _ (by decide +kernel)) ggX9_count_X7_allCauses
set_option maxRecDepth 20000 in
theorem ggX9_count_X7_withoutCauses : GoodIn wsX9_count wsX7_withoutCauses := goodIn_r _ [30, 10, 11, 12, 13, 8, 14, 15, 16, 17, 18, 19, 40, 41, 42, 43, 44, 45, 46] (by decide +kernel) (by decide +kernel)
set_option maxRecDepth 20000 in
theorem gX9_count_X7_withoutCauses : GoodIn wsX9_count (wsV RX9 162 RX7 yX7_withoutCauses wsX7_withoutCauses) := goodIn_app (goodIn_of _ (by decide +kernel)) ggX9_count_X7_withoutCauses
set_option maxRecDepth 20000 in
theorem ggX9_count_J6_bitCount_0f7a4 : GoodIn wsX9_count wsJ6_bitCount_0f7a4 := goodIn_r _ [23, 24, 25, 26] (by decide +kernel) (by decide +kernel)
set_option maxRecDepth 20000 in
theorem gX9_count_J6_bitCount_0f7a4 : GoodIn wsX9_count (va_wsS RX9 110 yJ6_bitCount_0f7a4 wsJ6_bitCount_0f7a4) := goodIn_app (goodIn_of _ (by decide +kernel)) ggX9_count_J6_bitCount_0f7a4
set_option maxRecDepth 20000 in
theorem ggX9_refuseLong_X9_refuse : GoodIn wsX9_refuseLong wsX9_refuse := goodIn_r _ [6, 7, 8, 9, 10, 11, 12, 13, 14, 15] (by decide +kernel) (by decide +kernel)
set_option maxRecDepth 20000 in
theorem gX9_refuseLong_X9_refuse : GoodIn wsX9_refuseLong (wsV RX9 51 RX9 yX9_refuse wsX9_refuse) := goodIn_app (goodIn_of _ (by decide +kernel)) ggX9_refuseLong_X9_refuse
set_option maxRecDepth 20000 in
theorem ggX9_kindsBySuchNumbers_X7_becomes : GoodIn wsX9_kindsBySuchNumbers wsX7_becomes := goodIn_r _ [8, 9, 10, 11, 12, 13, 14, 15, 62, 63, 64, 65, 66, 67, 68] (by decide +kernel) (by decide +kernel)
set_option maxRecDepth 20000 in
theorem gX9_kindsBySuchNumbers_X7_becomes : GoodIn wsX9_kindsBySuchNumbers (wsV RX9 66 RX7 yX7_becomes wsX7_becomes) := goodIn_app (goodIn_of _ (by decide +kernel)) ggX9_kindsBySuchNumbers_X7_becomes
set_option maxRecDepth 20000 in
theorem ggX9_kindsBySuchNumbers_X7_setKind : GoodIn wsX9_kindsBySuchNumbers wsX7_setKind := goodIn_r _ [19, 9, 20, 21, 22, 7, 23, 12, 24, 25, 26, 62, 63, 64, 65, 66, 67, 68] (by decide +kernel) (by decide +kernel)
set_option maxRecDepth 20000 in
theorem gX9_kindsBySuchNumbers_X7_setKind : GoodIn wsX9_kindsBySuchNumbers (wsV RX9 128 RX7 yX7_setKind wsX7_setKind) := goodIn_app (goodIn_of _ (by decide +kernel)) ggX9_kindsBySuchNumbers_X7_setKind
set_option maxRecDepth 20000 in
theorem ggX9_kindsBySuchNumbers_X5_tellLosses : GoodIn wsX9_kindsBySuchNumbers wsX5_tellLosses := goodIn_r _ [31, 32, 33, 34, 35, 7, 36, 12, 11, 37, 38, 39, 40, 41, 42, 43, 44, 45, 46, 47, 9, 10, 48, 49, 50, 30, 51, 52, 53, 62, 63, 64, 65, 66, 67, 68, 69, 70] (by decide +kernel) (by decide +kernel)
set_option maxRecDepth 20000 in
theorem gX9_kindsBySuchNumbers_X5_tellLosses : GoodIn wsX9_kindsBySuchNumbers (wsV RX9 274 RX5 yX5_tellLosses wsX5_tellLosses) := goodIn_app (goodIn_of _ (by decide +kernel)) ggX9_kindsBySuchNumbers_X5_tellLosses
set_option maxRecDepth 20000 in
theorem ggX9_figuresBySuchNumbers_X7_becomes : GoodIn wsX9_figuresBySuchNumbers wsX7_becomes := goodIn_r _ [8, 9, 10, 11, 12, 13, 14, 15, 62, 63, 64, 65, 66, 67, 68] (by decide +kernel) (by decide +kernel)
set_option maxRecDepth 20000 in
theorem gX9_figuresBySuchNumbers_X7_becomes : GoodIn wsX9_figuresBySuchNumbers (wsV RX9 66 RX7 yX7_becomes wsX7_becomes) := goodIn_app (goodIn_of _ (by decide +kernel)) ggX9_figuresBySuchNumbers_X7_becomes
set_option maxRecDepth 20000 in
theorem ggX9_figuresBySuchNumbers_X7_setFigure : GoodIn wsX9_figuresBySuchNumbers wsX7_setFigure := goodIn_r _ [19, 10, 20, 21, 22, 7, 23, 12, 24, 25, 26, 62, 63, 64, 65, 66, 67, 68] (by decide +kernel) (by decide +kernel)
set_option maxRecDepth 20000 in
theorem gX9_figuresBySuchNumbers_X7_setFigure : GoodIn wsX9_figuresBySuchNumbers (wsV RX9 132 RX7 yX7_setFigure wsX7_setFigure) := goodIn_app (goodIn_of _ (by decide +kernel)) ggX9_figuresBySuchNumbers_X7_setFigure
set_option maxRecDepth 20000 in
theorem ggX9_figuresBySuchNumbers_X5_tellLosses : GoodIn wsX9_figuresBySuchNumbers wsX5_tellLosses := goodIn_r _ [31, 32, 33, 34, 35, 7, 36, 12, 11, 37, 38, 39, 40, 41, 42, 43, 44, 45, 46, 47, 9, 10, 48, 49, 50, 30, 51, 52, 53, 62, 63, 64, 65, 66, 67, 68, 69, 70] (by decide +kernel) (by decide +kernel)
set_option maxRecDepth 20000 in
theorem gX9_figuresBySuchNumbers_X5_tellLosses : GoodIn wsX9_figuresBySuchNumbers (wsV RX9 274 RX5 yX5_tellLosses wsX5_tellLosses) := goodIn_app (goodIn_of _ (by decide +kernel)) ggX9_figuresBySuchNumbers_X5_tellLosses
set_option maxRecDepth 20000 in
theorem ggX9_firstMisjudged_X7_has : GoodIn wsX9_firstMisjudged wsX7_has := goodIn_r _ [7, 8, 48, 49, 50, 51, 52, 53, 54] (by decide +kernel) (by decide +kernel)
set_option maxRecDepth 20000 in
theorem gX9_firstMisjudged_X7_has : GoodIn wsX9_firstMisjudged (wsV RX9 77 RX7 yX7_has wsX7_has) := goodIn_app (goodIn_of _ (by decide +kernel)) ggX9_firstMisjudged_X7_has
set_option maxRecDepth 20000 in
theorem ggX9_firstMisjudged_X4_daysUntilLost : GoodIn wsX9_firstMisjudged wsX4_daysUntilLost := goodIn_r _ [12, 13, 14, 15, 6, 16, 8, 17, 18, 19, 20, 21, 22, 23, 24, 25, 26, 27, 28, 29, 30, 48, 49, 50, 51, 52, 53, 54] (by decide +kernel) (by decide +kernel)
set_option maxRecDepth 20000 in
theorem gX9_firstMisjudged_X4_daysUntilLost : GoodIn wsX9_firstMisjudged (va_wsS RX9 144 yX4_daysUntilLost wsX4_daysUntilLost) := goodIn_app (goodIn_of _ (by decide +kernel)) ggX9_firstMisjudged_X4_daysUntilLost
set_option maxRecDepth 20000 in
theorem ggX9_firstMisjudged_X5_at : GoodIn wsX9_firstMisjudged wsX5_at := goodIn_r _ [35, 36, 37, 46, 47] (by decide +kernel) (by decide +kernel)
set_option maxRecDepth 20000 in
theorem gX9_firstMisjudged_X5_at : GoodIn wsX9_firstMisjudged (wsV RX9 278 RX5 yX5_at wsX5_at) := goodIn_app (goodIn_of _ (by decide +kernel)) ggX9_firstMisjudged_X5_at
set_option maxRecDepth 20000 in
theorem ggX10_nth_X10_has : GoodIn wsX10_nth wsX10_has := goodIn_r _ [4] (by decide +kernel) (by decide +kernel)
set_option maxRecDepth 20000 in
theorem gX10_nth_X10_has : GoodIn wsX10_nth (va_wsS RX10 52 yX10_has wsX10_has) := goodIn_app (goodIn_of _ (by decide +kernel)) ggX10_nth_X10_has
set_option maxRecDepth 20000 in
theorem ggX10_letter_X10_bound : GoodIn wsX10_letter wsX10_bound := goodIn_r _ [6] (by decide +kernel) (by decide +kernel)
set_option maxRecDepth 20000 in
theorem gX10_letter_X10_bound : GoodIn wsX10_letter (va_wsS RX10 56 yX10_bound wsX10_bound) := goodIn_app (goodIn_of _ (by decide +kernel)) ggX10_letter_X10_bound
set_option maxRecDepth 20000 in
theorem ggX10_letter_X10_no : GoodIn wsX10_letter wsX10_no := goodIn_r _ [10, 11, 12, 13, 14, 15, 16, 17, 18, 19, 20, 21, 22, 23, 24, 25, 26, 27, 28, 29, 30, 31, 32, 33, 34, 35, 36] (by decide +kernel) (by decide +kernel)
set_option maxRecDepth 20000 in
theorem gX10_letter_X10_no : GoodIn wsX10_letter (wsV RX10 63 RX10 yX10_no wsX10_no) := goodIn_app (goodIn_of _ (by decide +kernel)) ggX10_letter_X10_no
set_option maxRecDepth 20000 in
theorem ggX10_readsDigits_X10_next : GoodIn wsX10_readsDigits wsX10_next := goodIn_r _ [7, 1, 8, 9, 13, 14, 15, 16, 17, 18, 19, 20, 21, 22, 23, 24, 25, 26, 27, 28, 29, 30, 31, 32, 33, 34, 35, 36, 37] (by decide +kernel) (by decide +kernel)
set_option maxRecDepth 20000 in
theorem gX10_readsDigits_X10_next : GoodIn wsX10_readsDigits (wsV RX10 70 RX10 yX10_next wsX10_next) := goodIn_app (goodIn_of _ (by decide +kernel)) ggX10_readsDigits_X10_next
set_option maxRecDepth 20000 in
theorem ggX10_readsDigits_X10_isIn : GoodIn wsX10_readsDigits wsX10_isIn := goodIn_r _ [12] (by decide +kernel) (by decide +kernel)
set_option maxRecDepth 20000 in
theorem gX10_readsDigits_X10_isIn : GoodIn wsX10_readsDigits (va_wsS RX10 74 yX10_isIn wsX10_isIn) := goodIn_app (goodIn_of _ (by decide +kernel)) ggX10_readsDigits_X10_isIn
set_option maxRecDepth 20000 in
theorem ggX10_readsThing_X10_next : GoodIn wsX10_readsThing wsX10_next := goodIn_r _ [7, 2, 8, 9, 20, 21, 22, 23, 24, 25, 26, 27, 28, 29, 30, 31, 32, 33, 34, 35, 36, 37, 38, 39, 40, 41, 42, 43, 44] (by decide +kernel) (by decide +kernel)
set_option maxRecDepth 20000 in
theorem gX10_readsThing_X10_next : GoodIn wsX10_readsThing (wsV RX10 70 RX10 yX10_next wsX10_next) := goodIn_app (goodIn_of _ (by decide +kernel)) ggX10_readsThing_X10_next
set_option maxRecDepth 20000 in
theorem ggX10_readsThing_X10_kindOf : GoodIn wsX10_readsThing wsX10_kindOf := goodIn_r _ [12] (by decide +kernel) (by decide +kernel)
set_option maxRecDepth 20000 in
theorem gX10_readsThing_X10_kindOf : GoodIn wsX10_readsThing (va_wsS RX10 78 yX10_kindOf wsX10_kindOf) := goodIn_app (goodIn_of _ (by decide +kernel)) ggX10_readsThing_X10_kindOf
set_option maxRecDepth 20000 in
theorem ggX10_readsThing_X10_readsDigits : GoodIn wsX10_readsThing wsX10_readsDigits := goodIn_r _ [16, 2, 1, 3, 4, 5, 6, 7, 8, 9, 17, 18, 19, 20, 21, 22, 23, 24, 25, 26, 27, 28, 29, 30, 31, 32, 33, 34, 35, 36, 37, 38, 39, 40, 41, 42, 43, 44] (by decide +kernel) (by decide +kernel)
set_option maxRecDepth 20000 in
theorem gX10_readsThing_X10_readsDigits : GoodIn wsX10_readsThing (wsV RX10 81 RX10 yX10_readsDigits wsX10_readsDigits) := goodIn_app (goodIn_of _ (by decide +kernel)) ggX10_readsThing_X10_readsDigits
set_option maxRecDepth 20000 in
theorem ggX10_readsAll_X10_readsThing : GoodIn wsX10_readsAll wsX10_readsThing := goodIn_r _ [5, 6, 7, 8, 9, 10, 4, 11, 12, 13, 14, 15, 16, 17, 18, 19, 20, 21, 22, 23, 24, 25, 26, 27, 28, 29, 30, 31, 32, 33, 34, 35, 36, 37, 38, 39, 40, 41, 42, 43, 44, 45, 46, 47, 48] (by decide +kernel) (by decide +kernel)
set_option maxRecDepth 20000 in
theorem gX10_readsAll_X10_readsThing : GoodIn wsX10_readsAll (wsV RX10 84 RX10 yX10_readsThing wsX10_readsThing) := goodIn_app (goodIn_of _ (by decide +kernel)) ggX10_readsAll_X10_readsThing
set_option maxRecDepth 20000 in
theorem ggX10_readsAll_X10_readsDigits : GoodIn wsX10_readsAll wsX10_readsDigits := goodIn_r _ [20, 7, 6, 8, 9, 10, 4, 11, 12, 13, 21, 22, 23, 24, 25, 26, 27, 28, 29, 30, 31, 32, 33, 34, 35, 36, 37, 38, 39, 40, 41, 42, 43, 44, 45, 46, 47, 48] (by decide +kernel) (by decide +kernel)
set_option maxRecDepth 20000 in
theorem gX10_readsAll_X10_readsDigits : GoodIn wsX10_readsAll (wsV RX10 81 RX10 yX10_readsDigits wsX10_readsDigits) := goodIn_app (goodIn_of _ (by decide +kernel)) ggX10_readsAll_X10_readsDigits
set_option maxRecDepth 20000 in
theorem ggX10_statement_X10_next : GoodIn wsX10_statement wsX10_next := goodIn_r _ [9, 4, 10, 11, 31, 32, 33, 34, 35, 36, 37, 38, 39, 40, 41, 42, 43, 44, 45, 46, 47, 48, 49, 50, 51, 52, 53, 54, 55] (by decide +kernel) (by decide +kernel)
set_option maxRecDepth 20000 in
theorem gX10_statement_X10_next : GoodIn wsX10_statement (wsV RX10 70 RX10 yX10_next wsX10_next) := goodIn_app (goodIn_of _ (by decide +kernel)) ggX10_statement_X10_next
set_option maxRecDepth 20000 in
theorem ggX10_statement_X10_readsAll : GoodIn wsX10_statement wsX10_readsAll := goodIn_r _ [15, 16, 17, 18, 8, 19, 20, 4, 5, 6, 7, 9, 10, 11, 21, 22, 23, 24, 25, 26, 27, 28, 29, 30, 31, 32, 33, 34, 35, 36, 37, 38, 39, 40, 41, 42, 43, 44, 45, 46, 47, 48, 49, 50, 51, 52, 53, 54, 55] (by decide +kernel) (by decide +kernel)
set_option maxRecDepth 20000 in
theorem gX10_statement_X10_readsAll : GoodIn wsX10_statement (wsV RX10 91 RX10 yX10_readsAll wsX10_readsAll) := goodIn_app (goodIn_of _ (by decide +kernel)) ggX10_statement_X10_readsAll
set_option maxRecDepth 20000 in
theorem ggX10_comesCause_X10_isThing : GoodIn wsX10_comesCause wsX10_isThing := goodIn_r _ [6, 7, 8, 9, 10, 11, 12, 13, 14, 15, 16, 17, 18, 19, 20, 21, 22, 23, 24, 25, 26, 27, 28, 29, 30, 31, 32] (by decide +kernel) (by decide +kernel)
set_option maxRecDepth 20000 in
theorem gX10_comesCause_X10_isThing : GoodIn wsX10_comesCause (wsV RX10 100 RX10 yX10_isThing wsX10_isThing) := goodIn_app (goodIn_of _ (by decide +kernel)) ggX10_comesCause_X10_isThing
set_option maxRecDepth 20000 in
theorem ggX10_comesOf_X10_isThing : GoodIn wsX10_comesOf wsX10_isThing := goodIn_r _ [7, 8, 12, 13, 14, 15, 16, 17, 18, 19, 20, 21, 22, 23, 24, 25, 26, 27, 28, 29, 30, 31, 32, 33, 34, 35, 36] (by decide +kernel) (by decide +kernel)
set_option maxRecDepth 20000 in
theorem gX10_comesOf_X10_isThing : GoodIn wsX10_comesOf (wsV RX10 100 RX10 yX10_isThing wsX10_isThing) := goodIn_app (goodIn_of _ (by decide +kernel)) ggX10_comesOf_X10_isThing
set_option maxRecDepth 20000 in
theorem ggX10_comesOf_X10_has : GoodIn wsX10_comesOf wsX10_has := goodIn_r _ [11] (by decide +kernel) (by decide +kernel)
set_option maxRecDepth 20000 in
theorem gX10_comesOf_X10_has : GoodIn wsX10_comesOf (va_wsS RX10 52 yX10_has wsX10_has) := goodIn_app (goodIn_of _ (by decide +kernel)) ggX10_comesOf_X10_has
set_option maxRecDepth 20000 in
theorem ggX10_comesDays_X10_isIn : GoodIn wsX10_comesDays wsX10_isIn := goodIn_r _ [5] (by decide +kernel) (by decide +kernel)
set_option maxRecDepth 20000 in
theorem gX10_comesDays_X10_isIn : GoodIn wsX10_comesDays (va_wsS RX10 74 yX10_isIn wsX10_isIn) := goodIn_app (goodIn_of _ (by decide +kernel)) ggX10_comesDays_X10_isIn
set_option maxRecDepth 20000 in
theorem ggX10_comesDays_X10_goes : GoodIn wsX10_comesDays wsX10_goes := goodIn_r _ [9, 10, 11, 12, 4, 13, 1, 14, 15, 16, 17, 18, 19, 20, 21, 22, 23, 24, 25, 26, 27, 28, 29, 30, 31, 32, 33, 34, 35, 36, 37, 38, 39, 40, 41, 42, 43, 44, 45, 46, 47, 48, 49, 50, 51, 52, 53, 54] (by decide +kernel) (by decide +kernel)
set_option maxRecDepth 20000 in
theorem gX10_comesDays_X10_goes : GoodIn wsX10_comesDays (wsV RX10 106 RX10 yX10_goes wsX10_goes) := goodIn_app (goodIn_of _ (by decide +kernel)) ggX10_comesDays_X10_goes
set_option maxRecDepth 20000 in
theorem ggX10_comes_X10_comesThing : GoodIn wsX10_comes wsX10_comesThing := goodIn_r _ [7, 8, 9, 10, 11, 12, 13, 52, 53, 54, 55, 56, 57, 58, 59, 60, 61, 62, 63, 64, 65, 66, 67, 68, 69, 70, 71, 72, 73, 74, 75, 76] (by decide +kernel) (by decide +kernel)
set_option maxRecDepth 20000 in
theorem gX10_comes_X10_comesThing : GoodIn wsX10_comes (wsV RX10 110 RX10 yX10_comesThing wsX10_comesThing) := goodIn_app (goodIn_of _ (by decide +kernel)) ggX10_comes_X10_comesThing
set_option maxRecDepth 20000 in
theorem ggX10_comes_X10_comesCause : GoodIn wsX10_comes wsX10_comesCause := goodIn_r _ [17, 11, 18, 19, 20, 6, 21, 8, 52, 53, 54, 55, 56, 57, 58, 59, 60, 61, 62, 63, 64, 65, 66, 67, 68, 69, 70, 71, 72, 73, 74, 75, 76] (by decide +kernel) (by decide +kernel)
set_option maxRecDepth 20000 in
theorem gX10_comes_X10_comesCause : GoodIn wsX10_comes (wsV RX10 113 RX10 yX10_comesCause wsX10_comesCause) := goodIn_app (goodIn_of _ (by decide +kernel)) ggX10_comes_X10_comesCause
set_option maxRecDepth 20000 in
theorem ggX10_comes_X10_comesDays : GoodIn wsX10_comes wsX10_comesDays := goodIn_r _ [25, 26, 27, 28, 6, 29, 30, 31, 32, 33, 34, 35, 36, 37, 8, 12, 13, 11, 38, 39, 40, 41, 42, 43, 44, 45, 46, 47, 9, 10, 52, 53, 54, 55, 56, 57, 58, 59, 60, 61, 62, 63, 64, 65, 66, 67, 68, 69, 70, 71, 72, 73, 74, 75, 76] (by decide +kernel) (by decide +kernel)
set_option maxRecDepth 20000 in
theorem gX10_comes_X10_comesDays : GoodIn wsX10_comes (wsV RX10 116 RX10 yX10_comesDays wsX10_comesDays) := goodIn_app (goodIn_of _ (by decide +kernel)) ggX10_comes_X10_comesDays
set_option maxRecDepth 20000 in
theorem ggX10_comes_X10_comesOf : GoodIn wsX10_comes wsX10_comesOf := goodIn_r _ [51, 13, 12, 18, 19, 20, 6, 21, 8, 38, 39, 40, 52, 53, 54, 55, 56, 57, 58, 59, 60, 61, 62, 63, 64, 65, 66, 67, 68, 69, 70, 71, 72, 73, 74, 75, 76] (by decide +kernel) (by decide +kernel)
set_option maxRecDepth 20000 in
theorem gX10_comes_X10_comesOf : GoodIn wsX10_comes (wsV RX10 119 RX10 yX10_comesOf wsX10_comesOf) := goodIn_app (goodIn_of _ (by decide +kernel)) ggX10_comes_X10_comesOf
set_option maxRecDepth 20000 in
theorem ggX10_state_X10_statement : GoodIn wsX10_state wsX10_statement := goodIn_r _ [9, 10, 2, 4, 1, 11, 12, 13, 8, 14, 3, 15, 16, 17, 18, 19, 20, 21, 22, 23, 24, 25, 26, 27, 28, 29, 30, 31, 32, 33, 34, 99, 100, 101, 102, 103, 104, 105, 106, 107, 108, 109, 110, 111, 112, 113, 114, 115, 116, 117, 118, 119, 120, 121, 122, 123] (by decide +kernel) (by decide +kernel)
set_option maxRecDepth 20000 in
theorem gX10_state_X10_statement : GoodIn wsX10_state (wsV RX10 122 RX10 yX10_statement wsX10_statement) := goodIn_app (goodIn_of _ (by decide +kernel)) ggX10_state_X10_statement
set_option maxRecDepth 20000 in
theorem ggX10_state_X10_passesAll : GoodIn wsX10_state wsX10_passesAll := goodIn_r _ [38, 39, 40, 41, 42, 43, 44, 45, 46, 47, 48, 49, 50, 8, 51, 52, 53, 54, 55, 56, 99, 100, 101, 102, 103, 104, 105, 106, 107, 108, 109, 110, 111, 112, 113, 114, 115, 116, 117, 118, 119, 120, 121, 122, 123] (by decide +kernel) (by decide +kernel)
set_option maxRecDepth 20000 in
theorem gX10_state_X10_passesAll : GoodIn wsX10_state (wsV RX10 126 RX10 yX10_passesAll wsX10_passesAll) := goodIn_app (goodIn_of _ (by decide +kernel)) ggX10_state_X10_passesAll
set_option maxRecDepth 20000 in
theorem ggX10_state_X10_comes : GoodIn wsX10_state wsX10_comes := goodIn_r _ [60, 10, 24, 61, 62, 63, 8, 64, 44, 41, 42, 43, 46, 47, 65, 66, 67, 68, 69, 70, 71, 72, 73, 74, 75, 76, 45, 32, 33, 34, 77, 78, 79, 80, 81, 82, 83, 84, 85, 86, 87, 88, 89, 90, 91, 92, 93, 94, 95, 96, 97, 98, 99, 100, 101, 102, 103, 104, 105, 106, 107, 108, 109, 110, 111, 112, 113, 114, 115, 116, 117, 118, 119, 120, 121, 122, 123] (by decide +kernel) (by decide +kernel)
set_option maxRecDepth 20000 in
theorem gX10_state_X10_comes : GoodIn wsX10_state (wsV RX10 130 RX10 yX10_comes wsX10_comes) := goodIn_app (goodIn_of _ (by decide +kernel)) ggX10_state_X10_comes
set_option maxRecDepth 20000 in
theorem ggX10_passesAll_X10_passes : GoodIn wsX10_passesAll wsX10_passes := goodIn_r _ [14, 2, 15, 1, 20, 21, 22, 23, 24, 25, 26, 27, 28, 29, 30, 31, 32, 33, 34, 35, 36, 37, 38, 39, 40, 41, 42, 43, 44] (by decide +kernel) (by decide +kernel)
set_option maxRecDepth 20000 in
theorem gX10_passesAll_X10_passes : GoodIn wsX10_passesAll (wsV RX10 140 RX10 yX10_passes wsX10_passes) := goodIn_app (goodIn_of _ (by decide +kernel)) ggX10_passesAll_X10_passes

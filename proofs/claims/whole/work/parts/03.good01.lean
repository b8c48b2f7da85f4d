set_option maxRecDepth 20000 in
theorem ggX4_savedBy_J6_bitCount_0f7a4 : GoodIn wsX4_savedBy wsJ6_bitCount_0f7a4 := goodIn_r _ [19, 20, 21, 22] (by decide +kernel) (by decide +kernel)
set_option maxRecDepth 20000 in
theorem gX4_savedBy_J6_bitCount_0f7a4 : GoodIn wsX4_savedBy (va_wsS RX4 55 yJ6_bitCount_0f7a4 wsJ6_bitCount_0f7a4) := goodIn_app (goodIn_of _ (by decide +kernel)) ggX4_savedBy_J6_bitCount_0f7a4
set_option maxRecDepth 20000 in
theorem ggX5_add_X5_isFull : GoodIn wsX5_add wsX5_isFull := goodIn_r _ [7, 2, 8, 9] (by decide +kernel) (by decide +kernel)
set_option maxRecDepth 20000 in
theorem gX5_add_X5_isFull : GoodIn wsX5_add (wsV RX5 19 RX5 yX5_isFull wsX5_isFull) := goodIn_app (goodIn_of _ (by decide +kernel)) ggX5_add_X5_isFull
set_option maxRecDepth 20000 in
theorem ggX5_tellLosses_X7_behindDay : GoodIn wsX5_tellLosses wsX7_behindDay := goodIn_r _ [6, 7, 8, 9, 10, 11, 12, 13, 14, 15, 16, 17, 18, 5, 19, 20, 21, 29, 30, 31, 32, 33, 34, 35] (by decide +kernel) (by decide +kernel)
set_option maxRecDepth 20000 in
theorem gX5_tellLosses_X7_behindDay : GoodIn wsX5_tellLosses (wsV RX5 34 RX7 yX7_behindDay wsX7_behindDay) := goodIn_app (goodIn_of _ (by decide +kernel)) ggX5_tellLosses_X7_behindDay
set_option maxRecDepth 20000 in
theorem ggX5_tellLosses_X5_at : GoodIn wsX5_tellLosses wsX5_at := goodIn_r _ [26, 1, 27, 36, 37] (by decide +kernel) (by decide +kernel)
set_option maxRecDepth 20000 in
theorem gX5_tellLosses_X5_at : GoodIn wsX5_tellLosses (wsV RX5 38 RX5 yX5_at wsX5_at) := goodIn_app (goodIn_of _ (by decide +kernel)) ggX5_tellLosses_X5_at
set_option maxRecDepth 20000 in
theorem ggX5_tellLosses_J6_bitCount_0f7a4 : GoodIn wsX5_tellLosses wsJ6_bitCount_0f7a4 := goodIn_r _ [12, 13, 14, 15] (by decide +kernel) (by decide +kernel)
set_option maxRecDepth 20000 in
theorem gX5_tellLosses_J6_bitCount_0f7a4 : GoodIn wsX5_tellLosses (va_wsS RX5 42 yJ6_bitCount_0f7a4 wsJ6_bitCount_0f7a4) := goodIn_app (goodIn_of _ (by decide +kernel)) ggX5_tellLosses_J6_bitCount_0f7a4
set_option maxRecDepth 20000 in
theorem ggX6_firstNails_X7_withoutCauses : GoodIn wsX6_firstNails wsX7_withoutCauses := goodIn_r _ [5, 6, 7, 8, 9, 4, 10, 11, 12, 13, 14, 15, 23, 24, 25, 26, 27, 28, 29] (by decide +kernel) (by decide +kernel)
set_option maxRecDepth 20000 in
theorem gX6_firstNails_X7_withoutCauses : GoodIn wsX6_firstNails (wsV RX6 7 RX7 yX7_withoutCauses wsX7_withoutCauses) := goodIn_app (goodIn_of _ (by decide +kernel)) ggX6_firstNails_X7_withoutCauses
set_option maxRecDepth 20000 in
theorem ggX6_firstNails_J6_bitCount_0f7a4 : GoodIn wsX6_firstNails wsJ6_bitCount_0f7a4 := goodIn_r _ [19, 20, 21, 22] (by decide +kernel) (by decide +kernel)
set_option maxRecDepth 20000 in
theorem gX6_firstNails_J6_bitCount_0f7a4 : GoodIn wsX6_firstNails (va_wsS RX6 17 yJ6_bitCount_0f7a4 wsJ6_bitCount_0f7a4) := goodIn_app (goodIn_of _ (by decide +kernel)) ggX6_firstNails_J6_bitCount_0f7a4
set_option maxRecDepth 20000 in
theorem ggX6_blaming_X6_firstNails : GoodIn wsX6_blaming wsX6_firstNails := goodIn_r _ [4, 5, 6, 7, 8, 9, 10, 11, 12, 13, 14, 15, 16, 17, 18, 19, 20, 21, 22, 23, 24, 25, 26, 48, 49, 50, 51, 52, 53, 54] (by decide +kernel) (by decide +kernel)
set_option maxRecDepth 20000 in
theorem gX6_blaming_X6_firstNails : GoodIn wsX6_blaming (va_wsS RX6 25 yX6_firstNails wsX6_firstNails) := goodIn_app (goodIn_of _ (by decide +kernel)) ggX6_blaming_X6_firstNails
set_option maxRecDepth 20000 in
theorem ggX6_blaming_X6_blamingOf : GoodIn wsX6_blaming wsX6_blamingOf := goodIn_r _ [29, 30, 31, 32, 8, 33, 34, 35, 36, 37, 10, 15, 38, 21, 22, 23, 24, 25, 26, 39, 40, 41, 42, 43, 44, 27, 28, 3, 20, 45, 46, 47, 48, 49, 50, 51, 52, 53, 54] (by decide +kernel) (by decide +kernel)
set_option maxRecDepth 20000 in
theorem gX6_blaming_X6_blamingOf : GoodIn wsX6_blaming (va_wsS RX6 29 yX6_blamingOf wsX6_blamingOf) := goodIn_app (goodIn_of _ (by decide +kernel)) ggX6_blaming_X6_blamingOf
set_option maxRecDepth 20000 in
theorem ggX6_blamingOf_X7_behindDays : GoodIn wsX6_blamingOf wsX7_behindDays := goodIn_r _ [5, 6, 7, 8, 4, 9, 10, 11, 12, 13, 14, 15, 16, 17, 18, 19, 20, 21, 22, 23, 24, 32, 33, 34, 35, 36, 37, 38] (by decide +kernel) (by decide +kernel)
set_option maxRecDepth 20000 in
theorem gX6_blamingOf_X7_behindDays : GoodIn wsX6_blamingOf (wsV RX6 36 RX7 yX7_behindDays wsX7_behindDays) := goodIn_app (goodIn_of _ (by decide +kernel)) ggX6_blamingOf_X7_behindDays
set_option maxRecDepth 20000 in
theorem ggX6_blamingOf_X6_blamingOf : GoodIn wsX6_blamingOf wsX6_blamingOf := goodIn_r _ [0, 1, 2, 3, 4, 5, 6, 7, 8, 9, 10, 11, 12, 13, 14, 15, 16, 17, 18, 19, 20, 21, 22, 23, 24, 25, 26, 27, 28, 29, 30, 31, 32, 33, 34, 35, 36, 37, 38] (by decide +kernel) (by decide +kernel)
set_option maxRecDepth 20000 in
theorem gX6_blamingOf_X6_blamingOf : GoodIn wsX6_blamingOf (va_wsS RX6 29 yX6_blamingOf wsX6_blamingOf) := goodIn_app (goodIn_of _ (by decide +kernel)) ggX6_blamingOf_X6_blamingOf
set_option maxRecDepth 20000 in
theorem ggX6_blamingOf_J6_bitCount_0f7a4 : GoodIn wsX6_blamingOf wsJ6_bitCount_0f7a4 := goodIn_r _ [15, 16, 17, 18] (by decide +kernel) (by decide +kernel)
set_option maxRecDepth 20000 in
theorem gX6_blamingOf_J6_bitCount_0f7a4 : GoodIn wsX6_blamingOf (va_wsS RX6 17 yJ6_bitCount_0f7a4 wsJ6_bitCount_0f7a4) := goodIn_app (goodIn_of _ (by decide +kernel)) ggX6_blamingOf_J6_bitCount_0f7a4
set_option maxRecDepth 20000 in
theorem ggX6_blamingOf_X6_ofThese : GoodIn wsX6_blamingOf wsX6_ofThese := goodIn_r _ [31] (by decide +kernel) (by decide +kernel)
set_option maxRecDepth 20000 in
theorem gX6_blamingOf_X6_ofThese : GoodIn wsX6_blamingOf (va_wsS RX6 40 yX6_ofThese wsX6_ofThese) := goodIn_app (goodIn_of _ (by decide +kernel)) ggX6_blamingOf_X6_ofThese
set_option maxRecDepth 20000 in
theorem ggX7_kindOf_X7_has : GoodIn wsX7_kindOf wsX7_has := goodIn_r _ [6, 7, 8, 9, 10, 11, 12, 13, 14] (by decide +kernel) (by decide +kernel)
set_option maxRecDepth 20000 in
theorem gX7_kindOf_X7_has : GoodIn wsX7_kindOf (wsV RX7 34 RX7 yX7_has wsX7_has) := goodIn_app (goodIn_of _ (by decide +kernel)) ggX7_kindOf_X7_has
set_option maxRecDepth 20000 in
theorem ggX7_figureOf_X7_has : GoodIn wsX7_figureOf wsX7_has := goodIn_r _ [6, 7, 8, 9, 10, 11, 12, 13, 14] (by decide +kernel) (by decide +kernel)
set_option maxRecDepth 20000 in
theorem gX7_figureOf_X7_has : GoodIn wsX7_figureOf (wsV RX7 34 RX7 yX7_has wsX7_has) := goodIn_app (goodIn_of _ (by decide +kernel)) ggX7_figureOf_X7_has
set_option maxRecDepth 20000 in
theorem ggX7_causesOf_X7_has : GoodIn wsX7_causesOf wsX7_has := goodIn_r _ [6, 7, 8, 9, 10, 11, 12, 13, 14] (by decide +kernel) (by decide +kernel)
set_option maxRecDepth 20000 in
theorem gX7_causesOf_X7_has : GoodIn wsX7_causesOf (wsV RX7 34 RX7 yX7_has wsX7_has) := goodIn_app (goodIn_of _ (by decide +kernel)) ggX7_causesOf_X7_has
set_option maxRecDepth 20000 in
theorem ggX7_isLost_X7_has : GoodIn wsX7_isLost wsX7_has := goodIn_r _ [6, 7, 8, 9, 10, 11, 12, 13, 14] (by decide +kernel) (by decide +kernel)
set_option maxRecDepth 20000 in
theorem gX7_isLost_X7_has : GoodIn wsX7_isLost (wsV RX7 34 RX7 yX7_has wsX7_has) := goodIn_app (goodIn_of _ (by decide +kernel)) ggX7_isLost_X7_has
set_option maxRecDepth 20000 in
theorem ggX7_isGuarded_X7_has : GoodIn wsX7_isGuarded wsX7_has := goodIn_r _ [6, 7, 8, 9, 10, 11, 12, 13, 14] (by decide +kernel) (by decide +kernel)
set_option maxRecDepth 20000 in
theorem gX7_isGuarded_X7_has : GoodIn wsX7_isGuarded (wsV RX7 34 RX7 yX7_has wsX7_has) := goodIn_app (goodIn_of _ (by decide +kernel)) ggX7_isGuarded_X7_has
set_option maxRecDepth 20000 in
theorem ggX7_add_X7_isKind : GoodIn wsX7_add wsX7_isKind := goodIn_r _ [8] (by decide +kernel) (by decide +kernel)
set_option maxRecDepth 20000 in
theorem gX7_add_X7_isKind : GoodIn wsX7_add (va_wsS RX7 38 yX7_isKind wsX7_isKind) := goodIn_app (goodIn_of _ (by decide +kernel)) ggX7_add_X7_isKind
set_option maxRecDepth 20000 in
theorem ggX7_add_X7_isFigure : GoodIn wsX7_add wsX7_isFigure := goodIn_r _ [11] (by decide +kernel) (by decide +kernel)
set_option maxRecDepth 20000 in
theorem gX7_add_X7_isFigure : GoodIn wsX7_add (va_wsS RX7 41 yX7_isFigure wsX7_isFigure) := goodIn_app (goodIn_of _ (by decide +kernel)) ggX7_add_X7_isFigure
set_option maxRecDepth 20000 in
theorem ggX7_setKind_X7_has : GoodIn wsX7_setKind wsX7_has := goodIn_r _ [6, 7, 11, 12, 13, 14, 15, 16, 17] (by decide +kernel) (by decide +kernel)
set_option maxRecDepth 20000 in
theorem gX7_setKind_X7_has : GoodIn wsX7_setKind (wsV RX7 34 RX7 yX7_has wsX7_has) := goodIn_app (goodIn_of _ (by decide +kernel)) ggX7_setKind_X7_has
set_option maxRecDepth 20000 in
theorem ggX7_setKind_X7_isKind : GoodIn wsX7_setKind wsX7_isKind := goodIn_r _ [10] (by decide +kernel) (by decide +kernel)
set_option maxRecDepth 20000 in
theorem gX7_setKind_X7_isKind : GoodIn wsX7_setKind (va_wsS RX7 38 yX7_isKind wsX7_isKind) := goodIn_app (goodIn_of _ (by decide +kernel)) ggX7_setKind_X7_isKind
set_option maxRecDepth 20000 in
theorem ggX7_setFigure_X7_has : GoodIn wsX7_setFigure wsX7_has := goodIn_r _ [6, 7, 11, 12, 13, 14, 15, 16, 17] (by decide +kernel) (by decide +kernel)
set_option maxRecDepth 20000 in
theorem gX7_setFigure_X7_has : GoodIn wsX7_setFigure (wsV RX7 34 RX7 yX7_has wsX7_has) := goodIn_app (goodIn_of _ (by decide +kernel)) ggX7_setFigure_X7_has
set_option maxRecDepth 20000 in
theorem ggX7_setFigure_X7_isFigure : GoodIn wsX7_setFigure wsX7_isFigure := goodIn_r _ [10] (by decide +kernel) (by decide +kernel)
set_option maxRecDepth 20000 in
theorem gX7_setFigure_X7_isFigure : GoodIn wsX7_setFigure (va_wsS RX7 41 yX7_isFigure wsX7_isFigure) := goodIn_app (goodIn_of _ (by decide +kernel)) ggX7_setFigure_X7_isFigure
set_option maxRecDepth 20000 in
theorem ggX7_flipCause_X7_has : GoodIn wsX7_flipCause wsX7_has := goodIn_r _ [6, 7, 8, 9, 10, 11, 12, 13, 14] (by decide +kernel) (by decide +kernel)
set_option maxRecDepth 20000 in
theorem gX7_flipCause_X7_has : GoodIn wsX7_flipCause (wsV RX7 34 RX7 yX7_has wsX7_has) := goodIn_app (goodIn_of _ (by decide +kernel)) ggX7_flipCause_X7_has
set_option maxRecDepth 20000 in
theorem ggX7_lose_X7_has : GoodIn wsX7_lose wsX7_has := goodIn_r _ [6, 7, 13, 14, 15, 16, 17, 18, 19] (by decide +kernel) (by decide +kernel)
set_option maxRecDepth 20000 in
theorem gX7_lose_X7_has : GoodIn wsX7_lose (wsV RX7 34 RX7 yX7_has wsX7_has) := goodIn_app (goodIn_of _ (by decide +kernel)) ggX7_lose_X7_has
set_option maxRecDepth 20000 in
theorem ggX7_lose_X7_isGuarded : GoodIn wsX7_lose wsX7_isGuarded := goodIn_r _ [11, 12, 2, 3, 4, 5, 6, 7, 13, 14, 15, 16, 17, 18, 19] (by decide +kernel) (by decide +kernel)
set_option maxRecDepth 20000 in
theorem gX7_lose_X7_isGuarded : GoodIn wsX7_lose (wsV RX7 44 RX7 yX7_isGuarded wsX7_isGuarded) := goodIn_app (goodIn_of _ (by decide +kernel)) ggX7_lose_X7_isGuarded
set_option maxRecDepth 20000 in
theorem ggX7_mend_X7_has : GoodIn wsX7_mend wsX7_has := goodIn_r _ [6, 7, 8, 9, 10, 11, 12, 13, 14] (by decide +kernel) (by decide +kernel)
set_option maxRecDepth 20000 in
theorem gX7_mend_X7_has : GoodIn wsX7_mend (wsV RX7 34 RX7 yX7_has wsX7_has) := goodIn_app (goodIn_of _ (by decide +kernel)) ggX7_mend_X7_has
set_option maxRecDepth 20000 in
theorem ggX7_flipGuard_X7_has : GoodIn wsX7_flipGuard wsX7_has := goodIn_r _ [6, 7, 8, 9, 10, 11, 12, 13, 14] (by decide +kernel) (by decide +kernel)
set_option maxRecDepth 20000 in
theorem gX7_flipGuard_X7_has : GoodIn wsX7_flipGuard (wsV RX7 34 RX7 yX7_has wsX7_has) := goodIn_app (goodIn_of _ (by decide +kernel)) ggX7_flipGuard_X7_has
set_option maxRecDepth 20000 in
theorem ggX7_passDays_X7_behindDays : GoodIn wsX7_passDays wsX7_behindDays := goodIn_r _ [8, 9, 10, 11, 7, 12, 13, 14, 15, 16, 17, 18, 19, 20, 21, 22, 23, 24, 25, 26, 27, 28, 29, 30, 31, 32, 33, 34] (by decide +kernel) (by decide +kernel)
set_option maxRecDepth 20000 in
theorem gX7_passDays_X7_behindDays : GoodIn wsX7_passDays (wsV RX7 47 RX7 yX7_behindDays wsX7_behindDays) := goodIn_app (goodIn_of _ (by decide +kernel)) ggX7_passDays_X7_behindDays
set_option maxRecDepth 20000 in
theorem ggX7_behindDay_J6_bitCount_0f7a4 : GoodIn wsX7_behindDay wsJ6_bitCount_0f7a4 := goodIn_r _ [6, 7, 8, 9] (by decide +kernel) (by decide +kernel)
set_option maxRecDepth 20000 in
theorem gX7_behindDay_J6_bitCount_0f7a4 : GoodIn wsX7_behindDay (va_wsS RX7 51 yJ6_bitCount_0f7a4 wsJ6_bitCount_0f7a4) := goodIn_app (goodIn_of _ (by decide +kernel)) ggX7_behindDay_J6_bitCount_0f7a4
set_option maxRecDepth 20000 in
theorem ggX7_behindDay_X7_needed : GoodIn wsX7_behindDay wsX7_needed := goodIn_r _ [14, 15, 16, 17, 18, 19, 20, 21, 22, 23] (by decide +kernel) (by decide +kernel)
set_option maxRecDepth 20000 in
theorem gX7_behindDay_X7_needed : GoodIn wsX7_behindDay (wsV RX7 57 RX7 yX7_needed wsX7_needed) := goodIn_app (goodIn_of _ (by decide +kernel)) ggX7_behindDay_X7_needed
set_option maxRecDepth 20000 in
theorem ggX7_behindDays_X7_behindDay : GoodIn wsX7_behindDays wsX7_behindDay := goodIn_r _ [5, 6, 7, 8, 9, 10, 11, 12, 13, 14, 15, 16, 17, 4, 18, 19, 20, 21, 22, 23, 24, 25, 26, 27] (by decide +kernel) (by decide +kernel)
set_option maxRecDepth 20000 in
theorem gX7_behindDays_X7_behindDay : GoodIn wsX7_behindDays (wsV RX7 61 RX7 yX7_behindDay wsX7_behindDay) := goodIn_app (goodIn_of _ (by decide +kernel)) ggX7_behindDays_X7_behindDay
set_option maxRecDepth 20000 in
theorem ggX7_withoutCauses_X7_causesOf : GoodIn wsX7_withoutCauses wsX7_causesOf := goodIn_r _ [6, 7, 8, 9, 10, 5, 11, 1, 12, 13, 14, 15, 16, 17, 18] (by decide +kernel) (by decide +kernel)
set_option maxRecDepth 20000 in
theorem gX7_withoutCauses_X7_causesOf : GoodIn wsX7_withoutCauses (wsV RX7 64 RX7 yX7_causesOf wsX7_causesOf) := goodIn_app (goodIn_of _ (by decide +kernel)) ggX7_withoutCauses_X7_causesOf
set_option maxRecDepth 20000 in
theorem ggX7_open_X7_all : GoodIn wsX7_open wsX7_all := goodIn_r _ [7, 8, 9, 10, 11, 12, 13, 14, 15] (by decide +kernel) (by decide +kernel)
set_option maxRecDepth 20000 in
theorem gX7_open_X7_all : GoodIn wsX7_open (wsV RX7 67 RX7 yX7_all wsX7_all) := goodIn_app (goodIn_of _ (by decide +kernel)) ggX7_open_X7_all
set_option maxRecDepth 20000 in
theorem ggX7_openNails_X7_withoutCauses : GoodIn wsX7_openNails wsX7_withoutCauses := goodIn_r _ [5, 6, 7, 8, 9, 4, 10, 11, 12, 13, 14, 15, 26, 27, 28, 29, 30, 31, 32] (by decide +kernel) (by decide +kernel)
set_option maxRecDepth 20000 in
theorem gX7_openNails_X7_withoutCauses : GoodIn wsX7_openNails (wsV RX7 71 RX7 yX7_withoutCauses wsX7_withoutCauses) := goodIn_app (goodIn_of _ (by decide +kernel)) ggX7_openNails_X7_withoutCauses
set_option maxRecDepth 20000 in
theorem ggX7_openNails_X7_open : GoodIn wsX7_openNails wsX7_open := goodIn_r _ [19, 20, 21, 22, 23, 24, 4, 25, 6, 26, 27, 28, 29, 30, 31, 32] (by decide +kernel) (by decide +kernel)
set_option maxRecDepth 20000 in
theorem gX7_openNails_X7_open : GoodIn wsX7_openNails (wsV RX7 74 RX7 yX7_open wsX7_open) := goodIn_app (goodIn_of _ (by decide +kernel)) ggX7_openNails_X7_open
set_option maxRecDepth 20000 in
theorem ggX7_allCauses_X7_causesOf : GoodIn wsX7_allCauses wsX7_causesOf := goodIn_r _ [6, 7, 8, 9, 10, 5, 11, 1, 19, 20, 21, 22, 23, 24, 25] (by decide +kernel) (by decide +kernel)
set_option maxRecDepth 20000 in
theorem gX7_allCauses_X7_causesOf : GoodIn wsX7_allCauses (wsV RX7 64 RX7 yX7_causesOf wsX7_causesOf) := goodIn_app (goodIn_of _ (by decide +kernel)) ggX7_allCauses_X7_causesOf
set_option maxRecDepth 20000 in
theorem ggX7_allCauses_J6_bitCount_0f7a4 : GoodIn wsX7_allCauses wsJ6_bitCount_0f7a4 := goodIn_r _ [15, 16, 17, 18] (by decide +kernel) (by decide +kernel)
set_option maxRecDepth 20000 in
theorem gX7_allCauses_J6_bitCount_0f7a4 : GoodIn wsX7_allCauses (va_wsS RX7 51 yJ6_bitCount_0f7a4 wsJ6_bitCount_0f7a4) := goodIn_app (goodIn_of _ (by decide +kernel)) ggX7_allCauses_J6_bitCount_0f7a4
set_option maxRecDepth 20000 in
theorem ggX7_rootsOf_X7_causesOf : GoodIn wsX7_rootsOf wsX7_causesOf := goodIn_r _ [5, 6, 7, 8, 9, 4, 10, 11, 12, 13, 14, 15, 16, 17, 18] (by decide +kernel) (by decide +kernel)
set_option maxRecDepth 20000 in
theorem gX7_rootsOf_X7_causesOf : GoodIn wsX7_rootsOf (wsV RX7 64 RX7 yX7_causesOf wsX7_causesOf) := goodIn_app (goodIn_of _ (by decide +kernel)) ggX7_rootsOf_X7_causesOf

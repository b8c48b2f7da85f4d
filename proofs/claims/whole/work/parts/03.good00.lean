set_option maxRecDepth 20000 in
theorem ggX0_waysToLose_X0_lostByFinds : GoodIn wsX0_waysToLose wsX0_lostByFinds := goodIn_r _ [4, 5, 6, 7, 8, 9, 10, 11, 12, 13, 14, 15, 16, 17, 18, 19, 20, 21, 22, 23, 24, 30, 31, 32, 33, 34, 35, 36] (by decide +kernel) (by decide +kernel)
set_option maxRecDepth 20000 in
theorem gX0_waysToLose_X0_lostByFinds : GoodIn wsX0_waysToLose (va_wsS RX0 7 yX0_lostByFinds wsX0_lostByFinds) := goodIn_app (goodIn_of _ (by decide +kernel)) ggX0_waysToLose_X0_lostByFinds
set_option maxRecDepth 20000 in
theorem ggX0_waysToLose_J6_bitCount_0f7a4 : GoodIn wsX0_waysToLose wsJ6_bitCount_0f7a4 := goodIn_r _ [15, 16, 17, 18] (by decide +kernel) (by decide +kernel)
set_option maxRecDepth 20000 in
theorem gX0_waysToLose_J6_bitCount_0f7a4 : GoodIn wsX0_waysToLose (va_wsS RX0 13 yJ6_bitCount_0f7a4 wsJ6_bitCount_0f7a4) := goodIn_app (goodIn_of _ (by decide +kernel)) ggX0_waysToLose_J6_bitCount_0f7a4
set_option maxRecDepth 20000 in
theorem ggX0_waysToLose_X1_power : GoodIn wsX0_waysToLose wsX1_power := goodIn_r _ [29] (by decide +kernel) (by decide +kernel)
set_option maxRecDepth 20000 in
theorem gX0_waysToLose_X1_power : GoodIn wsX0_waysToLose (va_wsS RX0 19 yX1_power wsX1_power) := goodIn_app (goodIn_of _ (by decide +kernel)) ggX0_waysToLose_X1_power
set_option maxRecDepth 20000 in
theorem ggX0_lostByFinds_X7_behindDay : GoodIn wsX0_lostByFinds wsX7_behindDay := goodIn_r _ [5, 6, 7, 8, 9, 10, 11, 12, 13, 14, 15, 16, 17, 4, 18, 19, 20, 21, 22, 23, 24, 25, 26, 27] (by decide +kernel) (by decide +kernel)
set_option maxRecDepth 20000 in
theorem gX0_lostByFinds_X7_behindDay : GoodIn wsX0_lostByFinds (wsV RX0 37 RX7 yX7_behindDay wsX7_behindDay) := goodIn_app (goodIn_of _ (by decide +kernel)) ggX0_lostByFinds_X7_behindDay
set_option maxRecDepth 20000 in
theorem ggX1_part_X1_greatestCommon : GoodIn wsX1_part wsX1_greatestCommon := goodIn_r _ [4] (by decide +kernel) (by decide +kernel)
set_option maxRecDepth 20000 in
theorem gX1_part_X1_greatestCommon : GoodIn wsX1_part (va_wsS RX1 7 yX1_greatestCommon wsX1_greatestCommon) := goodIn_app (goodIn_of _ (by decide +kernel)) ggX1_part_X1_greatestCommon
set_option maxRecDepth 20000 in
theorem ggX2_firstSettled_X2_isSettled : GoodIn wsX2_firstSettled wsX2_isSettled := goodIn_r _ [4, 5, 6, 3, 7, 8, 9, 10, 11, 12, 13, 14, 15, 16, 17, 18, 19, 20, 21, 22, 23, 24, 25, 26, 27, 28, 29, 30, 31, 32, 33, 34, 35, 36, 37, 38, 39, 40, 41, 42] (by decide +kernel) (by decide +kernel)
set_option maxRecDepth 20000 in
theorem gX2_firstSettled_X2_isSettled : GoodIn wsX2_firstSettled (va_wsS RX2 9 yX2_isSettled wsX2_isSettled) := goodIn_app (goodIn_of _ (by decide +kernel)) ggX2_firstSettled_X2_isSettled
set_option maxRecDepth 20000 in
theorem ggX2_isSettled_X2_lostBy : GoodIn wsX2_isSettled wsX2_lostBy := goodIn_r _ [4, 5, 6, 7, 8, 9, 10, 11, 12, 13, 14, 15, 16, 17, 18, 19, 20, 21, 22, 23, 24, 25, 26, 27, 28, 29, 33, 34, 35, 36, 37, 38, 39] (by decide +kernel) (by decide +kernel)
set_option maxRecDepth 20000 in
theorem gX2_isSettled_X2_lostBy : GoodIn wsX2_isSettled (va_wsS RX2 15 yX2_lostBy wsX2_lostBy) := goodIn_app (goodIn_of _ (by decide +kernel)) ggX2_isSettled_X2_lostBy
set_option maxRecDepth 20000 in
theorem ggX2_isSettled_X2_price : GoodIn wsX2_isSettled wsX2_price := goodIn_r _ [32] (by decide +kernel) (by decide +kernel)
set_option maxRecDepth 20000 in
theorem gX2_isSettled_X2_price : GoodIn wsX2_isSettled (va_wsS RX2 19 yX2_price wsX2_price) := goodIn_app (goodIn_of _ (by decide +kernel)) ggX2_isSettled_X2_price
set_option maxRecDepth 20000 in
theorem ggX2_lostBy_X7_behindDays : GoodIn wsX2_lostBy wsX7_behindDays := goodIn_r _ [5, 6, 7, 8, 4, 9, 10, 11, 12, 13, 14, 15, 16, 17, 18, 19, 20, 21, 22, 23, 24, 26, 27, 28, 29, 30, 31, 32] (by decide +kernel) (by decide +kernel)
set_option maxRecDepth 20000 in
theorem gX2_lostBy_X7_behindDays : GoodIn wsX2_lostBy (wsV RX2 35 RX7 yX7_behindDays wsX7_behindDays) := goodIn_app (goodIn_of _ (by decide +kernel)) ggX2_lostBy_X7_behindDays
set_option maxRecDepth 20000 in
theorem ggX2_lostBy_J6_bitCount_0f7a4 : GoodIn wsX2_lostBy wsJ6_bitCount_0f7a4 := goodIn_r _ [15, 16, 17, 18] (by decide +kernel) (by decide +kernel)
set_option maxRecDepth 20000 in
theorem gX2_lostBy_J6_bitCount_0f7a4 : GoodIn wsX2_lostBy (va_wsS RX2 39 yJ6_bitCount_0f7a4 wsJ6_bitCount_0f7a4) := goodIn_app (goodIn_of _ (by decide +kernel)) ggX2_lostBy_J6_bitCount_0f7a4
set_option maxRecDepth 20000 in
theorem ggX3_lostInWars_X3_drawNails : GoodIn wsX3_lostInWars wsX3_drawNails := goodIn_r _ [6, 7, 8, 9, 10, 11, 12, 13, 14, 15, 16, 17, 18, 19, 20, 21, 22, 23, 24, 5, 25, 1, 26, 27, 28, 56, 57, 58, 59, 60, 61, 62, 55] (by decide +kernel) (by decide +kernel)
set_option maxRecDepth 20000 in
theorem gX3_lostInWars_X3_drawNails : GoodIn wsX3_lostInWars (wsV RX3 13 RX3 yX3_drawNails wsX3_drawNails) := goodIn_app (goodIn_of _ (by decide +kernel)) ggX3_lostInWars_X3_drawNails
set_option maxRecDepth 20000 in
theorem ggX3_lostInWars_X4_lostBehind : GoodIn wsX3_lostInWars wsX4_lostBehind := goodIn_r _ [32, 33, 34, 35, 10, 36, 37, 38, 39, 40, 12, 17, 41, 42, 43, 44, 45, 46, 47, 48, 49, 50, 51, 52, 53, 56, 57, 58, 59, 60, 61, 62] (by decide +kernel) (by decide +kernel)
set_option maxRecDepth 20000 in
theorem gX3_lostInWars_X4_lostBehind : GoodIn wsX3_lostInWars (va_wsS RX3 17 yX4_lostBehind wsX4_lostBehind) := goodIn_app (goodIn_of _ (by decide +kernel)) ggX3_lostInWars_X4_lostBehind
set_option maxRecDepth 20000 in
theorem ggX3_lostInWars_J6_bitCount_0f7a4 : GoodIn wsX3_lostInWars wsJ6_bitCount_0f7a4 := goodIn_r _ [44, 45, 46, 47] (by decide +kernel) (by decide +kernel)
set_option maxRecDepth 20000 in
theorem gX3_lostInWars_J6_bitCount_0f7a4 : GoodIn wsX3_lostInWars (va_wsS RX3 23 yJ6_bitCount_0f7a4 wsJ6_bitCount_0f7a4) := goodIn_app (goodIn_of _ (by decide +kernel)) ggX3_lostInWars_J6_bitCount_0f7a4
set_option maxRecDepth 20000 in
theorem ggX3_drawNails_X7_withoutCauses : GoodIn wsX3_drawNails wsX7_withoutCauses := goodIn_r _ [5, 6, 7, 8, 9, 4, 10, 11, 12, 13, 14, 15, 25, 26, 27, 28, 29, 30, 31] (by decide +kernel) (by decide +kernel)
set_option maxRecDepth 20000 in
theorem gX3_drawNails_X7_withoutCauses : GoodIn wsX3_drawNails (wsV RX3 29 RX7 yX7_withoutCauses wsX7_withoutCauses) := goodIn_app (goodIn_of _ (by decide +kernel)) ggX3_drawNails_X7_withoutCauses
set_option maxRecDepth 20000 in
theorem ggX3_drawNails_X3_drawBelow : GoodIn wsX3_drawNails wsX3_drawBelow := goodIn_r _ [20, 21, 22, 23, 24, 32] (by decide +kernel) (by decide +kernel)
set_option maxRecDepth 20000 in
theorem gX3_drawNails_X3_drawBelow : GoodIn wsX3_drawNails (wsV RX3 41 RX3 yX3_drawBelow wsX3_drawBelow) := goodIn_app (goodIn_of _ (by decide +kernel)) ggX3_drawNails_X3_drawBelow
set_option maxRecDepth 20000 in
theorem ggX4_lostBehind_X7_behindDays : GoodIn wsX4_lostBehind wsX7_behindDays := goodIn_r _ [5, 6, 7, 8, 4, 9, 10, 11, 12, 13, 14, 15, 16, 17, 18, 19, 20, 21, 22, 23, 24, 25, 26, 27, 28, 29, 30, 31] (by decide +kernel) (by decide +kernel)
set_option maxRecDepth 20000 in
theorem gX4_lostBehind_X7_behindDays : GoodIn wsX4_lostBehind (wsV RX4 18 RX7 yX7_behindDays wsX7_behindDays) := goodIn_app (goodIn_of _ (by decide +kernel)) ggX4_lostBehind_X7_behindDays
set_option maxRecDepth 20000 in
theorem ggX4_daysUntilLost_X7_behindDay : GoodIn wsX4_daysUntilLost wsX7_behindDay := goodIn_r _ [5, 6, 7, 8, 9, 10, 11, 12, 13, 14, 15, 16, 17, 4, 18, 19, 20, 21, 22, 23, 24, 25, 26, 27] (by decide +kernel) (by decide +kernel)
set_option maxRecDepth 20000 in
theorem gX4_daysUntilLost_X7_behindDay : GoodIn wsX4_daysUntilLost (wsV RX4 22 RX7 yX7_behindDay wsX7_behindDay) := goodIn_app (goodIn_of _ (by decide +kernel)) ggX4_daysUntilLost_X7_behindDay
set_option maxRecDepth 20000 in
theorem ggX4_firstToFall_X7_behindDay : GoodIn wsX4_firstToFall wsX7_behindDay := goodIn_r _ [5, 6, 7, 8, 9, 10, 11, 12, 13, 14, 15, 16, 17, 4, 18, 19, 20, 25, 26, 27, 28, 29, 30, 31] (by decide +kernel) (by decide +kernel)
set_option maxRecDepth 20000 in
theorem gX4_firstToFall_X7_behindDay : GoodIn wsX4_firstToFall (wsV RX4 22 RX7 yX7_behindDay wsX7_behindDay) := goodIn_app (goodIn_of _ (by decide +kernel)) ggX4_firstToFall_X7_behindDay
set_option maxRecDepth 20000 in
theorem ggX4_firstToFall_J6_numberOfTrailingZeros_0f7a4 : GoodIn wsX4_firstToFall wsJ6_numberOfTrailingZeros_0f7a4 := goodIn_r _ [23, 24] (by decide +kernel) (by decide +kernel)
set_option maxRecDepth 20000 in
theorem gX4_firstToFall_J6_numberOfTrailingZeros_0f7a4 : GoodIn wsX4_firstToFall (va_wsS RX4 29 yJ6_numberOfTrailingZeros_0f7a4 wsJ6_numberOfTrailingZeros_0f7a4) := goodIn_app (goodIn_of _ (by decide +kernel)) ggX4_firstToFall_J6_numberOfTrailingZeros_0f7a4
set_option maxRecDepth 20000 in
theorem ggX4_daysUntilStill_X7_behindDays : GoodIn wsX4_daysUntilStill wsX7_behindDays := goodIn_r _ [5, 6, 7, 8, 4, 9, 10, 11, 12, 13, 14, 15, 16, 17, 18, 19, 20, 21, 22, 23, 24, 26, 27, 28, 29, 30, 31, 32] (by decide +kernel) (by decide +kernel)
set_option maxRecDepth 20000 in
theorem gX4_daysUntilStill_X7_behindDays : GoodIn wsX4_daysUntilStill (wsV RX4 18 RX7 yX7_behindDays wsX7_behindDays) := goodIn_app (goodIn_of _ (by decide +kernel)) ggX4_daysUntilStill_X7_behindDays
set_option maxRecDepth 20000 in
theorem ggX4_daysUntilStill_X7_behindDay : GoodIn wsX4_daysUntilStill wsX7_behindDay := goodIn_r _ [9, 10, 11, 12, 13, 14, 15, 16, 17, 18, 19, 20, 21, 4, 22, 23, 24, 26, 27, 28, 29, 30, 31, 32] (by decide +kernel) (by decide +kernel)
set_option maxRecDepth 20000 in
theorem gX4_daysUntilStill_X7_behindDay : GoodIn wsX4_daysUntilStill (wsV RX4 22 RX7 yX7_behindDay wsX7_behindDay) := goodIn_app (goodIn_of _ (by decide +kernel)) ggX4_daysUntilStill_X7_behindDay
set_option maxRecDepth 20000 in
theorem ggX4_fewestToGuard_X7_isLost : GoodIn wsX4_fewestToGuard wsX7_isLost := goodIn_r _ [5, 6, 7, 8, 9, 4, 10, 11, 50, 51, 52, 53, 54, 55, 56] (by decide +kernel) (by decide +kernel)
set_option maxRecDepth 20000 in
theorem gX4_fewestToGuard_X7_isLost : GoodIn wsX4_fewestToGuard (wsV RX4 37 RX7 yX7_isLost wsX7_isLost) := goodIn_app (goodIn_of _ (by decide +kernel)) ggX4_fewestToGuard_X7_isLost
set_option maxRecDepth 20000 in
theorem ggX4_fewestToGuard_X4_lostBehind : GoodIn wsX4_fewestToGuard wsX4_lostBehind := goodIn_r _ [15, 16, 17, 18, 4, 19, 20, 21, 22, 23, 11, 24, 25, 26, 27, 28, 29, 30, 31, 32, 33, 34, 35, 36, 37, 50, 51, 52, 53, 54, 55, 56] (by decide +kernel) (by decide +kernel)
set_option maxRecDepth 20000 in
theorem gX4_fewestToGuard_X4_lostBehind : GoodIn wsX4_fewestToGuard (va_wsS RX4 41 yX4_lostBehind wsX4_lostBehind) := goodIn_app (goodIn_of _ (by decide +kernel)) ggX4_fewestToGuard_X4_lostBehind
set_option maxRecDepth 20000 in
theorem ggX4_fewestToGuard_X7_open : GoodIn wsX4_fewestToGuard wsX7_open := goodIn_r _ [41, 6, 42, 43, 44, 45, 4, 46, 11, 50, 51, 52, 53, 54, 55, 56] (by decide +kernel) (by decide +kernel)
set_option maxRecDepth 20000 in
theorem gX4_fewestToGuard_X7_open : GoodIn wsX4_fewestToGuard (wsV RX4 48 RX7 yX7_open wsX7_open) := goodIn_app (goodIn_of _ (by decide +kernel)) ggX4_fewestToGuard_X7_open
set_option maxRecDepth 20000 in
theorem ggX4_fewestToGuard_X4_lostIfGuarded : GoodIn wsX4_fewestToGuard wsX4_lostIfGuarded := goodIn_r _ [49, 16, 17, 18, 4, 19, 20, 21, 22, 23, 11, 24, 25, 26, 27, 28, 29, 30, 31, 32, 33, 34, 35, 36, 37, 50, 51, 52, 53, 54, 55, 56] (by decide +kernel) (by decide +kernel)
set_option maxRecDepth 20000 in
theorem gX4_fewestToGuard_X4_lostIfGuarded : GoodIn wsX4_fewestToGuard (va_wsS RX4 52 yX4_lostIfGuarded wsX4_lostIfGuarded) := goodIn_app (goodIn_of _ (by decide +kernel)) ggX4_fewestToGuard_X4_lostIfGuarded
set_option maxRecDepth 20000 in
theorem ggX4_lostIfGuarded_X7_behindDays : GoodIn wsX4_lostIfGuarded wsX7_behindDays := goodIn_r _ [5, 6, 7, 8, 4, 9, 10, 11, 12, 13, 14, 15, 16, 17, 18, 19, 20, 21, 22, 23, 24, 25, 26, 27, 28, 29, 30, 31] (by decide +kernel) (by decide +kernel)
set_option maxRecDepth 20000 in
theorem gX4_lostIfGuarded_X7_behindDays : GoodIn wsX4_lostIfGuarded (wsV RX4 18 RX7 yX7_behindDays wsX7_behindDays) := goodIn_app (goodIn_of _ (by decide +kernel)) ggX4_lostIfGuarded_X7_behindDays
set_option maxRecDepth 20000 in
theorem ggX4_bestToGuard_X4_lostBehind : GoodIn wsX4_bestToGuard wsX4_lostBehind := goodIn_r _ [4, 5, 6, 7, 8, 9, 10, 11, 12, 13, 14, 15, 16, 17, 18, 19, 20, 21, 22, 23, 24, 25, 26, 27, 28, 43, 44, 45, 46, 47, 48, 49] (by decide +kernel) (by decide +kernel)
set_option maxRecDepth 20000 in
theorem gX4_bestToGuard_X4_lostBehind : GoodIn wsX4_bestToGuard (va_wsS RX4 41 yX4_lostBehind wsX4_lostBehind) := goodIn_app (goodIn_of _ (by decide +kernel)) ggX4_bestToGuard_X4_lostBehind
set_option maxRecDepth 20000 in
theorem ggX4_bestToGuard_J6_bitCount_0f7a4 : GoodIn wsX4_bestToGuard wsJ6_bitCount_0f7a4 := goodIn_r _ [19, 20, 21, 22] (by decide +kernel) (by decide +kernel)
set_option maxRecDepth 20000 in
theorem gX4_bestToGuard_J6_bitCount_0f7a4 : GoodIn wsX4_bestToGuard (va_wsS RX4 55 yJ6_bitCount_0f7a4 wsJ6_bitCount_0f7a4) := goodIn_app (goodIn_of _ (by decide +kernel)) ggX4_bestToGuard_J6_bitCount_0f7a4
set_option maxRecDepth 20000 in
theorem ggX4_bestToGuard_X7_open : GoodIn wsX4_bestToGuard wsX7_open := goodIn_r _ [33, 34, 35, 36, 37, 38, 8, 39, 14, 43, 44, 45, 46, 47, 48, 49] (by decide +kernel) (by decide +kernel)
set_option maxRecDepth 20000 in
theorem gX4_bestToGuard_X7_open : GoodIn wsX4_bestToGuard (wsV RX4 48 RX7 yX7_open wsX7_open) := goodIn_app (goodIn_of _ (by decide +kernel)) ggX4_bestToGuard_X7_open
set_option maxRecDepth 20000 in
theorem ggX4_bestToGuard_X4_lostIfGuarded : GoodIn wsX4_bestToGuard wsX4_lostIfGuarded := goodIn_r _ [42, 5, 6, 7, 8, 9, 10, 11, 12, 13, 14, 15, 16, 17, 18, 19, 20, 21, 22, 23, 24, 25, 26, 27, 28, 43, 44, 45, 46, 47, 48, 49] (by decide +kernel) (by decide +kernel)
set_option maxRecDepth 20000 in
theorem gX4_bestToGuard_X4_lostIfGuarded : GoodIn wsX4_bestToGuard (va_wsS RX4 52 yX4_lostIfGuarded wsX4_lostIfGuarded) := goodIn_app (goodIn_of _ (by decide +kernel)) ggX4_bestToGuard_X4_lostIfGuarded
set_option maxRecDepth 20000 in
theorem ggX4_soonestNail_X4_daysUntilLost : GoodIn wsX4_soonestNail wsX4_daysUntilLost := goodIn_r _ [4, 5, 6, 7, 8, 9, 10, 11, 12, 13, 14, 15, 16, 17, 18, 19, 20, 21, 22, 23, 24, 51, 52, 53, 54, 55, 56, 57] (by decide +kernel) (by decide +kernel)
set_option maxRecDepth 20000 in
theorem gX4_soonestNail_X4_daysUntilLost : GoodIn wsX4_soonestNail (va_wsS RX4 58 yX4_daysUntilLost wsX4_daysUntilLost) := goodIn_app (goodIn_of _ (by decide +kernel)) ggX4_soonestNail_X4_daysUntilLost
set_option maxRecDepth 20000 in
theorem ggX4_soonestNail_X7_openNails : GoodIn wsX4_soonestNail wsX7_openNails := goodIn_r _ [28, 29, 30, 31, 8, 32, 10, 33, 34, 35, 36, 11, 37, 38, 39, 40, 41, 42, 43, 44, 45, 46, 47, 48, 49, 50, 51, 52, 53, 54, 55, 56, 57] (by decide +kernel) (by decide +kernel)
set_option maxRecDepth 20000 in
theorem gX4_soonestNail_X7_openNails : GoodIn wsX4_soonestNail (wsV RX4 61 RX7 yX7_openNails wsX7_openNails) := goodIn_app (goodIn_of _ (by decide +kernel)) ggX4_soonestNail_X7_openNails
set_option maxRecDepth 20000 in
theorem ggX4_worstNail_X4_lostBehind : GoodIn wsX4_worstNail wsX4_lostBehind := goodIn_r _ [4, 5, 6, 7, 8, 9, 10, 11, 12, 13, 14, 15, 16, 17, 18, 19, 20, 21, 22, 23, 24, 25, 26, 27, 28, 56, 57, 58, 59, 60, 61, 62] (by decide +kernel) (by decide +kernel)
set_option maxRecDepth 20000 in
theorem gX4_worstNail_X4_lostBehind : GoodIn wsX4_worstNail (va_wsS RX4 41 yX4_lostBehind wsX4_lostBehind) := goodIn_app (goodIn_of _ (by decide +kernel)) ggX4_worstNail_X4_lostBehind
set_option maxRecDepth 20000 in
theorem ggX4_worstNail_J6_bitCount_0f7a4 : GoodIn wsX4_worstNail wsJ6_bitCount_0f7a4 := goodIn_r _ [19, 20, 21, 22] (by decide +kernel) (by decide +kernel)
set_option maxRecDepth 20000 in
theorem gX4_worstNail_J6_bitCount_0f7a4 : GoodIn wsX4_worstNail (va_wsS RX4 55 yJ6_bitCount_0f7a4 wsJ6_bitCount_0f7a4) := goodIn_app (goodIn_of _ (by decide +kernel)) ggX4_worstNail_J6_bitCount_0f7a4
set_option maxRecDepth 20000 in
theorem ggX4_worstNail_X7_openNails : GoodIn wsX4_worstNail wsX7_openNails := goodIn_r _ [33, 34, 35, 36, 8, 37, 14, 38, 39, 40, 41, 15, 42, 43, 44, 45, 46, 47, 48, 49, 50, 51, 52, 53, 54, 55, 56, 57, 58, 59, 60, 61, 62] (by decide +kernel) (by decide +kernel)
set_option maxRecDepth 20000 in
theorem gX4_worstNail_X7_openNails : GoodIn wsX4_worstNail (wsV RX4 61 RX7 yX7_openNails wsX7_openNails) := goodIn_app (goodIn_of _ (by decide +kernel)) ggX4_worstNail_X7_openNails
set_option maxRecDepth 20000 in
theorem ggX4_fewestToLose_X7_openNails : GoodIn wsX4_fewestToLose wsX7_openNails := goodIn_r _ [5, 6, 7, 8, 4, 9, 10, 11, 12, 13, 14, 15, 16, 17, 18, 19, 20, 21, 22, 23, 24, 25, 26, 27, 28, 29, 53, 54, 55, 56, 57, 58, 59] (by decide +kernel) (by decide +kernel)
set_option maxRecDepth 20000 in
theorem gX4_fewestToLose_X7_openNails : GoodIn wsX4_fewestToLose (wsV RX4 61 RX7 yX7_openNails wsX7_openNails) := goodIn_app (goodIn_of _ (by decide +kernel)) ggX4_fewestToLose_X7_openNails
set_option maxRecDepth 20000 in
theorem ggX4_fewestToLose_X7_all : GoodIn wsX4_fewestToLose wsX7_all := goodIn_r _ [29, 10, 53, 54, 55, 56, 57, 58, 59] (by decide +kernel) (by decide +kernel)
set_option maxRecDepth 20000 in
theorem gX4_fewestToLose_X7_all : GoodIn wsX4_fewestToLose (wsV RX4 64 RX7 yX7_all wsX7_all) := goodIn_app (goodIn_of _ (by decide +kernel)) ggX4_fewestToLose_X7_all
set_option maxRecDepth 20000 in
theorem ggX4_fewestToLose_J6_bitCount_0f7a4 : GoodIn wsX4_fewestToLose wsJ6_bitCount_0f7a4 := goodIn_r _ [34, 35, 36, 37] (by decide +kernel) (by decide +kernel)
set_option maxRecDepth 20000 in
theorem gX4_fewestToLose_J6_bitCount_0f7a4 : GoodIn wsX4_fewestToLose (va_wsS RX4 55 yJ6_bitCount_0f7a4 wsJ6_bitCount_0f7a4) := goodIn_app (goodIn_of _ (by decide +kernel)) ggX4_fewestToLose_J6_bitCount_0f7a4
set_option maxRecDepth 20000 in
theorem ggX4_fewestToLose_X4_daysUntilLost : GoodIn wsX4_fewestToLose wsX4_daysUntilLost := goodIn_r _ [41, 42, 43, 44, 4, 45, 10, 15, 46, 32, 33, 34, 35, 36, 37, 47, 48, 49, 50, 51, 52, 53, 54, 55, 56, 57, 58, 59] (by decide +kernel) (by decide +kernel)
set_option maxRecDepth 20000 in
theorem gX4_fewestToLose_X4_daysUntilLost : GoodIn wsX4_fewestToLose (va_wsS RX4 58 yX4_daysUntilLost wsX4_daysUntilLost) := goodIn_app (goodIn_of _ (by decide +kernel)) ggX4_fewestToLose_X4_daysUntilLost
set_option maxRecDepth 20000 in
theorem ggX4_savedBy_X4_lostBehind : GoodIn wsX4_savedBy wsX4_lostBehind := goodIn_r _ [4, 5, 6, 7, 8, 9, 10, 11, 12, 13, 14, 15, 16, 17, 18, 19, 20, 21, 22, 23, 24, 25, 26, 27, 28, 30, 31, 32, 33, 34, 35, 36] (by decide +kernel) (by decide +kernel)
set_option maxRecDepth 20000 in
theorem gX4_savedBy_X4_lostBehind : GoodIn wsX4_savedBy (va_wsS RX4 41 yX4_lostBehind wsX4_lostBehind) := goodIn_app (goodIn_of _ (by decide +kernel)) ggX4_savedBy_X4_lostBehind
